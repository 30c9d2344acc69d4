set_option maxHeartbeats 4000000 in
set_option maxRecDepth 100000 in
theorem r_day (l : Launch) (G : fa_G) (n : Nat) (hn : 406 ≤ n) (v : fa_V) (r : fa_R) (hM : fa_RM r) (hS : fa_MS (v 398)) : fa_MI l G n yX7_day cX7_day 2 (some .int) 7 [.ref (fa_B G + (397))] v r (fa_voi r (fun x v1 => ((fa_MS (v1 398)) ∧ (fa_f2 v v1) ∧ (∀ A, fb_okA A → A.g 7 < nI 9999 → fb_mA (v 398) A → x = (fb_dayA A).1 ∧ fb_mA (v1 398) (fb_dayA A).2)) ∧ (fa_fr (398) (403) v v1))) := by
  refine fa_startI (by decide +kernel) (Nat.le_of_ble_eq_true rfl) (fun p e s m args below meth c ls Q CX hl HX RET => ?_)
  have hl : lv_has ls 2 [(0, .ref (fa_B G + (397)))] := hl
  have hx := CX.1.1
  have hb := CX.1.2.1
  obtain ⟨n4, en4⟩ : ∃ m, m = fa_N (v 398 14) := ⟨_, rfl⟩
  obtain ⟨hn4, g4⟩ := hS.n4 en4
  obtain ⟨n5, en5⟩ : ∃ m, m = fa_N (v 398 15) := ⟨_, rfl⟩
  obtain ⟨hn5, g5⟩ := hS.n5 en5
  obtain ⟨n6, en6⟩ : ∃ m, m = fa_N (v 398 16) := ⟨_, rfl⟩
  obtain ⟨hn6, g6⟩ := hS.n6 en6
  refine lv_aload_n hx hb dX7_day_0 rfl (lv_at hl 0 rfl) ?_
  refine fa_getr (k := 397) (j := 398) CX HX fl_X7_7 (by omega) rfl rfl hM.1 dX7_day_1 ?_
  refine lv_bipush (v := nI (7)) hx hb dX7_day_4 (by decide) ?_
  refine lv_dup2_11 hx hb dX7_day_6 rfl rfl ?_
  refine fa_iald (k := 398) (j := 7) CX HX (by omega) rfl (by omega) (by first | decide | assumption) dX7_day_7 ?_
  refine lv_iconst (v := nI (1)) hx hb dX7_day_8 (by decide) ?_
  refine lv_iadd hx hb dX7_day_9 ?_
  refine fa_iast (k := 398) (j := 7) CX HX (by omega) rfl (by omega) (by first | decide | assumption) dX7_day_10 (fun H locs v1956 e1957 HX1958 => ?_)
  refine lv_aload_n hx hb dX7_day_11 rfl (lv_at hl 0 rfl) ?_
  refine fa_callViu (As := []) (rest := []) CX HX1958 (r_reserved l G n hn v1956 r hM (show fa_MS (v1956 398) from by rw [e1957]; exact fa_MS.u hS (fa_ok.o (by omega) (by omega) (by omega) (fun p hp => by omega))) ) ln_X7_79 (by omega) rfl rfl rfl rfl (Nat.le_of_ble_eq_true rfl) hl.1 ⟨Nat.le_of_ble_eq_true rfl, Nat.le_of_ble_eq_true rfl⟩ ⟨Nat.le_refl _, Nat.le_refl _⟩ dX7_day_12 (fun x1960 v1961 H locs h1959 HX1962 => ?_)
  have hS_v1961 := h1959.1.1
  have h_reserved := h1959.1.2.2
  refine lv_istore_n (lv' := [(1, .int (x1960)), (0, .ref (fa_B G + (397)))]) hx hb dX7_day_15 rfl hl (by decide) rfl (fun ls hl => ?_)
  refine lv_aload_n hx hb dX7_day_16 rfl (lv_at hl 1 rfl) ?_
  refine fa_getr (k := 397) (j := 398) CX HX1962 fl_X7_7 (by omega) rfl rfl hM.1 dX7_day_17 ?_
  refine lv_bipush (v := nI (7)) hx hb dX7_day_20 (by decide) ?_
  refine fa_iald (k := 398) (j := 7) CX HX1962 (by omega) rfl (by omega) (by first | decide | assumption) dX7_day_22 ?_
  refine lv_bipush (v := nI (90)) hx hb dX7_day_23 (by decide) ?_
  refine lv_irem hx hb dX7_day_25 (by decide) ?_
  refine lv_if_ne (tgt := 36) hx hb dX7_day_26 (by decide) (fun c_26 => ?_) (fun c_26 => ?_)
  · refine lv_iconst (v := nI (0)) hx hb dX7_day_36 (by decide) ?_
    exact RET _ _ _ _ _ _ _ HX1962 dX7_day_37 (⟨rfl, ⟨⟨hS_v1961, (fa_f2.tr (by rw [e1957]; exact fa_f2.u fa_f2.rf (by decide)) (fa_f2.of398 h1959.2)), (fun A hok hl hc => by (have z := fb_m_morn hok hl hc e1957 h_reserved; rw [fb_dayA_0 (by rw [← z.2.2]; exact c_26)]; exact ⟨rfl, z.1⟩))⟩, (fa_fr.tr (by rw [e1957]; exact fa_fr.u fa_fr.rf (by omega)) (fa_fr.wide h1959.2 (by omega) (by omega)))⟩⟩)
  · refine lv_aload_n hx hb dX7_day_29 rfl (lv_at hl 1 rfl) ?_
    refine fa_callViu (As := []) (rest := []) CX HX1962 (r_burning l G n hn v1961 r hM hS_v1961 ) ln_X7_83 (by omega) rfl rfl rfl rfl (Nat.le_of_ble_eq_true rfl) hl.1 ⟨Nat.le_of_ble_eq_true rfl, Nat.le_of_ble_eq_true rfl⟩ ⟨Nat.le_refl _, Nat.le_refl _⟩ dX7_day_30 (fun x1964 v1965 H locs h1963 HX1966 => ?_)
    have hS_v1965 := h1963.1.1
    have h_burning := h1963.1.2.2.2
    refine lv_goto (tgt := 37) hx hb dX7_day_33 (by decide) ?_
    exact RET _ _ _ _ _ _ _ HX1966 dX7_day_37 (⟨rfl, ⟨⟨hS_v1965, (fa_f2.tr (fa_f2.tr (by rw [e1957]; exact fa_f2.u fa_f2.rf (by decide)) (fa_f2.of398 h1959.2)) h1963.1.2.2.1), (fun A hok hl hc => by (have z := fb_m_morn hok hl hc e1957 h_reserved; rw [fb_dayA_1 (by rw [← z.2.2]; first | exact c_26 | exact Decidable.not_not.mp c_26)]; exact h_burning _ z.2.1 z.1))⟩, (fa_fr.tr (fa_fr.tr (by rw [e1957]; exact fa_fr.u fa_fr.rf (by omega)) (fa_fr.wide h1959.2 (by omega) (by omega))) (fa_fr.wide h1963.2 (by omega) (by omega)))⟩⟩)
/-! A FILE COMES, in the reference's row -/
theorem fb_m_zr {v w w1 : fa_V} {q k : Nat} (h : ∀ i, w 398 i = if q ≤ i ∧ i < q + k then nI 0 else v 398 i) (e : w1 = fa_u w 398 (q + k) (nI 0)) : ∀ i, w1 398 i = if q ≤ i ∧ i < q + (k + 1) then nI 0 else v 398 i := fun i => by
  by_cases z : i = q + k
  · rw [if_pos (by omega), z, e, fa_u_s]
  · rw [e, fa_u_n _ _ (fun y => z y.2), h i]
    by_cases y : q ≤ i ∧ i < q + k
    · rw [if_pos y, if_pos (by omega)]
    · rw [if_neg y, if_neg (by omega)]
theorem fb_m_new {v w v1 v2 v3 v4 v5 v6 v7 v8 : fa_V} {A : fb_At} {a1 a2 : Int32} {n4 ka kk : Nat} (hc : fb_mA (v 398) A) (hn : A.n < 24) (e0 : n4 = A.n) (ek : a1 = nI ka) (hkk : kk = 15)
    (hw : ∀ i, w 398 i = if 17 + 15 * n4 ≤ i ∧ i < 17 + 15 * n4 + kk then nI 0 else v 398 i)
    (e1 : v1 = fa_u w 398 (17 + 15 * n4) (w 398 8)) (e2 : v2 = fa_u v1 398 (17 + 15 * n4 + 1) (nI ka)) (e3 : v3 = fa_u v2 398 (17 + 15 * n4 + 2) a2) (e4 : v4 = fa_u v3 398 (17 + 15 * n4 + 3) (v3 398 7))
    (e5 : v5 = fa_u v4 398 (17 + 15 * n4 + 4) (-1 : Int32)) (e6 : v6 = fa_u v5 398 (17 + 15 * n4 + 6) (-1 : Int32)) (e7 : v7 = fa_u v6 398 14 (nI (n4 + 1))) (e8 : v8 = fa_u v7 398 8 (v7 398 8 + nI 1)) :
    v8 398 8 - nI 1 = A.g 8 ∧ fb_mA (v8 398) (fb_s1 A.g 8 (A.g 8 + nI 1), (A.n + 1, fb_newF A a1 a2), A.q, (A.m, A.T)) := by
  subst e0
  subst hkk
  obtain ⟨m, em⟩ : ∃ m, m = A.n := ⟨_, rfl⟩
  rw [← em] at hw e1 e2 e3 e4 e5 e6 e7 hn
  have b1 : ∀ i, ¬ i = 17 + 15 * m → v1 398 i = w 398 i := fun i h => by rw [e1]; exact fa_u_n _ _ (fun z => h z.2)
  have b2 : ∀ i, ¬ i = 17 + 15 * m + 1 → v2 398 i = v1 398 i := fun i h => by rw [e2]; exact fa_u_n _ _ (fun z => h z.2)
  have b3 : ∀ i, ¬ i = 17 + 15 * m + 2 → v3 398 i = v2 398 i := fun i h => by rw [e3]; exact fa_u_n _ _ (fun z => h z.2)
  have b4 : ∀ i, ¬ i = 17 + 15 * m + 3 → v4 398 i = v3 398 i := fun i h => by rw [e4]; exact fa_u_n _ _ (fun z => h z.2)
  have b5 : ∀ i, ¬ i = 17 + 15 * m + 4 → v5 398 i = v4 398 i := fun i h => by rw [e5]; exact fa_u_n _ _ (fun z => h z.2)
  have b6 : ∀ i, ¬ i = 17 + 15 * m + 6 → v6 398 i = v5 398 i := fun i h => by rw [e6]; exact fa_u_n _ _ (fun z => h z.2)
  have b7 : ∀ i, ¬ i = 14 → v7 398 i = v6 398 i := fun i h => by rw [e7]; exact fa_u_n _ _ (fun z => h z.2)
  have b8 : ∀ i, ¬ i = 8 → v8 398 i = v7 398 i := fun i h => by rw [e8]; exact fa_u_n _ _ (fun z => h z.2)
  have lo7 : ∀ i, ¬ (17 + 15 * m ≤ i ∧ i < 17 + 15 * m + 15) → ¬ i = 14 → v7 398 i = v 398 i := fun i h h14 => by
    rw [b7 i h14, b6 i (by omega), b5 i (by omega), b4 i (by omega), b3 i (by omega), b2 i (by omega), b1 i (by omega), hw, if_neg h]
  have lo : ∀ i, ¬ (17 + 15 * m ≤ i ∧ i < 17 + 15 * m + 15) → ¬ i = 14 → ¬ i = 8 → v8 398 i = v 398 i := fun i h h14 h8 => by
    rw [b8 i h8]; exact lo7 i h h14
  have g8 : v8 398 8 = A.g 8 + nI 1 := by
    rw [e8, fa_u_s, lo7 8 (by omega) (by decide), hc.g (k := 8) (by decide)]
  obtain ⟨h1, ⟨h2, h3, h4⟩, ⟨L, h5, h6⟩, h7, h8, h9⟩ := hc
  have h7' : A.m ≤ 12 := h7
  refine ⟨by rw [g8]; exact Int32.add_sub_cancel _ _, fun k hk => ?_, ⟨by show A.n + 1 ≤ 24; omega, ?_, fun p i hp hi => ?_⟩, ⟨L, h5.congr (fun i hi => lo i (by omega) (by omega) (by omega)), h6⟩, h7, ?_, fun p i hp hi => ?_⟩
  · show _ = fb_s1 A.g 8 (A.g 8 + nI 1) k
    by_cases z : k = 8
    · rw [z, fb_s1_s]; exact g8
    · rw [fb_s1_n z, lo k (by omega) (by omega) z]; exact h1 k hk
  · rw [b8 14 (by decide), e7, fa_u_s, em]
  · have hp' : p < A.n + 1 := hp
    show _ = fb_newF A a1 a2 p i
    unfold fb_newF
    by_cases z : p = A.n
    · rw [if_pos z, z, ← em, b8 _ (by omega), b7 _ (by omega)]
      have : i = 0 ∨ i = 1 ∨ i = 2 ∨ i = 3 ∨ i = 4 ∨ i = 6 ∨ (i = 5 ∨ 7 ≤ i) := by omega
      rcases this with y | y | y | y | y | y | y
      · rw [y, if_pos rfl, b6 _ (by omega), b5 _ (by omega), b4 _ (by omega), b3 _ (by omega), b2 _ (by omega), e1]
        refine (fa_u_s _ _ _ _).trans ?_
        rw [hw, if_neg (by omega)]; exact h1 8 (by decide)
      · rw [y, if_neg (by decide), if_pos rfl, b6 _ (by omega), b5 _ (by omega), b4 _ (by omega), b3 _ (by omega), e2, fa_u_s, ek]
      · rw [y, if_neg (by decide), if_neg (by decide), if_pos rfl, b6 _ (by omega), b5 _ (by omega), b4 _ (by omega), e3, fa_u_s]
      · rw [y, if_neg (by decide), if_neg (by decide), if_neg (by decide), if_pos rfl, b6 _ (by omega), b5 _ (by omega), e4, fa_u_s, b3 _ (by omega), b2 _ (by omega), b1 _ (by omega), hw, if_neg (by omega)]
        exact h1 7 (by decide)
      · rw [y, if_neg (by decide), if_neg (by decide), if_neg (by decide), if_neg (by decide), if_pos (Or.inl rfl), b6 _ (by omega), e5, fa_u_s]
      · rw [y, if_neg (by decide), if_neg (by decide), if_neg (by decide), if_neg (by decide), if_pos (Or.inr rfl), e6, fa_u_s]
      · rw [if_neg (by omega), if_neg (by omega), if_neg (by omega), if_neg (by omega), if_neg (by omega), b6 _ (by omega), b5 _ (by omega), b4 _ (by omega), b3 _ (by omega), b2 _ (by omega), b1 _ (by omega), hw, if_pos (by omega)]
        rfl
    · rw [if_neg z, lo _ (by omega) (by omega) (by omega)]
      exact h4 p i (by omega) hi
  · rw [lo 16 (by omega) (by decide) (by decide)]; exact h8
  · have hp' : p < A.m := hp
    rw [lo _ (by omega) (by omega) (by omega)]; exact h9 p i hp hi
set_option maxHeartbeats 4000000 in
set_option maxRecDepth 100000 in
theorem r_passes (l : Launch) (G : fa_G) (n : Nat) (hn : 406 ≤ n) (v : fa_V) (r : fa_R) (hM : fa_RM r) (hS : fa_MS (v 398)) (a1 : Int32) : fa_MI l G n yX7_passes cX7_passes 4 (some .int) 8 [.ref (fa_B G + (397)), .int (a1)] v r (fa_voi r (fun x v1 => ((fa_MS (v1 398)) ∧ (fa_f2 v v1) ∧ (∀ A, fb_okA A → fb_mA (v 398) A → x = (fb_passA A a1).1 ∧ fb_mA (v1 398) (fb_passA A a1).2)) ∧ (fa_fr (398) (403) v v1))) := by
  refine fa_startI (by decide +kernel) (Nat.le_of_ble_eq_true rfl) (fun p e s m args below meth c ls Q CX hl HX RET => ?_)
  have hl : lv_has ls 4 [(0, .ref (fa_B G + (397))), (1, .int (a1))] := hl
  have hx := CX.1.1
  have hb := CX.1.2.1
  obtain ⟨n4, en4⟩ : ∃ m, m = fa_N (v 398 14) := ⟨_, rfl⟩
  obtain ⟨hn4, g4⟩ := hS.n4 en4
  obtain ⟨n5, en5⟩ : ∃ m, m = fa_N (v 398 15) := ⟨_, rfl⟩
  obtain ⟨hn5, g5⟩ := hS.n5 en5
  obtain ⟨n6, en6⟩ : ∃ m, m = fa_N (v 398 16) := ⟨_, rfl⟩
  obtain ⟨hn6, g6⟩ := hS.n6 en6
  refine lv_iload_n hx hb dX7_passes_0 rfl (lv_at hl 1 rfl) ?_
  refine lv_iconst (v := nI (1)) hx hb dX7_passes_1 (by decide) ?_
  refine lv_sipush (v := nI (400)) hx hb dX7_passes_2 (by decide) ?_
  refine fa_callSip (As := [.int (a1), .int (nI (1)), .int (nI (400))]) (rest := []) CX HX (r_in l G n v r (a1) (nI (1)) (nI (400))) ln_X7_86 rfl rfl (Nat.le_of_ble_eq_true rfl) hl.1 ⟨Nat.le_of_ble_eq_true rfl, Nat.le_of_ble_eq_true rfl⟩ ⟨Nat.le_refl _, Nat.le_refl _⟩ dX7_passes_5 (fun x1968 H locs h1967 HX1969 => ?_)
  have h_in_5 := h1967
  refine lv_if_ne (tgt := 14) hx hb dX7_passes_8 (by decide) (fun c_8 => ?_) (fun c_8 => ?_)
  · have hin1 := fa_in1 h_in_5 c_8
    refine lv_aload_n hx hb dX7_passes_14 rfl (lv_at hl 0 rfl) ?_
    refine fa_getr (k := 397) (j := 398) CX HX1969 fl_X7_7 (by omega) rfl rfl hM.1 dX7_passes_15 ?_
    refine lv_bipush (v := nI (7)) hx hb dX7_passes_18 (by decide) ?_
    refine fa_iald (k := 398) (j := 7) CX HX1969 (by omega) rfl (by omega) (by first | decide | assumption) dX7_passes_20 ?_
    refine lv_iload_n hx hb dX7_passes_21 rfl (lv_at hl 1 rfl) ?_
    refine lv_iadd hx hb dX7_passes_22 ?_
    refine lv_sipush (v := nI (9999)) hx hb dX7_passes_23 (by decide) ?_
    refine lv_icmp_le (tgt := 32) hx hb dX7_passes_26 (by decide) (fun c_26 => ?_) (fun c_26 => ?_)
    · obtain ⟨ka, hka1, hka, eka⟩ := fa_natIn (by decide) (fun z => hin1 (Or.inl z)) (Int32.not_lt.mp (fun z => hin1 (Or.inr z)))
      refine lv_iconst (v := nI (0)) hx hb dX7_passes_32 (by decide) ?_
      refine lv_istore_n (lv' := [(2, .int (nI (0))), (0, .ref (fa_B G + (397))), (1, .int (a1))]) hx hb dX7_passes_33 rfl hl (by decide) rfl (fun ls hl => ?_)
      refine lv_iconst (v := nI (0)) hx hb dX7_passes_34 (by decide) ?_
      refine lv_istore_n (lv' := [(3, .int (nI (0))), (2, .int (nI (0))), (0, .ref (fa_B G + (397))), (1, .int (a1))]) hx hb dX7_passes_35 rfl hl (by decide) rfl (fun ls hl => ?_)
      have LOOP_36 : ∀ (fu : Nat) (j : Nat) (mny : Int32) (v1970 : fa_V) (H : Heap) (locs : List Loc) (ls : Array Slot), ka - j < fu → (j ≤ ka ∧ fa_MS (v1970 398) ∧ fa_f2 v v1970 ∧ ∀ A, fb_okA A → fb_mA (v 398) A → A.g 7 + a1 ≤ nI 9999 → mny = (fb_daysA A j).1 ∧ fb_mA (v1970 398) (fb_daysA A j).2) → lv_has ls 4 [(0, .ref (fa_B G + (397))), (1, .int (a1)), (2, .int (mny)), (3, .int (nI (j)))] → fa_HX G (n) v1970 r s H locs → W p l e (fa_rm 8) s m args below meth c H locs (0) (0) Q (F0 m 36 ls []) := by
        intro fu
        induction fu with
        | zero => intro j mny v1970 H locs ls hk; exact absurd hk (Nat.not_lt_zero _)
        | succ fu ih_36 =>
          intro j mny v1970 H locs ls hk_36 hi_36 hl HX1971
          refine lv_iload_n hx hb dX7_passes_36 rfl (lv_at hl 3 rfl) ?_
          refine lv_iload_n hx hb dX7_passes_37 rfl (lv_at hl 1 rfl) ?_
          refine lv_icmp_ge (tgt := 54) hx hb dX7_passes_38 (by decide) (fun c_38 => ?_) (fun c_38 => ?_)
          · have hjn : j = ka := by
              rw [eka] at c_38
              have := fa_leN (by omega) (by omega) c_38
              omega
            refine lv_iload_n hx hb dX7_passes_54 rfl (lv_at hl 2 rfl) ?_
            exact RET _ _ _ _ _ _ _ HX1971 dX7_passes_55 (⟨rfl, ⟨⟨hi_36.2.1, (fa_f2.tr fa_f2.rf hi_36.2.2.1), (fun A hok hc => by (have h9 : A.g 7 + a1 ≤ nI 9999 := (by rw [← hc.g (k := 7) (by decide)]; exact c_26); rw [fb_passA_3 (fun z => hin1 (z.elim Or.inl (fun y => Or.inr (Int32.not_le.mp y)))) h9 eka (by omega)]; have z := hi_36.2.2.2 A hok hc h9; rw [show j = ka by exact hjn] at z; exact z))⟩, (fa_fr.tr fa_fr.rf (fa_fr.wide (fa_f2.fr hi_36.2.2.1) (by omega) (by omega)))⟩⟩)
          · have hjk : j < ka := by
              rw [eka] at c_38
              exact fa_ltN (by omega) (by omega) c_38
            refine lv_iload_n hx hb dX7_passes_41 rfl (lv_at hl 2 rfl) ?_
            refine lv_aload_n hx hb dX7_passes_42 rfl (lv_at hl 0 rfl) ?_
            refine fa_callViu (As := []) (rest := [.int (mny)]) CX HX1971 (r_day l G n hn v1970 r hM hi_36.2.1 ) ln_X7_99 (by omega) rfl rfl rfl rfl (Nat.le_of_ble_eq_true rfl) hl.1 ⟨Nat.le_of_ble_eq_true rfl, Nat.le_of_ble_eq_true rfl⟩ ⟨Nat.le_refl _, Nat.le_refl _⟩ dX7_passes_43 (fun x1973 v1974 H locs h1972 HX1975 => ?_)
            have hS_v1974 := h1972.1.1
            have h_day := h1972.1.2.2
            refine lv_iadd hx hb dX7_passes_46 ?_
            refine lv_istore_n (lv' := [(2, .int ((mny) + (x1973))), (0, .ref (fa_B G + (397))), (1, .int (a1)), (3, .int (nI (j)))]) hx hb dX7_passes_47 rfl hl (by decide) rfl (fun ls hl => ?_)
            refine lv_iinc (v := nI (j + 1)) (lv' := [(3, .int (nI (j + 1))), (2, .int ((mny) + (x1973))), (0, .ref (fa_B G + (397))), (1, .int (a1))]) hx hb dX7_passes_48 hl (k := 3) rfl (nI_add (j) 1) (by decide) rfl (fun ls hl => ?_)
            refine lv_goto (tgt := 36) hx hb dX7_passes_51 (by decide) ?_
            exact ih_36 (j + 1) ((mny) + (x1973)) v1974 _ _ _ (by omega) (⟨by omega, hS_v1974, (fa_f2.tr (fa_f2.tr fa_f2.rf hi_36.2.2.1) h1972.1.2.1), fun A hok hc h9 => by (have z := hi_36.2.2.2 A hok hc h9; obtain ⟨d, hd, e⟩ := hok.1.2.1; have h8 : d + ka ≤ 9999 := (by rw [e, eka, nI_add] at h9; exact (nI_leI (by omega) (by decide)).mp h9); have y := hok.days e j (by omega); have w := h_day _ y.1 (by rw [y.2]; exact nI_lt (by omega) (by decide)) z.2; exact ⟨by (rw [z.1, w.1]; rfl), w.2⟩)⟩) (lv_sub hl [2, 3, 1, 0] rfl) HX1975
      exact LOOP_36 (ka - 0 + 1) (0) (nI (0)) v _ _ _ (Nat.lt_succ_self _) (⟨Nat.zero_le _, hS, fa_f2.rf, fun A hok hc _ => ⟨rfl, hc⟩⟩) (lv_sub hl [2, 3, 1, 0] rfl) HX1969
    · refine lv_bipush (v := (-5 : Int32)) hx hb dX7_passes_29 (by decide) ?_
      exact RET _ _ _ _ _ _ _ HX1969 dX7_passes_31 (⟨rfl, ⟨⟨hS, fa_f2.rf, (fun A hok hc => by (rw [fb_passA_2 (fun z => hin1 (z.elim Or.inl (fun y => Or.inr (Int32.not_le.mp y)))) (by rw [← hc.g (k := 7) (by decide)]; exact c_26)]; exact ⟨rfl, hc⟩))⟩, fa_fr.rf⟩⟩)
  · refine lv_bipush (v := (-2 : Int32)) hx hb dX7_passes_11 (by decide) ?_
    exact RET _ _ _ _ _ _ _ HX1969 dX7_passes_13 (⟨rfl, ⟨⟨hS, fa_f2.rf, (fun A hok hc => by (rw [fb_passA_1 ((fa_in0 h_in_5 (by first | exact c_8 | exact Decidable.not_not.mp c_8)).elim Or.inl (fun y => Or.inr (Int32.not_le.mpr y)))]; exact ⟨rfl, hc⟩))⟩, fa_fr.rf⟩⟩)
set_option maxHeartbeats 4000000 in
set_option maxRecDepth 100000 in
theorem r_adds (l : Launch) (G : fa_G) (n : Nat) (hn : 406 ≤ n) (v : fa_V) (r : fa_R) (hM : fa_RM r) (hS : fa_MS (v 398)) (a1 : Int32) (a2 : Int32) : fa_MI l G n yX7_adds cX7_adds 5 (some .int) 3 [.ref (fa_B G + (397)), .int (a1), .int (a2)] v r (fa_voi r (fun x v1 => ((fa_MS (v1 398)) ∧ (v1 398 15 = v 398 15) ∧ (v1 398 16 = v 398 16) ∧ (∀ A, fb_okA A → fb_mA (v 398) A → x = (fb_addA A a1 a2).1 ∧ fb_mA (v1 398) (fb_addA A a1 a2).2)) ∧ (fa_fr (398) (399) v v1))) := by
  refine fa_startI (by decide +kernel) (Nat.le_of_ble_eq_true rfl) (fun p e s m args below meth c ls Q CX hl HX RET => ?_)
  have hl : lv_has ls 5 [(0, .ref (fa_B G + (397))), (1, .int (a1)), (2, .int (a2))] := hl
  have hx := CX.1.1
  have hb := CX.1.2.1
  obtain ⟨n4, en4⟩ : ∃ m, m = fa_N (v 398 14) := ⟨_, rfl⟩
  obtain ⟨hn4, g4⟩ := hS.n4 en4
  obtain ⟨n5, en5⟩ : ∃ m, m = fa_N (v 398 15) := ⟨_, rfl⟩
  obtain ⟨hn5, g5⟩ := hS.n5 en5
  obtain ⟨n6, en6⟩ : ∃ m, m = fa_N (v 398 16) := ⟨_, rfl⟩
  obtain ⟨hn6, g6⟩ := hS.n6 en6
  refine lv_iload_n hx hb dX7_adds_0 rfl (lv_at hl 1 rfl) ?_
  refine lv_iconst (v := nI (0)) hx hb dX7_adds_1 (by decide) ?_
  refine lv_iconst (v := nI (4)) hx hb dX7_adds_2 (by decide) ?_
  refine fa_callSip (As := [.int (a1), .int (nI (0)), .int (nI (4))]) (rest := []) CX HX (r_in l G n v r (a1) (nI (0)) (nI (4))) ln_X7_86 rfl rfl (Nat.le_of_ble_eq_true rfl) hl.1 ⟨Nat.le_of_ble_eq_true rfl, Nat.le_of_ble_eq_true rfl⟩ ⟨Nat.le_refl _, Nat.le_refl _⟩ dX7_adds_3 (fun x1977 H locs h1976 HX1978 => ?_)
  have h_in_3 := h1976
  refine lv_if_eq (tgt := 19) hx hb dX7_adds_6 (by decide) (fun c_6 => ?_) (fun c_6 => ?_)
  · refine lv_bipush (v := (-2 : Int32)) hx hb dX7_adds_19 (by decide) ?_
    exact RET _ _ _ _ _ _ _ HX1978 dX7_adds_21 (⟨rfl, ⟨⟨hS, (show v 398 15 = v 398 15 from rfl), (show v 398 16 = v 398 16 from rfl), (fun A hok hc => by (rw [fb_addA_1 ((fa_in0 h_in_3 c_6).elim Or.inl (fun z => Or.inr (Or.inl z)))]; exact ⟨rfl, hc⟩))⟩, fa_fr.rf⟩⟩)
  · obtain ⟨ka, hka, eka⟩ := fa_inN (by decide) (fa_in1 h_in_3 c_6)
    refine lv_iload_n hx hb dX7_adds_9 rfl (lv_at hl 2 rfl) ?_
    refine lv_iconst (v := nI (1)) hx hb dX7_adds_10 (by decide) ?_
    refine lv_bipush (v := nI (50)) hx hb dX7_adds_11 (by decide) ?_
    refine fa_callSip (As := [.int (a2), .int (nI (1)), .int (nI (50))]) (rest := []) CX HX1978 (r_in l G n v r (a2) (nI (1)) (nI (50))) ln_X7_86 rfl rfl (Nat.le_of_ble_eq_true rfl) hl.1 ⟨Nat.le_of_ble_eq_true rfl, Nat.le_of_ble_eq_true rfl⟩ ⟨Nat.le_refl _, Nat.le_refl _⟩ dX7_adds_13 (fun x1980 H locs h1979 HX1981 => ?_)
    have h_in_13 := h1979
    refine lv_if_ne (tgt := 22) hx hb dX7_adds_16 (by decide) (fun c_16 => ?_) (fun c_16 => ?_)
    · refine lv_aload_n hx hb dX7_adds_22 rfl (lv_at hl 0 rfl) ?_
      refine fa_getr (k := 397) (j := 398) CX HX1981 fl_X7_7 (by omega) rfl rfl hM.1 dX7_adds_23 ?_
      refine lv_bipush (v := nI (14)) hx hb dX7_adds_26 (by decide) ?_
      refine fa_iald (k := 398) (j := 14) CX HX1981 (by omega) rfl (by omega) (by first | decide | assumption) dX7_adds_28 ?_
      rw [show v 398 14 = nI (n4) from g4]
      refine lv_bipush (v := nI (24)) hx hb dX7_adds_29 (by decide) ?_
      refine lv_icmp_eq (tgt := 63) hx hb dX7_adds_31 (by decide) (fun c_31 => ?_) (fun c_31 => ?_)
      · refine lv_bipush (v := (-4 : Int32)) hx hb dX7_adds_63 (by decide) ?_
        exact RET _ _ _ _ _ _ _ HX1981 dX7_adds_65 (⟨rfl, ⟨⟨hS, (show v 398 15 = v 398 15 from rfl), (show v 398 16 = v 398 16 from rfl), (fun A hok hc => by (rw [fb_addA_2 (fun z => z.elim (fun y => fa_in1 h_in_3 c_6 (Or.inl y)) (fun z => z.elim (fun y => fa_in1 h_in_3 c_6 (Or.inr y)) (fun z => z.elim (fun y => fa_in1 h_in_13 c_16 (Or.inl y)) (fun y => fa_in1 h_in_13 c_16 (Or.inr (Int32.not_le.mp y)))))) (Or.inl (by have z := fa_nIinj (by omega) (by omega) c_31; rw [← hc.n, ← en4]; omega))]; exact ⟨rfl, hc⟩))⟩, fa_fr.rf⟩⟩)
      · have hne : ¬ n4 = 24 := fun z => c_31 (by rw [z])
        refine lv_aload_n hx hb dX7_adds_34 rfl (lv_at hl 0 rfl) ?_
        refine fa_getr (k := 397) (j := 398) CX HX1981 fl_X7_7 (by omega) rfl rfl hM.1 dX7_adds_35 ?_
        refine lv_bipush (v := nI (8)) hx hb dX7_adds_38 (by decide) ?_
        refine fa_iald (k := 398) (j := 8) CX HX1981 (by omega) rfl (by omega) (by first | decide | assumption) dX7_adds_40 ?_
        refine lv_sipush (v := nI (200)) hx hb dX7_adds_41 (by decide) ?_
        refine lv_icmp_eq (tgt := 63) hx hb dX7_adds_44 (by decide) (fun c_44 => ?_) (fun c_44 => ?_)
        · refine lv_bipush (v := (-4 : Int32)) hx hb dX7_adds_63 (by decide) ?_
          exact RET _ _ _ _ _ _ _ HX1981 dX7_adds_65 (⟨rfl, ⟨⟨hS, (show v 398 15 = v 398 15 from rfl), (show v 398 16 = v 398 16 from rfl), (fun A hok hc => by (rw [fb_addA_2 (fun z => z.elim (fun y => fa_in1 h_in_3 c_6 (Or.inl y)) (fun z => z.elim (fun y => fa_in1 h_in_3 c_6 (Or.inr y)) (fun z => z.elim (fun y => fa_in1 h_in_13 c_16 (Or.inl y)) (fun y => fa_in1 h_in_13 c_16 (Or.inr (Int32.not_le.mp y)))))) (Or.inr (Or.inl (by rw [← hc.g (k := 8) (by decide), c_44]; exact Int32.le_refl _)))]; exact ⟨rfl, hc⟩))⟩, fa_fr.rf⟩⟩)
        · refine lv_aload_n hx hb dX7_adds_47 rfl (lv_at hl 0 rfl) ?_
          refine fa_callVip (As := []) (rest := []) CX HX1981 (r_pages l G n hn v r hM hS ) ln_X7_90 (by omega) rfl rfl rfl rfl (Nat.le_of_ble_eq_true rfl) hl.1 ⟨Nat.le_of_ble_eq_true rfl, Nat.le_of_ble_eq_true rfl⟩ ⟨Nat.le_refl _, Nat.le_refl _⟩ dX7_adds_48 (fun x1983 H locs h1982 HX1984 => ?_)
          have h_pages := h1982
          refine lv_iload_n hx hb dX7_adds_51 rfl (lv_at hl 2 rfl) ?_
          refine lv_iadd hx hb dX7_adds_52 ?_
          refine lv_aload_n hx hb dX7_adds_53 rfl (lv_at hl 0 rfl) ?_
          refine fa_getr (k := 397) (j := 398) CX HX1984 fl_X7_7 (by omega) rfl rfl hM.1 dX7_adds_54 ?_
          refine lv_bipush (v := nI (6)) hx hb dX7_adds_57 (by decide) ?_
          refine fa_iald (k := 398) (j := 6) CX HX1984 (by omega) rfl (by omega) (by first | decide | assumption) dX7_adds_59 ?_
          refine lv_icmp_le (tgt := 66) hx hb dX7_adds_60 (by decide) (fun c_60 => ?_) (fun c_60 => ?_)
          · refine lv_aload_n hx hb dX7_adds_66 rfl (lv_at hl 0 rfl) ?_
            refine fa_getr (k := 397) (j := 398) CX HX1984 fl_X7_7 (by omega) rfl rfl hM.1 dX7_adds_67 ?_
            refine lv_bipush (v := nI (14)) hx hb dX7_adds_70 (by decide) ?_
            refine fa_iald (k := 398) (j := 14) CX HX1984 (by omega) rfl (by omega) (by first | decide | assumption) dX7_adds_72 ?_
            rw [show v 398 14 = nI (n4) from g4]
            refine fa_callSip (As := [.int (nI (n4))]) (rest := []) CX HX1984 (r_f l G n v r (n4)) ln_X7_36 rfl rfl (Nat.le_of_ble_eq_true rfl) hl.1 ⟨Nat.le_of_ble_eq_true rfl, Nat.le_of_ble_eq_true rfl⟩ ⟨Nat.le_refl _, Nat.le_refl _⟩ dX7_adds_73 (fun x1986 H locs h1985 HX1987 => ?_)
            subst h1985
            refine lv_istore_n (lv' := [(3, .int (nI (17 + 15 * n4))), (0, .ref (fa_B G + (397))), (1, .int (a1)), (2, .int (a2))]) hx hb dX7_adds_76 rfl hl (by decide) rfl (fun ls hl => ?_)
            refine lv_iconst (v := nI (0)) hx hb dX7_adds_77 (by decide) ?_
            refine lv_istore (lv' := [(4, .int (nI (0))), (3, .int (nI (17 + 15 * n4))), (0, .ref (fa_B G + (397))), (1, .int (a1)), (2, .int (a2))]) hx hb dX7_adds_78 hl (by decide) rfl (fun ls hl => ?_)
            have LOOP_80 : ∀ (fu : Nat) (k : Nat) (v1988 : fa_V) (H : Heap) (locs : List Loc) (ls : Array Slot), 15 - k < fu → (k ≤ 15 ∧ fa_MS (v1988 398) ∧ v1988 398 14 = v 398 14 ∧ v1988 398 15 = v 398 15 ∧ v1988 398 16 = v 398 16 ∧ fa_fr 398 399 v v1988 ∧ ∀ i, v1988 398 i = if 17 + 15 * n4 ≤ i ∧ i < 17 + 15 * n4 + k then nI 0 else v 398 i) → lv_has ls 5 [(0, .ref (fa_B G + (397))), (1, .int (a1)), (2, .int (a2)), (3, .int (nI (17 + 15 * n4))), (4, .int (nI (k)))] → fa_HX G (n) v1988 r s H locs → W p l e (fa_rm 3) s m args below meth c H locs (0) (0) Q (F0 m 80 ls []) := by
              intro fu
              induction fu with
              | zero => intro k v1988 H locs ls hk; exact absurd hk (Nat.not_lt_zero _)
              | succ fu ih_80 =>
                intro k v1988 H locs ls hk_80 hi_80 hl HX1989
                refine lv_iload hx hb dX7_adds_80 (lv_at hl 4 rfl) ?_
                refine lv_bipush (v := nI (15)) hx hb dX7_adds_82 (by decide) ?_
                refine lv_icmp_ge (tgt := 103) hx hb dX7_adds_84 (by decide) (fun c_84 => ?_) (fun c_84 => ?_)
                · refine lv_aload_n hx hb dX7_adds_103 rfl (lv_at hl 0 rfl) ?_
                  refine fa_getr (k := 397) (j := 398) CX HX1989 fl_X7_7 (by omega) rfl rfl hM.1 dX7_adds_104 ?_
                  refine lv_iload_n hx hb dX7_adds_107 rfl (lv_at hl 3 rfl) ?_
                  refine lv_aload_n hx hb dX7_adds_108 rfl (lv_at hl 0 rfl) ?_
                  refine fa_getr (k := 397) (j := 398) CX HX1989 fl_X7_7 (by omega) rfl rfl hM.1 dX7_adds_109 ?_
                  refine lv_bipush (v := nI (8)) hx hb dX7_adds_112 (by decide) ?_
                  refine fa_iald (k := 398) (j := 8) CX HX1989 (by omega) rfl (by omega) (by first | decide | assumption) dX7_adds_114 ?_
                  refine fa_iast (k := 398) (j := 17 + 15 * n4) CX HX1989 (by omega) rfl (by omega) (by first | decide | assumption) dX7_adds_115 (fun H locs v1990 e1991 HX1992 => ?_)
                  refine lv_aload_n hx hb dX7_adds_116 rfl (lv_at hl 0 rfl) ?_
                  refine fa_getr (k := 397) (j := 398) CX HX1992 fl_X7_7 (by omega) rfl rfl hM.1 dX7_adds_117 ?_
                  refine lv_iload_n hx hb dX7_adds_120 rfl (lv_at hl 3 rfl) ?_
                  refine lv_iconst (v := nI (1)) hx hb dX7_adds_121 (by decide) ?_
                  refine fa_iaddN hx hb dX7_adds_122 ?_
                  refine lv_iload_n hx hb dX7_adds_123 rfl (lv_at hl 1 rfl) ?_
                  rw [show a1 = nI (ka) from eka]
                  refine fa_iast (k := 398) (j := 17 + 15 * n4 + 1) CX HX1992 (by omega) rfl (by omega) (by first | decide | assumption) dX7_adds_124 (fun H locs v1993 e1994 HX1995 => ?_)
                  refine lv_aload_n hx hb dX7_adds_125 rfl (lv_at hl 0 rfl) ?_
                  refine fa_getr (k := 397) (j := 398) CX HX1995 fl_X7_7 (by omega) rfl rfl hM.1 dX7_adds_126 ?_
                  refine lv_iload_n hx hb dX7_adds_129 rfl (lv_at hl 3 rfl) ?_
                  refine lv_iconst (v := nI (2)) hx hb dX7_adds_130 (by decide) ?_
                  refine fa_iaddN hx hb dX7_adds_131 ?_
                  refine lv_iload_n hx hb dX7_adds_132 rfl (lv_at hl 2 rfl) ?_
                  refine fa_iast (k := 398) (j := 17 + 15 * n4 + 2) CX HX1995 (by omega) rfl (by omega) (by first | decide | assumption) dX7_adds_133 (fun H locs v1996 e1997 HX1998 => ?_)
                  refine lv_aload_n hx hb dX7_adds_134 rfl (lv_at hl 0 rfl) ?_
                  refine fa_getr (k := 397) (j := 398) CX HX1998 fl_X7_7 (by omega) rfl rfl hM.1 dX7_adds_135 ?_
                  refine lv_iload_n hx hb dX7_adds_138 rfl (lv_at hl 3 rfl) ?_
                  refine lv_iconst (v := nI (3)) hx hb dX7_adds_139 (by decide) ?_
                  refine fa_iaddN hx hb dX7_adds_140 ?_
                  refine lv_aload_n hx hb dX7_adds_141 rfl (lv_at hl 0 rfl) ?_
                  refine fa_getr (k := 397) (j := 398) CX HX1998 fl_X7_7 (by omega) rfl rfl hM.1 dX7_adds_142 ?_
                  refine lv_bipush (v := nI (7)) hx hb dX7_adds_145 (by decide) ?_
                  refine fa_iald (k := 398) (j := 7) CX HX1998 (by omega) rfl (by omega) (by first | decide | assumption) dX7_adds_147 ?_
                  refine fa_iast (k := 398) (j := 17 + 15 * n4 + 3) CX HX1998 (by omega) rfl (by omega) (by first | decide | assumption) dX7_adds_148 (fun H locs v1999 e2000 HX2001 => ?_)
                  refine lv_aload_n hx hb dX7_adds_149 rfl (lv_at hl 0 rfl) ?_
                  refine fa_getr (k := 397) (j := 398) CX HX2001 fl_X7_7 (by omega) rfl rfl hM.1 dX7_adds_150 ?_
                  refine lv_iload_n hx hb dX7_adds_153 rfl (lv_at hl 3 rfl) ?_
                  refine lv_iconst (v := nI (4)) hx hb dX7_adds_154 (by decide) ?_
                  refine fa_iaddN hx hb dX7_adds_155 ?_
                  refine lv_iconst (v := (-1 : Int32)) hx hb dX7_adds_156 (by decide) ?_
                  refine fa_iast (k := 398) (j := 17 + 15 * n4 + 4) CX HX2001 (by omega) rfl (by omega) (by first | decide | assumption) dX7_adds_157 (fun H locs v2002 e2003 HX2004 => ?_)
                  refine lv_aload_n hx hb dX7_adds_158 rfl (lv_at hl 0 rfl) ?_
                  refine fa_getr (k := 397) (j := 398) CX HX2004 fl_X7_7 (by omega) rfl rfl hM.1 dX7_adds_159 ?_
                  refine lv_iload_n hx hb dX7_adds_162 rfl (lv_at hl 3 rfl) ?_
                  refine lv_bipush (v := nI (6)) hx hb dX7_adds_163 (by decide) ?_
                  refine fa_iaddN hx hb dX7_adds_165 ?_
                  refine lv_iconst (v := (-1 : Int32)) hx hb dX7_adds_166 (by decide) ?_
                  refine fa_iast (k := 398) (j := 17 + 15 * n4 + 6) CX HX2004 (by omega) rfl (by omega) (by first | decide | assumption) dX7_adds_167 (fun H locs v2005 e2006 HX2007 => ?_)
                  refine lv_aload_n hx hb dX7_adds_168 rfl (lv_at hl 0 rfl) ?_
                  refine fa_getr (k := 397) (j := 398) CX HX2007 fl_X7_7 (by omega) rfl rfl hM.1 dX7_adds_169 ?_
                  refine lv_bipush (v := nI (14)) hx hb dX7_adds_172 (by decide) ?_
                  refine lv_dup2_11 hx hb dX7_adds_174 rfl rfl ?_
                  refine fa_iald (k := 398) (j := 14) CX HX2007 (by omega) rfl (by omega) (by first | decide | assumption) dX7_adds_175 ?_
                  rw [show v2005 398 14 = nI (n4) from (by rw [e2006, fa_u_n _ _ (by omega)]; exact (by rw [e2003, fa_u_n _ _ (by omega)]; exact (by rw [e2000, fa_u_n _ _ (by omega)]; exact (by rw [e1997, fa_u_n _ _ (by omega)]; exact (by rw [e1994, fa_u_n _ _ (by omega)]; exact (by rw [e1991, fa_u_n _ _ (by omega)]; exact ((hi_80.2.2.1).trans g4)))))))]
                  refine lv_iconst (v := nI (1)) hx hb dX7_adds_176 (by decide) ?_
                  refine fa_iaddN hx hb dX7_adds_177 ?_
                  refine fa_iast (k := 398) (j := 14) CX HX2007 (by omega) rfl (by omega) (by first | decide | assumption) dX7_adds_178 (fun H locs v2008 e2009 HX2010 => ?_)
                  refine lv_aload_n hx hb dX7_adds_179 rfl (lv_at hl 0 rfl) ?_
                  refine fa_getr (k := 397) (j := 398) CX HX2010 fl_X7_7 (by omega) rfl rfl hM.1 dX7_adds_180 ?_
                  refine lv_bipush (v := nI (8)) hx hb dX7_adds_183 (by decide) ?_
                  refine lv_dup2_11 hx hb dX7_adds_185 rfl rfl ?_
                  refine fa_iald (k := 398) (j := 8) CX HX2010 (by omega) rfl (by omega) (by first | decide | assumption) dX7_adds_186 ?_
                  refine lv_iconst (v := nI (1)) hx hb dX7_adds_187 (by decide) ?_
                  refine lv_iadd hx hb dX7_adds_188 ?_
                  refine fa_iast (k := 398) (j := 8) CX HX2010 (by omega) rfl (by omega) (by first | decide | assumption) dX7_adds_189 (fun H locs v2011 e2012 HX2013 => ?_)
                  refine lv_aload_n hx hb dX7_adds_190 rfl (lv_at hl 0 rfl) ?_
                  refine fa_getr (k := 397) (j := 398) CX HX2013 fl_X7_7 (by omega) rfl rfl hM.1 dX7_adds_191 ?_
                  refine lv_bipush (v := nI (8)) hx hb dX7_adds_194 (by decide) ?_
                  refine fa_iald (k := 398) (j := 8) CX HX2013 (by omega) rfl (by omega) (by first | decide | assumption) dX7_adds_196 ?_
                  refine lv_iconst (v := nI (1)) hx hb dX7_adds_197 (by decide) ?_
                  refine lv_isub hx hb dX7_adds_198 ?_
                  exact RET _ _ _ _ _ _ _ HX2013 dX7_adds_199 (⟨rfl, ⟨⟨(show fa_MS (v2011 398) from by rw [e2012]; exact fa_MS.u (show fa_MS (v2008 398) from by rw [e2009]; exact fa_MS.u (show fa_MS (v2005 398) from by rw [e2006]; exact fa_MS.u (show fa_MS (v2002 398) from by rw [e2003]; exact fa_MS.u (show fa_MS (v1999 398) from by rw [e2000]; exact fa_MS.u (show fa_MS (v1996 398) from by rw [e1997]; exact fa_MS.u (show fa_MS (v1993 398) from by rw [e1994]; exact fa_MS.u (show fa_MS (v1990 398) from by rw [e1991]; exact fa_MS.u hi_80.2.1 (fa_ok.o (by omega) (by omega) (by omega) (fun p hp => by omega))) (fa_ok.k (by omega) (by omega))) (fa_ok.o (by omega) (by omega) (by omega) (fun p hp => by omega))) (fa_ok.o (by omega) (by omega) (by omega) (fun p hp => by omega))) (fa_ok.o (by omega) (by omega) (by omega) (fun p hp => by omega))) (fa_ok.o (by omega) (by omega) (by omega) (fun p hp => by omega))) (fa_ok.n14 (by omega))) (fa_ok.o (by omega) (by omega) (by omega) (fun p hp => by omega))), (show v2011 398 15 = v 398 15 from ((show v2011 398 15 = nI (n5) from (by rw [e2012, fa_u_n _ _ (by omega)]; exact (by rw [e2009, fa_u_n _ _ (by omega)]; exact (by rw [e2006, fa_u_n _ _ (by omega)]; exact (by rw [e2003, fa_u_n _ _ (by omega)]; exact (by rw [e2000, fa_u_n _ _ (by omega)]; exact (by rw [e1997, fa_u_n _ _ (by omega)]; exact (by rw [e1994, fa_u_n _ _ (by omega)]; exact (by rw [e1991, fa_u_n _ _ (by omega)]; exact ((hi_80.2.2.2.1).trans g5)))))))))).trans g5.symm)), (show v2011 398 16 = v 398 16 from ((show v2011 398 16 = nI (n6) from (by rw [e2012, fa_u_n _ _ (by omega)]; exact (by rw [e2009, fa_u_n _ _ (by omega)]; exact (by rw [e2006, fa_u_n _ _ (by omega)]; exact (by rw [e2003, fa_u_n _ _ (by omega)]; exact (by rw [e2000, fa_u_n _ _ (by omega)]; exact (by rw [e1997, fa_u_n _ _ (by omega)]; exact (by rw [e1994, fa_u_n _ _ (by omega)]; exact (by rw [e1991, fa_u_n _ _ (by omega)]; exact ((hi_80.2.2.2.2.1).trans g6)))))))))).trans g6.symm)), (fun A hok hc => by (rw [fb_addA_3 (fun z => z.elim (fun y => fa_in1 h_in_3 c_6 (Or.inl y)) (fun z => z.elim (fun y => fa_in1 h_in_3 c_6 (Or.inr y)) (fun z => z.elim (fun y => fa_in1 h_in_13 c_16 (Or.inl y)) (fun y => fa_in1 h_in_13 c_16 (Or.inr (Int32.not_le.mp y)))))) (fun z => z.elim (fun z => by have := hok.1.1; rw [← hc.n, ← en4] at z this; omega) (fun z => z.elim (fun z => by (obtain ⟨m8, hm8, em8⟩ := hok.1.2.2.1; rw [em8] at z; have z2 := fa_leN (by omega) (by omega) z; exact c_44 (by rw [hc.g (k := 8) (by decide), em8, show m8 = 200 by omega]))) (fun z => z (by rw [← hc.pgs, ← hc.g (k := 6) (by decide), ← h_pages]; exact c_60))))]; exact fb_m_new (v := v) (a1 := a1) hc (by have := hok.1.1; rw [← hc.n, ← en4] at this ⊢; omega) (by rw [← hc.n, ← en4]) eka (by have := fa_leN (by omega) (by omega) c_84; omega) hi_80.2.2.2.2.2.2 e1991 e1994 e1997 e2000 e2003 e2006 e2009 e2012))⟩, (by rw [e2012]; exact fa_fr.u (by rw [e2009]; exact fa_fr.u (by rw [e2006]; exact fa_fr.u (by rw [e2003]; exact fa_fr.u (by rw [e2000]; exact fa_fr.u (by rw [e1997]; exact fa_fr.u (by rw [e1994]; exact fa_fr.u (by rw [e1991]; exact fa_fr.u (fa_fr.tr fa_fr.rf (fa_fr.wide hi_80.2.2.2.2.2.1 (by omega) (by omega))) (by omega)) (by omega)) (by omega)) (by omega)) (by omega)) (by omega)) (by omega)) (by omega))⟩⟩)
                · have hk := fa_ltN (by omega) (by omega) c_84
                  refine lv_aload_n hx hb dX7_adds_87 rfl (lv_at hl 0 rfl) ?_
                  refine fa_getr (k := 397) (j := 398) CX HX1989 fl_X7_7 (by omega) rfl rfl hM.1 dX7_adds_88 ?_
                  refine lv_iload_n hx hb dX7_adds_91 rfl (lv_at hl 3 rfl) ?_
                  refine lv_iload hx hb dX7_adds_92 (lv_at hl 4 rfl) ?_
                  refine fa_iaddN hx hb dX7_adds_94 ?_
                  refine lv_iconst (v := nI (0)) hx hb dX7_adds_95 (by decide) ?_
                  refine fa_iast (k := 398) (j := 17 + 15 * n4 + k) CX HX1989 (by omega) rfl (by omega) (by first | decide | assumption) dX7_adds_96 (fun H locs v2014 e2015 HX2016 => ?_)
                  refine lv_iinc (v := nI (k + 1)) (lv' := [(4, .int (nI (k + 1))), (0, .ref (fa_B G + (397))), (1, .int (a1)), (2, .int (a2)), (3, .int (nI (17 + 15 * n4)))]) hx hb dX7_adds_97 hl (k := 4) rfl (nI_add (k) 1) (by decide) rfl (fun ls hl => ?_)
                  refine lv_goto (tgt := 80) hx hb dX7_adds_100 (by decide) ?_
                  exact ih_80 (k + 1) v2014 _ _ _ (by omega) (⟨by omega, (show fa_MS (v2014 398) from by rw [e2015]; exact fa_MS.u hi_80.2.1 (fa_ok.z (by omega) rfl)), ((show v2014 398 14 = nI (n4) from (by rw [e2015, fa_u_n _ _ (by omega)]; exact ((hi_80.2.2.1).trans g4))).trans g4.symm), ((show v2014 398 15 = nI (n5) from (by rw [e2015, fa_u_n _ _ (by omega)]; exact ((hi_80.2.2.2.1).trans g5))).trans g5.symm), ((show v2014 398 16 = nI (n6) from (by rw [e2015, fa_u_n _ _ (by omega)]; exact ((hi_80.2.2.2.2.1).trans g6))).trans g6.symm), (by rw [e2015]; exact fa_fr.u (fa_fr.tr fa_fr.rf (fa_fr.wide hi_80.2.2.2.2.2.1 (by omega) (by omega))) (by omega)), fb_m_zr hi_80.2.2.2.2.2.2 e2015⟩) (lv_sub hl [1, 2, 3, 4, 0] rfl) HX2016
            exact LOOP_80 (15 - 0 + 1) (0) v _ _ _ (Nat.lt_succ_self _) (⟨Nat.zero_le _, hS, rfl, rfl, rfl, fa_fr.rf, fun i => (if_neg (by omega)).symm⟩) (lv_sub hl [2, 3, 4, 1, 0] rfl) HX1987
          · refine lv_bipush (v := (-4 : Int32)) hx hb dX7_adds_63 (by decide) ?_
            exact RET _ _ _ _ _ _ _ HX1984 dX7_adds_65 (⟨rfl, ⟨⟨hS, (show v 398 15 = v 398 15 from rfl), (show v 398 16 = v 398 16 from rfl), (fun A hok hc => by (rw [fb_addA_2 (fun z => z.elim (fun y => fa_in1 h_in_3 c_6 (Or.inl y)) (fun z => z.elim (fun y => fa_in1 h_in_3 c_6 (Or.inr y)) (fun z => z.elim (fun y => fa_in1 h_in_13 c_16 (Or.inl y)) (fun y => fa_in1 h_in_13 c_16 (Or.inr (Int32.not_le.mp y)))))) (Or.inr (Or.inr (by rw [← hc.pgs, ← hc.g (k := 6) (by decide), ← h_pages]; exact c_60)))]; exact ⟨rfl, hc⟩))⟩, fa_fr.rf⟩⟩)
    · refine lv_bipush (v := (-2 : Int32)) hx hb dX7_adds_19 (by decide) ?_
      exact RET _ _ _ _ _ _ _ HX1981 dX7_adds_21 (⟨rfl, ⟨⟨hS, (show v 398 15 = v 398 15 from rfl), (show v 398 16 = v 398 16 from rfl), (fun A hok hc => by (rw [fb_addA_1 ((fa_in0 h_in_13 (by first | exact c_16 | exact Decidable.not_not.mp c_16)).elim (fun z => Or.inr (Or.inr (Or.inl z))) (fun z => Or.inr (Or.inr (Or.inr (Int32.not_le.mpr z)))))]; exact ⟨rfl, hc⟩))⟩, fa_fr.rf⟩⟩)
/-! ACTIONS in the reference's row -/
theorem fb_m_in8 {A : fb_At} (hok : fb_okA A) (a : Int32) : (a < nI 0 ∨ A.g 8 - nI 1 < a) ↔ (a < 0 ∨ ¬ a < A.g 8) := by
  obtain ⟨c, hc, ec⟩ := hok.1.2.2.1
  rw [ec]
  cases c with
  | zero =>
    constructor
    · rintro (z | z)
      · exact Or.inl z
      · by_cases y : a < 0
        · exact Or.inl y
        · exact Or.inr y
    · rintro (z | z)
      · exact Or.inl z
      · refine Or.inr ?_
        have y : (0 : Int32) ≤ a := Int32.not_lt.mp z
        exact Int32.lt_of_lt_of_le (by decide) y
  | succ j =>
    rw [pk_sub (by omega), fa_ltS (by omega)]
    exact Iff.rfl
theorem fb_m_pl0 {f : Nat → Int32} {A : fb_At} {a x : Int32} (h : fb_mA f A) (hok : fb_okA A) (hx : x = fb_plm f a) (c : x = (-1 : Int32)) : fb_ix A.F a A.n = none := by
  rcases h.pl hok a with z | ⟨p, hp, z, -⟩
  · exact z.2
  · rw [← hx, c] at z
    exact absurd z.symm (fb_nI_ne1 (by have := hok.1.1; omega))
theorem fb_m_pl1 {f : Nat → Int32} {A : fb_At} {a x : Int32} (h : fb_mA f A) (hok : fb_okA A) (hx : x = fb_plm f a) (c : ¬ x = (-1 : Int32)) : ∃ p, p < A.n ∧ x = nI p ∧ fb_ix A.F a A.n = some p ∧ A.F p 0 = a := by
  rcases h.pl hok a with z | ⟨p, hp, z, z2⟩
  · exact absurd (hx.trans z.1) c
  · exact ⟨p, hp, hx.trans z, z2⟩
theorem fb_m_askn {v v1 : fa_V} {A : fb_At} (h : fb_mA (v 398) A) (e : v1 = fa_u v 398 12 (v 398 12 + nI 1)) : fb_mA (v1 398) (A.sg 12 (A.g 12 + nI 1)) := by
  rw [e, h.g (k := 12) (by decide)]; exact h.ug (by decide)
set_option maxHeartbeats 4000000 in
set_option maxRecDepth 100000 in
theorem r_asksFor (l : Launch) (G : fa_G) (n : Nat) (hn : 406 ≤ n) (v : fa_V) (r : fa_R) (hM : fa_RM r) (hS : fa_MS (v 398)) (a1 : Int32) : fa_MI l G n yX7_asksFor cX7_asksFor 3 (some .int) 3 [.ref (fa_B G + (397)), .int (a1)] v r (fa_voi r (fun x v1 => ((fa_MS (v1 398)) ∧ (v1 398 14 = v 398 14) ∧ (v1 398 15 = v 398 15) ∧ (v1 398 16 = v 398 16) ∧ (∀ A, fb_okA A → fb_mA (v 398) A → x = (fb_askA A a1).1 ∧ fb_mA (v1 398) (fb_askA A a1).2)) ∧ (fa_fr (398) (399) v v1))) := by
  refine fa_startI (by decide +kernel) (Nat.le_of_ble_eq_true rfl) (fun p e s m args below meth c ls Q CX hl HX RET => ?_)
  have hl : lv_has ls 3 [(0, .ref (fa_B G + (397))), (1, .int (a1))] := hl
  have hx := CX.1.1
  have hb := CX.1.2.1
  obtain ⟨n4, en4⟩ : ∃ m, m = fa_N (v 398 14) := ⟨_, rfl⟩
  obtain ⟨hn4, g4⟩ := hS.n4 en4
  obtain ⟨n5, en5⟩ : ∃ m, m = fa_N (v 398 15) := ⟨_, rfl⟩
  obtain ⟨hn5, g5⟩ := hS.n5 en5
  obtain ⟨n6, en6⟩ : ∃ m, m = fa_N (v 398 16) := ⟨_, rfl⟩
  obtain ⟨hn6, g6⟩ := hS.n6 en6
  refine lv_iload_n hx hb dX7_asksFor_0 rfl (lv_at hl 1 rfl) ?_
  refine lv_iconst (v := nI (0)) hx hb dX7_asksFor_1 (by decide) ?_
  refine lv_aload_n hx hb dX7_asksFor_2 rfl (lv_at hl 0 rfl) ?_
  refine fa_getr (k := 397) (j := 398) CX HX fl_X7_7 (by omega) rfl rfl hM.1 dX7_asksFor_3 ?_
  refine lv_bipush (v := nI (8)) hx hb dX7_asksFor_6 (by decide) ?_
  refine fa_iald (k := 398) (j := 8) CX HX (by omega) rfl (by omega) (by first | decide | assumption) dX7_asksFor_8 ?_
  refine lv_iconst (v := nI (1)) hx hb dX7_asksFor_9 (by decide) ?_
  refine lv_isub hx hb dX7_asksFor_10 ?_
  refine fa_callSip (As := [.int (a1), .int (nI (0)), .int ((v 398 8) - (nI (1)))]) (rest := []) CX HX (r_in l G n v r (a1) (nI (0)) ((v 398 8) - (nI (1)))) ln_X7_86 rfl rfl (Nat.le_of_ble_eq_true rfl) hl.1 ⟨Nat.le_of_ble_eq_true rfl, Nat.le_of_ble_eq_true rfl⟩ ⟨Nat.le_refl _, Nat.le_refl _⟩ dX7_asksFor_11 (fun x2018 H locs h2017 HX2019 => ?_)
  have h_in_11 := h2017
  refine lv_if_ne (tgt := 19) hx hb dX7_asksFor_14 (by decide) (fun c_14 => ?_) (fun c_14 => ?_)
  · refine lv_aload_n hx hb dX7_asksFor_19 rfl (lv_at hl 0 rfl) ?_
    refine lv_iload_n hx hb dX7_asksFor_20 rfl (lv_at hl 1 rfl) ?_
    refine fa_callVip (As := [.int (a1)]) (rest := []) CX HX2019 (r_placeOf l G n hn v r hM hS (a1)) ln_X7_60 (by omega) rfl rfl rfl rfl (Nat.le_of_ble_eq_true rfl) hl.1 ⟨Nat.le_of_ble_eq_true rfl, Nat.le_of_ble_eq_true rfl⟩ ⟨Nat.le_refl _, Nat.le_refl _⟩ dX7_asksFor_21 (fun x2021 H locs h2020 HX2022 => ?_)
    have h_pl21 := h2020.1
    have h_plm21 := h2020.2
    refine lv_istore_n (lv' := [(2, .int (x2021)), (0, .ref (fa_B G + (397))), (1, .int (a1))]) hx hb dX7_asksFor_24 rfl hl (by decide) rfl (fun ls hl => ?_)
    refine lv_iload_n hx hb dX7_asksFor_25 rfl (lv_at hl 0 rfl) ?_
    refine lv_iconst (v := (-1 : Int32)) hx hb dX7_asksFor_26 (by decide) ?_
    refine lv_icmp_ne (tgt := 44) hx hb dX7_asksFor_27 (by decide) (fun c_27 => ?_) (fun c_27 => ?_)
    · refine lv_aload_n hx hb dX7_asksFor_44 rfl (lv_at hl 1 rfl) ?_
      refine lv_iload_n hx hb dX7_asksFor_45 rfl (lv_at hl 0 rfl) ?_
      refine fa_callViu (As := [.int (x2021)]) (rest := []) CX HX2022 (r_asks l G n hn v r hM hS (x2021) h_pl21) ln_X7_73 (by omega) rfl rfl rfl rfl (Nat.le_of_ble_eq_true rfl) hl.1 ⟨Nat.le_of_ble_eq_true rfl, Nat.le_of_ble_eq_true rfl⟩ ⟨Nat.le_refl _, Nat.le_refl _⟩ dX7_asksFor_46 (fun x2024 v2025 H locs h2023 HX2026 => ?_)
      have hS_v2025 := h2023.1.1
      have h_asks := h2023.1.2.2.2.2
      exact RET _ _ _ _ _ _ _ HX2026 dX7_asksFor_49 (⟨rfl, ⟨⟨hS_v2025, (show v2025 398 14 = v 398 14 from ((show v2025 398 14 = nI (n4) from ((h2023.1.2.1).trans g4)).trans g4.symm)), (show v2025 398 15 = v 398 15 from ((show v2025 398 15 = nI (n5) from ((h2023.1.2.2.1).trans g5)).trans g5.symm)), (show v2025 398 16 = v 398 16 from ((show v2025 398 16 = nI (n6) from ((h2023.1.2.2.2.1).trans g6)).trans g6.symm)), (fun A hok hc => by (obtain ⟨p, hp, ep, ei, -⟩ := fb_m_pl1 hc hok h_plm21 c_27; have w := h_asks A hok.1 hc p hp ep; have z : ¬ (a1 < 0 ∨ ¬ a1 < A.g 8) := (fun y => fa_in1 h_in_11 c_14 (by rw [hc.g (k := 8) (by decide)]; exact (fb_m_in8 hok a1).mpr y)); unfold fb_askA; rw [if_neg z, ei]; exact ⟨w.1, w.2.1⟩))⟩, (fa_fr.tr fa_fr.rf (fa_fr.wide h2023.2 (by omega) (by omega)))⟩⟩)
    · refine lv_aload_n hx hb dX7_asksFor_30 rfl (lv_at hl 1 rfl) ?_
      refine fa_getr (k := 397) (j := 398) CX HX2022 fl_X7_7 (by omega) rfl rfl hM.1 dX7_asksFor_31 ?_
      refine lv_bipush (v := nI (12)) hx hb dX7_asksFor_34 (by decide) ?_
      refine lv_dup2_11 hx hb dX7_asksFor_36 rfl rfl ?_
      refine fa_iald (k := 398) (j := 12) CX HX2022 (by omega) rfl (by omega) (by first | decide | assumption) dX7_asksFor_37 ?_
      refine lv_iconst (v := nI (1)) hx hb dX7_asksFor_38 (by decide) ?_
      refine lv_iadd hx hb dX7_asksFor_39 ?_
      refine fa_iast (k := 398) (j := 12) CX HX2022 (by omega) rfl (by omega) (by first | decide | assumption) dX7_asksFor_40 (fun H locs v2027 e2028 HX2029 => ?_)
      refine lv_bipush (v := (-6 : Int32)) hx hb dX7_asksFor_41 (by decide) ?_
      exact RET _ _ _ _ _ _ _ HX2029 dX7_asksFor_43 (⟨rfl, ⟨⟨(show fa_MS (v2027 398) from by rw [e2028]; exact fa_MS.u hS (fa_ok.o (by omega) (by omega) (by omega) (fun p hp => by omega))), (show v2027 398 14 = v 398 14 from ((show v2027 398 14 = nI (n4) from (by rw [e2028, fa_u_n _ _ (by omega)]; exact g4)).trans g4.symm)), (show v2027 398 15 = v 398 15 from ((show v2027 398 15 = nI (n5) from (by rw [e2028, fa_u_n _ _ (by omega)]; exact g5)).trans g5.symm)), (show v2027 398 16 = v 398 16 from ((show v2027 398 16 = nI (n6) from (by rw [e2028, fa_u_n _ _ (by omega)]; exact g6)).trans g6.symm)), (fun A hok hc => by (have z : ¬ (a1 < 0 ∨ ¬ a1 < A.g 8) := (fun y => fa_in1 h_in_11 c_14 (by rw [hc.g (k := 8) (by decide)]; exact (fb_m_in8 hok a1).mpr y)); unfold fb_askA; rw [if_neg z, fb_m_pl0 hc hok h_plm21 (by first | exact c_27 | exact Decidable.not_not.mp c_27)]; exact ⟨rfl, fb_m_askn hc e2028⟩))⟩, (by rw [e2028]; exact fa_fr.u fa_fr.rf (by omega))⟩⟩)
  · refine lv_iconst (v := (-1 : Int32)) hx hb dX7_asksFor_17 (by decide) ?_
    exact RET _ _ _ _ _ _ _ HX2019 dX7_asksFor_18 (⟨rfl, ⟨⟨hS, (show v 398 14 = v 398 14 from rfl), (show v 398 15 = v 398 15 from rfl), (show v 398 16 = v 398 16 from rfl), (fun A hok hc => by (have z := (fb_m_in8 hok a1).mp (by rw [← hc.g (k := 8) (by decide)]; exact fa_in0 h_in_11 (by first | exact c_14 | exact Decidable.not_not.mp c_14)); unfold fb_askA; rw [if_pos z]; exact ⟨rfl, hc⟩))⟩, fa_fr.rf⟩⟩)

theorem fb_m_in7 (a : Int32) : (a < nI 0 ∨ nI 7 < a) ↔ (a < 0 ∨ ¬ a < nI 8) := by
  rw [fa_ltS (by decide)]
  exact Iff.rfl
theorem fb_m_lift0 {A : fb_At} {h a : Int32} (c : h < 0 ∨ ¬ h < nI 8) : fb_liftA A h a = ((-1 : Int32), A) := by
  cases e : fb_ix A.F a A.n with
  | none => exact fb_liftA_n e
  | some p => exact fb_liftA_h e c
theorem fb_m_seal0 {A : fb_At} {h a l : Int32} (c : h < 0 ∨ ¬ h < nI 8) : fb_sealA A h a l = ((-1 : Int32), A) := by
  cases e : fb_ix A.F a A.n with
  | none => exact fb_sealA_n e
  | some p => exact fb_sealA_h e c
set_option maxHeartbeats 4000000 in
set_option maxRecDepth 100000 in
theorem r_seals (l : Launch) (G : fa_G) (n : Nat) (hn : 406 ≤ n) (v : fa_V) (r : fa_R) (hM : fa_RM r) (hS : fa_MS (v 398)) (a1 : Int32) (a2 : Int32) (a3 : Int32) : fa_MI l G n yX7_seals cX7_seals 5 (some .int) 4 [.ref (fa_B G + (397)), .int (a1), .int (a2), .int (a3)] v r (fa_voi r (fun x v1 => ((fa_MS (v1 398)) ∧ (v1 398 14 = v 398 14) ∧ (v1 398 15 = v 398 15) ∧ (v1 398 16 = v 398 16) ∧ (∀ A, fb_okA A → fb_mA (v 398) A → x = (fb_sealA A a1 a2 a3).1 ∧ fb_mA (v1 398) (fb_sealA A a1 a2 a3).2)) ∧ (fa_fr (398) (399) v v1))) := by
  refine fa_startI (by decide +kernel) (Nat.le_of_ble_eq_true rfl) (fun p e s m args below meth c ls Q CX hl HX RET => ?_)
  have hl : lv_has ls 5 [(0, .ref (fa_B G + (397))), (1, .int (a1)), (2, .int (a2)), (3, .int (a3))] := hl
  have hx := CX.1.1
  have hb := CX.1.2.1
  obtain ⟨n4, en4⟩ : ∃ m, m = fa_N (v 398 14) := ⟨_, rfl⟩
  obtain ⟨hn4, g4⟩ := hS.n4 en4
  obtain ⟨n5, en5⟩ : ∃ m, m = fa_N (v 398 15) := ⟨_, rfl⟩
  obtain ⟨hn5, g5⟩ := hS.n5 en5
  obtain ⟨n6, en6⟩ : ∃ m, m = fa_N (v 398 16) := ⟨_, rfl⟩
  obtain ⟨hn6, g6⟩ := hS.n6 en6
  refine lv_aload_n hx hb dX7_seals_0 rfl (lv_at hl 0 rfl) ?_
  refine lv_iload_n hx hb dX7_seals_1 rfl (lv_at hl 2 rfl) ?_
  refine fa_callVip (As := [.int (a2)]) (rest := []) CX HX (r_placeOf l G n hn v r hM hS (a2)) ln_X7_60 (by omega) rfl rfl rfl rfl (Nat.le_of_ble_eq_true rfl) hl.1 ⟨Nat.le_of_ble_eq_true rfl, Nat.le_of_ble_eq_true rfl⟩ ⟨Nat.le_refl _, Nat.le_refl _⟩ dX7_seals_2 (fun x2031 H locs h2030 HX2032 => ?_)
  have h_pl2 := h2030.1
  have h_plm2 := h2030.2
  refine lv_istore (lv' := [(4, .int (x2031)), (0, .ref (fa_B G + (397))), (1, .int (a1)), (2, .int (a2)), (3, .int (a3))]) hx hb dX7_seals_5 hl (by decide) rfl (fun ls hl => ?_)
  refine lv_iload_n hx hb dX7_seals_7 rfl (lv_at hl 2 rfl) ?_
  refine lv_iconst (v := nI (0)) hx hb dX7_seals_8 (by decide) ?_
  refine lv_bipush (v := nI (7)) hx hb dX7_seals_9 (by decide) ?_
  refine fa_callSip (As := [.int (a1), .int (nI (0)), .int (nI (7))]) (rest := []) CX HX2032 (r_in l G n v r (a1) (nI (0)) (nI (7))) ln_X7_86 rfl rfl (Nat.le_of_ble_eq_true rfl) hl.1 ⟨Nat.le_of_ble_eq_true rfl, Nat.le_of_ble_eq_true rfl⟩ ⟨Nat.le_refl _, Nat.le_refl _⟩ dX7_seals_11 (fun x2034 H locs h2033 HX2035 => ?_)
  have h_in_11 := h2033
  refine lv_if_eq (tgt := 23) hx hb dX7_seals_14 (by decide) (fun c_14 => ?_) (fun c_14 => ?_)
  · refine lv_iconst (v := (-1 : Int32)) hx hb dX7_seals_23 (by decide) ?_
    exact RET _ _ _ _ _ _ _ HX2035 dX7_seals_24 (⟨rfl, ⟨⟨hS, (show v 398 14 = v 398 14 from rfl), (show v 398 15 = v 398 15 from rfl), (show v 398 16 = v 398 16 from rfl), (fun A hok hc => by (rw [fb_m_seal0 ((fb_m_in7 a1).mp (fa_in0 h_in_11 c_14))]; exact ⟨rfl, hc⟩))⟩, fa_fr.rf⟩⟩)
  · obtain ⟨jh, hjh, ejh⟩ := fa_inN (by decide) (fa_in1 h_in_11 c_14)
    refine lv_iload hx hb dX7_seals_17 (lv_at hl 0 rfl) ?_
    refine lv_iconst (v := (-1 : Int32)) hx hb dX7_seals_19 (by decide) ?_
    refine lv_icmp_ne (tgt := 25) hx hb dX7_seals_20 (by decide) (fun c_20 => ?_) (fun c_20 => ?_)
    · obtain ⟨tp, htp, etp⟩ := h_pl2.ne c_20
      refine lv_iload_n hx hb dX7_seals_25 rfl (lv_at hl 4 rfl) ?_
      refine lv_iconst (v := (-1 : Int32)) hx hb dX7_seals_26 (by decide) ?_
      refine lv_icmp_eq (tgt := 50) hx hb dX7_seals_27 (by decide) (fun c_27 => ?_) (fun c_27 => ?_)
      · refine lv_aload_n hx hb dX7_seals_50 rfl (lv_at hl 1 rfl) ?_
        refine fa_getr (k := 397) (j := 398) CX HX2035 fl_X7_7 (by omega) rfl rfl hM.1 dX7_seals_51 ?_
        refine lv_iload hx hb dX7_seals_54 (lv_at hl 0 rfl) ?_
        rw [show x2031 = nI (tp) from etp]
        refine fa_callSip (As := [.int (nI (tp))]) (rest := [.ref (fa_B G + (398))]) CX HX2035 (r_f l G n v r (tp)) ln_X7_36 rfl rfl (Nat.le_of_ble_eq_true rfl) hl.1 ⟨Nat.le_of_ble_eq_true rfl, Nat.le_of_ble_eq_true rfl⟩ ⟨Nat.le_refl _, Nat.le_refl _⟩ dX7_seals_56 (fun x2037 H locs h2036 HX2038 => ?_)
        subst h2036
        refine lv_bipush (v := nI (7)) hx hb dX7_seals_59 (by decide) ?_
        refine fa_iaddN hx hb dX7_seals_61 ?_
        refine lv_iload_n hx hb dX7_seals_62 rfl (lv_at hl 2 rfl) ?_
        rw [show a1 = nI (jh) from ejh]
        refine fa_iaddN hx hb dX7_seals_63 ?_
        refine lv_iload_n hx hb dX7_seals_64 rfl (lv_at hl 4 rfl) ?_
        refine lv_iconst (v := (-1 : Int32)) hx hb dX7_seals_65 (by decide) ?_
        refine lv_icmp_ne (tgt := 75) hx hb dX7_seals_66 (by decide) (fun c_66 => ?_) (fun c_66 => ?_)
        · refine lv_iload_n hx hb dX7_seals_75 rfl (lv_at hl 4 rfl) ?_
          refine lv_iconst (v := nI (1)) hx hb dX7_seals_76 (by decide) ?_
          refine lv_iadd hx hb dX7_seals_77 ?_
          refine fa_iast (k := 398) (j := 17 + 15 * tp + 7 + jh) CX HX2038 (by omega) rfl (by omega) (by first | decide | assumption) dX7_seals_78 (fun H locs v2039 e2040 HX2041 => ?_)
          refine lv_aload_n hx hb dX7_seals_79 rfl (lv_at hl 1 rfl) ?_
          refine lv_iload hx hb dX7_seals_80 (lv_at hl 0 rfl) ?_
          rw [show x2031 = nI (tp) from etp]
          refine fa_callVip (As := [.int (nI (tp))]) (rest := []) CX HX2041 (r_sealing l G n hn v2039 r hM (show fa_MS (v2039 398) from by rw [e2040]; exact fa_MS.u hS (fa_ok.o (by omega) (by omega) (by omega) (fun p hp => by omega))) (tp) (by omega)) ln_X7_51 (by omega) rfl rfl rfl rfl (Nat.le_of_ble_eq_true rfl) hl.1 ⟨Nat.le_of_ble_eq_true rfl, Nat.le_of_ble_eq_true rfl⟩ ⟨Nat.le_refl _, Nat.le_refl _⟩ dX7_seals_82 (fun x2043 H locs h2042 HX2044 => ?_)
          have h_sealing := h2042
          refine fa_callSip (As := [.int (x2043)]) (rest := []) CX HX2044 (r_bits l G n v2039 r (x2043)) ln_X7_93 rfl rfl (Nat.le_of_ble_eq_true rfl) hl.1 ⟨Nat.le_of_ble_eq_true rfl, Nat.le_of_ble_eq_true rfl⟩ ⟨Nat.le_refl _, Nat.le_refl _⟩ dX7_seals_85 (fun x2046 H locs h2045 HX2047 => ?_)
          have h_bits := h2045
          exact RET _ _ _ _ _ _ _ HX2047 dX7_seals_88 (⟨rfl, ⟨⟨(show fa_MS (v2039 398) from by rw [e2040]; exact fa_MS.u hS (fa_ok.o (by omega) (by omega) (by omega) (fun p hp => by omega))), (show v2039 398 14 = v 398 14 from ((show v2039 398 14 = nI (n4) from (by rw [e2040, fa_u_n _ _ (by omega)]; exact g4)).trans g4.symm)), (show v2039 398 15 = v 398 15 from ((show v2039 398 15 = nI (n5) from (by rw [e2040, fa_u_n _ _ (by omega)]; exact g5)).trans g5.symm)), (show v2039 398 16 = v 398 16 from ((show v2039 398 16 = nI (n6) from (by rw [e2040, fa_u_n _ _ (by omega)]; exact g6)).trans g6.symm)), (fun A hok hc => by (obtain ⟨p, hp, ep, ei, -⟩ := fb_m_pl1 hc hok h_plm2 c_20; have et : tp = p := fa_nIinj (by omega) (by have := hok.1.1; omega) (etp.symm.trans ep); subst et; have NC : ¬ (a1 < 0 ∨ ¬ a1 < nI 8) := (fun z => fa_in1 h_in_11 c_14 ((fb_m_in7 a1).mpr z)); have m1 : fb_mA (v2039 398) (A.sF tp (7 + jh) ((a3) + (nI (1)))) := (by rw [e2040, Nat.add_assoc (17 + 15 * tp) 7 jh]; exact hc.uF hp (by omega)); rw [fb_sealA_s (y := (a3) + (nI (1))) ei NC (fun z => z.1 (by first | exact c_27 | exact Decidable.not_not.mp c_27)) ejh (by omega) (if_neg c_66).symm]; exact ⟨by (rw [h_bits, h_sealing, m1.msk hp]), m1⟩))⟩, (by rw [e2040]; exact fa_fr.u fa_fr.rf (by omega))⟩⟩)
        · refine lv_sipush (v := nI (10001)) hx hb dX7_seals_69 (by decide) ?_
          refine lv_goto (tgt := 78) hx hb dX7_seals_72 (by decide) ?_
          refine fa_iast (k := 398) (j := 17 + 15 * tp + 7 + jh) CX HX2038 (by omega) rfl (by omega) (by first | decide | assumption) dX7_seals_78 (fun H locs v2048 e2049 HX2050 => ?_)
          refine lv_aload_n hx hb dX7_seals_79 rfl (lv_at hl 1 rfl) ?_
          refine lv_iload hx hb dX7_seals_80 (lv_at hl 0 rfl) ?_
          rw [show x2031 = nI (tp) from etp]
          refine fa_callVip (As := [.int (nI (tp))]) (rest := []) CX HX2050 (r_sealing l G n hn v2048 r hM (show fa_MS (v2048 398) from by rw [e2049]; exact fa_MS.u hS (fa_ok.o (by omega) (by omega) (by omega) (fun p hp => by omega))) (tp) (by omega)) ln_X7_51 (by omega) rfl rfl rfl rfl (Nat.le_of_ble_eq_true rfl) hl.1 ⟨Nat.le_of_ble_eq_true rfl, Nat.le_of_ble_eq_true rfl⟩ ⟨Nat.le_refl _, Nat.le_refl _⟩ dX7_seals_82 (fun x2052 H locs h2051 HX2053 => ?_)
          have h_sealing := h2051
          refine fa_callSip (As := [.int (x2052)]) (rest := []) CX HX2053 (r_bits l G n v2048 r (x2052)) ln_X7_93 rfl rfl (Nat.le_of_ble_eq_true rfl) hl.1 ⟨Nat.le_of_ble_eq_true rfl, Nat.le_of_ble_eq_true rfl⟩ ⟨Nat.le_refl _, Nat.le_refl _⟩ dX7_seals_85 (fun x2055 H locs h2054 HX2056 => ?_)
          have h_bits := h2054
          exact RET _ _ _ _ _ _ _ HX2056 dX7_seals_88 (⟨rfl, ⟨⟨(show fa_MS (v2048 398) from by rw [e2049]; exact fa_MS.u hS (fa_ok.o (by omega) (by omega) (by omega) (fun p hp => by omega))), (show v2048 398 14 = v 398 14 from ((show v2048 398 14 = nI (n4) from (by rw [e2049, fa_u_n _ _ (by omega)]; exact g4)).trans g4.symm)), (show v2048 398 15 = v 398 15 from ((show v2048 398 15 = nI (n5) from (by rw [e2049, fa_u_n _ _ (by omega)]; exact g5)).trans g5.symm)), (show v2048 398 16 = v 398 16 from ((show v2048 398 16 = nI (n6) from (by rw [e2049, fa_u_n _ _ (by omega)]; exact g6)).trans g6.symm)), (fun A hok hc => by (obtain ⟨p, hp, ep, ei, -⟩ := fb_m_pl1 hc hok h_plm2 c_20; have et : tp = p := fa_nIinj (by omega) (by have := hok.1.1; omega) (etp.symm.trans ep); subst et; have NC : ¬ (a1 < 0 ∨ ¬ a1 < nI 8) := (fun z => fa_in1 h_in_11 c_14 ((fb_m_in7 a1).mpr z)); have m1 : fb_mA (v2048 398) (A.sF tp (7 + jh) (nI (10001))) := (by rw [e2049, Nat.add_assoc (17 + 15 * tp) 7 jh]; exact hc.uF hp (by omega)); rw [fb_sealA_s (y := nI (10001)) ei NC (fun z => z.1 (by first | exact c_27 | exact Decidable.not_not.mp c_27)) ejh (by omega) (if_pos (by first | exact c_66 | exact Decidable.not_not.mp c_66)).symm]; exact ⟨by (rw [h_bits, h_sealing, m1.msk hp]), m1⟩))⟩, (by rw [e2049]; exact fa_fr.u fa_fr.rf (by omega))⟩⟩)
      · refine lv_iload_n hx hb dX7_seals_30 rfl (lv_at hl 4 rfl) ?_
        refine lv_aload_n hx hb dX7_seals_31 rfl (lv_at hl 1 rfl) ?_
        refine fa_getr (k := 397) (j := 398) CX HX2035 fl_X7_7 (by omega) rfl rfl hM.1 dX7_seals_32 ?_
        refine lv_bipush (v := nI (7)) hx hb dX7_seals_35 (by decide) ?_
        refine fa_iald (k := 398) (j := 7) CX HX2035 (by omega) rfl (by omega) (by first | decide | assumption) dX7_seals_37 ?_
        refine lv_sipush (v := nI (9999)) hx hb dX7_seals_38 (by decide) ?_
        refine fa_callSip (As := [.int (a3), .int (v 398 7), .int (nI (9999))]) (rest := []) CX HX2035 (r_in l G n v r (a3) (v 398 7) (nI (9999))) ln_X7_86 rfl rfl (Nat.le_of_ble_eq_true rfl) hl.1 ⟨Nat.le_of_ble_eq_true rfl, Nat.le_of_ble_eq_true rfl⟩ ⟨Nat.le_refl _, Nat.le_refl _⟩ dX7_seals_41 (fun x2058 H locs h2057 HX2059 => ?_)
        have h_in_41 := h2057
        refine lv_if_ne (tgt := 50) hx hb dX7_seals_44 (by decide) (fun c_44 => ?_) (fun c_44 => ?_)
        · refine lv_aload_n hx hb dX7_seals_50 rfl (lv_at hl 1 rfl) ?_
          refine fa_getr (k := 397) (j := 398) CX HX2059 fl_X7_7 (by omega) rfl rfl hM.1 dX7_seals_51 ?_
          refine lv_iload hx hb dX7_seals_54 (lv_at hl 0 rfl) ?_
          rw [show x2031 = nI (tp) from etp]
          refine fa_callSip (As := [.int (nI (tp))]) (rest := [.ref (fa_B G + (398))]) CX HX2059 (r_f l G n v r (tp)) ln_X7_36 rfl rfl (Nat.le_of_ble_eq_true rfl) hl.1 ⟨Nat.le_of_ble_eq_true rfl, Nat.le_of_ble_eq_true rfl⟩ ⟨Nat.le_refl _, Nat.le_refl _⟩ dX7_seals_56 (fun x2061 H locs h2060 HX2062 => ?_)
          subst h2060
          refine lv_bipush (v := nI (7)) hx hb dX7_seals_59 (by decide) ?_
          refine fa_iaddN hx hb dX7_seals_61 ?_
          refine lv_iload_n hx hb dX7_seals_62 rfl (lv_at hl 2 rfl) ?_
          rw [show a1 = nI (jh) from ejh]
          refine fa_iaddN hx hb dX7_seals_63 ?_
          refine lv_iload_n hx hb dX7_seals_64 rfl (lv_at hl 4 rfl) ?_
          refine lv_iconst (v := (-1 : Int32)) hx hb dX7_seals_65 (by decide) ?_
          refine lv_icmp_ne (tgt := 75) hx hb dX7_seals_66 (by decide) (fun c_66 => ?_) (fun c_66 => ?_)
          · refine lv_iload_n hx hb dX7_seals_75 rfl (lv_at hl 4 rfl) ?_
            refine lv_iconst (v := nI (1)) hx hb dX7_seals_76 (by decide) ?_
            refine lv_iadd hx hb dX7_seals_77 ?_
            refine fa_iast (k := 398) (j := 17 + 15 * tp + 7 + jh) CX HX2062 (by omega) rfl (by omega) (by first | decide | assumption) dX7_seals_78 (fun H locs v2063 e2064 HX2065 => ?_)
            refine lv_aload_n hx hb dX7_seals_79 rfl (lv_at hl 1 rfl) ?_
            refine lv_iload hx hb dX7_seals_80 (lv_at hl 0 rfl) ?_
            rw [show x2031 = nI (tp) from etp]
            refine fa_callVip (As := [.int (nI (tp))]) (rest := []) CX HX2065 (r_sealing l G n hn v2063 r hM (show fa_MS (v2063 398) from by rw [e2064]; exact fa_MS.u hS (fa_ok.o (by omega) (by omega) (by omega) (fun p hp => by omega))) (tp) (by omega)) ln_X7_51 (by omega) rfl rfl rfl rfl (Nat.le_of_ble_eq_true rfl) hl.1 ⟨Nat.le_of_ble_eq_true rfl, Nat.le_of_ble_eq_true rfl⟩ ⟨Nat.le_refl _, Nat.le_refl _⟩ dX7_seals_82 (fun x2067 H locs h2066 HX2068 => ?_)
            have h_sealing := h2066
            refine fa_callSip (As := [.int (x2067)]) (rest := []) CX HX2068 (r_bits l G n v2063 r (x2067)) ln_X7_93 rfl rfl (Nat.le_of_ble_eq_true rfl) hl.1 ⟨Nat.le_of_ble_eq_true rfl, Nat.le_of_ble_eq_true rfl⟩ ⟨Nat.le_refl _, Nat.le_refl _⟩ dX7_seals_85 (fun x2070 H locs h2069 HX2071 => ?_)
            have h_bits := h2069
            exact RET _ _ _ _ _ _ _ HX2071 dX7_seals_88 (⟨rfl, ⟨⟨(show fa_MS (v2063 398) from by rw [e2064]; exact fa_MS.u hS (fa_ok.o (by omega) (by omega) (by omega) (fun p hp => by omega))), (show v2063 398 14 = v 398 14 from ((show v2063 398 14 = nI (n4) from (by rw [e2064, fa_u_n _ _ (by omega)]; exact g4)).trans g4.symm)), (show v2063 398 15 = v 398 15 from ((show v2063 398 15 = nI (n5) from (by rw [e2064, fa_u_n _ _ (by omega)]; exact g5)).trans g5.symm)), (show v2063 398 16 = v 398 16 from ((show v2063 398 16 = nI (n6) from (by rw [e2064, fa_u_n _ _ (by omega)]; exact g6)).trans g6.symm)), (fun A hok hc => by (obtain ⟨p, hp, ep, ei, -⟩ := fb_m_pl1 hc hok h_plm2 c_20; have et : tp = p := fa_nIinj (by omega) (by have := hok.1.1; omega) (etp.symm.trans ep); subst et; have NC : ¬ (a1 < 0 ∨ ¬ a1 < nI 8) := (fun z => fa_in1 h_in_11 c_14 ((fb_m_in7 a1).mpr z)); have m1 : fb_mA (v2063 398) (A.sF tp (7 + jh) ((a3) + (nI (1)))) := (by rw [e2064, Nat.add_assoc (17 + 15 * tp) 7 jh]; exact hc.uF hp (by omega)); rw [fb_sealA_s (y := (a3) + (nI (1))) ei NC (fun z => fa_in1 h_in_41 c_44 (by rw [hc.g (k := 7) (by decide)]; exact z.2)) ejh (by omega) (if_neg c_66).symm]; exact ⟨by (rw [h_bits, h_sealing, m1.msk hp]), m1⟩))⟩, (by rw [e2064]; exact fa_fr.u fa_fr.rf (by omega))⟩⟩)
          · refine lv_sipush (v := nI (10001)) hx hb dX7_seals_69 (by decide) ?_
            refine lv_goto (tgt := 78) hx hb dX7_seals_72 (by decide) ?_
            refine fa_iast (k := 398) (j := 17 + 15 * tp + 7 + jh) CX HX2062 (by omega) rfl (by omega) (by first | decide | assumption) dX7_seals_78 (fun H locs v2072 e2073 HX2074 => ?_)
            refine lv_aload_n hx hb dX7_seals_79 rfl (lv_at hl 1 rfl) ?_
            refine lv_iload hx hb dX7_seals_80 (lv_at hl 0 rfl) ?_
            rw [show x2031 = nI (tp) from etp]
            refine fa_callVip (As := [.int (nI (tp))]) (rest := []) CX HX2074 (r_sealing l G n hn v2072 r hM (show fa_MS (v2072 398) from by rw [e2073]; exact fa_MS.u hS (fa_ok.o (by omega) (by omega) (by omega) (fun p hp => by omega))) (tp) (by omega)) ln_X7_51 (by omega) rfl rfl rfl rfl (Nat.le_of_ble_eq_true rfl) hl.1 ⟨Nat.le_of_ble_eq_true rfl, Nat.le_of_ble_eq_true rfl⟩ ⟨Nat.le_refl _, Nat.le_refl _⟩ dX7_seals_82 (fun x2076 H locs h2075 HX2077 => ?_)
            have h_sealing := h2075
            refine fa_callSip (As := [.int (x2076)]) (rest := []) CX HX2077 (r_bits l G n v2072 r (x2076)) ln_X7_93 rfl rfl (Nat.le_of_ble_eq_true rfl) hl.1 ⟨Nat.le_of_ble_eq_true rfl, Nat.le_of_ble_eq_true rfl⟩ ⟨Nat.le_refl _, Nat.le_refl _⟩ dX7_seals_85 (fun x2079 H locs h2078 HX2080 => ?_)
            have h_bits := h2078
            exact RET _ _ _ _ _ _ _ HX2080 dX7_seals_88 (⟨rfl, ⟨⟨(show fa_MS (v2072 398) from by rw [e2073]; exact fa_MS.u hS (fa_ok.o (by omega) (by omega) (by omega) (fun p hp => by omega))), (show v2072 398 14 = v 398 14 from ((show v2072 398 14 = nI (n4) from (by rw [e2073, fa_u_n _ _ (by omega)]; exact g4)).trans g4.symm)), (show v2072 398 15 = v 398 15 from ((show v2072 398 15 = nI (n5) from (by rw [e2073, fa_u_n _ _ (by omega)]; exact g5)).trans g5.symm)), (show v2072 398 16 = v 398 16 from ((show v2072 398 16 = nI (n6) from (by rw [e2073, fa_u_n _ _ (by omega)]; exact g6)).trans g6.symm)), (fun A hok hc => by (obtain ⟨p, hp, ep, ei, -⟩ := fb_m_pl1 hc hok h_plm2 c_20; have et : tp = p := fa_nIinj (by omega) (by have := hok.1.1; omega) (etp.symm.trans ep); subst et; have NC : ¬ (a1 < 0 ∨ ¬ a1 < nI 8) := (fun z => fa_in1 h_in_11 c_14 ((fb_m_in7 a1).mpr z)); have m1 : fb_mA (v2072 398) (A.sF tp (7 + jh) (nI (10001))) := (by rw [e2073, Nat.add_assoc (17 + 15 * tp) 7 jh]; exact hc.uF hp (by omega)); rw [fb_sealA_s (y := nI (10001)) ei NC (fun z => fa_in1 h_in_41 c_44 (by rw [hc.g (k := 7) (by decide)]; exact z.2)) ejh (by omega) (if_pos (by first | exact c_66 | exact Decidable.not_not.mp c_66)).symm]; exact ⟨by (rw [h_bits, h_sealing, m1.msk hp]), m1⟩))⟩, (by rw [e2073]; exact fa_fr.u fa_fr.rf (by omega))⟩⟩)
        · refine lv_bipush (v := (-2 : Int32)) hx hb dX7_seals_47 (by decide) ?_
          exact RET _ _ _ _ _ _ _ HX2059 dX7_seals_49 (⟨rfl, ⟨⟨hS, (show v 398 14 = v 398 14 from rfl), (show v 398 15 = v 398 15 from rfl), (show v 398 16 = v 398 16 from rfl), (fun A hok hc => by (obtain ⟨p, hp, ep, ei, -⟩ := fb_m_pl1 hc hok h_plm2 c_20; have et : tp = p := fa_nIinj (by omega) (by have := hok.1.1; omega) (etp.symm.trans ep); subst et; have NC : ¬ (a1 < 0 ∨ ¬ a1 < nI 8) := (fun z => fa_in1 h_in_11 c_14 ((fb_m_in7 a1).mpr z)); rw [fb_sealA_b ei NC ⟨c_27, by rw [← hc.g (k := 7) (by decide)]; exact fa_in0 h_in_41 (by first | exact c_44 | exact Decidable.not_not.mp c_44)⟩]; exact ⟨rfl, hc⟩))⟩, fa_fr.rf⟩⟩)
    · refine lv_iconst (v := (-1 : Int32)) hx hb dX7_seals_23 (by decide) ?_
      exact RET _ _ _ _ _ _ _ HX2035 dX7_seals_24 (⟨rfl, ⟨⟨hS, (show v 398 14 = v 398 14 from rfl), (show v 398 15 = v 398 15 from rfl), (show v 398 16 = v 398 16 from rfl), (fun A hok hc => by (rw [fb_sealA_n (fb_m_pl0 hc hok h_plm2 (by first | exact c_20 | exact Decidable.not_not.mp c_20))]; exact ⟨rfl, hc⟩))⟩, fa_fr.rf⟩⟩)
set_option maxHeartbeats 4000000 in
set_option maxRecDepth 100000 in
theorem r_lifts (l : Launch) (G : fa_G) (n : Nat) (hn : 406 ≤ n) (v : fa_V) (r : fa_R) (hM : fa_RM r) (hS : fa_MS (v 398)) (a1 : Int32) (a2 : Int32) : fa_MI l G n yX7_lifts cX7_lifts 4 (some .int) 4 [.ref (fa_B G + (397)), .int (a1), .int (a2)] v r (fa_voi r (fun x v1 => ((fa_MS (v1 398)) ∧ (v1 398 14 = v 398 14) ∧ (v1 398 15 = v 398 15) ∧ (v1 398 16 = v 398 16) ∧ (∀ A, fb_okA A → fb_mA (v 398) A → x = (fb_liftA A a1 a2).1 ∧ fb_mA (v1 398) (fb_liftA A a1 a2).2)) ∧ (fa_fr (398) (399) v v1))) := by
  refine fa_startI (by decide +kernel) (Nat.le_of_ble_eq_true rfl) (fun p e s m args below meth c ls Q CX hl HX RET => ?_)
  have hl : lv_has ls 4 [(0, .ref (fa_B G + (397))), (1, .int (a1)), (2, .int (a2))] := hl
  have hx := CX.1.1
  have hb := CX.1.2.1
  obtain ⟨n4, en4⟩ : ∃ m, m = fa_N (v 398 14) := ⟨_, rfl⟩
  obtain ⟨hn4, g4⟩ := hS.n4 en4
  obtain ⟨n5, en5⟩ : ∃ m, m = fa_N (v 398 15) := ⟨_, rfl⟩
  obtain ⟨hn5, g5⟩ := hS.n5 en5
  obtain ⟨n6, en6⟩ : ∃ m, m = fa_N (v 398 16) := ⟨_, rfl⟩
  obtain ⟨hn6, g6⟩ := hS.n6 en6
  refine lv_aload_n hx hb dX7_lifts_0 rfl (lv_at hl 0 rfl) ?_
  refine lv_iload_n hx hb dX7_lifts_1 rfl (lv_at hl 2 rfl) ?_
  refine fa_callVip (As := [.int (a2)]) (rest := []) CX HX (r_placeOf l G n hn v r hM hS (a2)) ln_X7_60 (by omega) rfl rfl rfl rfl (Nat.le_of_ble_eq_true rfl) hl.1 ⟨Nat.le_of_ble_eq_true rfl, Nat.le_of_ble_eq_true rfl⟩ ⟨Nat.le_refl _, Nat.le_refl _⟩ dX7_lifts_2 (fun x2082 H locs h2081 HX2083 => ?_)
  have h_pl2 := h2081.1
  have h_plm2 := h2081.2
  refine lv_istore_n (lv' := [(3, .int (x2082)), (0, .ref (fa_B G + (397))), (1, .int (a1)), (2, .int (a2))]) hx hb dX7_lifts_5 rfl hl (by decide) rfl (fun ls hl => ?_)
  refine lv_iload_n hx hb dX7_lifts_6 rfl (lv_at hl 2 rfl) ?_
  refine lv_iconst (v := nI (0)) hx hb dX7_lifts_7 (by decide) ?_
  refine lv_bipush (v := nI (7)) hx hb dX7_lifts_8 (by decide) ?_
  refine fa_callSip (As := [.int (a1), .int (nI (0)), .int (nI (7))]) (rest := []) CX HX2083 (r_in l G n v r (a1) (nI (0)) (nI (7))) ln_X7_86 rfl rfl (Nat.le_of_ble_eq_true rfl) hl.1 ⟨Nat.le_of_ble_eq_true rfl, Nat.le_of_ble_eq_true rfl⟩ ⟨Nat.le_refl _, Nat.le_refl _⟩ dX7_lifts_10 (fun x2085 H locs h2084 HX2086 => ?_)
  have h_in_10 := h2084
  refine lv_if_eq (tgt := 38) hx hb dX7_lifts_13 (by decide) (fun c_13 => ?_) (fun c_13 => ?_)
  · refine lv_iconst (v := (-1 : Int32)) hx hb dX7_lifts_38 (by decide) ?_
    exact RET _ _ _ _ _ _ _ HX2086 dX7_lifts_39 (⟨rfl, ⟨⟨hS, (show v 398 14 = v 398 14 from rfl), (show v 398 15 = v 398 15 from rfl), (show v 398 16 = v 398 16 from rfl), (fun A hok hc => by (rw [fb_m_lift0 ((fb_m_in7 a1).mp (fa_in0 h_in_10 c_13))]; exact ⟨rfl, hc⟩))⟩, fa_fr.rf⟩⟩)
  · obtain ⟨jh, hjh, ejh⟩ := fa_inN (by decide) (fa_in1 h_in_10 c_13)
    refine lv_iload_n hx hb dX7_lifts_16 rfl (lv_at hl 0 rfl) ?_
    refine lv_iconst (v := (-1 : Int32)) hx hb dX7_lifts_17 (by decide) ?_
    refine lv_icmp_eq (tgt := 38) hx hb dX7_lifts_18 (by decide) (fun c_18 => ?_) (fun c_18 => ?_)
    · refine lv_iconst (v := (-1 : Int32)) hx hb dX7_lifts_38 (by decide) ?_
      exact RET _ _ _ _ _ _ _ HX2086 dX7_lifts_39 (⟨rfl, ⟨⟨hS, (show v 398 14 = v 398 14 from rfl), (show v 398 15 = v 398 15 from rfl), (show v 398 16 = v 398 16 from rfl), (fun A hok hc => by (rw [fb_liftA_n (fb_m_pl0 hc hok h_plm2 c_18)]; exact ⟨rfl, hc⟩))⟩, fa_fr.rf⟩⟩)
    · obtain ⟨tp, htp, etp⟩ := h_pl2.ne c_18
      refine lv_aload_n hx hb dX7_lifts_21 rfl (lv_at hl 1 rfl) ?_
      refine fa_getr (k := 397) (j := 398) CX HX2086 fl_X7_7 (by omega) rfl rfl hM.1 dX7_lifts_22 ?_
      refine lv_iload_n hx hb dX7_lifts_25 rfl (lv_at hl 0 rfl) ?_
      rw [show x2082 = nI (tp) from etp]
      refine fa_callSip (As := [.int (nI (tp))]) (rest := [.ref (fa_B G + (398))]) CX HX2086 (r_f l G n v r (tp)) ln_X7_36 rfl rfl (Nat.le_of_ble_eq_true rfl) hl.1 ⟨Nat.le_of_ble_eq_true rfl, Nat.le_of_ble_eq_true rfl⟩ ⟨Nat.le_refl _, Nat.le_refl _⟩ dX7_lifts_26 (fun x2088 H locs h2087 HX2089 => ?_)
      subst h2087
      refine lv_bipush (v := nI (7)) hx hb dX7_lifts_29 (by decide) ?_
      refine fa_iaddN hx hb dX7_lifts_31 ?_
      refine lv_iload_n hx hb dX7_lifts_32 rfl (lv_at hl 2 rfl) ?_
      rw [show a1 = nI (jh) from ejh]
      refine fa_iaddN hx hb dX7_lifts_33 ?_
      refine fa_iald (k := 398) (j := 17 + 15 * tp + 7 + jh) CX HX2089 (by omega) rfl (by omega) (by first | decide | assumption) dX7_lifts_34 ?_
      refine lv_if_ne (tgt := 40) hx hb dX7_lifts_35 (by decide) (fun c_35 => ?_) (fun c_35 => ?_)
      · refine lv_aload_n hx hb dX7_lifts_40 rfl (lv_at hl 1 rfl) ?_
        refine fa_getr (k := 397) (j := 398) CX HX2089 fl_X7_7 (by omega) rfl rfl hM.1 dX7_lifts_41 ?_
        refine lv_iload_n hx hb dX7_lifts_44 rfl (lv_at hl 0 rfl) ?_
        rw [show x2082 = nI (tp) from etp]
        refine fa_callSip (As := [.int (nI (tp))]) (rest := [.ref (fa_B G + (398))]) CX HX2089 (r_f l G n v r (tp)) ln_X7_36 rfl rfl (Nat.le_of_ble_eq_true rfl) hl.1 ⟨Nat.le_of_ble_eq_true rfl, Nat.le_of_ble_eq_true rfl⟩ ⟨Nat.le_refl _, Nat.le_refl _⟩ dX7_lifts_45 (fun x2091 H locs h2090 HX2092 => ?_)
        subst h2090
        refine lv_bipush (v := nI (7)) hx hb dX7_lifts_48 (by decide) ?_
        refine fa_iaddN hx hb dX7_lifts_50 ?_
        refine lv_iload_n hx hb dX7_lifts_51 rfl (lv_at hl 2 rfl) ?_
        rw [show a1 = nI (jh) from ejh]
        refine fa_iaddN hx hb dX7_lifts_52 ?_
        refine lv_iconst (v := nI (0)) hx hb dX7_lifts_53 (by decide) ?_
        refine fa_iast (k := 398) (j := 17 + 15 * tp + 7 + jh) CX HX2092 (by omega) rfl (by omega) (by first | decide | assumption) dX7_lifts_54 (fun H locs v2093 e2094 HX2095 => ?_)
        refine lv_aload_n hx hb dX7_lifts_55 rfl (lv_at hl 1 rfl) ?_
        refine lv_iload_n hx hb dX7_lifts_56 rfl (lv_at hl 0 rfl) ?_
        rw [show x2082 = nI (tp) from etp]
        refine fa_callVip (As := [.int (nI (tp))]) (rest := []) CX HX2095 (r_sealing l G n hn v2093 r hM (show fa_MS (v2093 398) from by rw [e2094]; exact fa_MS.u hS (fa_ok.o (by omega) (by omega) (by omega) (fun p hp => by omega))) (tp) (by omega)) ln_X7_51 (by omega) rfl rfl rfl rfl (Nat.le_of_ble_eq_true rfl) hl.1 ⟨Nat.le_of_ble_eq_true rfl, Nat.le_of_ble_eq_true rfl⟩ ⟨Nat.le_refl _, Nat.le_refl _⟩ dX7_lifts_57 (fun x2097 H locs h2096 HX2098 => ?_)
        have h_sealing := h2096
        refine fa_callSip (As := [.int (x2097)]) (rest := []) CX HX2098 (r_bits l G n v2093 r (x2097)) ln_X7_93 rfl rfl (Nat.le_of_ble_eq_true rfl) hl.1 ⟨Nat.le_of_ble_eq_true rfl, Nat.le_of_ble_eq_true rfl⟩ ⟨Nat.le_refl _, Nat.le_refl _⟩ dX7_lifts_60 (fun x2100 H locs h2099 HX2101 => ?_)
        have h_bits := h2099
        exact RET _ _ _ _ _ _ _ HX2101 dX7_lifts_63 (⟨rfl, ⟨⟨(show fa_MS (v2093 398) from by rw [e2094]; exact fa_MS.u hS (fa_ok.o (by omega) (by omega) (by omega) (fun p hp => by omega))), (show v2093 398 14 = v 398 14 from ((show v2093 398 14 = nI (n4) from (by rw [e2094, fa_u_n _ _ (by omega)]; exact g4)).trans g4.symm)), (show v2093 398 15 = v 398 15 from ((show v2093 398 15 = nI (n5) from (by rw [e2094, fa_u_n _ _ (by omega)]; exact g5)).trans g5.symm)), (show v2093 398 16 = v 398 16 from ((show v2093 398 16 = nI (n6) from (by rw [e2094, fa_u_n _ _ (by omega)]; exact g6)).trans g6.symm)), (fun A hok hc => by (obtain ⟨p, hp, ep, ei, -⟩ := fb_m_pl1 hc hok h_plm2 c_18; have et : tp = p := fa_nIinj (by omega) (by have := hok.1.1; omega) (etp.symm.trans ep); subst et; have NC : ¬ (a1 < 0 ∨ ¬ a1 < nI 8) := (fun z => fa_in1 h_in_10 c_13 ((fb_m_in7 a1).mpr z)); have e0 : A.F tp (7 + jh) = v 398 (17 + 15 * tp + 7 + jh) := (by rw [← hc.F hp (i := 7 + jh) (by omega), ← Nat.add_assoc]); have m1 : fb_mA (v2093 398) (A.sF tp (7 + jh) 0) := (by rw [e2094, Nat.add_assoc (17 + 15 * tp) 7 jh]; exact hc.uF hp (by omega)); rw [fb_liftA_s ei NC ejh (by omega) (by rw [e0]; exact c_35)]; exact ⟨by (rw [h_bits, h_sealing, m1.msk hp]), m1⟩))⟩, (by rw [e2094]; exact fa_fr.u fa_fr.rf (by omega))⟩⟩)
      · refine lv_iconst (v := (-1 : Int32)) hx hb dX7_lifts_38 (by decide) ?_
        exact RET _ _ _ _ _ _ _ HX2089 dX7_lifts_39 (⟨rfl, ⟨⟨hS, (show v 398 14 = v 398 14 from rfl), (show v 398 15 = v 398 15 from rfl), (show v 398 16 = v 398 16 from rfl), (fun A hok hc => by (obtain ⟨p, hp, ep, ei, -⟩ := fb_m_pl1 hc hok h_plm2 c_18; have et : tp = p := fa_nIinj (by omega) (by have := hok.1.1; omega) (etp.symm.trans ep); subst et; have NC : ¬ (a1 < 0 ∨ ¬ a1 < nI 8) := (fun z => fa_in1 h_in_10 c_13 ((fb_m_in7 a1).mpr z)); have e0 : A.F tp (7 + jh) = v 398 (17 + 15 * tp + 7 + jh) := (by rw [← hc.F hp (i := 7 + jh) (by omega), ← Nat.add_assoc]); rw [fb_liftA_0 ei NC ejh (by omega) (by rw [e0]; first | exact c_35 | exact Decidable.not_not.mp c_35)]; exact ⟨rfl, hc⟩))⟩, fa_fr.rf⟩⟩)
set_option maxHeartbeats 4000000 in
set_option maxRecDepth 100000 in
theorem r_refers (l : Launch) (G : fa_G) (n : Nat) (hn : 406 ≤ n) (v : fa_V) (r : fa_R) (hM : fa_RM r) (hS : fa_MS (v 398)) (a1 : Int32) (a2 : Int32) : fa_MI l G n yX7_refers cX7_refers 4 (some .int) 4 [.ref (fa_B G + (397)), .int (a1), .int (a2)] v r (fa_voi r (fun x v1 => ((fa_MS (v1 398)) ∧ (v1 398 14 = v 398 14) ∧ (v1 398 15 = v 398 15) ∧ (v1 398 16 = v 398 16) ∧ (∀ A, fb_okA A → fb_mA (v 398) A → x = (fb_refA A a1 a2).1 ∧ fb_mA (v1 398) (fb_refA A a1 a2).2)) ∧ (fa_fr (398) (399) v v1))) := by
  refine fa_startI (by decide +kernel) (Nat.le_of_ble_eq_true rfl) (fun p e s m args below meth c ls Q CX hl HX RET => ?_)
  have hl : lv_has ls 4 [(0, .ref (fa_B G + (397))), (1, .int (a1)), (2, .int (a2))] := hl
  have hx := CX.1.1
  have hb := CX.1.2.1
  obtain ⟨n4, en4⟩ : ∃ m, m = fa_N (v 398 14) := ⟨_, rfl⟩
  obtain ⟨hn4, g4⟩ := hS.n4 en4
  obtain ⟨n5, en5⟩ : ∃ m, m = fa_N (v 398 15) := ⟨_, rfl⟩
  obtain ⟨hn5, g5⟩ := hS.n5 en5
  obtain ⟨n6, en6⟩ : ∃ m, m = fa_N (v 398 16) := ⟨_, rfl⟩
  obtain ⟨hn6, g6⟩ := hS.n6 en6
  refine lv_aload_n hx hb dX7_refers_0 rfl (lv_at hl 0 rfl) ?_
  refine lv_iload_n hx hb dX7_refers_1 rfl (lv_at hl 1 rfl) ?_
  refine fa_callVip (As := [.int (a1)]) (rest := []) CX HX (r_placeOf l G n hn v r hM hS (a1)) ln_X7_60 (by omega) rfl rfl rfl rfl (Nat.le_of_ble_eq_true rfl) hl.1 ⟨Nat.le_of_ble_eq_true rfl, Nat.le_of_ble_eq_true rfl⟩ ⟨Nat.le_refl _, Nat.le_refl _⟩ dX7_refers_2 (fun x2103 H locs h2102 HX2104 => ?_)
  have h_pl2 := h2102.1
  have h_plm2 := h2102.2
  refine lv_istore_n (lv' := [(3, .int (x2103)), (0, .ref (fa_B G + (397))), (1, .int (a1)), (2, .int (a2))]) hx hb dX7_refers_5 rfl hl (by decide) rfl (fun ls hl => ?_)
  refine lv_iload_n hx hb dX7_refers_6 rfl (lv_at hl 0 rfl) ?_
  refine lv_iconst (v := (-1 : Int32)) hx hb dX7_refers_7 (by decide) ?_
  refine lv_icmp_eq (tgt := 20) hx hb dX7_refers_8 (by decide) (fun c_8 => ?_) (fun c_8 => ?_)
  · refine lv_iconst (v := (-1 : Int32)) hx hb dX7_refers_20 (by decide) ?_
    exact RET _ _ _ _ _ _ _ HX2104 dX7_refers_21 (⟨rfl, ⟨⟨hS, (show v 398 14 = v 398 14 from rfl), (show v 398 15 = v 398 15 from rfl), (show v 398 16 = v 398 16 from rfl), (fun A hok hc => by (rw [fb_refA_n (fb_m_pl0 hc hok h_plm2 c_8)]; exact ⟨rfl, hc⟩))⟩, fa_fr.rf⟩⟩)
  · obtain ⟨tp, htp, etp⟩ := h_pl2.ne c_8
    refine lv_aload_n hx hb dX7_refers_11 rfl (lv_at hl 1 rfl) ?_
    refine lv_iload_n hx hb dX7_refers_12 rfl (lv_at hl 3 rfl) ?_
    refine fa_callVip (As := [.int (a2)]) (rest := []) CX HX2104 (r_placeOf l G n hn v r hM hS (a2)) ln_X7_60 (by omega) rfl rfl rfl rfl (Nat.le_of_ble_eq_true rfl) hl.1 ⟨Nat.le_of_ble_eq_true rfl, Nat.le_of_ble_eq_true rfl⟩ ⟨Nat.le_refl _, Nat.le_refl _⟩ dX7_refers_13 (fun x2106 H locs h2105 HX2107 => ?_)
    have h_pl13 := h2105.1
    have h_plm13 := h2105.2
    refine lv_iconst (v := (-1 : Int32)) hx hb dX7_refers_16 (by decide) ?_
    refine lv_icmp_ne (tgt := 22) hx hb dX7_refers_17 (by decide) (fun c_17 => ?_) (fun c_17 => ?_)
    · refine lv_aload_n hx hb dX7_refers_22 rfl (lv_at hl 1 rfl) ?_
      refine fa_getr (k := 397) (j := 398) CX HX2107 fl_X7_7 (by omega) rfl rfl hM.1 dX7_refers_23 ?_
      refine lv_iload_n hx hb dX7_refers_26 rfl (lv_at hl 0 rfl) ?_
      rw [show x2103 = nI (tp) from etp]
      refine fa_callSip (As := [.int (nI (tp))]) (rest := [.ref (fa_B G + (398))]) CX HX2107 (r_f l G n v r (tp)) ln_X7_36 rfl rfl (Nat.le_of_ble_eq_true rfl) hl.1 ⟨Nat.le_of_ble_eq_true rfl, Nat.le_of_ble_eq_true rfl⟩ ⟨Nat.le_refl _, Nat.le_refl _⟩ dX7_refers_27 (fun x2109 H locs h2108 HX2110 => ?_)
      subst h2108
      refine lv_bipush (v := nI (6)) hx hb dX7_refers_30 (by decide) ?_
      refine fa_iaddN hx hb dX7_refers_32 ?_
      refine lv_iload_n hx hb dX7_refers_33 rfl (lv_at hl 3 rfl) ?_
      refine fa_iast (k := 398) (j := 17 + 15 * tp + 6) CX HX2110 (by omega) rfl (by omega) (by first | decide | assumption) dX7_refers_34 (fun H locs v2111 e2112 HX2113 => ?_)
      refine lv_aload_n hx hb dX7_refers_35 rfl (lv_at hl 1 rfl) ?_
      refine lv_iload_n hx hb dX7_refers_36 rfl (lv_at hl 3 rfl) ?_
      refine fa_callVip (As := [.int (a2)]) (rest := []) CX HX2113 (r_referring l G n hn v2111 r hM (show fa_MS (v2111 398) from by rw [e2112]; exact fa_MS.u hS (fa_ok.o (by omega) (by omega) (by omega) (fun p hp => by omega))) (a2)) ln_X7_96 (by omega) rfl rfl rfl rfl (Nat.le_of_ble_eq_true rfl) hl.1 ⟨Nat.le_of_ble_eq_true rfl, Nat.le_of_ble_eq_true rfl⟩ ⟨Nat.le_refl _, Nat.le_refl _⟩ dX7_refers_37 (fun x2115 H locs h2114 HX2116 => ?_)
      have h_referring := h2114
      exact RET _ _ _ _ _ _ _ HX2116 dX7_refers_40 (⟨rfl, ⟨⟨(show fa_MS (v2111 398) from by rw [e2112]; exact fa_MS.u hS (fa_ok.o (by omega) (by omega) (by omega) (fun p hp => by omega))), (show v2111 398 14 = v 398 14 from ((show v2111 398 14 = nI (n4) from (by rw [e2112, fa_u_n _ _ (by omega)]; exact g4)).trans g4.symm)), (show v2111 398 15 = v 398 15 from ((show v2111 398 15 = nI (n5) from (by rw [e2112, fa_u_n _ _ (by omega)]; exact g5)).trans g5.symm)), (show v2111 398 16 = v 398 16 from ((show v2111 398 16 = nI (n6) from (by rw [e2112, fa_u_n _ _ (by omega)]; exact g6)).trans g6.symm)), (fun A hok hc => by (obtain ⟨p, hp, ep, ei, -⟩ := fb_m_pl1 hc hok h_plm2 c_8; obtain ⟨k, -, -, ek, -⟩ := fb_m_pl1 hc hok h_plm13 c_17; have et : tp = p := fa_nIinj (by omega) (by have := hok.1.1; omega) (etp.symm.trans ep); subst et; have m1 : fb_mA (v2111 398) (A.sF tp 6 a2) := (by rw [e2112]; exact hc.uF hp (by decide)); rw [fb_refA_s ei ek]; exact ⟨h_referring.trans (m1.refs a2), m1⟩))⟩, (by rw [e2112]; exact fa_fr.u fa_fr.rf (by omega))⟩⟩)
    · refine lv_iconst (v := (-1 : Int32)) hx hb dX7_refers_20 (by decide) ?_
      exact RET _ _ _ _ _ _ _ HX2107 dX7_refers_21 (⟨rfl, ⟨⟨hS, (show v 398 14 = v 398 14 from rfl), (show v 398 15 = v 398 15 from rfl), (show v 398 16 = v 398 16 from rfl), (fun A hok hc => by (obtain ⟨p, hp, ep, ei, -⟩ := fb_m_pl1 hc hok h_plm2 c_8; rw [fb_refA_m ei (fb_m_pl0 hc hok h_plm13 (by first | exact c_17 | exact Decidable.not_not.mp c_17))]; exact ⟨rfl, hc⟩))⟩, fa_fr.rf⟩⟩)

/-- what find finds -/
def fb_fd (f : Nat → Int32) (a d : Int32) (n : Nat) (x : Int32) : Prop := (x = (-1 : Int32) ∧ ∀ k, k < n → ¬ (f (377 + 2 * k) = a ∧ f (377 + 2 * k + 1) = d)) ∨ ∃ k, k < n ∧ x = nI k ∧ f (377 + 2 * k) = a ∧ f (377 + 2 * k + 1) = d
theorem fb_fd_0 {f : Nat → Int32} {a d : Int32} : fb_fd f a d 0 (-1 : Int32) := Or.inl ⟨rfl, fun k hk => absurd hk (Nat.not_lt_zero _)⟩
theorem fb_fd_t {f : Nat → Int32} {a d : Int32} {j : Nat} (h1 : f (377 + 2 * j) = a) (h2 : f (377 + 2 * j + 1) = d) : fb_fd f a d (j + 1) (nI j) := Or.inr ⟨j, by omega, rfl, h1, h2⟩
theorem fb_fd.f {f : Nat → Int32} {a d x : Int32} {j : Nat} (h : fb_fd f a d j x) (c : ¬ (f (377 + 2 * j) = a ∧ f (377 + 2 * j + 1) = d)) : fb_fd f a d (j + 1) x := by
  rcases h with ⟨h1, h2⟩ | ⟨k, h1, h2⟩
  · refine Or.inl ⟨h1, fun k hk => ?_⟩
    by_cases z : k = j
    · rw [z]; exact c
    · exact h2 k (by omega)
  · exact Or.inr ⟨k, by omega, h2⟩
set_option maxHeartbeats 4000000 in
set_option maxRecDepth 100000 in
theorem r_find (l : Launch) (G : fa_G) (n : Nat) (hn : 406 ≤ n) (v : fa_V) (r : fa_R) (hM : fa_RM r) (hS : fa_MS (v 398)) (a1 : Int32) (a2 : Int32) : fa_MI l G n yX7_find cX7_find 5 (some .int) 1 [.ref (fa_B G + (397)), .int (a1), .int (a2)] v r (fun x w => w = (v, r) ∧ ((fa_pl (fa_N (v 398 15)) x) ∧ fb_fd (v 398) a1 a2 (fa_N (v 398 15)) x)) := by
  refine fa_startI (by decide +kernel) (Nat.le_of_ble_eq_true rfl) (fun p e s m args below meth c ls Q CX hl HX RET => ?_)
  have hl : lv_has ls 5 [(0, .ref (fa_B G + (397))), (1, .int (a1)), (2, .int (a2))] := hl
  have hx := CX.1.1
  have hb := CX.1.2.1
  obtain ⟨n4, en4⟩ : ∃ m, m = fa_N (v 398 14) := ⟨_, rfl⟩
  obtain ⟨hn4, g4⟩ := hS.n4 en4
  obtain ⟨n5, en5⟩ : ∃ m, m = fa_N (v 398 15) := ⟨_, rfl⟩
  obtain ⟨hn5, g5⟩ := hS.n5 en5
  obtain ⟨n6, en6⟩ : ∃ m, m = fa_N (v 398 16) := ⟨_, rfl⟩
  obtain ⟨hn6, g6⟩ := hS.n6 en6
  refine lv_iconst (v := (-1 : Int32)) hx hb dX7_find_0 (by decide) ?_
  refine lv_istore_n (lv' := [(3, .int ((-1 : Int32))), (0, .ref (fa_B G + (397))), (1, .int (a1)), (2, .int (a2))]) hx hb dX7_find_1 rfl hl (by decide) rfl (fun ls hl => ?_)
  refine lv_iconst (v := nI (0)) hx hb dX7_find_2 (by decide) ?_
  refine lv_istore (lv' := [(4, .int (nI (0))), (3, .int ((-1 : Int32))), (0, .ref (fa_B G + (397))), (1, .int (a1)), (2, .int (a2))]) hx hb dX7_find_3 hl (by decide) rfl (fun ls hl => ?_)
  have LOOP_5 : ∀ (fu : Nat) (j : Nat) (fo : Int32) (H : Heap) (locs : List Loc) (ls : Array Slot), n5 - j < fu → (j ≤ n5 ∧ fa_pl n5 fo ∧ fb_fd (v 398) a1 a2 j fo) → lv_has ls 5 [(0, .ref (fa_B G + (397))), (1, .int (a1)), (2, .int (a2)), (3, .int (fo)), (4, .int (nI (j)))] → fa_HX G (n) v r s H locs → W p l e (fa_rm 1) s m args below meth c H locs (0) (0) Q (F0 m 5 ls []) := by
    intro fu
    induction fu with
    | zero => intro j fo H locs ls hk; exact absurd hk (Nat.not_lt_zero _)
    | succ fu ih_5 =>
      intro j fo H locs ls hk_5 hi_5 hl HX2117
      refine lv_iload hx hb dX7_find_5 (lv_at hl 4 rfl) ?_
      refine lv_aload_n hx hb dX7_find_7 rfl (lv_at hl 0 rfl) ?_
      refine fa_getr (k := 397) (j := 398) CX HX2117 fl_X7_7 (by omega) rfl rfl hM.1 dX7_find_8 ?_
      refine lv_bipush (v := nI (15)) hx hb dX7_find_11 (by decide) ?_
      refine fa_iald (k := 398) (j := 15) CX HX2117 (by omega) rfl (by omega) (by first | decide | assumption) dX7_find_13 ?_
      rw [show v 398 15 = nI (n5) from g5]
      refine lv_icmp_ge (tgt := 66) hx hb dX7_find_14 (by decide) (fun c_14 => ?_) (fun c_14 => ?_)
      · have hjn : j = n5 := by
          have := fa_leN (by omega) (by omega) c_14
          omega
        refine lv_iload_n hx hb dX7_find_66 rfl (lv_at hl 3 rfl) ?_
        exact RET _ _ _ _ _ _ _ HX2117 dX7_find_67 (⟨rfl, (by rw [← en5]; exact ⟨hi_5.2.1, (by have z := hi_5.2.2; rw [hjn] at z; exact z)⟩)⟩)
      · have hj := fa_ltN (by omega) (by omega) c_14
        refine lv_aload_n hx hb dX7_find_17 rfl (lv_at hl 0 rfl) ?_
        refine fa_getr (k := 397) (j := 398) CX HX2117 fl_X7_7 (by omega) rfl rfl hM.1 dX7_find_18 ?_
        refine lv_sipush (v := nI (377)) hx hb dX7_find_21 (by decide) ?_
        refine lv_iconst (v := nI (2)) hx hb dX7_find_24 (by decide) ?_
        refine lv_iload hx hb dX7_find_25 (lv_at hl 4 rfl) ?_
        refine fa_imulN hx hb dX7_find_27 ?_
        refine fa_iaddN hx hb dX7_find_28 ?_
        refine fa_iald (k := 398) (j := 377 + (2 * j)) CX HX2117 (by omega) rfl (by omega) (by first | decide | assumption) dX7_find_29 ?_
        refine lv_iload_n hx hb dX7_find_30 rfl (lv_at hl 1 rfl) ?_
        refine lv_icmp_ne (tgt := 58) hx hb dX7_find_31 (by decide) (fun c_31 => ?_) (fun c_31 => ?_)
        · refine lv_iload_n hx hb dX7_find_58 rfl (lv_at hl 3 rfl) ?_
          refine lv_istore_n (lv' := [(3, .int (fo)), (0, .ref (fa_B G + (397))), (1, .int (a1)), (2, .int (a2)), (4, .int (nI (j)))]) hx hb dX7_find_59 rfl hl (by decide) rfl (fun ls hl => ?_)
          refine lv_iinc (v := nI (j + 1)) (lv' := [(4, .int (nI (j + 1))), (3, .int (fo)), (0, .ref (fa_B G + (397))), (1, .int (a1)), (2, .int (a2))]) hx hb dX7_find_60 hl (k := 4) rfl (nI_add (j) 1) (by decide) rfl (fun ls hl => ?_)
          refine lv_goto (tgt := 5) hx hb dX7_find_63 (by decide) ?_
          exact ih_5 (j + 1) (fo)  _ _ _ (by omega) (⟨by omega, hi_5.2.1, hi_5.2.2.f (fun z => c_31 z.1)⟩) (lv_sub hl [2, 3, 4, 1, 0] rfl) HX2117
        · refine lv_aload_n hx hb dX7_find_34 rfl (lv_at hl 0 rfl) ?_
          refine fa_getr (k := 397) (j := 398) CX HX2117 fl_X7_7 (by omega) rfl rfl hM.1 dX7_find_35 ?_
          refine lv_sipush (v := nI (377)) hx hb dX7_find_38 (by decide) ?_
          refine lv_iconst (v := nI (2)) hx hb dX7_find_41 (by decide) ?_
          refine lv_iload hx hb dX7_find_42 (lv_at hl 4 rfl) ?_
          refine fa_imulN hx hb dX7_find_44 ?_
          refine fa_iaddN hx hb dX7_find_45 ?_
          refine lv_iconst (v := nI (1)) hx hb dX7_find_46 (by decide) ?_
          refine fa_iaddN hx hb dX7_find_47 ?_
          refine fa_iald (k := 398) (j := 377 + (2 * j) + 1) CX HX2117 (by omega) rfl (by omega) (by first | decide | assumption) dX7_find_48 ?_
          refine lv_iload_n hx hb dX7_find_49 rfl (lv_at hl 2 rfl) ?_
          refine lv_icmp_ne (tgt := 58) hx hb dX7_find_50 (by decide) (fun c_50 => ?_) (fun c_50 => ?_)
          · refine lv_iload_n hx hb dX7_find_58 rfl (lv_at hl 3 rfl) ?_
            refine lv_istore_n (lv' := [(3, .int (fo)), (0, .ref (fa_B G + (397))), (1, .int (a1)), (2, .int (a2)), (4, .int (nI (j)))]) hx hb dX7_find_59 rfl hl (by decide) rfl (fun ls hl => ?_)
            refine lv_iinc (v := nI (j + 1)) (lv' := [(4, .int (nI (j + 1))), (3, .int (fo)), (0, .ref (fa_B G + (397))), (1, .int (a1)), (2, .int (a2))]) hx hb dX7_find_60 hl (k := 4) rfl (nI_add (j) 1) (by decide) rfl (fun ls hl => ?_)
            refine lv_goto (tgt := 5) hx hb dX7_find_63 (by decide) ?_
            exact ih_5 (j + 1) (fo)  _ _ _ (by omega) (⟨by omega, hi_5.2.1, hi_5.2.2.f (fun z => c_50 z.2)⟩) (lv_sub hl [2, 3, 4, 1, 0] rfl) HX2117
          · refine lv_iload hx hb dX7_find_53 (lv_at hl 4 rfl) ?_
            refine lv_goto (tgt := 59) hx hb dX7_find_55 (by decide) ?_
            refine lv_istore_n (lv' := [(3, .int (nI (j))), (0, .ref (fa_B G + (397))), (1, .int (a1)), (2, .int (a2)), (4, .int (nI (j)))]) hx hb dX7_find_59 rfl hl (by decide) rfl (fun ls hl => ?_)
            refine lv_iinc (v := nI (j + 1)) (lv' := [(4, .int (nI (j + 1))), (3, .int (nI (j))), (0, .ref (fa_B G + (397))), (1, .int (a1)), (2, .int (a2))]) hx hb dX7_find_60 hl (k := 4) rfl (nI_add (j) 1) (by decide) rfl (fun ls hl => ?_)
            refine lv_goto (tgt := 5) hx hb dX7_find_63 (by decide) ?_
            exact ih_5 (j + 1) (nI (j))  _ _ _ (by omega) (⟨by omega, Or.inr ⟨j, by omega, rfl⟩, fb_fd_t (by first | exact c_31 | exact Decidable.not_not.mp c_31) (by first | exact c_50 | exact Decidable.not_not.mp c_50)⟩) (lv_sub hl [2, 3, 4, 1, 0] rfl) HX2117
  exact LOOP_5 (n5 - 0 + 1) (0) ((-1 : Int32))  _ _ _ (Nat.lt_succ_self _) (⟨Nat.zero_le _, Or.inl rfl, fb_fd_0⟩) (lv_sub hl [2, 3, 4, 1, 0] rfl) HX
/-- how many reservations of the first n are ahead of the u-th -/
def fb_ahm (f : Nat → Int32) (u n : Nat) : Int32 := fa_sum (fun k => if f (377 + (2 * k) + 1) - f (377 + (2 * u) + 1) < 0 ∨ (f (377 + (2 * k) + 1) - f (377 + (2 * u) + 1) = 0 ∧ ¬ f (377 + (2 * u)) ≤ f (377 + (2 * k))) then 1 else 0) n
set_option maxHeartbeats 4000000 in
set_option maxRecDepth 100000 in
theorem r_ahead (l : Launch) (G : fa_G) (n : Nat) (hn : 406 ≤ n) (v : fa_V) (r : fa_R) (hM : fa_RM r) (hS : fa_MS (v 398)) (u : Nat) (hu : u < 24) : fa_MI l G n yX7_ahead cX7_ahead 5 (some .int) 1 [.ref (fa_B G + (397)), .int (nI (u))] v r (fun x w => w = (v, r) ∧ (x = fb_ahm (v 398) u (fa_N (v 398 15)))) := by
  refine fa_startI (by decide +kernel) (Nat.le_of_ble_eq_true rfl) (fun p e s m args below meth c ls Q CX hl HX RET => ?_)
  have hl : lv_has ls 5 [(0, .ref (fa_B G + (397))), (1, .int (nI (u)))] := hl
  have hx := CX.1.1
  have hb := CX.1.2.1
  obtain ⟨n4, en4⟩ : ∃ m, m = fa_N (v 398 14) := ⟨_, rfl⟩
  obtain ⟨hn4, g4⟩ := hS.n4 en4
  obtain ⟨n5, en5⟩ : ∃ m, m = fa_N (v 398 15) := ⟨_, rfl⟩
  obtain ⟨hn5, g5⟩ := hS.n5 en5
  obtain ⟨n6, en6⟩ : ∃ m, m = fa_N (v 398 16) := ⟨_, rfl⟩
  obtain ⟨hn6, g6⟩ := hS.n6 en6
  refine lv_iconst (v := nI (0)) hx hb dX7_ahead_0 (by decide) ?_
  refine lv_istore_n (lv' := [(2, .int (nI (0))), (0, .ref (fa_B G + (397))), (1, .int (nI (u)))]) hx hb dX7_ahead_1 rfl hl (by decide) rfl (fun ls hl => ?_)
  refine lv_iconst (v := nI (0)) hx hb dX7_ahead_2 (by decide) ?_
  refine lv_istore_n (lv' := [(3, .int (nI (0))), (2, .int (nI (0))), (0, .ref (fa_B G + (397))), (1, .int (nI (u)))]) hx hb dX7_ahead_3 rfl hl (by decide) rfl (fun ls hl => ?_)
  have LOOP_4 : ∀ (fu : Nat) (j : Nat) (ac : Int32) (H : Heap) (locs : List Loc) (ls : Array Slot), n5 - j < fu → (j ≤ n5 ∧ ac = fa_sum (fun k => if v 398 (377 + (2 * k) + 1) - v 398 (377 + (2 * u) + 1) < 0 ∨ (v 398 (377 + (2 * k) + 1) - v 398 (377 + (2 * u) + 1) = 0 ∧ ¬ v 398 (377 + (2 * u)) ≤ v 398 (377 + (2 * k))) then 1 else 0) j) → lv_has ls 5 [(0, .ref (fa_B G + (397))), (1, .int (nI (u))), (2, .int (ac)), (3, .int (nI (j)))] → fa_HX G (n) v r s H locs → W p l e (fa_rm 1) s m args below meth c H locs (0) (0) Q (F0 m 4 ls []) := by
    intro fu
    induction fu with
    | zero => intro j ac H locs ls hk; exact absurd hk (Nat.not_lt_zero _)
    | succ fu ih_4 =>
      intro j ac H locs ls hk_4 hi_4 hl HX2118
      refine lv_iload_n hx hb dX7_ahead_4 rfl (lv_at hl 3 rfl) ?_
      refine lv_aload_n hx hb dX7_ahead_5 rfl (lv_at hl 0 rfl) ?_
      refine fa_getr (k := 397) (j := 398) CX HX2118 fl_X7_7 (by omega) rfl rfl hM.1 dX7_ahead_6 ?_
      refine lv_bipush (v := nI (15)) hx hb dX7_ahead_9 (by decide) ?_
      refine fa_iald (k := 398) (j := 15) CX HX2118 (by omega) rfl (by omega) (by first | decide | assumption) dX7_ahead_11 ?_
      rw [show v 398 15 = nI (n5) from g5]
      refine lv_icmp_ge (tgt := 97) hx hb dX7_ahead_12 (by decide) (fun c_12 => ?_) (fun c_12 => ?_)
      · have hjn : j = n5 := by
          have := fa_leN (by omega) (by omega) c_12
          omega
        refine lv_iload_n hx hb dX7_ahead_97 rfl (lv_at hl 2 rfl) ?_
        exact RET _ _ _ _ _ _ _ HX2118 dX7_ahead_98 (⟨rfl, (by unfold fb_ahm; rw [← en5, ← hjn]; exact hi_4.2)⟩)
      · have hj := fa_ltN (by omega) (by omega) c_12
        refine lv_aload_n hx hb dX7_ahead_15 rfl (lv_at hl 0 rfl) ?_
        refine fa_getr (k := 397) (j := 398) CX HX2118 fl_X7_7 (by omega) rfl rfl hM.1 dX7_ahead_16 ?_
        refine lv_sipush (v := nI (377)) hx hb dX7_ahead_19 (by decide) ?_
        refine lv_iconst (v := nI (2)) hx hb dX7_ahead_22 (by decide) ?_
        refine lv_iload_n hx hb dX7_ahead_23 rfl (lv_at hl 3 rfl) ?_
        refine fa_imulN hx hb dX7_ahead_24 ?_
        refine fa_iaddN hx hb dX7_ahead_25 ?_
        refine lv_iconst (v := nI (1)) hx hb dX7_ahead_26 (by decide) ?_
        refine fa_iaddN hx hb dX7_ahead_27 ?_
        refine fa_iald (k := 398) (j := 377 + (2 * j) + 1) CX HX2118 (by omega) rfl (by omega) (by first | decide | assumption) dX7_ahead_28 ?_
        refine lv_aload_n hx hb dX7_ahead_29 rfl (lv_at hl 0 rfl) ?_
        refine fa_getr (k := 397) (j := 398) CX HX2118 fl_X7_7 (by omega) rfl rfl hM.1 dX7_ahead_30 ?_
        refine lv_sipush (v := nI (377)) hx hb dX7_ahead_33 (by decide) ?_
        refine lv_iconst (v := nI (2)) hx hb dX7_ahead_36 (by decide) ?_
        refine lv_iload_n hx hb dX7_ahead_37 rfl (lv_at hl 1 rfl) ?_
        refine fa_imulN hx hb dX7_ahead_38 ?_
        refine fa_iaddN hx hb dX7_ahead_39 ?_
        refine lv_iconst (v := nI (1)) hx hb dX7_ahead_40 (by decide) ?_
        refine fa_iaddN hx hb dX7_ahead_41 ?_
        refine fa_iald (k := 398) (j := 377 + (2 * u) + 1) CX HX2118 (by omega) rfl (by omega) (by first | decide | assumption) dX7_ahead_42 ?_
        refine lv_isub hx hb dX7_ahead_43 ?_
        refine lv_istore (lv' := [(4, .int ((v 398 (377 + (2 * j) + 1)) - (v 398 (377 + (2 * u) + 1)))), (0, .ref (fa_B G + (397))), (1, .int (nI (u))), (2, .int (ac)), (3, .int (nI (j)))]) hx hb dX7_ahead_44 hl (by decide) rfl (fun ls hl => ?_)
        refine lv_iload_n hx hb dX7_ahead_46 rfl (lv_at hl 3 rfl) ?_
        refine lv_iload hx hb dX7_ahead_47 (lv_at hl 0 rfl) ?_
        refine lv_if_lt (tgt := 84) hx hb dX7_ahead_49 (by decide) (fun c_49 => ?_) (fun c_49 => ?_)
        · refine lv_iconst (v := nI (1)) hx hb dX7_ahead_84 (by decide) ?_
          refine lv_goto (tgt := 89) hx hb dX7_ahead_85 (by decide) ?_
          refine lv_iadd hx hb dX7_ahead_89 ?_
          refine lv_istore_n (lv' := [(2, .int ((ac) + (nI (1)))), (4, .int ((v 398 (377 + (2 * j) + 1)) - (v 398 (377 + (2 * u) + 1)))), (0, .ref (fa_B G + (397))), (1, .int (nI (u))), (3, .int (nI (j)))]) hx hb dX7_ahead_90 rfl hl (by decide) rfl (fun ls hl => ?_)
          refine lv_iinc (v := nI (j + 1)) (lv' := [(3, .int (nI (j + 1))), (2, .int ((ac) + (nI (1)))), (4, .int ((v 398 (377 + (2 * j) + 1)) - (v 398 (377 + (2 * u) + 1)))), (0, .ref (fa_B G + (397))), (1, .int (nI (u)))]) hx hb dX7_ahead_91 hl (k := 4) rfl (nI_add (j) 1) (by decide) rfl (fun ls hl => ?_)
          refine lv_goto (tgt := 4) hx hb dX7_ahead_94 (by decide) ?_
          exact ih_4 (j + 1) ((ac) + (nI (1)))  _ _ _ (by omega) (⟨by omega, by rw [hi_4.2]; exact fa_sum_t (Or.inl c_49)⟩) (lv_sub hl [3, 4, 1, 0] rfl) HX2118
        · refine lv_iload hx hb dX7_ahead_52 (lv_at hl 0 rfl) ?_
          refine lv_if_ne (tgt := 88) hx hb dX7_ahead_54 (by decide) (fun c_54 => ?_) (fun c_54 => ?_)
          · refine lv_iconst (v := nI (0)) hx hb dX7_ahead_88 (by decide) ?_
            refine lv_iadd hx hb dX7_ahead_89 ?_
            refine lv_istore_n (lv' := [(2, .int ((ac) + (nI (0)))), (4, .int ((v 398 (377 + (2 * j) + 1)) - (v 398 (377 + (2 * u) + 1)))), (0, .ref (fa_B G + (397))), (1, .int (nI (u))), (3, .int (nI (j)))]) hx hb dX7_ahead_90 rfl hl (by decide) rfl (fun ls hl => ?_)
            refine lv_iinc (v := nI (j + 1)) (lv' := [(3, .int (nI (j + 1))), (2, .int ((ac) + (nI (0)))), (4, .int ((v 398 (377 + (2 * j) + 1)) - (v 398 (377 + (2 * u) + 1)))), (0, .ref (fa_B G + (397))), (1, .int (nI (u)))]) hx hb dX7_ahead_91 hl (k := 4) rfl (nI_add (j) 1) (by decide) rfl (fun ls hl => ?_)
            refine lv_goto (tgt := 4) hx hb dX7_ahead_94 (by decide) ?_
            exact ih_4 (j + 1) ((ac) + (nI (0)))  _ _ _ (by omega) (⟨by omega, by rw [hi_4.2]; exact (Int32.add_zero _).trans (fa_sum_f (fun z => z.elim c_49 (fun y => c_54 y.1)))⟩) (lv_sub hl [3, 4, 1, 0] rfl) HX2118
          · refine lv_aload_n hx hb dX7_ahead_57 rfl (lv_at hl 1 rfl) ?_
            refine fa_getr (k := 397) (j := 398) CX HX2118 fl_X7_7 (by omega) rfl rfl hM.1 dX7_ahead_58 ?_
            refine lv_sipush (v := nI (377)) hx hb dX7_ahead_61 (by decide) ?_
            refine lv_iconst (v := nI (2)) hx hb dX7_ahead_64 (by decide) ?_
            refine lv_iload_n hx hb dX7_ahead_65 rfl (lv_at hl 4 rfl) ?_
            refine fa_imulN hx hb dX7_ahead_66 ?_
            refine fa_iaddN hx hb dX7_ahead_67 ?_
            refine fa_iald (k := 398) (j := 377 + (2 * j)) CX HX2118 (by omega) rfl (by omega) (by first | decide | assumption) dX7_ahead_68 ?_
            refine lv_aload_n hx hb dX7_ahead_69 rfl (lv_at hl 1 rfl) ?_
            refine fa_getr (k := 397) (j := 398) CX HX2118 fl_X7_7 (by omega) rfl rfl hM.1 dX7_ahead_70 ?_
            refine lv_sipush (v := nI (377)) hx hb dX7_ahead_73 (by decide) ?_
            refine lv_iconst (v := nI (2)) hx hb dX7_ahead_76 (by decide) ?_
            refine lv_iload_n hx hb dX7_ahead_77 rfl (lv_at hl 2 rfl) ?_
            refine fa_imulN hx hb dX7_ahead_78 ?_
            refine fa_iaddN hx hb dX7_ahead_79 ?_
            refine fa_iald (k := 398) (j := 377 + (2 * u)) CX HX2118 (by omega) rfl (by omega) (by first | decide | assumption) dX7_ahead_80 ?_
            refine lv_icmp_ge (tgt := 88) hx hb dX7_ahead_81 (by decide) (fun c_81 => ?_) (fun c_81 => ?_)
            · refine lv_iconst (v := nI (0)) hx hb dX7_ahead_88 (by decide) ?_
              refine lv_iadd hx hb dX7_ahead_89 ?_
              refine lv_istore_n (lv' := [(2, .int ((ac) + (nI (0)))), (4, .int ((v 398 (377 + (2 * j) + 1)) - (v 398 (377 + (2 * u) + 1)))), (0, .ref (fa_B G + (397))), (1, .int (nI (u))), (3, .int (nI (j)))]) hx hb dX7_ahead_90 rfl hl (by decide) rfl (fun ls hl => ?_)
              refine lv_iinc (v := nI (j + 1)) (lv' := [(3, .int (nI (j + 1))), (2, .int ((ac) + (nI (0)))), (4, .int ((v 398 (377 + (2 * j) + 1)) - (v 398 (377 + (2 * u) + 1)))), (0, .ref (fa_B G + (397))), (1, .int (nI (u)))]) hx hb dX7_ahead_91 hl (k := 4) rfl (nI_add (j) 1) (by decide) rfl (fun ls hl => ?_)
              refine lv_goto (tgt := 4) hx hb dX7_ahead_94 (by decide) ?_
              exact ih_4 (j + 1) ((ac) + (nI (0)))  _ _ _ (by omega) (⟨by omega, by rw [hi_4.2]; exact (Int32.add_zero _).trans (fa_sum_f (fun z => z.elim c_49 (fun y => y.2 c_81)))⟩) (lv_sub hl [3, 4, 1, 0] rfl) HX2118
            · refine lv_iconst (v := nI (1)) hx hb dX7_ahead_84 (by decide) ?_
              refine lv_goto (tgt := 89) hx hb dX7_ahead_85 (by decide) ?_
              refine lv_iadd hx hb dX7_ahead_89 ?_
              refine lv_istore_n (lv' := [(2, .int ((ac) + (nI (1)))), (4, .int ((v 398 (377 + (2 * j) + 1)) - (v 398 (377 + (2 * u) + 1)))), (0, .ref (fa_B G + (397))), (1, .int (nI (u))), (3, .int (nI (j)))]) hx hb dX7_ahead_90 rfl hl (by decide) rfl (fun ls hl => ?_)
              refine lv_iinc (v := nI (j + 1)) (lv' := [(3, .int (nI (j + 1))), (2, .int ((ac) + (nI (1)))), (4, .int ((v 398 (377 + (2 * j) + 1)) - (v 398 (377 + (2 * u) + 1)))), (0, .ref (fa_B G + (397))), (1, .int (nI (u)))]) hx hb dX7_ahead_91 hl (k := 4) rfl (nI_add (j) 1) (by decide) rfl (fun ls hl => ?_)
              refine lv_goto (tgt := 4) hx hb dX7_ahead_94 (by decide) ?_
              exact ih_4 (j + 1) ((ac) + (nI (1)))  _ _ _ (by omega) (⟨by omega, by rw [hi_4.2]; exact fa_sum_t (Or.inr ⟨(by first | exact c_54 | exact Decidable.not_not.mp c_54), c_81⟩)⟩) (lv_sub hl [3, 4, 1, 0] rfl) HX2118
  exact LOOP_4 (n5 - 0 + 1) (0) (nI (0))  _ _ _ (Nat.lt_succ_self _) (⟨Nat.zero_le _, rfl⟩) (lv_sub hl [2, 3, 1, 0] rfl) HX
