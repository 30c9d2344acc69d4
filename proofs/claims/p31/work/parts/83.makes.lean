set_option maxHeartbeats 4000000 in
set_option maxRecDepth 100000 in
theorem k_X3_init (l : Launch) (G : fa_G) (b : Nat) (hB : b ∈ fa_bs) (v : fa_V) (r : fa_R) (hz : fa_Z0 (b + 1) v r) : fa_MN l G (b + 1) yX3_init cX3_init 2 2 55 520 [.ref (fa_B G + (b))] v r (fun w => (∀ k, ¬ k = b + 7 → w.1 k = v k) ∧ (∀ i, i < 7 → w.1 (b + 7) i = fa_stV 0 i) ∧ fb_RS1 w.2 b ∧ ∀ q, ¬ (b ≤ q ∧ q < b + 56) → w.2 q = r q) := by
  refine fa_startN (by decide +kernel) (Nat.le_of_ble_eq_true rfl) (by decide +kernel) (fun p e s m args below meth c ls Q CX hl HX hsz hmn RET => ?_)
  have hl : lv_has ls 2 [(0, .ref (fa_B G + (b)))] := hl
  have hx := CX.1.1
  have hb := CX.1.2.1
  refine lv_aload_n hx hb dX3_init_0 rfl (lv_at hl 0 rfl) ?_
  refine fa_objInit CX oi_X3_3 hl.1 dX3_init_1 (Nat.le_of_ble_eq_true rfl) (Nat.le_of_ble_eq_true rfl) ?_
  refine lv_aload_n hx hb dX3_init_4 rfl (lv_at hl 0 rfl) ?_
  refine lv_bipush (v := nI (24)) hx hb dX3_init_5 (by decide) ?_
  refine fa_newq (len := 24) (t := 3) CX HX cl_X3_9 CX.2.2.2.2.1 rfl (by decide) (by omega) (fa_s1 hB) (fun i => by (exact (hz (b + 1) (by omega)).2 i)) (by decide) (by show 0 + 1 ≤ 55; first | decide | omega) (by show 0 + 24 ≤ 520; first | decide | omega) dX3_init_7 (fun H HX318 => ?_)
  have HX318 : fa_HX G (b + 2) v r s _ _ := HX318
  refine W.widen (k := 1) (n := 24) (by first | exact Nat.le_refl _ | omega) (by first | exact Nat.le_refl _ | omega) ?_
  refine fa_putr (k := b) (q := b + 1) CX HX318 fl_X3_11 own_3 hmn (by omega) (fa_s0 hB) rfl rfl rfl dX3_init_10 (fun H locs r319 er320 HX321 => ?_)
  refine lv_aload_n hx hb dX3_init_13 rfl (lv_at hl 0 rfl) ?_
  refine fa_new (N := 3) CX HX321 mk_X3_17 (by omega) (fa_s2 hB) (fun i => by (exact (hz (b + 2) (by omega)).1 i)) (fun i => by (rw [er320, fa_u_n _ _ (by omega)]; exact (hz (b + 2) (by omega)).2 i)) (by show 1 + 1 ≤ 55; first | decide | omega) (by show 24 + 3 ≤ 520; first | decide | omega) dX3_init_14 (fun H HX322 => ?_)
  have HX322 : fa_HX G (b + 3) v r319 s _ _ := HX322
  refine W.widen (k := 2) (n := 27) (by first | exact Nat.le_refl _ | omega) (by first | exact Nat.le_refl _ | omega) ?_
  refine lv_dup hx hb dX3_init_17 rfl ?_
  refine fa_ctorN (rest := [.ref (fa_B G + (b + 2)), .ref (fa_B G + (b))]) CX HX322 (k_X2_init l G (b + 2) v r319 (fun q hq => ⟨fun i => by (exact (hz q (by omega)).1 i), fun i => by (rw [er320, fa_u_n _ _ (by omega)]; exact (hz q (by omega)).2 i)⟩) (fa_s2 hB) (fa_s3 hB) (fa_s4 hB)) (by decide +kernel) ln_X3_19 ⟨by decide +kernel, by decide +kernel, by decide +kernel, by decide +kernel⟩ (by omega) (Nat.le_of_ble_eq_true rfl) hl.1 ⟨Nat.le_of_ble_eq_true rfl, Nat.le_of_ble_eq_true rfl⟩ ⟨by show 2 + 2 ≤ 55; first | decide | omega, by show 27 + 16 ≤ 520; first | decide | omega⟩ dX3_init_18 (fun v323 r324 H locs h325 HX326 => ?_)
  obtain ⟨ev_r324, er_r324⟩ := Prod.mk.inj h325
  rw [ev_r324] at HX326
  have HX326 : fa_HX G (b + 5) v r324 s _ _ := HX326
  refine W.widen (k := 4) (n := 43) (by first | exact Nat.le_refl _ | omega) (by first | exact Nat.le_refl _ | omega) ?_
  refine fa_putr (k := b) (q := b + 2) CX HX326 fl_X3_20 own_3 hmn (by omega) (fa_s0 hB) rfl rfl rfl dX3_init_21 (fun H locs r327 er328 HX329 => ?_)
  refine lv_aload_n hx hb dX3_init_24 rfl (lv_at hl 0 rfl) ?_
  refine fa_new (N := 2) CX HX329 mk_X3_24 (by omega) (fa_s5 hB) (fun i => by (exact (hz (b + 5) (by omega)).1 i)) (fun i => by (rw [er328, fa_u_n _ _ (by omega)]; rw [er_r324, fa_u_n _ _ (by omega), fa_u_n _ _ (by omega)]; rw [er320, fa_u_n _ _ (by omega)]; exact (hz (b + 5) (by omega)).2 i)) (by show 4 + 1 ≤ 55; first | decide | omega) (by show 43 + 2 ≤ 520; first | decide | omega) dX3_init_25 (fun H HX330 => ?_)
  have HX330 : fa_HX G (b + 6) v r327 s _ _ := HX330
  refine W.widen (k := 5) (n := 45) (by first | exact Nat.le_refl _ | omega) (by first | exact Nat.le_refl _ | omega) ?_
  refine lv_dup hx hb dX3_init_28 rfl ?_
  refine fa_ctorN (rest := [.ref (fa_B G + (b + 5)), .ref (fa_B G + (b))]) CX HX330 (k_X5_init l G (b + 5) v r327 (fun q hq => ⟨fun i => by (exact (hz q (by omega)).1 i), fun i => by (rw [er328, fa_u_n _ _ (by omega)]; rw [er_r324, fa_u_n _ _ (by omega), fa_u_n _ _ (by omega)]; rw [er320, fa_u_n _ _ (by omega)]; exact (hz q (by omega)).2 i)⟩) (fa_s5 hB) (fa_s6 hB)) (by decide +kernel) ln_X3_26 ⟨by decide +kernel, by decide +kernel, by decide +kernel, by decide +kernel⟩ (by omega) (Nat.le_of_ble_eq_true rfl) hl.1 ⟨Nat.le_of_ble_eq_true rfl, Nat.le_of_ble_eq_true rfl⟩ ⟨by show 5 + 1 ≤ 55; first | decide | omega, by show 45 + 60 ≤ 520; first | decide | omega⟩ dX3_init_29 (fun v331 r332 H locs h333 HX334 => ?_)
  obtain ⟨ev_r332, er_r332⟩ := Prod.mk.inj h333
  rw [ev_r332] at HX334
  have HX334 : fa_HX G (b + 7) v r332 s _ _ := HX334
  refine W.widen (k := 6) (n := 105) (by first | exact Nat.le_refl _ | omega) (by first | exact Nat.le_refl _ | omega) ?_
  refine fa_putr (k := b) (q := b + 5) CX HX334 fl_X3_27 own_3 hmn (by omega) (fa_s0 hB) rfl rfl rfl dX3_init_32 (fun H locs r335 er336 HX337 => ?_)
  refine lv_aload_n hx hb dX3_init_35 rfl (lv_at hl 0 rfl) ?_
  refine lv_bipush (v := nI (7)) hx hb dX3_init_36 (by decide) ?_
  refine fa_newa (len := 7) (t := 0) (ty := .int) CX HX337 aw_int rfl rfl (by decide) rfl (by decide) (by omega) (fa_s7 hB) (fun i => by (exact (hz (b + 7) (by omega)).1 i)) (by decide) (by show 6 + 1 ≤ 55; first | decide | omega) (by show 105 + 7 ≤ 520; first | decide | omega) dX3_init_38 (fun H HX338 => ?_)
  have HX338 : fa_HX G (b + 8) v r335 s _ _ := HX338
  refine W.widen (k := 7) (n := 112) (by first | exact Nat.le_refl _ | omega) (by first | exact Nat.le_refl _ | omega) ?_
  refine fa_putr (k := b) (q := b + 7) CX HX338 fl_X3_31 own_3 hmn (by omega) (fa_s0 hB) rfl rfl rfl dX3_init_40 (fun H locs r339 er340 HX341 => ?_)
  refine lv_iconst (v := nI (0)) hx hb dX3_init_43 (by decide) ?_
  refine lv_istore_n (lv' := [(1, .int (nI (0))), (0, .ref (fa_B G + (b)))]) hx hb dX3_init_44 rfl hl (by decide) rfl (fun ls hl => ?_)
  have LOOP_45 : ∀ (fu : Nat) (j : Nat) (r342 : fa_R) (H : Heap) (locs : List Loc) (ls : Array Slot), 24 - j < fu → (j ≤ 24 ∧ (r342 b 8 = some (b + 1) ∧ r342 b 9 = some (b + 2) ∧ r342 b 10 = some (b + 5) ∧ r342 b 11 = some (b + 7) ∧ r342 (b + 2) 1 = some (b + 3) ∧ r342 (b + 2) 2 = some (b + 4) ∧ r342 (b + 5) 1 = some (b + 6)) ∧ (∀ p, p < j → r342 (b + 1) p = some (b + 8 + 2 * p)) ∧ (∀ p, p < j → r342 (b + 8 + 2 * p) 7 = some (b + 9 + 2 * p)) ∧ ∀ q, ¬ (b ≤ q ∧ q < b + 8 + 2 * j) → r342 q = r q) → lv_has ls 2 [(0, .ref (fa_B G + (b))), (1, .int (nI (j)))] → fa_HX G (b + 8 + 2 * j) v r342 s H locs → W p l e ({ frames := 2, cells := 55, slots := 520, locals := 34 * 2 }) s m args below meth c H locs (7 + 2 * j) (112 + 17 * j) Q (F0 m 45 ls []) := by
    intro fu
    induction fu with
    | zero => intro j r342 H locs ls hk; exact absurd hk (Nat.not_lt_zero _)
    | succ fu ih_45 =>
      intro j r342 H locs ls hk_45 hi_45 hl HX343
      refine lv_iload_n hx hb dX3_init_45 rfl (lv_at hl 1 rfl) ?_
      refine lv_bipush (v := nI (24)) hx hb dX3_init_46 (by decide) ?_
      refine lv_icmp_ge (tgt := 70) hx hb dX3_init_48 (by decide) (fun c_48 => ?_) (fun c_48 => ?_)
      · have hj24 : j = 24 := by
          have := (nI_leI (by omega) (by omega)).mp c_48
          omega
        subst hj24
        refine fa_getst (j := 0) CX HX343 (by decide) (by decide +kernel) dX3_init_70 ?_
        refine lv_iconst (v := nI (0)) hx hb dX3_init_73 (by decide) ?_
        refine lv_aload_n hx hb dX3_init_74 rfl (lv_at hl 0 rfl) ?_
        refine fa_getr (k := b) (j := b + 7) CX HX343 fl_X3_31 (by omega) (fa_s0 hB) rfl hi_45.2.1.2.2.2.1 dX3_init_75 ?_
        refine lv_iconst (v := nI (0)) hx hb dX3_init_78 (by decide) ?_
        refine lv_bipush (v := nI (7)) hx hb dX3_init_79 (by decide) ?_
        refine fa_copyS (j := 0) (k1 := b + 7) (sp := 0) (dp := 0) (cnt := 7) CX HX343 fa_cpl_X3_39 fa_cpn fa_cps fa_cpi hl.1 (by decide) (by omega) (fa_s7 hB) (by decide) (by decide) (by first | decide | assumption) (Nat.le_of_ble_eq_true rfl) (by decide +kernel) dX3_init_81 (fun H locs v344 e345 HX346 => ?_)
        exact RET _ _ _ _ _ _ HX346 dX3_init_84 (⟨(fun k hk => by (show v344 k = v k; rw [e345]; funext i; simp [hk])), (fun i hi => by (show v344 (b + 7) i = fa_stV 0 i; rw [e345]; show (if b + 7 = b + 7 then va_cpy (fa_stV 0) (v (b + 7)) 0 0 7 i else _) = _; rw [if_pos rfl, pk_cpy_in (Nat.zero_le _) (by omega)]; congr 1; omega)), ⟨⟨hi_45.2.1.1, hi_45.2.1.2.1, hi_45.2.1.2.2.1, hi_45.2.1.2.2.2.1, hi_45.2.1.2.2.2.2.1, hi_45.2.1.2.2.2.2.2.1, hi_45.2.1.2.2.2.2.2.2, (fun p hp => ⟨p, hp, hi_45.2.2.1 p hp⟩), (fun j hj => hi_45.2.2.2.1 j hj)⟩, hi_45.2.2.1⟩, (fun q hq => hi_45.2.2.2.2 q (by omega))⟩)
      · have h_j := fa_ltN (by omega) (by omega) c_48
        refine lv_aload_n hx hb dX3_init_51 rfl (lv_at hl 0 rfl) ?_
        refine fa_getr (k := b) (j := b + 1) CX HX343 fl_X3_11 (by omega) (fa_s0 hB) rfl hi_45.2.1.1 dX3_init_52 ?_
        refine lv_iload_n hx hb dX3_init_55 rfl (lv_at hl 1 rfl) ?_
        refine fa_new (N := 9) CX HX343 mk_X3_9 (by omega) (fa_sf hB h_j) (fun i => by (exact (hz (b + 8 + 2 * j) (by omega)).1 i)) (fun i => by (rw [hi_45.2.2.2.2 (b + 8 + 2 * j) (by omega)]; exact (hz (b + 8 + 2 * j) (by omega)).2 i)) (by show 7 + 2 * j + 1 ≤ 55; first | decide | omega) (by show 112 + 17 * j + 9 ≤ 520; first | decide | omega) dX3_init_56 (fun H HX347 => ?_)
        have HX347 : fa_HX G (b + 8 + 2 * j + 1) v r342 s _ _ := HX347
        refine W.widen (k := 7 + 2 * j + 1) (n := 112 + 17 * j + 9) (by first | exact Nat.le_refl _ | omega) (by first | exact Nat.le_refl _ | omega) ?_
        refine lv_dup hx hb dX3_init_59 rfl ?_
        refine fa_ctorN (rest := [.ref (fa_B G + (b + 8 + 2 * j)), .int (nI (j)), .ref (fa_B G + (b + 1))]) CX HX347 (k_X4_init l G (b + 8 + 2 * j) v r342 (fun q hq => ⟨fun i => by (exact (hz q (by omega)).1 i), fun i => by (rw [hi_45.2.2.2.2 q (by omega)]; exact (hz q (by omega)).2 i)⟩) (fa_sf hB h_j) (by rw [show b + 8 + 2 * j + 1 = b + 9 + 2 * j by omega]; exact fa_se hB h_j)) (by decide +kernel) ln_X3_35 ⟨by decide +kernel, by decide +kernel, by decide +kernel, by decide +kernel⟩ (by omega) (Nat.le_of_ble_eq_true rfl) hl.1 ⟨Nat.le_of_ble_eq_true rfl, Nat.le_of_ble_eq_true rfl⟩ ⟨by show 7 + 2 * j + 1 + 1 ≤ 55; first | decide | omega, by show 112 + 17 * j + 9 + 8 ≤ 520; first | decide | omega⟩ dX3_init_60 (fun v348 r349 H locs h350 HX351 => ?_)
        obtain ⟨ev_r349, er_r349⟩ := Prod.mk.inj h350
        rw [ev_r349] at HX351
        have HX351 : fa_HX G (b + 8 + 2 * j + 2) v r349 s _ _ := HX351
        refine W.widen (k := 7 + 2 * j + 2) (n := 112 + 17 * j + 17) (by first | exact Nat.le_refl _ | omega) (by first | exact Nat.le_refl _ | omega) ?_
        refine fa_aast (k := b + 1) (j := j) (q := b + 8 + 2 * j) CX HX351 (by omega) (fa_s1 hB) rfl (by decide) (by omega) (by first | decide | assumption) (by omega) (fa_sf hB h_j) rfl dX3_init_63 (fun H locs r352 e353 HX354 => ?_)
        refine lv_iinc (v := nI (j + 1)) (lv' := [(1, .int (nI (j + 1))), (0, .ref (fa_B G + (b)))]) hx hb dX3_init_64 hl (k := 1) rfl (nI_add (j) 1) (by decide) rfl (fun ls hl => ?_)
        refine lv_goto (tgt := 45) hx hb dX3_init_67 (by decide) ?_
        refine W.widen (k := 7 + 2 * (j + 1)) (n := 112 + 17 * (j + 1)) (by omega) (by omega) ?_
        exact ih_45 (j + 1) r352 _ _ _ (by omega) (⟨by omega, ⟨(by rw [e353, fa_u_n _ _ (by omega), er_r349, fa_u_n _ _ (by omega)]; exact hi_45.2.1.1), (by rw [e353, fa_u_n _ _ (by omega), er_r349, fa_u_n _ _ (by omega)]; exact hi_45.2.1.2.1), (by rw [e353, fa_u_n _ _ (by omega), er_r349, fa_u_n _ _ (by omega)]; exact hi_45.2.1.2.2.1), (by rw [e353, fa_u_n _ _ (by omega), er_r349, fa_u_n _ _ (by omega)]; exact hi_45.2.1.2.2.2.1), (by rw [e353, fa_u_n _ _ (by omega), er_r349, fa_u_n _ _ (by omega)]; exact hi_45.2.1.2.2.2.2.1), (by rw [e353, fa_u_n _ _ (by omega), er_r349, fa_u_n _ _ (by omega)]; exact hi_45.2.1.2.2.2.2.2.1), (by rw [e353, fa_u_n _ _ (by omega), er_r349, fa_u_n _ _ (by omega)]; exact hi_45.2.1.2.2.2.2.2.2)⟩, (fun p hp => by (by_cases z : p = j; (rw [z, e353, fa_u_s]); rw [e353, fa_u_n _ _ (by omega), er_r349, fa_u_n _ _ (by omega)]; exact hi_45.2.2.1 p (by omega))), (fun p hp => by (by_cases z : p = j; (rw [z, e353, fa_u_n _ _ (by omega), er_r349, fa_u_s]; congr 1; omega); rw [e353, fa_u_n _ _ (by omega), er_r349, fa_u_n _ _ (by omega)]; exact hi_45.2.2.2.1 p (by omega))), (fun q hq => by (rw [e353, fa_u_k _ _ (by omega), er_r349, fa_u_k _ _ (by omega)]; exact hi_45.2.2.2.2 q (by omega)))⟩) (lv_sub hl [1, 0] rfl) HX354
  refine W.widen (k := 7 + 2 * 0) (n := 112 + 17 * 0) (by omega) (by omega) ?_
  exact LOOP_45 (24 - 0 + 1) (0) r339 _ _ _ (Nat.lt_succ_self _) (⟨Nat.zero_le _, ⟨(by simp [er340, er336, er_r332, er328, er_r324, er320, fa_u]), (by simp [er340, er336, er_r332, er328, er_r324, er320, fa_u]), (by simp [er340, er336, er_r332, er328, er_r324, er320, fa_u]), (by simp [er340, er336, er_r332, er328, er_r324, er320, fa_u]), (by simp [er340, er336, er_r332, er328, er_r324, er320, fa_u]), (by simp [er340, er336, er_r332, er328, er_r324, er320, fa_u]), (by simp [er340, er336, er_r332, er328, er_r324, er320, fa_u])⟩, (fun p hp => absurd hp (Nat.not_lt_zero _)), (fun p hp => absurd hp (Nat.not_lt_zero _)), (fun q hq => by (rw [er340, fa_u_k _ _ (by omega)]; rw [er336, fa_u_k _ _ (by omega)]; rw [er_r332, fa_u_k _ _ (by omega)]; rw [er328, fa_u_k _ _ (by omega)]; rw [er_r324, fa_u_k _ _ (by omega), fa_u_k _ _ (by omega)]; rw [er320, fa_u_k _ _ (by omega)]))⟩) (lv_sub hl [1, 0] rfl) HX341
