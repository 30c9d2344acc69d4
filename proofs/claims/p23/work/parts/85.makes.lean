set_option maxHeartbeats 4000000 in
set_option maxRecDepth 100000 in
theorem k_X0_init (l : Launch) (G : fa_G) (v : fa_V) (r : fa_R) (hz : fa_Z0 114 v r) : fa_MN l G (114) yX0_init cX0_init 2 3 281 2665 [.ref (fa_B G + (113))] v r (fun w => (∀ k, ¬ (115 ≤ k ∧ k < 395) → w.1 k = v k) ∧ (∀ k, ¬ (113 ≤ k ∧ k < 395) → w.2 k = r k) ∧ w.2 113 1 = some 114 ∧ (∀ i, i < 5 → w.2 114 i = some (115 + 56 * i)) ∧ (∀ i, i < 5 → fb_RS1 w.2 (115 + 56 * i)) ∧ ∀ q, (∀ p, p < 5 → ¬ q = 115 + 56 * p + 7) → w.1 q = v q) := by
  refine fa_startN (by decide +kernel) (Nat.le_of_ble_eq_true rfl) (by decide +kernel) (fun p e s m args below meth c ls Q CX hl HX hsz hmn RET => ?_)
  have hl : lv_has ls 2 [(0, .ref (fa_B G + (113)))] := hl
  have hx := CX.1.1
  have hb := CX.1.2.1
  refine lv_aload_n hx hb dX0_init_0 rfl (lv_at hl 0 rfl) ?_
  refine fa_objInit CX oi_X0_3 hl.1 dX0_init_1 (Nat.le_of_ble_eq_true rfl) (Nat.le_of_ble_eq_true rfl) ?_
  refine lv_aload_n hx hb dX0_init_4 rfl (lv_at hl 0 rfl) ?_
  refine lv_iconst (v := nI (5)) hx hb dX0_init_5 (by decide) ?_
  refine fa_newq (len := 5) (t := 4) CX HX cl_X0_9 CX.2.2.2.2.2.1 rfl (by decide) (by omega) rfl (fun i => by (exact (hz (114) (by omega)).2 i)) (by decide) (by show 0 + 1 ≤ 281; first | decide | omega) (by show 0 + 5 ≤ 2665; first | decide | omega) dX0_init_6 (fun H HX777 => ?_)
  have HX777 : fa_HX G (115) v r s _ _ := HX777
  refine W.widen (k := 1) (n := 5) (by first | exact Nat.le_refl _ | omega) (by first | exact Nat.le_refl _ | omega) ?_
  refine fa_putr (k := 113) (q := 114) CX HX777 fl_X0_11 own_0 hmn (by omega) rfl rfl rfl rfl dX0_init_9 (fun H locs r778 er779 HX780 => ?_)
  refine lv_iconst (v := nI (0)) hx hb dX0_init_12 (by decide) ?_
  refine lv_istore_n (lv' := [(1, .int (nI (0))), (0, .ref (fa_B G + (113)))]) hx hb dX0_init_13 rfl hl (by decide) rfl (fun ls hl => ?_)
  have LOOP_14 : ∀ (fu : Nat) (j : Nat) (v781 : fa_V) (r782 : fa_R) (H : Heap) (locs : List Loc) (ls : Array Slot), 5 - j < fu → (j ≤ 5 ∧ r782 113 1 = some 114 ∧ (∀ p, p < j → r782 114 p = some (115 + 56 * p)) ∧ (∀ p, p < j → fb_RS1 r782 (115 + 56 * p)) ∧ (∀ q, ¬ (113 ≤ q ∧ q < 115 + 56 * j) → r782 q = r q) ∧ (∀ q, ¬ (115 ≤ q ∧ q < 115 + 56 * j) → v781 q = v q) ∧ ∀ q, (∀ p, p < j → ¬ q = 115 + 56 * p + 7) → v781 q = v q) → lv_has ls 2 [(0, .ref (fa_B G + (113))), (1, .int (nI (j)))] → fa_HX G (115 + 56 * j) v781 r782 s H locs → W p l e ({ frames := 3, cells := 281, slots := 2665, locals := 34 * 3 }) s m args below meth c H locs (1 + 56 * j) (5 + 532 * j) Q (F0 m 14 ls []) := by
    intro fu
    induction fu with
    | zero => intro j v781 r782 H locs ls hk; exact absurd hk (Nat.not_lt_zero _)
    | succ fu ih_14 =>
      intro j v781 r782 H locs ls hk_14 hi_14 hl HX783
      refine lv_iload_n hx hb dX0_init_14 rfl (lv_at hl 1 rfl) ?_
      refine lv_iconst (v := nI (4)) hx hb dX0_init_15 (by decide) ?_
      refine lv_icmp_gt (tgt := 38) hx hb dX0_init_16 (by decide) (fun c_16 => ?_) (fun c_16 => ?_)
      · have hj5 : j = 5 := by
          have := (nI_ltI (by omega) (by omega)).mp c_16
          omega
        subst hj5
        exact RET _ _ _ _ _ _ HX783 dX0_init_38 (⟨(fun k hk => hi_14.2.2.2.2.2.1 k (by omega)), (fun k hk => hi_14.2.2.2.2.1 k (by omega)), hi_14.2.1, hi_14.2.2.1, hi_14.2.2.2.1, hi_14.2.2.2.2.2.2⟩)
      · have hj5 : j < 5 := Nat.lt_succ_of_le (fa_nltN (by omega) (by omega) c_16)
        refine lv_aload_n hx hb dX0_init_19 rfl (lv_at hl 0 rfl) ?_
        refine fa_getr (k := 113) (j := 114) CX HX783 fl_X0_11 (by omega) rfl rfl hi_14.2.1 dX0_init_20 ?_
        refine lv_iload_n hx hb dX0_init_23 rfl (lv_at hl 1 rfl) ?_
        refine fa_new (N := 12) CX HX783 mk_X0_9 (by omega) (fa_s0 (fa_bsH j hj5)) (fun i => by (rw [hi_14.2.2.2.2.2.1 (115 + 56 * j) (by omega)]; exact (hz (115 + 56 * j) (by omega)).1 i)) (fun i => by (rw [hi_14.2.2.2.2.1 (115 + 56 * j) (by omega)]; exact (hz (115 + 56 * j) (by omega)).2 i)) (by show 1 + 56 * j + 1 ≤ 281; first | decide | omega) (by show 5 + 532 * j + 12 ≤ 2665; first | decide | omega) dX0_init_24 (fun H HX784 => ?_)
        have HX784 : fa_HX G (115 + 56 * j + 1) v781 r782 s _ _ := HX784
        refine W.widen (k := 1 + 56 * j + 1) (n := 5 + 532 * j + 12) (by first | exact Nat.le_refl _ | omega) (by first | exact Nat.le_refl _ | omega) ?_
        refine lv_dup hx hb dX0_init_27 rfl ?_
        refine fa_ctorI (rest := [.ref (fa_B G + (115 + 56 * j)), .int (nI (j)), .ref (fa_B G + (114))]) CX HX784 (k_X3_init l G (115 + 56 * j) (fa_bsH j hj5) v781 r782 (fun q hq => ⟨fun i => by (rw [hi_14.2.2.2.2.2.1 q (by omega)]; exact (hz q (by omega)).1 i), fun i => by (rw [hi_14.2.2.2.2.1 q (by omega)]; exact (hz q (by omega)).2 i)⟩)) ln_X0_17 ⟨by decide +kernel, by decide +kernel, by decide +kernel, by decide +kernel⟩ (by omega) (Nat.le_of_ble_eq_true rfl) hl.1 ⟨Nat.le_of_ble_eq_true rfl, Nat.le_of_ble_eq_true rfl⟩ ⟨by show 1 + 56 * j + 1 + 55 ≤ 281; first | decide | omega, by show 5 + 532 * j + 12 + 520 ≤ 2665; first | decide | omega⟩ dX0_init_28 (fun v785 r786 H locs h787 HX788 => ?_)
        dsimp only at h787
        have hs_r786 := h787
        have HX788 : fa_HX G (115 + 56 * j + 56) v785 r786 s _ _ := HX788
        refine W.widen (k := 1 + 56 * j + 56) (n := 5 + 532 * j + 532) (by first | exact Nat.le_refl _ | omega) (by first | exact Nat.le_refl _ | omega) ?_
        refine fa_aast (k := 114) (j := j) (q := 115 + 56 * j) CX HX788 (by omega) rfl rfl (by decide) (by omega) (by first | decide | assumption) (by omega) (fa_s0 (fa_bsH j hj5)) rfl dX0_init_31 (fun H locs r789 e790 HX791 => ?_)
        refine lv_iinc (v := nI (j + 1)) (lv' := [(1, .int (nI (j + 1))), (0, .ref (fa_B G + (113)))]) hx hb dX0_init_32 hl (k := 1) rfl (nI_add (j) 1) (by decide) rfl (fun ls hl => ?_)
        refine lv_goto (tgt := 14) hx hb dX0_init_35 (by decide) ?_
        refine W.widen (k := 1 + 56 * (j + 1)) (n := 5 + 532 * (j + 1)) (by omega) (by omega) ?_
        exact ih_14 (j + 1) v785 r789 _ _ _ (by omega) (⟨by omega, (by rw [e790, fa_u_n _ _ (by omega), hs_r786.2.2.2 113 (by omega)]; exact hi_14.2.1), (fun p hp => by (by_cases z : p = j; (rw [z, e790, fa_u_s]); rw [e790, fa_u_n _ _ (by omega), hs_r786.2.2.2 114 (by omega)]; exact hi_14.2.2.1 p (by omega))), (fun p hp => by (by_cases z : p = j; (rw [z]; exact fb_RS1_cong (fun q h1 h2 => by rw [e790, fa_u_k _ _ (by omega)]) hs_r786.2.2.1); exact fb_RS1_cong (fun q h1 h2 => by rw [e790, fa_u_k _ _ (by omega), hs_r786.2.2.2 q (by omega)]) (hi_14.2.2.2.1 p (by omega)))), (fun q hq => by (rw [e790, fa_u_k _ _ (by omega), hs_r786.2.2.2 q (by omega)]; exact hi_14.2.2.2.2.1 q (by omega))), (fun q hq => by (rw [hs_r786.1 q (by omega)]; exact hi_14.2.2.2.2.2.1 q (by omega))), (fun q hq => by (rw [hs_r786.1 q (by have := hq j (by omega); omega)]; exact hi_14.2.2.2.2.2.2 q (fun p hp => hq p (by omega))))⟩) (lv_sub hl [1, 0] rfl) HX791
  refine W.widen (k := 1 + 56 * 0) (n := 5 + 532 * 0) (by omega) (by omega) ?_
  exact LOOP_14 (5 - 0 + 1) (0) v r778 _ _ _ (Nat.lt_succ_self _) (⟨Nat.zero_le _, (by rw [er779, fa_u_s]), (fun p hp => absurd hp (Nat.not_lt_zero _)), (fun p hp => absurd hp (Nat.not_lt_zero _)), (fun q hq => by (rw [er779, fa_u_k _ _ (by omega)])), (fun q _ => rfl), fun q _ => rfl⟩) (lv_sub hl [1, 0] rfl) HX780
set_option maxHeartbeats 4000000 in
set_option maxRecDepth 100000 in
theorem k_X6_init (l : Launch) (G : fa_G) (v : fa_V) (r : fa_R) (hz : fa_Z0 1 v r) (h00 : ∀ i, v 0 i = 0) : fa_MN l G (1) yX6_init cX6_init 1 4 396 3797 [.ref (fa_B G + (0))] v r (fun w => fa_RA w.2 ∧ (∀ i, i < 5 → w.2 114 i = some (115 + 56 * i)) ∧ fb_RS1 w.2 1 ∧ fb_RS1 w.2 57 ∧ (∀ i, i < 5 → fb_RS1 w.2 (115 + 56 * i)) ∧ fa_FV w.1 ∧ fa_Z0 397 w.1 w.2 ∧ ∀ k, 1 ≤ k → k < 397 → ¬ k = 8 → ¬ k = 64 → (∀ p, p < 5 → ¬ k = 115 + 56 * p + 7) → ∀ i, w.1 k i = 0) := by
  refine fa_startN (by decide +kernel) (Nat.le_of_ble_eq_true rfl) (by decide +kernel) (fun p e s m args below meth c ls Q CX hl HX hsz hmn RET => ?_)
  have hl : lv_has ls 1 [(0, .ref (fa_B G + (0)))] := hl
  have hx := CX.1.1
  have hb := CX.1.2.1
  refine lv_aload_n hx hb dX6_init_0 rfl (lv_at hl 0 rfl) ?_
  refine fa_objInit CX oi_X6_1 hl.1 dX6_init_1 (Nat.le_of_ble_eq_true rfl) (Nat.le_of_ble_eq_true rfl) ?_
  refine lv_aload_n hx hb dX6_init_4 rfl (lv_at hl 0 rfl) ?_
  refine fa_new (N := 12) CX HX mk_X6_7 (by omega) (fa_s0 (by decide)) (fun i => by (exact (hz (1) (by omega)).1 i)) (fun i => by (exact (hz (1) (by omega)).2 i)) (by show 0 + 1 ≤ 396; first | decide | omega) (by show 0 + 12 ≤ 3797; first | decide | omega) dX6_init_5 (fun H HX792 => ?_)
  have HX792 : fa_HX G (2) v r s _ _ := HX792
  refine W.widen (k := 1) (n := 12) (by first | exact Nat.le_refl _ | omega) (by first | exact Nat.le_refl _ | omega) ?_
  refine lv_dup hx hb dX6_init_8 rfl ?_
  refine fa_ctorI (rest := [.ref (fa_B G + (1)), .ref (fa_B G + (0))]) CX HX792 (k_X3_init l G 1 (by decide) v r (fun q hq => ⟨fun i => by (exact (hz q (by omega)).1 i), fun i => by (exact (hz q (by omega)).2 i)⟩)) ln_X6_9 ⟨by decide +kernel, by decide +kernel, by decide +kernel, by decide +kernel⟩ (by omega) (Nat.le_of_ble_eq_true rfl) hl.1 ⟨Nat.le_of_ble_eq_true rfl, Nat.le_of_ble_eq_true rfl⟩ ⟨by show 1 + 55 ≤ 396; first | decide | omega, by show 12 + 520 ≤ 3797; first | decide | omega⟩ dX6_init_9 (fun v793 r794 H locs h795 HX796 => ?_)
  dsimp only at h795
  have hs_r794 := h795
  have HX796 : fa_HX G (57) v793 r794 s _ _ := HX796
  refine W.widen (k := 56) (n := 532) (by first | exact Nat.le_refl _ | omega) (by first | exact Nat.le_refl _ | omega) ?_
  refine fa_putr (k := 0) (q := 1) CX HX796 fl_X6_10 own_6 hmn (by omega) rfl rfl rfl rfl dX6_init_12 (fun H locs r797 er798 HX799 => ?_)
  refine lv_aload_n hx hb dX6_init_15 rfl (lv_at hl 0 rfl) ?_
  refine fa_new (N := 12) CX HX799 mk_X6_7 (by omega) (fa_s0 (by decide)) (fun i => by (rw [h795.1 (57) (by omega)]; exact (hz (57) (by omega)).1 i)) (fun i => by (rw [er798, fa_u_n _ _ (by omega)]; rw [h795.2.2.2 (57) (by omega)]; exact (hz (57) (by omega)).2 i)) (by show 56 + 1 ≤ 396; first | decide | omega) (by show 532 + 12 ≤ 3797; first | decide | omega) dX6_init_16 (fun H HX800 => ?_)
  have HX800 : fa_HX G (58) v793 r797 s _ _ := HX800
  refine W.widen (k := 57) (n := 544) (by first | exact Nat.le_refl _ | omega) (by first | exact Nat.le_refl _ | omega) ?_
  refine lv_dup hx hb dX6_init_19 rfl ?_
  refine fa_ctorI (rest := [.ref (fa_B G + (57)), .ref (fa_B G + (0))]) CX HX800 (k_X3_init l G 57 (by decide) v793 r797 (fun q hq => ⟨fun i => by (rw [h795.1 q (by omega)]; exact (hz q (by omega)).1 i), fun i => by (rw [er798, fa_u_k _ _ (by omega)]; rw [h795.2.2.2 q (by omega)]; exact (hz q (by omega)).2 i)⟩)) ln_X6_9 ⟨by decide +kernel, by decide +kernel, by decide +kernel, by decide +kernel⟩ (by omega) (Nat.le_of_ble_eq_true rfl) hl.1 ⟨Nat.le_of_ble_eq_true rfl, Nat.le_of_ble_eq_true rfl⟩ ⟨by show 57 + 55 ≤ 396; first | decide | omega, by show 544 + 520 ≤ 3797; first | decide | omega⟩ dX6_init_20 (fun v801 r802 H locs h803 HX804 => ?_)
  dsimp only at h803
  have hs_r802 := h803
  have HX804 : fa_HX G (113) v801 r802 s _ _ := HX804
  refine W.widen (k := 112) (n := 1064) (by first | exact Nat.le_refl _ | omega) (by first | exact Nat.le_refl _ | omega) ?_
  refine fa_putr (k := 0) (q := 57) CX HX804 fl_X6_16 own_6 hmn (by omega) rfl rfl rfl rfl dX6_init_23 (fun H locs r805 er806 HX807 => ?_)
  refine lv_aload_n hx hb dX6_init_26 rfl (lv_at hl 0 rfl) ?_
  refine fa_new (N := 2) CX HX807 mk_X6_19 (by omega) rfl (fun i => by (rw [h803.1 (113) (by omega)]; rw [h795.1 (113) (by omega)]; exact (hz (113) (by omega)).1 i)) (fun i => by (rw [er806, fa_u_n _ _ (by omega)]; rw [h803.2.2.2 (113) (by omega)]; rw [er798, fa_u_n _ _ (by omega)]; rw [h795.2.2.2 (113) (by omega)]; exact (hz (113) (by omega)).2 i)) (by show 112 + 1 ≤ 396; first | decide | omega) (by show 1064 + 2 ≤ 3797; first | decide | omega) dX6_init_27 (fun H HX808 => ?_)
  have HX808 : fa_HX G (114) v801 r805 s _ _ := HX808
  refine W.widen (k := 113) (n := 1066) (by first | exact Nat.le_refl _ | omega) (by first | exact Nat.le_refl _ | omega) ?_
  refine lv_dup hx hb dX6_init_30 rfl ?_
  refine fa_ctorI (rest := [.ref (fa_B G + (113)), .ref (fa_B G + (0))]) CX HX808 (k_X0_init l G v801 r805 (fun q hq => ⟨fun i => by (rw [h803.1 q (by omega)]; rw [h795.1 q (by omega)]; exact (hz q (by omega)).1 i), fun i => by (rw [er806, fa_u_k _ _ (by omega)]; rw [h803.2.2.2 q (by omega)]; rw [er798, fa_u_k _ _ (by omega)]; rw [h795.2.2.2 q (by omega)]; exact (hz q (by omega)).2 i)⟩)) ln_X6_21 ⟨by decide +kernel, by decide +kernel, by decide +kernel, by decide +kernel⟩ (by omega) (Nat.le_of_ble_eq_true rfl) hl.1 ⟨Nat.le_of_ble_eq_true rfl, Nat.le_of_ble_eq_true rfl⟩ ⟨by show 113 + 281 ≤ 396; first | decide | omega, by show 1066 + 2665 ≤ 3797; first | decide | omega⟩ dX6_init_31 (fun v809 r810 H locs h811 HX812 => ?_)
  dsimp only at h811
  have hh_r810 := h811
  have HX812 : fa_HX G (395) v809 r810 s _ _ := HX812
  refine W.widen (k := 394) (n := 3731) (by first | exact Nat.le_refl _ | omega) (by first | exact Nat.le_refl _ | omega) ?_
  refine fa_putr (k := 0) (q := 113) CX HX812 fl_X6_22 own_6 hmn (by omega) rfl rfl rfl rfl dX6_init_34 (fun H locs r813 er814 HX815 => ?_)
  refine lv_aload_n hx hb dX6_init_37 rfl (lv_at hl 0 rfl) ?_
  refine fa_new (N := 6) CX HX815 mk_X6_26 (by omega) rfl (fun i => by (rw [h811.1 (395) (by omega)]; rw [h803.1 (395) (by omega)]; rw [h795.1 (395) (by omega)]; exact (hz (395) (by omega)).1 i)) (fun i => by (rw [er814, fa_u_n _ _ (by omega)]; rw [h811.2.1 (395) (by omega)]; rw [er806, fa_u_n _ _ (by omega)]; rw [h803.2.2.2 (395) (by omega)]; rw [er798, fa_u_n _ _ (by omega)]; rw [h795.2.2.2 (395) (by omega)]; exact (hz (395) (by omega)).2 i)) (by show 394 + 1 ≤ 396; first | decide | omega) (by show 3731 + 6 ≤ 3797; first | decide | omega) dX6_init_38 (fun H HX816 => ?_)
  have HX816 : fa_HX G (396) v809 r813 s _ _ := HX816
  refine W.widen (k := 395) (n := 3737) (by first | exact Nat.le_refl _ | omega) (by first | exact Nat.le_refl _ | omega) ?_
  refine lv_dup hx hb dX6_init_41 rfl ?_
  refine fa_ctorN (rest := [.ref (fa_B G + (395)), .ref (fa_B G + (0))]) CX HX816 (k_X1_init l G (395) v809 r813 (fun q hq => ⟨fun i => by (rw [h811.1 q (by omega)]; rw [h803.1 q (by omega)]; rw [h795.1 q (by omega)]; exact (hz q (by omega)).1 i), fun i => by (rw [er814, fa_u_k _ _ (by omega)]; rw [h811.2.1 q (by omega)]; rw [er806, fa_u_k _ _ (by omega)]; rw [h803.2.2.2 q (by omega)]; rw [er798, fa_u_k _ _ (by omega)]; rw [h795.2.2.2 q (by omega)]; exact (hz q (by omega)).2 i)⟩) rfl rfl) (by decide +kernel) ln_X6_28 ⟨by decide +kernel, by decide +kernel, by decide +kernel, by decide +kernel⟩ (by omega) (Nat.le_of_ble_eq_true rfl) hl.1 ⟨Nat.le_of_ble_eq_true rfl, Nat.le_of_ble_eq_true rfl⟩ ⟨by show 395 + 1 ≤ 396; first | decide | omega, by show 3737 + 60 ≤ 3797; first | decide | omega⟩ dX6_init_42 (fun v817 r818 H locs h819 HX820 => ?_)
  obtain ⟨ev_r818, er_r818⟩ := Prod.mk.inj h819
  rw [ev_r818] at HX820
  have HX820 : fa_HX G (397) v809 r818 s _ _ := HX820
  refine W.widen (k := 396) (n := 3797) (by first | exact Nat.le_refl _ | omega) (by first | exact Nat.le_refl _ | omega) ?_
  refine fa_putr (k := 0) (q := 395) CX HX820 fl_X6_29 own_6 hmn (by omega) rfl rfl rfl rfl dX6_init_45 (fun H locs r821 er822 HX823 => ?_)
  exact RET _ _ _ _ _ _ HX823 dX6_init_48 (⟨⟨(by (show r821 0 0 = _; try (first | rw [er822, fa_u_n _ _ (by omega)] | rw [er822, fa_u_s]); try (first | rw [er_r818, fa_u_n _ _ (by omega)] | rw [er_r818, fa_u_s]); try (first | rw [er814, fa_u_n _ _ (by omega)] | rw [er814, fa_u_s]); try rw [h811.2.1 0 (by omega)]; try (first | rw [er806, fa_u_n _ _ (by omega)] | rw [er806, fa_u_s]); try rw [h803.2.2.2 0 (by omega)]; try (first | rw [er798, fa_u_n _ _ (by omega)] | rw [er798, fa_u_s]); try rw [h795.2.2.2 0 (by omega)])), (by (show r821 0 1 = _; try (first | rw [er822, fa_u_n _ _ (by omega)] | rw [er822, fa_u_s]); try (first | rw [er_r818, fa_u_n _ _ (by omega)] | rw [er_r818, fa_u_s]); try (first | rw [er814, fa_u_n _ _ (by omega)] | rw [er814, fa_u_s]); try rw [h811.2.1 0 (by omega)]; try (first | rw [er806, fa_u_n _ _ (by omega)] | rw [er806, fa_u_s]); try rw [h803.2.2.2 0 (by omega)]; try (first | rw [er798, fa_u_n _ _ (by omega)] | rw [er798, fa_u_s]); try rw [h795.2.2.2 0 (by omega)])), (by (show r821 0 2 = _; try (first | rw [er822, fa_u_n _ _ (by omega)] | rw [er822, fa_u_s]); try (first | rw [er_r818, fa_u_n _ _ (by omega)] | rw [er_r818, fa_u_s]); try (first | rw [er814, fa_u_n _ _ (by omega)] | rw [er814, fa_u_s]); try rw [h811.2.1 0 (by omega)]; try (first | rw [er806, fa_u_n _ _ (by omega)] | rw [er806, fa_u_s]); try rw [h803.2.2.2 0 (by omega)]; try (first | rw [er798, fa_u_n _ _ (by omega)] | rw [er798, fa_u_s]); try rw [h795.2.2.2 0 (by omega)])), (by (show r821 0 3 = _; try (first | rw [er822, fa_u_n _ _ (by omega)] | rw [er822, fa_u_s]); try (first | rw [er_r818, fa_u_n _ _ (by omega)] | rw [er_r818, fa_u_s]); try (first | rw [er814, fa_u_n _ _ (by omega)] | rw [er814, fa_u_s]); try rw [h811.2.1 0 (by omega)]; try (first | rw [er806, fa_u_n _ _ (by omega)] | rw [er806, fa_u_s]); try rw [h803.2.2.2 0 (by omega)]; try (first | rw [er798, fa_u_n _ _ (by omega)] | rw [er798, fa_u_s]); try rw [h795.2.2.2 0 (by omega)])), (by (show r821 113 1 = _; try (first | rw [er822, fa_u_n _ _ (by omega)] | rw [er822, fa_u_s]); try (first | rw [er_r818, fa_u_n _ _ (by omega)] | rw [er_r818, fa_u_s]); try (first | rw [er814, fa_u_n _ _ (by omega)] | rw [er814, fa_u_s]); exact hh_r810.2.2.1)), (by (show r821 395 0 = _; try (first | rw [er822, fa_u_n _ _ (by omega)] | rw [er822, fa_u_s]); try (first | rw [er_r818, fa_u_n _ _ (by omega)] | rw [er_r818, fa_u_s]); try (first | rw [er814, fa_u_n _ _ (by omega)] | rw [er814, fa_u_s]); try rw [h811.2.1 395 (by omega)]; try (first | rw [er806, fa_u_n _ _ (by omega)] | rw [er806, fa_u_s]); try rw [h803.2.2.2 395 (by omega)]; try (first | rw [er798, fa_u_n _ _ (by omega)] | rw [er798, fa_u_s]); try rw [h795.2.2.2 395 (by omega)]))⟩, (fun i hi => by (show r821 114 i = _; try (first | rw [er822, fa_u_n _ _ (by omega)] | rw [er822, fa_u_s]); try (first | rw [er_r818, fa_u_n _ _ (by omega)] | rw [er_r818, fa_u_s]); try (first | rw [er814, fa_u_n _ _ (by omega)] | rw [er814, fa_u_s]); exact hh_r810.2.2.2.1 i hi)), (fb_RS1_cong (fun q h1 h2 => by (show r821 q = r794 q; rw [er822, fa_u_k _ _ (by omega)]; rw [er_r818, fa_u_k _ _ (by omega)]; rw [er814, fa_u_k _ _ (by omega)]; rw [h811.2.1 q (by omega)]; rw [er806, fa_u_k _ _ (by omega)]; rw [h803.2.2.2 q (by omega)]; rw [er798, fa_u_k _ _ (by omega)])) hs_r794.2.2.1), (fb_RS1_cong (fun q h1 h2 => by (show r821 q = r802 q; rw [er822, fa_u_k _ _ (by omega)]; rw [er_r818, fa_u_k _ _ (by omega)]; rw [er814, fa_u_k _ _ (by omega)]; rw [h811.2.1 q (by omega)]; rw [er806, fa_u_k _ _ (by omega)])) hs_r802.2.2.1), (fun i hi => fb_RS1_cong (fun q h1 h2 => by (show r821 q = r810 q; rw [er822, fa_u_k _ _ (by omega)]; rw [er_r818, fa_u_k _ _ (by omega)]; rw [er814, fa_u_k _ _ (by omega)])) (hh_r810.2.2.2.2.1 i hi)), ⟨(by (show v809 113 _ = 0; rw [h811.1 113 (by omega)]; rw [h803.1 113 (by omega)]; rw [h795.1 113 (by omega)]; exact (hz _ (by omega)).1 _)), (fun i _ => (by (show v809 1 _ = 0; rw [h811.1 1 (by omega)]; rw [h803.1 1 (by omega)]; rw [h795.1 1 (by omega)]; exact (hz _ (by omega)).1 _))), (by (show v809 (1 + 2) _ = 0; rw [h811.1 (1 + 2) (by omega)]; rw [h803.1 (1 + 2) (by omega)]; rw [h795.1 (1 + 2) (by omega)]; exact (hz _ (by omega)).1 _)), (by (show v809 (1 + 5) _ = 0; rw [h811.1 (1 + 5) (by omega)]; rw [h803.1 (1 + 5) (by omega)]; rw [h795.1 (1 + 5) (by omega)]; exact (hz _ (by omega)).1 _)), (fun i hi => by (show v809 (1 + 7) i = _; rw [h811.1 (1 + 7) (by omega)]; rw [h803.1 (1 + 7) (by omega)]; exact hs_r794.2.1 i hi)), (by (show v809 395 _ = 0; rw [h811.1 395 (by omega)]; rw [h803.1 395 (by omega)]; rw [h795.1 395 (by omega)]; exact (hz _ (by omega)).1 _)), (by (show v809 0 6 = 0; rw [h811.1 0 (by omega)]; rw [h803.1 0 (by omega)]; rw [h795.1 0 (by omega)]; exact h00 6))⟩, (fun q hq => ⟨fun i => by (show v809 q i = 0; rw [h811.1 q (by omega)]; rw [h803.1 q (by omega)]; rw [h795.1 q (by omega)]; exact (hz q (by omega)).1 i), fun i => by (show r821 q i = none; rw [er822, fa_u_k _ _ (by omega)]; rw [er_r818, fa_u_k _ _ (by omega)]; rw [er814, fa_u_k _ _ (by omega)]; rw [h811.2.1 q (by omega)]; rw [er806, fa_u_k _ _ (by omega)]; rw [h803.2.2.2 q (by omega)]; rw [er798, fa_u_k _ _ (by omega)]; rw [h795.2.2.2 q (by omega)]; exact (hz q (by omega)).2 i)⟩), (fun k h0 h397 h8 h64 hp i => by (show v809 k i = 0; rw [hh_r810.2.2.2.2.2 k hp]; rw [h803.1 k (by omega)]; rw [h795.1 k (by omega)]; exact (hz k (by omega)).1 i))⟩)
set_option maxHeartbeats 4000000 in
set_option maxRecDepth 100000 in
theorem k_X7_init (l : Launch) (G : fa_G) (v : fa_V) (r : fa_R) (hz : fa_Z0 398 v r) : fa_MN l G (398) yX7_init cX7_init 1 2 8 3382 [.ref (fa_B G + (397))] v r (fun w => fa_RM w.2 ∧ (∀ k, ¬ k = 398 → w.1 k = v k) ∧ (∀ i, 7 ≤ i → w.1 398 i = 0) ∧ (∀ i, i < 7 → w.1 398 i = fa_stV 0 i) ∧ ∀ q, ¬ q = 397 → w.2 q = r q) := by
  refine fa_startN (by decide +kernel) (Nat.le_of_ble_eq_true rfl) (by decide +kernel) (fun p e s m args below meth c ls Q CX hl HX hsz hmn RET => ?_)
  have hl : lv_has ls 1 [(0, .ref (fa_B G + (397)))] := hl
  have hx := CX.1.1
  have hb := CX.1.2.1
  refine lv_aload_n hx hb dX7_init_0 rfl (lv_at hl 0 rfl) ?_
  refine fa_objInit CX oi_X7_1 hl.1 dX7_init_1 (Nat.le_of_ble_eq_true rfl) (Nat.le_of_ble_eq_true rfl) ?_
  refine lv_aload_n hx hb dX7_init_4 rfl (lv_at hl 0 rfl) ?_
  refine lv_sipush (v := nI (453)) hx hb dX7_init_5 (by decide) ?_
  refine fa_newa (len := 453) (t := 0) (ty := .int) CX HX aw_int rfl rfl (by decide) rfl (by decide) (by omega) rfl (fun i => by (exact (hz (398) (by omega)).1 i)) (by decide) (by show 0 + 1 ≤ 8; first | decide | omega) (by show 0 + 453 ≤ 3382; first | decide | omega) dX7_init_8 (fun H HX824 => ?_)
  have HX824 : fa_HX G (399) v r s _ _ := HX824
  refine W.widen (k := 1) (n := 453) (by first | exact Nat.le_refl _ | omega) (by first | exact Nat.le_refl _ | omega) ?_
  refine fa_putr (k := 397) (q := 398) CX HX824 fl_X7_7 own_7 hmn (by omega) rfl rfl rfl rfl dX7_init_10 (fun H locs r825 er826 HX827 => ?_)
  refine lv_aload_n hx hb dX7_init_13 rfl (lv_at hl 0 rfl) ?_
  refine lv_sipush (v := nI (453)) hx hb dX7_init_14 (by decide) ?_
  refine fa_newa (len := 453) (t := 0) (ty := .int) CX HX827 aw_int rfl rfl (by decide) rfl (by decide) (by omega) rfl (fun i => by (exact (hz (399) (by omega)).1 i)) (by decide) (by show 1 + 1 ≤ 8; first | decide | omega) (by show 453 + 453 ≤ 3382; first | decide | omega) dX7_init_17 (fun H HX828 => ?_)
  have HX828 : fa_HX G (400) v r825 s _ _ := HX828
  refine W.widen (k := 2) (n := 906) (by first | exact Nat.le_refl _ | omega) (by first | exact Nat.le_refl _ | omega) ?_
  refine fa_putr (k := 397) (q := 399) CX HX828 fl_X7_13 own_7 hmn (by omega) rfl rfl rfl rfl dX7_init_19 (fun H locs r829 er830 HX831 => ?_)
  refine lv_aload_n hx hb dX7_init_22 rfl (lv_at hl 0 rfl) ?_
  refine lv_sipush (v := nI (453)) hx hb dX7_init_23 (by decide) ?_
  refine fa_newa (len := 453) (t := 0) (ty := .int) CX HX831 aw_int rfl rfl (by decide) rfl (by decide) (by omega) rfl (fun i => by (exact (hz (400) (by omega)).1 i)) (by decide) (by show 2 + 1 ≤ 8; first | decide | omega) (by show 906 + 453 ≤ 3382; first | decide | omega) dX7_init_26 (fun H HX832 => ?_)
  have HX832 : fa_HX G (401) v r829 s _ _ := HX832
  refine W.widen (k := 3) (n := 1359) (by first | exact Nat.le_refl _ | omega) (by first | exact Nat.le_refl _ | omega) ?_
  refine fa_putr (k := 397) (q := 400) CX HX832 fl_X7_16 own_7 hmn (by omega) rfl rfl rfl rfl dX7_init_28 (fun H locs r833 er834 HX835 => ?_)
  refine lv_aload_n hx hb dX7_init_31 rfl (lv_at hl 0 rfl) ?_
  refine lv_sipush (v := nI (1812)) hx hb dX7_init_32 (by decide) ?_
  refine fa_newa (len := 1812) (t := 0) (ty := .int) CX HX835 aw_int rfl rfl (by decide) rfl (by decide) (by omega) rfl (fun i => by (exact (hz (401) (by omega)).1 i)) (by decide) (by show 3 + 1 ≤ 8; first | decide | omega) (by show 1359 + 1812 ≤ 3382; first | decide | omega) dX7_init_35 (fun H HX836 => ?_)
  have HX836 : fa_HX G (402) v r833 s _ _ := HX836
  refine W.widen (k := 4) (n := 3171) (by first | exact Nat.le_refl _ | omega) (by first | exact Nat.le_refl _ | omega) ?_
  refine fa_putr (k := 397) (q := 401) CX HX836 fl_X7_19 own_7 hmn (by omega) rfl rfl rfl rfl dX7_init_37 (fun H locs r837 er838 HX839 => ?_)
  refine lv_aload_n hx hb dX7_init_40 rfl (lv_at hl 0 rfl) ?_
  refine lv_bipush (v := nI (24)) hx hb dX7_init_41 (by decide) ?_
  refine fa_newa (len := 24) (t := 2) (ty := .boolean) CX HX839 aw_boolean rfl rfl (by decide) rfl (by decide) (by omega) rfl (fun i => by (exact (hz (402) (by omega)).1 i)) (by decide) (by show 4 + 1 ≤ 8; first | decide | omega) (by show 3171 + 24 ≤ 3382; first | decide | omega) dX7_init_43 (fun H HX840 => ?_)
  have HX840 : fa_HX G (403) v r837 s _ _ := HX840
  refine W.widen (k := 5) (n := 3195) (by first | exact Nat.le_refl _ | omega) (by first | exact Nat.le_refl _ | omega) ?_
  refine fa_putr (k := 397) (q := 402) CX HX840 fl_X7_22 own_7 hmn (by omega) rfl rfl rfl rfl dX7_init_45 (fun H locs r841 er842 HX843 => ?_)
  refine lv_aload_n hx hb dX7_init_48 rfl (lv_at hl 0 rfl) ?_
  refine lv_bipush (v := nI (124)) hx hb dX7_init_49 (by decide) ?_
  refine fa_newa (len := 124) (t := 0) (ty := .int) CX HX843 aw_int rfl rfl (by decide) rfl (by decide) (by omega) rfl (fun i => by (exact (hz (403) (by omega)).1 i)) (by decide) (by show 5 + 1 ≤ 8; first | decide | omega) (by show 3195 + 124 ≤ 3382; first | decide | omega) dX7_init_51 (fun H HX844 => ?_)
  have HX844 : fa_HX G (404) v r841 s _ _ := HX844
  refine W.widen (k := 6) (n := 3319) (by first | exact Nat.le_refl _ | omega) (by first | exact Nat.le_refl _ | omega) ?_
  refine fa_putr (k := 397) (q := 403) CX HX844 fl_X7_26 own_7 hmn (by omega) rfl rfl rfl rfl dX7_init_53 (fun H locs r845 er846 HX847 => ?_)
  refine lv_aload_n hx hb dX7_init_56 rfl (lv_at hl 0 rfl) ?_
  refine lv_iconst (v := nI (3)) hx hb dX7_init_57 (by decide) ?_
  refine fa_newa (len := 3) (t := 0) (ty := .int) CX HX847 aw_int rfl rfl (by decide) rfl (by decide) (by omega) rfl (fun i => by (exact (hz (404) (by omega)).1 i)) (by decide) (by show 6 + 1 ≤ 8; first | decide | omega) (by show 3319 + 3 ≤ 3382; first | decide | omega) dX7_init_58 (fun H HX848 => ?_)
  have HX848 : fa_HX G (405) v r845 s _ _ := HX848
  refine W.widen (k := 7) (n := 3322) (by first | exact Nat.le_refl _ | omega) (by first | exact Nat.le_refl _ | omega) ?_
  refine fa_putr (k := 397) (q := 404) CX HX848 fl_X7_29 own_7 hmn (by omega) rfl rfl rfl rfl dX7_init_60 (fun H locs r849 er850 HX851 => ?_)
  refine lv_aload_n hx hb dX7_init_63 rfl (lv_at hl 0 rfl) ?_
  refine lv_bipush (v := nI (60)) hx hb dX7_init_64 (by decide) ?_
  refine fa_newa (len := 60) (t := 1) (ty := .char) CX HX851 aw_char rfl rfl (by decide) rfl (by decide) (by omega) rfl (fun i => by (exact (hz (405) (by omega)).1 i)) (by decide) (by show 7 + 1 ≤ 8; first | decide | omega) (by show 3322 + 60 ≤ 3382; first | decide | omega) dX7_init_66 (fun H HX852 => ?_)
  have HX852 : fa_HX G (406) v r849 s _ _ := HX852
  refine W.widen (k := 8) (n := 3382) (by first | exact Nat.le_refl _ | omega) (by first | exact Nat.le_refl _ | omega) ?_
  refine fa_putr (k := 397) (q := 405) CX HX852 fl_X7_32 own_7 hmn (by omega) rfl rfl rfl rfl dX7_init_68 (fun H locs r853 er854 HX855 => ?_)
  have hr398 : r853 397 0 = some 398 := by simp [er854, er850, er846, er842, er838, er834, er830, er826, fa_u]
  refine lv_aload_n hx hb dX7_init_71 rfl (lv_at hl 0 rfl) ?_
  refine fa_getr (k := 397) (j := 398) CX HX855 fl_X7_7 (by omega) rfl rfl hr398 dX7_init_72 ?_
  refine lv_iconst (v := nI (0)) hx hb dX7_init_75 (by decide) ?_
  refine lv_bipush (v := nI (90)) hx hb dX7_init_76 (by decide) ?_
  refine fa_iast (k := 398) (j := 0) CX HX855 (by omega) rfl (by omega) (by first | decide | assumption) dX7_init_78 (fun H locs v856 e857 HX858 => ?_)
  refine lv_aload_n hx hb dX7_init_79 rfl (lv_at hl 0 rfl) ?_
  refine fa_getr (k := 397) (j := 398) CX HX858 fl_X7_7 (by omega) rfl rfl hr398 dX7_init_80 ?_
  refine lv_iconst (v := nI (1)) hx hb dX7_init_83 (by decide) ?_
  refine lv_sipush (v := nI (180)) hx hb dX7_init_84 (by decide) ?_
  refine fa_iast (k := 398) (j := 1) CX HX858 (by omega) rfl (by omega) (by first | decide | assumption) dX7_init_87 (fun H locs v859 e860 HX861 => ?_)
  refine lv_aload_n hx hb dX7_init_88 rfl (lv_at hl 0 rfl) ?_
  refine fa_getr (k := 397) (j := 398) CX HX861 fl_X7_7 (by omega) rfl rfl hr398 dX7_init_89 ?_
  refine lv_iconst (v := nI (2)) hx hb dX7_init_92 (by decide) ?_
  refine lv_sipush (v := nI (360)) hx hb dX7_init_93 (by decide) ?_
  refine fa_iast (k := 398) (j := 2) CX HX861 (by omega) rfl (by omega) (by first | decide | assumption) dX7_init_96 (fun H locs v862 e863 HX864 => ?_)
  refine lv_aload_n hx hb dX7_init_97 rfl (lv_at hl 0 rfl) ?_
  refine fa_getr (k := 397) (j := 398) CX HX864 fl_X7_7 (by omega) rfl rfl hr398 dX7_init_98 ?_
  refine lv_iconst (v := nI (3)) hx hb dX7_init_101 (by decide) ?_
  refine lv_sipush (v := nI (720)) hx hb dX7_init_102 (by decide) ?_
  refine fa_iast (k := 398) (j := 3) CX HX864 (by omega) rfl (by omega) (by first | decide | assumption) dX7_init_105 (fun H locs v865 e866 HX867 => ?_)
  refine lv_aload_n hx hb dX7_init_106 rfl (lv_at hl 0 rfl) ?_
  refine fa_getr (k := 397) (j := 398) CX HX867 fl_X7_7 (by omega) rfl rfl hr398 dX7_init_107 ?_
  refine lv_iconst (v := nI (4)) hx hb dX7_init_110 (by decide) ?_
  refine lv_sipush (v := nI (1440)) hx hb dX7_init_111 (by decide) ?_
  refine fa_iast (k := 398) (j := 4) CX HX867 (by omega) rfl (by omega) (by first | decide | assumption) dX7_init_114 (fun H locs v868 e869 HX870 => ?_)
  refine lv_aload_n hx hb dX7_init_115 rfl (lv_at hl 0 rfl) ?_
  refine fa_getr (k := 397) (j := 398) CX HX870 fl_X7_7 (by omega) rfl rfl hr398 dX7_init_116 ?_
  refine lv_iconst (v := nI (5)) hx hb dX7_init_119 (by decide) ?_
  refine lv_iconst (v := nI (3)) hx hb dX7_init_120 (by decide) ?_
  refine fa_iast (k := 398) (j := 5) CX HX870 (by omega) rfl (by omega) (by first | decide | assumption) dX7_init_121 (fun H locs v871 e872 HX873 => ?_)
  refine lv_aload_n hx hb dX7_init_122 rfl (lv_at hl 0 rfl) ?_
  refine fa_getr (k := 397) (j := 398) CX HX873 fl_X7_7 (by omega) rfl rfl hr398 dX7_init_123 ?_
  refine lv_bipush (v := nI (6)) hx hb dX7_init_126 (by decide) ?_
  refine lv_sipush (v := nI (300)) hx hb dX7_init_128 (by decide) ?_
  refine fa_iast (k := 398) (j := 6) CX HX873 (by omega) rfl (by omega) (by first | decide | assumption) dX7_init_131 (fun H locs v874 e875 HX876 => ?_)
  exact RET _ _ _ _ _ _ HX876 dX7_init_132 (⟨⟨(by (show r853 397 0 = some 398; simp [er854, er850, er846, er842, er838, er834, er830, er826, fa_u])), (by (show r853 397 1 = some 399; simp [er854, er850, er846, er842, er838, er834, er830, er826, fa_u])), (by (show r853 397 2 = some 400; simp [er854, er850, er846, er842, er838, er834, er830, er826, fa_u])), (by (show r853 397 3 = some 401; simp [er854, er850, er846, er842, er838, er834, er830, er826, fa_u])), (by (show r853 397 4 = some 402; simp [er854, er850, er846, er842, er838, er834, er830, er826, fa_u])), (by (show r853 397 5 = some 403; simp [er854, er850, er846, er842, er838, er834, er830, er826, fa_u])), (by (show r853 397 6 = some 404; simp [er854, er850, er846, er842, er838, er834, er830, er826, fa_u])), (by (show r853 397 7 = some 405; simp [er854, er850, er846, er842, er838, er834, er830, er826, fa_u]))⟩, (fun k hk => by (show v874 k = v k; rw [e875, fa_u_k _ _ hk, e872, fa_u_k _ _ hk, e869, fa_u_k _ _ hk, e866, fa_u_k _ _ hk, e863, fa_u_k _ _ hk, e860, fa_u_k _ _ hk, e857, fa_u_k _ _ hk])), (fun i hi => by (show v874 398 i = 0; rw [e875, fa_u_n _ _ (by omega), e872, fa_u_n _ _ (by omega), e869, fa_u_n _ _ (by omega), e866, fa_u_n _ _ (by omega), e863, fa_u_n _ _ (by omega), e860, fa_u_n _ _ (by omega), e857, fa_u_n _ _ (by omega)]; exact (hz 398 (by omega)).1 i)), (fun i hi => by (show v874 398 i = fa_stV 0 i; rcases fa_seven hi with z | z | z | z | z | z | z <;> subst z <;> simp [e875, e872, e869, e866, e863, e860, e857, fa_u] <;> rfl)), (fun q hq => by (show r853 q = r q; rw [er854, fa_u_k _ _ (by omega)]; rw [er850, fa_u_k _ _ (by omega)]; rw [er846, fa_u_k _ _ (by omega)]; rw [er842, fa_u_k _ _ (by omega)]; rw [er838, fa_u_k _ _ (by omega)]; rw [er834, fa_u_k _ _ (by omega)]; rw [er830, fa_u_k _ _ (by omega)]; rw [er826, fa_u_k _ _ (by omega)]))⟩)
