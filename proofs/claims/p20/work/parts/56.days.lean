set_option maxHeartbeats 4000000 in
set_option maxRecDepth 100000 in
theorem g_burnUnmarked (l : Launch) (G : fa_G) (n : Nat) (hn : 397 ≤ n) (v : fa_V) (r : fa_R) (b : Nat) (hB : b ∈ fa_bs) (hr : fa_RS r b) (hI : fa_IS v b) : fa_MI l G n yX3_burnUnmarked cX3_burnUnmarked 5 (some .int) 3 [.ref (fa_B G + (b))] v r (fun x w => (∀ A, fb_okA A → fb_cA v r b A → (∀ p, p < A.n → v (fa_pf r b p) 8 = fb_why A p) → x = (fb_burnA A).1 ∧ fb_cA w.1 w.2 b (fb_burnA A).2) ∧ (fa_IS w.1 b) ∧ (fa_RS w.2 b) ∧ (fa_fr b (b + 56) v w.1) ∧ (∀ k, ¬ k = b + 1 → w.2 k = r k)) := by
  refine fa_startI (by decide +kernel) (Nat.le_of_ble_eq_true rfl) (fun p e s m args below meth c ls Q CX hl HX RET => ?_)
  have hl : lv_has ls 5 [(0, .ref (fa_B G + (b)))] := hl
  have hx := CX.1.1
  have hb := CX.1.2.1
  obtain ⟨n0, en0⟩ : ∃ n0, n0 = fa_N (v b 1) := ⟨_, rfl⟩
  obtain ⟨hn0, h1⟩ := hI.n1 en0
  refine lv_aload_n hx hb dX3_burnUnmarked_0 rfl (lv_at hl 0 rfl) ?_
  refine lv_dup hx hb dX3_burnUnmarked_1 rfl ?_
  refine fa_geti (k := b) CX HX fl_X3_67 (fa_lt hB 0 (by decide) hn) (fa_s0 hB) rfl dX3_burnUnmarked_2 ?_
  refine lv_iconst (v := nI (1)) hx hb dX3_burnUnmarked_5 (by decide) ?_
  refine lv_iadd hx hb dX3_burnUnmarked_6 ?_
  refine fa_puti (k := b) CX HX fl_X3_67 (fa_lt hB 0 (by decide) hn) (fa_s0 hB) rfl rfl rfl dX3_burnUnmarked_7 (fun H locs v1224 e1225 HX1226 => ?_)
  refine lv_aload_n hx hb dX3_burnUnmarked_10 rfl (lv_at hl 0 rfl) ?_
  refine fa_geti (k := b) CX HX1226 fl_X3_49 (fa_lt hB 0 (by decide) hn) (fa_s0 hB) rfl dX3_burnUnmarked_11 ?_
  rw [show v1224 b 1 = nI (n0) from (by rw [e1225, fa_u_n _ _ (by omega)]; exact h1)]
  refine lv_istore_n (lv' := [(1, .int (nI (n0))), (0, .ref (fa_B G + (b)))]) hx hb dX3_burnUnmarked_14 rfl hl (by decide) rfl (fun ls hl => ?_)
  refine lv_iconst (v := nI (0)) hx hb dX3_burnUnmarked_15 (by decide) ?_
  refine lv_istore_n (lv' := [(2, .int (nI (0))), (1, .int (nI (n0))), (0, .ref (fa_B G + (b)))]) hx hb dX3_burnUnmarked_16 rfl hl (by decide) rfl (fun ls hl => ?_)
  refine lv_iconst (v := nI (0)) hx hb dX3_burnUnmarked_17 (by decide) ?_
  refine lv_istore_n (lv' := [(3, .int (nI (0))), (2, .int (nI (0))), (1, .int (nI (n0))), (0, .ref (fa_B G + (b)))]) hx hb dX3_burnUnmarked_18 rfl hl (by decide) rfl (fun ls hl => ?_)
  have LOOP_19 : ∀ (fu : Nat) (j : Nat) (kp : Nat) (v1227 : fa_V) (r1228 : fa_R) (H : Heap) (locs : List Loc) (ls : Array Slot), n0 - j < fu → (j ≤ n0 ∧ kp ≤ j ∧ fa_IS v1227 b ∧ fa_RS r1228 b ∧ fa_fr b (b + 56) v v1227 ∧ (∀ k, ¬ k = b + 1 → r1228 k = r k) ∧ (∀ A, fb_okA A → fb_cA v r b A → (∀ p, p < A.n → v (fa_pf r b p) 8 = fb_why A p) → fb_buI A v v1227 r r1228 b j kp)) → lv_has ls 5 [(0, .ref (fa_B G + (b))), (1, .int (nI (n0))), (2, .int (nI (kp))), (3, .int (nI (j)))] → fa_HX G (n) v1227 r1228 s H locs → W p l e (fa_rm 3) s m args below meth c H locs (0) (0) Q (F0 m 19 ls []) := by
    intro fu
    induction fu with
    | zero => intro j kp v1227 r1228 H locs ls hk; exact absurd hk (Nat.not_lt_zero _)
    | succ fu ih_19 =>
      intro j kp v1227 r1228 H locs ls hk_19 hi_19 hl HX1229
      have hr_r1228 := hi_19.2.2.2.1
      refine lv_iload_n hx hb dX3_burnUnmarked_19 rfl (lv_at hl 3 rfl) ?_
      refine lv_iload_n hx hb dX3_burnUnmarked_20 rfl (lv_at hl 1 rfl) ?_
      refine lv_icmp_ge (tgt := 109) hx hb dX3_burnUnmarked_21 (by decide) (fun c_21 => ?_) (fun c_21 => ?_)
      · have hjn : j = n0 := by
          have := fa_leN (by omega) (by omega) c_21
          omega
        refine lv_aload_n hx hb dX3_burnUnmarked_109 rfl (lv_at hl 0 rfl) ?_
        refine lv_iload_n hx hb dX3_burnUnmarked_110 rfl (lv_at hl 2 rfl) ?_
        refine fa_puti (k := b) CX HX1229 fl_X3_49 (fa_lt hB 0 (by decide) hn) (fa_s0 hB) rfl rfl rfl dX3_burnUnmarked_111 (fun H locs v1230 e1231 HX1232 => ?_)
        refine lv_iload_n hx hb dX3_burnUnmarked_114 rfl (lv_at hl 1 rfl) ?_
        refine lv_iload_n hx hb dX3_burnUnmarked_115 rfl (lv_at hl 2 rfl) ?_
        refine lv_isub hx hb dX3_burnUnmarked_116 ?_
        exact RET _ _ _ _ _ _ _ HX1232 dX3_burnUnmarked_117 (⟨(fun A hok hc hw => by (have z := hi_19.2.2.2.2.2.2 A hok hc hw; rw [show j = A.n by rw [← hc.n, ← en0]; exact hjn] at z; have y := z.e hc hr_r1228 e1231; exact ⟨by rw [← y.2, ← hc.n, ← en0], y.1⟩)), (by rw [e1231]; exact fa_IS.set1 hi_19.2.2.1 (by omega)), hr_r1228, (by rw [e1231]; exact fa_fr.u (fa_fr.tr fa_fr.rf (fa_fr.wide hi_19.2.2.2.2.1 (by omega) (by omega))) (by omega)), hi_19.2.2.2.2.2.1⟩)
      · have hj := fa_ltN (by omega) (by omega) c_21
        refine lv_aload_n hx hb dX3_burnUnmarked_24 rfl (lv_at hl 0 rfl) ?_
        refine fa_getr (k := b) (j := b + 1) CX HX1229 fl_X3_11 (fa_lt hB 0 (by decide) hn) (fa_s0 hB) rfl hr_r1228.1 dX3_burnUnmarked_25 ?_
        refine lv_iload_n hx hb dX3_burnUnmarked_28 rfl (lv_at hl 3 rfl) ?_
        refine fa_aald (k := b + 1) (j := j) (q := fa_pf r1228 b j) CX HX1229 (fa_lt hB 1 (by decide) hn) (fa_s1 hB) rfl (by decide) (by omega) (by first | decide | assumption) (fa_pf_at hr_r1228 (by omega)) dX3_burnUnmarked_29 ?_
        refine lv_astore (lv' := [(4, .ref (fa_B G + (fa_pf r1228 b j))), (0, .ref (fa_B G + (b))), (1, .int (nI (n0))), (2, .int (nI (kp))), (3, .int (nI (j)))]) hx hb dX3_burnUnmarked_30 hl (by decide) rfl (fun ls hl => ?_)
        refine lv_aload hx hb dX3_burnUnmarked_32 (lv_at hl 0 rfl) ?_
        refine fa_geti (k := fa_pf r1228 b j) CX HX1229 fl_X3_168 (fa_isF_lt hB (fa_pf_isF hr_r1228 (by omega)) hn) (fa_isF_sh hB (fa_pf_isF hr_r1228 (by omega))) rfl dX3_burnUnmarked_34 ?_
        refine lv_if_ne (tgt := 80) hx hb dX3_burnUnmarked_37 (by decide) (fun c_37 => ?_) (fun c_37 => ?_)
        · refine lv_aload_n hx hb dX3_burnUnmarked_80 rfl (lv_at hl 1 rfl) ?_
          refine fa_getr (k := b) (j := b + 1) CX HX1229 fl_X3_11 (fa_lt hB 0 (by decide) hn) (fa_s0 hB) rfl hr_r1228.1 dX3_burnUnmarked_81 ?_
          refine lv_iload_n hx hb dX3_burnUnmarked_84 rfl (lv_at hl 4 rfl) ?_
          refine lv_aload_n hx hb dX3_burnUnmarked_85 rfl (lv_at hl 1 rfl) ?_
          refine fa_getr (k := b) (j := b + 1) CX HX1229 fl_X3_11 (fa_lt hB 0 (by decide) hn) (fa_s0 hB) rfl hr_r1228.1 dX3_burnUnmarked_86 ?_
          refine lv_iload_n hx hb dX3_burnUnmarked_89 rfl (lv_at hl 3 rfl) ?_
          refine fa_aald (k := b + 1) (j := kp) (q := fa_pf r1228 b kp) CX HX1229 (fa_lt hB 1 (by decide) hn) (fa_s1 hB) rfl (by decide) (by omega) (by first | decide | assumption) (fa_pf_at hr_r1228 (by omega)) dX3_burnUnmarked_90 ?_
          refine fa_aast (k := b + 1) (j := j) (q := fa_pf r1228 b kp) CX HX1229 (fa_lt hB 1 (by decide) hn) (fa_s1 hB) rfl (by decide) (by omega) (by first | decide | assumption) (fa_isF_lt hB (fa_pf_isF hr_r1228 (by omega)) hn) (fa_isF_sh hB (fa_pf_isF hr_r1228 (by omega))) rfl dX3_burnUnmarked_91 (fun H locs r1233 e1234 HX1235 => ?_)
          have hr_r1233 : fa_RS r1233 b := by rw [e1234]; exact fa_RS.set hr_r1228 (fa_pf_isF hr_r1228 (by omega))
          refine lv_aload_n hx hb dX3_burnUnmarked_92 rfl (lv_at hl 1 rfl) ?_
          refine fa_getr (k := b) (j := b + 1) CX HX1235 fl_X3_11 (fa_lt hB 0 (by decide) hn) (fa_s0 hB) rfl hr_r1233.1 dX3_burnUnmarked_93 ?_
          refine lv_iload_n hx hb dX3_burnUnmarked_96 rfl (lv_at hl 3 rfl) ?_
          refine lv_aload hx hb dX3_burnUnmarked_97 (lv_at hl 0 rfl) ?_
          refine fa_aast (k := b + 1) (j := kp) (q := fa_pf r1228 b j) CX HX1235 (fa_lt hB 1 (by decide) hn) (fa_s1 hB) rfl (by decide) (by omega) (by first | decide | assumption) (fa_isF_lt hB (fa_pf_isF hr_r1228 (by omega)) hn) (fa_isF_sh hB (fa_pf_isF hr_r1228 (by omega))) rfl dX3_burnUnmarked_99 (fun H locs r1236 e1237 HX1238 => ?_)
          have hr_r1236 : fa_RS r1236 b := by rw [e1237]; exact fa_RS.set hr_r1233 (fa_pf_isF hr_r1228 (by omega))
          refine lv_iinc (v := nI (kp + 1)) (lv' := [(2, .int (nI (kp + 1))), (4, .ref (fa_B G + (fa_pf r1228 b j))), (0, .ref (fa_B G + (b))), (1, .int (nI (n0))), (3, .int (nI (j)))]) hx hb dX3_burnUnmarked_100 hl (k := 3) rfl (nI_add (kp) 1) (by decide) rfl (fun ls hl => ?_)
          refine lv_iinc (v := nI (j + 1)) (lv' := [(3, .int (nI (j + 1))), (2, .int (nI (kp + 1))), (4, .ref (fa_B G + (fa_pf r1228 b j))), (0, .ref (fa_B G + (b))), (1, .int (nI (n0)))]) hx hb dX3_burnUnmarked_103 hl (k := 4) rfl (nI_add (j) 1) (by decide) rfl (fun ls hl => ?_)
          refine lv_goto (tgt := 19) hx hb dX3_burnUnmarked_106 (by decide) ?_
          exact ih_19 (j + 1) (kp + 1) v1227 r1236 _ _ _ (by omega) (⟨by omega, by omega, hi_19.2.2.1, hr_r1236, (fa_fr.tr fa_fr.rf (fa_fr.wide hi_19.2.2.2.2.1 (by omega) (by omega))), (fun k hk => by rw [e1237, fa_u_k _ _ hk, e1234, fa_u_k _ _ hk]; exact hi_19.2.2.2.2.2.1 k hk), (fun A hok hc hw => (hi_19.2.2.2.2.2.2 A hok hc hw).keep hc (by rw [← hc.n, ← en0]; exact hj) hw c_37 e1234 e1237)⟩) (lv_sub hl [3, 4, 1, 0] rfl) HX1238
        · refine lv_aload_n hx hb dX3_burnUnmarked_40 rfl (lv_at hl 1 rfl) ?_
          refine lv_dup hx hb dX3_burnUnmarked_41 rfl ?_
          refine fa_geti (k := b) CX HX1229 fl_X3_55 (fa_lt hB 0 (by decide) hn) (fa_s0 hB) rfl dX3_burnUnmarked_42 ?_
          refine lv_iconst (v := nI (1)) hx hb dX3_burnUnmarked_45 (by decide) ?_
          refine lv_iadd hx hb dX3_burnUnmarked_46 ?_
          refine fa_puti (k := b) CX HX1229 fl_X3_55 (fa_lt hB 0 (by decide) hn) (fa_s0 hB) rfl rfl rfl dX3_burnUnmarked_47 (fun H locs v1239 e1240 HX1241 => ?_)
          refine lv_aload_n hx hb dX3_burnUnmarked_50 rfl (lv_at hl 1 rfl) ?_
          refine lv_dup hx hb dX3_burnUnmarked_51 rfl ?_
          refine fa_geti (k := b) CX HX1241 fl_X3_58 (fa_lt hB 0 (by decide) hn) (fa_s0 hB) rfl dX3_burnUnmarked_52 ?_
          refine lv_aload hx hb dX3_burnUnmarked_55 (lv_at hl 0 rfl) ?_
          refine fa_geti (k := fa_pf r1228 b j) CX HX1241 fl_X3_183 (fa_isF_lt hB (fa_pf_isF hr_r1228 (by omega)) hn) (fa_isF_sh hB (fa_pf_isF hr_r1228 (by omega))) rfl dX3_burnUnmarked_57 ?_
          refine lv_iadd hx hb dX3_burnUnmarked_60 ?_
          refine fa_puti (k := b) CX HX1241 fl_X3_58 (fa_lt hB 0 (by decide) hn) (fa_s0 hB) rfl rfl rfl dX3_burnUnmarked_61 (fun H locs v1242 e1243 HX1244 => ?_)
          refine lv_aload_n hx hb dX3_burnUnmarked_64 rfl (lv_at hl 1 rfl) ?_
          refine fa_getr (k := b) (j := b + 5) CX HX1244 fl_X3_27 (fa_lt hB 0 (by decide) hn) (fa_s0 hB) rfl hr_r1228.2.2.1 dX3_burnUnmarked_65 ?_
          refine lv_aload hx hb dX3_burnUnmarked_68 (lv_at hl 0 rfl) ?_
          refine lv_aload_n hx hb dX3_burnUnmarked_70 rfl (lv_at hl 1 rfl) ?_
          refine fa_geti (k := b) CX HX1244 fl_X3_45 (fa_lt hB 0 (by decide) hn) (fa_s0 hB) rfl dX3_burnUnmarked_71 ?_
          refine fa_callVvu (As := [.ref (fa_B G + (fa_pf r1228 b j)), .int (v1242 b 0)]) (rest := []) CX HX1244 (g_leave l G n hn v1242 r1228 b hB hr_r1228 (by rw [e1243]; exact fa_IS.u (by rw [e1240]; exact fa_IS.u hi_19.2.2.1 (Or.inl ⟨rfl, by decide⟩)) (Or.inl ⟨rfl, by decide⟩)) (fa_pf r1228 b j) (v1242 b 0) (fa_pf_isF hr_r1228 (by omega))) ln_X3_186 (fa_lt hB 5 (by decide) hn) (fa_s5 hB) rfl rfl rfl (Nat.le_of_ble_eq_true rfl) hl.1 ⟨Nat.le_of_ble_eq_true rfl, Nat.le_of_ble_eq_true rfl⟩ ⟨Nat.le_refl _, Nat.le_refl _⟩ dX3_burnUnmarked_74 (fun v1246 H locs h1245 HX1247 => ?_)
          have h_leave := h1245.1
          have hIS_v1246 : fa_IS v1246 b := h1245.1.2
          refine lv_goto (tgt := 103) hx hb dX3_burnUnmarked_77 (by decide) ?_
          refine lv_iinc (v := nI (j + 1)) (lv' := [(3, .int (nI (j + 1))), (4, .ref (fa_B G + (fa_pf r1228 b j))), (0, .ref (fa_B G + (b))), (1, .int (nI (n0))), (2, .int (nI (kp)))]) hx hb dX3_burnUnmarked_103 hl (k := 4) rfl (nI_add (j) 1) (by decide) rfl (fun ls hl => ?_)
          refine lv_goto (tgt := 19) hx hb dX3_burnUnmarked_106 (by decide) ?_
          exact ih_19 (j + 1) (kp) v1246 r1228 _ _ _ (by omega) (⟨by omega, by omega, hIS_v1246, hr_r1228, (fa_fr.tr (by rw [e1243]; exact fa_fr.u (by rw [e1240]; exact fa_fr.u (fa_fr.tr fa_fr.rf (fa_fr.wide hi_19.2.2.2.2.1 (by omega) (by omega))) (by omega)) (by omega)) (fa_fr.wide h1245.2 (by omega) (by omega))), (fun k hk => hi_19.2.2.2.2.2.1 k hk), (fun A hok hc hw => (hi_19.2.2.2.2.2.2 A hok hc hw).burn hc (by rw [← hc.n, ← en0]; exact hj) hw (by first | exact c_37 | exact Decidable.not_not.mp c_37) e1240 e1243 h1245.2 h_leave.1)⟩) (lv_sub hl [2, 3, 4, 0] rfl) HX1247
  exact LOOP_19 (n0 - 0 + 1) (0) (0) v1224 r _ _ _ (Nat.lt_succ_self _) (⟨Nat.zero_le _, Nat.zero_le _, (by rw [e1225]; exact fa_IS.u hI (Or.inl ⟨rfl, by decide⟩)), hr, (by rw [e1225]; exact fa_fr.u fa_fr.rf (by omega)), fun k _ => rfl, fun A hok hc hw => fb_buI.start hc e1225⟩) (lv_sub hl [3, 2, 1, 0] rfl) HX1226
set_option maxHeartbeats 4000000 in
set_option maxRecDepth 100000 in
theorem g_askReserved (l : Launch) (G : fa_G) (n : Nat) (hn : 397 ≤ n) (v : fa_V) (r : fa_R) (b : Nat) (hB : b ∈ fa_bs) (hr : fa_RS r b) (hI : fa_IS v b) : fa_MV l G n yX3_askReserved cX3_askReserved 3 2 [.ref (fa_B G + (b))] v r (fa_vo r (fun v1 => ((∀ A, fb_okR A → fb_cA v r b A → fb_cA v1 r b (fb_rsvA A (A.g 7))) ∧ fa_IS v1 b) ∧ (fa_fr (b) (b + 56) v v1))) := by
  refine fa_startV (by decide +kernel) (Nat.le_of_ble_eq_true rfl) (fun p e s m args below meth c ls Q CX hl HX RET => ?_)
  have hl : lv_has ls 3 [(0, .ref (fa_B G + (b)))] := hl
  have hx := CX.1.1
  have hb := CX.1.2.1
  refine lv_iconst (v := nI (0)) hx hb dX3_askReserved_0 (by decide) ?_
  refine lv_istore_n (lv' := [(1, .int (nI (0))), (0, .ref (fa_B G + (b)))]) hx hb dX3_askReserved_1 rfl hl (by decide) rfl (fun ls hl => ?_)
  have LOOP_2 : ∀ (fu : Nat) (j : Nat) (v1248 : fa_V) (H : Heap) (locs : List Loc) (ls : Array Slot), 8 - j < fu → (j ≤ 8 ∧ fa_IS v1248 b ∧ fa_fr b (b + 56) v v1248 ∧ (∀ A L, fb_okR A → fb_cA v r b A → fb_cL v b L → L.Perm A.q → L.Pairwise fb_bef → fb_arI A L v1248 r b j)) → lv_has ls 3 [(0, .ref (fa_B G + (b))), (1, .int (nI (j)))] → fa_HX G (n) v1248 r s H locs → W p l e (fa_rm 2) s m args below meth c H locs (0) (0) Q (F0 m 2 ls []) := by
    intro fu
    induction fu with
    | zero => intro j v1248 H locs ls hk; exact absurd hk (Nat.not_lt_zero _)
    | succ fu ih_2 =>
      intro j v1248 H locs ls hk_2 hi_2 hl HX1249
      refine lv_iload_n hx hb dX3_askReserved_2 rfl (lv_at hl 1 rfl) ?_
      refine lv_bipush (v := nI (8)) hx hb dX3_askReserved_3 (by decide) ?_
      refine lv_icmp_ge (tgt := 72) hx hb dX3_askReserved_5 (by decide) (fun c_5 => ?_) (fun c_5 => ?_)
      · exact RET _ _ _ _ _ _ HX1249 dX3_askReserved_72 (⟨rfl, ⟨⟨(fun A hok hc => by (obtain ⟨L, hL, hP, hS⟩ := id hc.2.2.2.2.1; exact (hi_2.2.2.2 A L hok hc hL hP hS).e hok hP hS (Or.inr (Or.inr (fa_leN (by omega) (by omega) c_5))))), hi_2.2.1⟩, (fa_fr.tr fa_fr.rf (fa_fr.wide hi_2.2.2.1 (by omega) (by omega)))⟩⟩)
      · have hj := fa_ltN (by omega) (by omega) c_5
        refine lv_aload_n hx hb dX3_askReserved_8 rfl (lv_at hl 0 rfl) ?_
        refine fa_getr (k := b) (j := b + 2) CX HX1249 fl_X3_20 (fa_lt hB 0 (by decide) hn) (fa_s0 hB) rfl hr.2.1 dX3_askReserved_9 ?_
        refine fa_geti (k := b + 2) CX HX1249 fl_X3_124 (fa_lt hB 2 (by decide) hn) (fa_s2 hB) rfl dX3_askReserved_12 ?_
        refine lv_if_eq (tgt := 34) hx hb dX3_askReserved_15 (by decide) (fun c_15 => ?_) (fun c_15 => ?_)
        · exact RET _ _ _ _ _ _ HX1249 dX3_askReserved_34 (⟨rfl, ⟨⟨(fun A hok hc => by (obtain ⟨L, hL, hP, hS⟩ := id hc.2.2.2.2.1; exact (hi_2.2.2.2 A L hok hc hL hP hS).e hok hP hS (Or.inl c_15))), hi_2.2.1⟩, (fa_fr.tr fa_fr.rf (fa_fr.wide hi_2.2.2.1 (by omega) (by omega)))⟩⟩)
        · refine lv_aload_n hx hb dX3_askReserved_18 rfl (lv_at hl 0 rfl) ?_
          refine fa_getr (k := b) (j := b + 2) CX HX1249 fl_X3_20 (fa_lt hB 0 (by decide) hn) (fa_s0 hB) rfl hr.2.1 dX3_askReserved_19 ?_
          refine fa_getr (k := b + 2) (j := b + 4) CX HX1249 fl_X3_156 (fa_lt hB 2 (by decide) hn) (fa_s2 hB) rfl hr.2.2.2.2.2.1 dX3_askReserved_22 ?_
          refine lv_iconst (v := nI (0)) hx hb dX3_askReserved_25 (by decide) ?_
          refine fa_iald (k := b + 4) (j := 0) CX HX1249 (fa_lt hB 4 (by decide) hn) (fa_s4 hB) (by omega) (by first | decide | assumption) dX3_askReserved_26 ?_
          refine lv_aload_n hx hb dX3_askReserved_27 rfl (lv_at hl 0 rfl) ?_
          refine fa_geti (k := b) CX HX1249 fl_X3_45 (fa_lt hB 0 (by decide) hn) (fa_s0 hB) rfl dX3_askReserved_28 ?_
          refine lv_icmp_eq (tgt := 35) hx hb dX3_askReserved_31 (by decide) (fun c_31 => ?_) (fun c_31 => ?_)
          · refine lv_aload_n hx hb dX3_askReserved_35 rfl (lv_at hl 0 rfl) ?_
            refine lv_aload_n hx hb dX3_askReserved_36 rfl (lv_at hl 0 rfl) ?_
            refine fa_getr (k := b) (j := b + 2) CX HX1249 fl_X3_20 (fa_lt hB 0 (by decide) hn) (fa_s0 hB) rfl hr.2.1 dX3_askReserved_37 ?_
            refine fa_getr (k := b + 2) (j := b + 3) CX HX1249 fl_X3_159 (fa_lt hB 2 (by decide) hn) (fa_s2 hB) rfl hr.2.2.2.2.1 dX3_askReserved_40 ?_
            refine lv_iconst (v := nI (0)) hx hb dX3_askReserved_43 (by decide) ?_
            refine fa_iald (k := b + 3) (j := 0) CX HX1249 (fa_lt hB 3 (by decide) hn) (fa_s3 hB) (by omega) (by first | decide | assumption) dX3_askReserved_44 ?_
            refine fa_callVrp (As := [.int (v1248 (b + 3) 0)]) (rest := []) CX HX1249 (g_find l G n hn v1248 r b hB hr hi_2.2.1 (v1248 (b + 3) 0) ) ln_X3_88 (fa_lt hB 0 (by decide) hn) (fa_s0 hB) rfl rfl rfl (Nat.le_of_ble_eq_true rfl) hl.1 ⟨Nat.le_of_ble_eq_true rfl, Nat.le_of_ble_eq_true rfl⟩ ⟨Nat.le_refl _, Nat.le_refl _⟩ dX3_askReserved_45 (fun H locs h1250 HX1251 => ?_) (fun q1252 H locs h1250 HX1251 => ?_)
            · have hf_none := h1250.2 rfl
              refine lv_astore_nN (lv' := [(2, .null), (0, .ref (fa_B G + (b))), (1, .int (nI (j)))]) hx hb dX3_askReserved_48 rfl hl (by decide) rfl (fun ls hl => ?_)
              refine lv_aload_n hx hb dX3_askReserved_49 rfl (lv_at hl 1 rfl) ?_
              refine fa_getr (k := b) (j := b + 2) CX HX1251 fl_X3_20 (fa_lt hB 0 (by decide) hn) (fa_s0 hB) rfl hr.2.1 dX3_askReserved_50 ?_
              refine lv_iconst (v := nI (0)) hx hb dX3_askReserved_53 (by decide) ?_
              refine fa_callVvu (As := [.int (nI (0))]) (rest := []) CX HX1251 (g_removeAt l G n hn v1248 r b hB hr hi_2.2.1 (nI (0)) ) ln_X3_131 (fa_lt hB 2 (by decide) hn) (fa_s2 hB) rfl rfl rfl (Nat.le_of_ble_eq_true rfl) hl.1 ⟨Nat.le_of_ble_eq_true rfl, Nat.le_of_ble_eq_true rfl⟩ ⟨Nat.le_refl _, Nat.le_refl _⟩ dX3_askReserved_54 (fun v1254 H locs h1253 HX1255 => ?_)
              have h_removeAt := h1253.1
              have hIS_v1254 : fa_IS v1254 b := h1253.1.2
              refine lv_aload_nN hx hb dX3_askReserved_57 rfl (lv_at hl 0 rfl) ?_
              refine lv_ifnullN (tgt := 66) hx hb dX3_askReserved_58 (by decide) ?_
              refine lv_iinc (v := nI (j + 1)) (lv' := [(1, .int (nI (j + 1))), (2, .null), (0, .ref (fa_B G + (b)))]) hx hb dX3_askReserved_66 hl (k := 2) rfl (nI_add (j) 1) (by decide) rfl (fun ls hl => ?_)
              refine lv_goto (tgt := 2) hx hb dX3_askReserved_69 (by decide) ?_
              exact ih_2 (j + 1) v1254 _ _ _ (by omega) (⟨by omega, hIS_v1254, (fa_fr.tr (fa_fr.tr fa_fr.rf (fa_fr.wide hi_2.2.2.1 (by omega) (by omega))) (fa_fr.wide h1253.2 (by omega) (by omega))), (fun A L hok hc hL hP hS => ((hi_2.2.2.2 A L hok hc hL hP hS).has hok hP c_15 hf_none).elim)⟩) (lv_sub hl [2, 0] rfl) HX1255
            · have hf_q1252 := h1250.1 q1252 rfl
              have hq1252 := hf_q1252.1
              have hiq1252 := fa_isF_in hq1252
              refine lv_astore_n (lv' := [(2, .ref (fa_B G + (q1252))), (0, .ref (fa_B G + (b))), (1, .int (nI (j)))]) hx hb dX3_askReserved_48 rfl hl (by decide) rfl (fun ls hl => ?_)
              refine lv_aload_n hx hb dX3_askReserved_49 rfl (lv_at hl 1 rfl) ?_
              refine fa_getr (k := b) (j := b + 2) CX HX1251 fl_X3_20 (fa_lt hB 0 (by decide) hn) (fa_s0 hB) rfl hr.2.1 dX3_askReserved_50 ?_
              refine lv_iconst (v := nI (0)) hx hb dX3_askReserved_53 (by decide) ?_
              refine fa_callVvu (As := [.int (nI (0))]) (rest := []) CX HX1251 (g_removeAt l G n hn v1248 r b hB hr hi_2.2.1 (nI (0)) ) ln_X3_131 (fa_lt hB 2 (by decide) hn) (fa_s2 hB) rfl rfl rfl (Nat.le_of_ble_eq_true rfl) hl.1 ⟨Nat.le_of_ble_eq_true rfl, Nat.le_of_ble_eq_true rfl⟩ ⟨Nat.le_refl _, Nat.le_refl _⟩ dX3_askReserved_54 (fun v1257 H locs h1256 HX1258 => ?_)
              have h_removeAt := h1256.1
              have hIS_v1257 : fa_IS v1257 b := h1256.1.2
              refine lv_aload_n hx hb dX3_askReserved_57 rfl (lv_at hl 0 rfl) ?_
              refine lv_ifnull hx hb dX3_askReserved_58 ?_
              refine lv_aload_n hx hb dX3_askReserved_61 rfl (lv_at hl 1 rfl) ?_
              refine lv_aload_n hx hb dX3_askReserved_62 rfl (lv_at hl 0 rfl) ?_
              refine fa_callVvu (As := [.ref (fa_B G + (q1252))]) (rest := []) CX HX1258 (g_askStored l G n hn v1257 r b hB hr hIS_v1257 (q1252) hq1252) ln_X3_92 (fa_lt hB 0 (by decide) hn) (fa_s0 hB) rfl rfl rfl (Nat.le_of_ble_eq_true rfl) hl.1 ⟨Nat.le_of_ble_eq_true rfl, Nat.le_of_ble_eq_true rfl⟩ ⟨Nat.le_refl _, Nat.le_refl _⟩ dX3_askReserved_63 (fun v1260 H locs h1259 HX1261 => ?_)
              have h_ask_v1260 := h1259.1
              refine lv_iinc (v := nI (j + 1)) (lv' := [(1, .int (nI (j + 1))), (2, .ref (fa_B G + (q1252))), (0, .ref (fa_B G + (b)))]) hx hb dX3_askReserved_66 hl (k := 2) rfl (nI_add (j) 1) (by decide) rfl (fun ls hl => ?_)
              refine lv_goto (tgt := 2) hx hb dX3_askReserved_69 (by decide) ?_
              exact ih_2 (j + 1) v1260 _ _ _ (by omega) (⟨by omega, (by rw [h_ask_v1260]; exact fa_ask_IS hIS_v1257 hq1252), (fa_fr.tr (fa_fr.tr (fa_fr.tr fa_fr.rf (fa_fr.wide hi_2.2.2.1 (by omega) (by omega))) (fa_fr.wide h1256.2 (by omega) (by omega))) (fa_fr.wide h1259.2 (by omega) (by omega))), (fun A L hok hc hL hP hS => (hi_2.2.2.2 A L hok hc hL hP hS).s hok hP hS c_15 (by first | exact c_31 | exact Decidable.not_not.mp c_31) hf_q1252 h_removeAt.1 h1256.2 h_ask_v1260)⟩) (lv_sub hl [2, 0] rfl) HX1261
          · exact RET _ _ _ _ _ _ HX1249 dX3_askReserved_34 (⟨rfl, ⟨⟨(fun A hok hc => by (obtain ⟨L, hL, hP, hS⟩ := id hc.2.2.2.2.1; exact (hi_2.2.2.2 A L hok hc hL hP hS).e hok hP hS (Or.inr (Or.inl c_31)))), hi_2.2.1⟩, (fa_fr.tr fa_fr.rf (fa_fr.wide hi_2.2.2.1 (by omega) (by omega)))⟩⟩)
  exact LOOP_2 (8 - 0 + 1) (0) v _ _ _ (Nat.lt_succ_self _) (⟨Nat.zero_le _, hI, fa_fr.rf, fun A L hok hc hL hP hS => fb_arI.start hc hL hP⟩) (lv_sub hl [1, 0] rfl) HX
set_option maxHeartbeats 4000000 in
set_option maxRecDepth 100000 in
theorem g_passDay (l : Launch) (G : fa_G) (n : Nat) (hn : 397 ≤ n) (v : fa_V) (r : fa_R) (b : Nat) (hB : b ∈ fa_bs) (hr : fa_RS r b) (hI : fa_IS v b) : fa_MI l G n yX3_passDay cX3_passDay 1 (some .int) 5 [.ref (fa_B G + (b))] v r (fun x w => (∀ A, fb_okA A → A.g 7 < nI 9999 → fb_cA v r b A → x = (fb_dayA A).1 ∧ fb_cA w.1 w.2 b (fb_dayA A).2) ∧ (fa_IS w.1 b) ∧ (fa_RS w.2 b) ∧ (fa_fr b (b + 56) v w.1) ∧ (∀ k, ¬ k = b + 1 → w.2 k = r k)) := by
  refine fa_startI (by decide +kernel) (Nat.le_of_ble_eq_true rfl) (fun p e s m args below meth c ls Q CX hl HX RET => ?_)
  have hl : lv_has ls 1 [(0, .ref (fa_B G + (b)))] := hl
  have hx := CX.1.1
  have hb := CX.1.2.1
  refine lv_aload_n hx hb dX3_passDay_0 rfl (lv_at hl 0 rfl) ?_
  refine lv_dup hx hb dX3_passDay_1 rfl ?_
  refine fa_geti (k := b) CX HX fl_X3_45 (fa_lt hB 0 (by decide) hn) (fa_s0 hB) rfl dX3_passDay_2 ?_
  refine lv_iconst (v := nI (1)) hx hb dX3_passDay_5 (by decide) ?_
  refine lv_iadd hx hb dX3_passDay_6 ?_
  refine fa_puti (k := b) CX HX fl_X3_45 (fa_lt hB 0 (by decide) hn) (fa_s0 hB) rfl rfl rfl dX3_passDay_7 (fun H locs v1262 e1263 HX1264 => ?_)
  refine lv_aload_n hx hb dX3_passDay_10 rfl (lv_at hl 0 rfl) ?_
  refine fa_callVvu (As := []) (rest := []) CX HX1264 (g_askReserved l G n hn v1262 r b hB hr (by rw [e1263]; exact fa_IS.u hI (Or.inl ⟨rfl, by decide⟩))  ) ln_X3_147 (fa_lt hB 0 (by decide) hn) (fa_s0 hB) rfl rfl rfl (Nat.le_of_ble_eq_true rfl) hl.1 ⟨Nat.le_of_ble_eq_true rfl, Nat.le_of_ble_eq_true rfl⟩ ⟨Nat.le_refl _, Nat.le_refl _⟩ dX3_passDay_11 (fun v1266 H locs h1265 HX1267 => ?_)
  have h_askReserved := h1265.1
  have hIS_v1266 : fa_IS v1266 b := h1265.1.2
  refine lv_aload_n hx hb dX3_passDay_14 rfl (lv_at hl 0 rfl) ?_
  refine fa_geti (k := b) CX HX1267 fl_X3_45 (fa_lt hB 0 (by decide) hn) (fa_s0 hB) rfl dX3_passDay_15 ?_
  refine lv_bipush (v := nI (90)) hx hb dX3_passDay_18 (by decide) ?_
  refine lv_irem hx hb dX3_passDay_20 (by decide) ?_
  refine lv_if_eq (tgt := 26) hx hb dX3_passDay_21 (by decide) (fun c_21 => ?_) (fun c_21 => ?_)
  · refine lv_aload_n hx hb dX3_passDay_26 rfl (lv_at hl 0 rfl) ?_
    refine fa_callVvu (As := []) (rest := []) CX HX1267 (g_markReasons l G n hn v1266 r b hB hr hIS_v1266  ) ln_X3_150 (fa_lt hB 0 (by decide) hn) (fa_s0 hB) rfl rfl rfl (Nat.le_of_ble_eq_true rfl) hl.1 ⟨Nat.le_of_ble_eq_true rfl, Nat.le_of_ble_eq_true rfl⟩ ⟨Nat.le_refl _, Nat.le_refl _⟩ dX3_passDay_27 (fun v1269 H locs h1268 HX1270 => ?_)
    have h_markReasons := h1268.1.1
    have h_mr2 := h1268.1.2
    refine lv_aload_n hx hb dX3_passDay_30 rfl (lv_at hl 0 rfl) ?_
    refine fa_callVi (As := []) (rest := []) CX HX1270 (g_burnUnmarked l G n hn v1269 r b hB hr (fa_rsn.IS h1268.1.1 hIS_v1266)  ) ln_X3_153 (fa_lt hB 0 (by decide) hn) (fa_s0 hB) rfl rfl rfl (Nat.le_of_ble_eq_true rfl) hl.1 ⟨Nat.le_of_ble_eq_true rfl, Nat.le_of_ble_eq_true rfl⟩ ⟨Nat.le_refl _, Nat.le_refl _⟩ dX3_passDay_31 (fun x1272 v1273 r1274 H locs h1271 HX1275 => ?_)
    dsimp only at h1271
    have hIS_v1273 := h1271.2.1
    have hr_r1274 := h1271.2.2.1
    have hrr_r1274 := h1271.2.2.2.2
    have h_burnUnmarked := h1271.1
    exact RET _ _ _ _ _ _ _ HX1275 dX3_passDay_34 (⟨(fun A hok hl hc => by (have z := fb_c_morn hok hl hc e1263 h_askReserved.1; rw [fb_dayA_1 (by rw [← z.2.2]; exact c_21)]; have y := h_burnUnmarked _ z.2.1 (z.1.rsn h_markReasons) (h_mr2 _ z.2.1 z.1); exact y)), hIS_v1273, hr_r1274, (fa_fr.tr (fa_fr.tr (fa_fr.tr (by rw [e1263]; exact fa_fr.u fa_fr.rf (by omega)) (fa_fr.wide h1265.2 (by omega) (by omega))) (fa_fr.wide h1268.2 (by omega) (by omega))) (fa_fr.wide h1271.2.2.2.1 (by omega) (by omega))), h1271.2.2.2.2⟩)
  · refine lv_iconst (v := nI (0)) hx hb dX3_passDay_24 (by decide) ?_
    exact RET _ _ _ _ _ _ _ HX1267 dX3_passDay_25 (⟨(fun A hok hl hc => by (have z := fb_c_morn hok hl hc e1263 h_askReserved.1; rw [fb_dayA_0 (by rw [← z.2.2]; exact c_21)]; exact ⟨rfl, z.1⟩)), hIS_v1266, hr, (fa_fr.tr (by rw [e1263]; exact fa_fr.u fa_fr.rf (by omega)) (fa_fr.wide h1265.2 (by omega) (by omega))), (fun k _ => rfl)⟩)
set_option maxHeartbeats 4000000 in
set_option maxRecDepth 100000 in
theorem g_passDays (l : Launch) (G : fa_G) (n : Nat) (hn : 397 ≤ n) (v : fa_V) (r : fa_R) (b : Nat) (hB : b ∈ fa_bs) (hr : fa_RS r b) (hI : fa_IS v b) (a1 : Int32) : fa_MI l G n yX3_passDays cX3_passDays 4 (some .int) 6 [.ref (fa_B G + (b)), .int (a1)] v r (fun x w => (∀ A, fb_okA A → fb_cA v r b A → x = (fb_passA A a1).1 ∧ fb_cA w.1 w.2 b (fb_passA A a1).2) ∧ (fa_IS w.1 b) ∧ (fa_RS w.2 b) ∧ (fa_fr b (b + 56) v w.1) ∧ (∀ k, ¬ k = b + 1 → w.2 k = r k)) := by
  refine fa_startI (by decide +kernel) (Nat.le_of_ble_eq_true rfl) (fun p e s m args below meth c ls Q CX hl HX RET => ?_)
  have hl : lv_has ls 4 [(0, .ref (fa_B G + (b))), (1, .int (a1))] := hl
  have hx := CX.1.1
  have hb := CX.1.2.1
  refine lv_iload_n hx hb dX3_passDays_0 rfl (lv_at hl 1 rfl) ?_
  refine lv_iconst (v := nI (1)) hx hb dX3_passDays_1 (by decide) ?_
  refine lv_icmp_lt (tgt := 12) hx hb dX3_passDays_2 (by decide) (fun c_2 => ?_) (fun c_2 => ?_)
  · refine lv_bipush (v := (-2 : Int32)) hx hb dX3_passDays_12 (by decide) ?_
    exact RET _ _ _ _ _ _ _ HX dX3_passDays_14 (⟨(fun A hok hc => by (rw [fb_passA_1 (Or.inl c_2)]; exact ⟨rfl, hc⟩)), hI, hr, fa_fr.rf, (fun k _ => rfl)⟩)
  · refine lv_iload_n hx hb dX3_passDays_5 rfl (lv_at hl 1 rfl) ?_
    refine lv_sipush (v := nI (400)) hx hb dX3_passDays_6 (by decide) ?_
    refine lv_icmp_le (tgt := 15) hx hb dX3_passDays_9 (by decide) (fun c_9 => ?_) (fun c_9 => ?_)
    · obtain ⟨ka, hka1, hka, eka⟩ := fa_natIn (by decide) c_2 c_9
      refine lv_aload_n hx hb dX3_passDays_15 rfl (lv_at hl 0 rfl) ?_
      refine fa_geti (k := b) CX HX fl_X3_45 (fa_lt hB 0 (by decide) hn) (fa_s0 hB) rfl dX3_passDays_16 ?_
      refine lv_iload_n hx hb dX3_passDays_19 rfl (lv_at hl 1 rfl) ?_
      refine lv_iadd hx hb dX3_passDays_20 ?_
      refine lv_sipush (v := nI (9999)) hx hb dX3_passDays_21 (by decide) ?_
      refine lv_icmp_le (tgt := 30) hx hb dX3_passDays_24 (by decide) (fun c_24 => ?_) (fun c_24 => ?_)
      · refine lv_iconst (v := nI (0)) hx hb dX3_passDays_30 (by decide) ?_
        refine lv_istore_n (lv' := [(2, .int (nI (0))), (0, .ref (fa_B G + (b))), (1, .int (a1))]) hx hb dX3_passDays_31 rfl hl (by decide) rfl (fun ls hl => ?_)
        refine lv_iconst (v := nI (0)) hx hb dX3_passDays_32 (by decide) ?_
        refine lv_istore_n (lv' := [(3, .int (nI (0))), (2, .int (nI (0))), (0, .ref (fa_B G + (b))), (1, .int (a1))]) hx hb dX3_passDays_33 rfl hl (by decide) rfl (fun ls hl => ?_)
        have LOOP_34 : ∀ (fu : Nat) (j : Nat) (bu : Int32) (v1276 : fa_V) (r1277 : fa_R) (H : Heap) (locs : List Loc) (ls : Array Slot), ka - j < fu → (j ≤ ka ∧ fa_IS v1276 b ∧ fa_RS r1277 b ∧ fa_fr b (b + 56) v v1276 ∧ (∀ k, ¬ k = b + 1 → r1277 k = r k) ∧ (∀ A, fb_okA A → fb_cA v r b A → A.g 7 + a1 ≤ nI 9999 → bu = (fb_daysA A j).1 ∧ fb_cA v1276 r1277 b (fb_daysA A j).2)) → lv_has ls 4 [(0, .ref (fa_B G + (b))), (1, .int (a1)), (2, .int (bu)), (3, .int (nI (j)))] → fa_HX G (n) v1276 r1277 s H locs → W p l e (fa_rm 6) s m args below meth c H locs (0) (0) Q (F0 m 34 ls []) := by
          intro fu
          induction fu with
          | zero => intro j bu v1276 r1277 H locs ls hk; exact absurd hk (Nat.not_lt_zero _)
          | succ fu ih_34 =>
            intro j bu v1276 r1277 H locs ls hk_34 hi_34 hl HX1278
            have hr_r1277 := hi_34.2.2.1
            refine lv_iload_n hx hb dX3_passDays_34 rfl (lv_at hl 3 rfl) ?_
            refine lv_iload_n hx hb dX3_passDays_35 rfl (lv_at hl 1 rfl) ?_
            refine lv_icmp_ge (tgt := 52) hx hb dX3_passDays_36 (by decide) (fun c_36 => ?_) (fun c_36 => ?_)
            · have hjn : j = ka := by
                rw [eka] at c_36
                have := fa_leN (by omega) (by omega) c_36
                omega
              refine lv_iload_n hx hb dX3_passDays_52 rfl (lv_at hl 2 rfl) ?_
              exact RET _ _ _ _ _ _ _ HX1278 dX3_passDays_53 (⟨(fun A hok hc => by (have h9 : A.g 7 + a1 ≤ nI 9999 := (by rw [← hc.now]; exact c_24); rw [fb_passA_3 (fun z => z.elim c_2 (fun z => z c_9)) h9 eka (by omega)]; have z := hi_34.2.2.2.2.2 A hok hc h9; rw [show j = ka by exact hjn] at z; exact z)), hi_34.2.1, hr_r1277, (fa_fr.tr fa_fr.rf (fa_fr.wide hi_34.2.2.2.1 (by omega) (by omega))), hi_34.2.2.2.2.1⟩)
            · have hj : j < ka := by
                rw [eka] at c_36
                exact fa_ltN (by omega) (by omega) c_36
              refine lv_iload_n hx hb dX3_passDays_39 rfl (lv_at hl 2 rfl) ?_
              refine lv_aload_n hx hb dX3_passDays_40 rfl (lv_at hl 0 rfl) ?_
              refine fa_callVi (As := []) (rest := [.int (bu)]) CX HX1278 (g_passDay l G n hn v1276 r1277 b hB hr_r1277 hi_34.2.1  ) ln_X3_135 (fa_lt hB 0 (by decide) hn) (fa_s0 hB) rfl rfl rfl (Nat.le_of_ble_eq_true rfl) hl.1 ⟨Nat.le_of_ble_eq_true rfl, Nat.le_of_ble_eq_true rfl⟩ ⟨Nat.le_refl _, Nat.le_refl _⟩ dX3_passDays_41 (fun x1280 v1281 r1282 H locs h1279 HX1283 => ?_)
              dsimp only at h1279
              have hIS_v1281 := h1279.2.1
              have hr_r1282 := h1279.2.2.1
              have hrr_r1282 := h1279.2.2.2.2
              have h_passDay := h1279.1
              refine lv_iadd hx hb dX3_passDays_44 ?_
              refine lv_istore_n (lv' := [(2, .int ((bu) + (x1280))), (0, .ref (fa_B G + (b))), (1, .int (a1)), (3, .int (nI (j)))]) hx hb dX3_passDays_45 rfl hl (by decide) rfl (fun ls hl => ?_)
              refine lv_iinc (v := nI (j + 1)) (lv' := [(3, .int (nI (j + 1))), (2, .int ((bu) + (x1280))), (0, .ref (fa_B G + (b))), (1, .int (a1))]) hx hb dX3_passDays_46 hl (k := 3) rfl (nI_add (j) 1) (by decide) rfl (fun ls hl => ?_)
              refine lv_goto (tgt := 34) hx hb dX3_passDays_49 (by decide) ?_
              exact ih_34 (j + 1) ((bu) + (x1280)) v1281 r1282 _ _ _ (by omega) (⟨by omega, hIS_v1281, hr_r1282, (fa_fr.tr (fa_fr.tr fa_fr.rf (fa_fr.wide hi_34.2.2.2.1 (by omega) (by omega))) (fa_fr.wide h1279.2.2.2.1 (by omega) (by omega))), (fun k hk => (h1279.2.2.2.2 k hk).trans (hi_34.2.2.2.2.1 k hk)), (fun A hok hc h9 => by (have z := hi_34.2.2.2.2.2 A hok hc h9; obtain ⟨d, hd, e⟩ := hok.1.2.1; have h8 : d + ka ≤ 9999 := (by rw [e, eka, nI_add] at h9; exact (nI_leI (by omega) (by decide)).mp h9); have y := hok.days e j (by omega); have w := h_passDay _ y.1 (by rw [y.2]; exact nI_lt (by omega) (by decide)) z.2; exact ⟨by (rw [z.1, w.1]; rfl), w.2⟩))⟩) (lv_sub hl [2, 3, 1, 0] rfl) HX1283
        exact LOOP_34 (ka - 0 + 1) (0) (nI (0)) v r _ _ _ (Nat.lt_succ_self _) (⟨Nat.zero_le _, hI, hr, fa_fr.rf, fun k _ => rfl, fun A hok hc _ => ⟨rfl, hc⟩⟩) (lv_sub hl [2, 3, 1, 0] rfl) HX
      · refine lv_bipush (v := (-5 : Int32)) hx hb dX3_passDays_27 (by decide) ?_
        exact RET _ _ _ _ _ _ _ HX dX3_passDays_29 (⟨(fun A hok hc => by (rw [fb_passA_2 (fun z => z.elim c_2 (fun z => z c_9)) (by rw [← hc.now]; exact c_24)]; exact ⟨rfl, hc⟩)), hI, hr, fa_fr.rf, (fun k _ => rfl)⟩)
    · refine lv_bipush (v := (-2 : Int32)) hx hb dX3_passDays_12 (by decide) ?_
      exact RET _ _ _ _ _ _ _ HX dX3_passDays_14 (⟨(fun A hok hc => by (rw [fb_passA_1 (Or.inr c_9)]; exact ⟨rfl, hc⟩)), hI, hr, fa_fr.rf, (fun k _ => rfl)⟩)
