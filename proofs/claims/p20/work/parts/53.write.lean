set_option maxHeartbeats 4000000 in
set_option maxRecDepth 100000 in
theorem g_insert (l : Launch) (G : fa_G) (n : Nat) (hn : 397 ≤ n) (v : fa_V) (r : fa_R) (b : Nat) (hB : b ∈ fa_bs) (hr : fa_RS r b) (hI : fa_IS v b) (a1 : Int32) (a2 : Int32) : fa_MV l G n yX2_insert cX2_insert 4 2 [.ref (fa_B G + (b + 2)), .int (a1), .int (a2)] v r (fa_vo r (fun v1 => ((fa_N (v (b + 2) 0) < 8 → ∃ pl, fb_insP v v1 b a1 a2 (fa_N (v (b + 2) 0)) pl) ∧ fa_IS v1 b) ∧ (fa_fr (b + 2) (b + 5) v v1))) := by
  refine fa_startV (by decide +kernel) (Nat.le_of_ble_eq_true rfl) (fun p e s m args below meth c ls Q CX hl HX RET => ?_)
  have hl : lv_has ls 4 [(0, .ref (fa_B G + (b + 2))), (1, .int (a1)), (2, .int (a2))] := hl
  have hx := CX.1.1
  have hb := CX.1.2.1
  obtain ⟨n2, en2⟩ : ∃ n2, n2 = fa_N (v (b + 2) 0) := ⟨_, rfl⟩
  obtain ⟨hn2, h2⟩ := hI.n2 en2
  refine lv_aload_n hx hb dX2_insert_0 rfl (lv_at hl 0 rfl) ?_
  refine fa_geti (k := b + 2) CX HX fl_X2_18 (fa_lt hB 2 (by decide) hn) (fa_s2 hB) rfl dX2_insert_1 ?_
  rw [show v (b + 2) 0 = nI (n2) from h2]
  refine lv_bipush (v := nI (8)) hx hb dX2_insert_4 (by decide) ?_
  refine lv_icmp_lt (tgt := 10) hx hb dX2_insert_6 (by decide) (fun c_6 => ?_) (fun c_6 => ?_)
  · have hn8 : n2 < 8 := fa_ltN' (by omega) (by omega) c_6
    refine lv_aload_n hx hb dX2_insert_10 rfl (lv_at hl 0 rfl) ?_
    refine fa_geti (k := b + 2) CX HX fl_X2_18 (fa_lt hB 2 (by decide) hn) (fa_s2 hB) rfl dX2_insert_11 ?_
    rw [show v (b + 2) 0 = nI (n2) from h2]
    refine lv_istore_n (lv' := [(3, .int (nI (n2))), (0, .ref (fa_B G + (b + 2))), (1, .int (a1)), (2, .int (a2))]) hx hb dX2_insert_14 rfl hl (by decide) rfl (fun ls hl => ?_)
    have LOOP_15 : ∀ (fu : Nat) (pl : Nat) (v924 : fa_V) (H : Heap) (locs : List Loc) (ls : Array Slot), pl < fu → (pl ≤ n2 ∧ fa_IS v924 b ∧ v924 (b + 2) 0 = nI n2 ∧ fa_fr (b + 2) (b + 5) v v924 ∧ fb_insI v v924 b a1 a2 n2 pl) → lv_has ls 4 [(0, .ref (fa_B G + (b + 2))), (1, .int (a1)), (2, .int (a2)), (3, .int (nI (pl)))] → fa_HX G (n) v924 r s H locs → W p l e (fa_rm 2) s m args below meth c H locs (0) (0) Q (F0 m 15 ls []) := by
      intro fu
      induction fu with
      | zero => intro pl v924 H locs ls hk; exact absurd hk (Nat.not_lt_zero _)
      | succ fu ih_15 =>
        intro pl v924 H locs ls hk_15 hi_15 hl HX925
        refine lv_iload_n hx hb dX2_insert_15 rfl (lv_at hl 3 rfl) ?_
        refine lv_if_le (tgt := 65) hx hb dX2_insert_16 (by decide) (fun c_16 => ?_) (fun c_16 => ?_)
        · refine lv_aload_n hx hb dX2_insert_65 rfl (lv_at hl 0 rfl) ?_
          refine fa_getr (k := b + 2) (j := b + 3) CX HX925 fl_X2_9 (fa_lt hB 2 (by decide) hn) (fa_s2 hB) rfl hr.2.2.2.2.1 dX2_insert_66 ?_
          refine lv_iload_n hx hb dX2_insert_69 rfl (lv_at hl 3 rfl) ?_
          refine lv_iload_n hx hb dX2_insert_70 rfl (lv_at hl 1 rfl) ?_
          refine fa_iast (k := b + 3) (j := pl) CX HX925 (fa_lt hB 3 (by decide) hn) (fa_s3 hB) (by omega) (by first | decide | assumption) dX2_insert_71 (fun H locs v926 e927 HX928 => ?_)
          refine lv_aload_n hx hb dX2_insert_72 rfl (lv_at hl 0 rfl) ?_
          refine fa_getr (k := b + 2) (j := b + 4) CX HX928 fl_X2_15 (fa_lt hB 2 (by decide) hn) (fa_s2 hB) rfl hr.2.2.2.2.2.1 dX2_insert_73 ?_
          refine lv_iload_n hx hb dX2_insert_76 rfl (lv_at hl 3 rfl) ?_
          refine lv_iload_n hx hb dX2_insert_77 rfl (lv_at hl 2 rfl) ?_
          refine fa_iast (k := b + 4) (j := pl) CX HX928 (fa_lt hB 4 (by decide) hn) (fa_s4 hB) (by omega) (by first | decide | assumption) dX2_insert_78 (fun H locs v929 e930 HX931 => ?_)
          refine lv_aload_n hx hb dX2_insert_79 rfl (lv_at hl 0 rfl) ?_
          refine lv_dup hx hb dX2_insert_80 rfl ?_
          refine fa_geti (k := b + 2) CX HX931 fl_X2_18 (fa_lt hB 2 (by decide) hn) (fa_s2 hB) rfl dX2_insert_81 ?_
          rw [show v929 (b + 2) 0 = nI (n2) from (by rw [e930, fa_u_n _ _ (by omega)]; exact (by rw [e927, fa_u_n _ _ (by omega)]; exact hi_15.2.2.1))]
          refine lv_iconst (v := nI (1)) hx hb dX2_insert_84 (by decide) ?_
          refine fa_iaddN hx hb dX2_insert_85 ?_
          refine fa_puti (k := b + 2) CX HX931 fl_X2_18 (fa_lt hB 2 (by decide) hn) (fa_s2 hB) rfl rfl rfl dX2_insert_86 (fun H locs v932 e933 HX934 => ?_)
          exact RET _ _ _ _ _ _ HX934 dX2_insert_89 (⟨rfl, ⟨⟨(fun _ => ⟨pl, by rw [← en2]; exact hi_15.2.2.2.2.e hi_15.1 e927 e930 e933 (fun z => absurd c_16 (nI_nle z (by omega)))⟩), (by rw [e933]; exact fa_IS.set2 (by rw [e930]; exact fa_IS.u (by rw [e927]; exact fa_IS.u hi_15.2.1 (Or.inr (Or.inr (Or.inr (Or.inr (Or.inl rfl)))))) (Or.inr (Or.inr (Or.inr (Or.inr (Or.inr (Or.inl rfl))))))) (by omega))⟩, (by rw [e933]; exact fa_fr.u (by rw [e930]; exact fa_fr.u (by rw [e927]; exact fa_fr.u (fa_fr.tr fa_fr.rf (fa_fr.wide hi_15.2.2.2.1 (by omega) (by omega))) (by omega)) (by omega)) (by omega))⟩⟩)
        · have hp : 0 < pl := by
            refine Nat.pos_of_ne_zero (fun z => c_16 ?_)
            rw [z]; decide
          refine lv_aload_n hx hb dX2_insert_19 rfl (lv_at hl 0 rfl) ?_
          refine lv_iload_n hx hb dX2_insert_20 rfl (lv_at hl 1 rfl) ?_
          refine lv_iload_n hx hb dX2_insert_21 rfl (lv_at hl 2 rfl) ?_
          refine lv_iload_n hx hb dX2_insert_22 rfl (lv_at hl 3 rfl) ?_
          refine lv_iconst (v := nI (1)) hx hb dX2_insert_23 (by decide) ?_
          refine fa_isubN hx hb dX2_insert_24 (by omega) ?_
          refine fa_callVip (As := [.int (a1), .int (a2), .int (nI (pl - 1))]) (rest := []) CX HX925 (g_comesBefore l G n hn v924 r b hB hr hi_15.2.1 (a1) (a2) (pl - 1) (by omega)) ln_X2_28 (fa_lt hB 2 (by decide) hn) (fa_s2 hB) rfl rfl rfl (Nat.le_of_ble_eq_true rfl) hl.1 ⟨Nat.le_of_ble_eq_true rfl, Nat.le_of_ble_eq_true rfl⟩ ⟨Nat.le_refl _, Nat.le_refl _⟩ dX2_insert_25 (fun x936 H locs h935 HX937 => ?_)
          have h_comesBefore := h935
          refine lv_if_eq (tgt := 65) hx hb dX2_insert_28 (by decide) (fun c_28 => ?_) (fun c_28 => ?_)
          · refine lv_aload_n hx hb dX2_insert_65 rfl (lv_at hl 0 rfl) ?_
            refine fa_getr (k := b + 2) (j := b + 3) CX HX937 fl_X2_9 (fa_lt hB 2 (by decide) hn) (fa_s2 hB) rfl hr.2.2.2.2.1 dX2_insert_66 ?_
            refine lv_iload_n hx hb dX2_insert_69 rfl (lv_at hl 3 rfl) ?_
            refine lv_iload_n hx hb dX2_insert_70 rfl (lv_at hl 1 rfl) ?_
            refine fa_iast (k := b + 3) (j := pl) CX HX937 (fa_lt hB 3 (by decide) hn) (fa_s3 hB) (by omega) (by first | decide | assumption) dX2_insert_71 (fun H locs v938 e939 HX940 => ?_)
            refine lv_aload_n hx hb dX2_insert_72 rfl (lv_at hl 0 rfl) ?_
            refine fa_getr (k := b + 2) (j := b + 4) CX HX940 fl_X2_15 (fa_lt hB 2 (by decide) hn) (fa_s2 hB) rfl hr.2.2.2.2.2.1 dX2_insert_73 ?_
            refine lv_iload_n hx hb dX2_insert_76 rfl (lv_at hl 3 rfl) ?_
            refine lv_iload_n hx hb dX2_insert_77 rfl (lv_at hl 2 rfl) ?_
            refine fa_iast (k := b + 4) (j := pl) CX HX940 (fa_lt hB 4 (by decide) hn) (fa_s4 hB) (by omega) (by first | decide | assumption) dX2_insert_78 (fun H locs v941 e942 HX943 => ?_)
            refine lv_aload_n hx hb dX2_insert_79 rfl (lv_at hl 0 rfl) ?_
            refine lv_dup hx hb dX2_insert_80 rfl ?_
            refine fa_geti (k := b + 2) CX HX943 fl_X2_18 (fa_lt hB 2 (by decide) hn) (fa_s2 hB) rfl dX2_insert_81 ?_
            rw [show v941 (b + 2) 0 = nI (n2) from (by rw [e942, fa_u_n _ _ (by omega)]; exact (by rw [e939, fa_u_n _ _ (by omega)]; exact hi_15.2.2.1))]
            refine lv_iconst (v := nI (1)) hx hb dX2_insert_84 (by decide) ?_
            refine fa_iaddN hx hb dX2_insert_85 ?_
            refine fa_puti (k := b + 2) CX HX943 fl_X2_18 (fa_lt hB 2 (by decide) hn) (fa_s2 hB) rfl rfl rfl dX2_insert_86 (fun H locs v944 e945 HX946 => ?_)
            exact RET _ _ _ _ _ _ HX946 dX2_insert_89 (⟨rfl, ⟨⟨(fun _ => ⟨pl, by rw [← en2]; exact hi_15.2.2.2.2.e hi_15.1 e939 e942 e945 (fun _ => fb_cbn h_comesBefore c_28)⟩), (by rw [e945]; exact fa_IS.set2 (by rw [e942]; exact fa_IS.u (by rw [e939]; exact fa_IS.u hi_15.2.1 (Or.inr (Or.inr (Or.inr (Or.inr (Or.inl rfl)))))) (Or.inr (Or.inr (Or.inr (Or.inr (Or.inr (Or.inl rfl))))))) (by omega))⟩, (by rw [e945]; exact fa_fr.u (by rw [e942]; exact fa_fr.u (by rw [e939]; exact fa_fr.u (fa_fr.tr fa_fr.rf (fa_fr.wide hi_15.2.2.2.1 (by omega) (by omega))) (by omega)) (by omega)) (by omega))⟩⟩)
          · refine lv_aload_n hx hb dX2_insert_31 rfl (lv_at hl 0 rfl) ?_
            refine fa_getr (k := b + 2) (j := b + 3) CX HX937 fl_X2_9 (fa_lt hB 2 (by decide) hn) (fa_s2 hB) rfl hr.2.2.2.2.1 dX2_insert_32 ?_
            refine lv_iload_n hx hb dX2_insert_35 rfl (lv_at hl 3 rfl) ?_
            refine lv_aload_n hx hb dX2_insert_36 rfl (lv_at hl 0 rfl) ?_
            refine fa_getr (k := b + 2) (j := b + 3) CX HX937 fl_X2_9 (fa_lt hB 2 (by decide) hn) (fa_s2 hB) rfl hr.2.2.2.2.1 dX2_insert_37 ?_
            refine lv_iload_n hx hb dX2_insert_40 rfl (lv_at hl 3 rfl) ?_
            refine lv_iconst (v := nI (1)) hx hb dX2_insert_41 (by decide) ?_
            refine fa_isubN hx hb dX2_insert_42 (by omega) ?_
            refine fa_iald (k := b + 3) (j := pl - 1) CX HX937 (fa_lt hB 3 (by decide) hn) (fa_s3 hB) (by omega) (by first | decide | assumption) dX2_insert_43 ?_
            refine fa_iast (k := b + 3) (j := pl) CX HX937 (fa_lt hB 3 (by decide) hn) (fa_s3 hB) (by omega) (by first | decide | assumption) dX2_insert_44 (fun H locs v947 e948 HX949 => ?_)
            refine lv_aload_n hx hb dX2_insert_45 rfl (lv_at hl 0 rfl) ?_
            refine fa_getr (k := b + 2) (j := b + 4) CX HX949 fl_X2_15 (fa_lt hB 2 (by decide) hn) (fa_s2 hB) rfl hr.2.2.2.2.2.1 dX2_insert_46 ?_
            refine lv_iload_n hx hb dX2_insert_49 rfl (lv_at hl 3 rfl) ?_
            refine lv_aload_n hx hb dX2_insert_50 rfl (lv_at hl 0 rfl) ?_
            refine fa_getr (k := b + 2) (j := b + 4) CX HX949 fl_X2_15 (fa_lt hB 2 (by decide) hn) (fa_s2 hB) rfl hr.2.2.2.2.2.1 dX2_insert_51 ?_
            refine lv_iload_n hx hb dX2_insert_54 rfl (lv_at hl 3 rfl) ?_
            refine lv_iconst (v := nI (1)) hx hb dX2_insert_55 (by decide) ?_
            refine fa_isubN hx hb dX2_insert_56 (by omega) ?_
            refine fa_iald (k := b + 4) (j := pl - 1) CX HX949 (fa_lt hB 4 (by decide) hn) (fa_s4 hB) (by omega) (by first | decide | assumption) dX2_insert_57 ?_
            refine fa_iast (k := b + 4) (j := pl) CX HX949 (fa_lt hB 4 (by decide) hn) (fa_s4 hB) (by omega) (by first | decide | assumption) dX2_insert_58 (fun H locs v950 e951 HX952 => ?_)
            refine lv_iinc (v := nI (pl - 1)) (lv' := [(3, .int (nI (pl - 1))), (0, .ref (fa_B G + (b + 2))), (1, .int (a1)), (2, .int (a2))]) hx hb dX2_insert_59 hl (k := 3) rfl (fa_dec (by omega)) (by decide) rfl (fun ls hl => ?_)
            refine lv_goto (tgt := 15) hx hb dX2_insert_62 (by decide) ?_
            exact ih_15 (pl - 1) v950 _ _ _ (by omega) (⟨by omega, (by rw [e951]; exact fa_IS.u (by rw [e948]; exact fa_IS.u hi_15.2.1 (Or.inr (Or.inr (Or.inr (Or.inr (Or.inl rfl)))))) (Or.inr (Or.inr (Or.inr (Or.inr (Or.inr (Or.inl rfl))))))), (by rw [e951, fa_u_n _ _ (by omega)]; exact (by rw [e948, fa_u_n _ _ (by omega)]; exact hi_15.2.2.1)), (by rw [e951]; exact fa_fr.u (by rw [e948]; exact fa_fr.u (fa_fr.tr fa_fr.rf (fa_fr.wide hi_15.2.2.2.1 (by omega) (by omega))) (by omega)) (by omega)), hi_15.2.2.2.2.s hp e948 e951 (fb_cbt h_comesBefore c_28)⟩) (lv_sub hl [1, 2, 3, 0] rfl) HX952
    exact LOOP_15 (n2 + 1) (n2) v _ _ _ (Nat.lt_succ_self _) (⟨Nat.le_refl _, hI, h2, fa_fr.rf, fun k _ => ⟨rfl, rfl⟩, fun k h1 h2 => by omega, fun k h1 h2 => by omega⟩) (lv_sub hl [1, 2, 3, 0] rfl) HX
  · exact RET _ _ _ _ _ _ HX dX2_insert_9 (⟨rfl, ⟨⟨(fun z => absurd ((nI_ltI (by omega) (by decide)).mpr (by rw [← en2] at z; exact z)) c_6), hI⟩, fa_fr.rf⟩⟩)
set_option maxHeartbeats 4000000 in
set_option maxRecDepth 100000 in
theorem g_removeAt (l : Launch) (G : fa_G) (n : Nat) (hn : 397 ≤ n) (v : fa_V) (r : fa_R) (b : Nat) (hB : b ∈ fa_bs) (hr : fa_RS r b) (hI : fa_IS v b) (a1 : Int32) : fa_MV l G n yX2_removeAt cX2_removeAt 3 1 [.ref (fa_B G + (b + 2)), .int (a1)] v r (fa_vo r (fun v1 => ((∀ ja, a1 = nI ja → ja < fa_N (v (b + 2) 0) → fb_remP v v1 b (fa_N (v (b + 2) 0)) ja) ∧ fa_IS v1 b) ∧ (fa_fr (b + 2) (b + 5) v v1))) := by
  refine fa_startV (by decide +kernel) (Nat.le_of_ble_eq_true rfl) (fun p e s m args below meth c ls Q CX hl HX RET => ?_)
  have hl : lv_has ls 3 [(0, .ref (fa_B G + (b + 2))), (1, .int (a1))] := hl
  have hx := CX.1.1
  have hb := CX.1.2.1
  obtain ⟨n2, en2⟩ : ∃ n2, n2 = fa_N (v (b + 2) 0) := ⟨_, rfl⟩
  obtain ⟨hn2, h2⟩ := hI.n2 en2
  refine lv_iload_n hx hb dX2_removeAt_0 rfl (lv_at hl 1 rfl) ?_
  refine lv_if_lt (tgt := 12) hx hb dX2_removeAt_1 (by decide) (fun c_1 => ?_) (fun c_1 => ?_)
  · exact RET _ _ _ _ _ _ HX dX2_removeAt_12 (⟨rfl, ⟨⟨(fun jb hb hb2 => absurd hb2 (by rw [← en2]; intro hb2; exact absurd c_1 (by rw [hb]; exact nI_pos (by omega)))), hI⟩, fa_fr.rf⟩⟩)
  · refine lv_iload_n hx hb dX2_removeAt_4 rfl (lv_at hl 1 rfl) ?_
    refine lv_aload_n hx hb dX2_removeAt_5 rfl (lv_at hl 0 rfl) ?_
    refine fa_geti (k := b + 2) CX HX fl_X2_18 (fa_lt hB 2 (by decide) hn) (fa_s2 hB) rfl dX2_removeAt_6 ?_
    rw [show v (b + 2) 0 = nI (n2) from h2]
    refine lv_icmp_lt (tgt := 13) hx hb dX2_removeAt_9 (by decide) (fun c_9 => ?_) (fun c_9 => ?_)
    · obtain ⟨ja, hja, eja⟩ := fa_ixN (by omega) c_1 c_9
      refine lv_aload_n hx hb dX2_removeAt_13 rfl (lv_at hl 0 rfl) ?_
      refine lv_dup hx hb dX2_removeAt_14 rfl ?_
      refine fa_geti (k := b + 2) CX HX fl_X2_18 (fa_lt hB 2 (by decide) hn) (fa_s2 hB) rfl dX2_removeAt_15 ?_
      rw [show v (b + 2) 0 = nI (n2) from h2]
      refine lv_iconst (v := nI (1)) hx hb dX2_removeAt_18 (by decide) ?_
      refine fa_isubN hx hb dX2_removeAt_19 (by omega) ?_
      refine fa_puti (k := b + 2) CX HX fl_X2_18 (fa_lt hB 2 (by decide) hn) (fa_s2 hB) rfl rfl rfl dX2_removeAt_20 (fun H locs v953 e954 HX955 => ?_)
      refine lv_iload_n hx hb dX2_removeAt_23 rfl (lv_at hl 1 rfl) ?_
      rw [show a1 = nI (ja) from eja]
      refine lv_istore_n (lv' := [(2, .int (nI (ja))), (0, .ref (fa_B G + (b + 2))), (1, .int (a1))]) hx hb dX2_removeAt_24 rfl hl (by decide) rfl (fun ls hl => ?_)
      have LOOP_25 : ∀ (fu : Nat) (j : Nat) (v956 : fa_V) (H : Heap) (locs : List Loc) (ls : Array Slot), n2 - 1 - j < fu → (j ≤ 7 ∧ fa_IS v956 b ∧ v956 (b + 2) 0 = nI (n2 - 1) ∧ fa_fr (b + 2) (b + 5) v v956 ∧ fb_remI v v956 b ja j) → lv_has ls 3 [(0, .ref (fa_B G + (b + 2))), (1, .int (a1)), (2, .int (nI (j)))] → fa_HX G (n) v956 r s H locs → W p l e (fa_rm 1) s m args below meth c H locs (0) (0) Q (F0 m 25 ls []) := by
        intro fu
        induction fu with
        | zero => intro j v956 H locs ls hk; exact absurd hk (Nat.not_lt_zero _)
        | succ fu ih_25 =>
          intro j v956 H locs ls hk_25 hi_25 hl HX957
          refine lv_iload_n hx hb dX2_removeAt_25 rfl (lv_at hl 2 rfl) ?_
          refine lv_aload_n hx hb dX2_removeAt_26 rfl (lv_at hl 0 rfl) ?_
          refine fa_geti (k := b + 2) CX HX957 fl_X2_18 (fa_lt hB 2 (by decide) hn) (fa_s2 hB) rfl dX2_removeAt_27 ?_
          rw [show v956 (b + 2) 0 = nI (n2 - 1) from hi_25.2.2.1]
          refine lv_icmp_ge (tgt := 67) hx hb dX2_removeAt_30 (by decide) (fun c_30 => ?_) (fun c_30 => ?_)
          · exact RET _ _ _ _ _ _ HX957 dX2_removeAt_67 (⟨rfl, ⟨⟨(fun jb hb hb2 => by (have ej : jb = ja := fb_nIinj2 (by omega) (by omega) (hb.symm.trans eja); subst ej; rw [← en2]; exact hi_25.2.2.2.2.e (fa_leN (by omega) (by omega) c_30) hi_25.2.2.1)), hi_25.2.1⟩, (fa_fr.tr fa_fr.rf (fa_fr.wide hi_25.2.2.2.1 (by omega) (by omega)))⟩⟩)
          · have hj := fa_ltN (by omega) (by omega) c_30
            refine lv_aload_n hx hb dX2_removeAt_33 rfl (lv_at hl 0 rfl) ?_
            refine fa_getr (k := b + 2) (j := b + 3) CX HX957 fl_X2_9 (fa_lt hB 2 (by decide) hn) (fa_s2 hB) rfl hr.2.2.2.2.1 dX2_removeAt_34 ?_
            refine lv_iload_n hx hb dX2_removeAt_37 rfl (lv_at hl 2 rfl) ?_
            refine lv_aload_n hx hb dX2_removeAt_38 rfl (lv_at hl 0 rfl) ?_
            refine fa_getr (k := b + 2) (j := b + 3) CX HX957 fl_X2_9 (fa_lt hB 2 (by decide) hn) (fa_s2 hB) rfl hr.2.2.2.2.1 dX2_removeAt_39 ?_
            refine lv_iload_n hx hb dX2_removeAt_42 rfl (lv_at hl 2 rfl) ?_
            refine lv_iconst (v := nI (1)) hx hb dX2_removeAt_43 (by decide) ?_
            refine fa_iaddN hx hb dX2_removeAt_44 ?_
            refine fa_iald (k := b + 3) (j := j + 1) CX HX957 (fa_lt hB 3 (by decide) hn) (fa_s3 hB) (by omega) (by first | decide | assumption) dX2_removeAt_45 ?_
            refine fa_iast (k := b + 3) (j := j) CX HX957 (fa_lt hB 3 (by decide) hn) (fa_s3 hB) (by omega) (by first | decide | assumption) dX2_removeAt_46 (fun H locs v958 e959 HX960 => ?_)
            refine lv_aload_n hx hb dX2_removeAt_47 rfl (lv_at hl 0 rfl) ?_
            refine fa_getr (k := b + 2) (j := b + 4) CX HX960 fl_X2_15 (fa_lt hB 2 (by decide) hn) (fa_s2 hB) rfl hr.2.2.2.2.2.1 dX2_removeAt_48 ?_
            refine lv_iload_n hx hb dX2_removeAt_51 rfl (lv_at hl 2 rfl) ?_
            refine lv_aload_n hx hb dX2_removeAt_52 rfl (lv_at hl 0 rfl) ?_
            refine fa_getr (k := b + 2) (j := b + 4) CX HX960 fl_X2_15 (fa_lt hB 2 (by decide) hn) (fa_s2 hB) rfl hr.2.2.2.2.2.1 dX2_removeAt_53 ?_
            refine lv_iload_n hx hb dX2_removeAt_56 rfl (lv_at hl 2 rfl) ?_
            refine lv_iconst (v := nI (1)) hx hb dX2_removeAt_57 (by decide) ?_
            refine fa_iaddN hx hb dX2_removeAt_58 ?_
            refine fa_iald (k := b + 4) (j := j + 1) CX HX960 (fa_lt hB 4 (by decide) hn) (fa_s4 hB) (by omega) (by first | decide | assumption) dX2_removeAt_59 ?_
            refine fa_iast (k := b + 4) (j := j) CX HX960 (fa_lt hB 4 (by decide) hn) (fa_s4 hB) (by omega) (by first | decide | assumption) dX2_removeAt_60 (fun H locs v961 e962 HX963 => ?_)
            refine lv_iinc (v := nI (j + 1)) (lv' := [(2, .int (nI (j + 1))), (0, .ref (fa_B G + (b + 2))), (1, .int (a1))]) hx hb dX2_removeAt_61 hl (k := 2) rfl (nI_add (j) 1) (by decide) rfl (fun ls hl => ?_)
            refine lv_goto (tgt := 25) hx hb dX2_removeAt_64 (by decide) ?_
            exact ih_25 (j + 1) v961 _ _ _ (by omega) (⟨by omega, (by rw [e962]; exact fa_IS.u (by rw [e959]; exact fa_IS.u hi_25.2.1 (Or.inr (Or.inr (Or.inr (Or.inr (Or.inl rfl)))))) (Or.inr (Or.inr (Or.inr (Or.inr (Or.inr (Or.inl rfl))))))), (by rw [e962, fa_u_n _ _ (by omega)]; exact (by rw [e959, fa_u_n _ _ (by omega)]; exact hi_25.2.2.1)), (by rw [e962]; exact fa_fr.u (by rw [e959]; exact fa_fr.u (fa_fr.tr fa_fr.rf (fa_fr.wide hi_25.2.2.2.1 (by omega) (by omega))) (by omega)) (by omega)), hi_25.2.2.2.2.s e959 e962⟩) (lv_sub hl [1, 2, 0] rfl) HX963
      exact LOOP_25 (n2 - 1 - ja + 1) (ja) v953 _ _ _ (Nat.lt_succ_self _) (⟨by omega, (by rw [e954]; exact fa_IS.set2 hI (by omega)), (by rw [e954, fa_u_s]), (by rw [e954]; exact fa_fr.u fa_fr.rf (by omega)), fb_remI0 e954⟩) (lv_sub hl [1, 2, 0] rfl) HX955
    · exact RET _ _ _ _ _ _ HX dX2_removeAt_12 (⟨rfl, ⟨⟨(fun jb hb hb2 => absurd hb2 (by rw [← en2]; intro hb2; exact c_9 (by rw [hb]; exact (nI_ltI (by omega) (by omega)).mpr hb2))), hI⟩, fa_fr.rf⟩⟩)
set_option maxHeartbeats 4000000 in
set_option maxRecDepth 100000 in
theorem g_leave (l : Launch) (G : fa_G) (n : Nat) (hn : 397 ≤ n) (v : fa_V) (r : fa_R) (b : Nat) (hB : b ∈ fa_bs) (hr : fa_RS r b) (hI : fa_IS v b) (qa : Nat) (a1 : Int32) (hqa : fa_isF b qa) : fa_MV l G n yX5_leave cX5_leave 4 2 [.ref (fa_B G + (b + 5)), .ref (fa_B G + (qa)), .int (a1)] v r (fa_vo r (fun v1 => ((∀ m T, fb_cT v b m T → fb_cT v1 b (fb_lv a1 (v qa) (m, T)).1 (fb_lv a1 (v qa) (m, T)).2) ∧ fa_IS v1 b) ∧ (fa_fr (b + 5) (b + 7) v v1))) := by
  refine fa_startV (by decide +kernel) (Nat.le_of_ble_eq_true rfl) (fun p e s m args below meth c ls Q CX hl HX RET => ?_)
  have hl : lv_has ls 4 [(0, .ref (fa_B G + (b + 5))), (1, .ref (fa_B G + (qa))), (2, .int (a1))] := hl
  have hx := CX.1.1
  have hb := CX.1.2.1
  obtain ⟨n5, en5⟩ : ∃ n5, n5 = fa_N (v (b + 5) 0) := ⟨_, rfl⟩
  obtain ⟨hn5, h5⟩ := hI.n5 en5
  have hqi := fa_isF_in hqa
  refine lv_aload_n hx hb dX5_leave_0 rfl (lv_at hl 0 rfl) ?_
  refine fa_geti (k := b + 5) CX HX fl_X5_15 (fa_lt hB 5 (by decide) hn) (fa_s5 hB) rfl dX5_leave_1 ?_
  rw [show v (b + 5) 0 = nI (n5) from h5]
  refine lv_bipush (v := nI (12)) hx hb dX5_leave_4 (by decide) ?_
  refine lv_icmp_lt (tgt := 34) hx hb dX5_leave_6 (by decide) (fun c_6 => ?_) (fun c_6 => ?_)
  · have hn12 : n5 < 12 := fa_ltN' (by omega) (by omega) c_6
    refine lv_aload_n hx hb dX5_leave_34 rfl (lv_at hl 0 rfl) ?_
    refine fa_geti (k := b + 5) CX HX fl_X5_15 (fa_lt hB 5 (by decide) hn) (fa_s5 hB) rfl dX5_leave_35 ?_
    rw [show v (b + 5) 0 = nI (n5) from h5]
    refine lv_iconst (v := nI (5)) hx hb dX5_leave_38 (by decide) ?_
    refine fa_imulN hx hb dX5_leave_39 ?_
    refine lv_istore_n (lv' := [(3, .int (nI (n5 * 5))), (0, .ref (fa_B G + (b + 5))), (1, .ref (fa_B G + (qa))), (2, .int (a1))]) hx hb dX5_leave_40 rfl hl (by decide) rfl (fun ls hl => ?_)
    refine lv_aload_n hx hb dX5_leave_41 rfl (lv_at hl 1 rfl) ?_
    refine fa_getr (k := b + 5) (j := b + 6) CX HX fl_X5_9 (fa_lt hB 5 (by decide) hn) (fa_s5 hB) rfl hr.2.2.2.2.2.2.1 dX5_leave_42 ?_
    refine lv_iload_n hx hb dX5_leave_45 rfl (lv_at hl 0 rfl) ?_
    refine lv_aload_n hx hb dX5_leave_46 rfl (lv_at hl 2 rfl) ?_
    refine fa_geti (k := qa) CX HX fl_X5_25 (fa_isF_lt hB hqa hn) (fa_isF_sh hB hqa) rfl dX5_leave_47 ?_
    refine fa_iast (k := b + 6) (j := n5 * 5) CX HX (fa_lt hB 6 (by decide) hn) (fa_s6 hB) (by omega) (by first | decide | assumption) dX5_leave_50 (fun H locs v964 e965 HX966 => ?_)
    refine lv_aload_n hx hb dX5_leave_51 rfl (lv_at hl 1 rfl) ?_
    refine fa_getr (k := b + 5) (j := b + 6) CX HX966 fl_X5_9 (fa_lt hB 5 (by decide) hn) (fa_s5 hB) rfl hr.2.2.2.2.2.2.1 dX5_leave_52 ?_
    refine lv_iload_n hx hb dX5_leave_55 rfl (lv_at hl 0 rfl) ?_
    refine lv_iconst (v := nI (1)) hx hb dX5_leave_56 (by decide) ?_
    refine fa_iaddN hx hb dX5_leave_57 ?_
    refine lv_aload_n hx hb dX5_leave_58 rfl (lv_at hl 2 rfl) ?_
    refine fa_geti (k := qa) CX HX966 fl_X5_30 (fa_isF_lt hB hqa hn) (fa_isF_sh hB hqa) rfl dX5_leave_59 ?_
    refine fa_iast (k := b + 6) (j := n5 * 5 + 1) CX HX966 (fa_lt hB 6 (by decide) hn) (fa_s6 hB) (by omega) (by first | decide | assumption) dX5_leave_62 (fun H locs v967 e968 HX969 => ?_)
    refine lv_aload_n hx hb dX5_leave_63 rfl (lv_at hl 1 rfl) ?_
    refine fa_getr (k := b + 5) (j := b + 6) CX HX969 fl_X5_9 (fa_lt hB 5 (by decide) hn) (fa_s5 hB) rfl hr.2.2.2.2.2.2.1 dX5_leave_64 ?_
    refine lv_iload_n hx hb dX5_leave_67 rfl (lv_at hl 0 rfl) ?_
    refine lv_iconst (v := nI (2)) hx hb dX5_leave_68 (by decide) ?_
    refine fa_iaddN hx hb dX5_leave_69 ?_
    refine lv_aload_n hx hb dX5_leave_70 rfl (lv_at hl 2 rfl) ?_
    refine fa_geti (k := qa) CX HX969 fl_X5_33 (fa_isF_lt hB hqa hn) (fa_isF_sh hB hqa) rfl dX5_leave_71 ?_
    refine fa_iast (k := b + 6) (j := n5 * 5 + 2) CX HX969 (fa_lt hB 6 (by decide) hn) (fa_s6 hB) (by omega) (by first | decide | assumption) dX5_leave_74 (fun H locs v970 e971 HX972 => ?_)
    refine lv_aload_n hx hb dX5_leave_75 rfl (lv_at hl 1 rfl) ?_
    refine fa_getr (k := b + 5) (j := b + 6) CX HX972 fl_X5_9 (fa_lt hB 5 (by decide) hn) (fa_s5 hB) rfl hr.2.2.2.2.2.2.1 dX5_leave_76 ?_
    refine lv_iload_n hx hb dX5_leave_79 rfl (lv_at hl 0 rfl) ?_
    refine lv_iconst (v := nI (3)) hx hb dX5_leave_80 (by decide) ?_
    refine fa_iaddN hx hb dX5_leave_81 ?_
    refine lv_iload_n hx hb dX5_leave_82 rfl (lv_at hl 3 rfl) ?_
    refine fa_iast (k := b + 6) (j := n5 * 5 + 3) CX HX972 (fa_lt hB 6 (by decide) hn) (fa_s6 hB) (by omega) (by first | decide | assumption) dX5_leave_83 (fun H locs v973 e974 HX975 => ?_)
    refine lv_aload_n hx hb dX5_leave_84 rfl (lv_at hl 1 rfl) ?_
    refine fa_getr (k := b + 5) (j := b + 6) CX HX975 fl_X5_9 (fa_lt hB 5 (by decide) hn) (fa_s5 hB) rfl hr.2.2.2.2.2.2.1 dX5_leave_85 ?_
    refine lv_iload_n hx hb dX5_leave_88 rfl (lv_at hl 0 rfl) ?_
    refine lv_iconst (v := nI (4)) hx hb dX5_leave_89 (by decide) ?_
    refine fa_iaddN hx hb dX5_leave_90 ?_
    refine lv_aload_n hx hb dX5_leave_91 rfl (lv_at hl 2 rfl) ?_
    refine fa_geti (k := qa) CX HX975 fl_X5_36 (fa_isF_lt hB hqa hn) (fa_isF_sh hB hqa) rfl dX5_leave_92 ?_
    refine fa_iast (k := b + 6) (j := n5 * 5 + 4) CX HX975 (fa_lt hB 6 (by decide) hn) (fa_s6 hB) (by omega) (by first | decide | assumption) dX5_leave_95 (fun H locs v976 e977 HX978 => ?_)
    refine lv_aload_n hx hb dX5_leave_96 rfl (lv_at hl 1 rfl) ?_
    refine lv_dup hx hb dX5_leave_97 rfl ?_
    refine fa_geti (k := b + 5) CX HX978 fl_X5_15 (fa_lt hB 5 (by decide) hn) (fa_s5 hB) rfl dX5_leave_98 ?_
    rw [show v976 (b + 5) 0 = nI (n5) from (by rw [e977, fa_u_n _ _ (by omega)]; exact (by rw [e974, fa_u_n _ _ (by omega)]; exact (by rw [e971, fa_u_n _ _ (by omega)]; exact (by rw [e968, fa_u_n _ _ (by omega)]; exact (by rw [e965, fa_u_n _ _ (by omega)]; exact h5)))))]
    refine lv_iconst (v := nI (1)) hx hb dX5_leave_101 (by decide) ?_
    refine fa_iaddN hx hb dX5_leave_102 ?_
    refine fa_puti (k := b + 5) CX HX978 fl_X5_15 (fa_lt hB 5 (by decide) hn) (fa_s5 hB) rfl rfl rfl dX5_leave_103 (fun H locs v979 e980 HX981 => ?_)
    exact RET _ _ _ _ _ _ HX981 dX5_leave_106 (⟨rfl, ⟨⟨(fun m T hT => fb_c_lv1 (by omega) hT (by rw [en5, hT.2.1, fa_N_nI (by have := hT.1; omega)]) hn12 e965 e968 e971 e974 e977 e980), (by rw [e980]; exact fa_IS.set5 (by rw [e977]; exact fa_IS.u (by rw [e974]; exact fa_IS.u (by rw [e971]; exact fa_IS.u (by rw [e968]; exact fa_IS.u (by rw [e965]; exact fa_IS.u hI (Or.inr (Or.inr (Or.inr (Or.inr (Or.inr (Or.inr (Or.inl rfl)))))))) (Or.inr (Or.inr (Or.inr (Or.inr (Or.inr (Or.inr (Or.inl rfl)))))))) (Or.inr (Or.inr (Or.inr (Or.inr (Or.inr (Or.inr (Or.inl rfl)))))))) (Or.inr (Or.inr (Or.inr (Or.inr (Or.inr (Or.inr (Or.inl rfl)))))))) (Or.inr (Or.inr (Or.inr (Or.inr (Or.inr (Or.inr (Or.inl rfl)))))))) (by omega))⟩, (by rw [e980]; exact fa_fr.u (by rw [e977]; exact fa_fr.u (by rw [e974]; exact fa_fr.u (by rw [e971]; exact fa_fr.u (by rw [e968]; exact fa_fr.u (by rw [e965]; exact fa_fr.u fa_fr.rf (by omega)) (by omega)) (by omega)) (by omega)) (by omega)) (by omega))⟩⟩)
  · refine lv_aload_n hx hb dX5_leave_9 rfl (lv_at hl 0 rfl) ?_
    refine lv_bipush (v := nI (11)) hx hb dX5_leave_10 (by decide) ?_
    refine fa_puti (k := b + 5) CX HX fl_X5_15 (fa_lt hB 5 (by decide) hn) (fa_s5 hB) rfl rfl rfl dX5_leave_12 (fun H locs v982 e983 HX984 => ?_)
    refine lv_aload_n hx hb dX5_leave_15 rfl (lv_at hl 0 rfl) ?_
    refine fa_getr (k := b + 5) (j := b + 6) CX HX984 fl_X5_9 (fa_lt hB 5 (by decide) hn) (fa_s5 hB) rfl hr.2.2.2.2.2.2.1 dX5_leave_16 ?_
    refine lv_iconst (v := nI (5)) hx hb dX5_leave_19 (by decide) ?_
    refine lv_aload_n hx hb dX5_leave_20 rfl (lv_at hl 0 rfl) ?_
    refine fa_getr (k := b + 5) (j := b + 6) CX HX984 fl_X5_9 (fa_lt hB 5 (by decide) hn) (fa_s5 hB) rfl hr.2.2.2.2.2.2.1 dX5_leave_21 ?_
    refine lv_iconst (v := nI (0)) hx hb dX5_leave_24 (by decide) ?_
    refine lv_aload_n hx hb dX5_leave_25 rfl (lv_at hl 0 rfl) ?_
    refine fa_geti (k := b + 5) CX HX984 fl_X5_15 (fa_lt hB 5 (by decide) hn) (fa_s5 hB) rfl dX5_leave_26 ?_
    rw [show v982 (b + 5) 0 = nI (11) from (by rw [e983, fa_u_s])]
    refine lv_iconst (v := nI (5)) hx hb dX5_leave_29 (by decide) ?_
    refine fa_imulN hx hb dX5_leave_30 ?_
    refine fa_copy (k0 := b + 6) (k1 := b + 6) (sp := 5) (dp := 0) (cnt := 11 * 5) CX HX984 fa_cpl_X5_19 fa_cpn fa_cps fa_cpi hl.1 (fa_lt hB 6 (by decide) hn) (fa_s6 hB) (fa_lt hB 6 (by decide) hn) (fa_s6 hB) (by decide) (by decide) (by first | decide | assumption) (by first | decide | assumption) (Nat.le_of_ble_eq_true rfl) (by decide +kernel) dX5_leave_31 (fun H locs v985 e986 HX987 => ?_)
    refine lv_aload_n hx hb dX5_leave_34 rfl (lv_at hl 0 rfl) ?_
    refine fa_geti (k := b + 5) CX HX987 fl_X5_15 (fa_lt hB 5 (by decide) hn) (fa_s5 hB) rfl dX5_leave_35 ?_
    rw [show v985 (b + 5) 0 = nI (11) from (by rw [fa_cp_out e986 _ (by omega)]; exact (by rw [e983, fa_u_s]))]
    refine lv_iconst (v := nI (5)) hx hb dX5_leave_38 (by decide) ?_
    refine fa_imulN hx hb dX5_leave_39 ?_
    refine lv_istore_n (lv' := [(3, .int (nI (11 * 5))), (0, .ref (fa_B G + (b + 5))), (1, .ref (fa_B G + (qa))), (2, .int (a1))]) hx hb dX5_leave_40 rfl hl (by decide) rfl (fun ls hl => ?_)
    refine lv_aload_n hx hb dX5_leave_41 rfl (lv_at hl 1 rfl) ?_
    refine fa_getr (k := b + 5) (j := b + 6) CX HX987 fl_X5_9 (fa_lt hB 5 (by decide) hn) (fa_s5 hB) rfl hr.2.2.2.2.2.2.1 dX5_leave_42 ?_
    refine lv_iload_n hx hb dX5_leave_45 rfl (lv_at hl 0 rfl) ?_
    refine lv_aload_n hx hb dX5_leave_46 rfl (lv_at hl 2 rfl) ?_
    refine fa_geti (k := qa) CX HX987 fl_X5_25 (fa_isF_lt hB hqa hn) (fa_isF_sh hB hqa) rfl dX5_leave_47 ?_
    refine fa_iast (k := b + 6) (j := 11 * 5) CX HX987 (fa_lt hB 6 (by decide) hn) (fa_s6 hB) (by omega) (by first | decide | assumption) dX5_leave_50 (fun H locs v988 e989 HX990 => ?_)
    refine lv_aload_n hx hb dX5_leave_51 rfl (lv_at hl 1 rfl) ?_
    refine fa_getr (k := b + 5) (j := b + 6) CX HX990 fl_X5_9 (fa_lt hB 5 (by decide) hn) (fa_s5 hB) rfl hr.2.2.2.2.2.2.1 dX5_leave_52 ?_
    refine lv_iload_n hx hb dX5_leave_55 rfl (lv_at hl 0 rfl) ?_
    refine lv_iconst (v := nI (1)) hx hb dX5_leave_56 (by decide) ?_
    refine fa_iaddN hx hb dX5_leave_57 ?_
    refine lv_aload_n hx hb dX5_leave_58 rfl (lv_at hl 2 rfl) ?_
    refine fa_geti (k := qa) CX HX990 fl_X5_30 (fa_isF_lt hB hqa hn) (fa_isF_sh hB hqa) rfl dX5_leave_59 ?_
    refine fa_iast (k := b + 6) (j := 11 * 5 + 1) CX HX990 (fa_lt hB 6 (by decide) hn) (fa_s6 hB) (by omega) (by first | decide | assumption) dX5_leave_62 (fun H locs v991 e992 HX993 => ?_)
    refine lv_aload_n hx hb dX5_leave_63 rfl (lv_at hl 1 rfl) ?_
    refine fa_getr (k := b + 5) (j := b + 6) CX HX993 fl_X5_9 (fa_lt hB 5 (by decide) hn) (fa_s5 hB) rfl hr.2.2.2.2.2.2.1 dX5_leave_64 ?_
    refine lv_iload_n hx hb dX5_leave_67 rfl (lv_at hl 0 rfl) ?_
    refine lv_iconst (v := nI (2)) hx hb dX5_leave_68 (by decide) ?_
    refine fa_iaddN hx hb dX5_leave_69 ?_
    refine lv_aload_n hx hb dX5_leave_70 rfl (lv_at hl 2 rfl) ?_
    refine fa_geti (k := qa) CX HX993 fl_X5_33 (fa_isF_lt hB hqa hn) (fa_isF_sh hB hqa) rfl dX5_leave_71 ?_
    refine fa_iast (k := b + 6) (j := 11 * 5 + 2) CX HX993 (fa_lt hB 6 (by decide) hn) (fa_s6 hB) (by omega) (by first | decide | assumption) dX5_leave_74 (fun H locs v994 e995 HX996 => ?_)
    refine lv_aload_n hx hb dX5_leave_75 rfl (lv_at hl 1 rfl) ?_
    refine fa_getr (k := b + 5) (j := b + 6) CX HX996 fl_X5_9 (fa_lt hB 5 (by decide) hn) (fa_s5 hB) rfl hr.2.2.2.2.2.2.1 dX5_leave_76 ?_
    refine lv_iload_n hx hb dX5_leave_79 rfl (lv_at hl 0 rfl) ?_
    refine lv_iconst (v := nI (3)) hx hb dX5_leave_80 (by decide) ?_
    refine fa_iaddN hx hb dX5_leave_81 ?_
    refine lv_iload_n hx hb dX5_leave_82 rfl (lv_at hl 3 rfl) ?_
    refine fa_iast (k := b + 6) (j := 11 * 5 + 3) CX HX996 (fa_lt hB 6 (by decide) hn) (fa_s6 hB) (by omega) (by first | decide | assumption) dX5_leave_83 (fun H locs v997 e998 HX999 => ?_)
    refine lv_aload_n hx hb dX5_leave_84 rfl (lv_at hl 1 rfl) ?_
    refine fa_getr (k := b + 5) (j := b + 6) CX HX999 fl_X5_9 (fa_lt hB 5 (by decide) hn) (fa_s5 hB) rfl hr.2.2.2.2.2.2.1 dX5_leave_85 ?_
    refine lv_iload_n hx hb dX5_leave_88 rfl (lv_at hl 0 rfl) ?_
    refine lv_iconst (v := nI (4)) hx hb dX5_leave_89 (by decide) ?_
    refine fa_iaddN hx hb dX5_leave_90 ?_
    refine lv_aload_n hx hb dX5_leave_91 rfl (lv_at hl 2 rfl) ?_
    refine fa_geti (k := qa) CX HX999 fl_X5_36 (fa_isF_lt hB hqa hn) (fa_isF_sh hB hqa) rfl dX5_leave_92 ?_
    refine fa_iast (k := b + 6) (j := 11 * 5 + 4) CX HX999 (fa_lt hB 6 (by decide) hn) (fa_s6 hB) (by omega) (by first | decide | assumption) dX5_leave_95 (fun H locs v1000 e1001 HX1002 => ?_)
    refine lv_aload_n hx hb dX5_leave_96 rfl (lv_at hl 1 rfl) ?_
    refine lv_dup hx hb dX5_leave_97 rfl ?_
    refine fa_geti (k := b + 5) CX HX1002 fl_X5_15 (fa_lt hB 5 (by decide) hn) (fa_s5 hB) rfl dX5_leave_98 ?_
    rw [show v1000 (b + 5) 0 = nI (11) from (by rw [e1001, fa_u_n _ _ (by omega)]; exact (by rw [e998, fa_u_n _ _ (by omega)]; exact (by rw [e995, fa_u_n _ _ (by omega)]; exact (by rw [e992, fa_u_n _ _ (by omega)]; exact (by rw [e989, fa_u_n _ _ (by omega)]; exact (by rw [fa_cp_out e986 _ (by omega)]; exact (by rw [e983, fa_u_s])))))))]
    refine lv_iconst (v := nI (1)) hx hb dX5_leave_101 (by decide) ?_
    refine fa_iaddN hx hb dX5_leave_102 ?_
    refine fa_puti (k := b + 5) CX HX1002 fl_X5_15 (fa_lt hB 5 (by decide) hn) (fa_s5 hB) rfl rfl rfl dX5_leave_103 (fun H locs v1003 e1004 HX1005 => ?_)
    exact RET _ _ _ _ _ _ HX1005 dX5_leave_106 (⟨rfl, ⟨⟨(fun m T hT => fb_c_lv2 (by omega) (by omega) hT (by rw [en5, hT.2.1, fa_N_nI (by have := hT.1; omega)]) (Nat.le_of_not_lt (fun z => c_6 ((nI_ltI (by omega) (by decide)).mpr z))) e983 e986 e989 e992 e995 e998 e1001 e1004), (by rw [e1004]; exact fa_IS.set5 (by rw [e1001]; exact fa_IS.u (by rw [e998]; exact fa_IS.u (by rw [e995]; exact fa_IS.u (by rw [e992]; exact fa_IS.u (by rw [e989]; exact fa_IS.u (fa_IS.row (by rw [e983]; exact fa_IS.set5 hI (by omega)) (fa_cp_out e986) (Or.inr (Or.inr (Or.inr (Or.inr (Or.inl rfl)))))) (Or.inr (Or.inr (Or.inr (Or.inr (Or.inr (Or.inr (Or.inl rfl)))))))) (Or.inr (Or.inr (Or.inr (Or.inr (Or.inr (Or.inr (Or.inl rfl)))))))) (Or.inr (Or.inr (Or.inr (Or.inr (Or.inr (Or.inr (Or.inl rfl)))))))) (Or.inr (Or.inr (Or.inr (Or.inr (Or.inr (Or.inr (Or.inl rfl)))))))) (Or.inr (Or.inr (Or.inr (Or.inr (Or.inr (Or.inr (Or.inl rfl)))))))) (by omega))⟩, (by rw [e1004]; exact fa_fr.u (by rw [e1001]; exact fa_fr.u (by rw [e998]; exact fa_fr.u (by rw [e995]; exact fa_fr.u (by rw [e992]; exact fa_fr.u (by rw [e989]; exact fa_fr.u (by rw [e986]; exact fa_fr.cp (by rw [e983]; exact fa_fr.u fa_fr.rf (by omega)) (by omega)) (by omega)) (by omega)) (by omega)) (by omega)) (by omega)) (by omega))⟩⟩)
set_option maxHeartbeats 4000000 in
set_option maxRecDepth 100000 in
theorem g_cellOf (l : Launch) (G : fa_G) (n : Nat) (hn : 397 ≤ n) (v : fa_V) (r : fa_R) (b : Nat) (hB : b ∈ fa_bs) (hr : fa_RS r b) (hI : fa_IS v b) (a1 : Int32) (a2 : Int32) : fa_MI l G n yX5_cellOf cX5_cellOf 3 (some .int) 1 [.ref (fa_B G + (b + 5)), .int (a1), .int (a2)] v r (fun x w => w = (v, r) ∧ (∀ ja jb, a1 = nI ja → a2 = nI jb → ja < fa_N (v (b + 5) 0) → jb < 5 → x = v (b + 6) (5 * (fa_N (v (b + 5) 0) - 1 - ja) + jb))) := by
  refine fa_startI (by decide +kernel) (Nat.le_of_ble_eq_true rfl) (fun p e s m args below meth c ls Q CX hl HX RET => ?_)
  have hl : lv_has ls 3 [(0, .ref (fa_B G + (b + 5))), (1, .int (a1)), (2, .int (a2))] := hl
  have hx := CX.1.1
  have hb := CX.1.2.1
  obtain ⟨n5, en5⟩ : ∃ n5, n5 = fa_N (v (b + 5) 0) := ⟨_, rfl⟩
  obtain ⟨hn5, h5⟩ := hI.n5 en5
  refine lv_iload_n hx hb dX5_cellOf_0 rfl (lv_at hl 1 rfl) ?_
  refine lv_if_lt (tgt := 21) hx hb dX5_cellOf_1 (by decide) (fun c_1 => ?_) (fun c_1 => ?_)
  · refine lv_bipush (v := (-6 : Int32)) hx hb dX5_cellOf_21 (by decide) ?_
    exact RET _ _ _ _ _ _ _ HX dX5_cellOf_23 (⟨rfl, (fun ka kb ea eb ha2 hb2 => by (rw [← en5] at ha2; exact absurd c_1 (by rw [ea]; exact nI_pos (by omega))))⟩)
  · refine lv_iload_n hx hb dX5_cellOf_4 rfl (lv_at hl 1 rfl) ?_
    refine lv_aload_n hx hb dX5_cellOf_5 rfl (lv_at hl 0 rfl) ?_
    refine fa_geti (k := b + 5) CX HX fl_X5_15 (fa_lt hB 5 (by decide) hn) (fa_s5 hB) rfl dX5_cellOf_6 ?_
    rw [show v (b + 5) 0 = nI (n5) from h5]
    refine lv_icmp_ge (tgt := 21) hx hb dX5_cellOf_9 (by decide) (fun c_9 => ?_) (fun c_9 => ?_)
    · refine lv_bipush (v := (-6 : Int32)) hx hb dX5_cellOf_21 (by decide) ?_
      exact RET _ _ _ _ _ _ _ HX dX5_cellOf_23 (⟨rfl, (fun ka kb ea eb ha2 hb2 => by (rw [← en5] at ha2; exact absurd c_9 (by rw [ea]; exact fun z => by have := fa_leN (by omega) (by omega) z; omega)))⟩)
    · obtain ⟨ja, hja, eja⟩ := fa_ixN (by omega) c_1 (Int32.not_le.mp c_9)
      refine lv_iload_n hx hb dX5_cellOf_12 rfl (lv_at hl 2 rfl) ?_
      refine lv_if_lt (tgt := 21) hx hb dX5_cellOf_13 (by decide) (fun c_13 => ?_) (fun c_13 => ?_)
      · refine lv_bipush (v := (-6 : Int32)) hx hb dX5_cellOf_21 (by decide) ?_
        exact RET _ _ _ _ _ _ _ HX dX5_cellOf_23 (⟨rfl, (fun ka kb ea eb ha2 hb2 => by (rw [← en5] at ha2; exact absurd c_13 (by rw [eb]; exact nI_pos (by omega))))⟩)
      · refine lv_iload_n hx hb dX5_cellOf_16 rfl (lv_at hl 2 rfl) ?_
        refine lv_iconst (v := nI (5)) hx hb dX5_cellOf_17 (by decide) ?_
        refine lv_icmp_lt (tgt := 24) hx hb dX5_cellOf_18 (by decide) (fun c_18 => ?_) (fun c_18 => ?_)
        · obtain ⟨jb, hjb, ejb⟩ := fa_ixN (by decide) c_13 c_18
          refine lv_aload_n hx hb dX5_cellOf_24 rfl (lv_at hl 0 rfl) ?_
          refine fa_getr (k := b + 5) (j := b + 6) CX HX fl_X5_9 (fa_lt hB 5 (by decide) hn) (fa_s5 hB) rfl hr.2.2.2.2.2.2.1 dX5_cellOf_25 ?_
          refine lv_aload_n hx hb dX5_cellOf_28 rfl (lv_at hl 0 rfl) ?_
          refine fa_geti (k := b + 5) CX HX fl_X5_15 (fa_lt hB 5 (by decide) hn) (fa_s5 hB) rfl dX5_cellOf_29 ?_
          rw [show v (b + 5) 0 = nI (n5) from h5]
          refine lv_iconst (v := nI (1)) hx hb dX5_cellOf_32 (by decide) ?_
          refine fa_isubN hx hb dX5_cellOf_33 (by omega) ?_
          refine lv_iload_n hx hb dX5_cellOf_34 rfl (lv_at hl 1 rfl) ?_
          rw [show a1 = nI (ja) from eja]
          refine fa_isubN hx hb dX5_cellOf_35 (by omega) ?_
          refine lv_iconst (v := nI (5)) hx hb dX5_cellOf_36 (by decide) ?_
          refine fa_imulN hx hb dX5_cellOf_37 ?_
          refine lv_iload_n hx hb dX5_cellOf_38 rfl (lv_at hl 2 rfl) ?_
          rw [show a2 = nI (jb) from ejb]
          refine fa_iaddN hx hb dX5_cellOf_39 ?_
          refine fa_iald (k := b + 6) (j := ((n5 - 1) - ja) * 5 + jb) CX HX (fa_lt hB 6 (by decide) hn) (fa_s6 hB) (by omega) (by first | decide | assumption) dX5_cellOf_40 ?_
          exact RET _ _ _ _ _ _ _ HX dX5_cellOf_41 (⟨rfl, (fun ka kb ea eb ha2 hb2 => by (have e1 : ka = ja := fb_nIinj2 (by omega) (by omega) (ea.symm.trans eja); have e2 : kb = jb := fb_nIinj2 (by omega) (by omega) (eb.symm.trans ejb); subst e1; subst e2; rw [← en5]; exact congrArg (v (b + 6)) (by omega)))⟩)
        · refine lv_bipush (v := (-6 : Int32)) hx hb dX5_cellOf_21 (by decide) ?_
          exact RET _ _ _ _ _ _ _ HX dX5_cellOf_23 (⟨rfl, (fun ka kb ea eb ha2 hb2 => by (rw [← en5] at ha2; exact absurd (by rw [eb]; exact nI_lt hb2 (by decide)) c_18))⟩)
set_option maxHeartbeats 4000000 in
set_option maxRecDepth 100000 in
theorem g_comeAs (l : Launch) (G : fa_G) (n : Nat) (hn : 397 ≤ n) (v : fa_V) (r : fa_R) (b : Nat) (hB : b ∈ fa_bs) (hr : fa_RS r b) (hI : fa_IS v b) (q : Nat) (a1 : Int32) (kd : Nat) (a3 : Int32) (a4 : Int32) (hq : fa_isF b q) (hkd : kd ≤ 4) : fa_MV l G n yX4_comeAs cX4_comeAs 5 2 [.ref (fa_B G + (q)), .int (a1), .int (nI (kd)), .int (a3), .int (a4)] v r (fa_vo r (fun v1 => (fa_IS v1 b ∧ (∀ i, i < 7 → v1 q i = fb_cm a1 (nI kd) a3 a4 i) ∧ (∀ h, h < 8 → v1 (q + 1) h = (-1 : Int32)) ∧ ∀ j, ¬ j = q → ¬ j = q + 1 → v1 j = v j) ∧ (fa_fr (b + 8) (b + 56) v v1))) := by
  refine fa_startV (by decide +kernel) (Nat.le_of_ble_eq_true rfl) (fun p e s m args below meth c ls Q CX hl HX RET => ?_)
  have hl : lv_has ls 5 [(0, .ref (fa_B G + (q))), (1, .int (a1)), (2, .int (nI (kd))), (3, .int (a3)), (4, .int (a4))] := hl
  have hx := CX.1.1
  have hb := CX.1.2.1
  have hqi := fa_isF_in hq
  refine lv_aload_n hx hb dX4_comeAs_0 rfl (lv_at hl 0 rfl) ?_
  refine lv_iload_n hx hb dX4_comeAs_1 rfl (lv_at hl 1 rfl) ?_
  refine fa_puti (k := q) CX HX fl_X4_15 (fa_isF_lt hB hq hn) (fa_isF_sh hB hq) rfl rfl rfl dX4_comeAs_2 (fun H locs v1006 e1007 HX1008 => ?_)
  refine lv_aload_n hx hb dX4_comeAs_5 rfl (lv_at hl 0 rfl) ?_
  refine lv_iload_n hx hb dX4_comeAs_6 rfl (lv_at hl 2 rfl) ?_
  refine fa_puti (k := q) CX HX1008 fl_X4_19 (fa_isF_lt hB hq hn) (fa_isF_sh hB hq) rfl rfl rfl dX4_comeAs_7 (fun H locs v1009 e1010 HX1011 => ?_)
  refine lv_aload_n hx hb dX4_comeAs_10 rfl (lv_at hl 0 rfl) ?_
  refine lv_iload_n hx hb dX4_comeAs_11 rfl (lv_at hl 3 rfl) ?_
  refine fa_puti (k := q) CX HX1011 fl_X4_22 (fa_isF_lt hB hq hn) (fa_isF_sh hB hq) rfl rfl rfl dX4_comeAs_12 (fun H locs v1012 e1013 HX1014 => ?_)
  refine lv_aload_n hx hb dX4_comeAs_15 rfl (lv_at hl 0 rfl) ?_
  refine lv_iload hx hb dX4_comeAs_16 (lv_at hl 4 rfl) ?_
  refine fa_puti (k := q) CX HX1014 fl_X4_25 (fa_isF_lt hB hq hn) (fa_isF_sh hB hq) rfl rfl rfl dX4_comeAs_18 (fun H locs v1015 e1016 HX1017 => ?_)
  refine lv_aload_n hx hb dX4_comeAs_21 rfl (lv_at hl 0 rfl) ?_
  refine lv_bipush (v := (-6 : Int32)) hx hb dX4_comeAs_22 (by decide) ?_
  refine fa_puti (k := q) CX HX1017 fl_X4_28 (fa_isF_lt hB hq hn) (fa_isF_sh hB hq) rfl rfl rfl dX4_comeAs_24 (fun H locs v1018 e1019 HX1020 => ?_)
  refine lv_aload_n hx hb dX4_comeAs_27 rfl (lv_at hl 0 rfl) ?_
  refine lv_iconst (v := nI (0)) hx hb dX4_comeAs_28 (by decide) ?_
  refine fa_puti (k := q) CX HX1020 fl_X4_31 (fa_isF_lt hB hq hn) (fa_isF_sh hB hq) rfl rfl rfl dX4_comeAs_29 (fun H locs v1021 e1022 HX1023 => ?_)
  refine lv_aload_n hx hb dX4_comeAs_32 rfl (lv_at hl 0 rfl) ?_
  refine lv_bipush (v := (-6 : Int32)) hx hb dX4_comeAs_33 (by decide) ?_
  refine fa_puti (k := q) CX HX1023 fl_X4_34 (fa_isF_lt hB hq hn) (fa_isF_sh hB hq) rfl rfl rfl dX4_comeAs_35 (fun H locs v1024 e1025 HX1026 => ?_)
  refine lv_aload_n hx hb dX4_comeAs_38 rfl (lv_at hl 0 rfl) ?_
  refine fa_getr (k := q) (j := q + 1) CX HX1026 fl_X4_9 (fa_isF_lt hB hq hn) (fa_isF_sh hB hq) rfl (fa_isF_ref hr hq) dX4_comeAs_39 ?_
  refine lv_iconst (v := (-1 : Int32)) hx hb dX4_comeAs_42 (by decide) ?_
  refine fa_callSvu (As := [.ref (fa_B G + (q + 1)), .int ((-1 : Int32))]) (rest := []) CX HX1026 (c_J7_fill_53178 l G n v1024 r (q + 1) 8 (fa_isF_lt1 hB hq hn) (fa_isF_sh1 hB hq) (by decide) ((-1 : Int32))) ln_X4_37 rfl rfl (Nat.le_of_ble_eq_true rfl) hl.1 ⟨Nat.le_of_ble_eq_true rfl, Nat.le_of_ble_eq_true rfl⟩ ⟨Nat.le_refl _, Nat.le_refl _⟩ dX4_comeAs_43 (fun v1028 H locs h1027 HX1029 => ?_)
  exact RET _ _ _ _ _ _ HX1029 dX4_comeAs_46 (⟨rfl, ⟨⟨(fa_IS.row (by rw [e1025]; exact fa_IS.u (by rw [e1022]; exact fa_IS.u (by rw [e1019]; exact fa_IS.u (by rw [e1016]; exact fa_IS.u (by rw [e1013]; exact fa_IS.u (by rw [e1010]; exact fa_IS.setk (by rw [e1007]; exact fa_IS.u hI (Or.inr (Or.inl ⟨hq, by decide⟩))) hq (by omega)) (Or.inr (Or.inl ⟨hq, by decide⟩))) (Or.inr (Or.inl ⟨hq, by decide⟩))) (Or.inr (Or.inl ⟨hq, by decide⟩))) (Or.inr (Or.inl ⟨hq, by decide⟩))) (Or.inr (Or.inl ⟨hq, by decide⟩))) (fun z hz => h1027.2 z (by omega)) (Or.inl (fa_isF.seal hq))), (fun i hi => by (show v1028 q i = _; rw [h1027.2 q (by omega)]; exact fb_cm_eq e1007 e1010 e1013 e1016 e1019 e1022 e1025 hi)), h1027.1.1, (fun j h1 h2 => by (show v1028 j = v j; rw [h1027.2 j (by omega), e1025, fa_u_k _ _ h1, e1022, fa_u_k _ _ h1, e1019, fa_u_k _ _ h1, e1016, fa_u_k _ _ h1, e1013, fa_u_k _ _ h1, e1010, fa_u_k _ _ h1, e1007, fa_u_k _ _ h1]))⟩, (fa_fr.tr (by rw [e1025]; exact fa_fr.u (by rw [e1022]; exact fa_fr.u (by rw [e1019]; exact fa_fr.u (by rw [e1016]; exact fa_fr.u (by rw [e1013]; exact fa_fr.u (by rw [e1010]; exact fa_fr.u (by rw [e1007]; exact fa_fr.u fa_fr.rf (by omega)) (by omega)) (by omega)) (by omega)) (by omega)) (by omega)) (by omega)) (fa_fr.wide h1027.2 (by omega) (by omega)))⟩⟩)
set_option maxHeartbeats 4000000 in
set_option maxRecDepth 100000 in
theorem g_copyFromF (l : Launch) (G : fa_G) (n : Nat) (hn : 397 ≤ n) (v : fa_V) (r : fa_R) (b : Nat) (hB : b ∈ fa_bs) (hr : fa_RS r b) (b2 : Nat) (hB2 : b2 ∈ fa_bs) (hrb2 : fa_RS r b2) (hd : b2 + 56 ≤ b ∨ b + 56 ≤ b2) (hI : fa_IS v b) (q y kd : Nat) (hq : fa_isF b q) (hy : fa_isF b2 y) (hkd : kd ≤ 4) (ekd : v y 1 = nI kd) : fa_MV l G n yX4_copyFrom cX4_copyFrom 2 2 [.ref (fa_B G + (q)), .ref (fa_B G + (y))] v r (fa_vo r (fun v1 => ((fa_IS v1 b) ∧ (∀ i, i < 7 → v1 q i = v y i) ∧ (∀ h, h < 8 → v1 (q + 1) h = v (y + 1) h) ∧ ∀ j, ¬ j = q → ¬ j = q + 1 → v1 j = v j) ∧ (fa_fr (b + 8) (b + 56) v v1))) := by
  refine fa_startV (by decide +kernel) (Nat.le_of_ble_eq_true rfl) (fun p e s m args below meth c ls Q CX hl HX RET => ?_)
  have hl : lv_has ls 2 [(0, .ref (fa_B G + (q))), (1, .ref (fa_B G + (y)))] := hl
  have hx := CX.1.1
  have hb := CX.1.2.1
  have hqi := fa_isF_in hq
  have hyi := fa_isF_in hy
  refine lv_aload_n hx hb dX4_copyFrom_0 rfl (lv_at hl 0 rfl) ?_
  refine lv_aload_n hx hb dX4_copyFrom_1 rfl (lv_at hl 1 rfl) ?_
  refine fa_geti (k := y) CX HX fl_X4_15 (fa_isF_lt hB2 hy hn) (fa_isF_sh hB2 hy) rfl dX4_copyFrom_2 ?_
  refine fa_puti (k := q) CX HX fl_X4_15 (fa_isF_lt hB hq hn) (fa_isF_sh hB hq) rfl rfl rfl dX4_copyFrom_5 (fun H locs v1030 e1031 HX1032 => ?_)
  refine lv_aload_n hx hb dX4_copyFrom_8 rfl (lv_at hl 0 rfl) ?_
  refine lv_aload_n hx hb dX4_copyFrom_9 rfl (lv_at hl 1 rfl) ?_
  refine fa_geti (k := y) CX HX1032 fl_X4_19 (fa_isF_lt hB2 hy hn) (fa_isF_sh hB2 hy) rfl dX4_copyFrom_10 ?_
  rw [show v1030 y 1 = nI (kd) from (by rw [e1031, fa_u_n _ _ (by omega)]; exact ekd)]
  refine fa_puti (k := q) CX HX1032 fl_X4_19 (fa_isF_lt hB hq hn) (fa_isF_sh hB hq) rfl rfl rfl dX4_copyFrom_13 (fun H locs v1033 e1034 HX1035 => ?_)
  refine lv_aload_n hx hb dX4_copyFrom_16 rfl (lv_at hl 0 rfl) ?_
  refine lv_aload_n hx hb dX4_copyFrom_17 rfl (lv_at hl 1 rfl) ?_
  refine fa_geti (k := y) CX HX1035 fl_X4_22 (fa_isF_lt hB2 hy hn) (fa_isF_sh hB2 hy) rfl dX4_copyFrom_18 ?_
  refine fa_puti (k := q) CX HX1035 fl_X4_22 (fa_isF_lt hB hq hn) (fa_isF_sh hB hq) rfl rfl rfl dX4_copyFrom_21 (fun H locs v1036 e1037 HX1038 => ?_)
  refine lv_aload_n hx hb dX4_copyFrom_24 rfl (lv_at hl 0 rfl) ?_
  refine lv_aload_n hx hb dX4_copyFrom_25 rfl (lv_at hl 1 rfl) ?_
  refine fa_geti (k := y) CX HX1038 fl_X4_25 (fa_isF_lt hB2 hy hn) (fa_isF_sh hB2 hy) rfl dX4_copyFrom_26 ?_
  refine fa_puti (k := q) CX HX1038 fl_X4_25 (fa_isF_lt hB hq hn) (fa_isF_sh hB hq) rfl rfl rfl dX4_copyFrom_29 (fun H locs v1039 e1040 HX1041 => ?_)
  refine lv_aload_n hx hb dX4_copyFrom_32 rfl (lv_at hl 0 rfl) ?_
  refine lv_aload_n hx hb dX4_copyFrom_33 rfl (lv_at hl 1 rfl) ?_
  refine fa_geti (k := y) CX HX1041 fl_X4_28 (fa_isF_lt hB2 hy hn) (fa_isF_sh hB2 hy) rfl dX4_copyFrom_34 ?_
  refine fa_puti (k := q) CX HX1041 fl_X4_28 (fa_isF_lt hB hq hn) (fa_isF_sh hB hq) rfl rfl rfl dX4_copyFrom_37 (fun H locs v1042 e1043 HX1044 => ?_)
  refine lv_aload_n hx hb dX4_copyFrom_40 rfl (lv_at hl 0 rfl) ?_
  refine lv_aload_n hx hb dX4_copyFrom_41 rfl (lv_at hl 1 rfl) ?_
  refine fa_geti (k := y) CX HX1044 fl_X4_31 (fa_isF_lt hB2 hy hn) (fa_isF_sh hB2 hy) rfl dX4_copyFrom_42 ?_
  refine fa_puti (k := q) CX HX1044 fl_X4_31 (fa_isF_lt hB hq hn) (fa_isF_sh hB hq) rfl rfl rfl dX4_copyFrom_45 (fun H locs v1045 e1046 HX1047 => ?_)
  refine lv_aload_n hx hb dX4_copyFrom_48 rfl (lv_at hl 0 rfl) ?_
  refine lv_aload_n hx hb dX4_copyFrom_49 rfl (lv_at hl 1 rfl) ?_
  refine fa_geti (k := y) CX HX1047 fl_X4_34 (fa_isF_lt hB2 hy hn) (fa_isF_sh hB2 hy) rfl dX4_copyFrom_50 ?_
  refine fa_puti (k := q) CX HX1047 fl_X4_34 (fa_isF_lt hB hq hn) (fa_isF_sh hB hq) rfl rfl rfl dX4_copyFrom_53 (fun H locs v1048 e1049 HX1050 => ?_)
  refine lv_aload_n hx hb dX4_copyFrom_56 rfl (lv_at hl 1 rfl) ?_
  refine fa_getr (k := y) (j := y + 1) CX HX1050 fl_X4_9 (fa_isF_lt hB2 hy hn) (fa_isF_sh hB2 hy) rfl (fa_isF_ref hrb2 hy) dX4_copyFrom_57 ?_
  refine lv_iconst (v := nI (0)) hx hb dX4_copyFrom_60 (by decide) ?_
  refine lv_aload_n hx hb dX4_copyFrom_61 rfl (lv_at hl 0 rfl) ?_
  refine fa_getr (k := q) (j := q + 1) CX HX1050 fl_X4_9 (fa_isF_lt hB hq hn) (fa_isF_sh hB hq) rfl (fa_isF_ref hr hq) dX4_copyFrom_62 ?_
  refine lv_iconst (v := nI (0)) hx hb dX4_copyFrom_65 (by decide) ?_
  refine lv_bipush (v := nI (8)) hx hb dX4_copyFrom_66 (by decide) ?_
  refine fa_copy (k0 := y + 1) (k1 := q + 1) (sp := 0) (dp := 0) (cnt := 8) CX HX1050 fa_cpl_X4_43 fa_cpn fa_cps fa_cpi hl.1 (fa_isF_lt1 hB2 hy hn) (fa_isF_sh1 hB2 hy) (fa_isF_lt1 hB hq hn) (fa_isF_sh1 hB hq) (by decide) (by decide) (by first | decide | assumption) (by first | decide | assumption) (Nat.le_of_ble_eq_true rfl) (by decide +kernel) dX4_copyFrom_68 (fun H locs v1051 e1052 HX1053 => ?_)
  exact RET _ _ _ _ _ _ HX1053 dX4_copyFrom_71 (⟨rfl, ⟨⟨(fa_IS.row (by rw [e1049]; exact fa_IS.u (by rw [e1046]; exact fa_IS.u (by rw [e1043]; exact fa_IS.u (by rw [e1040]; exact fa_IS.u (by rw [e1037]; exact fa_IS.u (by rw [e1034]; exact fa_IS.setk (by rw [e1031]; exact fa_IS.u hI (Or.inr (Or.inl ⟨hq, by decide⟩))) hq (by omega)) (Or.inr (Or.inl ⟨hq, by decide⟩))) (Or.inr (Or.inl ⟨hq, by decide⟩))) (Or.inr (Or.inl ⟨hq, by decide⟩))) (Or.inr (Or.inl ⟨hq, by decide⟩))) (Or.inr (Or.inl ⟨hq, by decide⟩))) (fa_cp_out e1052) (Or.inl (fa_isF.seal hq))), fb_cpF (by omega) (by omega) (by omega) ekd e1031 e1034 e1037 e1040 e1043 e1046 e1049 e1052⟩, (by rw [e1052]; exact fa_fr.cp (by rw [e1049]; exact fa_fr.u (by rw [e1046]; exact fa_fr.u (by rw [e1043]; exact fa_fr.u (by rw [e1040]; exact fa_fr.u (by rw [e1037]; exact fa_fr.u (by rw [e1034]; exact fa_fr.u (by rw [e1031]; exact fa_fr.u fa_fr.rf (by omega)) (by omega)) (by omega)) (by omega)) (by omega)) (by omega)) (by omega)) (by omega))⟩⟩)
set_option maxHeartbeats 4000000 in
set_option maxRecDepth 100000 in
theorem g_copyFromR (l : Launch) (G : fa_G) (n : Nat) (hn : 397 ≤ n) (v : fa_V) (r : fa_R) (b : Nat) (hB : b ∈ fa_bs) (hr : fa_RS r b) (b2 : Nat) (hB2 : b2 ∈ fa_bs) (hrb2 : fa_RS r b2) (hd : b2 + 56 ≤ b ∨ b + 56 ≤ b2) (hI : fa_IS v b) (kd : Nat) (hkd : kd ≤ 8) (ekd : v (b2 + 2) 0 = nI kd) : fa_MV l G n yX2_copyFrom cX2_copyFrom 2 2 [.ref (fa_B G + (b + 2)), .ref (fa_B G + (b2 + 2))] v r (fa_vo r (fun v1 => ((fa_IS v1 b) ∧ v1 (b + 2) 0 = v (b2 + 2) 0 ∧ ∀ k, k < 8 → v1 (b + 3) k = v (b2 + 3) k ∧ v1 (b + 4) k = v (b2 + 4) k) ∧ (fa_fr (b + 2) (b + 5) v v1))) := by
  refine fa_startV (by decide +kernel) (Nat.le_of_ble_eq_true rfl) (fun p e s m args below meth c ls Q CX hl HX RET => ?_)
  have hl : lv_has ls 2 [(0, .ref (fa_B G + (b + 2))), (1, .ref (fa_B G + (b2 + 2)))] := hl
  have hx := CX.1.1
  have hb := CX.1.2.1
  refine lv_aload_n hx hb dX2_copyFrom_0 rfl (lv_at hl 0 rfl) ?_
  refine lv_aload_n hx hb dX2_copyFrom_1 rfl (lv_at hl 1 rfl) ?_
  refine fa_geti (k := b2 + 2) CX HX fl_X2_18 (fa_lt hB2 2 (by decide) hn) (fa_s2 hB2) rfl dX2_copyFrom_2 ?_
  rw [show v (b2 + 2) 0 = nI (kd) from ekd]
  refine fa_puti (k := b + 2) CX HX fl_X2_18 (fa_lt hB 2 (by decide) hn) (fa_s2 hB) rfl rfl rfl dX2_copyFrom_5 (fun H locs v1054 e1055 HX1056 => ?_)
  refine lv_aload_n hx hb dX2_copyFrom_8 rfl (lv_at hl 1 rfl) ?_
  refine fa_getr (k := b2 + 2) (j := b2 + 3) CX HX1056 fl_X2_9 (fa_lt hB2 2 (by decide) hn) (fa_s2 hB2) rfl hrb2.2.2.2.2.1 dX2_copyFrom_9 ?_
  refine lv_iconst (v := nI (0)) hx hb dX2_copyFrom_12 (by decide) ?_
  refine lv_aload_n hx hb dX2_copyFrom_13 rfl (lv_at hl 0 rfl) ?_
  refine fa_getr (k := b + 2) (j := b + 3) CX HX1056 fl_X2_9 (fa_lt hB 2 (by decide) hn) (fa_s2 hB) rfl hr.2.2.2.2.1 dX2_copyFrom_14 ?_
  refine lv_iconst (v := nI (0)) hx hb dX2_copyFrom_17 (by decide) ?_
  refine lv_bipush (v := nI (8)) hx hb dX2_copyFrom_18 (by decide) ?_
  refine fa_copy (k0 := b2 + 3) (k1 := b + 3) (sp := 0) (dp := 0) (cnt := 8) CX HX1056 fa_cpl_X2_22 fa_cpn fa_cps fa_cpi hl.1 (fa_lt hB2 3 (by decide) hn) (fa_s3 hB2) (fa_lt hB 3 (by decide) hn) (fa_s3 hB) (by decide) (by decide) (by first | decide | assumption) (by first | decide | assumption) (Nat.le_of_ble_eq_true rfl) (by decide +kernel) dX2_copyFrom_20 (fun H locs v1057 e1058 HX1059 => ?_)
  refine lv_aload_n hx hb dX2_copyFrom_23 rfl (lv_at hl 1 rfl) ?_
  refine fa_getr (k := b2 + 2) (j := b2 + 4) CX HX1059 fl_X2_15 (fa_lt hB2 2 (by decide) hn) (fa_s2 hB2) rfl hrb2.2.2.2.2.2.1 dX2_copyFrom_24 ?_
  refine lv_iconst (v := nI (0)) hx hb dX2_copyFrom_27 (by decide) ?_
  refine lv_aload_n hx hb dX2_copyFrom_28 rfl (lv_at hl 0 rfl) ?_
  refine fa_getr (k := b + 2) (j := b + 4) CX HX1059 fl_X2_15 (fa_lt hB 2 (by decide) hn) (fa_s2 hB) rfl hr.2.2.2.2.2.1 dX2_copyFrom_29 ?_
  refine lv_iconst (v := nI (0)) hx hb dX2_copyFrom_32 (by decide) ?_
  refine lv_bipush (v := nI (8)) hx hb dX2_copyFrom_33 (by decide) ?_
  refine fa_copy (k0 := b2 + 4) (k1 := b + 4) (sp := 0) (dp := 0) (cnt := 8) CX HX1059 fa_cpl_X2_22 fa_cpn fa_cps fa_cpi hl.1 (fa_lt hB2 4 (by decide) hn) (fa_s4 hB2) (fa_lt hB 4 (by decide) hn) (fa_s4 hB) (by decide) (by decide) (by first | decide | assumption) (by first | decide | assumption) (Nat.le_of_ble_eq_true rfl) (by decide +kernel) dX2_copyFrom_35 (fun H locs v1060 e1061 HX1062 => ?_)
  exact RET _ _ _ _ _ _ HX1062 dX2_copyFrom_38 (⟨rfl, ⟨⟨(fa_IS.row (fa_IS.row (by rw [e1055]; exact fa_IS.set2 hI (by omega)) (fa_cp_out e1058) (Or.inr (Or.inr (Or.inl rfl)))) (fa_cp_out e1061) (Or.inr (Or.inr (Or.inr (Or.inl rfl))))), fb_cpR hd ekd e1055 e1058 e1061⟩, (by rw [e1061]; exact fa_fr.cp (by rw [e1058]; exact fa_fr.cp (by rw [e1055]; exact fa_fr.u fa_fr.rf (by omega)) (by omega)) (by omega))⟩⟩)
set_option maxHeartbeats 4000000 in
set_option maxRecDepth 100000 in
theorem g_copyFromT (l : Launch) (G : fa_G) (n : Nat) (hn : 397 ≤ n) (v : fa_V) (r : fa_R) (b : Nat) (hB : b ∈ fa_bs) (hr : fa_RS r b) (b2 : Nat) (hB2 : b2 ∈ fa_bs) (hrb2 : fa_RS r b2) (hd : b2 + 56 ≤ b ∨ b + 56 ≤ b2) (hI : fa_IS v b) (kd : Nat) (hkd : kd ≤ 12) (ekd : v (b2 + 5) 0 = nI kd) : fa_MV l G n yX5_copyFrom cX5_copyFrom 2 2 [.ref (fa_B G + (b + 5)), .ref (fa_B G + (b2 + 5))] v r (fa_vo r (fun v1 => ((fa_IS v1 b) ∧ v1 (b + 5) 0 = v (b2 + 5) 0 ∧ ∀ k, k < 60 → v1 (b + 6) k = v (b2 + 6) k) ∧ (fa_fr (b + 5) (b + 7) v v1))) := by
  refine fa_startV (by decide +kernel) (Nat.le_of_ble_eq_true rfl) (fun p e s m args below meth c ls Q CX hl HX RET => ?_)
  have hl : lv_has ls 2 [(0, .ref (fa_B G + (b + 5))), (1, .ref (fa_B G + (b2 + 5)))] := hl
  have hx := CX.1.1
  have hb := CX.1.2.1
  refine lv_aload_n hx hb dX5_copyFrom_0 rfl (lv_at hl 0 rfl) ?_
  refine lv_aload_n hx hb dX5_copyFrom_1 rfl (lv_at hl 1 rfl) ?_
  refine fa_geti (k := b2 + 5) CX HX fl_X5_15 (fa_lt hB2 5 (by decide) hn) (fa_s5 hB2) rfl dX5_copyFrom_2 ?_
  rw [show v (b2 + 5) 0 = nI (kd) from ekd]
  refine fa_puti (k := b + 5) CX HX fl_X5_15 (fa_lt hB 5 (by decide) hn) (fa_s5 hB) rfl rfl rfl dX5_copyFrom_5 (fun H locs v1063 e1064 HX1065 => ?_)
  refine lv_aload_n hx hb dX5_copyFrom_8 rfl (lv_at hl 1 rfl) ?_
  refine fa_getr (k := b2 + 5) (j := b2 + 6) CX HX1065 fl_X5_9 (fa_lt hB2 5 (by decide) hn) (fa_s5 hB2) rfl hrb2.2.2.2.2.2.2.1 dX5_copyFrom_9 ?_
  refine lv_iconst (v := nI (0)) hx hb dX5_copyFrom_12 (by decide) ?_
  refine lv_aload_n hx hb dX5_copyFrom_13 rfl (lv_at hl 0 rfl) ?_
  refine fa_getr (k := b + 5) (j := b + 6) CX HX1065 fl_X5_9 (fa_lt hB 5 (by decide) hn) (fa_s5 hB) rfl hr.2.2.2.2.2.2.1 dX5_copyFrom_14 ?_
  refine lv_iconst (v := nI (0)) hx hb dX5_copyFrom_17 (by decide) ?_
  refine lv_bipush (v := nI (60)) hx hb dX5_copyFrom_18 (by decide) ?_
  refine fa_copy (k0 := b2 + 6) (k1 := b + 6) (sp := 0) (dp := 0) (cnt := 60) CX HX1065 fa_cpl_X5_19 fa_cpn fa_cps fa_cpi hl.1 (fa_lt hB2 6 (by decide) hn) (fa_s6 hB2) (fa_lt hB 6 (by decide) hn) (fa_s6 hB) (by decide) (by decide) (by first | decide | assumption) (by first | decide | assumption) (Nat.le_of_ble_eq_true rfl) (by decide +kernel) dX5_copyFrom_20 (fun H locs v1066 e1067 HX1068 => ?_)
  exact RET _ _ _ _ _ _ HX1068 dX5_copyFrom_23 (⟨rfl, ⟨⟨(fa_IS.row (by rw [e1064]; exact fa_IS.set5 hI (by omega)) (fa_cp_out e1067) (Or.inr (Or.inr (Or.inr (Or.inr (Or.inl rfl)))))), fb_cpT hd ekd e1064 e1067⟩, (by rw [e1067]; exact fa_fr.cp (by rw [e1064]; exact fa_fr.u fa_fr.rf (by omega)) (by omega))⟩⟩)
