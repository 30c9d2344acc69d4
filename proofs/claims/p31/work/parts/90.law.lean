/-! THE CLAIM OUT OF ONE WALK OF THE LAW'S BODY. Your part is whole_start (and what it stands on); all else here is the same for every law, but numbers. -/
def R_law : String := "ForgettingArchiveLaw"
def lw_P (b : Addr) (xs : List Int32) (args : Array Value) (s : State) : Prop := args = #[.ref b] ∧ s.IntsAt b xs ∧ xs.length ≤ 260 ∧ (Jvm.Cond.and given_1 narrow_1).before args s = true
/-- what a walk over the start with the record d0 says of its end, said of the start itself -/
theorem lw_closed {s t : State} {o : Outcome} {d0 : Drawn} {L : List Loc} {k n : Nat} (hd0 : s.drawn.sameBut d0 lw_cs) (hv : ∃ v, o = .returned v) (hW : (s.setDrawn d0).WarmedH t.vm) (hs : (s.setDrawn d0).sameButNew ({ t with vm := s.vm } : State) L k n) : State.butDraws s t lw_cs (fun t1 => Framed s o t1 L k n) := by
  have h2 : t.drawn = d0 := congrArg State.drawn hs.1
  refine ⟨⟨hv, hW, State.sameButNew.setDrawn hs s.drawn⟩, ?_, by decide⟩
  rw [h2]
  exact hd0
def lw_Q (_ : Array Value) (s : State) (o : Outcome) (t : State) : Prop := o = .returned (some (.int 1)) ∧ State.butDraws s t lw_cs (fun t1 => Framed s o t1 [] 600000 7302250)
def lw_Z (below : List Frame) (a : Array Value) (s : State) : State → Prop := fun t => ∃ o, t.status = .running ∧ Ended t below o ∧ lw_Q a s o t
/-- the law's own end, with 1 on the stack, nothing written that was there before, its room as the claim has it; d0: the record of draws at this point (at the entry s.drawn: begin with 'refine W.base ?_' and 'have hd0 := Drawn.sameBut.refl s.drawn lw_cs') -/
theorem lw_ret {p : Program} {l : Launch} {e : Env} {s : State} {m : MethodId} {below : List Frame} {meth : Method} {c : Code} {b : Nat} {d0 : Drawn} (hd0 : s.drawn.sameBut d0 lw_cs) (hx : p.tables.exec = Jvm.exec) (hb : c.code = code) (hr : meth.sig.returnType = ret) (hlocks : meth.locks = false) {pc : Nat} {H : Heap} {ls : Array Slot} (hdg : decode code pc = .ok (.ireturn, 1)) : W p l e room_1 (s.setDrawn d0) m #[Value.ref b] below meth c H [] 600000 7302250 (lw_Z below #[Value.ref b] s) (F0 m pc ls [.int 1]) := by
  intro T hT X
  obtain ⟨fs, hret, hrun, hended, hW, hframe⟩ := X.leave (v := some (.int 1)) (hlocks := hlocks) (fun h => by rw [hr] at h; cases h)
  have hmeth' : T.vm.method? m = some meth := X.method'
  refine ⟨T.setFrames fs, ?_, .returned (some (.int 1)), hrun, hended, rfl, lw_closed hd0 ⟨_, rfl⟩ hW hframe⟩
  jvm_step X.here [X.here.top, hx, hb, hdg, hmeth', hr, ret, narrow_b1]
  (try refine ⟨rfl, ?_⟩); (try refine ⟨rfl, ?_⟩)
  first | (intro acts; rw [hret _ acts rfl rfl rfl]) | rw [hret _ _ rfl rfl rfl]
  exact Steps.refl _
/-- what holds at the law's entry: the machine, the code, the tables' words (any of lw_tbl by 'hts w (by decide +kernel)'), the script of L ints xs at the cell b, what the Statement gives of the start (any of its parts by flat_of_before) -/
def lw_At (p : Program) (s : State) (m : MethodId) (meth : Method) (c : Code) (b L : Nat) (xs : Nat → Int32) : Prop :=
  p.tables.exec = Jvm.exec ∧ c.code = code ∧ meth.sig.returnType = ret ∧ c.maxLocals = 6 ∧ s.vm.findClass R_law = some m.cls ∧ (∀ w ∈ lw_tbl, w.before #[Value.ref b] s = true) ∧ va_X b L xs s s.heap ∧ b < s.heap.size ∧ meth.locks = false ∧ (Jvm.Cond.and given_1 narrow_1).before #[Value.ref b] s = true
-- ===== YOUR PART =====
set_option maxHeartbeats 8000000 in
set_option maxRecDepth 100000 in
theorem whole_start {p : Program} {e : Env} {s : State} {m : MethodId} {below : List Frame} {meth : Method} {c : Code} (l : Launch) (hflags : l.flags = flags0) {b L : Nat} {xs : Nat → Int32} (hL : L ≤ 260) (C0 : lw_At p s m meth c b L xs) : W p l e room_1 s m #[Value.ref b] below meth c s.heap [] 0 0 (lw_Z below #[Value.ref b] s) (entryFrame m ([Value.ref b] : List Value).toArray 6) := by
  obtain ⟨hx, hb, hr, hml, hown, hts, hX, hbl, hlocks, hgv⟩ := C0
  obtain ⟨G, hG, hE⟩ := fa_env0 hts hgv
  have hbB : b < fa_B G := by rw [hG]; exact hbl
  have hd0 : s.drawn.sameBut s.drawn lw_cs := Drawn.sameBut.refl s.drawn lw_cs
  obtain ⟨v, hv⟩ : ∃ v : fa_V, v = fun _ _ => 0 := ⟨_, rfl⟩
  obtain ⟨r, hr0⟩ : ∃ r : fa_R, r = fun _ _ => none := ⟨_, rfl⟩
  have hz : fa_Z0 0 v r := fun q _ => ⟨fun i => by rw [hv], fun i => by rw [hr0]⟩
  have CX : fa_CX G p s m #[Value.ref b] c code 6 RL := ⟨⟨hx, hb, hml, hown, fun w hw => hts w (fa_tbl_sub w hw)⟩, hE⟩
  have HX : fa_HX G 0 v r s s.heap [] := ⟨fun k q h => by simp [fa_w] at h, va_S.rf⟩
  have hl := lv_entry ([.ref b]) (n := 6) (Nat.le_of_ble_eq_true rfl)
  rw [lg_entry_eq]
  generalize (lg_sl ([.ref b]) ++ List.replicate (6 - (lg_sl ([.ref b])).length) Slot.unset).toArray = ls at hl ⊢
  have hl : lv_has ls 6 [(0, .ref b)] := hl
  have RET : ∀ (n : Nat) (v : fa_V) (r : fa_R) (H : Heap) (locs : List Loc) (cells slots pc : Nat) (ls : Array Slot), fa_HX G n v r s H locs → cells ≤ 600000 → slots ≤ 7302250 → decode code pc = .ok (.ireturn, 1) → W p l e room_1 s m #[Value.ref b] below meth c H locs cells slots (lw_Z below #[Value.ref b] s) (F0 m pc ls [.int 1]) := fun n v r H locs cells slots pc ls HX h1 h2 hd => va_forget (fun q hq => by have := HX.2.2.2 q hq; unfold fa_A at this; omega) (W.widen h1 h2 (lw_ret hd0 hx hb hr hlocks hd))
  refine fa_new (N := 7) CX HX mk_L_10 (by omega) rfl (fun i => by (exact (hz (0) (by omega)).1 i)) (fun i => by (exact (hz (0) (by omega)).2 i)) (by show 0 + 1 ≤ 600000; first | decide | omega) (by show 0 + 7 ≤ 7302250; first | decide | omega) dL_law_0 (fun H HX50001 => ?_)
  have HX50001 : fa_HX G (1) v r s _ _ := HX50001
  refine W.widen (k := 1) (n := 7) (by first | exact Nat.le_refl _ | omega) (by first | exact Nat.le_refl _ | omega) ?_
  refine lv_dup hx hb dL_law_3 rfl ?_
  refine fa_ctorI (rest := [.ref (fa_B G + (0))]) CX HX50001 (k_X6_init l G v r (fun q hq => hz q (by omega)) (hz 0 (by omega)).1) ln_L_75 ⟨by decide +kernel, by decide +kernel, by decide +kernel, by decide +kernel⟩ (by omega) (Nat.le_of_ble_eq_true rfl) hl.1 ⟨Nat.le_of_ble_eq_true rfl, Nat.le_of_ble_eq_true rfl⟩ ⟨by show 1 + 396 ≤ 600000; first | decide | omega, by show 7 + 3797 ≤ 7302250; first | decide | omega⟩ dL_law_4 (fun v50002 r50003 H locs h50004 HX50005 => ?_)
  dsimp only at h50004
  obtain ⟨hA, hH, hr1, hr57, hrH, hFV, hz, hzz⟩ := h50004
  have hn : 397 ≤ 397 := Nat.le_refl _
  have hC_0 : fa_CI v50002 r50003 := fa_CI_start hA hH hr1.1 hr57.1 (fun i hi => (hrH i hi).1) hzz
  have hV_0 : fb_CV v50002 r50003 fb_A0 [] := fb_CV_start hr1 hrH (fun i hi => hFV.2.1 i hi) hFV.2.2.1 hFV.2.2.2.1 (fun i hi => hFV.2.2.2.2.1 i hi) hFV.1
  have hK_0 : fc_ok fb_A0 0 0 0 (0 / 90) 0 := fc_ok0
  have hI_0 : fb_inj r50003 57 := hr57.inj
  have h006 : v50002 0 6 = 0 := hFV.2.2.2.2.2.2
  have h3951 : v50002 395 1 = 0 := hzz 395 (by decide) (by decide) (by decide) (by decide) (fun p hp => by omega) 1
  have HX50005 : fa_HX G (397) v50002 r50003 s _ _ := HX50005
  refine W.widen (k := 397) (n := 3804) (by first | exact Nat.le_refl _ | omega) (by first | exact Nat.le_refl _ | omega) ?_
  refine lv_astore_n (lv' := [(1, .ref (fa_B G + (0))), (0, .ref (b))]) hx hb dL_law_7 rfl hl (by decide) rfl (fun ls hl => ?_)
  refine lv_aload_n hx hb dL_law_8 rfl (lv_at hl 0 rfl) ?_
  refine fa_callViu (As := []) (rest := []) CX HX50005 (g_undo l G 397 hn v50002 r50003 hC_0 ) ln_L_76 (by omega) rfl rfl rfl rfl (Nat.le_of_ble_eq_true rfl) hl.1 ⟨Nat.le_of_ble_eq_true rfl, Nat.le_of_ble_eq_true rfl⟩ ⟨Nat.le_of_ble_eq_true rfl, Nat.le_of_ble_eq_true rfl⟩ dL_law_9 (fun x50007 v50008 H locs h50006 HX50009 => ?_)
  have hC_v50008 := h50006.1.2
  have h_undo := h50006.1.1
  obtain ⟨hu_9, hV_9⟩ := h_undo _ _ hV_0
  have hV_9 : fb_CV v50008 r50003 fb_A0 [] := hV_9
  have e_9 : x50007 = (-6 : Int32) := hu_9
  subst e_9
  refine lv_bipush (v := (-6 : Int32)) hx hb dL_law_12 (by decide) ?_
  refine lv_icmp_ne (tgt := 49) hx hb dL_law_14 (by decide) (fun c_14 => ?_) (fun c_14 => ?_)
  · exact absurd (by try decide) c_14
  · refine lv_aload_n hx hb dL_law_17 rfl (lv_at hl 0 rfl) ?_
    refine lv_iconst (v := nI (0)) hx hb dL_law_18 (by decide) ?_
    refine fa_callVip (As := [.int (nI (0))]) (rest := []) CX HX50009 (g_why l G 397 hn v50008 r50003 hC_v50008 (nI (0))) ln_L_79 (by omega) rfl rfl rfl rfl (Nat.le_of_ble_eq_true rfl) hl.1 ⟨Nat.le_of_ble_eq_true rfl, Nat.le_of_ble_eq_true rfl⟩ ⟨Nat.le_of_ble_eq_true rfl, Nat.le_of_ble_eq_true rfl⟩ dL_law_19 (fun x50011 H locs h50010 HX50012 => ?_)
    have h_why := h50010
    have e_19 : x50011 = (-6 : Int32) := (h_why.trans (by rw [h50006.2 0 (by omega), h006, fb_whyA, if_neg (by decide), if_pos rfl]))
    subst e_19
    refine lv_bipush (v := (-6 : Int32)) hx hb dL_law_22 (by decide) ?_
    refine lv_icmp_ne (tgt := 49) hx hb dL_law_24 (by decide) (fun c_24 => ?_) (fun c_24 => ?_)
    · exact absurd (by try decide) c_24
    · refine lv_aload_n hx hb dL_law_27 rfl (lv_at hl 0 rfl) ?_
      refine fa_callVfp (As := []) (rest := []) CX HX50012 (g_meanAge l G 397 hn v50008 r50003 hC_v50008 ) ln_L_82 (by omega) rfl rfl rfl rfl (Nat.le_of_ble_eq_true rfl) hl.1 ⟨Nat.le_of_ble_eq_true rfl, Nat.le_of_ble_eq_true rfl⟩ ⟨Nat.le_of_ble_eq_true rfl, Nat.le_of_ble_eq_true rfl⟩ dL_law_28 (fun x50014 H locs h50013 HX50015 => ?_)
      have h_meanAge := h50013
      have e_28 : x50014 = FP.fconst0 := (h_meanAge.2 _ hV_9.1 hV_9.2.2.1).trans (if_pos rfl)
      subst e_28
      refine lv_fconst0 hx hb dL_law_31 ?_
      refine lv_fcmp hx hb dL_law_32 ?_
      refine lv_if_ne (tgt := 49) hx hb dL_law_33 (by decide) (fun c_33 => ?_) (fun c_33 => ?_)
      · exact absurd (by decide +kernel) c_33
      · refine lv_aload_n hx hb dL_law_36 rfl (lv_at hl 0 rfl) ?_
        refine fa_callVi (As := []) (rest := []) CX HX50015 (g_run5 l G 397 hn v50008 r50003 hC_v50008 ) ln_L_86 (by omega) rfl rfl rfl rfl (Nat.le_of_ble_eq_true rfl) hl.1 ⟨Nat.le_of_ble_eq_true rfl, Nat.le_of_ble_eq_true rfl⟩ ⟨Nat.le_of_ble_eq_true rfl, Nat.le_of_ble_eq_true rfl⟩ dL_law_37 (fun x50017 v50018 r50019 H locs h50016 HX50020 => ?_)
        dsimp only at h50016
        have hC_v50018 := h50016.2.1
        have h_run5 := h50016.1
        have hrun := h_run5.2 _ _ hV_9
        have ht9 : fa_N (v50008 395 1) = 0 := by rw [h50006.2 395 (by omega), h3951]; rfl
        obtain ⟨j_r, y_r, -, -, -, e_37, hV_37, -, hr58⟩ := hrun.resolve_right (fun z => by (obtain ⟨j, e, -, hF, -⟩ := z; exact fc_FR0 ht9 hF))
        have hI_37 : fb_inj r50019 57 := hI_0.congr hr58
        subst e_37
        refine lv_bipush (v := (-3 : Int32)) hx hb dL_law_40 (by decide) ?_
        refine lv_icmp_ne (tgt := 49) hx hb dL_law_42 (by decide) (fun c_42 => ?_) (fun c_42 => ?_)
        · exact absurd (by try decide) c_42
        · refine lv_iconst (v := nI (1)) hx hb dL_law_45 (by decide) ?_
          refine lv_goto (tgt := 50) hx hb dL_law_46 (by decide) ?_
          refine lv_istore_n (lv' := [(2, .int (nI (1))), (1, .ref (fa_B G + (0))), (0, .ref (b))]) hx hb dL_law_50 rfl hl (by decide) rfl (fun ls hl => ?_)
          refine lv_iconst (v := nI (0)) hx hb dL_law_51 (by decide) ?_
          refine lv_istore_n (lv' := [(3, .int (nI (0))), (2, .int (nI (1))), (1, .ref (fa_B G + (0))), (0, .ref (b))]) hx hb dL_law_52 rfl hl (by decide) rfl (fun ls hl => ?_)
          have LOOP_53 : ∀ (fu : Nat) (k : Nat) (v50021 : fa_V) (r50022 : fa_R) (H : Heap) (locs : List Loc) (ls : Array Slot), 40 - k < fu → (k ≤ 40 ∧ fa_CI v50021 r50022 ∧ ∃ A H dy cm bu, fb_CV v50021 r50022 A H ∧ fc_ok A dy cm bu (dy / 90) k ∧ dy ≤ 120 * k ∧ cm ≤ k ∧ fb_inj r50022 57) → lv_has ls 6 [(0, .ref (b)), (1, .ref (fa_B G + (0))), (2, .int (nI (1))), (3, .int (nI (k)))] → fa_HX G (397) v50021 r50022 s H locs → W p l e room_1 s m #[Value.ref b] below meth c H locs (397) (3804) (lw_Z below #[Value.ref b] s) (F0 m 53 ls []) := by
            intro fu
            induction fu with
            | zero => intro k v50021 r50022 H locs ls hk; exact absurd hk (Nat.not_lt_zero _)
            | succ fu ih_53 =>
              intro k v50021 r50022 H locs ls hk_53 hi_53 hl HX50023
              obtain ⟨A, H53, dy, cm, bu, hV53, hK53, hdy, hcm, hI53⟩ := hi_53.2.2
              refine lv_iload_n hx hb dL_law_53 rfl (lv_at hl 3 rfl) ?_
              refine lv_bipush (v := nI (40)) hx hb dL_law_54 (by decide) ?_
              refine lv_icmp_ge (tgt := 108) hx hb dL_law_56 (by decide) (fun c_56 => ?_) (fun c_56 => ?_)
              · have hk40 : k = 40 := by
                  have := fa_leN (by omega) (by omega) c_56
                  have := hi_53.1
                  omega
                have hok := hV53.1
                have hn24 : A.n ≤ 24 := hok.1.1
                have hm12 : A.m ≤ 12 := hok.2.1
                refine lv_iconst (v := nI (0)) hx hb dL_law_108 (by decide) ?_
                refine lv_istore_n (lv' := [(3, .int (nI (0))), (0, .ref (b)), (1, .ref (fa_B G + (0))), (2, .int (nI (1)))]) hx hb dL_law_109 rfl hl (by decide) rfl (fun ls hl => ?_)
                refine lv_iconst (v := nI (0)) hx hb dL_law_110 (by decide) ?_
                refine lv_istore (lv' := [(4, .int (nI (0))), (3, .int (nI (0))), (0, .ref (b)), (1, .ref (fa_B G + (0))), (2, .int (nI (1)))]) hx hb dL_law_111 hl (by decide) rfl (fun ls hl => ?_)
                have LOOP_113 : ∀ (fu : Nat) (pl : Nat) (sm : Int32) (H : Heap) (locs : List Loc) (ls : Array Slot), A.n - pl < fu → (pl ≤ A.n ∧ sm = fa_sum (fun p => A.g 7 - A.F p 3) pl) → lv_has ls 6 [(0, .ref (b)), (1, .ref (fa_B G + (0))), (2, .int (nI (1))), (3, .int (sm)), (4, .int (nI (pl)))] → fa_HX G (397) v50021 r50022 s H locs → W p l e room_1 s m #[Value.ref b] below meth c H locs (397) (3804) (lw_Z below #[Value.ref b] s) (F0 m 113 ls []) := by
                  intro fu
                  induction fu with
                  | zero => intro pl sm H locs ls hk; exact absurd hk (Nat.not_lt_zero _)
                  | succ fu ih_113 =>
                    intro pl sm H locs ls hk_113 hi_113 hl HX50024
                    refine lv_iload hx hb dL_law_113 (lv_at hl 4 rfl) ?_
                    refine lv_aload_n hx hb dL_law_115 rfl (lv_at hl 1 rfl) ?_
                    refine lv_iconst (v := nI (0)) hx hb dL_law_116 (by decide) ?_
                    refine fa_callVip (As := [.int (nI (0))]) (rest := [.int (nI (pl))]) CX HX50024 (g_count l G 397 hn v50021 r50022 hi_53.2.1 (nI (0))) ln_L_15 (by omega) rfl rfl rfl rfl (Nat.le_of_ble_eq_true rfl) hl.1 ⟨Nat.le_of_ble_eq_true rfl, Nat.le_of_ble_eq_true rfl⟩ ⟨Nat.le_of_ble_eq_true rfl, Nat.le_of_ble_eq_true rfl⟩ dL_law_117 (fun x50026 H locs h50025 HX50027 => ?_)
                    have h_count := h50025
                    have e_117 : x50026 = nI (A.n) := ((h_count A hV53.1 hV53.2.2.1).trans (fb_cntA_0 (by decide)))
                    subst e_117
                    refine lv_icmp_ge (tgt := 148) hx hb dL_law_120 (by decide) (fun c_120 => ?_) (fun c_120 => ?_)
                    · have hpn : pl = A.n := by
                        have := fa_leN (by omega) (by omega) c_120
                        have := hi_113.1
                        omega
                      have hsm : sm = fb_ages A := by
                        rw [hi_113.2, hpn]; rfl
                      refine lv_iload_n hx hb dL_law_148 rfl (lv_at hl 2 rfl) ?_
                      refine lv_if_eq (tgt := 199) hx hb dL_law_149 (by decide) (fun c_149 => ?_) (fun c_149 => ?_)
                      · exact absurd c_149 (by try decide)
                      · refine lv_aload_n hx hb dL_law_152 rfl (lv_at hl 1 rfl) ?_
                        refine fa_callSiu (As := [.ref (fa_B G + (0))]) (rest := []) CX HX50027 (l_areFiles l G 397 hn v50021 r50022 hi_53.2.1 _ _ _ _ _ _ hV53 hK53 (by omega) (by omega) (by omega)) ln_L_99 rfl rfl (Nat.le_of_ble_eq_true rfl) hl.1 ⟨Nat.le_of_ble_eq_true rfl, Nat.le_of_ble_eq_true rfl⟩ ⟨Nat.le_of_ble_eq_true rfl, Nat.le_of_ble_eq_true rfl⟩ dL_law_153 (fun x50029 v50030 H locs h50028 HX50031 => ?_)
                        have h_areFiles := h50028.1
                        have hC_v50030 := h_areFiles.2.1
                        have hV_153 := hV53.rsn h_areFiles.2.2 h50028.2
                        have e_153 : x50029 = nI (1) := h_areFiles.1
                        subst e_153
                        refine lv_if_eq (tgt := 199) hx hb dL_law_156 (by decide) (fun c_156 => ?_) (fun c_156 => ?_)
                        · exact absurd c_156 (by try decide)
                        · refine lv_aload_n hx hb dL_law_159 rfl (lv_at hl 1 rfl) ?_
                          refine fa_callSip (As := [.ref (fa_B G + (0))]) (rest := []) CX HX50031 (l_areLists l G 397 hn v50030 r50022 hC_v50030 _ _ _ _ _ _ hV_153 hK53 (by omega) (by omega) (by omega)) ln_L_103 rfl rfl (Nat.le_of_ble_eq_true rfl) hl.1 ⟨Nat.le_of_ble_eq_true rfl, Nat.le_of_ble_eq_true rfl⟩ ⟨Nat.le_of_ble_eq_true rfl, Nat.le_of_ble_eq_true rfl⟩ dL_law_160 (fun x50033 H locs h50032 HX50034 => ?_)
                          have h_areLists := h50032
                          have e_160 : x50033 = nI (1) := h_areLists
                          subst e_160
                          refine lv_if_eq (tgt := 199) hx hb dL_law_163 (by decide) (fun c_163 => ?_) (fun c_163 => ?_)
                          · exact absurd c_163 (by try decide)
                          · refine lv_aload_n hx hb dL_law_166 rfl (lv_at hl 1 rfl) ?_
                            refine fa_callVfp (As := []) (rest := []) CX HX50034 (g_meanAge l G 397 hn v50030 r50022 hC_v50030 ) ln_L_82 (by omega) rfl rfl rfl rfl (Nat.le_of_ble_eq_true rfl) hl.1 ⟨Nat.le_of_ble_eq_true rfl, Nat.le_of_ble_eq_true rfl⟩ ⟨Nat.le_of_ble_eq_true rfl, Nat.le_of_ble_eq_true rfl⟩ dL_law_167 (fun x50036 H locs h50035 HX50037 => ?_)
                            have h_meanAge := h50035
                            have hma := h_meanAge.2 _ hV_153.1 hV_153.2.2.1
                            refine lv_aload_n hx hb dL_law_170 rfl (lv_at hl 1 rfl) ?_
                            refine lv_iconst (v := nI (0)) hx hb dL_law_171 (by decide) ?_
                            refine fa_callVip (As := [.int (nI (0))]) (rest := [.float (x50036)]) CX HX50037 (g_count l G 397 hn v50030 r50022 hC_v50030 (nI (0))) ln_L_15 (by omega) rfl rfl rfl rfl (Nat.le_of_ble_eq_true rfl) hl.1 ⟨Nat.le_of_ble_eq_true rfl, Nat.le_of_ble_eq_true rfl⟩ ⟨Nat.le_of_ble_eq_true rfl, Nat.le_of_ble_eq_true rfl⟩ dL_law_172 (fun x50039 H locs h50038 HX50040 => ?_)
                            have h_count := h50038
                            have e_172 : x50039 = nI (A.n) := ((h_count A hV_153.1 hV_153.2.2.1).trans (fb_cntA_0 (by decide)))
                            subst e_172
                            refine lv_if_ne (tgt := 182) hx hb dL_law_175 (by decide) (fun c_175 => ?_) (fun c_175 => ?_)
                            · have hn1 : 1 ≤ A.n := Nat.pos_of_ne_zero (fun z => c_175 (by rw [z]; rfl))
                              have hmx : x50036 = FP.fdiv (FP.i2f sm) (FP.i2f (nI A.n)) := hma.trans (by rw [hsm]; exact if_neg (by omega))
                              subst hmx
                              refine lv_iload_n hx hb dL_law_182 rfl (lv_at hl 3 rfl) ?_
                              refine lv_i2f hx hb dL_law_183 ?_
                              refine lv_aload_n hx hb dL_law_184 rfl (lv_at hl 1 rfl) ?_
                              refine lv_iconst (v := nI (0)) hx hb dL_law_185 (by decide) ?_
                              refine fa_callVip (As := [.int (nI (0))]) (rest := [.float (FP.i2f (sm)), .float (FP.fdiv (FP.i2f (sm)) (FP.i2f (nI (A.n))))]) CX HX50040 (g_count l G 397 hn v50030 r50022 hC_v50030 (nI (0))) ln_L_15 (by omega) rfl rfl rfl rfl (Nat.le_of_ble_eq_true rfl) hl.1 ⟨Nat.le_of_ble_eq_true rfl, Nat.le_of_ble_eq_true rfl⟩ ⟨Nat.le_of_ble_eq_true rfl, Nat.le_of_ble_eq_true rfl⟩ dL_law_186 (fun x50042 H locs h50041 HX50043 => ?_)
                              have h_count := h50041
                              have e_186 : x50042 = nI (A.n) := ((h_count A hV_153.1 hV_153.2.2.1).trans (fb_cntA_0 (by decide)))
                              subst e_186
                              refine lv_i2f hx hb dL_law_189 ?_
                              refine lv_fdiv hx hb dL_law_190 (fa_fdiv_ok hn1 hn24).1 ?_
                              refine lv_fcmp hx hb dL_law_191 ?_
                              refine lv_if_ne (tgt := 199) hx hb dL_law_192 (by decide) (fun c_192 => ?_) (fun c_192 => ?_)
                              · exact absurd (fc_fself (fc_nan hn1 hn24)) c_192
                              · refine lv_iconst (v := nI (1)) hx hb dL_law_195 (by decide) ?_
                                refine lv_goto (tgt := 200) hx hb dL_law_196 (by decide) ?_
                                refine lv_istore_n (lv' := [(2, .int (nI (1))), (0, .ref (b)), (1, .ref (fa_B G + (0))), (3, .int (sm)), (4, .int (nI (pl)))]) hx hb dL_law_200 rfl hl (by decide) rfl (fun ls hl => ?_)
                                refine lv_aload_n hx hb dL_law_201 rfl (lv_at hl 2 rfl) ?_
                                refine lv_iconst (v := nI (0)) hx hb dL_law_202 (by decide) ?_
                                refine fa_callVip (As := [.int (nI (0))]) (rest := []) CX HX50043 (g_fileAt l G 397 hn v50030 r50022 hC_v50030 (nI (0))) ln_L_19 (by omega) rfl rfl rfl rfl (Nat.le_of_ble_eq_true rfl) hl.1 ⟨Nat.le_of_ble_eq_true rfl, Nat.le_of_ble_eq_true rfl⟩ ⟨Nat.le_of_ble_eq_true rfl, Nat.le_of_ble_eq_true rfl⟩ dL_law_203 (fun x50045 H locs h50044 HX50046 => ?_)
                                have h_fileAt := h50044
                                have e_203 : x50045 = A.F 0 0 := ((h_fileAt A hV_153.1 hV_153.2.2.1).trans (fc_fat1 (p := 0) (by omega) hn24))
                                subst e_203
                                refine lv_istore (lv' := [(4, .int (A.F 0 0)), (2, .int (nI (1))), (0, .ref (b)), (1, .ref (fa_B G + (0))), (3, .int (sm))]) hx hb dL_law_206 hl (by decide) rfl (fun ls hl => ?_)
                                refine lv_iload hx hb dL_law_208 (lv_at hl 0 rfl) ?_
                                refine lv_if_ge (tgt := 218) hx hb dL_law_210 (by decide) (fun c_210 => ?_) (fun c_210 => ?_)
                                · refine lv_aload_n hx hb dL_law_218 rfl (lv_at hl 3 rfl) ?_
                                  refine lv_iload hx hb dL_law_219 (lv_at hl 0 rfl) ?_
                                  refine fa_callVi (As := [.int (A.F 0 0)]) (rest := []) CX HX50046 (g_burntIn l G 397 hn v50030 r50022 hC_v50030 (A.F 0 0)) ln_L_106 (by omega) rfl rfl rfl rfl (Nat.le_of_ble_eq_true rfl) hl.1 ⟨Nat.le_of_ble_eq_true rfl, Nat.le_of_ble_eq_true rfl⟩ ⟨Nat.le_of_ble_eq_true rfl, Nat.le_of_ble_eq_true rfl⟩ dL_law_221 (fun x50048 v50049 r50050 H locs h50047 HX50051 => ?_)
                                  dsimp only at h50047
                                  have hC_v50049 := h50047.2.1
                                  have h_burntIn := h50047.1
                                  have hV_221 := hV_153.fut h50047.2.2.1 h_burntIn.1
                                  obtain ⟨hI_221, hbn⟩ := h_burntIn.2 A dy hok hK53.1 (by omega) hI53 hV_153.2.2.1
                                  have hbn2 := (hbn.resolve_left (fun y => fb_ix_ne (fc_ixE hok (p := 0) (by omega) rfl) y.1)).2
                                  rcases hbn2 with ⟨u, h1u, hu, e_224, hbj, hbu⟩ | e_224
                                  · subst e_224
                                    refine lv_istore (lv' := [(5, .int (nI (u))), (4, .int (A.F 0 0)), (2, .int (nI (1))), (0, .ref (b)), (1, .ref (fa_B G + (0))), (3, .int (sm))]) hx hb dL_law_224 hl (by decide) rfl (fun ls hl => ?_)
                                    refine lv_iload_n hx hb dL_law_226 rfl (lv_at hl 2 rfl) ?_
                                    refine lv_if_eq (tgt := 343) hx hb dL_law_227 (by decide) (fun c_227 => ?_) (fun c_227 => ?_)
                                    · exact absurd c_227 (by try decide)
                                    · refine lv_iload hx hb dL_law_230 (lv_at hl 0 rfl) ?_
                                      refine lv_if_le (tgt := 343) hx hb dL_law_232 (by decide) (fun c_232 => ?_) (fun c_232 => ?_)
                                      · exact absurd c_232 (nI_nle (by omega) (by omega))
                                      · refine lv_iload hx hb dL_law_235 (lv_at hl 0 rfl) ?_
                                        refine lv_sipush (v := nI (400)) hx hb dL_law_237 (by decide) ?_
                                        refine lv_icmp_gt (tgt := 343) hx hb dL_law_240 (by decide) (fun c_240 => ?_) (fun c_240 => ?_)
                                        · refine lv_iload_n hx hb dL_law_343 rfl (lv_at hl 2 rfl) ?_
                                          refine lv_if_eq (tgt := 371) hx hb dL_law_344 (by decide) (fun c_344 => ?_) (fun c_344 => ?_)
                                          · exact absurd c_344 (by try decide)
                                          · refine lv_iload hx hb dL_law_347 (lv_at hl 0 rfl) ?_
                                            refine lv_bipush (v := (-6 : Int32)) hx hb dL_law_349 (by decide) ?_
                                            refine lv_icmp_eq (tgt := 367) hx hb dL_law_351 (by decide) (fun c_351 => ?_) (fun c_351 => ?_)
                                            · exact absurd c_351 (fc_ne6 (by omega))
                                            · refine lv_iload hx hb dL_law_354 (lv_at hl 0 rfl) ?_
                                              refine lv_if_le (tgt := 371) hx hb dL_law_356 (by decide) (fun c_356 => ?_) (fun c_356 => ?_)
                                              · exact absurd c_356 (nI_nle (by omega) (by omega))
                                              · refine lv_iload hx hb dL_law_359 (lv_at hl 0 rfl) ?_
                                                refine lv_sipush (v := nI (3000)) hx hb dL_law_361 (by decide) ?_
                                                refine lv_icmp_gt (tgt := 371) hx hb dL_law_364 (by decide) (fun c_364 => ?_) (fun c_364 => ?_)
                                                · exact absurd c_364 (nI_nlt hu (by decide))
                                                · refine lv_iconst (v := nI (1)) hx hb dL_law_367 (by decide) ?_
                                                  refine lv_goto (tgt := 372) hx hb dL_law_368 (by decide) ?_
                                                  exact RET _ _ _ _ _ _ _ _ _ HX50051 (by first | decide | exact Nat.le_of_ble_eq_true rfl) (by first | decide | exact Nat.le_of_ble_eq_true rfl) dL_law_372
                                        · have hu400 : u ≤ 400 := (nI_leI (by omega) (by decide)).mp (Int32.not_lt.mp c_240)
                                          have hun := fc_until hok hK53.1 (by omega) h1u hbj hbu
                                          refine lv_aload_n hx hb dL_law_243 rfl (lv_at hl 4 rfl) ?_
                                          refine fa_callVip (As := []) (rest := []) CX HX50051 (g_now l G 397 hn v50049 r50050 hC_v50049 ) ln_L_31 (by omega) rfl rfl rfl rfl (Nat.le_of_ble_eq_true rfl) hl.1 ⟨Nat.le_of_ble_eq_true rfl, Nat.le_of_ble_eq_true rfl⟩ ⟨Nat.le_of_ble_eq_true rfl, Nat.le_of_ble_eq_true rfl⟩ dL_law_244 (fun x50053 H locs h50052 HX50054 => ?_)
                                          have h_now := h50052
                                          have e_244 : x50053 = nI (dy) := ((h_now.trans hV_221.2.2.1.now).trans hK53.1)
                                          subst e_244
                                          refine lv_iload hx hb dL_law_247 (lv_at hl 0 rfl) ?_
                                          refine fa_iaddN hx hb dL_law_249 ?_
                                          refine lv_bipush (v := nI (90)) hx hb dL_law_250 (by decide) ?_
                                          refine lv_irem hx hb dL_law_252 (by decide) ?_
                                          rw [show (nI (dy + u)) - (nI (dy + u)) / (nI (90)) * (nI (90)) = nI ((dy + u) % 90) from pk_rem (by omega) (by decide) (by omega)]
                                          refine lv_if_ne (tgt := 341) hx hb dL_law_253 (by decide) (fun c_253 => ?_) (fun c_253 => ?_)
                                          · exact absurd (congrArg nI hun.1) c_253
                                          · refine lv_iload hx hb dL_law_256 (lv_at hl 0 rfl) ?_
                                            refine lv_iconst (v := nI (1)) hx hb dL_law_258 (by decide) ?_
                                            refine lv_icmp_eq (tgt := 283) hx hb dL_law_259 (by decide) (fun c_259 => ?_) (fun c_259 => ?_)
                                            · have hu1 : u = 1 := fa_nIinj (by omega) (by decide) c_259
                                              have hone := hun.2 A (by rw [hu1]; rfl)
                                              refine lv_aload_n hx hb dL_law_283 rfl (lv_at hl 4 rfl) ?_
                                              refine lv_iconst (v := nI (1)) hx hb dL_law_284 (by decide) ?_
                                              refine fa_callVi (As := [.int (nI (1))]) (rest := []) CX HX50054 (g_pass5 l G 397 hn v50049 r50050 hC_v50049 (nI (1))) ln_L_72 (by omega) rfl rfl rfl rfl (Nat.le_of_ble_eq_true rfl) hl.1 ⟨Nat.le_of_ble_eq_true rfl, Nat.le_of_ble_eq_true rfl⟩ ⟨Nat.le_of_ble_eq_true rfl, Nat.le_of_ble_eq_true rfl⟩ dL_law_285 (fun x50056 v50057 r50058 H locs h50055 HX50059 => ?_)
                                              dsimp only at h50055
                                              have hC_v50057 := h50055.2.1
                                              have h_pass5 := h50055.1
                                              obtain ⟨hr58_285, hac_285⟩ := h_pass5
                                              obtain ⟨hx_285, hV_285⟩ := hac_285 _ _ hV_221
                                              rw [fc_pass1 (x := 1) hK53.1 (by omega) (by omega) (by omega)] at hx_285 hV_285
                                              have hV_285 : fb_CV v50057 r50058 (fb_daysA A (1)).2 _ := hV_285
                                              have hI_285 : fb_inj r50058 57 := hI_221.congr hr58_285
                                              obtain ⟨b_285, hb_285, hK_285, -⟩ := hK53.days hok (by omega) (1) (by omega)
                                              obtain ⟨jb, hjb1, hjb, hzb⟩ := hone.2.2
                                              have e_285 : x50056 = nI jb := hx_285.trans hzb
                                              subst e_285
                                              refine lv_iconst (v := nI (1)) hx hb dL_law_288 (by decide) ?_
                                              refine lv_icmp_lt (tgt := 341) hx hb dL_law_289 (by decide) (fun c_289 => ?_) (fun c_289 => ?_)
                                              · exact absurd c_289 (nI_nlt hjb1 (by omega))
                                              · refine lv_aload_n hx hb dL_law_292 rfl (lv_at hl 4 rfl) ?_
                                                refine lv_iload hx hb dL_law_293 (lv_at hl 1 rfl) ?_
                                                refine lv_iconst (v := nI (0)) hx hb dL_law_295 (by decide) ?_
                                                refine fa_callVip (As := [.int (A.F 0 0), .int (nI (0))]) (rest := []) CX HX50059 (g_file l G 397 hn v50057 r50058 hC_v50057 (A.F 0 0) (nI (0))) ln_L_9 (by omega) rfl rfl rfl rfl (Nat.le_of_ble_eq_true rfl) hl.1 ⟨Nat.le_of_ble_eq_true rfl, Nat.le_of_ble_eq_true rfl⟩ ⟨Nat.le_of_ble_eq_true rfl, Nat.le_of_ble_eq_true rfl⟩ dL_law_296 (fun x50061 H locs h50060 HX50062 => ?_)
                                                have h_file := h50060
                                                have e_296 : x50061 = (-1 : Int32) := ((h_file (fb_daysA A (1)).2 hV_285.1 hV_285.2.2.1).trans (fb_filA_n hone.2.1))
                                                subst e_296
                                                refine lv_iconst (v := (-1 : Int32)) hx hb dL_law_299 (by decide) ?_
                                                refine lv_icmp_ne (tgt := 341) hx hb dL_law_300 (by decide) (fun c_300 => ?_) (fun c_300 => ?_)
                                                · exact absurd (by try decide) c_300
                                                · refine lv_aload_n hx hb dL_law_303 rfl (lv_at hl 4 rfl) ?_
                                                  refine lv_aload_n hx hb dL_law_304 rfl (lv_at hl 4 rfl) ?_
                                                  refine lv_bipush (v := nI (9)) hx hb dL_law_305 (by decide) ?_
                                                  refine fa_callVip (As := [.int (nI (9))]) (rest := [.ref (fa_B G + (0))]) CX HX50062 (g_count l G 397 hn v50057 r50058 hC_v50057 (nI (9))) ln_L_15 (by omega) rfl rfl rfl rfl (Nat.le_of_ble_eq_true rfl) hl.1 ⟨Nat.le_of_ble_eq_true rfl, Nat.le_of_ble_eq_true rfl⟩ ⟨Nat.le_of_ble_eq_true rfl, Nat.le_of_ble_eq_true rfl⟩ dL_law_307 (fun x50064 H locs h50063 HX50065 => ?_)
                                                  have h_count := h50063
                                                  have e_307 : x50064 = nI ((fb_daysA A (1)).2.m) := ((h_count (fb_daysA A (1)).2 hV_285.1 hV_285.2.2.1).trans (fb_cntA_9 (by decide)))
                                                  subst e_307
                                                  refine lv_iconst (v := nI (1)) hx hb dL_law_310 (by decide) ?_
                                                  refine lv_isub hx hb dL_law_311 ?_
                                                  refine lv_iconst (v := nI (3)) hx hb dL_law_312 (by decide) ?_
                                                  refine fa_callVip (As := [.int ((nI ((fb_daysA A (1)).2.m)) - (nI (1))), .int (nI (3))]) (rest := []) CX HX50065 (g_trace l G 397 hn v50057 r50058 hC_v50057 ((nI ((fb_daysA A (1)).2.m)) - (nI (1))) (nI (3))) ln_L_41 (by omega) rfl rfl rfl rfl (Nat.le_of_ble_eq_true rfl) hl.1 ⟨Nat.le_of_ble_eq_true rfl, Nat.le_of_ble_eq_true rfl⟩ ⟨Nat.le_of_ble_eq_true rfl, Nat.le_of_ble_eq_true rfl⟩ dL_law_313 (fun x50067 H locs h50066 HX50068 => ?_)
                                                  have h_trace := h50066
                                                  have htr : x50067 ≤ nI (dy + 1) := by rw [(h_trace (fb_daysA A (1)).2 hV_285.1 hV_285.2.2.1)]; exact fc_trN hK_285 (by omega) (by omega) hV_285.1.2.1
                                                  refine lv_aload_n hx hb dL_law_316 rfl (lv_at hl 4 rfl) ?_
                                                  refine fa_callVip (As := []) (rest := [.int (x50067)]) CX HX50068 (g_now l G 397 hn v50057 r50058 hC_v50057 ) ln_L_31 (by omega) rfl rfl rfl rfl (Nat.le_of_ble_eq_true rfl) hl.1 ⟨Nat.le_of_ble_eq_true rfl, Nat.le_of_ble_eq_true rfl⟩ ⟨Nat.le_of_ble_eq_true rfl, Nat.le_of_ble_eq_true rfl⟩ dL_law_317 (fun x50070 H locs h50069 HX50071 => ?_)
                                                  have h_now := h50069
                                                  have e_317 : x50070 = nI (dy + 1) := ((h_now.trans hV_285.2.2.1.now).trans hK_285.1)
                                                  subst e_317
                                                  refine lv_icmp_gt (tgt := 341) hx hb dL_law_320 (by decide) (fun c_320 => ?_) (fun c_320 => ?_)
                                                  · exact absurd c_320 (Int32.not_lt.mpr htr)
                                                  · refine lv_aload_n hx hb dL_law_323 rfl (lv_at hl 4 rfl) ?_
                                                    refine fa_callSiu (As := [.ref (fa_B G + (0))]) (rest := []) CX HX50071 (l_areFiles l G 397 hn v50057 r50058 hC_v50057 _ _ _ _ _ _ hV_285 hK_285 (by omega) (by omega) (by omega)) ln_L_99 rfl rfl (Nat.le_of_ble_eq_true rfl) hl.1 ⟨Nat.le_of_ble_eq_true rfl, Nat.le_of_ble_eq_true rfl⟩ ⟨Nat.le_of_ble_eq_true rfl, Nat.le_of_ble_eq_true rfl⟩ dL_law_324 (fun x50073 v50074 H locs h50072 HX50075 => ?_)
                                                    have h_areFiles := h50072.1
                                                    have hC_v50074 := h_areFiles.2.1
                                                    have hV_324 := hV_285.rsn h_areFiles.2.2 h50072.2
                                                    have e_324 : x50073 = nI (1) := h_areFiles.1
                                                    subst e_324
                                                    refine lv_if_eq (tgt := 341) hx hb dL_law_327 (by decide) (fun c_327 => ?_) (fun c_327 => ?_)
                                                    · exact absurd c_327 (by try decide)
                                                    · refine lv_aload_n hx hb dL_law_330 rfl (lv_at hl 4 rfl) ?_
                                                      refine fa_callViu (As := []) (rest := []) CX HX50075 (g_undo l G 397 hn v50074 r50058 hC_v50074 ) ln_L_76 (by omega) rfl rfl rfl rfl (Nat.le_of_ble_eq_true rfl) hl.1 ⟨Nat.le_of_ble_eq_true rfl, Nat.le_of_ble_eq_true rfl⟩ ⟨Nat.le_of_ble_eq_true rfl, Nat.le_of_ble_eq_true rfl⟩ dL_law_331 (fun x50077 v50078 H locs h50076 HX50079 => ?_)
                                                      have hC_v50078 := h50076.1.2
                                                      have h_undo := h50076.1.1
                                                      have hund := (h_undo _ _ hV_324).1
                                                      have hundn : ¬ x50077 < 0 := by rw [hund]; exact fc_undo_rec (by rw [hzb]; exact nI_pos' (by omega)) hV_324.2.2.2.2.1
                                                      refine lv_if_lt (tgt := 341) hx hb dL_law_334 (by decide) (fun c_334 => ?_) (fun c_334 => ?_)
                                                      · exact absurd c_334 hundn
                                                      · refine lv_iconst (v := nI (1)) hx hb dL_law_337 (by decide) ?_
                                                        refine lv_goto (tgt := 342) hx hb dL_law_338 (by decide) ?_
                                                        refine lv_istore_n (lv' := [(2, .int (nI (1))), (5, .int (nI (u))), (4, .int (A.F 0 0)), (0, .ref (b)), (1, .ref (fa_B G + (0))), (3, .int (sm))]) hx hb dL_law_342 rfl hl (by decide) rfl (fun ls hl => ?_)
                                                        refine lv_iload_n hx hb dL_law_343 rfl (lv_at hl 0 rfl) ?_
                                                        refine lv_if_eq (tgt := 371) hx hb dL_law_344 (by decide) (fun c_344 => ?_) (fun c_344 => ?_)
                                                        · exact absurd c_344 (by try decide)
                                                        · refine lv_iload hx hb dL_law_347 (lv_at hl 1 rfl) ?_
                                                          refine lv_bipush (v := (-6 : Int32)) hx hb dL_law_349 (by decide) ?_
                                                          refine lv_icmp_eq (tgt := 367) hx hb dL_law_351 (by decide) (fun c_351 => ?_) (fun c_351 => ?_)
                                                          · exact absurd c_351 (fc_ne6 (by omega))
                                                          · refine lv_iload hx hb dL_law_354 (lv_at hl 1 rfl) ?_
                                                            refine lv_if_le (tgt := 371) hx hb dL_law_356 (by decide) (fun c_356 => ?_) (fun c_356 => ?_)
                                                            · exact absurd c_356 (nI_nle (by omega) (by omega))
                                                            · refine lv_iload hx hb dL_law_359 (lv_at hl 1 rfl) ?_
                                                              refine lv_sipush (v := nI (3000)) hx hb dL_law_361 (by decide) ?_
                                                              refine lv_icmp_gt (tgt := 371) hx hb dL_law_364 (by decide) (fun c_364 => ?_) (fun c_364 => ?_)
                                                              · exact absurd c_364 (nI_nlt hu (by decide))
                                                              · refine lv_iconst (v := nI (1)) hx hb dL_law_367 (by decide) ?_
                                                                refine lv_goto (tgt := 372) hx hb dL_law_368 (by decide) ?_
                                                                exact RET _ _ _ _ _ _ _ _ _ HX50079 (by first | decide | exact Nat.le_of_ble_eq_true rfl) (by first | decide | exact Nat.le_of_ble_eq_true rfl) dL_law_372
                                            · have hu1 : ¬ u = 1 := fun z => c_259 (by rw [z])
                                              have hone := hun.2 _ rfl
                                              refine lv_aload_n hx hb dL_law_262 rfl (lv_at hl 4 rfl) ?_
                                              refine lv_iload hx hb dL_law_263 (lv_at hl 0 rfl) ?_
                                              refine lv_iconst (v := nI (1)) hx hb dL_law_265 (by decide) ?_
                                              refine fa_isubN hx hb dL_law_266 (by omega) ?_
                                              refine fa_callVi (As := [.int (nI (u - 1))]) (rest := []) CX HX50054 (g_pass5 l G 397 hn v50049 r50050 hC_v50049 (nI (u - 1))) ln_L_72 (by omega) rfl rfl rfl rfl (Nat.le_of_ble_eq_true rfl) hl.1 ⟨Nat.le_of_ble_eq_true rfl, Nat.le_of_ble_eq_true rfl⟩ ⟨Nat.le_of_ble_eq_true rfl, Nat.le_of_ble_eq_true rfl⟩ dL_law_267 (fun x50081 v50082 r50083 H locs h50080 HX50084 => ?_)
                                              dsimp only at h50080
                                              have hC_v50082 := h50080.2.1
                                              have h_pass5 := h50080.1
                                              obtain ⟨hr58_267, hac_267⟩ := h_pass5
                                              obtain ⟨hx_267, hV_267⟩ := hac_267 _ _ hV_221
                                              rw [fc_pass1 (x := u - 1) hK53.1 (by omega) (by omega) (by omega)] at hx_267 hV_267
                                              have hV_267 : fb_CV v50082 r50083 (fb_daysA A (u - 1)).2 _ := hV_267
                                              have hI_267 : fb_inj r50083 57 := hI_221.congr hr58_267
                                              obtain ⟨b_267, hb_267, hK_267, hz_267⟩ := hK53.days hok (by omega) (u - 1) (by omega)
                                              have e_267 : x50081 = nI (b_267 - bu) := hx_267.trans hz_267
                                              subst e_267
                                              refine lv_if_lt (tgt := 341) hx hb dL_law_270 (by decide) (fun c_270 => ?_) (fun c_270 => ?_)
                                              · exact absurd c_270 (nI_pos (by have := hK_267.2.2.2.2.1; omega))
                                              · refine lv_aload_n hx hb dL_law_273 rfl (lv_at hl 4 rfl) ?_
                                                refine lv_iload hx hb dL_law_274 (lv_at hl 1 rfl) ?_
                                                refine lv_iconst (v := nI (0)) hx hb dL_law_276 (by decide) ?_
                                                refine fa_callVip (As := [.int (A.F 0 0), .int (nI (0))]) (rest := []) CX HX50084 (g_file l G 397 hn v50082 r50083 hC_v50082 (A.F 0 0) (nI (0))) ln_L_9 (by omega) rfl rfl rfl rfl (Nat.le_of_ble_eq_true rfl) hl.1 ⟨Nat.le_of_ble_eq_true rfl, Nat.le_of_ble_eq_true rfl⟩ ⟨Nat.le_of_ble_eq_true rfl, Nat.le_of_ble_eq_true rfl⟩ dL_law_277 (fun x50086 H locs h50085 HX50087 => ?_)
                                                have h_file := h50085
                                                obtain ⟨p1, hp1, ep1⟩ := hone.1
                                                obtain ⟨kd1, hkd1, ekd1⟩ := (hV_267.1.1.2.2.2.2.2 p1 hp1).1
                                                have e_277 : x50086 = nI (kd1) := ((((h_file (fb_daysA A (u - 1)).2 hV_267.1 hV_267.2.2.1).trans (fc_filE hV_267.1 hp1 ep1)).trans (fb_filP_0 (by decide))).trans ekd1)
                                                subst e_277
                                                refine lv_if_lt (tgt := 341) hx hb dL_law_280 (by decide) (fun c_280 => ?_) (fun c_280 => ?_)
                                                · exact absurd c_280 (nI_pos (by omega))
                                                · refine lv_aload_n hx hb dL_law_283 rfl (lv_at hl 4 rfl) ?_
                                                  refine lv_iconst (v := nI (1)) hx hb dL_law_284 (by decide) ?_
                                                  refine fa_callVi (As := [.int (nI (1))]) (rest := []) CX HX50087 (g_pass5 l G 397 hn v50082 r50083 hC_v50082 (nI (1))) ln_L_72 (by omega) rfl rfl rfl rfl (Nat.le_of_ble_eq_true rfl) hl.1 ⟨Nat.le_of_ble_eq_true rfl, Nat.le_of_ble_eq_true rfl⟩ ⟨Nat.le_of_ble_eq_true rfl, Nat.le_of_ble_eq_true rfl⟩ dL_law_285 (fun x50089 v50090 r50091 H locs h50088 HX50092 => ?_)
                                                  dsimp only at h50088
                                                  have hC_v50090 := h50088.2.1
                                                  have h_pass5 := h50088.1
                                                  obtain ⟨hr58_285, hac_285⟩ := h_pass5
                                                  obtain ⟨hx_285, hV_285⟩ := hac_285 _ _ hV_267
                                                  rw [fc_pass1 (x := 1) hK_267.1 (by omega) (by omega) (by omega)] at hx_285 hV_285
                                                  have hV_285 : fb_CV v50090 r50091 (fb_daysA (fb_daysA A (u - 1)).2 (1)).2 _ := hV_285
                                                  have hI_285 : fb_inj r50091 57 := hI_267.congr hr58_285
                                                  obtain ⟨b_285, hb_285, hK_285, -⟩ := hK_267.days hV_267.1 (by omega) (1) (by omega)
                                                  obtain ⟨jb, hjb1, hjb, hzb⟩ := hone.2.2
                                                  have e_285 : x50089 = nI jb := hx_285.trans hzb
                                                  subst e_285
                                                  refine lv_iconst (v := nI (1)) hx hb dL_law_288 (by decide) ?_
                                                  refine lv_icmp_lt (tgt := 341) hx hb dL_law_289 (by decide) (fun c_289 => ?_) (fun c_289 => ?_)
                                                  · exact absurd c_289 (nI_nlt hjb1 (by omega))
                                                  · refine lv_aload_n hx hb dL_law_292 rfl (lv_at hl 4 rfl) ?_
                                                    refine lv_iload hx hb dL_law_293 (lv_at hl 1 rfl) ?_
                                                    refine lv_iconst (v := nI (0)) hx hb dL_law_295 (by decide) ?_
                                                    refine fa_callVip (As := [.int (A.F 0 0), .int (nI (0))]) (rest := []) CX HX50092 (g_file l G 397 hn v50090 r50091 hC_v50090 (A.F 0 0) (nI (0))) ln_L_9 (by omega) rfl rfl rfl rfl (Nat.le_of_ble_eq_true rfl) hl.1 ⟨Nat.le_of_ble_eq_true rfl, Nat.le_of_ble_eq_true rfl⟩ ⟨Nat.le_of_ble_eq_true rfl, Nat.le_of_ble_eq_true rfl⟩ dL_law_296 (fun x50094 H locs h50093 HX50095 => ?_)
                                                    have h_file := h50093
                                                    have e_296 : x50094 = (-1 : Int32) := ((h_file (fb_daysA (fb_daysA A (u - 1)).2 (1)).2 hV_285.1 hV_285.2.2.1).trans (fb_filA_n hone.2.1))
                                                    subst e_296
                                                    refine lv_iconst (v := (-1 : Int32)) hx hb dL_law_299 (by decide) ?_
                                                    refine lv_icmp_ne (tgt := 341) hx hb dL_law_300 (by decide) (fun c_300 => ?_) (fun c_300 => ?_)
                                                    · exact absurd (by try decide) c_300
                                                    · refine lv_aload_n hx hb dL_law_303 rfl (lv_at hl 4 rfl) ?_
                                                      refine lv_aload_n hx hb dL_law_304 rfl (lv_at hl 4 rfl) ?_
                                                      refine lv_bipush (v := nI (9)) hx hb dL_law_305 (by decide) ?_
                                                      refine fa_callVip (As := [.int (nI (9))]) (rest := [.ref (fa_B G + (0))]) CX HX50095 (g_count l G 397 hn v50090 r50091 hC_v50090 (nI (9))) ln_L_15 (by omega) rfl rfl rfl rfl (Nat.le_of_ble_eq_true rfl) hl.1 ⟨Nat.le_of_ble_eq_true rfl, Nat.le_of_ble_eq_true rfl⟩ ⟨Nat.le_of_ble_eq_true rfl, Nat.le_of_ble_eq_true rfl⟩ dL_law_307 (fun x50097 H locs h50096 HX50098 => ?_)
                                                      have h_count := h50096
                                                      have e_307 : x50097 = nI ((fb_daysA (fb_daysA A (u - 1)).2 (1)).2.m) := ((h_count (fb_daysA (fb_daysA A (u - 1)).2 (1)).2 hV_285.1 hV_285.2.2.1).trans (fb_cntA_9 (by decide)))
                                                      subst e_307
                                                      refine lv_iconst (v := nI (1)) hx hb dL_law_310 (by decide) ?_
                                                      refine lv_isub hx hb dL_law_311 ?_
                                                      refine lv_iconst (v := nI (3)) hx hb dL_law_312 (by decide) ?_
                                                      refine fa_callVip (As := [.int ((nI ((fb_daysA (fb_daysA A (u - 1)).2 (1)).2.m)) - (nI (1))), .int (nI (3))]) (rest := []) CX HX50098 (g_trace l G 397 hn v50090 r50091 hC_v50090 ((nI ((fb_daysA (fb_daysA A (u - 1)).2 (1)).2.m)) - (nI (1))) (nI (3))) ln_L_41 (by omega) rfl rfl rfl rfl (Nat.le_of_ble_eq_true rfl) hl.1 ⟨Nat.le_of_ble_eq_true rfl, Nat.le_of_ble_eq_true rfl⟩ ⟨Nat.le_of_ble_eq_true rfl, Nat.le_of_ble_eq_true rfl⟩ dL_law_313 (fun x50100 H locs h50099 HX50101 => ?_)
                                                      have h_trace := h50099
                                                      have htr : x50100 ≤ nI (dy + (u - 1) + 1) := by rw [(h_trace (fb_daysA (fb_daysA A (u - 1)).2 (1)).2 hV_285.1 hV_285.2.2.1)]; exact fc_trN hK_285 (by omega) (by omega) hV_285.1.2.1
                                                      refine lv_aload_n hx hb dL_law_316 rfl (lv_at hl 4 rfl) ?_
                                                      refine fa_callVip (As := []) (rest := [.int (x50100)]) CX HX50101 (g_now l G 397 hn v50090 r50091 hC_v50090 ) ln_L_31 (by omega) rfl rfl rfl rfl (Nat.le_of_ble_eq_true rfl) hl.1 ⟨Nat.le_of_ble_eq_true rfl, Nat.le_of_ble_eq_true rfl⟩ ⟨Nat.le_of_ble_eq_true rfl, Nat.le_of_ble_eq_true rfl⟩ dL_law_317 (fun x50103 H locs h50102 HX50104 => ?_)
                                                      have h_now := h50102
                                                      have e_317 : x50103 = nI (dy + (u - 1) + 1) := ((h_now.trans hV_285.2.2.1.now).trans hK_285.1)
                                                      subst e_317
                                                      refine lv_icmp_gt (tgt := 341) hx hb dL_law_320 (by decide) (fun c_320 => ?_) (fun c_320 => ?_)
                                                      · exact absurd c_320 (Int32.not_lt.mpr htr)
                                                      · refine lv_aload_n hx hb dL_law_323 rfl (lv_at hl 4 rfl) ?_
                                                        refine fa_callSiu (As := [.ref (fa_B G + (0))]) (rest := []) CX HX50104 (l_areFiles l G 397 hn v50090 r50091 hC_v50090 _ _ _ _ _ _ hV_285 hK_285 (by omega) (by omega) (by omega)) ln_L_99 rfl rfl (Nat.le_of_ble_eq_true rfl) hl.1 ⟨Nat.le_of_ble_eq_true rfl, Nat.le_of_ble_eq_true rfl⟩ ⟨Nat.le_of_ble_eq_true rfl, Nat.le_of_ble_eq_true rfl⟩ dL_law_324 (fun x50106 v50107 H locs h50105 HX50108 => ?_)
                                                        have h_areFiles := h50105.1
                                                        have hC_v50107 := h_areFiles.2.1
                                                        have hV_324 := hV_285.rsn h_areFiles.2.2 h50105.2
                                                        have e_324 : x50106 = nI (1) := h_areFiles.1
                                                        subst e_324
                                                        refine lv_if_eq (tgt := 341) hx hb dL_law_327 (by decide) (fun c_327 => ?_) (fun c_327 => ?_)
                                                        · exact absurd c_327 (by try decide)
                                                        · refine lv_aload_n hx hb dL_law_330 rfl (lv_at hl 4 rfl) ?_
                                                          refine fa_callViu (As := []) (rest := []) CX HX50108 (g_undo l G 397 hn v50107 r50091 hC_v50107 ) ln_L_76 (by omega) rfl rfl rfl rfl (Nat.le_of_ble_eq_true rfl) hl.1 ⟨Nat.le_of_ble_eq_true rfl, Nat.le_of_ble_eq_true rfl⟩ ⟨Nat.le_of_ble_eq_true rfl, Nat.le_of_ble_eq_true rfl⟩ dL_law_331 (fun x50110 v50111 H locs h50109 HX50112 => ?_)
                                                          have hC_v50111 := h50109.1.2
                                                          have h_undo := h50109.1.1
                                                          have hund := (h_undo _ _ hV_324).1
                                                          have hundn : ¬ x50110 < 0 := by rw [hund]; exact fc_undo_rec (by rw [hzb]; exact nI_pos' (by omega)) hV_324.2.2.2.2.1
                                                          refine lv_if_lt (tgt := 341) hx hb dL_law_334 (by decide) (fun c_334 => ?_) (fun c_334 => ?_)
                                                          · exact absurd c_334 hundn
                                                          · refine lv_iconst (v := nI (1)) hx hb dL_law_337 (by decide) ?_
                                                            refine lv_goto (tgt := 342) hx hb dL_law_338 (by decide) ?_
                                                            refine lv_istore_n (lv' := [(2, .int (nI (1))), (5, .int (nI (u))), (4, .int (A.F 0 0)), (0, .ref (b)), (1, .ref (fa_B G + (0))), (3, .int (sm))]) hx hb dL_law_342 rfl hl (by decide) rfl (fun ls hl => ?_)
                                                            refine lv_iload_n hx hb dL_law_343 rfl (lv_at hl 0 rfl) ?_
                                                            refine lv_if_eq (tgt := 371) hx hb dL_law_344 (by decide) (fun c_344 => ?_) (fun c_344 => ?_)
                                                            · exact absurd c_344 (by try decide)
                                                            · refine lv_iload hx hb dL_law_347 (lv_at hl 1 rfl) ?_
                                                              refine lv_bipush (v := (-6 : Int32)) hx hb dL_law_349 (by decide) ?_
                                                              refine lv_icmp_eq (tgt := 367) hx hb dL_law_351 (by decide) (fun c_351 => ?_) (fun c_351 => ?_)
                                                              · exact absurd c_351 (fc_ne6 (by omega))
                                                              · refine lv_iload hx hb dL_law_354 (lv_at hl 1 rfl) ?_
                                                                refine lv_if_le (tgt := 371) hx hb dL_law_356 (by decide) (fun c_356 => ?_) (fun c_356 => ?_)
                                                                · exact absurd c_356 (nI_nle (by omega) (by omega))
                                                                · refine lv_iload hx hb dL_law_359 (lv_at hl 1 rfl) ?_
                                                                  refine lv_sipush (v := nI (3000)) hx hb dL_law_361 (by decide) ?_
                                                                  refine lv_icmp_gt (tgt := 371) hx hb dL_law_364 (by decide) (fun c_364 => ?_) (fun c_364 => ?_)
                                                                  · exact absurd c_364 (nI_nlt hu (by decide))
                                                                  · refine lv_iconst (v := nI (1)) hx hb dL_law_367 (by decide) ?_
                                                                    refine lv_goto (tgt := 372) hx hb dL_law_368 (by decide) ?_
                                                                    exact RET _ _ _ _ _ _ _ _ _ HX50112 (by first | decide | exact Nat.le_of_ble_eq_true rfl) (by first | decide | exact Nat.le_of_ble_eq_true rfl) dL_law_372
                                  · subst e_224
                                    refine lv_istore (lv' := [(5, .int ((-6 : Int32))), (4, .int (A.F 0 0)), (2, .int (nI (1))), (0, .ref (b)), (1, .ref (fa_B G + (0))), (3, .int (sm))]) hx hb dL_law_224 hl (by decide) rfl (fun ls hl => ?_)
                                    refine lv_iload_n hx hb dL_law_226 rfl (lv_at hl 2 rfl) ?_
                                    refine lv_if_eq (tgt := 343) hx hb dL_law_227 (by decide) (fun c_227 => ?_) (fun c_227 => ?_)
                                    · exact absurd c_227 (by try decide)
                                    · refine lv_iload hx hb dL_law_230 (lv_at hl 0 rfl) ?_
                                      refine lv_if_le (tgt := 343) hx hb dL_law_232 (by decide) (fun c_232 => ?_) (fun c_232 => ?_)
                                      · refine lv_iload_n hx hb dL_law_343 rfl (lv_at hl 2 rfl) ?_
                                        refine lv_if_eq (tgt := 371) hx hb dL_law_344 (by decide) (fun c_344 => ?_) (fun c_344 => ?_)
                                        · exact absurd c_344 (by try decide)
                                        · refine lv_iload hx hb dL_law_347 (lv_at hl 0 rfl) ?_
                                          refine lv_bipush (v := (-6 : Int32)) hx hb dL_law_349 (by decide) ?_
                                          refine lv_icmp_eq (tgt := 367) hx hb dL_law_351 (by decide) (fun c_351 => ?_) (fun c_351 => ?_)
                                          · refine lv_iconst (v := nI (1)) hx hb dL_law_367 (by decide) ?_
                                            refine lv_goto (tgt := 372) hx hb dL_law_368 (by decide) ?_
                                            exact RET _ _ _ _ _ _ _ _ _ HX50051 (by first | decide | exact Nat.le_of_ble_eq_true rfl) (by first | decide | exact Nat.le_of_ble_eq_true rfl) dL_law_372
                                          · exact absurd (by try decide) c_351
                                      · exact absurd (by try decide) c_232
                                · exact absurd (hok.1.2.2.2.2.1 0 (by omega)).1 c_210
                            · have hn0 : A.n = 0 := fa_nIinj (by omega) (by decide) (by first | exact c_175 | exact Decidable.not_not.mp c_175)
                              have hmx : x50036 = FP.fconst0 := hma.trans (if_pos hn0)
                              subst hmx
                              refine lv_fconst0 hx hb dL_law_178 ?_
                              refine lv_goto (tgt := 191) hx hb dL_law_179 (by decide) ?_
                              refine lv_fcmp hx hb dL_law_191 ?_
                              refine lv_if_ne (tgt := 199) hx hb dL_law_192 (by decide) (fun c_192 => ?_) (fun c_192 => ?_)
                              · exact absurd (by decide +kernel) c_192
                              · refine lv_iconst (v := nI (1)) hx hb dL_law_195 (by decide) ?_
                                refine lv_goto (tgt := 200) hx hb dL_law_196 (by decide) ?_
                                refine lv_istore_n (lv' := [(2, .int (nI (1))), (0, .ref (b)), (1, .ref (fa_B G + (0))), (3, .int (sm)), (4, .int (nI (pl)))]) hx hb dL_law_200 rfl hl (by decide) rfl (fun ls hl => ?_)
                                refine lv_aload_n hx hb dL_law_201 rfl (lv_at hl 2 rfl) ?_
                                refine lv_iconst (v := nI (0)) hx hb dL_law_202 (by decide) ?_
                                refine fa_callVip (As := [.int (nI (0))]) (rest := []) CX HX50040 (g_fileAt l G 397 hn v50030 r50022 hC_v50030 (nI (0))) ln_L_19 (by omega) rfl rfl rfl rfl (Nat.le_of_ble_eq_true rfl) hl.1 ⟨Nat.le_of_ble_eq_true rfl, Nat.le_of_ble_eq_true rfl⟩ ⟨Nat.le_of_ble_eq_true rfl, Nat.le_of_ble_eq_true rfl⟩ dL_law_203 (fun x50114 H locs h50113 HX50115 => ?_)
                                have h_fileAt := h50113
                                have e_203 : x50114 = (-6 : Int32) := ((h_fileAt A hV_153.1 hV_153.2.2.1).trans (fc_fat0 (p := 0) (by omega) (by decide)))
                                subst e_203
                                refine lv_istore (lv' := [(4, .int ((-6 : Int32))), (2, .int (nI (1))), (0, .ref (b)), (1, .ref (fa_B G + (0))), (3, .int (sm))]) hx hb dL_law_206 hl (by decide) rfl (fun ls hl => ?_)
                                refine lv_iload hx hb dL_law_208 (lv_at hl 0 rfl) ?_
                                refine lv_if_ge (tgt := 218) hx hb dL_law_210 (by decide) (fun c_210 => ?_) (fun c_210 => ?_)
                                · exact absurd c_210 (by try decide)
                                · refine lv_bipush (v := (-6 : Int32)) hx hb dL_law_213 (by decide) ?_
                                  refine lv_goto (tgt := 224) hx hb dL_law_215 (by decide) ?_
                                  refine lv_istore (lv' := [(5, .int ((-6 : Int32))), (4, .int ((-6 : Int32))), (2, .int (nI (1))), (0, .ref (b)), (1, .ref (fa_B G + (0))), (3, .int (sm))]) hx hb dL_law_224 hl (by decide) rfl (fun ls hl => ?_)
                                  refine lv_iload_n hx hb dL_law_226 rfl (lv_at hl 2 rfl) ?_
                                  refine lv_if_eq (tgt := 343) hx hb dL_law_227 (by decide) (fun c_227 => ?_) (fun c_227 => ?_)
                                  · exact absurd c_227 (by try decide)
                                  · refine lv_iload hx hb dL_law_230 (lv_at hl 0 rfl) ?_
                                    refine lv_if_le (tgt := 343) hx hb dL_law_232 (by decide) (fun c_232 => ?_) (fun c_232 => ?_)
                                    · refine lv_iload_n hx hb dL_law_343 rfl (lv_at hl 2 rfl) ?_
                                      refine lv_if_eq (tgt := 371) hx hb dL_law_344 (by decide) (fun c_344 => ?_) (fun c_344 => ?_)
                                      · exact absurd c_344 (by try decide)
                                      · refine lv_iload hx hb dL_law_347 (lv_at hl 0 rfl) ?_
                                        refine lv_bipush (v := (-6 : Int32)) hx hb dL_law_349 (by decide) ?_
                                        refine lv_icmp_eq (tgt := 367) hx hb dL_law_351 (by decide) (fun c_351 => ?_) (fun c_351 => ?_)
                                        · refine lv_iconst (v := nI (1)) hx hb dL_law_367 (by decide) ?_
                                          refine lv_goto (tgt := 372) hx hb dL_law_368 (by decide) ?_
                                          exact RET _ _ _ _ _ _ _ _ _ HX50115 (by first | decide | exact Nat.le_of_ble_eq_true rfl) (by first | decide | exact Nat.le_of_ble_eq_true rfl) dL_law_372
                                        · exact absurd (by try decide) c_351
                                    · exact absurd (by try decide) c_232
                    · have hp : pl < A.n := fa_ltN (by omega) (by omega) c_120
                      refine lv_iload_n hx hb dL_law_123 rfl (lv_at hl 3 rfl) ?_
                      refine lv_aload_n hx hb dL_law_124 rfl (lv_at hl 1 rfl) ?_
                      refine fa_callVip (As := []) (rest := [.int (sm)]) CX HX50027 (g_now l G 397 hn v50021 r50022 hi_53.2.1 ) ln_L_31 (by omega) rfl rfl rfl rfl (Nat.le_of_ble_eq_true rfl) hl.1 ⟨Nat.le_of_ble_eq_true rfl, Nat.le_of_ble_eq_true rfl⟩ ⟨Nat.le_of_ble_eq_true rfl, Nat.le_of_ble_eq_true rfl⟩ dL_law_125 (fun x50117 H locs h50116 HX50118 => ?_)
                      have h_now := h50116
                      have e_125 : x50117 = nI (dy) := ((h_now.trans hV53.2.2.1.now).trans hK53.1)
                      subst e_125
                      refine lv_aload_n hx hb dL_law_128 rfl (lv_at hl 1 rfl) ?_
                      refine lv_aload_n hx hb dL_law_129 rfl (lv_at hl 1 rfl) ?_
                      refine lv_iload hx hb dL_law_130 (lv_at hl 4 rfl) ?_
                      refine fa_callVip (As := [.int (nI (pl))]) (rest := [.ref (fa_B G + (0)), .int (nI (dy)), .int (sm)]) CX HX50118 (g_fileAt l G 397 hn v50021 r50022 hi_53.2.1 (nI (pl))) ln_L_19 (by omega) rfl rfl rfl rfl (Nat.le_of_ble_eq_true rfl) hl.1 ⟨Nat.le_of_ble_eq_true rfl, Nat.le_of_ble_eq_true rfl⟩ ⟨Nat.le_of_ble_eq_true rfl, Nat.le_of_ble_eq_true rfl⟩ dL_law_132 (fun x50120 H locs h50119 HX50121 => ?_)
                      have h_fileAt := h50119
                      have e_132 : x50120 = A.F pl 0 := ((h_fileAt A hV53.1 hV53.2.2.1).trans (fc_fat1 hp hn24))
                      subst e_132
                      refine lv_iconst (v := nI (2)) hx hb dL_law_135 (by decide) ?_
                      refine fa_callVip (As := [.int (A.F pl 0), .int (nI (2))]) (rest := [.int (nI (dy)), .int (sm)]) CX HX50121 (g_file l G 397 hn v50021 r50022 hi_53.2.1 (A.F pl 0) (nI (2))) ln_L_9 (by omega) rfl rfl rfl rfl (Nat.le_of_ble_eq_true rfl) hl.1 ⟨Nat.le_of_ble_eq_true rfl, Nat.le_of_ble_eq_true rfl⟩ ⟨Nat.le_of_ble_eq_true rfl, Nat.le_of_ble_eq_true rfl⟩ dL_law_136 (fun x50123 H locs h50122 HX50124 => ?_)
                      have h_file := h50122
                      have e_136 : x50123 = A.F pl 3 := (((h_file A hV53.1 hV53.2.2.1).trans (fc_fil1 hok hp _)).trans (fb_filP_2 (by decide)))
                      subst e_136
                      refine lv_isub hx hb dL_law_139 ?_
                      refine lv_iadd hx hb dL_law_140 ?_
                      refine lv_istore_n (lv' := [(3, .int ((sm) + ((nI (dy)) - (A.F pl 3)))), (0, .ref (b)), (1, .ref (fa_B G + (0))), (2, .int (nI (1))), (4, .int (nI (pl)))]) hx hb dL_law_141 rfl hl (by decide) rfl (fun ls hl => ?_)
                      refine lv_iinc (v := nI (pl + 1)) (lv' := [(4, .int (nI (pl + 1))), (3, .int ((sm) + ((nI (dy)) - (A.F pl 3)))), (0, .ref (b)), (1, .ref (fa_B G + (0))), (2, .int (nI (1)))]) hx hb dL_law_142 hl (k := 4) rfl (nI_add (pl) 1) (by decide) rfl (fun ls hl => ?_)
                      refine lv_goto (tgt := 113) hx hb dL_law_145 (by decide) ?_
                      refine W.widen (k := 397) (n := 3804) (by omega) (by omega) ?_
                      exact ih_113 (pl + 1) ((sm) + ((nI (dy)) - (A.F pl 3)))  _ _ _ (by omega) (⟨by omega, by rw [hi_113.2, ← hK53.1]; rfl⟩) (lv_sub hl [2, 3, 4, 1, 0] rfl) HX50124
                refine W.widen (k := 397) (n := 3804) (by omega) (by omega) ?_
                exact LOOP_113 (A.n - 0 + 1) (0) (nI (0))  _ _ _ (Nat.lt_succ_self _) (⟨Nat.zero_le _, rfl⟩) (lv_sub hl [2, 3, 4, 1, 0] rfl) HX50023
              · have hk40 : k < 40 := fa_ltN (by omega) (by omega) c_56
                refine lv_iload_n hx hb dL_law_59 rfl (lv_at hl 2 rfl) ?_
                refine lv_if_eq (tgt := 108) hx hb dL_law_60 (by decide) (fun c_60 => ?_) (fun c_60 => ?_)
                · exact absurd c_60 (by try decide)
                · refine lv_aload_n hx hb dL_law_63 rfl (lv_at hl 1 rfl) ?_
                  refine lv_aload_n hx hb dL_law_64 rfl (lv_at hl 0 rfl) ?_
                  refine lv_iload_n hx hb dL_law_65 rfl (lv_at hl 3 rfl) ?_
                  refine fc_callCell (As := [.ref b, .int (nI (k))]) (rest := [.ref (fa_B G + (0))]) CX HX50023 hX hbl hbB (l_cell l G (397) v50021 r50022 (xs := xs) hL hbB (by omega)) ln_L_89 rfl rfl (Nat.le_of_ble_eq_true rfl) hl.1 ⟨Nat.le_of_ble_eq_true rfl, Nat.le_of_ble_eq_true rfl⟩ ⟨Nat.le_of_ble_eq_true rfl, Nat.le_of_ble_eq_true rfl⟩ dL_law_66 (fun x50127 v50128 r50129 H locs h50126 HX50125 => ?_)
                  obtain ⟨ew_66, ce, hce, e_66⟩ := h50126
                  obtain ⟨ev_66, er_66⟩ := Prod.mk.inj ew_66
                  rw [ev_66, er_66] at HX50125
                  subst e_66
                  refine fa_callSi (As := [.ref (fa_B G + (0)), .int (nI (ce))]) (rest := []) CX HX50125 (l_acts l G 397 hn v50021 r50022 hi_53.2.1 _ _ _ _ _ _ hV53 hK53 (by omega) (by omega) (by omega) hI53 (ce) (by omega)) ln_L_95 rfl rfl (Nat.le_of_ble_eq_true rfl) hl.1 ⟨Nat.le_of_ble_eq_true rfl, Nat.le_of_ble_eq_true rfl⟩ ⟨Nat.le_of_ble_eq_true rfl, Nat.le_of_ble_eq_true rfl⟩ dL_law_69 (fun x50131 v50132 r50133 H locs h50130 HX50134 => ?_)
                  dsimp only at h50130
                  have hC_v50132 := h50130.2.1
                  have h_acts := h50130.1
                  obtain ⟨e_69, A2, H2, dy2, cm2, bu2, hV_69, hK_69, hb_69, hI_69⟩ := h_acts
                  subst e_69
                  refine lv_if_eq (tgt := 100) hx hb dL_law_72 (by decide) (fun c_72 => ?_) (fun c_72 => ?_)
                  · exact absurd c_72 (by try decide)
                  · refine lv_iload_n hx hb dL_law_75 rfl (lv_at hl 3 rfl) ?_
                    refine lv_bipush (v := nI (10)) hx hb dL_law_76 (by decide) ?_
                    refine lv_irem hx hb dL_law_78 (by decide) ?_
                    rw [show (nI (k)) - (nI (k)) / (nI (10)) * (nI (10)) = nI (k % 10) from pk_rem (by omega) (by decide) (by omega)]
                    refine lv_if_gt (tgt := 96) hx hb dL_law_79 (by decide) (fun c_79 => ?_) (fun c_79 => ?_)
                    · refine lv_iconst (v := nI (1)) hx hb dL_law_96 (by decide) ?_
                      refine lv_goto (tgt := 101) hx hb dL_law_97 (by decide) ?_
                      refine lv_istore_n (lv' := [(2, .int (nI (1))), (0, .ref (b)), (1, .ref (fa_B G + (0))), (3, .int (nI (k)))]) hx hb dL_law_101 rfl hl (by decide) rfl (fun ls hl => ?_)
                      refine lv_iinc (v := nI (k + 1)) (lv' := [(3, .int (nI (k + 1))), (2, .int (nI (1))), (0, .ref (b)), (1, .ref (fa_B G + (0)))]) hx hb dL_law_102 hl (k := 3) rfl (nI_add (k) 1) (by decide) rfl (fun ls hl => ?_)
                      refine lv_goto (tgt := 53) hx hb dL_law_105 (by decide) ?_
                      refine W.widen (k := 397) (n := 3804) (by omega) (by omega) ?_
                      exact ih_53 (k + 1) v50132 r50133 _ _ _ (by omega) (⟨by omega, hC_v50132, A2, _, _, _, _, hV_69, hK_69, by omega, by omega, hI_69⟩) (lv_sub hl [2, 3, 1, 0] rfl) HX50134
                    · refine lv_aload_n hx hb dL_law_82 rfl (lv_at hl 1 rfl) ?_
                      refine fa_callSiu (As := [.ref (fa_B G + (0))]) (rest := []) CX HX50134 (l_areFiles l G 397 hn v50132 r50133 hC_v50132 _ _ _ _ _ _ hV_69 hK_69 (by omega) (by omega) (by omega)) ln_L_99 rfl rfl (Nat.le_of_ble_eq_true rfl) hl.1 ⟨Nat.le_of_ble_eq_true rfl, Nat.le_of_ble_eq_true rfl⟩ ⟨Nat.le_of_ble_eq_true rfl, Nat.le_of_ble_eq_true rfl⟩ dL_law_83 (fun x50136 v50137 H locs h50135 HX50138 => ?_)
                      have h_areFiles := h50135.1
                      have hC_v50137 := h_areFiles.2.1
                      have hV_83 := hV_69.rsn h_areFiles.2.2 h50135.2
                      have e_83 : x50136 = nI (1) := h_areFiles.1
                      subst e_83
                      refine lv_if_eq (tgt := 100) hx hb dL_law_86 (by decide) (fun c_86 => ?_) (fun c_86 => ?_)
                      · exact absurd c_86 (by try decide)
                      · refine lv_aload_n hx hb dL_law_89 rfl (lv_at hl 1 rfl) ?_
                        refine fa_callSip (As := [.ref (fa_B G + (0))]) (rest := []) CX HX50138 (l_areLists l G 397 hn v50137 r50133 hC_v50137 _ _ _ _ _ _ hV_83 hK_69 (by omega) (by omega) (by omega)) ln_L_103 rfl rfl (Nat.le_of_ble_eq_true rfl) hl.1 ⟨Nat.le_of_ble_eq_true rfl, Nat.le_of_ble_eq_true rfl⟩ ⟨Nat.le_of_ble_eq_true rfl, Nat.le_of_ble_eq_true rfl⟩ dL_law_90 (fun x50140 H locs h50139 HX50141 => ?_)
                        have h_areLists := h50139
                        have e_90 : x50140 = nI (1) := h_areLists
                        subst e_90
                        refine lv_if_eq (tgt := 100) hx hb dL_law_93 (by decide) (fun c_93 => ?_) (fun c_93 => ?_)
                        · exact absurd c_93 (by try decide)
                        · refine lv_iconst (v := nI (1)) hx hb dL_law_96 (by decide) ?_
                          refine lv_goto (tgt := 101) hx hb dL_law_97 (by decide) ?_
                          refine lv_istore_n (lv' := [(2, .int (nI (1))), (0, .ref (b)), (1, .ref (fa_B G + (0))), (3, .int (nI (k)))]) hx hb dL_law_101 rfl hl (by decide) rfl (fun ls hl => ?_)
                          refine lv_iinc (v := nI (k + 1)) (lv' := [(3, .int (nI (k + 1))), (2, .int (nI (1))), (0, .ref (b)), (1, .ref (fa_B G + (0)))]) hx hb dL_law_102 hl (k := 3) rfl (nI_add (k) 1) (by decide) rfl (fun ls hl => ?_)
                          refine lv_goto (tgt := 53) hx hb dL_law_105 (by decide) ?_
                          refine W.widen (k := 397) (n := 3804) (by omega) (by omega) ?_
                          exact ih_53 (k + 1) v50137 r50133 _ _ _ (by omega) (⟨by omega, hC_v50137, A2, _, _, _, _, hV_83, hK_69, by omega, by omega, hI_69⟩) (lv_sub hl [2, 3, 1, 0] rfl) HX50141
          refine W.widen (k := 397) (n := 3804) (by omega) (by omega) ?_
          exact LOOP_53 (40 - 0 + 1) (0) v50018 r50019 _ _ _ (Nat.lt_succ_self _) (⟨Nat.zero_le _, hC_v50018, _, _, 0, 0, 0, hV_37, hK_0, Nat.le_refl _, Nat.le_refl _, hI_37⟩) (lv_sub hl [3, 2, 1, 0] rfl) HX50020
set_option maxHeartbeats 4000000 in
theorem lw_walk (l : Launch) (hflags : l.flags = flags0) (b : Addr) (xs : List Int32) : MetFree l x (headSpec (Jvm.Cond.code x code maxLocals ret :: tables_1) room_1) (lw_P b xs) (fun _ _ _ _ _ => True) lw_Q := by
  refine MetFree.of_bodyS (code := code) (maxLocals := maxLocals) (ret := ret) (by decide) ?_ ?_
  · intro args s m h hn
    obtain ⟨meth, c, h1, h2, h3, h4, h5, h6, -, -⟩ := Cond.code_spec hn (atoms_spec (ws := Jvm.Cond.code x code maxLocals ret :: tables_1) h _ List.mem_cons_self)
    exact ⟨meth, c, h1, h2, h3, h4, h5, h6⟩
  · intro p e s m args below meth c s₁ B hml0 hP _
    obtain ⟨rfl, hx, hbd, hgv⟩ := hP
    obtain ⟨scr, harrAt, hlist, hof, hsmall⟩ := hx
    obtain ⟨hcb, hkn, -, -⟩ := State.arrayAt?_spec harrAt
    have hown : s.vm.findClass R_law = some m.cls := findClass_of_methodNamed B.named
    have hts0 : ∀ c ∈ (Jvm.Cond.code x code maxLocals ret :: tables_1), c.before #[Value.ref b] s = true := atoms_spec (ws := Jvm.Cond.code x code maxLocals ret :: tables_1) B.pre
    have hts : ∀ w ∈ lw_tbl, w.before #[Value.ref b] s = true := k2_hts_sels lw_privs (fun w hw => hts0 w (List.mem_cons_of_mem _ hw)) lw_privs_ok
    have hml : c.maxLocals = 6 := B.maxLocals_eq (hts0 _ List.mem_cons_self)
    have X₀ : Stand p l e room_1 s m #[Value.ref b] below meth c s₁ [] 0 0 := Stand.of_body B
    have hh0 : s₁.heap = s.heap := by rw [B.state]; rfl
    have hsz : scr.slots.size = xs.length := by rw [← Array.length_toList, hlist, List.length_map]
    have hval : ∀ j : Nat, j < xs.length → scr.slots[j]? = some (.int (xs.getD j 0)) := fun j hj => by
      rw [← Array.getElem?_toList, hlist]
      simp [hj]
    have hbl : b < s.heap.size := (Array.getElem?_eq_some_iff.mp hcb).1
    have hX : va_X b xs.length (fun j => xs.getD j 0) s s.heap := ⟨scr, hcb, hof, hkn, hsz, hval⟩
    have K : W p l e room_1 s m #[Value.ref b] below meth c s₁.heap [] 0 0 (lw_Z below #[Value.ref b] s) (entryFrame m ([Value.ref b] : List Value).toArray 6) := by
      rw [hh0]
      exact whole_start l hflags hbd ⟨B.exec, B.bytes, B.returns, hml, hown, hts, hX, hbl, B.notSynchronized, hgv⟩
    obtain ⟨t, a1, o, b1, b2, b3⟩ := K s₁ rfl X₀
    exact ⟨t, o, a1, b1, b2, b3⟩
theorem lw_pre_spec {args : Array Value} {s : State} (h : (Jvm.Cond.and given_1 narrow_1).before args s = true) (hr : rest_1_c.before args s = true) : ∃ (b : Addr) (xs : List Int32), lw_P b xs args s := by
  have hs := flat_of_before _ h
  have hq := flat_of_before _ hr
  have hc : (Cond.count 1).before args s = true := hs _ (by decide +kernel)
  have harr : (Cond.arrayOf (.arg 0) .int).before args s = true := hs _ (by decide +kernel)
  have hle : (Cond.le (.length (.arg 0)) (.int 260)).before args s = true := hs _ (by decide +kernel)
  have hlen : (Cond.isInt (.length (.arg 0))).before args s = true := hq _ (by decide +kernel)
  have hall : (Cond.all (.arg 0) (.isInt (.elem (.arg 0) (.index 0)))).before args s = true := hq _ (by decide +kernel)
  obtain ⟨b, xs, hb, hx⟩ := State.ints_of_pre rfl harr hlen hall
  have hsm : xs.length < 2 ^ 31 := hx.choose_spec.2.2.2
  have hev : (Term.length (.arg 0)).eval args s none [] s = some (.int xs.length.toInt32) := hx.length_eval hb
  have hv := Cond.le_ints hev (show (Term.int 260).eval args s none [] s = some (.int 260) from rfl)
  have hd : xs.length.toInt32 ≤ 260 := by
    simpa [Cond.before, Cond.holds, hv] using hle
  have hN : xs.length ≤ 260 := (Int32.ofNat_le_ofNat hsm (by decide)).mp (show Int32.ofNat xs.length ≤ Int32.ofNat 260 from hd)
  exact ⟨b, xs, Cond.one_arg hc (show args[0]? = some (.ref b) from hb), hx, hN, h⟩
theorem lw_comes (l : Launch) (hflags : l.flags = flags0) : Comes l x (Jvm.Cond.code x code maxLocals ret :: tables_1) room_1 (fun tb e args s => Calls_1 tb e args s ∧ rest_1 tb e args s ∧ Pre_1 tb e args s)
    (fun _ _ args s o t => lw_Q args s o t) := by
  intro p e ha hc hk s m args below hf hfit hheap happ hpre
  obtain ⟨b, xs, hP⟩ := lw_pre_spec hpre.2.2 hpre.2.1
  obtain ⟨k, o, h1, h2, h3, hQ⟩ := lw_walk l hflags b xs p e ha hc hk s m args below hf ((Spec.applies_iff_loose hf).mp happ).1 hP trivial
  exact ⟨k, o, h1, h2, h3, hQ⟩
theorem lw_frame {s t : State} {o : Outcome} {args : Array Value} (h : State.butDraws s t lw_cs (fun t1 => Framed s o t1 [] 600000 7302250)) :
    State.butDraws s t [Jvm.Choice.named "NaN.bits"] (fun t1 => Framed s o t1 (fieldLocs frame_1_writes args s ++ arrayLocs frame_1_arrays args s ++ staticLocs frame_1_statics s) 600000 7302250) := h
theorem lw_limb (L : Cond) (hL : ∀ (args : Array Value) (s t : State), L.after args s (.returned (some (.int 1))) t = true) :
    ArmFor flags0 classFile x code maxLocals ret World_1 tables_1 room_1 Calls_1 rest_1 Pre_1
      (fun tb e a s o t => postC L tb e a s o t ∧ State.butDraws s t [Jvm.Choice.named "NaN.bits"] (fun t1 => Framed s o t1 (fieldLocs frame_1_writes a s ++ arrayLocs frame_1_arrays a s ++ staticLocs frame_1_statics s) 600000 7302250)) := by
  intro l hflags _ _ p e ha hc hk s m args below hf hfit hheap happ hpre
  obtain ⟨k, o, h1, h2, h3, rfl, hF⟩ := lw_comes l hflags p e ha hc hk s m args below hf hfit hheap happ hpre
  exact ⟨k, _, h1, h2, h3, hL args s _, lw_frame hF⟩
theorem i_vc : Claimed_1_1 ∧ Claimed_1_2 := ⟨lw_limb limb_1_1 (fun args s t => by simp [limb_1_1, Cond.after, Cond.holds, Cond.value]), lw_limb limb_1_2 (fun args s t => Cond.after_iff.mpr (by
  first | (rw [show limb_1_2 = Cond.eq .result (.int 1) from rfl, Cond.eq_ints (x := 1) (y := 1) rfl rfl]; simp; done) | (simp [limb_1_2, Cond.value, Term.eval]; done)))⟩

