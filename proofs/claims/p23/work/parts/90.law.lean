/-! THE CLAIM OUT OF ONE WALK OF THE LAW'S BODY. Your part is whole_start (and what it stands on); all else here is the same for every law, but numbers. -/
def R_law : String := "ForgettingArchiveLaw"
def lw_P (b : Addr) (xs : List Int32) (args : Array Value) (s : State) : Prop := args = #[.ref b] ∧ s.IntsAt b xs ∧ xs.length ≤ 2048 ∧ (Jvm.Cond.and given_1 narrow_1).before args s = true
/-- what a walk over the start with the record d0 says of its end, said of the start itself -/
theorem lw_closed {s t : State} {o : Outcome} {d0 : Drawn} {L : List Loc} {k n : Nat} (hd0 : s.drawn.sameBut d0 lw_cs) (hv : ∃ v, o = .returned v) (hW : (s.setDrawn d0).WarmedH t.vm) (hs : (s.setDrawn d0).sameButNew ({ t with vm := s.vm } : State) L k n) : State.butDraws s t lw_cs (fun t1 => Framed s o t1 L k n) := by
  have h2 : t.drawn = d0 := congrArg State.drawn hs.1
  refine ⟨⟨hv, hW, State.sameButNew.setDrawn hs s.drawn⟩, ?_, by decide⟩
  rw [h2]
  exact hd0
def lw_Q (_ : Array Value) (s : State) (o : Outcome) (t : State) : Prop := o = .returned (some (.int 1)) ∧ State.butDraws s t lw_cs (fun t1 => Framed s o t1 [] 600000 7302250)
def lw_Z (below : List Frame) (a : Array Value) (s : State) : State → Prop := fun t => ∃ o, t.status = .running ∧ Ended t below o ∧ lw_Q a s o t
/-- the law's own end, with 1 on the stack, nothing written that was there before, its room as the claim has it; d0: the record of draws at this point (at the entry s.drawn: begin with 'refine W.base ?_' and 'have hd0 := Drawn.sameBut.refl s.drawn lw_cs') -/
theorem lw_ret {p : Program} {l : Launch} {e : Env} {s : State} {m : MethodId} {below : List Frame} {meth : Method} {c : Code} {b : Nat} {d0 : Drawn} (hd0 : s.drawn.sameBut d0 lw_cs) (hx : p.tables.exec = Jvm.exec) (hb : c.code = code) (hr : meth.sig.returnType = ret) (hlocks : meth.locks = false) {pc : Nat} {H : Heap} {ls : Array Slot} (hdg : decode code pc = .ok (.ireturn, 1)) : W p l e room_1 (s.setDrawn d0) m #[Value.ref b] below meth c H [] 600000 7302250 (lw_Z below #[Value.ref b] s) (F0 m pc ls [.int 1]) := by
  intro T hT X
  obtain ⟨fs, hret, hrun, hended, hW, hframe⟩ := X.leave (v := some (.int 1)) (hlocks := hlocks) (fun h => by rw [hr] at h; cases h)
  have hmeth' : T.vm.method? m = some meth := X.method'
  refine ⟨T.setFrames fs, ?_, .returned (some (.int 1)), hrun, hended, rfl, lw_closed hd0 ⟨_, rfl⟩ hW hframe⟩
  jvm_step X.here [X.here.top, hx, hb, hdg, hmeth', hr, ret, narrow_b1]
  (try refine ⟨rfl, ?_⟩); (try refine ⟨rfl, ?_⟩)
  first | (intro acts; rw [hret _ acts rfl rfl rfl]) | rw [hret _ _ rfl rfl rfl]
  exact Steps.refl _
/-- what holds at the law's entry: the machine, the code, the tables' words (any of lw_tbl by 'hts w (by decide +kernel)'), the script of L ints xs at the cell b, what the Statement gives of the start (any of its parts by flat_of_before) -/
def lw_At (p : Program) (s : State) (m : MethodId) (meth : Method) (c : Code) (b L : Nat) (xs : Nat → Int32) : Prop :=
  p.tables.exec = Jvm.exec ∧ c.code = code ∧ meth.sig.returnType = ret ∧ c.maxLocals = 8 ∧ s.vm.findClass R_law = some m.cls ∧ (∀ w ∈ lw_tbl, w.before #[Value.ref b] s = true) ∧ va_X b L xs s s.heap ∧ b < s.heap.size ∧ meth.locks = false ∧ (Jvm.Cond.and given_1 narrow_1).before #[Value.ref b] s = true
-- ===== YOUR PART =====
set_option maxHeartbeats 8000000 in
set_option maxRecDepth 100000 in
theorem whole_start {p : Program} {e : Env} {s : State} {m : MethodId} {below : List Frame} {meth : Method} {c : Code} (l : Launch) (hflags : l.flags = flags0) {b L : Nat} {xs : Nat → Int32} (hL : L ≤ 2048) (C0 : lw_At p s m meth c b L xs) : W p l e room_1 s m #[Value.ref b] below meth c s.heap [] 0 0 (lw_Z below #[Value.ref b] s) (entryFrame m ([Value.ref b] : List Value).toArray 8) := by
  obtain ⟨hx, hb, hr, hml, hown, hts, hX, hbl, hlocks, hgv⟩ := C0
  obtain ⟨G, hG, hE0⟩ := fa_env0 hts hgv
  have hd0 : s.drawn.sameBut s.drawn lw_cs := Drawn.sameBut.refl s.drawn lw_cs
  obtain ⟨v, hv⟩ : ∃ v : fa_V, v = fun _ _ => 0 := ⟨_, rfl⟩
  obtain ⟨r, hr0⟩ : ∃ r : fa_R, r = fun _ _ => none := ⟨_, rfl⟩
  have hz : fa_Z0 0 v r := fun q _ => ⟨fun i => by rw [hv], fun i => by rw [hr0]⟩
  have CX : fa_CX G p s m #[Value.ref b] c code 8 RL := ⟨⟨hx, hb, hml, hown, fun w hw => hts w (fa_tbl_sub w hw)⟩, hE0⟩
  have HX : fa_HX G 0 v r s s.heap [] := ⟨fun k q h => by simp [fa_w] at h, va_S.rf⟩
  have hl := lv_entry ([.ref b]) (n := 8) (Nat.le_of_ble_eq_true rfl)
  rw [lg_entry_eq]
  generalize (lg_sl ([.ref b]) ++ List.replicate (8 - (lg_sl ([.ref b])).length) Slot.unset).toArray = ls at hl ⊢
  have hl : lv_has ls 8 [(0, .ref b)] := hl
  have RET : ∀ (n : Nat) (v : fa_V) (r : fa_R) (H : Heap) (locs : List Loc) (cells slots pc : Nat) (ls : Array Slot), fa_HX G n v r s H locs → cells ≤ 600000 → slots ≤ 7302250 → decode code pc = .ok (.ireturn, 1) → W p l e room_1 s m #[Value.ref b] below meth c H locs cells slots (lw_Z below #[Value.ref b] s) (F0 m pc ls [.int 1]) := fun n v r H locs cells slots pc ls HX h1 h2 hd => va_forget (fun q hq => by have := HX.2.2.2 q hq; unfold fa_A at this; omega) (W.widen h1 h2 (lw_ret hd0 hx hb hr hlocks hd))
  refine fa_new (N := 7) CX HX mk_L_7 (by omega) rfl (fun i => by (exact (hz (0) (by omega)).1 i)) (fun i => by (exact (hz (0) (by omega)).2 i)) (by show 0 + 1 ≤ 600000; first | decide | omega) (by show 0 + 7 ≤ 7302250; first | decide | omega) dL_law_0 (fun H HX50001 => ?_)
  have HX50001 : fa_HX G (1) v r s _ _ := HX50001
  refine W.widen (k := 1) (n := 7) (by first | exact Nat.le_refl _ | omega) (by first | exact Nat.le_refl _ | omega) ?_
  refine lv_dup hx hb dL_law_3 rfl ?_
  refine fa_ctorI (rest := [.ref (fa_B G + (0))]) CX HX50001 (k_X6_init l G v r (fun q hq => hz q (by omega)) (hz 0 (by omega)).1) ln_L_9 ⟨by decide +kernel, by decide +kernel, by decide +kernel, by decide +kernel⟩ (by omega) (Nat.le_of_ble_eq_true rfl) hl.1 ⟨Nat.le_of_ble_eq_true rfl, Nat.le_of_ble_eq_true rfl⟩ ⟨by show 1 + 396 ≤ 600000; first | decide | omega, by show 7 + 3797 ≤ 7302250; first | decide | omega⟩ dL_law_4 (fun v50002 r50003 H locs h50004 HX50005 => ?_)
  dsimp only at h50004
  obtain ⟨hA, hH, hr1, hr57, hrH, hFV, hz, hzz⟩ := h50004
  have HX50005 : fa_HX G (397) v50002 r50003 s _ _ := HX50005
  refine W.widen (k := 397) (n := 3804) (by first | exact Nat.le_refl _ | omega) (by first | exact Nat.le_refl _ | omega) ?_
  refine lv_astore_n (lv' := [(1, .ref (fa_B G + (0))), (0, .ref (b))]) hx hb dL_law_7 rfl hl (by decide) rfl (fun ls hl => ?_)
  refine fa_new (N := 13) CX HX50005 mk_L_10 (by omega) rfl (fun i => by (exact (hz (397) (by omega)).1 i)) (fun i => by (exact (hz (397) (by omega)).2 i)) (by show 397 + 1 ≤ 600000; first | decide | omega) (by show 3804 + 13 ≤ 7302250; first | decide | omega) dL_law_8 (fun H HX50006 => ?_)
  have HX50006 : fa_HX G (398) v50002 r50003 s _ _ := HX50006
  refine W.widen (k := 398) (n := 3817) (by first | exact Nat.le_refl _ | omega) (by first | exact Nat.le_refl _ | omega) ?_
  refine lv_dup hx hb dL_law_11 rfl ?_
  refine fa_ctorI (rest := [.ref (fa_B G + (397))]) CX HX50006 (k_X7_init l G v50002 r50003 (fun q hq => hz q (by omega))) ln_L_12 ⟨by decide +kernel, by decide +kernel, by decide +kernel, by decide +kernel⟩ (by omega) (Nat.le_of_ble_eq_true rfl) hl.1 ⟨Nat.le_of_ble_eq_true rfl, Nat.le_of_ble_eq_true rfl⟩ ⟨by show 398 + 8 ≤ 600000; first | decide | omega, by show 3817 + 3382 ≤ 7302250; first | decide | omega⟩ dL_law_12 (fun v50007 r50008 H locs h50009 HX50010 => ?_)
  dsimp only at h50009
  obtain ⟨hM, hv7, hs7, hs0, hr7⟩ := h50009
  have hC : fa_CI v50007 r50008 := fa_CI.congr (fa_CI_start hA hH hr1.1 hr57.1 (fun i hi => (hrH i hi).1) hzz) (fun k h1 h2 => hv7 k (by omega)) (fun k hk => hr7 k (by omega))
  have hJ : fa_MJ v50007 := fa_MJ_start hs7 (fun k h1 h2 i => by rw [hv7 k h2]; exact (hz k h1).1 i)
  have hE : fa_TE v50007 := fa_TE_start (by rw [hv7 395 (by decide), hv7 397 (by decide), (hz 397 (by omega)).1 9]; exact hzz 395 (by decide) (by decide) (by decide) (by decide) (fun p hp => by omega) 1) (by rw [hv7 395 (by decide)]; exact hzz 395 (by decide) (by decide) (by decide) (by decide) (fun p hp => by omega) 1)
  have hn : 397 ≤ 406 := by decide
  have hn2 : 406 ≤ 406 := by decide
  have hV : fb_CV v50007 r50008 fb_A0 [] := fb_CV_start (fb_RS1_cong (fun q h1 h2 => hr7 q (by omega)) hr1) (fun i hi => fb_RS1_cong (fun q h1 h2 => hr7 q (by omega)) (hrH i hi)) (fun i hi => by rw [hv7 1 (by decide)]; exact hFV.2.1 i hi) (by rw [hv7 (1 + 2) (by decide)]; exact hFV.2.2.1) (by rw [hv7 (1 + 5) (by decide)]; exact hFV.2.2.2.1) (fun i hi => by rw [hv7 (1 + 7) (by decide)]; exact hFV.2.2.2.2.1 i hi) (by rw [hv7 113 (by decide)]; exact hFV.1)
  have hW : fb_MV v50007 fb_A0 [] := fb_MV_start hs7 hs0 (by rw [hv7 397 (by decide)]; exact (hz 397 (by omega)).1 10)
  have hR : fb_RE v50007 := Or.inl ⟨by rw [hv7 0 (by decide)]; exact hFV.2.2.2.2.2.2, by rw [hv7 397 (by decide)]; exact (hz 397 (by omega)).1 8⟩
  have HX50010 : fa_HX G (406) v50007 r50008 s _ _ := HX50010
  refine W.widen (k := 406) (n := 7199) (by first | exact Nat.le_refl _ | omega) (by first | exact Nat.le_refl _ | omega) ?_
  refine lv_astore_n (lv' := [(2, .ref (fa_B G + (397))), (1, .ref (fa_B G + (0))), (0, .ref (b))]) hx hb dL_law_15 rfl hl (by decide) rfl (fun ls hl => ?_)
  refine lv_iconst (v := nI (0)) hx hb dL_law_16 (by decide) ?_
  refine lv_istore_n (lv' := [(3, .int (nI (0))), (2, .ref (fa_B G + (397))), (1, .ref (fa_B G + (0))), (0, .ref (b))]) hx hb dL_law_17 rfl hl (by decide) rfl (fun ls hl => ?_)
  rcases (show L < 4 ∨ 4 ≤ L by omega) with hL4 | hL4
  · have hL4b := hL4
    refine lv_iload_n hx hb dL_law_18 rfl (lv_at hl 0 rfl) ?_
    refine lv_aload_n hx hb dL_law_19 rfl (lv_at hl 3 rfl) ?_
    refine fa_slen CX HX50010 hX hbl hG dL_law_20 ?_
    refine lv_iconst (v := nI (4)) hx hb dL_law_21 (by decide) ?_
    refine lv_isub hx hb dL_law_22 ?_
    refine lv_icmp_gt (tgt := 884) hx hb dL_law_23 (by decide) (fun c_23 => ?_) (fun c_23 => ?_)
    · refine lv_iconst (v := nI (1)) hx hb dL_law_884 (by decide) ?_
      exact RET _ _ _ _ _ _ _ _ _ HX50010 (by first | decide | exact Nat.le_of_ble_eq_true rfl) (by first | decide | exact Nat.le_of_ble_eq_true rfl) dL_law_885
    · exact absurd (pk_sneg (by decide) hL4) c_23
  · have hL4b := hL4
    have LOOP_18 : ∀ (fu : Nat) (it : Nat) (v50011 : fa_V) (r50012 : fa_R) (H : Heap) (locs : List Loc) (ls : Array Slot), 2056 - it < fu → (it ≤ 2052 ∧ fa_CI v50011 r50012 ∧ fa_RM r50012 ∧ fa_MJ v50011 ∧ fa_TE v50011 ∧ ∃ A H, fb_CV v50011 r50012 A H ∧ fb_MV v50011 A H ∧ fb_RE v50011) → lv_has ls 8 [(0, .ref (b)), (1, .ref (fa_B G + (0))), (2, .ref (fa_B G + (397))), (3, .int (nI (it)))] → fa_HX G (406) v50011 r50012 s H locs → W p l e room_1 s m #[Value.ref b] below meth c H locs (406) (7199) (lw_Z below #[Value.ref b] s) (F0 m 18 ls []) := by
      intro fu
      induction fu with
      | zero => intro it v50011 r50012 H locs ls hk; exact absurd hk (Nat.not_lt_zero _)
      | succ fu ih_18 =>
        intro it v50011 r50012 H locs ls hk_18 hi_18 hl HX50013
        obtain ⟨Ar, Hi, hV18, hW18, hR18⟩ := hi_18.2.2.2.2.2
        refine lv_iload_n hx hb dL_law_18 rfl (lv_at hl 3 rfl) ?_
        refine lv_aload_n hx hb dL_law_19 rfl (lv_at hl 0 rfl) ?_
        refine fa_slen CX HX50013 hX hbl hG dL_law_20 ?_
        refine lv_iconst (v := nI (4)) hx hb dL_law_21 (by decide) ?_
        refine fa_isubN hx hb dL_law_22 hL4 ?_
        refine lv_icmp_gt (tgt := 884) hx hb dL_law_23 (by decide) (fun c_23 => ?_) (fun c_23 => ?_)
        · refine lv_iconst (v := nI (1)) hx hb dL_law_884 (by decide) ?_
          exact RET _ _ _ _ _ _ _ _ _ HX50013 (by first | decide | exact Nat.le_of_ble_eq_true rfl) (by first | decide | exact Nat.le_of_ble_eq_true rfl) dL_law_885
        · have hit : it + 4 ≤ L := by
            have := fa_nltN (by omega) (by omega) c_23
            omega
          refine lv_aload_n hx hb dL_law_26 rfl (lv_at hl 0 rfl) ?_
          refine lv_iload_n hx hb dL_law_27 rfl (lv_at hl 3 rfl) ?_
          refine fa_scr (j := it) CX HX50013 hX hbl hG (by omega) (by omega) dL_law_28 ?_
          refine lv_bipush (v := nI (31)) hx hb dL_law_29 (by decide) ?_
          refine lv_iand hx hb dL_law_31 ?_
          by_cases c_32_0 : (xs it) &&& (nI (31)) = (0 : Int32)
          · refine lv_tableIn (off := 128) (tgt := 160) hx hb dL_law_32 (by rw [c_32_0]; decide) (by rw [c_32_0]; decide) (by rw [c_32_0]; decide) (by decide) ?_
            refine lv_aload_n hx hb dL_law_160 rfl (lv_at hl 1 rfl) ?_
            refine lv_aload_n hx hb dL_law_161 rfl (lv_at hl 0 rfl) ?_
            refine lv_iload_n hx hb dL_law_162 rfl (lv_at hl 3 rfl) ?_
            refine lv_iconst (v := nI (1)) hx hb dL_law_163 (by decide) ?_
            refine fa_iaddN hx hb dL_law_164 ?_
            refine fa_scr (j := it + 1) CX HX50013 hX hbl hG (by omega) (by omega) dL_law_165 ?_
            refine lv_aload_n hx hb dL_law_166 rfl (lv_at hl 0 rfl) ?_
            refine lv_iload_n hx hb dL_law_167 rfl (lv_at hl 3 rfl) ?_
            refine lv_iconst (v := nI (2)) hx hb dL_law_168 (by decide) ?_
            refine fa_iaddN hx hb dL_law_169 ?_
            refine fa_scr (j := it + 2) CX HX50013 hX hbl hG (by omega) (by omega) dL_law_170 ?_
            refine fa_callVi (As := [.int (xs (it + 1)), .int (xs (it + 2))]) (rest := []) CX HX50013 (g_add l G 406 hn v50011 r50012 hi_18.2.1 (xs (it + 1)) (xs (it + 2))) ln_L_13 (by omega) rfl rfl rfl rfl (Nat.le_of_ble_eq_true rfl) hl.1 ⟨Nat.le_of_ble_eq_true rfl, Nat.le_of_ble_eq_true rfl⟩ ⟨Nat.le_of_ble_eq_true rfl, Nat.le_of_ble_eq_true rfl⟩ dL_law_171 (fun x50015 v50016 r50017 H locs h50014 HX50018 => ?_)
            dsimp only at h50014
            have hC_v50016 := h50014.2.1
            have h_add := h50014.1
            have hC_174 := hC_v50016
            have hM_174 : fa_RM r50017 := fa_RM_cong (h50014.2.2.2 397 (by omega)) hi_18.2.2.1
            have hJ_174 : fa_MJ v50016 := fa_MJ_cong (fun k h1 h2 => h50014.2.2.1 k (by omega)) hi_18.2.2.2.1
            obtain ⟨hkc_174, hV_174⟩ := h_add Ar Hi hV18
            have hE_174 : fa_TE v50016 := fa_TE.cls hi_18.2.2.2.2.1 (show v50016 395 1 = v50011 395 1 from by rw [h50014.2.2.1 395 (by omega)]) (h50014.2.2.1 396 (by omega)) (by rw [h50014.2.2.1 397 (by omega)]) (h50014.2.2.1 405 (by omega))
            have hW_174 : fb_MV v50016 Ar Hi := hW18.cong (fun i _ => congrFun (h50014.2.2.1 398 (by omega)) i) (congrFun (h50014.2.2.1 397 (by omega)) 10) (h50014.2.2.1 401 (by omega))
            have hR_174 : fb_RE v50016 := hR18.cong (h50014.2.2.1 0 (by omega)) (congrFun (h50014.2.2.1 397 (by omega)) 8) (h50014.2.2.1 404 (by omega))
            refine lv_pop hx hb dL_law_174 rfl ?_
            refine lv_aload_n hx hb dL_law_175 rfl (lv_at hl 2 rfl) ?_
            refine lv_aload_n hx hb dL_law_176 rfl (lv_at hl 0 rfl) ?_
            refine lv_iload_n hx hb dL_law_177 rfl (lv_at hl 3 rfl) ?_
            refine lv_iconst (v := nI (1)) hx hb dL_law_178 (by decide) ?_
            refine fa_iaddN hx hb dL_law_179 ?_
            refine fa_scr (j := it + 1) CX HX50018 hX hbl hG (by omega) (by omega) dL_law_180 ?_
            refine lv_aload_n hx hb dL_law_181 rfl (lv_at hl 0 rfl) ?_
            refine lv_iload_n hx hb dL_law_182 rfl (lv_at hl 3 rfl) ?_
            refine lv_iconst (v := nI (2)) hx hb dL_law_183 (by decide) ?_
            refine fa_iaddN hx hb dL_law_184 ?_
            refine fa_scr (j := it + 2) CX HX50018 hX hbl hG (by omega) (by omega) dL_law_185 ?_
            refine fa_callViu (As := [.int (xs (it + 1)), .int (xs (it + 2))]) (rest := []) CX HX50018 (r_add l G 406 hn2 v50016 r50017 hM_174 hJ_174 (xs (it + 1)) (xs (it + 2))) ln_L_17 (by omega) rfl rfl rfl rfl (Nat.le_of_ble_eq_true rfl) hl.1 ⟨Nat.le_of_ble_eq_true rfl, Nat.le_of_ble_eq_true rfl⟩ ⟨Nat.le_of_ble_eq_true rfl, Nat.le_of_ble_eq_true rfl⟩ dL_law_186 (fun x50020 v50021 H locs h50019 HX50022 => ?_)
            have hJ_v50021 := h50019.1.1
            obtain ⟨n10_v50021, hn10_v50021, g10_v50021⟩ := hJ_v50021.2.2.2.2.1
            have h_add := h50019.1.2.2.2
            have hC_189 : fa_CI v50021 r50017 := fa_CI.congr hC_174 (fun k h1 h2 => h50019.2 k (by omega)) (fun _ _ => rfl)
            obtain ⟨hkm_189, hW_189⟩ := h_add Ar Hi hW_174
            have hE_189 : fa_TE v50021 := fa_TE.cls hE_174 (by rw [h50019.2 395 (by omega)]) (h50019.2 396 (by omega)) h50019.1.2.1 (h50019.2 405 (by omega))
            have hV_189 := hV_174.cong (v1 := v50021) (fun k k1 k2 => h50019.2 k (by omega))
            have hR_189 : fb_RE v50021 := hR_174.cong (h50019.2 0 (by omega)) h50019.1.2.2.1 (h50019.2 404 (by omega))
            refine lv_pop hx hb dL_law_189 rfl ?_
            refine lv_goto (tgt := 878) hx hb dL_law_190 (by decide) ?_
            refine lv_iinc (v := nI (it + 4)) (lv' := [(3, .int (nI (it + 4))), (0, .ref (b)), (1, .ref (fa_B G + (0))), (2, .ref (fa_B G + (397)))]) hx hb dL_law_878 hl (k := 3) rfl (nI_add (it) 4) (by decide) rfl (fun ls hl => ?_)
            refine lv_goto (tgt := 18) hx hb dL_law_881 (by decide) ?_
            refine W.widen (k := 406) (n := 7199) (by omega) (by omega) ?_
            exact ih_18 (it + 4) v50021 r50017 _ _ _ (by omega) (⟨by omega, hC_189, hM_174, hJ_v50021, hE_189, ⟨_, _, hV_189, hW_189, hR_189⟩⟩) (lv_sub hl [1, 2, 3, 0] rfl) HX50022
          by_cases c_32_1 : (xs it) &&& (nI (31)) = (1 : Int32)
          · refine lv_tableIn (off := 161) (tgt := 193) hx hb dL_law_32 (by rw [c_32_1]; decide) (by rw [c_32_1]; decide) (by rw [c_32_1]; decide) (by decide) ?_
            refine lv_aload_n hx hb dL_law_193 rfl (lv_at hl 1 rfl) ?_
            refine lv_aload_n hx hb dL_law_194 rfl (lv_at hl 0 rfl) ?_
            refine lv_iload_n hx hb dL_law_195 rfl (lv_at hl 3 rfl) ?_
            refine lv_iconst (v := nI (1)) hx hb dL_law_196 (by decide) ?_
            refine fa_iaddN hx hb dL_law_197 ?_
            refine fa_scr (j := it + 1) CX HX50013 hX hbl hG (by omega) (by omega) dL_law_198 ?_
            refine fa_callVi (As := [.int (xs (it + 1))]) (rest := []) CX HX50013 (g_ask l G 406 hn v50011 r50012 hi_18.2.1 (xs (it + 1))) ln_L_18 (by omega) rfl rfl rfl rfl (Nat.le_of_ble_eq_true rfl) hl.1 ⟨Nat.le_of_ble_eq_true rfl, Nat.le_of_ble_eq_true rfl⟩ ⟨Nat.le_of_ble_eq_true rfl, Nat.le_of_ble_eq_true rfl⟩ dL_law_199 (fun x50024 v50025 r50026 H locs h50023 HX50027 => ?_)
            dsimp only at h50023
            have hC_v50025 := h50023.2.1
            have h_ask := h50023.1
            have hC_202 := hC_v50025
            have hM_202 : fa_RM r50026 := fa_RM_cong (h50023.2.2.2 397 (by omega)) hi_18.2.2.1
            have hJ_202 : fa_MJ v50025 := fa_MJ_cong (fun k h1 h2 => h50023.2.2.1 k (by omega)) hi_18.2.2.2.1
            obtain ⟨hkc_202, hV_202⟩ := h_ask Ar Hi hV18
            have hE_202 : fa_TE v50025 := fa_TE.cls hi_18.2.2.2.2.1 (show v50025 395 1 = v50011 395 1 from by rw [h50023.2.2.1 395 (by omega)]) (h50023.2.2.1 396 (by omega)) (by rw [h50023.2.2.1 397 (by omega)]) (h50023.2.2.1 405 (by omega))
            have hW_202 : fb_MV v50025 Ar Hi := hW18.cong (fun i _ => congrFun (h50023.2.2.1 398 (by omega)) i) (congrFun (h50023.2.2.1 397 (by omega)) 10) (h50023.2.2.1 401 (by omega))
            have hR_202 : fb_RE v50025 := hR18.cong (h50023.2.2.1 0 (by omega)) (congrFun (h50023.2.2.1 397 (by omega)) 8) (h50023.2.2.1 404 (by omega))
            refine lv_pop hx hb dL_law_202 rfl ?_
            refine lv_aload_n hx hb dL_law_203 rfl (lv_at hl 2 rfl) ?_
            refine lv_aload_n hx hb dL_law_204 rfl (lv_at hl 0 rfl) ?_
            refine lv_iload_n hx hb dL_law_205 rfl (lv_at hl 3 rfl) ?_
            refine lv_iconst (v := nI (1)) hx hb dL_law_206 (by decide) ?_
            refine fa_iaddN hx hb dL_law_207 ?_
            refine fa_scr (j := it + 1) CX HX50027 hX hbl hG (by omega) (by omega) dL_law_208 ?_
            refine fa_callViu (As := [.int (xs (it + 1))]) (rest := []) CX HX50027 (r_ask l G 406 hn2 v50025 r50026 hM_202 hJ_202 (xs (it + 1))) ln_L_22 (by omega) rfl rfl rfl rfl (Nat.le_of_ble_eq_true rfl) hl.1 ⟨Nat.le_of_ble_eq_true rfl, Nat.le_of_ble_eq_true rfl⟩ ⟨Nat.le_of_ble_eq_true rfl, Nat.le_of_ble_eq_true rfl⟩ dL_law_209 (fun x50029 v50030 H locs h50028 HX50031 => ?_)
            have hJ_v50030 := h50028.1.1
            obtain ⟨n10_v50030, hn10_v50030, g10_v50030⟩ := hJ_v50030.2.2.2.2.1
            have h_ask := h50028.1.2.2.2
            have hC_212 : fa_CI v50030 r50026 := fa_CI.congr hC_202 (fun k h1 h2 => h50028.2 k (by omega)) (fun _ _ => rfl)
            obtain ⟨hkm_212, hW_212⟩ := h_ask Ar Hi hW_202
            have hE_212 : fa_TE v50030 := fa_TE.cls hE_202 (by rw [h50028.2 395 (by omega)]) (h50028.2 396 (by omega)) h50028.1.2.1 (h50028.2 405 (by omega))
            have hV_212 := hV_202.cong (v1 := v50030) (fun k k1 k2 => h50028.2 k (by omega))
            have hR_212 : fb_RE v50030 := hR_202.cong (h50028.2 0 (by omega)) h50028.1.2.2.1 (h50028.2 404 (by omega))
            refine lv_pop hx hb dL_law_212 rfl ?_
            refine lv_goto (tgt := 878) hx hb dL_law_213 (by decide) ?_
            refine lv_iinc (v := nI (it + 4)) (lv' := [(3, .int (nI (it + 4))), (0, .ref (b)), (1, .ref (fa_B G + (0))), (2, .ref (fa_B G + (397)))]) hx hb dL_law_878 hl (k := 3) rfl (nI_add (it) 4) (by decide) rfl (fun ls hl => ?_)
            refine lv_goto (tgt := 18) hx hb dL_law_881 (by decide) ?_
            refine W.widen (k := 406) (n := 7199) (by omega) (by omega) ?_
            exact ih_18 (it + 4) v50030 r50026 _ _ _ (by omega) (⟨by omega, hC_212, hM_202, hJ_v50030, hE_212, ⟨_, _, hV_212, hW_212, hR_212⟩⟩) (lv_sub hl [1, 2, 3, 0] rfl) HX50031
          by_cases c_32_2 : (xs it) &&& (nI (31)) = (2 : Int32)
          · refine lv_tableIn (off := 184) (tgt := 216) hx hb dL_law_32 (by rw [c_32_2]; decide) (by rw [c_32_2]; decide) (by rw [c_32_2]; decide) (by decide) ?_
            refine lv_aload_n hx hb dL_law_216 rfl (lv_at hl 1 rfl) ?_
            refine lv_aload_n hx hb dL_law_217 rfl (lv_at hl 0 rfl) ?_
            refine lv_iload_n hx hb dL_law_218 rfl (lv_at hl 3 rfl) ?_
            refine lv_iconst (v := nI (1)) hx hb dL_law_219 (by decide) ?_
            refine fa_iaddN hx hb dL_law_220 ?_
            refine fa_scr (j := it + 1) CX HX50013 hX hbl hG (by omega) (by omega) dL_law_221 ?_
            refine lv_aload_n hx hb dL_law_222 rfl (lv_at hl 0 rfl) ?_
            refine lv_iload_n hx hb dL_law_223 rfl (lv_at hl 3 rfl) ?_
            refine lv_iconst (v := nI (2)) hx hb dL_law_224 (by decide) ?_
            refine fa_iaddN hx hb dL_law_225 ?_
            refine fa_scr (j := it + 2) CX HX50013 hX hbl hG (by omega) (by omega) dL_law_226 ?_
            refine lv_aload_n hx hb dL_law_227 rfl (lv_at hl 0 rfl) ?_
            refine lv_iload_n hx hb dL_law_228 rfl (lv_at hl 3 rfl) ?_
            refine lv_iconst (v := nI (3)) hx hb dL_law_229 (by decide) ?_
            refine fa_iaddN hx hb dL_law_230 ?_
            refine fa_scr (j := it + 3) CX HX50013 hX hbl hG (by omega) (by omega) dL_law_231 ?_
            refine fa_callVi (As := [.int (xs (it + 1)), .int (xs (it + 2)), .int (xs (it + 3))]) (rest := []) CX HX50013 (g_seal l G 406 hn v50011 r50012 hi_18.2.1 (xs (it + 1)) (xs (it + 2)) (xs (it + 3))) ln_L_23 (by omega) rfl rfl rfl rfl (Nat.le_of_ble_eq_true rfl) hl.1 ⟨Nat.le_of_ble_eq_true rfl, Nat.le_of_ble_eq_true rfl⟩ ⟨Nat.le_of_ble_eq_true rfl, Nat.le_of_ble_eq_true rfl⟩ dL_law_232 (fun x50033 v50034 r50035 H locs h50032 HX50036 => ?_)
            dsimp only at h50032
            have hC_v50034 := h50032.2.1
            have h_seal := h50032.1
            have hC_235 := hC_v50034
            have hM_235 : fa_RM r50035 := fa_RM_cong (h50032.2.2.2 397 (by omega)) hi_18.2.2.1
            have hJ_235 : fa_MJ v50034 := fa_MJ_cong (fun k h1 h2 => h50032.2.2.1 k (by omega)) hi_18.2.2.2.1
            obtain ⟨hkc_235, hV_235⟩ := h_seal Ar Hi hV18
            have hE_235 : fa_TE v50034 := fa_TE.cls hi_18.2.2.2.2.1 (show v50034 395 1 = v50011 395 1 from by rw [h50032.2.2.1 395 (by omega)]) (h50032.2.2.1 396 (by omega)) (by rw [h50032.2.2.1 397 (by omega)]) (h50032.2.2.1 405 (by omega))
            have hW_235 : fb_MV v50034 Ar Hi := hW18.cong (fun i _ => congrFun (h50032.2.2.1 398 (by omega)) i) (congrFun (h50032.2.2.1 397 (by omega)) 10) (h50032.2.2.1 401 (by omega))
            have hR_235 : fb_RE v50034 := hR18.cong (h50032.2.2.1 0 (by omega)) (congrFun (h50032.2.2.1 397 (by omega)) 8) (h50032.2.2.1 404 (by omega))
            refine lv_pop hx hb dL_law_235 rfl ?_
            refine lv_aload_n hx hb dL_law_236 rfl (lv_at hl 2 rfl) ?_
            refine lv_aload_n hx hb dL_law_237 rfl (lv_at hl 0 rfl) ?_
            refine lv_iload_n hx hb dL_law_238 rfl (lv_at hl 3 rfl) ?_
            refine lv_iconst (v := nI (1)) hx hb dL_law_239 (by decide) ?_
            refine fa_iaddN hx hb dL_law_240 ?_
            refine fa_scr (j := it + 1) CX HX50036 hX hbl hG (by omega) (by omega) dL_law_241 ?_
            refine lv_aload_n hx hb dL_law_242 rfl (lv_at hl 0 rfl) ?_
            refine lv_iload_n hx hb dL_law_243 rfl (lv_at hl 3 rfl) ?_
            refine lv_iconst (v := nI (2)) hx hb dL_law_244 (by decide) ?_
            refine fa_iaddN hx hb dL_law_245 ?_
            refine fa_scr (j := it + 2) CX HX50036 hX hbl hG (by omega) (by omega) dL_law_246 ?_
            refine lv_aload_n hx hb dL_law_247 rfl (lv_at hl 0 rfl) ?_
            refine lv_iload_n hx hb dL_law_248 rfl (lv_at hl 3 rfl) ?_
            refine lv_iconst (v := nI (3)) hx hb dL_law_249 (by decide) ?_
            refine fa_iaddN hx hb dL_law_250 ?_
            refine fa_scr (j := it + 3) CX HX50036 hX hbl hG (by omega) (by omega) dL_law_251 ?_
            refine fa_callViu (As := [.int (xs (it + 1)), .int (xs (it + 2)), .int (xs (it + 3))]) (rest := []) CX HX50036 (r_seal l G 406 hn2 v50034 r50035 hM_235 hJ_235 (xs (it + 1)) (xs (it + 2)) (xs (it + 3))) ln_L_27 (by omega) rfl rfl rfl rfl (Nat.le_of_ble_eq_true rfl) hl.1 ⟨Nat.le_of_ble_eq_true rfl, Nat.le_of_ble_eq_true rfl⟩ ⟨Nat.le_of_ble_eq_true rfl, Nat.le_of_ble_eq_true rfl⟩ dL_law_252 (fun x50038 v50039 H locs h50037 HX50040 => ?_)
            have hJ_v50039 := h50037.1.1
            obtain ⟨n10_v50039, hn10_v50039, g10_v50039⟩ := hJ_v50039.2.2.2.2.1
            have h_seal := h50037.1.2.2.2
            have hC_255 : fa_CI v50039 r50035 := fa_CI.congr hC_235 (fun k h1 h2 => h50037.2 k (by omega)) (fun _ _ => rfl)
            obtain ⟨hkm_255, hW_255⟩ := h_seal Ar Hi hW_235
            have hE_255 : fa_TE v50039 := fa_TE.cls hE_235 (by rw [h50037.2 395 (by omega)]) (h50037.2 396 (by omega)) h50037.1.2.1 (h50037.2 405 (by omega))
            have hV_255 := hV_235.cong (v1 := v50039) (fun k k1 k2 => h50037.2 k (by omega))
            have hR_255 : fb_RE v50039 := hR_235.cong (h50037.2 0 (by omega)) h50037.1.2.2.1 (h50037.2 404 (by omega))
            refine lv_pop hx hb dL_law_255 rfl ?_
            refine lv_goto (tgt := 878) hx hb dL_law_256 (by decide) ?_
            refine lv_iinc (v := nI (it + 4)) (lv' := [(3, .int (nI (it + 4))), (0, .ref (b)), (1, .ref (fa_B G + (0))), (2, .ref (fa_B G + (397)))]) hx hb dL_law_878 hl (k := 3) rfl (nI_add (it) 4) (by decide) rfl (fun ls hl => ?_)
            refine lv_goto (tgt := 18) hx hb dL_law_881 (by decide) ?_
            refine W.widen (k := 406) (n := 7199) (by omega) (by omega) ?_
            exact ih_18 (it + 4) v50039 r50035 _ _ _ (by omega) (⟨by omega, hC_255, hM_235, hJ_v50039, hE_255, ⟨_, _, hV_255, hW_255, hR_255⟩⟩) (lv_sub hl [1, 2, 3, 0] rfl) HX50040
          by_cases c_32_3 : (xs it) &&& (nI (31)) = (3 : Int32)
          · refine lv_tableIn (off := 227) (tgt := 259) hx hb dL_law_32 (by rw [c_32_3]; decide) (by rw [c_32_3]; decide) (by rw [c_32_3]; decide) (by decide) ?_
            refine lv_aload_n hx hb dL_law_259 rfl (lv_at hl 1 rfl) ?_
            refine lv_aload_n hx hb dL_law_260 rfl (lv_at hl 0 rfl) ?_
            refine lv_iload_n hx hb dL_law_261 rfl (lv_at hl 3 rfl) ?_
            refine lv_iconst (v := nI (1)) hx hb dL_law_262 (by decide) ?_
            refine fa_iaddN hx hb dL_law_263 ?_
            refine fa_scr (j := it + 1) CX HX50013 hX hbl hG (by omega) (by omega) dL_law_264 ?_
            refine lv_aload_n hx hb dL_law_265 rfl (lv_at hl 0 rfl) ?_
            refine lv_iload_n hx hb dL_law_266 rfl (lv_at hl 3 rfl) ?_
            refine lv_iconst (v := nI (2)) hx hb dL_law_267 (by decide) ?_
            refine fa_iaddN hx hb dL_law_268 ?_
            refine fa_scr (j := it + 2) CX HX50013 hX hbl hG (by omega) (by omega) dL_law_269 ?_
            refine fa_callVi (As := [.int (xs (it + 1)), .int (xs (it + 2))]) (rest := []) CX HX50013 (g_lift l G 406 hn v50011 r50012 hi_18.2.1 (xs (it + 1)) (xs (it + 2))) ln_L_28 (by omega) rfl rfl rfl rfl (Nat.le_of_ble_eq_true rfl) hl.1 ⟨Nat.le_of_ble_eq_true rfl, Nat.le_of_ble_eq_true rfl⟩ ⟨Nat.le_of_ble_eq_true rfl, Nat.le_of_ble_eq_true rfl⟩ dL_law_270 (fun x50042 v50043 r50044 H locs h50041 HX50045 => ?_)
            dsimp only at h50041
            have hC_v50043 := h50041.2.1
            have h_lift := h50041.1
            have hC_273 := hC_v50043
            have hM_273 : fa_RM r50044 := fa_RM_cong (h50041.2.2.2 397 (by omega)) hi_18.2.2.1
            have hJ_273 : fa_MJ v50043 := fa_MJ_cong (fun k h1 h2 => h50041.2.2.1 k (by omega)) hi_18.2.2.2.1
            obtain ⟨hkc_273, hV_273⟩ := h_lift Ar Hi hV18
            have hE_273 : fa_TE v50043 := fa_TE.cls hi_18.2.2.2.2.1 (show v50043 395 1 = v50011 395 1 from by rw [h50041.2.2.1 395 (by omega)]) (h50041.2.2.1 396 (by omega)) (by rw [h50041.2.2.1 397 (by omega)]) (h50041.2.2.1 405 (by omega))
            have hW_273 : fb_MV v50043 Ar Hi := hW18.cong (fun i _ => congrFun (h50041.2.2.1 398 (by omega)) i) (congrFun (h50041.2.2.1 397 (by omega)) 10) (h50041.2.2.1 401 (by omega))
            have hR_273 : fb_RE v50043 := hR18.cong (h50041.2.2.1 0 (by omega)) (congrFun (h50041.2.2.1 397 (by omega)) 8) (h50041.2.2.1 404 (by omega))
            refine lv_pop hx hb dL_law_273 rfl ?_
            refine lv_aload_n hx hb dL_law_274 rfl (lv_at hl 2 rfl) ?_
            refine lv_aload_n hx hb dL_law_275 rfl (lv_at hl 0 rfl) ?_
            refine lv_iload_n hx hb dL_law_276 rfl (lv_at hl 3 rfl) ?_
            refine lv_iconst (v := nI (1)) hx hb dL_law_277 (by decide) ?_
            refine fa_iaddN hx hb dL_law_278 ?_
            refine fa_scr (j := it + 1) CX HX50045 hX hbl hG (by omega) (by omega) dL_law_279 ?_
            refine lv_aload_n hx hb dL_law_280 rfl (lv_at hl 0 rfl) ?_
            refine lv_iload_n hx hb dL_law_281 rfl (lv_at hl 3 rfl) ?_
            refine lv_iconst (v := nI (2)) hx hb dL_law_282 (by decide) ?_
            refine fa_iaddN hx hb dL_law_283 ?_
            refine fa_scr (j := it + 2) CX HX50045 hX hbl hG (by omega) (by omega) dL_law_284 ?_
            refine fa_callViu (As := [.int (xs (it + 1)), .int (xs (it + 2))]) (rest := []) CX HX50045 (r_lift l G 406 hn2 v50043 r50044 hM_273 hJ_273 (xs (it + 1)) (xs (it + 2))) ln_L_31 (by omega) rfl rfl rfl rfl (Nat.le_of_ble_eq_true rfl) hl.1 ⟨Nat.le_of_ble_eq_true rfl, Nat.le_of_ble_eq_true rfl⟩ ⟨Nat.le_of_ble_eq_true rfl, Nat.le_of_ble_eq_true rfl⟩ dL_law_285 (fun x50047 v50048 H locs h50046 HX50049 => ?_)
            have hJ_v50048 := h50046.1.1
            obtain ⟨n10_v50048, hn10_v50048, g10_v50048⟩ := hJ_v50048.2.2.2.2.1
            have h_lift := h50046.1.2.2.2
            have hC_288 : fa_CI v50048 r50044 := fa_CI.congr hC_273 (fun k h1 h2 => h50046.2 k (by omega)) (fun _ _ => rfl)
            obtain ⟨hkm_288, hW_288⟩ := h_lift Ar Hi hW_273
            have hE_288 : fa_TE v50048 := fa_TE.cls hE_273 (by rw [h50046.2 395 (by omega)]) (h50046.2 396 (by omega)) h50046.1.2.1 (h50046.2 405 (by omega))
            have hV_288 := hV_273.cong (v1 := v50048) (fun k k1 k2 => h50046.2 k (by omega))
            have hR_288 : fb_RE v50048 := hR_273.cong (h50046.2 0 (by omega)) h50046.1.2.2.1 (h50046.2 404 (by omega))
            refine lv_pop hx hb dL_law_288 rfl ?_
            refine lv_goto (tgt := 878) hx hb dL_law_289 (by decide) ?_
            refine lv_iinc (v := nI (it + 4)) (lv' := [(3, .int (nI (it + 4))), (0, .ref (b)), (1, .ref (fa_B G + (0))), (2, .ref (fa_B G + (397)))]) hx hb dL_law_878 hl (k := 3) rfl (nI_add (it) 4) (by decide) rfl (fun ls hl => ?_)
            refine lv_goto (tgt := 18) hx hb dL_law_881 (by decide) ?_
            refine W.widen (k := 406) (n := 7199) (by omega) (by omega) ?_
            exact ih_18 (it + 4) v50048 r50044 _ _ _ (by omega) (⟨by omega, hC_288, hM_273, hJ_v50048, hE_288, ⟨_, _, hV_288, hW_288, hR_288⟩⟩) (lv_sub hl [1, 2, 3, 0] rfl) HX50049
          by_cases c_32_4 : (xs it) &&& (nI (31)) = (4 : Int32)
          · refine lv_tableIn (off := 260) (tgt := 292) hx hb dL_law_32 (by rw [c_32_4]; decide) (by rw [c_32_4]; decide) (by rw [c_32_4]; decide) (by decide) ?_
            refine lv_aload_n hx hb dL_law_292 rfl (lv_at hl 1 rfl) ?_
            refine lv_aload_n hx hb dL_law_293 rfl (lv_at hl 0 rfl) ?_
            refine lv_iload_n hx hb dL_law_294 rfl (lv_at hl 3 rfl) ?_
            refine lv_iconst (v := nI (1)) hx hb dL_law_295 (by decide) ?_
            refine fa_iaddN hx hb dL_law_296 ?_
            refine fa_scr (j := it + 1) CX HX50013 hX hbl hG (by omega) (by omega) dL_law_297 ?_
            refine lv_aload_n hx hb dL_law_298 rfl (lv_at hl 0 rfl) ?_
            refine lv_iload_n hx hb dL_law_299 rfl (lv_at hl 3 rfl) ?_
            refine lv_iconst (v := nI (2)) hx hb dL_law_300 (by decide) ?_
            refine fa_iaddN hx hb dL_law_301 ?_
            refine fa_scr (j := it + 2) CX HX50013 hX hbl hG (by omega) (by omega) dL_law_302 ?_
            refine fa_callVi (As := [.int (xs (it + 1)), .int (xs (it + 2))]) (rest := []) CX HX50013 (g_refer l G 406 hn v50011 r50012 hi_18.2.1 (xs (it + 1)) (xs (it + 2))) ln_L_32 (by omega) rfl rfl rfl rfl (Nat.le_of_ble_eq_true rfl) hl.1 ⟨Nat.le_of_ble_eq_true rfl, Nat.le_of_ble_eq_true rfl⟩ ⟨Nat.le_of_ble_eq_true rfl, Nat.le_of_ble_eq_true rfl⟩ dL_law_303 (fun x50051 v50052 r50053 H locs h50050 HX50054 => ?_)
            dsimp only at h50050
            have hC_v50052 := h50050.2.1
            have h_refer := h50050.1
            have hC_306 := hC_v50052
            have hM_306 : fa_RM r50053 := fa_RM_cong (h50050.2.2.2 397 (by omega)) hi_18.2.2.1
            have hJ_306 : fa_MJ v50052 := fa_MJ_cong (fun k h1 h2 => h50050.2.2.1 k (by omega)) hi_18.2.2.2.1
            obtain ⟨hkc_306, hV_306⟩ := h_refer Ar Hi hV18
            have hE_306 : fa_TE v50052 := fa_TE.cls hi_18.2.2.2.2.1 (show v50052 395 1 = v50011 395 1 from by rw [h50050.2.2.1 395 (by omega)]) (h50050.2.2.1 396 (by omega)) (by rw [h50050.2.2.1 397 (by omega)]) (h50050.2.2.1 405 (by omega))
            have hW_306 : fb_MV v50052 Ar Hi := hW18.cong (fun i _ => congrFun (h50050.2.2.1 398 (by omega)) i) (congrFun (h50050.2.2.1 397 (by omega)) 10) (h50050.2.2.1 401 (by omega))
            have hR_306 : fb_RE v50052 := hR18.cong (h50050.2.2.1 0 (by omega)) (congrFun (h50050.2.2.1 397 (by omega)) 8) (h50050.2.2.1 404 (by omega))
            refine lv_pop hx hb dL_law_306 rfl ?_
            refine lv_aload_n hx hb dL_law_307 rfl (lv_at hl 2 rfl) ?_
            refine lv_aload_n hx hb dL_law_308 rfl (lv_at hl 0 rfl) ?_
            refine lv_iload_n hx hb dL_law_309 rfl (lv_at hl 3 rfl) ?_
            refine lv_iconst (v := nI (1)) hx hb dL_law_310 (by decide) ?_
            refine fa_iaddN hx hb dL_law_311 ?_
            refine fa_scr (j := it + 1) CX HX50054 hX hbl hG (by omega) (by omega) dL_law_312 ?_
            refine lv_aload_n hx hb dL_law_313 rfl (lv_at hl 0 rfl) ?_
            refine lv_iload_n hx hb dL_law_314 rfl (lv_at hl 3 rfl) ?_
            refine lv_iconst (v := nI (2)) hx hb dL_law_315 (by decide) ?_
            refine fa_iaddN hx hb dL_law_316 ?_
            refine fa_scr (j := it + 2) CX HX50054 hX hbl hG (by omega) (by omega) dL_law_317 ?_
            refine fa_callViu (As := [.int (xs (it + 1)), .int (xs (it + 2))]) (rest := []) CX HX50054 (r_refer l G 406 hn2 v50052 r50053 hM_306 hJ_306 (xs (it + 1)) (xs (it + 2))) ln_L_35 (by omega) rfl rfl rfl rfl (Nat.le_of_ble_eq_true rfl) hl.1 ⟨Nat.le_of_ble_eq_true rfl, Nat.le_of_ble_eq_true rfl⟩ ⟨Nat.le_of_ble_eq_true rfl, Nat.le_of_ble_eq_true rfl⟩ dL_law_318 (fun x50056 v50057 H locs h50055 HX50058 => ?_)
            have hJ_v50057 := h50055.1.1
            obtain ⟨n10_v50057, hn10_v50057, g10_v50057⟩ := hJ_v50057.2.2.2.2.1
            have h_refer := h50055.1.2.2.2
            have hC_321 : fa_CI v50057 r50053 := fa_CI.congr hC_306 (fun k h1 h2 => h50055.2 k (by omega)) (fun _ _ => rfl)
            obtain ⟨hkm_321, hW_321⟩ := h_refer Ar Hi hW_306
            have hE_321 : fa_TE v50057 := fa_TE.cls hE_306 (by rw [h50055.2 395 (by omega)]) (h50055.2 396 (by omega)) h50055.1.2.1 (h50055.2 405 (by omega))
            have hV_321 := hV_306.cong (v1 := v50057) (fun k k1 k2 => h50055.2 k (by omega))
            have hR_321 : fb_RE v50057 := hR_306.cong (h50055.2 0 (by omega)) h50055.1.2.2.1 (h50055.2 404 (by omega))
            refine lv_pop hx hb dL_law_321 rfl ?_
            refine lv_goto (tgt := 878) hx hb dL_law_322 (by decide) ?_
            refine lv_iinc (v := nI (it + 4)) (lv' := [(3, .int (nI (it + 4))), (0, .ref (b)), (1, .ref (fa_B G + (0))), (2, .ref (fa_B G + (397)))]) hx hb dL_law_878 hl (k := 3) rfl (nI_add (it) 4) (by decide) rfl (fun ls hl => ?_)
            refine lv_goto (tgt := 18) hx hb dL_law_881 (by decide) ?_
            refine W.widen (k := 406) (n := 7199) (by omega) (by omega) ?_
            exact ih_18 (it + 4) v50057 r50053 _ _ _ (by omega) (⟨by omega, hC_321, hM_306, hJ_v50057, hE_321, ⟨_, _, hV_321, hW_321, hR_321⟩⟩) (lv_sub hl [1, 2, 3, 0] rfl) HX50058
          by_cases c_32_5 : (xs it) &&& (nI (31)) = (5 : Int32)
          · refine lv_tableIn (off := 293) (tgt := 325) hx hb dL_law_32 (by rw [c_32_5]; decide) (by rw [c_32_5]; decide) (by rw [c_32_5]; decide) (by decide) ?_
            refine lv_aload_n hx hb dL_law_325 rfl (lv_at hl 1 rfl) ?_
            refine lv_aload_n hx hb dL_law_326 rfl (lv_at hl 0 rfl) ?_
            refine lv_iload_n hx hb dL_law_327 rfl (lv_at hl 3 rfl) ?_
            refine lv_iconst (v := nI (1)) hx hb dL_law_328 (by decide) ?_
            refine fa_iaddN hx hb dL_law_329 ?_
            refine fa_scr (j := it + 1) CX HX50013 hX hbl hG (by omega) (by omega) dL_law_330 ?_
            refine lv_aload_n hx hb dL_law_331 rfl (lv_at hl 0 rfl) ?_
            refine lv_iload_n hx hb dL_law_332 rfl (lv_at hl 3 rfl) ?_
            refine lv_iconst (v := nI (2)) hx hb dL_law_333 (by decide) ?_
            refine fa_iaddN hx hb dL_law_334 ?_
            refine fa_scr (j := it + 2) CX HX50013 hX hbl hG (by omega) (by omega) dL_law_335 ?_
            refine fa_callVi (As := [.int (xs (it + 1)), .int (xs (it + 2))]) (rest := []) CX HX50013 (g_reserve l G 406 hn v50011 r50012 hi_18.2.1 (xs (it + 1)) (xs (it + 2))) ln_L_36 (by omega) rfl rfl rfl rfl (Nat.le_of_ble_eq_true rfl) hl.1 ⟨Nat.le_of_ble_eq_true rfl, Nat.le_of_ble_eq_true rfl⟩ ⟨Nat.le_of_ble_eq_true rfl, Nat.le_of_ble_eq_true rfl⟩ dL_law_336 (fun x50060 v50061 r50062 H locs h50059 HX50063 => ?_)
            dsimp only at h50059
            have hC_v50061 := h50059.2.1
            have h_reserve := h50059.1
            have hC_339 := hC_v50061
            have hM_339 : fa_RM r50062 := fa_RM_cong (h50059.2.2.2 397 (by omega)) hi_18.2.2.1
            have hJ_339 : fa_MJ v50061 := fa_MJ_cong (fun k h1 h2 => h50059.2.2.1 k (by omega)) hi_18.2.2.2.1
            obtain ⟨hkc_339, hV_339⟩ := h_reserve Ar Hi hV18
            have hE_339 : fa_TE v50061 := fa_TE.cls hi_18.2.2.2.2.1 (show v50061 395 1 = v50011 395 1 from by rw [h50059.2.2.1 395 (by omega)]) (h50059.2.2.1 396 (by omega)) (by rw [h50059.2.2.1 397 (by omega)]) (h50059.2.2.1 405 (by omega))
            have hW_339 : fb_MV v50061 Ar Hi := hW18.cong (fun i _ => congrFun (h50059.2.2.1 398 (by omega)) i) (congrFun (h50059.2.2.1 397 (by omega)) 10) (h50059.2.2.1 401 (by omega))
            have hR_339 : fb_RE v50061 := hR18.cong (h50059.2.2.1 0 (by omega)) (congrFun (h50059.2.2.1 397 (by omega)) 8) (h50059.2.2.1 404 (by omega))
            refine lv_pop hx hb dL_law_339 rfl ?_
            refine lv_aload_n hx hb dL_law_340 rfl (lv_at hl 2 rfl) ?_
            refine lv_aload_n hx hb dL_law_341 rfl (lv_at hl 0 rfl) ?_
            refine lv_iload_n hx hb dL_law_342 rfl (lv_at hl 3 rfl) ?_
            refine lv_iconst (v := nI (1)) hx hb dL_law_343 (by decide) ?_
            refine fa_iaddN hx hb dL_law_344 ?_
            refine fa_scr (j := it + 1) CX HX50063 hX hbl hG (by omega) (by omega) dL_law_345 ?_
            refine lv_aload_n hx hb dL_law_346 rfl (lv_at hl 0 rfl) ?_
            refine lv_iload_n hx hb dL_law_347 rfl (lv_at hl 3 rfl) ?_
            refine lv_iconst (v := nI (2)) hx hb dL_law_348 (by decide) ?_
            refine fa_iaddN hx hb dL_law_349 ?_
            refine fa_scr (j := it + 2) CX HX50063 hX hbl hG (by omega) (by omega) dL_law_350 ?_
            refine fa_callViu (As := [.int (xs (it + 1)), .int (xs (it + 2))]) (rest := []) CX HX50063 (r_reserve l G 406 hn2 v50061 r50062 hM_339 hJ_339 (xs (it + 1)) (xs (it + 2))) ln_L_39 (by omega) rfl rfl rfl rfl (Nat.le_of_ble_eq_true rfl) hl.1 ⟨Nat.le_of_ble_eq_true rfl, Nat.le_of_ble_eq_true rfl⟩ ⟨Nat.le_of_ble_eq_true rfl, Nat.le_of_ble_eq_true rfl⟩ dL_law_351 (fun x50065 v50066 H locs h50064 HX50067 => ?_)
            have hJ_v50066 := h50064.1.1
            obtain ⟨n10_v50066, hn10_v50066, g10_v50066⟩ := hJ_v50066.2.2.2.2.1
            have h_reserve := h50064.1.2.2.2
            have hC_354 : fa_CI v50066 r50062 := fa_CI.congr hC_339 (fun k h1 h2 => h50064.2 k (by omega)) (fun _ _ => rfl)
            obtain ⟨hkm_354, hW_354⟩ := h_reserve Ar Hi hW_339
            have hE_354 : fa_TE v50066 := fa_TE.cls hE_339 (by rw [h50064.2 395 (by omega)]) (h50064.2 396 (by omega)) h50064.1.2.1 (h50064.2 405 (by omega))
            have hV_354 := hV_339.cong (v1 := v50066) (fun k k1 k2 => h50064.2 k (by omega))
            have hR_354 : fb_RE v50066 := hR_339.cong (h50064.2 0 (by omega)) h50064.1.2.2.1 (h50064.2 404 (by omega))
            refine lv_pop hx hb dL_law_354 rfl ?_
            refine lv_goto (tgt := 878) hx hb dL_law_355 (by decide) ?_
            refine lv_iinc (v := nI (it + 4)) (lv' := [(3, .int (nI (it + 4))), (0, .ref (b)), (1, .ref (fa_B G + (0))), (2, .ref (fa_B G + (397)))]) hx hb dL_law_878 hl (k := 3) rfl (nI_add (it) 4) (by decide) rfl (fun ls hl => ?_)
            refine lv_goto (tgt := 18) hx hb dL_law_881 (by decide) ?_
            refine W.widen (k := 406) (n := 7199) (by omega) (by omega) ?_
            exact ih_18 (it + 4) v50066 r50062 _ _ _ (by omega) (⟨by omega, hC_354, hM_339, hJ_v50066, hE_354, ⟨_, _, hV_354, hW_354, hR_354⟩⟩) (lv_sub hl [1, 2, 3, 0] rfl) HX50067
          by_cases c_32_6 : (xs it) &&& (nI (31)) = (6 : Int32)
          · refine lv_tableIn (off := 326) (tgt := 358) hx hb dL_law_32 (by rw [c_32_6]; decide) (by rw [c_32_6]; decide) (by rw [c_32_6]; decide) (by decide) ?_
            refine lv_aload_n hx hb dL_law_358 rfl (lv_at hl 1 rfl) ?_
            refine lv_aload_n hx hb dL_law_359 rfl (lv_at hl 0 rfl) ?_
            refine lv_iload_n hx hb dL_law_360 rfl (lv_at hl 3 rfl) ?_
            refine lv_iconst (v := nI (1)) hx hb dL_law_361 (by decide) ?_
            refine fa_iaddN hx hb dL_law_362 ?_
            refine fa_scr (j := it + 1) CX HX50013 hX hbl hG (by omega) (by omega) dL_law_363 ?_
            refine lv_aload_n hx hb dL_law_364 rfl (lv_at hl 0 rfl) ?_
            refine lv_iload_n hx hb dL_law_365 rfl (lv_at hl 3 rfl) ?_
            refine lv_iconst (v := nI (2)) hx hb dL_law_366 (by decide) ?_
            refine fa_iaddN hx hb dL_law_367 ?_
            refine fa_scr (j := it + 2) CX HX50013 hX hbl hG (by omega) (by omega) dL_law_368 ?_
            refine fa_callVi (As := [.int (xs (it + 1)), .int (xs (it + 2))]) (rest := []) CX HX50013 (g_cancel l G 406 hn v50011 r50012 hi_18.2.1 (xs (it + 1)) (xs (it + 2))) ln_L_40 (by omega) rfl rfl rfl rfl (Nat.le_of_ble_eq_true rfl) hl.1 ⟨Nat.le_of_ble_eq_true rfl, Nat.le_of_ble_eq_true rfl⟩ ⟨Nat.le_of_ble_eq_true rfl, Nat.le_of_ble_eq_true rfl⟩ dL_law_369 (fun x50069 v50070 r50071 H locs h50068 HX50072 => ?_)
            dsimp only at h50068
            have hC_v50070 := h50068.2.1
            have h_cancel := h50068.1
            have hC_372 := hC_v50070
            have hM_372 : fa_RM r50071 := fa_RM_cong (h50068.2.2.2 397 (by omega)) hi_18.2.2.1
            have hJ_372 : fa_MJ v50070 := fa_MJ_cong (fun k h1 h2 => h50068.2.2.1 k (by omega)) hi_18.2.2.2.1
            obtain ⟨hkc_372, hV_372⟩ := h_cancel Ar Hi hV18
            have hE_372 : fa_TE v50070 := fa_TE.cls hi_18.2.2.2.2.1 (show v50070 395 1 = v50011 395 1 from by rw [h50068.2.2.1 395 (by omega)]) (h50068.2.2.1 396 (by omega)) (by rw [h50068.2.2.1 397 (by omega)]) (h50068.2.2.1 405 (by omega))
            have hW_372 : fb_MV v50070 Ar Hi := hW18.cong (fun i _ => congrFun (h50068.2.2.1 398 (by omega)) i) (congrFun (h50068.2.2.1 397 (by omega)) 10) (h50068.2.2.1 401 (by omega))
            have hR_372 : fb_RE v50070 := hR18.cong (h50068.2.2.1 0 (by omega)) (congrFun (h50068.2.2.1 397 (by omega)) 8) (h50068.2.2.1 404 (by omega))
            refine lv_pop hx hb dL_law_372 rfl ?_
            refine lv_aload_n hx hb dL_law_373 rfl (lv_at hl 2 rfl) ?_
            refine lv_aload_n hx hb dL_law_374 rfl (lv_at hl 0 rfl) ?_
            refine lv_iload_n hx hb dL_law_375 rfl (lv_at hl 3 rfl) ?_
            refine lv_iconst (v := nI (1)) hx hb dL_law_376 (by decide) ?_
            refine fa_iaddN hx hb dL_law_377 ?_
            refine fa_scr (j := it + 1) CX HX50072 hX hbl hG (by omega) (by omega) dL_law_378 ?_
            refine lv_aload_n hx hb dL_law_379 rfl (lv_at hl 0 rfl) ?_
            refine lv_iload_n hx hb dL_law_380 rfl (lv_at hl 3 rfl) ?_
            refine lv_iconst (v := nI (2)) hx hb dL_law_381 (by decide) ?_
            refine fa_iaddN hx hb dL_law_382 ?_
            refine fa_scr (j := it + 2) CX HX50072 hX hbl hG (by omega) (by omega) dL_law_383 ?_
            refine fa_callViu (As := [.int (xs (it + 1)), .int (xs (it + 2))]) (rest := []) CX HX50072 (r_cancel l G 406 hn2 v50070 r50071 hM_372 hJ_372 (xs (it + 1)) (xs (it + 2))) ln_L_43 (by omega) rfl rfl rfl rfl (Nat.le_of_ble_eq_true rfl) hl.1 ⟨Nat.le_of_ble_eq_true rfl, Nat.le_of_ble_eq_true rfl⟩ ⟨Nat.le_of_ble_eq_true rfl, Nat.le_of_ble_eq_true rfl⟩ dL_law_384 (fun x50074 v50075 H locs h50073 HX50076 => ?_)
            have hJ_v50075 := h50073.1.1
            obtain ⟨n10_v50075, hn10_v50075, g10_v50075⟩ := hJ_v50075.2.2.2.2.1
            have h_cancel := h50073.1.2.2.2
            have hC_387 : fa_CI v50075 r50071 := fa_CI.congr hC_372 (fun k h1 h2 => h50073.2 k (by omega)) (fun _ _ => rfl)
            obtain ⟨hkm_387, hW_387⟩ := h_cancel Ar Hi hW_372
            have hE_387 : fa_TE v50075 := fa_TE.cls hE_372 (by rw [h50073.2 395 (by omega)]) (h50073.2 396 (by omega)) h50073.1.2.1 (h50073.2 405 (by omega))
            have hV_387 := hV_372.cong (v1 := v50075) (fun k k1 k2 => h50073.2 k (by omega))
            have hR_387 : fb_RE v50075 := hR_372.cong (h50073.2 0 (by omega)) h50073.1.2.2.1 (h50073.2 404 (by omega))
            refine lv_pop hx hb dL_law_387 rfl ?_
            refine lv_goto (tgt := 878) hx hb dL_law_388 (by decide) ?_
            refine lv_iinc (v := nI (it + 4)) (lv' := [(3, .int (nI (it + 4))), (0, .ref (b)), (1, .ref (fa_B G + (0))), (2, .ref (fa_B G + (397)))]) hx hb dL_law_878 hl (k := 3) rfl (nI_add (it) 4) (by decide) rfl (fun ls hl => ?_)
            refine lv_goto (tgt := 18) hx hb dL_law_881 (by decide) ?_
            refine W.widen (k := 406) (n := 7199) (by omega) (by omega) ?_
            exact ih_18 (it + 4) v50075 r50071 _ _ _ (by omega) (⟨by omega, hC_387, hM_372, hJ_v50075, hE_387, ⟨_, _, hV_387, hW_387, hR_387⟩⟩) (lv_sub hl [1, 2, 3, 0] rfl) HX50076
          by_cases c_32_7 : (xs it) &&& (nI (31)) = (7 : Int32)
          · refine lv_tableIn (off := 359) (tgt := 391) hx hb dL_law_32 (by rw [c_32_7]; decide) (by rw [c_32_7]; decide) (by rw [c_32_7]; decide) (by decide) ?_
            refine lv_aload_n hx hb dL_law_391 rfl (lv_at hl 1 rfl) ?_
            refine lv_aload_n hx hb dL_law_392 rfl (lv_at hl 0 rfl) ?_
            refine lv_iload_n hx hb dL_law_393 rfl (lv_at hl 3 rfl) ?_
            refine lv_iconst (v := nI (1)) hx hb dL_law_394 (by decide) ?_
            refine fa_iaddN hx hb dL_law_395 ?_
            refine fa_scr (j := it + 1) CX HX50013 hX hbl hG (by omega) (by omega) dL_law_396 ?_
            refine fa_callVi (As := [.int (xs (it + 1))]) (rest := []) CX HX50013 (g_pass l G 406 hn v50011 r50012 hi_18.2.1 (xs (it + 1))) ln_L_44 (by omega) rfl rfl rfl rfl (Nat.le_of_ble_eq_true rfl) hl.1 ⟨Nat.le_of_ble_eq_true rfl, Nat.le_of_ble_eq_true rfl⟩ ⟨Nat.le_of_ble_eq_true rfl, Nat.le_of_ble_eq_true rfl⟩ dL_law_397 (fun x50078 v50079 r50080 H locs h50077 HX50081 => ?_)
            dsimp only at h50077
            have hC_v50079 := h50077.2.1
            have h_pass := h50077.1
            have hC_400 := hC_v50079
            have hM_400 : fa_RM r50080 := fa_RM_cong (h50077.2.2.2 397 (by omega)) hi_18.2.2.1
            have hJ_400 : fa_MJ v50079 := fa_MJ_cong (fun k h1 h2 => h50077.2.2.1 k (by omega)) hi_18.2.2.2.1
            obtain ⟨hkc_400, hV_400⟩ := h_pass Ar Hi hV18
            have hE_400 : fa_TE v50079 := fa_TE.cls hi_18.2.2.2.2.1 (show v50079 395 1 = v50011 395 1 from by rw [h50077.2.2.1 395 (by omega)]) (h50077.2.2.1 396 (by omega)) (by rw [h50077.2.2.1 397 (by omega)]) (h50077.2.2.1 405 (by omega))
            have hW_400 : fb_MV v50079 Ar Hi := hW18.cong (fun i _ => congrFun (h50077.2.2.1 398 (by omega)) i) (congrFun (h50077.2.2.1 397 (by omega)) 10) (h50077.2.2.1 401 (by omega))
            have hR_400 : fb_RE v50079 := hR18.cong (h50077.2.2.1 0 (by omega)) (congrFun (h50077.2.2.1 397 (by omega)) 8) (h50077.2.2.1 404 (by omega))
            refine lv_pop hx hb dL_law_400 rfl ?_
            refine lv_aload_n hx hb dL_law_401 rfl (lv_at hl 2 rfl) ?_
            refine lv_aload_n hx hb dL_law_402 rfl (lv_at hl 0 rfl) ?_
            refine lv_iload_n hx hb dL_law_403 rfl (lv_at hl 3 rfl) ?_
            refine lv_iconst (v := nI (1)) hx hb dL_law_404 (by decide) ?_
            refine fa_iaddN hx hb dL_law_405 ?_
            refine fa_scr (j := it + 1) CX HX50081 hX hbl hG (by omega) (by omega) dL_law_406 ?_
            refine fa_callViu (As := [.int (xs (it + 1))]) (rest := []) CX HX50081 (r_pass l G 406 hn2 v50079 r50080 hM_400 hJ_400 (xs (it + 1))) ln_L_47 (by omega) rfl rfl rfl rfl (Nat.le_of_ble_eq_true rfl) hl.1 ⟨Nat.le_of_ble_eq_true rfl, Nat.le_of_ble_eq_true rfl⟩ ⟨Nat.le_of_ble_eq_true rfl, Nat.le_of_ble_eq_true rfl⟩ dL_law_407 (fun x50083 v50084 H locs h50082 HX50085 => ?_)
            have hJ_v50084 := h50082.1.1
            obtain ⟨n10_v50084, hn10_v50084, g10_v50084⟩ := hJ_v50084.2.2.2.2.1
            have h_pass := h50082.1.2.2.2
            have hC_410 : fa_CI v50084 r50080 := fa_CI.congr hC_400 (fun k h1 h2 => h50082.2 k (by omega)) (fun _ _ => rfl)
            obtain ⟨hkm_410, hW_410⟩ := h_pass Ar Hi hW_400
            have hE_410 : fa_TE v50084 := fa_TE.cls hE_400 (by rw [h50082.2 395 (by omega)]) (h50082.2 396 (by omega)) h50082.1.2.1 (h50082.2 405 (by omega))
            have hV_410 := hV_400.cong (v1 := v50084) (fun k k1 k2 => h50082.2 k (by omega))
            have hR_410 : fb_RE v50084 := hR_400.cong (h50082.2 0 (by omega)) h50082.1.2.2.1 (h50082.2 404 (by omega))
            refine lv_pop hx hb dL_law_410 rfl ?_
            refine lv_goto (tgt := 878) hx hb dL_law_411 (by decide) ?_
            refine lv_iinc (v := nI (it + 4)) (lv' := [(3, .int (nI (it + 4))), (0, .ref (b)), (1, .ref (fa_B G + (0))), (2, .ref (fa_B G + (397)))]) hx hb dL_law_878 hl (k := 3) rfl (nI_add (it) 4) (by decide) rfl (fun ls hl => ?_)
            refine lv_goto (tgt := 18) hx hb dL_law_881 (by decide) ?_
            refine W.widen (k := 406) (n := 7199) (by omega) (by omega) ?_
            exact ih_18 (it + 4) v50084 r50080 _ _ _ (by omega) (⟨by omega, hC_410, hM_400, hJ_v50084, hE_410, ⟨_, _, hV_410, hW_410, hR_410⟩⟩) (lv_sub hl [1, 2, 3, 0] rfl) HX50085
          by_cases c_32_8 : (xs it) &&& (nI (31)) = (8 : Int32)
          · refine lv_tableIn (off := 382) (tgt := 414) hx hb dL_law_32 (by rw [c_32_8]; decide) (by rw [c_32_8]; decide) (by rw [c_32_8]; decide) (by decide) ?_
            refine lv_aload_n hx hb dL_law_414 rfl (lv_at hl 1 rfl) ?_
            refine lv_aload_n hx hb dL_law_415 rfl (lv_at hl 0 rfl) ?_
            refine lv_iload_n hx hb dL_law_416 rfl (lv_at hl 3 rfl) ?_
            refine lv_iconst (v := nI (1)) hx hb dL_law_417 (by decide) ?_
            refine fa_iaddN hx hb dL_law_418 ?_
            refine fa_scr (j := it + 1) CX HX50013 hX hbl hG (by omega) (by omega) dL_law_419 ?_
            refine lv_aload_n hx hb dL_law_420 rfl (lv_at hl 0 rfl) ?_
            refine lv_iload_n hx hb dL_law_421 rfl (lv_at hl 3 rfl) ?_
            refine lv_iconst (v := nI (2)) hx hb dL_law_422 (by decide) ?_
            refine fa_iaddN hx hb dL_law_423 ?_
            refine fa_scr (j := it + 2) CX HX50013 hX hbl hG (by omega) (by omega) dL_law_424 ?_
            refine fa_callVi (As := [.int (xs (it + 1)), .int (xs (it + 2))]) (rest := []) CX HX50013 (g_set l G 406 hn v50011 r50012 hi_18.2.1 (xs (it + 1)) (xs (it + 2))) ln_L_48 (by omega) rfl rfl rfl rfl (Nat.le_of_ble_eq_true rfl) hl.1 ⟨Nat.le_of_ble_eq_true rfl, Nat.le_of_ble_eq_true rfl⟩ ⟨Nat.le_of_ble_eq_true rfl, Nat.le_of_ble_eq_true rfl⟩ dL_law_425 (fun x50087 v50088 r50089 H locs h50086 HX50090 => ?_)
            dsimp only at h50086
            have hC_v50088 := h50086.2.1
            have h_set := h50086.1
            have hC_428 := hC_v50088
            have hM_428 : fa_RM r50089 := fa_RM_cong (h50086.2.2.2 397 (by omega)) hi_18.2.2.1
            have hJ_428 : fa_MJ v50088 := fa_MJ_cong (fun k h1 h2 => h50086.2.2.1 k (by omega)) hi_18.2.2.2.1
            obtain ⟨hkc_428, hV_428⟩ := h_set Ar Hi hV18
            have hE_428 : fa_TE v50088 := fa_TE.cls hi_18.2.2.2.2.1 (show v50088 395 1 = v50011 395 1 from by rw [h50086.2.2.1 395 (by omega)]) (h50086.2.2.1 396 (by omega)) (by rw [h50086.2.2.1 397 (by omega)]) (h50086.2.2.1 405 (by omega))
            have hW_428 : fb_MV v50088 Ar Hi := hW18.cong (fun i _ => congrFun (h50086.2.2.1 398 (by omega)) i) (congrFun (h50086.2.2.1 397 (by omega)) 10) (h50086.2.2.1 401 (by omega))
            have hR_428 : fb_RE v50088 := hR18.cong (h50086.2.2.1 0 (by omega)) (congrFun (h50086.2.2.1 397 (by omega)) 8) (h50086.2.2.1 404 (by omega))
            refine lv_pop hx hb dL_law_428 rfl ?_
            refine lv_aload_n hx hb dL_law_429 rfl (lv_at hl 2 rfl) ?_
            refine lv_aload_n hx hb dL_law_430 rfl (lv_at hl 0 rfl) ?_
            refine lv_iload_n hx hb dL_law_431 rfl (lv_at hl 3 rfl) ?_
            refine lv_iconst (v := nI (1)) hx hb dL_law_432 (by decide) ?_
            refine fa_iaddN hx hb dL_law_433 ?_
            refine fa_scr (j := it + 1) CX HX50090 hX hbl hG (by omega) (by omega) dL_law_434 ?_
            refine lv_aload_n hx hb dL_law_435 rfl (lv_at hl 0 rfl) ?_
            refine lv_iload_n hx hb dL_law_436 rfl (lv_at hl 3 rfl) ?_
            refine lv_iconst (v := nI (2)) hx hb dL_law_437 (by decide) ?_
            refine fa_iaddN hx hb dL_law_438 ?_
            refine fa_scr (j := it + 2) CX HX50090 hX hbl hG (by omega) (by omega) dL_law_439 ?_
            refine fa_callViu (As := [.int (xs (it + 1)), .int (xs (it + 2))]) (rest := []) CX HX50090 (r_set l G 406 hn2 v50088 r50089 hM_428 hJ_428 (xs (it + 1)) (xs (it + 2))) ln_L_51 (by omega) rfl rfl rfl rfl (Nat.le_of_ble_eq_true rfl) hl.1 ⟨Nat.le_of_ble_eq_true rfl, Nat.le_of_ble_eq_true rfl⟩ ⟨Nat.le_of_ble_eq_true rfl, Nat.le_of_ble_eq_true rfl⟩ dL_law_440 (fun x50092 v50093 H locs h50091 HX50094 => ?_)
            have hJ_v50093 := h50091.1.1
            obtain ⟨n10_v50093, hn10_v50093, g10_v50093⟩ := hJ_v50093.2.2.2.2.1
            have h_set := h50091.1.2.2.2
            have hC_443 : fa_CI v50093 r50089 := fa_CI.congr hC_428 (fun k h1 h2 => h50091.2 k (by omega)) (fun _ _ => rfl)
            obtain ⟨hkm_443, hW_443⟩ := h_set Ar Hi hW_428
            have hE_443 : fa_TE v50093 := fa_TE.cls hE_428 (by rw [h50091.2 395 (by omega)]) (h50091.2 396 (by omega)) h50091.1.2.1 (h50091.2 405 (by omega))
            have hV_443 := hV_428.cong (v1 := v50093) (fun k k1 k2 => h50091.2 k (by omega))
            have hR_443 : fb_RE v50093 := hR_428.cong (h50091.2 0 (by omega)) h50091.1.2.2.1 (h50091.2 404 (by omega))
            refine lv_pop hx hb dL_law_443 rfl ?_
            refine lv_goto (tgt := 878) hx hb dL_law_444 (by decide) ?_
            refine lv_iinc (v := nI (it + 4)) (lv' := [(3, .int (nI (it + 4))), (0, .ref (b)), (1, .ref (fa_B G + (0))), (2, .ref (fa_B G + (397)))]) hx hb dL_law_878 hl (k := 3) rfl (nI_add (it) 4) (by decide) rfl (fun ls hl => ?_)
            refine lv_goto (tgt := 18) hx hb dL_law_881 (by decide) ?_
            refine W.widen (k := 406) (n := 7199) (by omega) (by omega) ?_
            exact ih_18 (it + 4) v50093 r50089 _ _ _ (by omega) (⟨by omega, hC_443, hM_428, hJ_v50093, hE_443, ⟨_, _, hV_443, hW_443, hR_443⟩⟩) (lv_sub hl [1, 2, 3, 0] rfl) HX50094
          by_cases c_32_9 : (xs it) &&& (nI (31)) = (9 : Int32)
          · refine lv_tableIn (off := 415) (tgt := 447) hx hb dL_law_32 (by rw [c_32_9]; decide) (by rw [c_32_9]; decide) (by rw [c_32_9]; decide) (by decide) ?_
            refine lv_aload_n hx hb dL_law_447 rfl (lv_at hl 1 rfl) ?_
            refine lv_aload_n hx hb dL_law_448 rfl (lv_at hl 0 rfl) ?_
            refine lv_iload_n hx hb dL_law_449 rfl (lv_at hl 3 rfl) ?_
            refine lv_iconst (v := nI (1)) hx hb dL_law_450 (by decide) ?_
            refine fa_iaddN hx hb dL_law_451 ?_
            refine fa_scr (j := it + 1) CX HX50013 hX hbl hG (by omega) (by omega) dL_law_452 ?_
            refine fa_callViu (As := [.int (xs (it + 1))]) (rest := []) CX HX50013 (g_append l G 406 hn v50011 r50012 hi_18.2.1 (xs (it + 1))) ln_L_52 (by omega) rfl rfl rfl rfl (Nat.le_of_ble_eq_true rfl) hl.1 ⟨Nat.le_of_ble_eq_true rfl, Nat.le_of_ble_eq_true rfl⟩ ⟨Nat.le_of_ble_eq_true rfl, Nat.le_of_ble_eq_true rfl⟩ dL_law_453 (fun x50096 v50097 H locs h50095 HX50098 => ?_)
            have hC_v50097 := h50095.1.2
            have h_append := h50095.1.1
            have hC_456 := hC_v50097
            have hM_456 : fa_RM r50012 := hi_18.2.2.1
            have hJ_456 : fa_MJ v50097 := fa_MJ_cong (fun k h1 h2 => h50095.2 k (by omega)) hi_18.2.2.2.1
            have hap_x := h_append
            have hV_456 := hV18.cong (v1 := v50097) (fun k k1 k2 => h50095.2 k (by omega))
            have hW_456 : fb_MV v50097 Ar Hi := hW18.cong (fun i _ => congrFun (h50095.2 398 (by omega)) i) (congrFun (h50095.2 397 (by omega)) 10) (h50095.2 401 (by omega))
            have hR_456 : fb_RE v50097 := hR18.cong (h50095.2 0 (by omega)) (congrFun (h50095.2 397 (by omega)) 8) (h50095.2 404 (by omega))
            refine lv_pop hx hb dL_law_456 rfl ?_
            refine lv_aload_n hx hb dL_law_457 rfl (lv_at hl 2 rfl) ?_
            refine lv_aload_n hx hb dL_law_458 rfl (lv_at hl 0 rfl) ?_
            refine lv_iload_n hx hb dL_law_459 rfl (lv_at hl 3 rfl) ?_
            refine lv_iconst (v := nI (1)) hx hb dL_law_460 (by decide) ?_
            refine fa_iaddN hx hb dL_law_461 ?_
            refine fa_scr (j := it + 1) CX HX50098 hX hbl hG (by omega) (by omega) dL_law_462 ?_
            refine fa_callViu (As := [.int (xs (it + 1))]) (rest := []) CX HX50098 (r_append l G 406 hn2 v50097 r50012 hM_456 hJ_456 (xs (it + 1))) ln_L_55 (by omega) rfl rfl rfl rfl (Nat.le_of_ble_eq_true rfl) hl.1 ⟨Nat.le_of_ble_eq_true rfl, Nat.le_of_ble_eq_true rfl⟩ ⟨Nat.le_of_ble_eq_true rfl, Nat.le_of_ble_eq_true rfl⟩ dL_law_463 (fun x50100 v50101 H locs h50099 HX50102 => ?_)
            have hJ_v50101 := h50099.1.1
            obtain ⟨n10_v50101, hn10_v50101, g10_v50101⟩ := hJ_v50101.2.2.2.2.1
            have h_append := h50099.1.2.2
            have hC_466 : fa_CI v50101 r50012 := fa_CI.congr hC_456 (fun k h1 h2 => h50099.2 k (by omega)) (fun _ _ => rfl)
            have hE_466 : fa_TE v50101 := fa_TE.app hi_18.2.2.2.2.1 h50095.2 h50099.2 hap_x h_append
            have hans_append := fa_app_eq hi_18.2.2.2.2.1.1 h50095.2 hap_x h_append
            have hak := fb_app_k h_append
            have hW_466 : fb_MV v50101 Ar Hi := hW_456.cong (fun i _ => congrFun hak.2.1 i) hak.2.2.2 hak.2.2.1
            have hV_466 := hV_456.cong (v1 := v50101) (fun k k1 k2 => h50099.2 k (by omega))
            have hR_466 : fb_RE v50101 := hR_456.cong (h50099.2 0 (by omega)) h50099.1.2.1 hak.1
            refine lv_pop hx hb dL_law_466 rfl ?_
            refine lv_goto (tgt := 878) hx hb dL_law_467 (by decide) ?_
            refine lv_iinc (v := nI (it + 4)) (lv' := [(3, .int (nI (it + 4))), (0, .ref (b)), (1, .ref (fa_B G + (0))), (2, .ref (fa_B G + (397)))]) hx hb dL_law_878 hl (k := 3) rfl (nI_add (it) 4) (by decide) rfl (fun ls hl => ?_)
            refine lv_goto (tgt := 18) hx hb dL_law_881 (by decide) ?_
            refine W.widen (k := 406) (n := 7199) (by omega) (by omega) ?_
            exact ih_18 (it + 4) v50101 r50012 _ _ _ (by omega) (⟨by omega, hC_466, hM_456, hJ_v50101, hE_466, ⟨_, _, hV_466, hW_466, hR_466⟩⟩) (lv_sub hl [1, 2, 3, 0] rfl) HX50102
          by_cases c_32_10 : (xs it) &&& (nI (31)) = (10 : Int32)
          · refine lv_tableIn (off := 438) (tgt := 470) hx hb dL_law_32 (by rw [c_32_10]; decide) (by rw [c_32_10]; decide) (by rw [c_32_10]; decide) (by decide) ?_
            refine lv_aload_n hx hb dL_law_470 rfl (lv_at hl 1 rfl) ?_
            refine fa_callViu (As := []) (rest := []) CX HX50013 (g_clearText l G 406 hn v50011 r50012 hi_18.2.1 ) ln_L_56 (by omega) rfl rfl rfl rfl (Nat.le_of_ble_eq_true rfl) hl.1 ⟨Nat.le_of_ble_eq_true rfl, Nat.le_of_ble_eq_true rfl⟩ ⟨Nat.le_of_ble_eq_true rfl, Nat.le_of_ble_eq_true rfl⟩ dL_law_471 (fun x50104 v50105 H locs h50103 HX50106 => ?_)
            have hC_v50105 := h50103.1.2
            have h_clearText := h50103.1.1
            have hC_474 := hC_v50105
            have hM_474 : fa_RM r50012 := hi_18.2.2.1
            have hJ_474 : fa_MJ v50105 := fa_MJ_cong (fun k h1 h2 => h50103.2 k (by omega)) hi_18.2.2.2.1
            have hcl_x := h_clearText
            have heq_x : v50011 395 1 = v50105 397 9 := by rw [show v50105 397 = v50011 397 from h50103.2 397 (by omega)]; exact hi_18.2.2.2.2.1.1
            have hV_474 := hV18.cong (v1 := v50105) (fun k k1 k2 => h50103.2 k (by omega))
            have hW_474 : fb_MV v50105 Ar Hi := hW18.cong (fun i _ => congrFun (h50103.2 398 (by omega)) i) (congrFun (h50103.2 397 (by omega)) 10) (h50103.2 401 (by omega))
            have hR_474 : fb_RE v50105 := hR18.cong (h50103.2 0 (by omega)) (congrFun (h50103.2 397 (by omega)) 8) (h50103.2 404 (by omega))
            refine lv_pop hx hb dL_law_474 rfl ?_
            refine lv_aload_n hx hb dL_law_475 rfl (lv_at hl 2 rfl) ?_
            refine fa_callViu (As := []) (rest := []) CX HX50106 (r_clearText l G 406 hn2 v50105 r50012 hM_474 hJ_474 ) ln_L_60 (by omega) rfl rfl rfl rfl (Nat.le_of_ble_eq_true rfl) hl.1 ⟨Nat.le_of_ble_eq_true rfl, Nat.le_of_ble_eq_true rfl⟩ ⟨Nat.le_of_ble_eq_true rfl, Nat.le_of_ble_eq_true rfl⟩ dL_law_476 (fun x50108 v50109 H locs h50107 HX50110 => ?_)
            have hJ_v50109 := h50107.1.1
            obtain ⟨n10_v50109, hn10_v50109, g10_v50109⟩ := hJ_v50109.2.2.2.2.1
            have h_clearText := h50107.1.2.2
            have hC_479 : fa_CI v50109 r50012 := fa_CI.congr hC_474 (fun k h1 h2 => h50107.2 k (by omega)) (fun _ _ => rfl)
            have hcl_y := h_clearText
            have hE_479 : fa_TE v50109 := fa_TE.clr hcl_x.2 hcl_y.2
            have hak := fb_clr_k hcl_y.2
            have hW_479 : fb_MV v50109 Ar Hi := hW_474.cong (fun i _ => congrFun hak.2.1 i) hak.2.2.2 hak.2.2.1
            have hV_479 := hV_474.cong (v1 := v50109) (fun k k1 k2 => h50107.2 k (by omega))
            have hR_479 : fb_RE v50109 := hR_474.cong (h50107.2 0 (by omega)) h50107.1.2.1 hak.1
            refine lv_pop hx hb dL_law_479 rfl ?_
            refine lv_goto (tgt := 878) hx hb dL_law_480 (by decide) ?_
            refine lv_iinc (v := nI (it + 4)) (lv' := [(3, .int (nI (it + 4))), (0, .ref (b)), (1, .ref (fa_B G + (0))), (2, .ref (fa_B G + (397)))]) hx hb dL_law_878 hl (k := 3) rfl (nI_add (it) 4) (by decide) rfl (fun ls hl => ?_)
            refine lv_goto (tgt := 18) hx hb dL_law_881 (by decide) ?_
            refine W.widen (k := 406) (n := 7199) (by omega) (by omega) ?_
            exact ih_18 (it + 4) v50109 r50012 _ _ _ (by omega) (⟨by omega, hC_479, hM_474, hJ_v50109, hE_479, ⟨_, _, hV_479, hW_479, hR_479⟩⟩) (lv_sub hl [1, 2, 3, 0] rfl) HX50110
          by_cases c_32_11 : (xs it) &&& (nI (31)) = (11 : Int32)
          · refine lv_tableIn (off := 451) (tgt := 483) hx hb dL_law_32 (by rw [c_32_11]; decide) (by rw [c_32_11]; decide) (by rw [c_32_11]; decide) (by decide) ?_
            refine lv_aload_n hx hb dL_law_483 rfl (lv_at hl 1 rfl) ?_
            refine fa_callViu (As := []) (rest := []) CX HX50013 (g_fault l G 406 hn v50011 r50012 hi_18.2.1 ) ln_L_61 (by omega) rfl rfl rfl rfl (Nat.le_of_ble_eq_true rfl) hl.1 ⟨Nat.le_of_ble_eq_true rfl, Nat.le_of_ble_eq_true rfl⟩ ⟨Nat.le_of_ble_eq_true rfl, Nat.le_of_ble_eq_true rfl⟩ dL_law_484 (fun x50112 v50113 H locs h50111 HX50114 => ?_)
            have hC_v50113 := h50111.1.2
            have h_fault := h50111.1.1
            have hC_487 := hC_v50113
            have hM_487 : fa_RM r50012 := hi_18.2.2.1
            have hJ_487 : fa_MJ v50113 := fa_MJ_cong (fun k h1 h2 => h50111.2 k (by omega)) hi_18.2.2.2.1
            have hflt_x := h_fault.2
            have hflt_1 := h_fault.1
            have hflt_2 := h50111.2 396 (by omega)
            have hV_487 := hV18.cong (v1 := v50113) (fun k k1 k2 => h50111.2 k (by omega))
            have hE_487 : fa_TE v50113 := fa_TE.cls hi_18.2.2.2.2.1 h_fault.1 (h50111.2 396 (by omega)) (by rw [h50111.2 397 (by omega)]) (h50111.2 405 (by omega))
            have hW_487 : fb_MV v50113 Ar Hi := hW18.cong (fun i _ => congrFun (h50111.2 398 (by omega)) i) (congrFun (h50111.2 397 (by omega)) 10) (h50111.2 401 (by omega))
            have hR_487 : fb_RE v50113 := hR18.cong (h50111.2 0 (by omega)) (congrFun (h50111.2 397 (by omega)) 8) (h50111.2 404 (by omega))
            refine lv_pop hx hb dL_law_487 rfl ?_
            refine lv_aload_n hx hb dL_law_488 rfl (lv_at hl 2 rfl) ?_
            refine fa_callViu (As := []) (rest := []) CX HX50114 (r_fault l G 406 hn2 v50113 r50012 hM_487 hJ_487 ) ln_L_64 (by omega) rfl rfl rfl rfl (Nat.le_of_ble_eq_true rfl) hl.1 ⟨Nat.le_of_ble_eq_true rfl, Nat.le_of_ble_eq_true rfl⟩ ⟨Nat.le_of_ble_eq_true rfl, Nat.le_of_ble_eq_true rfl⟩ dL_law_489 (fun x50116 v50117 H locs h50115 HX50118 => ?_)
            have hJ_v50117 := h50115.1.1
            obtain ⟨n10_v50117, hn10_v50117, g10_v50117⟩ := hJ_v50117.2.2.2.2.1
            have h_fault := h50115.1.2.2.2
            have hC_492 : fa_CI v50117 r50012 := fa_CI.congr hC_487 (fun k h1 h2 => h50115.2 k (by omega)) (fun _ _ => rfl)
            have hans_fault := fa_flt_eq hE_487 hflt_1 hflt_2 hflt_x h_fault.1
            have hW_492 := h_fault.2 Ar Hi hW_487
            have hE_492 : fa_TE v50117 := fa_TE.cls hE_487 (by rw [h50115.2 395 (by omega)]) (h50115.2 396 (by omega)) h50115.1.2.1 (h50115.2 405 (by omega))
            have hV_492 := hV_487.cong (v1 := v50117) (fun k k1 k2 => h50115.2 k (by omega))
            have hR_492 : fb_RE v50117 := hR_487.cong (h50115.2 0 (by omega)) h50115.1.2.2.1 (h50115.2 404 (by omega))
            refine lv_pop hx hb dL_law_492 rfl ?_
            refine lv_goto (tgt := 878) hx hb dL_law_493 (by decide) ?_
            refine lv_iinc (v := nI (it + 4)) (lv' := [(3, .int (nI (it + 4))), (0, .ref (b)), (1, .ref (fa_B G + (0))), (2, .ref (fa_B G + (397)))]) hx hb dL_law_878 hl (k := 3) rfl (nI_add (it) 4) (by decide) rfl (fun ls hl => ?_)
            refine lv_goto (tgt := 18) hx hb dL_law_881 (by decide) ?_
            refine W.widen (k := 406) (n := 7199) (by omega) (by omega) ?_
            exact ih_18 (it + 4) v50117 r50012 _ _ _ (by omega) (⟨by omega, hC_492, hM_487, hJ_v50117, hE_492, ⟨_, _, hV_492, hW_492, hR_492⟩⟩) (lv_sub hl [1, 2, 3, 0] rfl) HX50118
          by_cases c_32_12 : (xs it) &&& (nI (31)) = (12 : Int32)
          · refine lv_tableIn (off := 464) (tgt := 496) hx hb dL_law_32 (by rw [c_32_12]; decide) (by rw [c_32_12]; decide) (by rw [c_32_12]; decide) (by decide) ?_
            refine lv_aload_n hx hb dL_law_496 rfl (lv_at hl 1 rfl) ?_
            refine fa_callVi (As := []) (rest := []) CX HX50013 (g_run l G 406 hn v50011 r50012 hi_18.2.1 ) ln_L_65 (by omega) rfl rfl rfl rfl (Nat.le_of_ble_eq_true rfl) hl.1 ⟨Nat.le_of_ble_eq_true rfl, Nat.le_of_ble_eq_true rfl⟩ ⟨Nat.le_of_ble_eq_true rfl, Nat.le_of_ble_eq_true rfl⟩ dL_law_497 (fun x50120 v50121 r50122 H locs h50119 HX50123 => ?_)
            dsimp only at h50119
            have hC_v50121 := h50119.2.1
            have h_run := h50119.1
            have hC_500 := hC_v50121
            have hM_500 : fa_RM r50122 := fa_RM_cong (h50119.2.2.2 397 (by omega)) hi_18.2.2.1
            have hJ_500 : fa_MJ v50121 := fa_MJ_cong (fun k h1 h2 => h50119.2.2.1 k (by omega)) hi_18.2.2.2.1
            have hrun_x := h_run.2
            have hrun_1 := h_run.1
            have hE_500 : fa_TE v50121 := fa_TE.cls hi_18.2.2.2.2.1 h_run.1 (h50119.2.2.1 396 (by omega)) (by rw [h50119.2.2.1 397 (by omega)]) (h50119.2.2.1 405 (by omega))
            have hW_500 : fb_MV v50121 Ar Hi := hW18.cong (fun i _ => congrFun (h50119.2.2.1 398 (by omega)) i) (congrFun (h50119.2.2.1 397 (by omega)) 10) (h50119.2.2.1 401 (by omega))
            refine lv_pop hx hb dL_law_500 rfl ?_
            refine lv_aload_n hx hb dL_law_501 rfl (lv_at hl 2 rfl) ?_
            refine fa_callViu (As := []) (rest := []) CX HX50123 (r_run l G 406 hn2 v50121 r50122 hM_500 hJ_500 ) ln_L_68 (by omega) rfl rfl rfl rfl (Nat.le_of_ble_eq_true rfl) hl.1 ⟨Nat.le_of_ble_eq_true rfl, Nat.le_of_ble_eq_true rfl⟩ ⟨Nat.le_of_ble_eq_true rfl, Nat.le_of_ble_eq_true rfl⟩ dL_law_502 (fun x50125 v50126 H locs h50124 HX50127 => ?_)
            have hJ_v50126 := h50124.1.1
            obtain ⟨n10_v50126, hn10_v50126, g10_v50126⟩ := hJ_v50126.2.2.2.2.1
            have h_run := h50124.1.2.2
            have hC_505 : fa_CI v50126 r50122 := fa_CI.congr hC_500 (fun k h1 h2 => h50124.2 k (by omega)) (fun _ _ => rfl)
            obtain ⟨hans_run, A2, H2, hV_505, hW_505, hR_505⟩ := fb_run_both hE_500 hrun_1 (h50119.2.2.1 396 (by omega)) hV18 hW18 hR18 h50119.2.2.1 h50124.2 hrun_x h_run
            have hE_505 : fa_TE v50126 := fa_TE.cls hE_500 (by rw [h50124.2 395 (by omega)]) (h50124.2 396 (by omega)) h50124.1.2.1 (h50124.2 405 (by omega))
            refine lv_pop hx hb dL_law_505 rfl ?_
            refine lv_goto (tgt := 878) hx hb dL_law_506 (by decide) ?_
            refine lv_iinc (v := nI (it + 4)) (lv' := [(3, .int (nI (it + 4))), (0, .ref (b)), (1, .ref (fa_B G + (0))), (2, .ref (fa_B G + (397)))]) hx hb dL_law_878 hl (k := 3) rfl (nI_add (it) 4) (by decide) rfl (fun ls hl => ?_)
            refine lv_goto (tgt := 18) hx hb dL_law_881 (by decide) ?_
            refine W.widen (k := 406) (n := 7199) (by omega) (by omega) ?_
            exact ih_18 (it + 4) v50126 r50122 _ _ _ (by omega) (⟨by omega, hC_505, hM_500, hJ_v50126, hE_505, ⟨_, _, hV_505, hW_505, hR_505⟩⟩) (lv_sub hl [1, 2, 3, 0] rfl) HX50127
          by_cases c_32_13 : (xs it) &&& (nI (31)) = (13 : Int32)
          · refine lv_tableIn (off := 477) (tgt := 509) hx hb dL_law_32 (by rw [c_32_13]; decide) (by rw [c_32_13]; decide) (by rw [c_32_13]; decide) (by decide) ?_
            refine lv_aload_n hx hb dL_law_509 rfl (lv_at hl 1 rfl) ?_
            refine lv_aload_n hx hb dL_law_510 rfl (lv_at hl 0 rfl) ?_
            refine lv_iload_n hx hb dL_law_511 rfl (lv_at hl 3 rfl) ?_
            refine lv_iconst (v := nI (1)) hx hb dL_law_512 (by decide) ?_
            refine fa_iaddN hx hb dL_law_513 ?_
            refine fa_scr (j := it + 1) CX HX50013 hX hbl hG (by omega) (by omega) dL_law_514 ?_
            refine fa_callVip (As := [.int (xs (it + 1))]) (rest := []) CX HX50013 (g_why l G 406 hn v50011 r50012 hi_18.2.1 (xs (it + 1))) ln_L_69 (by omega) rfl rfl rfl rfl (Nat.le_of_ble_eq_true rfl) hl.1 ⟨Nat.le_of_ble_eq_true rfl, Nat.le_of_ble_eq_true rfl⟩ ⟨Nat.le_of_ble_eq_true rfl, Nat.le_of_ble_eq_true rfl⟩ dL_law_515 (fun x50129 H locs h50128 HX50130 => ?_)
            have h_why := h50128
            have hkc_518 := h_why
            refine lv_pop hx hb dL_law_518 rfl ?_
            refine lv_aload_n hx hb dL_law_519 rfl (lv_at hl 2 rfl) ?_
            refine lv_aload_n hx hb dL_law_520 rfl (lv_at hl 0 rfl) ?_
            refine lv_iload_n hx hb dL_law_521 rfl (lv_at hl 3 rfl) ?_
            refine lv_iconst (v := nI (1)) hx hb dL_law_522 (by decide) ?_
            refine fa_iaddN hx hb dL_law_523 ?_
            refine fa_scr (j := it + 1) CX HX50130 hX hbl hG (by omega) (by omega) dL_law_524 ?_
            refine fa_callVip (As := [.int (xs (it + 1))]) (rest := []) CX HX50130 (r_why l G 406 hn2 v50011 r50012 hi_18.2.2.1 hi_18.2.2.2.1 (xs (it + 1))) ln_L_72 (by omega) rfl rfl rfl rfl (Nat.le_of_ble_eq_true rfl) hl.1 ⟨Nat.le_of_ble_eq_true rfl, Nat.le_of_ble_eq_true rfl⟩ ⟨Nat.le_of_ble_eq_true rfl, Nat.le_of_ble_eq_true rfl⟩ dL_law_525 (fun x50132 H locs h50131 HX50133 => ?_)
            have h_why := h50131
            have hkm_528 := h_why
            refine lv_pop hx hb dL_law_528 rfl ?_
            refine lv_goto (tgt := 878) hx hb dL_law_529 (by decide) ?_
            refine lv_iinc (v := nI (it + 4)) (lv' := [(3, .int (nI (it + 4))), (0, .ref (b)), (1, .ref (fa_B G + (0))), (2, .ref (fa_B G + (397)))]) hx hb dL_law_878 hl (k := 3) rfl (nI_add (it) 4) (by decide) rfl (fun ls hl => ?_)
            refine lv_goto (tgt := 18) hx hb dL_law_881 (by decide) ?_
            refine W.widen (k := 406) (n := 7199) (by omega) (by omega) ?_
            exact ih_18 (it + 4) v50011 r50012 _ _ _ (by omega) (⟨by omega, hi_18.2.1, hi_18.2.2.1, hi_18.2.2.2.1, hi_18.2.2.2.2.1, ⟨_, _, hV18, hW18, hR18⟩⟩) (lv_sub hl [1, 2, 3, 0] rfl) HX50133
          by_cases c_32_14 : (xs it) &&& (nI (31)) = (14 : Int32)
          · refine lv_tableIn (off := 500) (tgt := 532) hx hb dL_law_32 (by rw [c_32_14]; decide) (by rw [c_32_14]; decide) (by rw [c_32_14]; decide) (by decide) ?_
            refine lv_aload_n hx hb dL_law_532 rfl (lv_at hl 1 rfl) ?_
            refine fa_callViu (As := []) (rest := []) CX HX50013 (g_undo l G 406 hn v50011 r50012 hi_18.2.1 ) ln_L_73 (by omega) rfl rfl rfl rfl (Nat.le_of_ble_eq_true rfl) hl.1 ⟨Nat.le_of_ble_eq_true rfl, Nat.le_of_ble_eq_true rfl⟩ ⟨Nat.le_of_ble_eq_true rfl, Nat.le_of_ble_eq_true rfl⟩ dL_law_533 (fun x50135 v50136 H locs h50134 HX50137 => ?_)
            have hC_v50136 := h50134.1.2
            have h_undo := h50134.1.1
            have hC_536 := hC_v50136
            have hM_536 : fa_RM r50012 := hi_18.2.2.1
            have hJ_536 : fa_MJ v50136 := fa_MJ_cong (fun k h1 h2 => h50134.2 k (by omega)) hi_18.2.2.2.1
            obtain ⟨hkc_536, hV_536⟩ := h_undo Ar Hi hV18
            have hE_536 : fa_TE v50136 := fa_TE.cls hi_18.2.2.2.2.1 (show v50136 395 1 = v50011 395 1 from by rw [h50134.2 395 (by omega)]) (h50134.2 396 (by omega)) (by rw [h50134.2 397 (by omega)]) (h50134.2 405 (by omega))
            have hW_536 : fb_MV v50136 Ar Hi := hW18.cong (fun i _ => congrFun (h50134.2 398 (by omega)) i) (congrFun (h50134.2 397 (by omega)) 10) (h50134.2 401 (by omega))
            have hR_536 : fb_RE v50136 := hR18.cong (h50134.2 0 (by omega)) (congrFun (h50134.2 397 (by omega)) 8) (h50134.2 404 (by omega))
            refine lv_pop hx hb dL_law_536 rfl ?_
            refine lv_aload_n hx hb dL_law_537 rfl (lv_at hl 2 rfl) ?_
            refine fa_callViu (As := []) (rest := []) CX HX50137 (r_undo l G 406 hn2 v50136 r50012 hM_536 hJ_536 ) ln_L_76 (by omega) rfl rfl rfl rfl (Nat.le_of_ble_eq_true rfl) hl.1 ⟨Nat.le_of_ble_eq_true rfl, Nat.le_of_ble_eq_true rfl⟩ ⟨Nat.le_of_ble_eq_true rfl, Nat.le_of_ble_eq_true rfl⟩ dL_law_538 (fun x50139 v50140 H locs h50138 HX50141 => ?_)
            have hJ_v50140 := h50138.1.1
            obtain ⟨n10_v50140, hn10_v50140, g10_v50140⟩ := hJ_v50140.2.2.2.2.1
            have h_undo := h50138.1.2.2.2
            have hC_541 : fa_CI v50140 r50012 := fa_CI.congr hC_536 (fun k h1 h2 => h50138.2 k (by omega)) (fun _ _ => rfl)
            obtain ⟨hkm_541, hW_541⟩ := h_undo Ar Hi hW_536
            have hE_541 : fa_TE v50140 := fa_TE.cls hE_536 (by rw [h50138.2 395 (by omega)]) (h50138.2 396 (by omega)) h50138.1.2.1 (h50138.2 405 (by omega))
            have hV_541 := hV_536.cong (v1 := v50140) (fun k k1 k2 => h50138.2 k (by omega))
            have hR_541 : fb_RE v50140 := hR_536.cong (h50138.2 0 (by omega)) h50138.1.2.2.1 (h50138.2 404 (by omega))
            refine lv_pop hx hb dL_law_541 rfl ?_
            refine lv_goto (tgt := 878) hx hb dL_law_542 (by decide) ?_
            refine lv_iinc (v := nI (it + 4)) (lv' := [(3, .int (nI (it + 4))), (0, .ref (b)), (1, .ref (fa_B G + (0))), (2, .ref (fa_B G + (397)))]) hx hb dL_law_878 hl (k := 3) rfl (nI_add (it) 4) (by decide) rfl (fun ls hl => ?_)
            refine lv_goto (tgt := 18) hx hb dL_law_881 (by decide) ?_
            refine W.widen (k := 406) (n := 7199) (by omega) (by omega) ?_
            exact ih_18 (it + 4) v50140 r50012 _ _ _ (by omega) (⟨by omega, hC_541, hM_536, hJ_v50140, hE_541, ⟨_, _, hV_541, hW_541, hR_541⟩⟩) (lv_sub hl [1, 2, 3, 0] rfl) HX50141
          by_cases c_32_15 : (xs it) &&& (nI (31)) = (15 : Int32)
          · refine lv_tableIn (off := 513) (tgt := 545) hx hb dL_law_32 (by rw [c_32_15]; decide) (by rw [c_32_15]; decide) (by rw [c_32_15]; decide) (by decide) ?_
            refine lv_aload_n hx hb dL_law_545 rfl (lv_at hl 1 rfl) ?_
            refine fa_callVip (As := []) (rest := []) CX HX50013 (g_now l G 406 hn v50011 r50012 hi_18.2.1 ) ln_L_77 (by omega) rfl rfl rfl rfl (Nat.le_of_ble_eq_true rfl) hl.1 ⟨Nat.le_of_ble_eq_true rfl, Nat.le_of_ble_eq_true rfl⟩ ⟨Nat.le_of_ble_eq_true rfl, Nat.le_of_ble_eq_true rfl⟩ dL_law_546 (fun x50143 H locs h50142 HX50144 => ?_)
            have h_now := h50142
            have hkc_549 := h_now
            refine lv_pop hx hb dL_law_549 rfl ?_
            refine lv_aload_n hx hb dL_law_550 rfl (lv_at hl 2 rfl) ?_
            refine fa_callVip (As := []) (rest := []) CX HX50144 (r_now l G 406 hn2 v50011 r50012 hi_18.2.2.1 hi_18.2.2.2.1 ) ln_L_80 (by omega) rfl rfl rfl rfl (Nat.le_of_ble_eq_true rfl) hl.1 ⟨Nat.le_of_ble_eq_true rfl, Nat.le_of_ble_eq_true rfl⟩ ⟨Nat.le_of_ble_eq_true rfl, Nat.le_of_ble_eq_true rfl⟩ dL_law_551 (fun x50146 H locs h50145 HX50147 => ?_)
            have h_now := h50145
            have hkm_554 := h_now
            refine lv_pop hx hb dL_law_554 rfl ?_
            refine lv_goto (tgt := 878) hx hb dL_law_555 (by decide) ?_
            refine lv_iinc (v := nI (it + 4)) (lv' := [(3, .int (nI (it + 4))), (0, .ref (b)), (1, .ref (fa_B G + (0))), (2, .ref (fa_B G + (397)))]) hx hb dL_law_878 hl (k := 3) rfl (nI_add (it) 4) (by decide) rfl (fun ls hl => ?_)
            refine lv_goto (tgt := 18) hx hb dL_law_881 (by decide) ?_
            refine W.widen (k := 406) (n := 7199) (by omega) (by omega) ?_
            exact ih_18 (it + 4) v50011 r50012 _ _ _ (by omega) (⟨by omega, hi_18.2.1, hi_18.2.2.1, hi_18.2.2.2.1, hi_18.2.2.2.2.1, ⟨_, _, hV18, hW18, hR18⟩⟩) (lv_sub hl [1, 2, 3, 0] rfl) HX50147
          by_cases c_32_16 : (xs it) &&& (nI (31)) = (16 : Int32)
          · refine lv_tableIn (off := 526) (tgt := 558) hx hb dL_law_32 (by rw [c_32_16]; decide) (by rw [c_32_16]; decide) (by rw [c_32_16]; decide) (by decide) ?_
            refine lv_aload_n hx hb dL_law_558 rfl (lv_at hl 1 rfl) ?_
            refine lv_aload_n hx hb dL_law_559 rfl (lv_at hl 0 rfl) ?_
            refine lv_iload_n hx hb dL_law_560 rfl (lv_at hl 3 rfl) ?_
            refine lv_iconst (v := nI (1)) hx hb dL_law_561 (by decide) ?_
            refine fa_iaddN hx hb dL_law_562 ?_
            refine fa_scr (j := it + 1) CX HX50013 hX hbl hG (by omega) (by omega) dL_law_563 ?_
            refine fa_callVip (As := [.int (xs (it + 1))]) (rest := []) CX HX50013 (g_count l G 406 hn v50011 r50012 hi_18.2.1 (xs (it + 1))) ln_L_81 (by omega) rfl rfl rfl rfl (Nat.le_of_ble_eq_true rfl) hl.1 ⟨Nat.le_of_ble_eq_true rfl, Nat.le_of_ble_eq_true rfl⟩ ⟨Nat.le_of_ble_eq_true rfl, Nat.le_of_ble_eq_true rfl⟩ dL_law_564 (fun x50149 H locs h50148 HX50150 => ?_)
            have h_count := h50148
            have hkc_567 := h_count
            refine lv_pop hx hb dL_law_567 rfl ?_
            refine lv_aload_n hx hb dL_law_568 rfl (lv_at hl 2 rfl) ?_
            refine lv_aload_n hx hb dL_law_569 rfl (lv_at hl 0 rfl) ?_
            refine lv_iload_n hx hb dL_law_570 rfl (lv_at hl 3 rfl) ?_
            refine lv_iconst (v := nI (1)) hx hb dL_law_571 (by decide) ?_
            refine fa_iaddN hx hb dL_law_572 ?_
            refine fa_scr (j := it + 1) CX HX50150 hX hbl hG (by omega) (by omega) dL_law_573 ?_
            refine fa_callVip (As := [.int (xs (it + 1))]) (rest := []) CX HX50150 (r_count l G 406 hn2 v50011 r50012 hi_18.2.2.1 hi_18.2.2.2.1 (xs (it + 1))) ln_L_84 (by omega) rfl rfl rfl rfl (Nat.le_of_ble_eq_true rfl) hl.1 ⟨Nat.le_of_ble_eq_true rfl, Nat.le_of_ble_eq_true rfl⟩ ⟨Nat.le_of_ble_eq_true rfl, Nat.le_of_ble_eq_true rfl⟩ dL_law_574 (fun x50152 H locs h50151 HX50153 => ?_)
            have h_count := h50151
            have hkm_577 := h_count
            refine lv_pop hx hb dL_law_577 rfl ?_
            refine lv_goto (tgt := 878) hx hb dL_law_578 (by decide) ?_
            refine lv_iinc (v := nI (it + 4)) (lv' := [(3, .int (nI (it + 4))), (0, .ref (b)), (1, .ref (fa_B G + (0))), (2, .ref (fa_B G + (397)))]) hx hb dL_law_878 hl (k := 3) rfl (nI_add (it) 4) (by decide) rfl (fun ls hl => ?_)
            refine lv_goto (tgt := 18) hx hb dL_law_881 (by decide) ?_
            refine W.widen (k := 406) (n := 7199) (by omega) (by omega) ?_
            exact ih_18 (it + 4) v50011 r50012 _ _ _ (by omega) (⟨by omega, hi_18.2.1, hi_18.2.2.1, hi_18.2.2.2.1, hi_18.2.2.2.2.1, ⟨_, _, hV18, hW18, hR18⟩⟩) (lv_sub hl [1, 2, 3, 0] rfl) HX50153
          by_cases c_32_17 : (xs it) &&& (nI (31)) = (17 : Int32)
          · refine lv_tableIn (off := 549) (tgt := 581) hx hb dL_law_32 (by rw [c_32_17]; decide) (by rw [c_32_17]; decide) (by rw [c_32_17]; decide) (by decide) ?_
            refine lv_aload_n hx hb dL_law_581 rfl (lv_at hl 1 rfl) ?_
            refine lv_aload_n hx hb dL_law_582 rfl (lv_at hl 0 rfl) ?_
            refine lv_iload_n hx hb dL_law_583 rfl (lv_at hl 3 rfl) ?_
            refine lv_iconst (v := nI (1)) hx hb dL_law_584 (by decide) ?_
            refine fa_iaddN hx hb dL_law_585 ?_
            refine fa_scr (j := it + 1) CX HX50013 hX hbl hG (by omega) (by omega) dL_law_586 ?_
            refine fa_callVip (As := [.int (xs (it + 1))]) (rest := []) CX HX50013 (g_fileAt l G 406 hn v50011 r50012 hi_18.2.1 (xs (it + 1))) ln_L_85 (by omega) rfl rfl rfl rfl (Nat.le_of_ble_eq_true rfl) hl.1 ⟨Nat.le_of_ble_eq_true rfl, Nat.le_of_ble_eq_true rfl⟩ ⟨Nat.le_of_ble_eq_true rfl, Nat.le_of_ble_eq_true rfl⟩ dL_law_587 (fun x50155 H locs h50154 HX50156 => ?_)
            have h_fileAt := h50154
            have hkc_590 := h_fileAt
            refine lv_pop hx hb dL_law_590 rfl ?_
            refine lv_aload_n hx hb dL_law_591 rfl (lv_at hl 2 rfl) ?_
            refine lv_aload_n hx hb dL_law_592 rfl (lv_at hl 0 rfl) ?_
            refine lv_iload_n hx hb dL_law_593 rfl (lv_at hl 3 rfl) ?_
            refine lv_iconst (v := nI (1)) hx hb dL_law_594 (by decide) ?_
            refine fa_iaddN hx hb dL_law_595 ?_
            refine fa_scr (j := it + 1) CX HX50156 hX hbl hG (by omega) (by omega) dL_law_596 ?_
            refine fa_callVip (As := [.int (xs (it + 1))]) (rest := []) CX HX50156 (r_fileAt l G 406 hn2 v50011 r50012 hi_18.2.2.1 hi_18.2.2.2.1 (xs (it + 1))) ln_L_88 (by omega) rfl rfl rfl rfl (Nat.le_of_ble_eq_true rfl) hl.1 ⟨Nat.le_of_ble_eq_true rfl, Nat.le_of_ble_eq_true rfl⟩ ⟨Nat.le_of_ble_eq_true rfl, Nat.le_of_ble_eq_true rfl⟩ dL_law_597 (fun x50158 H locs h50157 HX50159 => ?_)
            have h_fileAt := h50157
            have hkm_600 := h_fileAt
            refine lv_pop hx hb dL_law_600 rfl ?_
            refine lv_goto (tgt := 878) hx hb dL_law_601 (by decide) ?_
            refine lv_iinc (v := nI (it + 4)) (lv' := [(3, .int (nI (it + 4))), (0, .ref (b)), (1, .ref (fa_B G + (0))), (2, .ref (fa_B G + (397)))]) hx hb dL_law_878 hl (k := 3) rfl (nI_add (it) 4) (by decide) rfl (fun ls hl => ?_)
            refine lv_goto (tgt := 18) hx hb dL_law_881 (by decide) ?_
            refine W.widen (k := 406) (n := 7199) (by omega) (by omega) ?_
            exact ih_18 (it + 4) v50011 r50012 _ _ _ (by omega) (⟨by omega, hi_18.2.1, hi_18.2.2.1, hi_18.2.2.2.1, hi_18.2.2.2.2.1, ⟨_, _, hV18, hW18, hR18⟩⟩) (lv_sub hl [1, 2, 3, 0] rfl) HX50159
          by_cases c_32_18 : (xs it) &&& (nI (31)) = (18 : Int32)
          · refine lv_tableIn (off := 572) (tgt := 604) hx hb dL_law_32 (by rw [c_32_18]; decide) (by rw [c_32_18]; decide) (by rw [c_32_18]; decide) (by decide) ?_
            refine lv_aload_n hx hb dL_law_604 rfl (lv_at hl 1 rfl) ?_
            refine lv_aload_n hx hb dL_law_605 rfl (lv_at hl 0 rfl) ?_
            refine lv_iload_n hx hb dL_law_606 rfl (lv_at hl 3 rfl) ?_
            refine lv_iconst (v := nI (1)) hx hb dL_law_607 (by decide) ?_
            refine fa_iaddN hx hb dL_law_608 ?_
            refine fa_scr (j := it + 1) CX HX50013 hX hbl hG (by omega) (by omega) dL_law_609 ?_
            refine lv_aload_n hx hb dL_law_610 rfl (lv_at hl 0 rfl) ?_
            refine lv_iload_n hx hb dL_law_611 rfl (lv_at hl 3 rfl) ?_
            refine lv_iconst (v := nI (2)) hx hb dL_law_612 (by decide) ?_
            refine fa_iaddN hx hb dL_law_613 ?_
            refine fa_scr (j := it + 2) CX HX50013 hX hbl hG (by omega) (by omega) dL_law_614 ?_
            refine fa_callVip (As := [.int (xs (it + 1)), .int (xs (it + 2))]) (rest := []) CX HX50013 (g_file l G 406 hn v50011 r50012 hi_18.2.1 (xs (it + 1)) (xs (it + 2))) ln_L_89 (by omega) rfl rfl rfl rfl (Nat.le_of_ble_eq_true rfl) hl.1 ⟨Nat.le_of_ble_eq_true rfl, Nat.le_of_ble_eq_true rfl⟩ ⟨Nat.le_of_ble_eq_true rfl, Nat.le_of_ble_eq_true rfl⟩ dL_law_615 (fun x50161 H locs h50160 HX50162 => ?_)
            have h_file := h50160
            have hkc_618 := h_file
            refine lv_pop hx hb dL_law_618 rfl ?_
            refine lv_aload_n hx hb dL_law_619 rfl (lv_at hl 2 rfl) ?_
            refine lv_aload_n hx hb dL_law_620 rfl (lv_at hl 0 rfl) ?_
            refine lv_iload_n hx hb dL_law_621 rfl (lv_at hl 3 rfl) ?_
            refine lv_iconst (v := nI (1)) hx hb dL_law_622 (by decide) ?_
            refine fa_iaddN hx hb dL_law_623 ?_
            refine fa_scr (j := it + 1) CX HX50162 hX hbl hG (by omega) (by omega) dL_law_624 ?_
            refine lv_aload_n hx hb dL_law_625 rfl (lv_at hl 0 rfl) ?_
            refine lv_iload_n hx hb dL_law_626 rfl (lv_at hl 3 rfl) ?_
            refine lv_iconst (v := nI (2)) hx hb dL_law_627 (by decide) ?_
            refine fa_iaddN hx hb dL_law_628 ?_
            refine fa_scr (j := it + 2) CX HX50162 hX hbl hG (by omega) (by omega) dL_law_629 ?_
            refine fa_callVip (As := [.int (xs (it + 1)), .int (xs (it + 2))]) (rest := []) CX HX50162 (r_file l G 406 hn2 v50011 r50012 hi_18.2.2.1 hi_18.2.2.2.1 (xs (it + 1)) (xs (it + 2))) ln_L_92 (by omega) rfl rfl rfl rfl (Nat.le_of_ble_eq_true rfl) hl.1 ⟨Nat.le_of_ble_eq_true rfl, Nat.le_of_ble_eq_true rfl⟩ ⟨Nat.le_of_ble_eq_true rfl, Nat.le_of_ble_eq_true rfl⟩ dL_law_630 (fun x50164 H locs h50163 HX50165 => ?_)
            have h_file := h50163
            have hkm_633 := h_file
            refine lv_pop hx hb dL_law_633 rfl ?_
            refine lv_goto (tgt := 878) hx hb dL_law_634 (by decide) ?_
            refine lv_iinc (v := nI (it + 4)) (lv' := [(3, .int (nI (it + 4))), (0, .ref (b)), (1, .ref (fa_B G + (0))), (2, .ref (fa_B G + (397)))]) hx hb dL_law_878 hl (k := 3) rfl (nI_add (it) 4) (by decide) rfl (fun ls hl => ?_)
            refine lv_goto (tgt := 18) hx hb dL_law_881 (by decide) ?_
            refine W.widen (k := 406) (n := 7199) (by omega) (by omega) ?_
            exact ih_18 (it + 4) v50011 r50012 _ _ _ (by omega) (⟨by omega, hi_18.2.1, hi_18.2.2.1, hi_18.2.2.2.1, hi_18.2.2.2.2.1, ⟨_, _, hV18, hW18, hR18⟩⟩) (lv_sub hl [1, 2, 3, 0] rfl) HX50165
          by_cases c_32_19 : (xs it) &&& (nI (31)) = (19 : Int32)
          · refine lv_tableIn (off := 605) (tgt := 637) hx hb dL_law_32 (by rw [c_32_19]; decide) (by rw [c_32_19]; decide) (by rw [c_32_19]; decide) (by decide) ?_
            refine lv_aload_n hx hb dL_law_637 rfl (lv_at hl 1 rfl) ?_
            refine lv_aload_n hx hb dL_law_638 rfl (lv_at hl 0 rfl) ?_
            refine lv_iload_n hx hb dL_law_639 rfl (lv_at hl 3 rfl) ?_
            refine lv_iconst (v := nI (1)) hx hb dL_law_640 (by decide) ?_
            refine fa_iaddN hx hb dL_law_641 ?_
            refine fa_scr (j := it + 1) CX HX50013 hX hbl hG (by omega) (by omega) dL_law_642 ?_
            refine lv_aload_n hx hb dL_law_643 rfl (lv_at hl 0 rfl) ?_
            refine lv_iload_n hx hb dL_law_644 rfl (lv_at hl 3 rfl) ?_
            refine lv_iconst (v := nI (2)) hx hb dL_law_645 (by decide) ?_
            refine fa_iaddN hx hb dL_law_646 ?_
            refine fa_scr (j := it + 2) CX HX50013 hX hbl hG (by omega) (by omega) dL_law_647 ?_
            refine fa_callVip (As := [.int (xs (it + 1)), .int (xs (it + 2))]) (rest := []) CX HX50013 (g_sealOf l G 406 hn v50011 r50012 hi_18.2.1 (xs (it + 1)) (xs (it + 2))) ln_L_93 (by omega) rfl rfl rfl rfl (Nat.le_of_ble_eq_true rfl) hl.1 ⟨Nat.le_of_ble_eq_true rfl, Nat.le_of_ble_eq_true rfl⟩ ⟨Nat.le_of_ble_eq_true rfl, Nat.le_of_ble_eq_true rfl⟩ dL_law_648 (fun x50167 H locs h50166 HX50168 => ?_)
            have h_sealOf := h50166
            have hkc_651 := h_sealOf
            refine lv_pop hx hb dL_law_651 rfl ?_
            refine lv_aload_n hx hb dL_law_652 rfl (lv_at hl 2 rfl) ?_
            refine lv_aload_n hx hb dL_law_653 rfl (lv_at hl 0 rfl) ?_
            refine lv_iload_n hx hb dL_law_654 rfl (lv_at hl 3 rfl) ?_
            refine lv_iconst (v := nI (1)) hx hb dL_law_655 (by decide) ?_
            refine fa_iaddN hx hb dL_law_656 ?_
            refine fa_scr (j := it + 1) CX HX50168 hX hbl hG (by omega) (by omega) dL_law_657 ?_
            refine lv_aload_n hx hb dL_law_658 rfl (lv_at hl 0 rfl) ?_
            refine lv_iload_n hx hb dL_law_659 rfl (lv_at hl 3 rfl) ?_
            refine lv_iconst (v := nI (2)) hx hb dL_law_660 (by decide) ?_
            refine fa_iaddN hx hb dL_law_661 ?_
            refine fa_scr (j := it + 2) CX HX50168 hX hbl hG (by omega) (by omega) dL_law_662 ?_
            refine fa_callVip (As := [.int (xs (it + 1)), .int (xs (it + 2))]) (rest := []) CX HX50168 (r_sealOf l G 406 hn2 v50011 r50012 hi_18.2.2.1 hi_18.2.2.2.1 (xs (it + 1)) (xs (it + 2))) ln_L_96 (by omega) rfl rfl rfl rfl (Nat.le_of_ble_eq_true rfl) hl.1 ⟨Nat.le_of_ble_eq_true rfl, Nat.le_of_ble_eq_true rfl⟩ ⟨Nat.le_of_ble_eq_true rfl, Nat.le_of_ble_eq_true rfl⟩ dL_law_663 (fun x50170 H locs h50169 HX50171 => ?_)
            have h_sealOf := h50169
            have hkm_666 := h_sealOf
            refine lv_pop hx hb dL_law_666 rfl ?_
            refine lv_goto (tgt := 878) hx hb dL_law_667 (by decide) ?_
            refine lv_iinc (v := nI (it + 4)) (lv' := [(3, .int (nI (it + 4))), (0, .ref (b)), (1, .ref (fa_B G + (0))), (2, .ref (fa_B G + (397)))]) hx hb dL_law_878 hl (k := 3) rfl (nI_add (it) 4) (by decide) rfl (fun ls hl => ?_)
            refine lv_goto (tgt := 18) hx hb dL_law_881 (by decide) ?_
            refine W.widen (k := 406) (n := 7199) (by omega) (by omega) ?_
            exact ih_18 (it + 4) v50011 r50012 _ _ _ (by omega) (⟨by omega, hi_18.2.1, hi_18.2.2.1, hi_18.2.2.2.1, hi_18.2.2.2.2.1, ⟨_, _, hV18, hW18, hR18⟩⟩) (lv_sub hl [1, 2, 3, 0] rfl) HX50171
          by_cases c_32_20 : (xs it) &&& (nI (31)) = (20 : Int32)
          · refine lv_tableIn (off := 638) (tgt := 670) hx hb dL_law_32 (by rw [c_32_20]; decide) (by rw [c_32_20]; decide) (by rw [c_32_20]; decide) (by decide) ?_
            refine lv_aload_n hx hb dL_law_670 rfl (lv_at hl 1 rfl) ?_
            refine lv_aload_n hx hb dL_law_671 rfl (lv_at hl 0 rfl) ?_
            refine lv_iload_n hx hb dL_law_672 rfl (lv_at hl 3 rfl) ?_
            refine lv_iconst (v := nI (1)) hx hb dL_law_673 (by decide) ?_
            refine fa_iaddN hx hb dL_law_674 ?_
            refine fa_scr (j := it + 1) CX HX50013 hX hbl hG (by omega) (by omega) dL_law_675 ?_
            refine lv_aload_n hx hb dL_law_676 rfl (lv_at hl 0 rfl) ?_
            refine lv_iload_n hx hb dL_law_677 rfl (lv_at hl 3 rfl) ?_
            refine lv_iconst (v := nI (2)) hx hb dL_law_678 (by decide) ?_
            refine fa_iaddN hx hb dL_law_679 ?_
            refine fa_scr (j := it + 2) CX HX50013 hX hbl hG (by omega) (by omega) dL_law_680 ?_
            refine fa_callVip (As := [.int (xs (it + 1)), .int (xs (it + 2))]) (rest := []) CX HX50013 (g_trace l G 406 hn v50011 r50012 hi_18.2.1 (xs (it + 1)) (xs (it + 2))) ln_L_97 (by omega) rfl rfl rfl rfl (Nat.le_of_ble_eq_true rfl) hl.1 ⟨Nat.le_of_ble_eq_true rfl, Nat.le_of_ble_eq_true rfl⟩ ⟨Nat.le_of_ble_eq_true rfl, Nat.le_of_ble_eq_true rfl⟩ dL_law_681 (fun x50173 H locs h50172 HX50174 => ?_)
            have h_trace := h50172
            have hkc_684 := h_trace
            refine lv_pop hx hb dL_law_684 rfl ?_
            refine lv_aload_n hx hb dL_law_685 rfl (lv_at hl 2 rfl) ?_
            refine lv_aload_n hx hb dL_law_686 rfl (lv_at hl 0 rfl) ?_
            refine lv_iload_n hx hb dL_law_687 rfl (lv_at hl 3 rfl) ?_
            refine lv_iconst (v := nI (1)) hx hb dL_law_688 (by decide) ?_
            refine fa_iaddN hx hb dL_law_689 ?_
            refine fa_scr (j := it + 1) CX HX50174 hX hbl hG (by omega) (by omega) dL_law_690 ?_
            refine lv_aload_n hx hb dL_law_691 rfl (lv_at hl 0 rfl) ?_
            refine lv_iload_n hx hb dL_law_692 rfl (lv_at hl 3 rfl) ?_
            refine lv_iconst (v := nI (2)) hx hb dL_law_693 (by decide) ?_
            refine fa_iaddN hx hb dL_law_694 ?_
            refine fa_scr (j := it + 2) CX HX50174 hX hbl hG (by omega) (by omega) dL_law_695 ?_
            refine fa_callVip (As := [.int (xs (it + 1)), .int (xs (it + 2))]) (rest := []) CX HX50174 (r_trace l G 406 hn2 v50011 r50012 hi_18.2.2.1 hi_18.2.2.2.1 (xs (it + 1)) (xs (it + 2))) ln_L_100 (by omega) rfl rfl rfl rfl (Nat.le_of_ble_eq_true rfl) hl.1 ⟨Nat.le_of_ble_eq_true rfl, Nat.le_of_ble_eq_true rfl⟩ ⟨Nat.le_of_ble_eq_true rfl, Nat.le_of_ble_eq_true rfl⟩ dL_law_696 (fun x50176 H locs h50175 HX50177 => ?_)
            have h_trace := h50175
            have hkm_699 := h_trace
            refine lv_pop hx hb dL_law_699 rfl ?_
            refine lv_goto (tgt := 878) hx hb dL_law_700 (by decide) ?_
            refine lv_iinc (v := nI (it + 4)) (lv' := [(3, .int (nI (it + 4))), (0, .ref (b)), (1, .ref (fa_B G + (0))), (2, .ref (fa_B G + (397)))]) hx hb dL_law_878 hl (k := 3) rfl (nI_add (it) 4) (by decide) rfl (fun ls hl => ?_)
            refine lv_goto (tgt := 18) hx hb dL_law_881 (by decide) ?_
            refine W.widen (k := 406) (n := 7199) (by omega) (by omega) ?_
            exact ih_18 (it + 4) v50011 r50012 _ _ _ (by omega) (⟨by omega, hi_18.2.1, hi_18.2.2.1, hi_18.2.2.2.1, hi_18.2.2.2.2.1, ⟨_, _, hV18, hW18, hR18⟩⟩) (lv_sub hl [1, 2, 3, 0] rfl) HX50177
          by_cases c_32_21 : (xs it) &&& (nI (31)) = (21 : Int32)
          · refine lv_tableIn (off := 671) (tgt := 703) hx hb dL_law_32 (by rw [c_32_21]; decide) (by rw [c_32_21]; decide) (by rw [c_32_21]; decide) (by decide) ?_
            refine lv_aload_n hx hb dL_law_703 rfl (lv_at hl 1 rfl) ?_
            refine lv_aload_n hx hb dL_law_704 rfl (lv_at hl 0 rfl) ?_
            refine lv_iload_n hx hb dL_law_705 rfl (lv_at hl 3 rfl) ?_
            refine lv_iconst (v := nI (1)) hx hb dL_law_706 (by decide) ?_
            refine fa_iaddN hx hb dL_law_707 ?_
            refine fa_scr (j := it + 1) CX HX50013 hX hbl hG (by omega) (by omega) dL_law_708 ?_
            refine lv_aload_n hx hb dL_law_709 rfl (lv_at hl 0 rfl) ?_
            refine lv_iload_n hx hb dL_law_710 rfl (lv_at hl 3 rfl) ?_
            refine lv_iconst (v := nI (2)) hx hb dL_law_711 (by decide) ?_
            refine fa_iaddN hx hb dL_law_712 ?_
            refine fa_scr (j := it + 2) CX HX50013 hX hbl hG (by omega) (by omega) dL_law_713 ?_
            refine fa_callVip (As := [.int (xs (it + 1)), .int (xs (it + 2))]) (rest := []) CX HX50013 (g_reservation l G 406 hn v50011 r50012 hi_18.2.1 (xs (it + 1)) (xs (it + 2))) ln_L_101 (by omega) rfl rfl rfl rfl (Nat.le_of_ble_eq_true rfl) hl.1 ⟨Nat.le_of_ble_eq_true rfl, Nat.le_of_ble_eq_true rfl⟩ ⟨Nat.le_of_ble_eq_true rfl, Nat.le_of_ble_eq_true rfl⟩ dL_law_714 (fun x50179 H locs h50178 HX50180 => ?_)
            have h_reservation := h50178
            have hkc_717 := h_reservation
            refine lv_aload_n hx hb dL_law_717 rfl (lv_at hl 2 rfl) ?_
            refine lv_aload_n hx hb dL_law_718 rfl (lv_at hl 0 rfl) ?_
            refine lv_iload_n hx hb dL_law_719 rfl (lv_at hl 3 rfl) ?_
            refine lv_iconst (v := nI (1)) hx hb dL_law_720 (by decide) ?_
            refine fa_iaddN hx hb dL_law_721 ?_
            refine fa_scr (j := it + 1) CX HX50180 hX hbl hG (by omega) (by omega) dL_law_722 ?_
            refine lv_aload_n hx hb dL_law_723 rfl (lv_at hl 0 rfl) ?_
            refine lv_iload_n hx hb dL_law_724 rfl (lv_at hl 3 rfl) ?_
            refine lv_iconst (v := nI (2)) hx hb dL_law_725 (by decide) ?_
            refine fa_iaddN hx hb dL_law_726 ?_
            refine fa_scr (j := it + 2) CX HX50180 hX hbl hG (by omega) (by omega) dL_law_727 ?_
            refine fa_callVip (As := [.int (xs (it + 1)), .int (xs (it + 2))]) (rest := [.int (x50179)]) CX HX50180 (r_reservation l G 406 hn2 v50011 r50012 hi_18.2.2.1 hi_18.2.2.2.1 (xs (it + 1)) (xs (it + 2))) ln_L_104 (by omega) rfl rfl rfl rfl (Nat.le_of_ble_eq_true rfl) hl.1 ⟨Nat.le_of_ble_eq_true rfl, Nat.le_of_ble_eq_true rfl⟩ ⟨Nat.le_of_ble_eq_true rfl, Nat.le_of_ble_eq_true rfl⟩ dL_law_728 (fun x50182 H locs h50181 HX50183 => ?_)
            have h_reservation := h50181
            have hkm_731 := h_reservation
            refine lv_icmp_eq (tgt := 878) hx hb dL_law_731 (by decide) (fun c_731 => ?_) (fun c_731 => ?_)
            · refine lv_iinc (v := nI (it + 4)) (lv' := [(3, .int (nI (it + 4))), (0, .ref (b)), (1, .ref (fa_B G + (0))), (2, .ref (fa_B G + (397)))]) hx hb dL_law_878 hl (k := 3) rfl (nI_add (it) 4) (by decide) rfl (fun ls hl => ?_)
              refine lv_goto (tgt := 18) hx hb dL_law_881 (by decide) ?_
              refine W.widen (k := 406) (n := 7199) (by omega) (by omega) ?_
              exact ih_18 (it + 4) v50011 r50012 _ _ _ (by omega) (⟨by omega, hi_18.2.1, hi_18.2.2.1, hi_18.2.2.2.1, hi_18.2.2.2.2.1, ⟨_, _, hV18, hW18, hR18⟩⟩) (lv_sub hl [1, 2, 3, 0] rfl) HX50183
            · exact absurd (fb_rsv_eq hV18.2.2.1 (hkc_717 Ar hV18.1 hV18.2.2.1) (hkm_731 Ar hW18.1 hW18.2.1)) c_731
          by_cases c_32_22 : (xs it) &&& (nI (31)) = (22 : Int32)
          · refine lv_tableIn (off := 704) (tgt := 736) hx hb dL_law_32 (by rw [c_32_22]; decide) (by rw [c_32_22]; decide) (by rw [c_32_22]; decide) (by decide) ?_
            refine lv_aload_n hx hb dL_law_736 rfl (lv_at hl 1 rfl) ?_
            refine lv_aload_n hx hb dL_law_737 rfl (lv_at hl 0 rfl) ?_
            refine lv_iload_n hx hb dL_law_738 rfl (lv_at hl 3 rfl) ?_
            refine lv_iconst (v := nI (1)) hx hb dL_law_739 (by decide) ?_
            refine fa_iaddN hx hb dL_law_740 ?_
            refine fa_scr (j := it + 1) CX HX50013 hX hbl hG (by omega) (by omega) dL_law_741 ?_
            refine fa_callVip (As := [.int (xs (it + 1))]) (rest := []) CX HX50013 (g_setting l G 406 hn v50011 r50012 hi_18.2.1 (xs (it + 1))) ln_L_105 (by omega) rfl rfl rfl rfl (Nat.le_of_ble_eq_true rfl) hl.1 ⟨Nat.le_of_ble_eq_true rfl, Nat.le_of_ble_eq_true rfl⟩ ⟨Nat.le_of_ble_eq_true rfl, Nat.le_of_ble_eq_true rfl⟩ dL_law_742 (fun x50185 H locs h50184 HX50186 => ?_)
            have h_setting := h50184
            have hkc_745 := h_setting
            refine lv_pop hx hb dL_law_745 rfl ?_
            refine lv_aload_n hx hb dL_law_746 rfl (lv_at hl 2 rfl) ?_
            refine lv_aload_n hx hb dL_law_747 rfl (lv_at hl 0 rfl) ?_
            refine lv_iload_n hx hb dL_law_748 rfl (lv_at hl 3 rfl) ?_
            refine lv_iconst (v := nI (1)) hx hb dL_law_749 (by decide) ?_
            refine fa_iaddN hx hb dL_law_750 ?_
            refine fa_scr (j := it + 1) CX HX50186 hX hbl hG (by omega) (by omega) dL_law_751 ?_
            refine fa_callVip (As := [.int (xs (it + 1))]) (rest := []) CX HX50186 (r_setting l G 406 hn2 v50011 r50012 hi_18.2.2.1 hi_18.2.2.2.1 (xs (it + 1))) ln_L_108 (by omega) rfl rfl rfl rfl (Nat.le_of_ble_eq_true rfl) hl.1 ⟨Nat.le_of_ble_eq_true rfl, Nat.le_of_ble_eq_true rfl⟩ ⟨Nat.le_of_ble_eq_true rfl, Nat.le_of_ble_eq_true rfl⟩ dL_law_752 (fun x50188 H locs h50187 HX50189 => ?_)
            have h_setting := h50187
            have hkm_755 := h_setting
            refine lv_pop hx hb dL_law_755 rfl ?_
            refine lv_goto (tgt := 878) hx hb dL_law_756 (by decide) ?_
            refine lv_iinc (v := nI (it + 4)) (lv' := [(3, .int (nI (it + 4))), (0, .ref (b)), (1, .ref (fa_B G + (0))), (2, .ref (fa_B G + (397)))]) hx hb dL_law_878 hl (k := 3) rfl (nI_add (it) 4) (by decide) rfl (fun ls hl => ?_)
            refine lv_goto (tgt := 18) hx hb dL_law_881 (by decide) ?_
            refine W.widen (k := 406) (n := 7199) (by omega) (by omega) ?_
            exact ih_18 (it + 4) v50011 r50012 _ _ _ (by omega) (⟨by omega, hi_18.2.1, hi_18.2.2.1, hi_18.2.2.2.1, hi_18.2.2.2.2.1, ⟨_, _, hV18, hW18, hR18⟩⟩) (lv_sub hl [1, 2, 3, 0] rfl) HX50189
          by_cases c_32_23 : (xs it) &&& (nI (31)) = (23 : Int32)
          · refine lv_tableIn (off := 727) (tgt := 759) hx hb dL_law_32 (by rw [c_32_23]; decide) (by rw [c_32_23]; decide) (by rw [c_32_23]; decide) (by decide) ?_
            refine lv_aload_n hx hb dL_law_759 rfl (lv_at hl 1 rfl) ?_
            refine fa_callVfp (As := []) (rest := []) CX HX50013 (g_meanAge l G 406 hn v50011 r50012 hi_18.2.1 ) ln_L_109 (by omega) rfl rfl rfl rfl (Nat.le_of_ble_eq_true rfl) hl.1 ⟨Nat.le_of_ble_eq_true rfl, Nat.le_of_ble_eq_true rfl⟩ ⟨Nat.le_of_ble_eq_true rfl, Nat.le_of_ble_eq_true rfl⟩ dL_law_760 (fun x50191 H locs h50190 HX50192 => ?_)
            have h_meanAge := h50190
            have hkc_763 := h_meanAge
            refine lv_f2d hx hb dL_law_763 h_meanAge.1 ?_
            refine lv_dstore (lv' := [(4, .double (FP.f2d x50191)), (0, .ref (b)), (1, .ref (fa_B G + (0))), (2, .ref (fa_B G + (397))), (3, .int (nI (it)))]) hx hb dL_law_764 hl (by decide) rfl (fun ls hl => ?_)
            refine lv_aload_n hx hb dL_law_766 rfl (lv_at hl 3 rfl) ?_
            refine fa_callVfp (As := []) (rest := []) CX HX50192 (r_meanAge l G 406 hn2 v50011 r50012 hi_18.2.2.1 hi_18.2.2.2.1 ) ln_L_113 (by omega) rfl rfl rfl rfl (Nat.le_of_ble_eq_true rfl) hl.1 ⟨Nat.le_of_ble_eq_true rfl, Nat.le_of_ble_eq_true rfl⟩ ⟨Nat.le_of_ble_eq_true rfl, Nat.le_of_ble_eq_true rfl⟩ dL_law_767 (fun x50194 H locs h50193 HX50195 => ?_)
            have h_meanAge := h50193
            have hkm_770 := h_meanAge
            refine lv_f2d hx hb dL_law_770 h_meanAge.1 ?_
            refine lv_dstore (lv' := [(6, .double (FP.f2d x50194)), (4, .double (FP.f2d x50191)), (0, .ref (b)), (1, .ref (fa_B G + (0))), (2, .ref (fa_B G + (397))), (3, .int (nI (it)))]) hx hb dL_law_771 hl (by decide) rfl (fun ls hl => ?_)
            refine lv_goto (tgt := 878) hx hb dL_law_773 (by decide) ?_
            refine lv_iinc (v := nI (it + 4)) (lv' := [(3, .int (nI (it + 4))), (6, .double (FP.f2d x50194)), (4, .double (FP.f2d x50191)), (0, .ref (b)), (1, .ref (fa_B G + (0))), (2, .ref (fa_B G + (397)))]) hx hb dL_law_878 hl (k := 5) rfl (nI_add (it) 4) (by decide) rfl (fun ls hl => ?_)
            refine lv_goto (tgt := 18) hx hb dL_law_881 (by decide) ?_
            refine W.widen (k := 406) (n := 7199) (by omega) (by omega) ?_
            exact ih_18 (it + 4) v50011 r50012 _ _ _ (by omega) (⟨by omega, hi_18.2.1, hi_18.2.2.1, hi_18.2.2.2.1, hi_18.2.2.2.2.1, ⟨_, _, hV18, hW18, hR18⟩⟩) (lv_sub hl [3, 4, 5, 0] rfl) HX50195
          by_cases c_32_24 : (xs it) &&& (nI (31)) = (24 : Int32)
          · refine lv_tableIn (off := 744) (tgt := 776) hx hb dL_law_32 (by rw [c_32_24]; decide) (by rw [c_32_24]; decide) (by rw [c_32_24]; decide) (by decide) ?_
            refine lv_aload_n hx hb dL_law_776 rfl (lv_at hl 1 rfl) ?_
            refine lv_aload_n hx hb dL_law_777 rfl (lv_at hl 0 rfl) ?_
            refine lv_iload_n hx hb dL_law_778 rfl (lv_at hl 3 rfl) ?_
            refine lv_iconst (v := nI (1)) hx hb dL_law_779 (by decide) ?_
            refine fa_iaddN hx hb dL_law_780 ?_
            refine fa_scr (j := it + 1) CX HX50013 hX hbl hG (by omega) (by omega) dL_law_781 ?_
            refine fa_callViu (As := [.int (xs (it + 1))]) (rest := []) CX HX50013 (g_stays l G 406 hn v50011 r50012 hi_18.2.1 (xs (it + 1))) ln_L_114 (by omega) rfl rfl rfl rfl (Nat.le_of_ble_eq_true rfl) hl.1 ⟨Nat.le_of_ble_eq_true rfl, Nat.le_of_ble_eq_true rfl⟩ ⟨Nat.le_of_ble_eq_true rfl, Nat.le_of_ble_eq_true rfl⟩ dL_law_782 (fun x50197 v50198 H locs h50196 HX50199 => ?_)
            have hC_v50198 := h50196.1.2
            have h_stays := h50196.1.1
            have hC_785 := hC_v50198
            have hM_785 : fa_RM r50012 := hi_18.2.2.1
            have hJ_785 : fa_MJ v50198 := fa_MJ_cong (fun k h1 h2 => h50196.2 k (by omega)) hi_18.2.2.2.1
            have hkc_785 := h_stays.2 Ar hV18.1 hV18.2.2.1
            have hV_785 := hV18.rsn h_stays.1 h50196.2
            have hE_785 : fa_TE v50198 := fa_TE.cls hi_18.2.2.2.2.1 (show v50198 395 1 = v50011 395 1 from by rw [h50196.2 395 (by omega)]) (h50196.2 396 (by omega)) (by rw [h50196.2 397 (by omega)]) (h50196.2 405 (by omega))
            have hW_785 : fb_MV v50198 Ar Hi := hW18.cong (fun i _ => congrFun (h50196.2 398 (by omega)) i) (congrFun (h50196.2 397 (by omega)) 10) (h50196.2 401 (by omega))
            have hR_785 : fb_RE v50198 := hR18.cong (h50196.2 0 (by omega)) (congrFun (h50196.2 397 (by omega)) 8) (h50196.2 404 (by omega))
            refine lv_pop hx hb dL_law_785 rfl ?_
            refine lv_aload_n hx hb dL_law_786 rfl (lv_at hl 2 rfl) ?_
            refine lv_aload_n hx hb dL_law_787 rfl (lv_at hl 0 rfl) ?_
            refine lv_iload_n hx hb dL_law_788 rfl (lv_at hl 3 rfl) ?_
            refine lv_iconst (v := nI (1)) hx hb dL_law_789 (by decide) ?_
            refine fa_iaddN hx hb dL_law_790 ?_
            refine fa_scr (j := it + 1) CX HX50199 hX hbl hG (by omega) (by omega) dL_law_791 ?_
            refine fa_callViu (As := [.int (xs (it + 1))]) (rest := []) CX HX50199 (r_stays l G 406 hn2 v50198 r50012 hM_785 hJ_785 (xs (it + 1))) ln_L_117 (by omega) rfl rfl rfl rfl (Nat.le_of_ble_eq_true rfl) hl.1 ⟨Nat.le_of_ble_eq_true rfl, Nat.le_of_ble_eq_true rfl⟩ ⟨Nat.le_of_ble_eq_true rfl, Nat.le_of_ble_eq_true rfl⟩ dL_law_792 (fun x50201 v50202 H locs h50200 HX50203 => ?_)
            have hJ_v50202 := h50200.1.1
            obtain ⟨n10_v50202, hn10_v50202, g10_v50202⟩ := hJ_v50202.2.2.2.2.1
            have h_stays := h50200.1.2.2.2
            have hC_795 : fa_CI v50202 r50012 := fa_CI.congr hC_785 (fun k h1 h2 => h50200.2 k (by omega)) (fun _ _ => rfl)
            obtain ⟨hW_795, hkm_795, -⟩ := h_stays.2 Ar Hi hW_785
            have hE_795 : fa_TE v50202 := fa_TE.cls hE_785 (by rw [h50200.2 395 (by omega)]) (h50200.2 396 (by omega)) h50200.1.2.1 (h50200.2 405 (by omega))
            have hV_795 := hV_785.cong (v1 := v50202) (fun k k1 k2 => h50200.2 k (by omega))
            have hR_795 : fb_RE v50202 := hR_785.cong (h50200.2 0 (by omega)) h50200.1.2.2.1 (h50200.2 404 (by omega))
            refine lv_pop hx hb dL_law_795 rfl ?_
            refine lv_goto (tgt := 878) hx hb dL_law_796 (by decide) ?_
            refine lv_iinc (v := nI (it + 4)) (lv' := [(3, .int (nI (it + 4))), (0, .ref (b)), (1, .ref (fa_B G + (0))), (2, .ref (fa_B G + (397)))]) hx hb dL_law_878 hl (k := 3) rfl (nI_add (it) 4) (by decide) rfl (fun ls hl => ?_)
            refine lv_goto (tgt := 18) hx hb dL_law_881 (by decide) ?_
            refine W.widen (k := 406) (n := 7199) (by omega) (by omega) ?_
            exact ih_18 (it + 4) v50202 r50012 _ _ _ (by omega) (⟨by omega, hC_795, hM_785, hJ_v50202, hE_795, ⟨_, _, hV_795, hW_795, hR_795⟩⟩) (lv_sub hl [1, 2, 3, 0] rfl) HX50203
          by_cases c_32_25 : (xs it) &&& (nI (31)) = (25 : Int32)
          · refine lv_tableIn (off := 767) (tgt := 799) hx hb dL_law_32 (by rw [c_32_25]; decide) (by rw [c_32_25]; decide) (by rw [c_32_25]; decide) (by decide) ?_
            refine lv_aload_n hx hb dL_law_799 rfl (lv_at hl 1 rfl) ?_
            refine lv_aload_n hx hb dL_law_800 rfl (lv_at hl 0 rfl) ?_
            refine lv_iload_n hx hb dL_law_801 rfl (lv_at hl 3 rfl) ?_
            refine lv_iconst (v := nI (1)) hx hb dL_law_802 (by decide) ?_
            refine fa_iaddN hx hb dL_law_803 ?_
            refine fa_scr (j := it + 1) CX HX50013 hX hbl hG (by omega) (by omega) dL_law_804 ?_
            refine fa_callViu (As := [.int (xs (it + 1))]) (rest := []) CX HX50013 (g_keeper l G 406 hn v50011 r50012 hi_18.2.1 (xs (it + 1))) ln_L_118 (by omega) rfl rfl rfl rfl (Nat.le_of_ble_eq_true rfl) hl.1 ⟨Nat.le_of_ble_eq_true rfl, Nat.le_of_ble_eq_true rfl⟩ ⟨Nat.le_of_ble_eq_true rfl, Nat.le_of_ble_eq_true rfl⟩ dL_law_805 (fun x50205 v50206 H locs h50204 HX50207 => ?_)
            have hC_v50206 := h50204.1.2
            have h_keeper := h50204.1.1
            have hC_808 := hC_v50206
            have hM_808 : fa_RM r50012 := hi_18.2.2.1
            have hJ_808 : fa_MJ v50206 := fa_MJ_cong (fun k h1 h2 => h50204.2 k (by omega)) hi_18.2.2.2.1
            have hkc_808 := h_keeper.2 Ar hV18.1 hV18.2.2.1
            have hV_808 := hV18.rsn h_keeper.1 h50204.2
            have hE_808 : fa_TE v50206 := fa_TE.cls hi_18.2.2.2.2.1 (show v50206 395 1 = v50011 395 1 from by rw [h50204.2 395 (by omega)]) (h50204.2 396 (by omega)) (by rw [h50204.2 397 (by omega)]) (h50204.2 405 (by omega))
            have hW_808 : fb_MV v50206 Ar Hi := hW18.cong (fun i _ => congrFun (h50204.2 398 (by omega)) i) (congrFun (h50204.2 397 (by omega)) 10) (h50204.2 401 (by omega))
            have hR_808 : fb_RE v50206 := hR18.cong (h50204.2 0 (by omega)) (congrFun (h50204.2 397 (by omega)) 8) (h50204.2 404 (by omega))
            refine lv_pop hx hb dL_law_808 rfl ?_
            refine lv_aload_n hx hb dL_law_809 rfl (lv_at hl 2 rfl) ?_
            refine lv_aload_n hx hb dL_law_810 rfl (lv_at hl 0 rfl) ?_
            refine lv_iload_n hx hb dL_law_811 rfl (lv_at hl 3 rfl) ?_
            refine lv_iconst (v := nI (1)) hx hb dL_law_812 (by decide) ?_
            refine fa_iaddN hx hb dL_law_813 ?_
            refine fa_scr (j := it + 1) CX HX50207 hX hbl hG (by omega) (by omega) dL_law_814 ?_
            refine fa_callViu (As := [.int (xs (it + 1))]) (rest := []) CX HX50207 (r_keeper l G 406 hn2 v50206 r50012 hM_808 hJ_808 (xs (it + 1))) ln_L_121 (by omega) rfl rfl rfl rfl (Nat.le_of_ble_eq_true rfl) hl.1 ⟨Nat.le_of_ble_eq_true rfl, Nat.le_of_ble_eq_true rfl⟩ ⟨Nat.le_of_ble_eq_true rfl, Nat.le_of_ble_eq_true rfl⟩ dL_law_815 (fun x50209 v50210 H locs h50208 HX50211 => ?_)
            have hJ_v50210 := h50208.1.1
            obtain ⟨n10_v50210, hn10_v50210, g10_v50210⟩ := hJ_v50210.2.2.2.2.1
            have h_keeper := h50208.1.2.2.2
            have hC_818 : fa_CI v50210 r50012 := fa_CI.congr hC_808 (fun k h1 h2 => h50208.2 k (by omega)) (fun _ _ => rfl)
            obtain ⟨hW_818, hkm_818⟩ := h_keeper Ar Hi hW_808
            have hE_818 : fa_TE v50210 := fa_TE.cls hE_808 (by rw [h50208.2 395 (by omega)]) (h50208.2 396 (by omega)) h50208.1.2.1 (h50208.2 405 (by omega))
            have hV_818 := hV_808.cong (v1 := v50210) (fun k k1 k2 => h50208.2 k (by omega))
            have hR_818 : fb_RE v50210 := hR_808.cong (h50208.2 0 (by omega)) h50208.1.2.2.1 (h50208.2 404 (by omega))
            refine lv_pop hx hb dL_law_818 rfl ?_
            refine lv_goto (tgt := 878) hx hb dL_law_819 (by decide) ?_
            refine lv_iinc (v := nI (it + 4)) (lv' := [(3, .int (nI (it + 4))), (0, .ref (b)), (1, .ref (fa_B G + (0))), (2, .ref (fa_B G + (397)))]) hx hb dL_law_878 hl (k := 3) rfl (nI_add (it) 4) (by decide) rfl (fun ls hl => ?_)
            refine lv_goto (tgt := 18) hx hb dL_law_881 (by decide) ?_
            refine W.widen (k := 406) (n := 7199) (by omega) (by omega) ?_
            exact ih_18 (it + 4) v50210 r50012 _ _ _ (by omega) (⟨by omega, hC_818, hM_808, hJ_v50210, hE_818, ⟨_, _, hV_818, hW_818, hR_818⟩⟩) (lv_sub hl [1, 2, 3, 0] rfl) HX50211
          by_cases c_32_26 : (xs it) &&& (nI (31)) = (26 : Int32)
          · refine lv_tableIn (off := 790) (tgt := 822) hx hb dL_law_32 (by rw [c_32_26]; decide) (by rw [c_32_26]; decide) (by rw [c_32_26]; decide) (by decide) ?_
            refine lv_aload_n hx hb dL_law_822 rfl (lv_at hl 1 rfl) ?_
            refine lv_aload_n hx hb dL_law_823 rfl (lv_at hl 0 rfl) ?_
            refine lv_iload_n hx hb dL_law_824 rfl (lv_at hl 3 rfl) ?_
            refine lv_iconst (v := nI (1)) hx hb dL_law_825 (by decide) ?_
            refine fa_iaddN hx hb dL_law_826 ?_
            refine fa_scr (j := it + 1) CX HX50013 hX hbl hG (by omega) (by omega) dL_law_827 ?_
            refine fa_callVi (As := [.int (xs (it + 1))]) (rest := []) CX HX50013 (g_burntIn l G 406 hn v50011 r50012 hi_18.2.1 (xs (it + 1))) ln_L_122 (by omega) rfl rfl rfl rfl (Nat.le_of_ble_eq_true rfl) hl.1 ⟨Nat.le_of_ble_eq_true rfl, Nat.le_of_ble_eq_true rfl⟩ ⟨Nat.le_of_ble_eq_true rfl, Nat.le_of_ble_eq_true rfl⟩ dL_law_828 (fun x50213 v50214 r50215 H locs h50212 HX50216 => ?_)
            dsimp only at h50212
            have hC_v50214 := h50212.2.1
            have h_burntIn := h50212.1
            have hC_831 := hC_v50214
            have hM_831 : fa_RM r50215 := fa_RM_cong (h50212.2.2.2 397 (by omega)) hi_18.2.2.1
            have hJ_831 : fa_MJ v50214 := fa_MJ_cong (fun k h1 h2 => h50212.2.2.1 k (by omega)) hi_18.2.2.2.1
            have hV_831 := hV18.fut h50212.2.2.1 h_burntIn
            have hE_831 : fa_TE v50214 := fa_TE.cls hi_18.2.2.2.2.1 (show v50214 395 1 = v50011 395 1 from by rw [h50212.2.2.1 395 (by omega)]) (h50212.2.2.1 396 (by omega)) (by rw [h50212.2.2.1 397 (by omega)]) (h50212.2.2.1 405 (by omega))
            have hW_831 : fb_MV v50214 Ar Hi := hW18.cong (fun i _ => congrFun (h50212.2.2.1 398 (by omega)) i) (congrFun (h50212.2.2.1 397 (by omega)) 10) (h50212.2.2.1 401 (by omega))
            have hR_831 : fb_RE v50214 := hR18.cong (h50212.2.2.1 0 (by omega)) (congrFun (h50212.2.2.1 397 (by omega)) 8) (h50212.2.2.1 404 (by omega))
            refine lv_pop hx hb dL_law_831 rfl ?_
            refine lv_aload_n hx hb dL_law_832 rfl (lv_at hl 2 rfl) ?_
            refine lv_aload_n hx hb dL_law_833 rfl (lv_at hl 0 rfl) ?_
            refine lv_iload_n hx hb dL_law_834 rfl (lv_at hl 3 rfl) ?_
            refine lv_iconst (v := nI (1)) hx hb dL_law_835 (by decide) ?_
            refine fa_iaddN hx hb dL_law_836 ?_
            refine fa_scr (j := it + 1) CX HX50216 hX hbl hG (by omega) (by omega) dL_law_837 ?_
            refine fa_callViu (As := [.int (xs (it + 1))]) (rest := []) CX HX50216 (r_burntIn l G 406 hn2 v50214 r50215 hM_831 hJ_831 (xs (it + 1))) ln_L_125 (by omega) rfl rfl rfl rfl (Nat.le_of_ble_eq_true rfl) hl.1 ⟨Nat.le_of_ble_eq_true rfl, Nat.le_of_ble_eq_true rfl⟩ ⟨Nat.le_of_ble_eq_true rfl, Nat.le_of_ble_eq_true rfl⟩ dL_law_838 (fun x50218 v50219 H locs h50217 HX50220 => ?_)
            have hJ_v50219 := h50217.1.1
            obtain ⟨n10_v50219, hn10_v50219, g10_v50219⟩ := hJ_v50219.2.2.2.2.1
            have h_burntIn := h50217.1.2.2.2
            have hC_841 : fa_CI v50219 r50215 := fa_CI.congr hC_831 (fun k h1 h2 => h50217.2 k (by omega)) (fun _ _ => rfl)
            have hW_841 := h_burntIn Ar Hi hW_831
            have hE_841 : fa_TE v50219 := fa_TE.cls hE_831 (by rw [h50217.2 395 (by omega)]) (h50217.2 396 (by omega)) h50217.1.2.1 (h50217.2 405 (by omega))
            have hV_841 := hV_831.cong (v1 := v50219) (fun k k1 k2 => h50217.2 k (by omega))
            have hR_841 : fb_RE v50219 := hR_831.cong (h50217.2 0 (by omega)) h50217.1.2.2.1 (h50217.2 404 (by omega))
            refine lv_pop hx hb dL_law_841 rfl ?_
            refine lv_goto (tgt := 878) hx hb dL_law_842 (by decide) ?_
            refine lv_iinc (v := nI (it + 4)) (lv' := [(3, .int (nI (it + 4))), (0, .ref (b)), (1, .ref (fa_B G + (0))), (2, .ref (fa_B G + (397)))]) hx hb dL_law_878 hl (k := 3) rfl (nI_add (it) 4) (by decide) rfl (fun ls hl => ?_)
            refine lv_goto (tgt := 18) hx hb dL_law_881 (by decide) ?_
            refine W.widen (k := 406) (n := 7199) (by omega) (by omega) ?_
            exact ih_18 (it + 4) v50219 r50215 _ _ _ (by omega) (⟨by omega, hC_841, hM_831, hJ_v50219, hE_841, ⟨_, _, hV_841, hW_841, hR_841⟩⟩) (lv_sub hl [1, 2, 3, 0] rfl) HX50220
          by_cases c_32_27 : (xs it) &&& (nI (31)) = (27 : Int32)
          · refine lv_tableIn (off := 813) (tgt := 845) hx hb dL_law_32 (by rw [c_32_27]; decide) (by rw [c_32_27]; decide) (by rw [c_32_27]; decide) (by decide) ?_
            refine lv_aload_n hx hb dL_law_845 rfl (lv_at hl 1 rfl) ?_
            refine lv_aload_n hx hb dL_law_846 rfl (lv_at hl 0 rfl) ?_
            refine lv_iload_n hx hb dL_law_847 rfl (lv_at hl 3 rfl) ?_
            refine lv_iconst (v := nI (1)) hx hb dL_law_848 (by decide) ?_
            refine fa_iaddN hx hb dL_law_849 ?_
            refine fa_scr (j := it + 1) CX HX50013 hX hbl hG (by omega) (by omega) dL_law_850 ?_
            refine lv_aload_n hx hb dL_law_851 rfl (lv_at hl 0 rfl) ?_
            refine lv_iload_n hx hb dL_law_852 rfl (lv_at hl 3 rfl) ?_
            refine lv_iconst (v := nI (2)) hx hb dL_law_853 (by decide) ?_
            refine fa_iaddN hx hb dL_law_854 ?_
            refine fa_scr (j := it + 2) CX HX50013 hX hbl hG (by omega) (by omega) dL_law_855 ?_
            refine fa_callVi (As := [.int (xs (it + 1)), .int (xs (it + 2))]) (rest := []) CX HX50013 (g_ifPassed l G 406 hn v50011 r50012 hi_18.2.1 (xs (it + 1)) (xs (it + 2))) ln_L_126 (by omega) rfl rfl rfl rfl (Nat.le_of_ble_eq_true rfl) hl.1 ⟨Nat.le_of_ble_eq_true rfl, Nat.le_of_ble_eq_true rfl⟩ ⟨Nat.le_of_ble_eq_true rfl, Nat.le_of_ble_eq_true rfl⟩ dL_law_856 (fun x50222 v50223 r50224 H locs h50221 HX50225 => ?_)
            dsimp only at h50221
            have hC_v50223 := h50221.2.1
            have h_ifPassed := h50221.1
            have hC_859 := hC_v50223
            have hM_859 : fa_RM r50224 := fa_RM_cong (h50221.2.2.2 397 (by omega)) hi_18.2.2.1
            have hJ_859 : fa_MJ v50223 := fa_MJ_cong (fun k h1 h2 => h50221.2.2.1 k (by omega)) hi_18.2.2.2.1
            have hV_859 := hV18.fut h50221.2.2.1 h_ifPassed
            have hE_859 : fa_TE v50223 := fa_TE.cls hi_18.2.2.2.2.1 (show v50223 395 1 = v50011 395 1 from by rw [h50221.2.2.1 395 (by omega)]) (h50221.2.2.1 396 (by omega)) (by rw [h50221.2.2.1 397 (by omega)]) (h50221.2.2.1 405 (by omega))
            have hW_859 : fb_MV v50223 Ar Hi := hW18.cong (fun i _ => congrFun (h50221.2.2.1 398 (by omega)) i) (congrFun (h50221.2.2.1 397 (by omega)) 10) (h50221.2.2.1 401 (by omega))
            have hR_859 : fb_RE v50223 := hR18.cong (h50221.2.2.1 0 (by omega)) (congrFun (h50221.2.2.1 397 (by omega)) 8) (h50221.2.2.1 404 (by omega))
            refine lv_pop hx hb dL_law_859 rfl ?_
            refine lv_aload_n hx hb dL_law_860 rfl (lv_at hl 2 rfl) ?_
            refine lv_aload_n hx hb dL_law_861 rfl (lv_at hl 0 rfl) ?_
            refine lv_iload_n hx hb dL_law_862 rfl (lv_at hl 3 rfl) ?_
            refine lv_iconst (v := nI (1)) hx hb dL_law_863 (by decide) ?_
            refine fa_iaddN hx hb dL_law_864 ?_
            refine fa_scr (j := it + 1) CX HX50225 hX hbl hG (by omega) (by omega) dL_law_865 ?_
            refine lv_aload_n hx hb dL_law_866 rfl (lv_at hl 0 rfl) ?_
            refine lv_iload_n hx hb dL_law_867 rfl (lv_at hl 3 rfl) ?_
            refine lv_iconst (v := nI (2)) hx hb dL_law_868 (by decide) ?_
            refine fa_iaddN hx hb dL_law_869 ?_
            refine fa_scr (j := it + 2) CX HX50225 hX hbl hG (by omega) (by omega) dL_law_870 ?_
            refine fa_callViu (As := [.int (xs (it + 1)), .int (xs (it + 2))]) (rest := []) CX HX50225 (r_ifPassed l G 406 hn2 v50223 r50224 hM_859 hJ_859 (xs (it + 1)) (xs (it + 2))) ln_L_129 (by omega) rfl rfl rfl rfl (Nat.le_of_ble_eq_true rfl) hl.1 ⟨Nat.le_of_ble_eq_true rfl, Nat.le_of_ble_eq_true rfl⟩ ⟨Nat.le_of_ble_eq_true rfl, Nat.le_of_ble_eq_true rfl⟩ dL_law_871 (fun x50227 v50228 H locs h50226 HX50229 => ?_)
            have hJ_v50228 := h50226.1.1
            obtain ⟨n10_v50228, hn10_v50228, g10_v50228⟩ := hJ_v50228.2.2.2.2.1
            have h_ifPassed := h50226.1.2.2.2
            have hC_874 : fa_CI v50228 r50224 := fa_CI.congr hC_859 (fun k h1 h2 => h50226.2 k (by omega)) (fun _ _ => rfl)
            have hW_874 := h_ifPassed Ar Hi hW_859
            have hE_874 : fa_TE v50228 := fa_TE.cls hE_859 (by rw [h50226.2 395 (by omega)]) (h50226.2 396 (by omega)) h50226.1.2.1 (h50226.2 405 (by omega))
            have hV_874 := hV_859.cong (v1 := v50228) (fun k k1 k2 => h50226.2 k (by omega))
            have hR_874 : fb_RE v50228 := hR_859.cong (h50226.2 0 (by omega)) h50226.1.2.2.1 (h50226.2 404 (by omega))
            refine lv_pop hx hb dL_law_874 rfl ?_
            refine lv_goto (tgt := 878) hx hb dL_law_875 (by decide) ?_
            refine lv_iinc (v := nI (it + 4)) (lv' := [(3, .int (nI (it + 4))), (0, .ref (b)), (1, .ref (fa_B G + (0))), (2, .ref (fa_B G + (397)))]) hx hb dL_law_878 hl (k := 3) rfl (nI_add (it) 4) (by decide) rfl (fun ls hl => ?_)
            refine lv_goto (tgt := 18) hx hb dL_law_881 (by decide) ?_
            refine W.widen (k := 406) (n := 7199) (by omega) (by omega) ?_
            exact ih_18 (it + 4) v50228 r50224 _ _ _ (by omega) (⟨by omega, hC_874, hM_859, hJ_v50228, hE_874, ⟨_, _, hV_874, hW_874, hR_874⟩⟩) (lv_sub hl [1, 2, 3, 0] rfl) HX50229
          have hout_32 : ((xs it) &&& (nI (31))).toInt < 0 ∨ 27 < ((xs it) &&& (nI (31))).toInt := by
            have z0 := lv_neT (a := 0) c_32_0 (by decide)
            have z1 := lv_neT (a := 1) c_32_1 (by decide)
            have z2 := lv_neT (a := 2) c_32_2 (by decide)
            have z3 := lv_neT (a := 3) c_32_3 (by decide)
            have z4 := lv_neT (a := 4) c_32_4 (by decide)
            have z5 := lv_neT (a := 5) c_32_5 (by decide)
            have z6 := lv_neT (a := 6) c_32_6 (by decide)
            have z7 := lv_neT (a := 7) c_32_7 (by decide)
            have z8 := lv_neT (a := 8) c_32_8 (by decide)
            have z9 := lv_neT (a := 9) c_32_9 (by decide)
            have z10 := lv_neT (a := 10) c_32_10 (by decide)
            have z11 := lv_neT (a := 11) c_32_11 (by decide)
            have z12 := lv_neT (a := 12) c_32_12 (by decide)
            have z13 := lv_neT (a := 13) c_32_13 (by decide)
            have z14 := lv_neT (a := 14) c_32_14 (by decide)
            have z15 := lv_neT (a := 15) c_32_15 (by decide)
            have z16 := lv_neT (a := 16) c_32_16 (by decide)
            have z17 := lv_neT (a := 17) c_32_17 (by decide)
            have z18 := lv_neT (a := 18) c_32_18 (by decide)
            have z19 := lv_neT (a := 19) c_32_19 (by decide)
            have z20 := lv_neT (a := 20) c_32_20 (by decide)
            have z21 := lv_neT (a := 21) c_32_21 (by decide)
            have z22 := lv_neT (a := 22) c_32_22 (by decide)
            have z23 := lv_neT (a := 23) c_32_23 (by decide)
            have z24 := lv_neT (a := 24) c_32_24 (by decide)
            have z25 := lv_neT (a := 25) c_32_25 (by decide)
            have z26 := lv_neT (a := 26) c_32_26 (by decide)
            have z27 := lv_neT (a := 27) c_32_27 (by decide)
            omega
          refine lv_tableOut (tgt := 878) hx hb dL_law_32 hout_32 (by decide) ?_
          refine lv_iinc (v := nI (it + 4)) (lv' := [(3, .int (nI (it + 4))), (0, .ref (b)), (1, .ref (fa_B G + (0))), (2, .ref (fa_B G + (397)))]) hx hb dL_law_878 hl (k := 3) rfl (nI_add (it) 4) (by decide) rfl (fun ls hl => ?_)
          refine lv_goto (tgt := 18) hx hb dL_law_881 (by decide) ?_
          refine W.widen (k := 406) (n := 7199) (by omega) (by omega) ?_
          exact ih_18 (it + 4) v50011 r50012 _ _ _ (by omega) (⟨by omega, hi_18.2.1, hi_18.2.2.1, hi_18.2.2.2.1, hi_18.2.2.2.2.1, ⟨_, _, hV18, hW18, hR18⟩⟩) (lv_sub hl [1, 2, 3, 0] rfl) HX50013
    refine W.widen (k := 406) (n := 7199) (by omega) (by omega) ?_
    exact LOOP_18 (2056 - 0 + 1) (0) v50007 r50008 _ _ _ (Nat.lt_succ_self _) (⟨Nat.zero_le _, hC, hM, hJ, hE, ⟨_, _, hV, hW, hR⟩⟩) (lv_sub hl [3, 2, 1, 0] rfl) HX50010
set_option maxHeartbeats 4000000 in
theorem lw_walk (l : Launch) (hflags : l.flags = flags0) (b : Addr) (xs : List Int32) : MetFree l x (headSpec (Jvm.Cond.code x code maxLocals ret :: tables_1) room_1) (lw_P b xs) (fun _ _ _ _ _ => True) lw_Q := by
  refine MetFree.of_bodyS (code := code) (maxLocals := maxLocals) (ret := ret) (by decide) ?_ ?_
  · intro args s m h hn
    obtain ⟨meth, c, h1, h2, h3, h4, h5, h6, -, -⟩ := Cond.code_spec hn (atoms_spec (ws := Jvm.Cond.code x code maxLocals ret :: tables_1) h _ List.mem_cons_self)
    exact ⟨meth, c, h1, h2, h3, h4, h5, h6⟩
  · intro p e s m args below meth c s₁ B hml0 hP _
    obtain ⟨rfl, hx, hbd, hgv⟩ := hP
    obtain ⟨scr, harrAt, hlist, hof, hsmall⟩ := hx
    obtain ⟨hcb, hkn, -, -⟩ := State.arrayAt?_spec harrAt
    have hown : s.vm.findClass R_law = some m.cls := findClass_of_methodNamed B.named
    have hts0 : ∀ c ∈ (Jvm.Cond.code x code maxLocals ret :: tables_1), c.before #[Value.ref b] s = true := atoms_spec (ws := Jvm.Cond.code x code maxLocals ret :: tables_1) B.pre
    have hts : ∀ w ∈ lw_tbl, w.before #[Value.ref b] s = true := k2_hts_sels lw_privs (fun w hw => hts0 w (List.mem_cons_of_mem _ hw)) lw_privs_ok
    have hml : c.maxLocals = 8 := B.maxLocals_eq (hts0 _ List.mem_cons_self)
    have X₀ : Stand p l e room_1 s m #[Value.ref b] below meth c s₁ [] 0 0 := Stand.of_body B
    have hh0 : s₁.heap = s.heap := by rw [B.state]; rfl
    have hsz : scr.slots.size = xs.length := by rw [← Array.length_toList, hlist, List.length_map]
    have hval : ∀ j : Nat, j < xs.length → scr.slots[j]? = some (.int (xs.getD j 0)) := fun j hj => by
      rw [← Array.getElem?_toList, hlist]
      simp [hj]
    have hbl : b < s.heap.size := (Array.getElem?_eq_some_iff.mp hcb).1
    have hX : va_X b xs.length (fun j => xs.getD j 0) s s.heap := ⟨scr, hcb, hof, hkn, hsz, hval⟩
    have K : W p l e room_1 s m #[Value.ref b] below meth c s₁.heap [] 0 0 (lw_Z below #[Value.ref b] s) (entryFrame m ([Value.ref b] : List Value).toArray 8) := by
      rw [hh0]
      exact whole_start l hflags hbd ⟨B.exec, B.bytes, B.returns, hml, hown, hts, hX, hbl, B.notSynchronized, hgv⟩
    obtain ⟨t, a1, o, b1, b2, b3⟩ := K s₁ rfl X₀
    exact ⟨t, o, a1, b1, b2, b3⟩
theorem lw_pre_spec {args : Array Value} {s : State} (h : (Jvm.Cond.and given_1 narrow_1).before args s = true) (hr : rest_1_c.before args s = true) : ∃ (b : Addr) (xs : List Int32), lw_P b xs args s := by
  have hs := flat_of_before _ h
  have hq := flat_of_before _ hr
  have hc : (Cond.count 1).before args s = true := hs _ (by decide +kernel)
  have harr : (Cond.arrayOf (.arg 0) .int).before args s = true := hs _ (by decide +kernel)
  have hle : (Cond.le (.length (.arg 0)) (.int 2048)).before args s = true := hs _ (by decide +kernel)
  have hlen : (Cond.isInt (.length (.arg 0))).before args s = true := hq _ (by decide +kernel)
  have hall : (Cond.all (.arg 0) (.isInt (.elem (.arg 0) (.index 0)))).before args s = true := hq _ (by decide +kernel)
  obtain ⟨b, xs, hb, hx⟩ := State.ints_of_pre rfl harr hlen hall
  have hsm : xs.length < 2 ^ 31 := hx.choose_spec.2.2.2
  have hev : (Term.length (.arg 0)).eval args s none [] s = some (.int xs.length.toInt32) := hx.length_eval hb
  have hv := Cond.le_ints hev (show (Term.int 2048).eval args s none [] s = some (.int 2048) from rfl)
  have hd : xs.length.toInt32 ≤ 2048 := by
    simpa [Cond.before, Cond.holds, hv] using hle
  have hN : xs.length ≤ 2048 := (Int32.ofNat_le_ofNat hsm (by decide)).mp (show Int32.ofNat xs.length ≤ Int32.ofNat 2048 from hd)
  exact ⟨b, xs, Cond.one_arg hc (show args[0]? = some (.ref b) from hb), hx, hN, h⟩
theorem lw_comes (l : Launch) (hflags : l.flags = flags0) : Comes l x (Jvm.Cond.code x code maxLocals ret :: tables_1) room_1 (fun tb e args s => Calls_1 tb e args s ∧ rest_1 tb e args s ∧ Pre_1 tb e args s)
    (fun _ _ args s o t => lw_Q args s o t) := by
  intro p e ha hc hk s m args below hf hfit hheap happ hpre
  obtain ⟨b, xs, hP⟩ := lw_pre_spec hpre.2.2 hpre.2.1
  obtain ⟨k, o, h1, h2, h3, hQ⟩ := lw_walk l hflags b xs p e ha hc hk s m args below hf ((Spec.applies_iff_loose hf).mp happ).1 hP trivial
  exact ⟨k, o, h1, h2, h3, hQ⟩
theorem lw_frame {s t : State} {o : Outcome} {args : Array Value} (h : State.butDraws s t lw_cs (fun t1 => Framed s o t1 [] 600000 7302250)) :
    State.butDraws s t [Jvm.Choice.named "NaN.bits"] (fun t1 => Framed s o t1 (fieldLocs frame_1_writes args s ++ arrayLocs frame_1_arrays args s ++ staticLocs frame_1_statics s) 600000 7302250) := h
theorem lw_limb (L : Cond) (hL : ∀ (args : Array Value) (s t : State), L.after args s (.returned (some (.int 1))) t = true) :
    ArmFor flags0 classFile x code maxLocals ret World_1 tables_1 room_1 Calls_1 rest_1 Pre_1
      (fun tb e a s o t => postC L tb e a s o t ∧ State.butDraws s t [Jvm.Choice.named "NaN.bits"] (fun t1 => Framed s o t1 (fieldLocs frame_1_writes a s ++ arrayLocs frame_1_arrays a s ++ staticLocs frame_1_statics s) 600000 7302250)) := by
  intro l hflags _ _ p e ha hc hk s m args below hf hfit hheap happ hpre
  obtain ⟨k, o, h1, h2, h3, rfl, hF⟩ := lw_comes l hflags p e ha hc hk s m args below hf hfit hheap happ hpre
  exact ⟨k, _, h1, h2, h3, hL args s _, lw_frame hF⟩
theorem i_vc : Claimed_1_1 ∧ Claimed_1_2 := ⟨lw_limb limb_1_1 (fun args s t => by simp [limb_1_1, Cond.after, Cond.holds, Cond.value]), lw_limb limb_1_2 (fun args s t => Cond.after_iff.mpr (by
  first | (rw [show limb_1_2 = Cond.eq .result (.int 1) from rfl, Cond.eq_ints (x := 1) (y := 1) rfl rfl]; simp; done) | (simp [limb_1_2, Cond.value, Term.eval]; done)))⟩

