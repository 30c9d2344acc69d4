/-! THE CLAIM OUT OF ONE WALK OF THE LAW'S BODY. Your part is whole_start (and what it stands on); all else here is the same for every law, but numbers. -/
def R_law : String := "ForgettingArchiveLaw"
def lw_P (b : Addr) (xs : List Int32) (args : Array Value) (s : State) : Prop := args = #[.ref b] ∧ s.IntsAt b xs ∧ xs.length ≤ 4 ∧ (Jvm.Cond.and given_1 narrow_1).before args s = true
/-- what a walk over the start with the record d0 says of its end, said of the start itself -/
theorem lw_closed {s t : State} {o : Outcome} {d0 : Drawn} {L : List Loc} {k n : Nat} (hd0 : s.drawn.sameBut d0 lw_cs) (hv : ∃ v, o = .returned v) (hW : (s.setDrawn d0).WarmedH t.vm) (hs : (s.setDrawn d0).sameButNew ({ t with vm := s.vm } : State) L k n) : State.butDraws s t lw_cs (fun t1 => Framed s o t1 L k n) := by
  have h2 : t.drawn = d0 := congrArg State.drawn hs.1
  refine ⟨⟨hv, hW, State.sameButNew.setDrawn hs s.drawn⟩, ?_, by decide⟩
  rw [h2]
  exact hd0
def lw_Q (_ : Array Value) (s : State) (o : Outcome) (t : State) : Prop := o = .returned (some (.int 1)) ∧ State.butDraws s t lw_cs (fun t1 => Framed s o t1 [] 600000 7302250)
def lw_Z (below : List Frame) (a : Array Value) (s : State) : State → Prop := fun t => ∃ o, t.status = .running ∧ Ended t below o ∧ lw_Q a s o t
/-- the law's own end, with 1 on the stack, nothing written that was there before, its room as the claim has it; d0: the record of draws at this point (at the entry s.drawn: begin with 'refine W.base ?_' and 'have hd0 := Drawn.sameBut.refl s.drawn lw_cs') -/
theorem lw_ret {p : Program} {l : Launch} {e : Env} {s : State} {m : MethodId} {below : List Frame} {meth : Method} {c : Code} {b : Nat} {d0 : Drawn} (hd0 : s.drawn.sameBut d0 lw_cs) (hx : p.tables.exec = Jvm.exec) (hb : c.code = code) (hr : meth.sig.returnType = ret) (hlocks : meth.locks = false) {pc : Nat} {H : Heap} {ls : Array Slot} (hdg : decode code pc = .ok (.ireturn, 1)) : W p l e room_1 (s.setDrawn d0) m #[Value.ref b] below meth c H [] 600000 7302250 (lw_Z below #[Value.ref b] s) (F0 m pc ls [.int 1]) := by
  intro T hT X
  obtain ⟨fs, hret, hrun, hended, hW, hframe⟩ := X.leave (v := some (.int 1)) (hlocks := hlocks) (fun h => by rw [hr] at h; cases h)
  have hmeth' : T.vm.method? m = some meth := X.method'
  refine ⟨T.setFrames fs, ?_, .returned (some (.int 1)), hrun, hended, rfl, lw_closed hd0 ⟨_, rfl⟩ hW hframe⟩
  jvm_step X.here [X.here.top, hx, hb, hdg, hmeth', hr, ret, narrow_b1]
  (try refine ⟨rfl, ?_⟩); (try refine ⟨rfl, ?_⟩)
  first | (intro acts; rw [hret _ acts rfl rfl rfl]) | rw [hret _ _ rfl rfl rfl]
  exact Steps.refl _
/-- what holds at the law's entry: the machine, the code, the tables' words (any of lw_tbl by 'hts w (by decide +kernel)'), the script of L ints xs at the cell b, what the Statement gives of the start (any of its parts by flat_of_before) -/
def lw_At (p : Program) (s : State) (m : MethodId) (meth : Method) (c : Code) (b L : Nat) (xs : Nat → Int32) : Prop :=
  p.tables.exec = Jvm.exec ∧ c.code = code ∧ meth.sig.returnType = ret ∧ c.maxLocals = 8 ∧ s.vm.findClass R_law = some m.cls ∧ (∀ w ∈ lw_tbl, w.before #[Value.ref b] s = true) ∧ va_X b L xs s s.heap ∧ b < s.heap.size ∧ meth.locks = false ∧ (Jvm.Cond.and given_1 narrow_1).before #[Value.ref b] s = true
-- ===== YOUR PART =====
set_option maxHeartbeats 8000000 in
set_option maxRecDepth 100000 in
theorem whole_start {p : Program} {e : Env} {s : State} {m : MethodId} {below : List Frame} {meth : Method} {c : Code} (l : Launch) (hflags : l.flags = flags0) {b L : Nat} {xs : Nat → Int32} (hL : L ≤ 4) (C0 : lw_At p s m meth c b L xs) : W p l e room_1 s m #[Value.ref b] below meth c s.heap [] 0 0 (lw_Z below #[Value.ref b] s) (entryFrame m ([Value.ref b] : List Value).toArray 8) := by
  obtain ⟨hx, hb, hr, hml, hown, hts, hX, hbl, hlocks, hgv⟩ := C0
  obtain ⟨G, hG, hE⟩ := fa_env0 hts hgv
  have hd0 : s.drawn.sameBut s.drawn lw_cs := Drawn.sameBut.refl s.drawn lw_cs
  obtain ⟨v, hv⟩ : ∃ v : fa_V, v = fun _ _ => 0 := ⟨_, rfl⟩
  obtain ⟨r, hr0⟩ : ∃ r : fa_R, r = fun _ _ => none := ⟨_, rfl⟩
  have hz : fa_Z0 0 v r := fun q _ => ⟨fun i => by rw [hv], fun i => by rw [hr0]⟩
  have CX : fa_CX G p s m #[Value.ref b] c code 8 RL := ⟨⟨hx, hb, hml, hown, fun w hw => hts w (fa_tbl_sub w hw)⟩, hE⟩
  have HX : fa_HX G 0 v r s s.heap [] := ⟨fun k q h => by simp [fa_w] at h, va_S.rf⟩
  have hl := lv_entry ([.ref b]) (n := 8) (Nat.le_of_ble_eq_true rfl)
  rw [lg_entry_eq]
  generalize (lg_sl ([.ref b]) ++ List.replicate (8 - (lg_sl ([.ref b])).length) Slot.unset).toArray = ls at hl ⊢
  have hl : lv_has ls 8 [(0, .ref b)] := hl
  have RET : ∀ (n : Nat) (v : fa_V) (r : fa_R) (H : Heap) (locs : List Loc) (cells slots pc : Nat) (ls : Array Slot), fa_HX G n v r s H locs → cells ≤ 600000 → slots ≤ 7302250 → decode code pc = .ok (.ireturn, 1) → W p l e room_1 s m #[Value.ref b] below meth c H locs cells slots (lw_Z below #[Value.ref b] s) (F0 m pc ls [.int 1]) := fun n v r H locs cells slots pc ls HX h1 h2 hd => va_forget (fun q hq => by have := HX.2.2.2 q hq; unfold fa_A at this; omega) (W.widen h1 h2 (lw_ret hd0 hx hb hr hlocks hd))
  refine fa_new (N := 7) CX HX mk_L_7 (by omega) rfl (fun i => by (exact (hz (0) (by omega)).1 i)) (fun i => by (exact (hz (0) (by omega)).2 i)) (by show 0 + 1 ≤ 600000; first | decide | omega) (by show 0 + 7 ≤ 7302250; first | decide | omega) dL_law_0 (fun H HX5001 => ?_)
  have HX5001 : fa_HX G (1) v r s _ _ := HX5001
  refine W.widen (k := 1) (n := 7) (by first | exact Nat.le_refl _ | omega) (by first | exact Nat.le_refl _ | omega) ?_
  refine lv_dup hx hb dL_law_3 rfl ?_
  refine fa_ctorI (rest := [.ref (fa_B G + (0))]) CX HX5001 (k_X6_init l G v r (fun q hq => hz q (by omega)) (hz 0 (by omega)).1) ln_L_9 ⟨by decide +kernel, by decide +kernel, by decide +kernel, by decide +kernel⟩ (by omega) (Nat.le_of_ble_eq_true rfl) hl.1 ⟨Nat.le_of_ble_eq_true rfl, Nat.le_of_ble_eq_true rfl⟩ ⟨by show 1 + 396 ≤ 600000; first | decide | omega, by show 7 + 3797 ≤ 7302250; first | decide | omega⟩ dL_law_4 (fun v5002 r5003 H locs h5004 HX5005 => ?_)
  dsimp only at h5004
  obtain ⟨hA, hH, hr1, hr57, hrH, hFV, hz⟩ := h5004
  have HX5005 : fa_HX G (397) v5002 r5003 s _ _ := HX5005
  refine W.widen (k := 397) (n := 3804) (by first | exact Nat.le_refl _ | omega) (by first | exact Nat.le_refl _ | omega) ?_
  refine lv_astore_n (lv' := [(1, .ref (fa_B G + (0))), (0, .ref (b))]) hx hb dL_law_7 rfl hl (by decide) rfl (fun ls hl => ?_)
  refine fa_new (N := 13) CX HX5005 mk_L_10 (by omega) rfl (fun i => by (exact (hz (397) (by omega)).1 i)) (fun i => by (exact (hz (397) (by omega)).2 i)) (by show 397 + 1 ≤ 600000; first | decide | omega) (by show 3804 + 13 ≤ 7302250; first | decide | omega) dL_law_8 (fun H HX5006 => ?_)
  have HX5006 : fa_HX G (398) v5002 r5003 s _ _ := HX5006
  refine W.widen (k := 398) (n := 3817) (by first | exact Nat.le_refl _ | omega) (by first | exact Nat.le_refl _ | omega) ?_
  refine lv_dup hx hb dL_law_11 rfl ?_
  refine fa_ctorI (rest := [.ref (fa_B G + (397))]) CX HX5006 (k_X7_init l G v5002 r5003 (fun q hq => hz q (by omega))) ln_L_12 ⟨by decide +kernel, by decide +kernel, by decide +kernel, by decide +kernel⟩ (by omega) (Nat.le_of_ble_eq_true rfl) hl.1 ⟨Nat.le_of_ble_eq_true rfl, Nat.le_of_ble_eq_true rfl⟩ ⟨by show 398 + 8 ≤ 600000; first | decide | omega, by show 3817 + 3382 ≤ 7302250; first | decide | omega⟩ dL_law_12 (fun v5007 r5008 H locs h5009 HX5010 => ?_)
  dsimp only at h5009
  obtain ⟨hM, hv7, hs7, hs0, hr7⟩ := h5009
  have hFM : fa_FM v5007 := ⟨fun i h1 _ => hs7 i h1, hs0, by rw [hv7 397 (by omega)]; exact (hz 397 (by omega)).1 8, by rw [hv7 397 (by omega)]; exact (hz 397 (by omega)).1 9, by rw [hv7 397 (by omega)]; exact (hz 397 (by omega)).1 10⟩
  have hFV := fa_FV_cong hv7 hFV
  have hA := fa_RA_cong hr7 hA
  have hH : ∀ i, i < 5 → r5008 114 i = some (115 + 56 * i) := fun i hi => by rw [hr7 114 (by omega)]; exact hH i hi
  have hr1 := fa_RS_cong (b := 1) (fun q _ _ => hr7 q (by omega)) hr1
  have hr57 := fa_RS_cong (b := 57) (fun q _ _ => hr7 q (by omega)) hr57
  have hr115 := fa_RS_cong (b := 115) (fun q _ _ => hr7 q (by omega)) (hrH 0 (by decide))
  have hn : 397 ≤ 406 := by decide
  have hn2 : 406 ≤ 406 := by decide
  have HX5010 : fa_HX G (406) v5007 r5008 s _ _ := HX5010
  refine W.widen (k := 406) (n := 7199) (by first | exact Nat.le_refl _ | omega) (by first | exact Nat.le_refl _ | omega) ?_
  refine lv_astore_n (lv' := [(2, .ref (fa_B G + (397))), (1, .ref (fa_B G + (0))), (0, .ref (b))]) hx hb dL_law_15 rfl hl (by decide) rfl (fun ls hl => ?_)
  refine lv_iconst (v := nI (0)) hx hb dL_law_16 (by decide) ?_
  refine lv_istore_n (lv' := [(3, .int (nI (0))), (2, .ref (fa_B G + (397))), (1, .ref (fa_B G + (0))), (0, .ref (b))]) hx hb dL_law_17 rfl hl (by decide) rfl (fun ls hl => ?_)
  rcases (show L < 4 ∨ L = 4 by omega) with hL4 | hL4
  · have hL4b := hL4
    refine lv_iload_n hx hb dL_law_18 rfl (lv_at hl 0 rfl) ?_
    refine lv_aload_n hx hb dL_law_19 rfl (lv_at hl 3 rfl) ?_
    refine fa_slen CX HX5010 hX hbl hG dL_law_20 ?_
    refine lv_iconst (v := nI (4)) hx hb dL_law_21 (by decide) ?_
    refine lv_isub hx hb dL_law_22 ?_
    refine lv_icmp_gt (tgt := 910) hx hb dL_law_23 (by decide) (fun c_23 => ?_) (fun c_23 => ?_)
    · refine lv_iconst (v := nI (1)) hx hb dL_law_910 (by decide) ?_
      exact RET _ _ _ _ _ _ _ _ _ HX5010 (by first | decide | exact Nat.le_of_ble_eq_true rfl) (by first | decide | exact Nat.le_of_ble_eq_true rfl) dL_law_911
    · exact absurd (pk_sneg (by decide) hL4) c_23
  · subst hL4
    refine lv_iload_n hx hb dL_law_18 rfl (lv_at hl 0 rfl) ?_
    refine lv_aload_n hx hb dL_law_19 rfl (lv_at hl 3 rfl) ?_
    refine fa_slen CX HX5010 hX hbl hG dL_law_20 ?_
    refine lv_iconst (v := nI (4)) hx hb dL_law_21 (by decide) ?_
    refine lv_isub hx hb dL_law_22 ?_
    refine lv_icmp_gt (tgt := 910) hx hb dL_law_23 (by decide) (fun c_23 => ?_) (fun c_23 => ?_)
    · exact absurd c_23 (by decide)
    · refine lv_aload_n hx hb dL_law_26 rfl (lv_at hl 3 rfl) ?_
      refine lv_iload_n hx hb dL_law_27 rfl (lv_at hl 0 rfl) ?_
      refine fa_scr (j := 0) CX HX5010 hX hbl hG (by decide) (by decide) dL_law_28 ?_
      refine lv_bipush (v := nI (31)) hx hb dL_law_29 (by decide) ?_
      refine lv_iand hx hb dL_law_31 ?_
      by_cases c_32_0 : (xs 0) &&& (nI (31)) = (0 : Int32)
      · refine lv_tableIn (off := 128) (tgt := 160) hx hb dL_law_32 (by rw [c_32_0]; decide) (by rw [c_32_0]; decide) (by rw [c_32_0]; decide) (by decide) ?_
        refine lv_aload_n hx hb dL_law_160 rfl (lv_at hl 2 rfl) ?_
        refine lv_aload_n hx hb dL_law_161 rfl (lv_at hl 3 rfl) ?_
        refine lv_iload_n hx hb dL_law_162 rfl (lv_at hl 0 rfl) ?_
        refine lv_iconst (v := nI (1)) hx hb dL_law_163 (by decide) ?_
        refine fa_iaddN hx hb dL_law_164 ?_
        refine fa_scr (j := 0 + 1) CX HX5010 hX hbl hG (by decide) (by decide) dL_law_165 ?_
        refine lv_aload_n hx hb dL_law_166 rfl (lv_at hl 3 rfl) ?_
        refine lv_iload_n hx hb dL_law_167 rfl (lv_at hl 0 rfl) ?_
        refine lv_iconst (v := nI (2)) hx hb dL_law_168 (by decide) ?_
        refine fa_iaddN hx hb dL_law_169 ?_
        refine fa_scr (j := 0 + 2) CX HX5010 hX hbl hG (by decide) (by decide) dL_law_170 ?_
        refine fa_callViu (As := [.int (xs (0 + 1)), .int (xs (0 + 2))]) (rest := []) CX HX5010 (p1f_add l G 406 hn v5007 r5008 hA hH hr1 hr57 hr115 hFV (xs (0 + 1)) (xs (0 + 2))) ln_L_13 (by omega) rfl rfl rfl rfl (Nat.le_of_ble_eq_true rfl) hl.1 ⟨Nat.le_of_ble_eq_true rfl, Nat.le_of_ble_eq_true rfl⟩ ⟨Nat.le_of_ble_eq_true rfl, Nat.le_of_ble_eq_true rfl⟩ dL_law_171 (fun x5012 v5013 H locs h5011 HX5014 => ?_)
        have hFM : fa_FM v5013 := fa_FM_cong (h5011.2 397 (by omega)) (h5011.2 398 (by omega)) hFM
        have hx_171 := h5011.1
        refine lv_aload_n hx hb dL_law_174 rfl (lv_at hl 1 rfl) ?_
        refine lv_aload_n hx hb dL_law_175 rfl (lv_at hl 3 rfl) ?_
        refine lv_iload_n hx hb dL_law_176 rfl (lv_at hl 0 rfl) ?_
        refine lv_iconst (v := nI (1)) hx hb dL_law_177 (by decide) ?_
        refine fa_iaddN hx hb dL_law_178 ?_
        refine fa_scr (j := 0 + 1) CX HX5014 hX hbl hG (by decide) (by decide) dL_law_179 ?_
        refine lv_aload_n hx hb dL_law_180 rfl (lv_at hl 3 rfl) ?_
        refine lv_iload_n hx hb dL_law_181 rfl (lv_at hl 0 rfl) ?_
        refine lv_iconst (v := nI (2)) hx hb dL_law_182 (by decide) ?_
        refine fa_iaddN hx hb dL_law_183 ?_
        refine fa_scr (j := 0 + 2) CX HX5014 hX hbl hG (by decide) (by decide) dL_law_184 ?_
        refine fa_callViu (As := [.int (xs (0 + 1)), .int (xs (0 + 2))]) (rest := [.int (x5012)]) CX HX5014 (p1n_add l G 406 hn2 v5013 r5008 hM hFM (xs (0 + 1)) (xs (0 + 2))) ln_L_17 (by omega) rfl rfl rfl rfl (Nat.le_of_ble_eq_true rfl) hl.1 ⟨Nat.le_of_ble_eq_true rfl, Nat.le_of_ble_eq_true rfl⟩ ⟨Nat.le_of_ble_eq_true rfl, Nat.le_of_ble_eq_true rfl⟩ dL_law_185 (fun x5016 v5017 H locs h5015 HX5018 => ?_)
        have hx_185 := h5015.1
        refine lv_icmp_eq (tgt := 904) hx hb dL_law_188 (by decide) (fun c_188 => ?_) (fun c_188 => ?_)
        · refine lv_iinc (v := nI (0 + 4)) (lv' := [(3, .int (nI (0 + 4))), (2, .ref (fa_B G + (397))), (1, .ref (fa_B G + (0))), (0, .ref (b))]) hx hb dL_law_904 hl (k := 0) rfl (nI_add (0) 4) (by decide) rfl (fun ls hl => ?_)
          refine lv_goto (tgt := 18) hx hb dL_law_907 (by decide) ?_
          refine lv_iload_n hx hb dL_law_18 rfl (lv_at hl 0 rfl) ?_
          refine lv_aload_n hx hb dL_law_19 rfl (lv_at hl 3 rfl) ?_
          refine fa_slen CX HX5018 hX hbl hG dL_law_20 ?_
          refine lv_iconst (v := nI (4)) hx hb dL_law_21 (by decide) ?_
          refine lv_isub hx hb dL_law_22 ?_
          refine lv_icmp_gt (tgt := 910) hx hb dL_law_23 (by decide) (fun c_23 => ?_) (fun c_23 => ?_)
          · refine lv_iconst (v := nI (1)) hx hb dL_law_910 (by decide) ?_
            exact RET _ _ _ _ _ _ _ _ _ HX5018 (by first | decide | exact Nat.le_of_ble_eq_true rfl) (by first | decide | exact Nat.le_of_ble_eq_true rfl) dL_law_911
          · exact absurd (by decide) c_23
        · exact absurd (hx_171.trans hx_185.symm) c_188
      by_cases c_32_1 : (xs 0) &&& (nI (31)) = (1 : Int32)
      · refine lv_tableIn (off := 161) (tgt := 193) hx hb dL_law_32 (by rw [c_32_1]; decide) (by rw [c_32_1]; decide) (by rw [c_32_1]; decide) (by decide) ?_
        refine lv_aload_n hx hb dL_law_193 rfl (lv_at hl 2 rfl) ?_
        refine lv_aload_n hx hb dL_law_194 rfl (lv_at hl 3 rfl) ?_
        refine lv_iload_n hx hb dL_law_195 rfl (lv_at hl 0 rfl) ?_
        refine lv_iconst (v := nI (1)) hx hb dL_law_196 (by decide) ?_
        refine fa_iaddN hx hb dL_law_197 ?_
        refine fa_scr (j := 0 + 1) CX HX5010 hX hbl hG (by decide) (by decide) dL_law_198 ?_
        refine fa_callViu (As := [.int (xs (0 + 1))]) (rest := []) CX HX5010 (p1f_ask l G 406 hn v5007 r5008 hA hH hr1 hr57 hr115 hFV (xs (0 + 1))) ln_L_18 (by omega) rfl rfl rfl rfl (Nat.le_of_ble_eq_true rfl) hl.1 ⟨Nat.le_of_ble_eq_true rfl, Nat.le_of_ble_eq_true rfl⟩ ⟨Nat.le_of_ble_eq_true rfl, Nat.le_of_ble_eq_true rfl⟩ dL_law_199 (fun x5020 v5021 H locs h5019 HX5022 => ?_)
        have hFM : fa_FM v5021 := fa_FM_cong (h5019.2 397 (by omega)) (h5019.2 398 (by omega)) hFM
        have hx_199 := h5019.1
        refine lv_aload_n hx hb dL_law_202 rfl (lv_at hl 1 rfl) ?_
        refine lv_aload_n hx hb dL_law_203 rfl (lv_at hl 3 rfl) ?_
        refine lv_iload_n hx hb dL_law_204 rfl (lv_at hl 0 rfl) ?_
        refine lv_iconst (v := nI (1)) hx hb dL_law_205 (by decide) ?_
        refine fa_iaddN hx hb dL_law_206 ?_
        refine fa_scr (j := 0 + 1) CX HX5022 hX hbl hG (by decide) (by decide) dL_law_207 ?_
        refine fa_callViu (As := [.int (xs (0 + 1))]) (rest := [.int (x5020)]) CX HX5022 (p1n_ask l G 406 hn2 v5021 r5008 hM hFM (xs (0 + 1))) ln_L_22 (by omega) rfl rfl rfl rfl (Nat.le_of_ble_eq_true rfl) hl.1 ⟨Nat.le_of_ble_eq_true rfl, Nat.le_of_ble_eq_true rfl⟩ ⟨Nat.le_of_ble_eq_true rfl, Nat.le_of_ble_eq_true rfl⟩ dL_law_208 (fun x5024 v5025 H locs h5023 HX5026 => ?_)
        have hx_208 := h5023.1
        refine lv_icmp_eq (tgt := 904) hx hb dL_law_211 (by decide) (fun c_211 => ?_) (fun c_211 => ?_)
        · refine lv_iinc (v := nI (0 + 4)) (lv' := [(3, .int (nI (0 + 4))), (2, .ref (fa_B G + (397))), (1, .ref (fa_B G + (0))), (0, .ref (b))]) hx hb dL_law_904 hl (k := 0) rfl (nI_add (0) 4) (by decide) rfl (fun ls hl => ?_)
          refine lv_goto (tgt := 18) hx hb dL_law_907 (by decide) ?_
          refine lv_iload_n hx hb dL_law_18 rfl (lv_at hl 0 rfl) ?_
          refine lv_aload_n hx hb dL_law_19 rfl (lv_at hl 3 rfl) ?_
          refine fa_slen CX HX5026 hX hbl hG dL_law_20 ?_
          refine lv_iconst (v := nI (4)) hx hb dL_law_21 (by decide) ?_
          refine lv_isub hx hb dL_law_22 ?_
          refine lv_icmp_gt (tgt := 910) hx hb dL_law_23 (by decide) (fun c_23 => ?_) (fun c_23 => ?_)
          · refine lv_iconst (v := nI (1)) hx hb dL_law_910 (by decide) ?_
            exact RET _ _ _ _ _ _ _ _ _ HX5026 (by first | decide | exact Nat.le_of_ble_eq_true rfl) (by first | decide | exact Nat.le_of_ble_eq_true rfl) dL_law_911
          · exact absurd (by decide) c_23
        · exact absurd (hx_199.trans hx_208.symm) c_211
      by_cases c_32_2 : (xs 0) &&& (nI (31)) = (2 : Int32)
      · refine lv_tableIn (off := 184) (tgt := 216) hx hb dL_law_32 (by rw [c_32_2]; decide) (by rw [c_32_2]; decide) (by rw [c_32_2]; decide) (by decide) ?_
        refine lv_aload_n hx hb dL_law_216 rfl (lv_at hl 2 rfl) ?_
        refine lv_aload_n hx hb dL_law_217 rfl (lv_at hl 3 rfl) ?_
        refine lv_iload_n hx hb dL_law_218 rfl (lv_at hl 0 rfl) ?_
        refine lv_iconst (v := nI (1)) hx hb dL_law_219 (by decide) ?_
        refine fa_iaddN hx hb dL_law_220 ?_
        refine fa_scr (j := 0 + 1) CX HX5010 hX hbl hG (by decide) (by decide) dL_law_221 ?_
        refine lv_aload_n hx hb dL_law_222 rfl (lv_at hl 3 rfl) ?_
        refine lv_iload_n hx hb dL_law_223 rfl (lv_at hl 0 rfl) ?_
        refine lv_iconst (v := nI (2)) hx hb dL_law_224 (by decide) ?_
        refine fa_iaddN hx hb dL_law_225 ?_
        refine fa_scr (j := 0 + 2) CX HX5010 hX hbl hG (by decide) (by decide) dL_law_226 ?_
        refine lv_aload_n hx hb dL_law_227 rfl (lv_at hl 3 rfl) ?_
        refine lv_iload_n hx hb dL_law_228 rfl (lv_at hl 0 rfl) ?_
        refine lv_iconst (v := nI (3)) hx hb dL_law_229 (by decide) ?_
        refine fa_iaddN hx hb dL_law_230 ?_
        refine fa_scr (j := 0 + 3) CX HX5010 hX hbl hG (by decide) (by decide) dL_law_231 ?_
        refine fa_callViu (As := [.int (xs (0 + 1)), .int (xs (0 + 2)), .int (xs (0 + 3))]) (rest := []) CX HX5010 (p1f_seal l G 406 hn v5007 r5008 hA hH hr1 hr57 hr115 hFV (xs (0 + 1)) (xs (0 + 2)) (xs (0 + 3))) ln_L_23 (by omega) rfl rfl rfl rfl (Nat.le_of_ble_eq_true rfl) hl.1 ⟨Nat.le_of_ble_eq_true rfl, Nat.le_of_ble_eq_true rfl⟩ ⟨Nat.le_of_ble_eq_true rfl, Nat.le_of_ble_eq_true rfl⟩ dL_law_232 (fun x5028 v5029 H locs h5027 HX5030 => ?_)
        have hFM : fa_FM v5029 := fa_FM_cong (h5027.2 397 (by omega)) (h5027.2 398 (by omega)) hFM
        have hx_232 := h5027.1
        refine lv_aload_n hx hb dL_law_235 rfl (lv_at hl 1 rfl) ?_
        refine lv_aload_n hx hb dL_law_236 rfl (lv_at hl 3 rfl) ?_
        refine lv_iload_n hx hb dL_law_237 rfl (lv_at hl 0 rfl) ?_
        refine lv_iconst (v := nI (1)) hx hb dL_law_238 (by decide) ?_
        refine fa_iaddN hx hb dL_law_239 ?_
        refine fa_scr (j := 0 + 1) CX HX5030 hX hbl hG (by decide) (by decide) dL_law_240 ?_
        refine lv_aload_n hx hb dL_law_241 rfl (lv_at hl 3 rfl) ?_
        refine lv_iload_n hx hb dL_law_242 rfl (lv_at hl 0 rfl) ?_
        refine lv_iconst (v := nI (2)) hx hb dL_law_243 (by decide) ?_
        refine fa_iaddN hx hb dL_law_244 ?_
        refine fa_scr (j := 0 + 2) CX HX5030 hX hbl hG (by decide) (by decide) dL_law_245 ?_
        refine lv_aload_n hx hb dL_law_246 rfl (lv_at hl 3 rfl) ?_
        refine lv_iload_n hx hb dL_law_247 rfl (lv_at hl 0 rfl) ?_
        refine lv_iconst (v := nI (3)) hx hb dL_law_248 (by decide) ?_
        refine fa_iaddN hx hb dL_law_249 ?_
        refine fa_scr (j := 0 + 3) CX HX5030 hX hbl hG (by decide) (by decide) dL_law_250 ?_
        refine fa_callViu (As := [.int (xs (0 + 1)), .int (xs (0 + 2)), .int (xs (0 + 3))]) (rest := [.int (x5028)]) CX HX5030 (p1n_seal l G 406 hn2 v5029 r5008 hM hFM (xs (0 + 1)) (xs (0 + 2)) (xs (0 + 3))) ln_L_27 (by omega) rfl rfl rfl rfl (Nat.le_of_ble_eq_true rfl) hl.1 ⟨Nat.le_of_ble_eq_true rfl, Nat.le_of_ble_eq_true rfl⟩ ⟨Nat.le_of_ble_eq_true rfl, Nat.le_of_ble_eq_true rfl⟩ dL_law_251 (fun x5032 v5033 H locs h5031 HX5034 => ?_)
        have hx_251 := h5031.1
        refine lv_icmp_eq (tgt := 904) hx hb dL_law_254 (by decide) (fun c_254 => ?_) (fun c_254 => ?_)
        · refine lv_iinc (v := nI (0 + 4)) (lv' := [(3, .int (nI (0 + 4))), (2, .ref (fa_B G + (397))), (1, .ref (fa_B G + (0))), (0, .ref (b))]) hx hb dL_law_904 hl (k := 0) rfl (nI_add (0) 4) (by decide) rfl (fun ls hl => ?_)
          refine lv_goto (tgt := 18) hx hb dL_law_907 (by decide) ?_
          refine lv_iload_n hx hb dL_law_18 rfl (lv_at hl 0 rfl) ?_
          refine lv_aload_n hx hb dL_law_19 rfl (lv_at hl 3 rfl) ?_
          refine fa_slen CX HX5034 hX hbl hG dL_law_20 ?_
          refine lv_iconst (v := nI (4)) hx hb dL_law_21 (by decide) ?_
          refine lv_isub hx hb dL_law_22 ?_
          refine lv_icmp_gt (tgt := 910) hx hb dL_law_23 (by decide) (fun c_23 => ?_) (fun c_23 => ?_)
          · refine lv_iconst (v := nI (1)) hx hb dL_law_910 (by decide) ?_
            exact RET _ _ _ _ _ _ _ _ _ HX5034 (by first | decide | exact Nat.le_of_ble_eq_true rfl) (by first | decide | exact Nat.le_of_ble_eq_true rfl) dL_law_911
          · exact absurd (by decide) c_23
        · exact absurd (hx_232.trans hx_251.symm) c_254
      by_cases c_32_3 : (xs 0) &&& (nI (31)) = (3 : Int32)
      · refine lv_tableIn (off := 227) (tgt := 259) hx hb dL_law_32 (by rw [c_32_3]; decide) (by rw [c_32_3]; decide) (by rw [c_32_3]; decide) (by decide) ?_
        refine lv_aload_n hx hb dL_law_259 rfl (lv_at hl 2 rfl) ?_
        refine lv_aload_n hx hb dL_law_260 rfl (lv_at hl 3 rfl) ?_
        refine lv_iload_n hx hb dL_law_261 rfl (lv_at hl 0 rfl) ?_
        refine lv_iconst (v := nI (1)) hx hb dL_law_262 (by decide) ?_
        refine fa_iaddN hx hb dL_law_263 ?_
        refine fa_scr (j := 0 + 1) CX HX5010 hX hbl hG (by decide) (by decide) dL_law_264 ?_
        refine lv_aload_n hx hb dL_law_265 rfl (lv_at hl 3 rfl) ?_
        refine lv_iload_n hx hb dL_law_266 rfl (lv_at hl 0 rfl) ?_
        refine lv_iconst (v := nI (2)) hx hb dL_law_267 (by decide) ?_
        refine fa_iaddN hx hb dL_law_268 ?_
        refine fa_scr (j := 0 + 2) CX HX5010 hX hbl hG (by decide) (by decide) dL_law_269 ?_
        refine fa_callViu (As := [.int (xs (0 + 1)), .int (xs (0 + 2))]) (rest := []) CX HX5010 (p1f_lift l G 406 hn v5007 r5008 hA hH hr1 hr57 hr115 hFV (xs (0 + 1)) (xs (0 + 2))) ln_L_28 (by omega) rfl rfl rfl rfl (Nat.le_of_ble_eq_true rfl) hl.1 ⟨Nat.le_of_ble_eq_true rfl, Nat.le_of_ble_eq_true rfl⟩ ⟨Nat.le_of_ble_eq_true rfl, Nat.le_of_ble_eq_true rfl⟩ dL_law_270 (fun x5036 v5037 H locs h5035 HX5038 => ?_)
        have hFM : fa_FM v5037 := fa_FM_cong (h5035.2 397 (by omega)) (h5035.2 398 (by omega)) hFM
        have hx_270 := h5035.1
        refine lv_aload_n hx hb dL_law_273 rfl (lv_at hl 1 rfl) ?_
        refine lv_aload_n hx hb dL_law_274 rfl (lv_at hl 3 rfl) ?_
        refine lv_iload_n hx hb dL_law_275 rfl (lv_at hl 0 rfl) ?_
        refine lv_iconst (v := nI (1)) hx hb dL_law_276 (by decide) ?_
        refine fa_iaddN hx hb dL_law_277 ?_
        refine fa_scr (j := 0 + 1) CX HX5038 hX hbl hG (by decide) (by decide) dL_law_278 ?_
        refine lv_aload_n hx hb dL_law_279 rfl (lv_at hl 3 rfl) ?_
        refine lv_iload_n hx hb dL_law_280 rfl (lv_at hl 0 rfl) ?_
        refine lv_iconst (v := nI (2)) hx hb dL_law_281 (by decide) ?_
        refine fa_iaddN hx hb dL_law_282 ?_
        refine fa_scr (j := 0 + 2) CX HX5038 hX hbl hG (by decide) (by decide) dL_law_283 ?_
        refine fa_callViu (As := [.int (xs (0 + 1)), .int (xs (0 + 2))]) (rest := [.int (x5036)]) CX HX5038 (p1n_lift l G 406 hn2 v5037 r5008 hM hFM (xs (0 + 1)) (xs (0 + 2))) ln_L_31 (by omega) rfl rfl rfl rfl (Nat.le_of_ble_eq_true rfl) hl.1 ⟨Nat.le_of_ble_eq_true rfl, Nat.le_of_ble_eq_true rfl⟩ ⟨Nat.le_of_ble_eq_true rfl, Nat.le_of_ble_eq_true rfl⟩ dL_law_284 (fun x5040 v5041 H locs h5039 HX5042 => ?_)
        have hx_284 := h5039.1
        refine lv_icmp_eq (tgt := 904) hx hb dL_law_287 (by decide) (fun c_287 => ?_) (fun c_287 => ?_)
        · refine lv_iinc (v := nI (0 + 4)) (lv' := [(3, .int (nI (0 + 4))), (2, .ref (fa_B G + (397))), (1, .ref (fa_B G + (0))), (0, .ref (b))]) hx hb dL_law_904 hl (k := 0) rfl (nI_add (0) 4) (by decide) rfl (fun ls hl => ?_)
          refine lv_goto (tgt := 18) hx hb dL_law_907 (by decide) ?_
          refine lv_iload_n hx hb dL_law_18 rfl (lv_at hl 0 rfl) ?_
          refine lv_aload_n hx hb dL_law_19 rfl (lv_at hl 3 rfl) ?_
          refine fa_slen CX HX5042 hX hbl hG dL_law_20 ?_
          refine lv_iconst (v := nI (4)) hx hb dL_law_21 (by decide) ?_
          refine lv_isub hx hb dL_law_22 ?_
          refine lv_icmp_gt (tgt := 910) hx hb dL_law_23 (by decide) (fun c_23 => ?_) (fun c_23 => ?_)
          · refine lv_iconst (v := nI (1)) hx hb dL_law_910 (by decide) ?_
            exact RET _ _ _ _ _ _ _ _ _ HX5042 (by first | decide | exact Nat.le_of_ble_eq_true rfl) (by first | decide | exact Nat.le_of_ble_eq_true rfl) dL_law_911
          · exact absurd (by decide) c_23
        · exact absurd (hx_270.trans hx_284.symm) c_287
      by_cases c_32_4 : (xs 0) &&& (nI (31)) = (4 : Int32)
      · refine lv_tableIn (off := 260) (tgt := 292) hx hb dL_law_32 (by rw [c_32_4]; decide) (by rw [c_32_4]; decide) (by rw [c_32_4]; decide) (by decide) ?_
        refine lv_aload_n hx hb dL_law_292 rfl (lv_at hl 2 rfl) ?_
        refine lv_aload_n hx hb dL_law_293 rfl (lv_at hl 3 rfl) ?_
        refine lv_iload_n hx hb dL_law_294 rfl (lv_at hl 0 rfl) ?_
        refine lv_iconst (v := nI (1)) hx hb dL_law_295 (by decide) ?_
        refine fa_iaddN hx hb dL_law_296 ?_
        refine fa_scr (j := 0 + 1) CX HX5010 hX hbl hG (by decide) (by decide) dL_law_297 ?_
        refine lv_aload_n hx hb dL_law_298 rfl (lv_at hl 3 rfl) ?_
        refine lv_iload_n hx hb dL_law_299 rfl (lv_at hl 0 rfl) ?_
        refine lv_iconst (v := nI (2)) hx hb dL_law_300 (by decide) ?_
        refine fa_iaddN hx hb dL_law_301 ?_
        refine fa_scr (j := 0 + 2) CX HX5010 hX hbl hG (by decide) (by decide) dL_law_302 ?_
        refine fa_callViu (As := [.int (xs (0 + 1)), .int (xs (0 + 2))]) (rest := []) CX HX5010 (p1f_refer l G 406 hn v5007 r5008 hA hH hr1 hr57 hr115 hFV (xs (0 + 1)) (xs (0 + 2))) ln_L_32 (by omega) rfl rfl rfl rfl (Nat.le_of_ble_eq_true rfl) hl.1 ⟨Nat.le_of_ble_eq_true rfl, Nat.le_of_ble_eq_true rfl⟩ ⟨Nat.le_of_ble_eq_true rfl, Nat.le_of_ble_eq_true rfl⟩ dL_law_303 (fun x5044 v5045 H locs h5043 HX5046 => ?_)
        have hFM : fa_FM v5045 := fa_FM_cong (h5043.2 397 (by omega)) (h5043.2 398 (by omega)) hFM
        have hx_303 := h5043.1
        refine lv_aload_n hx hb dL_law_306 rfl (lv_at hl 1 rfl) ?_
        refine lv_aload_n hx hb dL_law_307 rfl (lv_at hl 3 rfl) ?_
        refine lv_iload_n hx hb dL_law_308 rfl (lv_at hl 0 rfl) ?_
        refine lv_iconst (v := nI (1)) hx hb dL_law_309 (by decide) ?_
        refine fa_iaddN hx hb dL_law_310 ?_
        refine fa_scr (j := 0 + 1) CX HX5046 hX hbl hG (by decide) (by decide) dL_law_311 ?_
        refine lv_aload_n hx hb dL_law_312 rfl (lv_at hl 3 rfl) ?_
        refine lv_iload_n hx hb dL_law_313 rfl (lv_at hl 0 rfl) ?_
        refine lv_iconst (v := nI (2)) hx hb dL_law_314 (by decide) ?_
        refine fa_iaddN hx hb dL_law_315 ?_
        refine fa_scr (j := 0 + 2) CX HX5046 hX hbl hG (by decide) (by decide) dL_law_316 ?_
        refine fa_callViu (As := [.int (xs (0 + 1)), .int (xs (0 + 2))]) (rest := [.int (x5044)]) CX HX5046 (p1n_refer l G 406 hn2 v5045 r5008 hM hFM (xs (0 + 1)) (xs (0 + 2))) ln_L_35 (by omega) rfl rfl rfl rfl (Nat.le_of_ble_eq_true rfl) hl.1 ⟨Nat.le_of_ble_eq_true rfl, Nat.le_of_ble_eq_true rfl⟩ ⟨Nat.le_of_ble_eq_true rfl, Nat.le_of_ble_eq_true rfl⟩ dL_law_317 (fun x5048 v5049 H locs h5047 HX5050 => ?_)
        have hx_317 := h5047.1
        refine lv_icmp_eq (tgt := 904) hx hb dL_law_320 (by decide) (fun c_320 => ?_) (fun c_320 => ?_)
        · refine lv_iinc (v := nI (0 + 4)) (lv' := [(3, .int (nI (0 + 4))), (2, .ref (fa_B G + (397))), (1, .ref (fa_B G + (0))), (0, .ref (b))]) hx hb dL_law_904 hl (k := 0) rfl (nI_add (0) 4) (by decide) rfl (fun ls hl => ?_)
          refine lv_goto (tgt := 18) hx hb dL_law_907 (by decide) ?_
          refine lv_iload_n hx hb dL_law_18 rfl (lv_at hl 0 rfl) ?_
          refine lv_aload_n hx hb dL_law_19 rfl (lv_at hl 3 rfl) ?_
          refine fa_slen CX HX5050 hX hbl hG dL_law_20 ?_
          refine lv_iconst (v := nI (4)) hx hb dL_law_21 (by decide) ?_
          refine lv_isub hx hb dL_law_22 ?_
          refine lv_icmp_gt (tgt := 910) hx hb dL_law_23 (by decide) (fun c_23 => ?_) (fun c_23 => ?_)
          · refine lv_iconst (v := nI (1)) hx hb dL_law_910 (by decide) ?_
            exact RET _ _ _ _ _ _ _ _ _ HX5050 (by first | decide | exact Nat.le_of_ble_eq_true rfl) (by first | decide | exact Nat.le_of_ble_eq_true rfl) dL_law_911
          · exact absurd (by decide) c_23
        · exact absurd (hx_303.trans hx_317.symm) c_320
      by_cases c_32_5 : (xs 0) &&& (nI (31)) = (5 : Int32)
      · refine lv_tableIn (off := 293) (tgt := 325) hx hb dL_law_32 (by rw [c_32_5]; decide) (by rw [c_32_5]; decide) (by rw [c_32_5]; decide) (by decide) ?_
        refine lv_aload_n hx hb dL_law_325 rfl (lv_at hl 2 rfl) ?_
        refine lv_aload_n hx hb dL_law_326 rfl (lv_at hl 3 rfl) ?_
        refine lv_iload_n hx hb dL_law_327 rfl (lv_at hl 0 rfl) ?_
        refine lv_iconst (v := nI (1)) hx hb dL_law_328 (by decide) ?_
        refine fa_iaddN hx hb dL_law_329 ?_
        refine fa_scr (j := 0 + 1) CX HX5010 hX hbl hG (by decide) (by decide) dL_law_330 ?_
        refine lv_aload_n hx hb dL_law_331 rfl (lv_at hl 3 rfl) ?_
        refine lv_iload_n hx hb dL_law_332 rfl (lv_at hl 0 rfl) ?_
        refine lv_iconst (v := nI (2)) hx hb dL_law_333 (by decide) ?_
        refine fa_iaddN hx hb dL_law_334 ?_
        refine fa_scr (j := 0 + 2) CX HX5010 hX hbl hG (by decide) (by decide) dL_law_335 ?_
        refine fa_callViu (As := [.int (xs (0 + 1)), .int (xs (0 + 2))]) (rest := []) CX HX5010 (p1f_reserve l G 406 hn v5007 r5008 hA hH hr1 hr57 hr115 hFV (xs (0 + 1)) (xs (0 + 2))) ln_L_36 (by omega) rfl rfl rfl rfl (Nat.le_of_ble_eq_true rfl) hl.1 ⟨Nat.le_of_ble_eq_true rfl, Nat.le_of_ble_eq_true rfl⟩ ⟨Nat.le_of_ble_eq_true rfl, Nat.le_of_ble_eq_true rfl⟩ dL_law_336 (fun x5052 v5053 H locs h5051 HX5054 => ?_)
        have hFM : fa_FM v5053 := fa_FM_cong (h5051.2 397 (by omega)) (h5051.2 398 (by omega)) hFM
        have hx_336 := h5051.1
        refine lv_aload_n hx hb dL_law_339 rfl (lv_at hl 1 rfl) ?_
        refine lv_aload_n hx hb dL_law_340 rfl (lv_at hl 3 rfl) ?_
        refine lv_iload_n hx hb dL_law_341 rfl (lv_at hl 0 rfl) ?_
        refine lv_iconst (v := nI (1)) hx hb dL_law_342 (by decide) ?_
        refine fa_iaddN hx hb dL_law_343 ?_
        refine fa_scr (j := 0 + 1) CX HX5054 hX hbl hG (by decide) (by decide) dL_law_344 ?_
        refine lv_aload_n hx hb dL_law_345 rfl (lv_at hl 3 rfl) ?_
        refine lv_iload_n hx hb dL_law_346 rfl (lv_at hl 0 rfl) ?_
        refine lv_iconst (v := nI (2)) hx hb dL_law_347 (by decide) ?_
        refine fa_iaddN hx hb dL_law_348 ?_
        refine fa_scr (j := 0 + 2) CX HX5054 hX hbl hG (by decide) (by decide) dL_law_349 ?_
        refine fa_callVip (As := [.int (xs (0 + 1)), .int (xs (0 + 2))]) (rest := [.int (x5052)]) CX HX5054 (p1n_reserve l G 406 hn2 v5053 r5008 hM hFM (xs (0 + 1)) (xs (0 + 2))) ln_L_39 (by omega) rfl rfl rfl rfl (Nat.le_of_ble_eq_true rfl) hl.1 ⟨Nat.le_of_ble_eq_true rfl, Nat.le_of_ble_eq_true rfl⟩ ⟨Nat.le_of_ble_eq_true rfl, Nat.le_of_ble_eq_true rfl⟩ dL_law_350 (fun x5056 H locs h5055 HX5057 => ?_)
        have hx_350 := h5055
        refine lv_icmp_eq (tgt := 904) hx hb dL_law_353 (by decide) (fun c_353 => ?_) (fun c_353 => ?_)
        · refine lv_iinc (v := nI (0 + 4)) (lv' := [(3, .int (nI (0 + 4))), (2, .ref (fa_B G + (397))), (1, .ref (fa_B G + (0))), (0, .ref (b))]) hx hb dL_law_904 hl (k := 0) rfl (nI_add (0) 4) (by decide) rfl (fun ls hl => ?_)
          refine lv_goto (tgt := 18) hx hb dL_law_907 (by decide) ?_
          refine lv_iload_n hx hb dL_law_18 rfl (lv_at hl 0 rfl) ?_
          refine lv_aload_n hx hb dL_law_19 rfl (lv_at hl 3 rfl) ?_
          refine fa_slen CX HX5057 hX hbl hG dL_law_20 ?_
          refine lv_iconst (v := nI (4)) hx hb dL_law_21 (by decide) ?_
          refine lv_isub hx hb dL_law_22 ?_
          refine lv_icmp_gt (tgt := 910) hx hb dL_law_23 (by decide) (fun c_23 => ?_) (fun c_23 => ?_)
          · refine lv_iconst (v := nI (1)) hx hb dL_law_910 (by decide) ?_
            exact RET _ _ _ _ _ _ _ _ _ HX5057 (by first | decide | exact Nat.le_of_ble_eq_true rfl) (by first | decide | exact Nat.le_of_ble_eq_true rfl) dL_law_911
          · exact absurd (by decide) c_23
        · exact absurd (hx_336.trans hx_350.symm) c_353
      by_cases c_32_6 : (xs 0) &&& (nI (31)) = (6 : Int32)
      · refine lv_tableIn (off := 326) (tgt := 358) hx hb dL_law_32 (by rw [c_32_6]; decide) (by rw [c_32_6]; decide) (by rw [c_32_6]; decide) (by decide) ?_
        refine lv_aload_n hx hb dL_law_358 rfl (lv_at hl 2 rfl) ?_
        refine lv_aload_n hx hb dL_law_359 rfl (lv_at hl 3 rfl) ?_
        refine lv_iload_n hx hb dL_law_360 rfl (lv_at hl 0 rfl) ?_
        refine lv_iconst (v := nI (1)) hx hb dL_law_361 (by decide) ?_
        refine fa_iaddN hx hb dL_law_362 ?_
        refine fa_scr (j := 0 + 1) CX HX5010 hX hbl hG (by decide) (by decide) dL_law_363 ?_
        refine lv_aload_n hx hb dL_law_364 rfl (lv_at hl 3 rfl) ?_
        refine lv_iload_n hx hb dL_law_365 rfl (lv_at hl 0 rfl) ?_
        refine lv_iconst (v := nI (2)) hx hb dL_law_366 (by decide) ?_
        refine fa_iaddN hx hb dL_law_367 ?_
        refine fa_scr (j := 0 + 2) CX HX5010 hX hbl hG (by decide) (by decide) dL_law_368 ?_
        refine fa_callViu (As := [.int (xs (0 + 1)), .int (xs (0 + 2))]) (rest := []) CX HX5010 (p1f_cancel l G 406 hn v5007 r5008 hA hH hr1 hr57 hr115 hFV (xs (0 + 1)) (xs (0 + 2))) ln_L_40 (by omega) rfl rfl rfl rfl (Nat.le_of_ble_eq_true rfl) hl.1 ⟨Nat.le_of_ble_eq_true rfl, Nat.le_of_ble_eq_true rfl⟩ ⟨Nat.le_of_ble_eq_true rfl, Nat.le_of_ble_eq_true rfl⟩ dL_law_369 (fun x5059 v5060 H locs h5058 HX5061 => ?_)
        have hFM : fa_FM v5060 := fa_FM_cong (h5058.2 397 (by omega)) (h5058.2 398 (by omega)) hFM
        have hx_369 := h5058.1
        refine lv_aload_n hx hb dL_law_372 rfl (lv_at hl 1 rfl) ?_
        refine lv_aload_n hx hb dL_law_373 rfl (lv_at hl 3 rfl) ?_
        refine lv_iload_n hx hb dL_law_374 rfl (lv_at hl 0 rfl) ?_
        refine lv_iconst (v := nI (1)) hx hb dL_law_375 (by decide) ?_
        refine fa_iaddN hx hb dL_law_376 ?_
        refine fa_scr (j := 0 + 1) CX HX5061 hX hbl hG (by decide) (by decide) dL_law_377 ?_
        refine lv_aload_n hx hb dL_law_378 rfl (lv_at hl 3 rfl) ?_
        refine lv_iload_n hx hb dL_law_379 rfl (lv_at hl 0 rfl) ?_
        refine lv_iconst (v := nI (2)) hx hb dL_law_380 (by decide) ?_
        refine fa_iaddN hx hb dL_law_381 ?_
        refine fa_scr (j := 0 + 2) CX HX5061 hX hbl hG (by decide) (by decide) dL_law_382 ?_
        refine fa_callVip (As := [.int (xs (0 + 1)), .int (xs (0 + 2))]) (rest := [.int (x5059)]) CX HX5061 (p1n_cancel l G 406 hn2 v5060 r5008 hM hFM (xs (0 + 1)) (xs (0 + 2))) ln_L_43 (by omega) rfl rfl rfl rfl (Nat.le_of_ble_eq_true rfl) hl.1 ⟨Nat.le_of_ble_eq_true rfl, Nat.le_of_ble_eq_true rfl⟩ ⟨Nat.le_of_ble_eq_true rfl, Nat.le_of_ble_eq_true rfl⟩ dL_law_383 (fun x5063 H locs h5062 HX5064 => ?_)
        have hx_383 := h5062
        refine lv_icmp_eq (tgt := 904) hx hb dL_law_386 (by decide) (fun c_386 => ?_) (fun c_386 => ?_)
        · refine lv_iinc (v := nI (0 + 4)) (lv' := [(3, .int (nI (0 + 4))), (2, .ref (fa_B G + (397))), (1, .ref (fa_B G + (0))), (0, .ref (b))]) hx hb dL_law_904 hl (k := 0) rfl (nI_add (0) 4) (by decide) rfl (fun ls hl => ?_)
          refine lv_goto (tgt := 18) hx hb dL_law_907 (by decide) ?_
          refine lv_iload_n hx hb dL_law_18 rfl (lv_at hl 0 rfl) ?_
          refine lv_aload_n hx hb dL_law_19 rfl (lv_at hl 3 rfl) ?_
          refine fa_slen CX HX5064 hX hbl hG dL_law_20 ?_
          refine lv_iconst (v := nI (4)) hx hb dL_law_21 (by decide) ?_
          refine lv_isub hx hb dL_law_22 ?_
          refine lv_icmp_gt (tgt := 910) hx hb dL_law_23 (by decide) (fun c_23 => ?_) (fun c_23 => ?_)
          · refine lv_iconst (v := nI (1)) hx hb dL_law_910 (by decide) ?_
            exact RET _ _ _ _ _ _ _ _ _ HX5064 (by first | decide | exact Nat.le_of_ble_eq_true rfl) (by first | decide | exact Nat.le_of_ble_eq_true rfl) dL_law_911
          · exact absurd (by decide) c_23
        · exact absurd (hx_369.trans hx_383.symm) c_386
      by_cases c_32_7 : (xs 0) &&& (nI (31)) = (7 : Int32)
      · refine lv_tableIn (off := 359) (tgt := 391) hx hb dL_law_32 (by rw [c_32_7]; decide) (by rw [c_32_7]; decide) (by rw [c_32_7]; decide) (by decide) ?_
        refine lv_aload_n hx hb dL_law_391 rfl (lv_at hl 2 rfl) ?_
        refine lv_aload_n hx hb dL_law_392 rfl (lv_at hl 3 rfl) ?_
        refine lv_iload_n hx hb dL_law_393 rfl (lv_at hl 0 rfl) ?_
        refine lv_iconst (v := nI (1)) hx hb dL_law_394 (by decide) ?_
        refine fa_iaddN hx hb dL_law_395 ?_
        refine fa_scr (j := 0 + 1) CX HX5010 hX hbl hG (by decide) (by decide) dL_law_396 ?_
        refine fa_callViu (As := [.int (xs (0 + 1))]) (rest := []) CX HX5010 (p1f_pass l G 406 hn v5007 r5008 hA hH hr1 hr57 hr115 hFV (xs (0 + 1))) ln_L_44 (by omega) rfl rfl rfl rfl (Nat.le_of_ble_eq_true rfl) hl.1 ⟨Nat.le_of_ble_eq_true rfl, Nat.le_of_ble_eq_true rfl⟩ ⟨Nat.le_of_ble_eq_true rfl, Nat.le_of_ble_eq_true rfl⟩ dL_law_397 (fun x5066 v5067 H locs h5065 HX5068 => ?_)
        have hFM : fa_FM v5067 := fa_FM_cong (h5065.2 397 (by omega)) (h5065.2 398 (by omega)) hFM
        have hx_397 := h5065.1
        refine lv_aload_n hx hb dL_law_400 rfl (lv_at hl 1 rfl) ?_
        refine lv_aload_n hx hb dL_law_401 rfl (lv_at hl 3 rfl) ?_
        refine lv_iload_n hx hb dL_law_402 rfl (lv_at hl 0 rfl) ?_
        refine lv_iconst (v := nI (1)) hx hb dL_law_403 (by decide) ?_
        refine fa_iaddN hx hb dL_law_404 ?_
        refine fa_scr (j := 0 + 1) CX HX5068 hX hbl hG (by decide) (by decide) dL_law_405 ?_
        refine fa_callViu (As := [.int (xs (0 + 1))]) (rest := [.int (x5066)]) CX HX5068 (p1n_pass l G 406 hn2 v5067 r5008 hM hFM (xs (0 + 1))) ln_L_47 (by omega) rfl rfl rfl rfl (Nat.le_of_ble_eq_true rfl) hl.1 ⟨Nat.le_of_ble_eq_true rfl, Nat.le_of_ble_eq_true rfl⟩ ⟨Nat.le_of_ble_eq_true rfl, Nat.le_of_ble_eq_true rfl⟩ dL_law_406 (fun x5070 v5071 H locs h5069 HX5072 => ?_)
        have hx_406 := h5069.1
        refine lv_icmp_eq (tgt := 904) hx hb dL_law_409 (by decide) (fun c_409 => ?_) (fun c_409 => ?_)
        · refine lv_iinc (v := nI (0 + 4)) (lv' := [(3, .int (nI (0 + 4))), (2, .ref (fa_B G + (397))), (1, .ref (fa_B G + (0))), (0, .ref (b))]) hx hb dL_law_904 hl (k := 0) rfl (nI_add (0) 4) (by decide) rfl (fun ls hl => ?_)
          refine lv_goto (tgt := 18) hx hb dL_law_907 (by decide) ?_
          refine lv_iload_n hx hb dL_law_18 rfl (lv_at hl 0 rfl) ?_
          refine lv_aload_n hx hb dL_law_19 rfl (lv_at hl 3 rfl) ?_
          refine fa_slen CX HX5072 hX hbl hG dL_law_20 ?_
          refine lv_iconst (v := nI (4)) hx hb dL_law_21 (by decide) ?_
          refine lv_isub hx hb dL_law_22 ?_
          refine lv_icmp_gt (tgt := 910) hx hb dL_law_23 (by decide) (fun c_23 => ?_) (fun c_23 => ?_)
          · refine lv_iconst (v := nI (1)) hx hb dL_law_910 (by decide) ?_
            exact RET _ _ _ _ _ _ _ _ _ HX5072 (by first | decide | exact Nat.le_of_ble_eq_true rfl) (by first | decide | exact Nat.le_of_ble_eq_true rfl) dL_law_911
          · exact absurd (by decide) c_23
        · exact absurd (hx_397.trans hx_406.symm) c_409
      by_cases c_32_8 : (xs 0) &&& (nI (31)) = (8 : Int32)
      · refine lv_tableIn (off := 382) (tgt := 414) hx hb dL_law_32 (by rw [c_32_8]; decide) (by rw [c_32_8]; decide) (by rw [c_32_8]; decide) (by decide) ?_
        refine lv_aload_n hx hb dL_law_414 rfl (lv_at hl 2 rfl) ?_
        refine lv_aload_n hx hb dL_law_415 rfl (lv_at hl 3 rfl) ?_
        refine lv_iload_n hx hb dL_law_416 rfl (lv_at hl 0 rfl) ?_
        refine lv_iconst (v := nI (1)) hx hb dL_law_417 (by decide) ?_
        refine fa_iaddN hx hb dL_law_418 ?_
        refine fa_scr (j := 0 + 1) CX HX5010 hX hbl hG (by decide) (by decide) dL_law_419 ?_
        refine lv_aload_n hx hb dL_law_420 rfl (lv_at hl 3 rfl) ?_
        refine lv_iload_n hx hb dL_law_421 rfl (lv_at hl 0 rfl) ?_
        refine lv_iconst (v := nI (2)) hx hb dL_law_422 (by decide) ?_
        refine fa_iaddN hx hb dL_law_423 ?_
        refine fa_scr (j := 0 + 2) CX HX5010 hX hbl hG (by decide) (by decide) dL_law_424 ?_
        refine fa_callViu (As := [.int (xs (0 + 1)), .int (xs (0 + 2))]) (rest := []) CX HX5010 (p1f_set l G 406 hn v5007 r5008 hA hH hr1 hr57 hr115 hFV (xs (0 + 1)) (xs (0 + 2))) ln_L_48 (by omega) rfl rfl rfl rfl (Nat.le_of_ble_eq_true rfl) hl.1 ⟨Nat.le_of_ble_eq_true rfl, Nat.le_of_ble_eq_true rfl⟩ ⟨Nat.le_of_ble_eq_true rfl, Nat.le_of_ble_eq_true rfl⟩ dL_law_425 (fun x5074 v5075 H locs h5073 HX5076 => ?_)
        have hFM : fa_FM v5075 := fa_FM_cong (h5073.2 397 (by omega)) (h5073.2 398 (by omega)) hFM
        have hx_425 := h5073.1
        refine lv_aload_n hx hb dL_law_428 rfl (lv_at hl 1 rfl) ?_
        refine lv_aload_n hx hb dL_law_429 rfl (lv_at hl 3 rfl) ?_
        refine lv_iload_n hx hb dL_law_430 rfl (lv_at hl 0 rfl) ?_
        refine lv_iconst (v := nI (1)) hx hb dL_law_431 (by decide) ?_
        refine fa_iaddN hx hb dL_law_432 ?_
        refine fa_scr (j := 0 + 1) CX HX5076 hX hbl hG (by decide) (by decide) dL_law_433 ?_
        refine lv_aload_n hx hb dL_law_434 rfl (lv_at hl 3 rfl) ?_
        refine lv_iload_n hx hb dL_law_435 rfl (lv_at hl 0 rfl) ?_
        refine lv_iconst (v := nI (2)) hx hb dL_law_436 (by decide) ?_
        refine fa_iaddN hx hb dL_law_437 ?_
        refine fa_scr (j := 0 + 2) CX HX5076 hX hbl hG (by decide) (by decide) dL_law_438 ?_
        refine fa_callViu (As := [.int (xs (0 + 1)), .int (xs (0 + 2))]) (rest := [.int (x5074)]) CX HX5076 (p1n_set l G 406 hn2 v5075 r5008 hM hFM (xs (0 + 1)) (xs (0 + 2))) ln_L_51 (by omega) rfl rfl rfl rfl (Nat.le_of_ble_eq_true rfl) hl.1 ⟨Nat.le_of_ble_eq_true rfl, Nat.le_of_ble_eq_true rfl⟩ ⟨Nat.le_of_ble_eq_true rfl, Nat.le_of_ble_eq_true rfl⟩ dL_law_439 (fun x5078 v5079 H locs h5077 HX5080 => ?_)
        have hx_439 := h5077.1
        refine lv_icmp_eq (tgt := 904) hx hb dL_law_442 (by decide) (fun c_442 => ?_) (fun c_442 => ?_)
        · refine lv_iinc (v := nI (0 + 4)) (lv' := [(3, .int (nI (0 + 4))), (2, .ref (fa_B G + (397))), (1, .ref (fa_B G + (0))), (0, .ref (b))]) hx hb dL_law_904 hl (k := 0) rfl (nI_add (0) 4) (by decide) rfl (fun ls hl => ?_)
          refine lv_goto (tgt := 18) hx hb dL_law_907 (by decide) ?_
          refine lv_iload_n hx hb dL_law_18 rfl (lv_at hl 0 rfl) ?_
          refine lv_aload_n hx hb dL_law_19 rfl (lv_at hl 3 rfl) ?_
          refine fa_slen CX HX5080 hX hbl hG dL_law_20 ?_
          refine lv_iconst (v := nI (4)) hx hb dL_law_21 (by decide) ?_
          refine lv_isub hx hb dL_law_22 ?_
          refine lv_icmp_gt (tgt := 910) hx hb dL_law_23 (by decide) (fun c_23 => ?_) (fun c_23 => ?_)
          · refine lv_iconst (v := nI (1)) hx hb dL_law_910 (by decide) ?_
            exact RET _ _ _ _ _ _ _ _ _ HX5080 (by first | decide | exact Nat.le_of_ble_eq_true rfl) (by first | decide | exact Nat.le_of_ble_eq_true rfl) dL_law_911
          · exact absurd (by decide) c_23
        · exact absurd (hx_425.trans hx_439.symm) c_442
      by_cases c_32_9 : (xs 0) &&& (nI (31)) = (9 : Int32)
      · refine lv_tableIn (off := 415) (tgt := 447) hx hb dL_law_32 (by rw [c_32_9]; decide) (by rw [c_32_9]; decide) (by rw [c_32_9]; decide) (by decide) ?_
        refine lv_aload_n hx hb dL_law_447 rfl (lv_at hl 2 rfl) ?_
        refine lv_aload_n hx hb dL_law_448 rfl (lv_at hl 3 rfl) ?_
        refine lv_iload_n hx hb dL_law_449 rfl (lv_at hl 0 rfl) ?_
        refine lv_iconst (v := nI (1)) hx hb dL_law_450 (by decide) ?_
        refine fa_iaddN hx hb dL_law_451 ?_
        refine fa_scr (j := 0 + 1) CX HX5010 hX hbl hG (by decide) (by decide) dL_law_452 ?_
        refine fa_callViu (As := [.int (xs (0 + 1))]) (rest := []) CX HX5010 (p1f_append l G 406 hn v5007 r5008 hA hH hr1 hr57 hr115 hFV (xs (0 + 1))) ln_L_52 (by omega) rfl rfl rfl rfl (Nat.le_of_ble_eq_true rfl) hl.1 ⟨Nat.le_of_ble_eq_true rfl, Nat.le_of_ble_eq_true rfl⟩ ⟨Nat.le_of_ble_eq_true rfl, Nat.le_of_ble_eq_true rfl⟩ dL_law_453 (fun x5082 v5083 H locs h5081 HX5084 => ?_)
        have hFM : fa_FM v5083 := fa_FM_cong (h5081.2 397 (by omega)) (h5081.2 398 (by omega)) hFM
        have hx_453 := h5081.1
        refine lv_aload_n hx hb dL_law_456 rfl (lv_at hl 1 rfl) ?_
        refine lv_aload_n hx hb dL_law_457 rfl (lv_at hl 3 rfl) ?_
        refine lv_iload_n hx hb dL_law_458 rfl (lv_at hl 0 rfl) ?_
        refine lv_iconst (v := nI (1)) hx hb dL_law_459 (by decide) ?_
        refine fa_iaddN hx hb dL_law_460 ?_
        refine fa_scr (j := 0 + 1) CX HX5084 hX hbl hG (by decide) (by decide) dL_law_461 ?_
        refine fa_callViu (As := [.int (xs (0 + 1))]) (rest := [.int (x5082)]) CX HX5084 (p1n_append l G 406 hn2 v5083 r5008 hM hFM (xs (0 + 1))) ln_L_55 (by omega) rfl rfl rfl rfl (Nat.le_of_ble_eq_true rfl) hl.1 ⟨Nat.le_of_ble_eq_true rfl, Nat.le_of_ble_eq_true rfl⟩ ⟨Nat.le_of_ble_eq_true rfl, Nat.le_of_ble_eq_true rfl⟩ dL_law_462 (fun x5086 v5087 H locs h5085 HX5088 => ?_)
        have hx_462 := h5085.1
        refine lv_icmp_eq (tgt := 904) hx hb dL_law_465 (by decide) (fun c_465 => ?_) (fun c_465 => ?_)
        · refine lv_iinc (v := nI (0 + 4)) (lv' := [(3, .int (nI (0 + 4))), (2, .ref (fa_B G + (397))), (1, .ref (fa_B G + (0))), (0, .ref (b))]) hx hb dL_law_904 hl (k := 0) rfl (nI_add (0) 4) (by decide) rfl (fun ls hl => ?_)
          refine lv_goto (tgt := 18) hx hb dL_law_907 (by decide) ?_
          refine lv_iload_n hx hb dL_law_18 rfl (lv_at hl 0 rfl) ?_
          refine lv_aload_n hx hb dL_law_19 rfl (lv_at hl 3 rfl) ?_
          refine fa_slen CX HX5088 hX hbl hG dL_law_20 ?_
          refine lv_iconst (v := nI (4)) hx hb dL_law_21 (by decide) ?_
          refine lv_isub hx hb dL_law_22 ?_
          refine lv_icmp_gt (tgt := 910) hx hb dL_law_23 (by decide) (fun c_23 => ?_) (fun c_23 => ?_)
          · refine lv_iconst (v := nI (1)) hx hb dL_law_910 (by decide) ?_
            exact RET _ _ _ _ _ _ _ _ _ HX5088 (by first | decide | exact Nat.le_of_ble_eq_true rfl) (by first | decide | exact Nat.le_of_ble_eq_true rfl) dL_law_911
          · exact absurd (by decide) c_23
        · exact absurd (hx_453.trans hx_462.symm) c_465
      by_cases c_32_10 : (xs 0) &&& (nI (31)) = (10 : Int32)
      · refine lv_tableIn (off := 438) (tgt := 470) hx hb dL_law_32 (by rw [c_32_10]; decide) (by rw [c_32_10]; decide) (by rw [c_32_10]; decide) (by decide) ?_
        refine lv_aload_n hx hb dL_law_470 rfl (lv_at hl 2 rfl) ?_
        refine fa_callViu (As := []) (rest := []) CX HX5010 (p1f_clearText l G 406 hn v5007 r5008 hA hH hr1 hr57 hr115 hFV ) ln_L_56 (by omega) rfl rfl rfl rfl (Nat.le_of_ble_eq_true rfl) hl.1 ⟨Nat.le_of_ble_eq_true rfl, Nat.le_of_ble_eq_true rfl⟩ ⟨Nat.le_of_ble_eq_true rfl, Nat.le_of_ble_eq_true rfl⟩ dL_law_471 (fun x5090 v5091 H locs h5089 HX5092 => ?_)
        have hFM : fa_FM v5091 := fa_FM_cong (h5089.2 397 (by omega)) (h5089.2 398 (by omega)) hFM
        have hx_471 := h5089.1
        refine lv_aload_n hx hb dL_law_474 rfl (lv_at hl 1 rfl) ?_
        refine fa_callViu (As := []) (rest := [.int (x5090)]) CX HX5092 (p1n_clearText l G 406 hn2 v5091 r5008 hM hFM ) ln_L_60 (by omega) rfl rfl rfl rfl (Nat.le_of_ble_eq_true rfl) hl.1 ⟨Nat.le_of_ble_eq_true rfl, Nat.le_of_ble_eq_true rfl⟩ ⟨Nat.le_of_ble_eq_true rfl, Nat.le_of_ble_eq_true rfl⟩ dL_law_475 (fun x5094 v5095 H locs h5093 HX5096 => ?_)
        have hx_475 := h5093.1
        refine lv_icmp_eq (tgt := 904) hx hb dL_law_478 (by decide) (fun c_478 => ?_) (fun c_478 => ?_)
        · refine lv_iinc (v := nI (0 + 4)) (lv' := [(3, .int (nI (0 + 4))), (2, .ref (fa_B G + (397))), (1, .ref (fa_B G + (0))), (0, .ref (b))]) hx hb dL_law_904 hl (k := 0) rfl (nI_add (0) 4) (by decide) rfl (fun ls hl => ?_)
          refine lv_goto (tgt := 18) hx hb dL_law_907 (by decide) ?_
          refine lv_iload_n hx hb dL_law_18 rfl (lv_at hl 0 rfl) ?_
          refine lv_aload_n hx hb dL_law_19 rfl (lv_at hl 3 rfl) ?_
          refine fa_slen CX HX5096 hX hbl hG dL_law_20 ?_
          refine lv_iconst (v := nI (4)) hx hb dL_law_21 (by decide) ?_
          refine lv_isub hx hb dL_law_22 ?_
          refine lv_icmp_gt (tgt := 910) hx hb dL_law_23 (by decide) (fun c_23 => ?_) (fun c_23 => ?_)
          · refine lv_iconst (v := nI (1)) hx hb dL_law_910 (by decide) ?_
            exact RET _ _ _ _ _ _ _ _ _ HX5096 (by first | decide | exact Nat.le_of_ble_eq_true rfl) (by first | decide | exact Nat.le_of_ble_eq_true rfl) dL_law_911
          · exact absurd (by decide) c_23
        · exact absurd (hx_471.trans hx_475.symm) c_478
      by_cases c_32_11 : (xs 0) &&& (nI (31)) = (11 : Int32)
      · refine lv_tableIn (off := 451) (tgt := 483) hx hb dL_law_32 (by rw [c_32_11]; decide) (by rw [c_32_11]; decide) (by rw [c_32_11]; decide) (by decide) ?_
        refine lv_aload_n hx hb dL_law_483 rfl (lv_at hl 2 rfl) ?_
        refine fa_callViu (As := []) (rest := []) CX HX5010 (p1f_fault l G 406 hn v5007 r5008 hA hH hr1 hr57 hr115 hFV ) ln_L_61 (by omega) rfl rfl rfl rfl (Nat.le_of_ble_eq_true rfl) hl.1 ⟨Nat.le_of_ble_eq_true rfl, Nat.le_of_ble_eq_true rfl⟩ ⟨Nat.le_of_ble_eq_true rfl, Nat.le_of_ble_eq_true rfl⟩ dL_law_484 (fun x5098 v5099 H locs h5097 HX5100 => ?_)
        have hFM : fa_FM v5099 := fa_FM_cong (h5097.2 397 (by omega)) (h5097.2 398 (by omega)) hFM
        have hx_484 := h5097.1
        refine lv_aload_n hx hb dL_law_487 rfl (lv_at hl 1 rfl) ?_
        refine fa_callViu (As := []) (rest := [.int (x5098)]) CX HX5100 (p1n_fault l G 406 hn2 v5099 r5008 hM hFM ) ln_L_64 (by omega) rfl rfl rfl rfl (Nat.le_of_ble_eq_true rfl) hl.1 ⟨Nat.le_of_ble_eq_true rfl, Nat.le_of_ble_eq_true rfl⟩ ⟨Nat.le_of_ble_eq_true rfl, Nat.le_of_ble_eq_true rfl⟩ dL_law_488 (fun x5102 v5103 H locs h5101 HX5104 => ?_)
        have hx_488 := h5101.1
        refine lv_icmp_eq (tgt := 904) hx hb dL_law_491 (by decide) (fun c_491 => ?_) (fun c_491 => ?_)
        · refine lv_iinc (v := nI (0 + 4)) (lv' := [(3, .int (nI (0 + 4))), (2, .ref (fa_B G + (397))), (1, .ref (fa_B G + (0))), (0, .ref (b))]) hx hb dL_law_904 hl (k := 0) rfl (nI_add (0) 4) (by decide) rfl (fun ls hl => ?_)
          refine lv_goto (tgt := 18) hx hb dL_law_907 (by decide) ?_
          refine lv_iload_n hx hb dL_law_18 rfl (lv_at hl 0 rfl) ?_
          refine lv_aload_n hx hb dL_law_19 rfl (lv_at hl 3 rfl) ?_
          refine fa_slen CX HX5104 hX hbl hG dL_law_20 ?_
          refine lv_iconst (v := nI (4)) hx hb dL_law_21 (by decide) ?_
          refine lv_isub hx hb dL_law_22 ?_
          refine lv_icmp_gt (tgt := 910) hx hb dL_law_23 (by decide) (fun c_23 => ?_) (fun c_23 => ?_)
          · refine lv_iconst (v := nI (1)) hx hb dL_law_910 (by decide) ?_
            exact RET _ _ _ _ _ _ _ _ _ HX5104 (by first | decide | exact Nat.le_of_ble_eq_true rfl) (by first | decide | exact Nat.le_of_ble_eq_true rfl) dL_law_911
          · exact absurd (by decide) c_23
        · exact absurd (hx_484.trans hx_488.symm) c_491
      by_cases c_32_12 : (xs 0) &&& (nI (31)) = (12 : Int32)
      · refine lv_tableIn (off := 464) (tgt := 496) hx hb dL_law_32 (by rw [c_32_12]; decide) (by rw [c_32_12]; decide) (by rw [c_32_12]; decide) (by decide) ?_
        refine lv_aload_n hx hb dL_law_496 rfl (lv_at hl 2 rfl) ?_
        refine fa_callViu (As := []) (rest := []) CX HX5010 (p1f_run l G 406 hn v5007 r5008 hA hH hr1 hr57 hr115 hFV ) ln_L_65 (by omega) rfl rfl rfl rfl (Nat.le_of_ble_eq_true rfl) hl.1 ⟨Nat.le_of_ble_eq_true rfl, Nat.le_of_ble_eq_true rfl⟩ ⟨Nat.le_of_ble_eq_true rfl, Nat.le_of_ble_eq_true rfl⟩ dL_law_497 (fun x5106 v5107 H locs h5105 HX5108 => ?_)
        have hFM : fa_FM v5107 := fa_FM_cong (h5105.2 397 (by omega)) (h5105.2 398 (by omega)) hFM
        have hx_497 := h5105.1
        refine lv_aload_n hx hb dL_law_500 rfl (lv_at hl 1 rfl) ?_
        refine fa_callViu (As := []) (rest := [.int (x5106)]) CX HX5108 (p1n_run l G 406 hn2 v5107 r5008 hM hFM ) ln_L_68 (by omega) rfl rfl rfl rfl (Nat.le_of_ble_eq_true rfl) hl.1 ⟨Nat.le_of_ble_eq_true rfl, Nat.le_of_ble_eq_true rfl⟩ ⟨Nat.le_of_ble_eq_true rfl, Nat.le_of_ble_eq_true rfl⟩ dL_law_501 (fun x5110 v5111 H locs h5109 HX5112 => ?_)
        have hx_501 := h5109.1
        refine lv_icmp_eq (tgt := 904) hx hb dL_law_504 (by decide) (fun c_504 => ?_) (fun c_504 => ?_)
        · refine lv_iinc (v := nI (0 + 4)) (lv' := [(3, .int (nI (0 + 4))), (2, .ref (fa_B G + (397))), (1, .ref (fa_B G + (0))), (0, .ref (b))]) hx hb dL_law_904 hl (k := 0) rfl (nI_add (0) 4) (by decide) rfl (fun ls hl => ?_)
          refine lv_goto (tgt := 18) hx hb dL_law_907 (by decide) ?_
          refine lv_iload_n hx hb dL_law_18 rfl (lv_at hl 0 rfl) ?_
          refine lv_aload_n hx hb dL_law_19 rfl (lv_at hl 3 rfl) ?_
          refine fa_slen CX HX5112 hX hbl hG dL_law_20 ?_
          refine lv_iconst (v := nI (4)) hx hb dL_law_21 (by decide) ?_
          refine lv_isub hx hb dL_law_22 ?_
          refine lv_icmp_gt (tgt := 910) hx hb dL_law_23 (by decide) (fun c_23 => ?_) (fun c_23 => ?_)
          · refine lv_iconst (v := nI (1)) hx hb dL_law_910 (by decide) ?_
            exact RET _ _ _ _ _ _ _ _ _ HX5112 (by first | decide | exact Nat.le_of_ble_eq_true rfl) (by first | decide | exact Nat.le_of_ble_eq_true rfl) dL_law_911
          · exact absurd (by decide) c_23
        · exact absurd (hx_497.trans hx_501.symm) c_504
      by_cases c_32_13 : (xs 0) &&& (nI (31)) = (13 : Int32)
      · refine lv_tableIn (off := 477) (tgt := 509) hx hb dL_law_32 (by rw [c_32_13]; decide) (by rw [c_32_13]; decide) (by rw [c_32_13]; decide) (by decide) ?_
        refine lv_aload_n hx hb dL_law_509 rfl (lv_at hl 2 rfl) ?_
        refine lv_aload_n hx hb dL_law_510 rfl (lv_at hl 3 rfl) ?_
        refine lv_iload_n hx hb dL_law_511 rfl (lv_at hl 0 rfl) ?_
        refine lv_iconst (v := nI (1)) hx hb dL_law_512 (by decide) ?_
        refine fa_iaddN hx hb dL_law_513 ?_
        refine fa_scr (j := 0 + 1) CX HX5010 hX hbl hG (by decide) (by decide) dL_law_514 ?_
        refine fa_callVip (As := [.int (xs (0 + 1))]) (rest := []) CX HX5010 (p1f_why l G 406 hn v5007 r5008 hA hH hr1 hr57 hr115 hFV (xs (0 + 1))) ln_L_69 (by omega) rfl rfl rfl rfl (Nat.le_of_ble_eq_true rfl) hl.1 ⟨Nat.le_of_ble_eq_true rfl, Nat.le_of_ble_eq_true rfl⟩ ⟨Nat.le_of_ble_eq_true rfl, Nat.le_of_ble_eq_true rfl⟩ dL_law_515 (fun x5114 H locs h5113 HX5115 => ?_)
        have hx_515 := h5113
        refine lv_aload_n hx hb dL_law_518 rfl (lv_at hl 1 rfl) ?_
        refine lv_aload_n hx hb dL_law_519 rfl (lv_at hl 3 rfl) ?_
        refine lv_iload_n hx hb dL_law_520 rfl (lv_at hl 0 rfl) ?_
        refine lv_iconst (v := nI (1)) hx hb dL_law_521 (by decide) ?_
        refine fa_iaddN hx hb dL_law_522 ?_
        refine fa_scr (j := 0 + 1) CX HX5115 hX hbl hG (by decide) (by decide) dL_law_523 ?_
        refine fa_callVip (As := [.int (xs (0 + 1))]) (rest := [.int (x5114)]) CX HX5115 (p1n_why l G 406 hn2 v5007 r5008 hM hFM (xs (0 + 1))) ln_L_72 (by omega) rfl rfl rfl rfl (Nat.le_of_ble_eq_true rfl) hl.1 ⟨Nat.le_of_ble_eq_true rfl, Nat.le_of_ble_eq_true rfl⟩ ⟨Nat.le_of_ble_eq_true rfl, Nat.le_of_ble_eq_true rfl⟩ dL_law_524 (fun x5117 H locs h5116 HX5118 => ?_)
        have hx_524 := h5116
        refine lv_icmp_eq (tgt := 904) hx hb dL_law_527 (by decide) (fun c_527 => ?_) (fun c_527 => ?_)
        · refine lv_iinc (v := nI (0 + 4)) (lv' := [(3, .int (nI (0 + 4))), (2, .ref (fa_B G + (397))), (1, .ref (fa_B G + (0))), (0, .ref (b))]) hx hb dL_law_904 hl (k := 0) rfl (nI_add (0) 4) (by decide) rfl (fun ls hl => ?_)
          refine lv_goto (tgt := 18) hx hb dL_law_907 (by decide) ?_
          refine lv_iload_n hx hb dL_law_18 rfl (lv_at hl 0 rfl) ?_
          refine lv_aload_n hx hb dL_law_19 rfl (lv_at hl 3 rfl) ?_
          refine fa_slen CX HX5118 hX hbl hG dL_law_20 ?_
          refine lv_iconst (v := nI (4)) hx hb dL_law_21 (by decide) ?_
          refine lv_isub hx hb dL_law_22 ?_
          refine lv_icmp_gt (tgt := 910) hx hb dL_law_23 (by decide) (fun c_23 => ?_) (fun c_23 => ?_)
          · refine lv_iconst (v := nI (1)) hx hb dL_law_910 (by decide) ?_
            exact RET _ _ _ _ _ _ _ _ _ HX5118 (by first | decide | exact Nat.le_of_ble_eq_true rfl) (by first | decide | exact Nat.le_of_ble_eq_true rfl) dL_law_911
          · exact absurd (by decide) c_23
        · exact absurd (hx_515.trans hx_524.symm) c_527
      by_cases c_32_14 : (xs 0) &&& (nI (31)) = (14 : Int32)
      · refine lv_tableIn (off := 500) (tgt := 532) hx hb dL_law_32 (by rw [c_32_14]; decide) (by rw [c_32_14]; decide) (by rw [c_32_14]; decide) (by decide) ?_
        refine lv_aload_n hx hb dL_law_532 rfl (lv_at hl 2 rfl) ?_
        refine fa_callVip (As := []) (rest := []) CX HX5010 (p1f_undo l G 406 hn v5007 r5008 hA hH hr1 hr57 hr115 hFV ) ln_L_73 (by omega) rfl rfl rfl rfl (Nat.le_of_ble_eq_true rfl) hl.1 ⟨Nat.le_of_ble_eq_true rfl, Nat.le_of_ble_eq_true rfl⟩ ⟨Nat.le_of_ble_eq_true rfl, Nat.le_of_ble_eq_true rfl⟩ dL_law_533 (fun x5120 H locs h5119 HX5121 => ?_)
        have hx_533 := h5119
        refine lv_aload_n hx hb dL_law_536 rfl (lv_at hl 1 rfl) ?_
        refine fa_callVip (As := []) (rest := [.int (x5120)]) CX HX5121 (p1n_undo l G 406 hn2 v5007 r5008 hM hFM ) ln_L_76 (by omega) rfl rfl rfl rfl (Nat.le_of_ble_eq_true rfl) hl.1 ⟨Nat.le_of_ble_eq_true rfl, Nat.le_of_ble_eq_true rfl⟩ ⟨Nat.le_of_ble_eq_true rfl, Nat.le_of_ble_eq_true rfl⟩ dL_law_537 (fun x5123 H locs h5122 HX5124 => ?_)
        have hx_537 := h5122
        refine lv_icmp_eq (tgt := 904) hx hb dL_law_540 (by decide) (fun c_540 => ?_) (fun c_540 => ?_)
        · refine lv_iinc (v := nI (0 + 4)) (lv' := [(3, .int (nI (0 + 4))), (2, .ref (fa_B G + (397))), (1, .ref (fa_B G + (0))), (0, .ref (b))]) hx hb dL_law_904 hl (k := 0) rfl (nI_add (0) 4) (by decide) rfl (fun ls hl => ?_)
          refine lv_goto (tgt := 18) hx hb dL_law_907 (by decide) ?_
          refine lv_iload_n hx hb dL_law_18 rfl (lv_at hl 0 rfl) ?_
          refine lv_aload_n hx hb dL_law_19 rfl (lv_at hl 3 rfl) ?_
          refine fa_slen CX HX5124 hX hbl hG dL_law_20 ?_
          refine lv_iconst (v := nI (4)) hx hb dL_law_21 (by decide) ?_
          refine lv_isub hx hb dL_law_22 ?_
          refine lv_icmp_gt (tgt := 910) hx hb dL_law_23 (by decide) (fun c_23 => ?_) (fun c_23 => ?_)
          · refine lv_iconst (v := nI (1)) hx hb dL_law_910 (by decide) ?_
            exact RET _ _ _ _ _ _ _ _ _ HX5124 (by first | decide | exact Nat.le_of_ble_eq_true rfl) (by first | decide | exact Nat.le_of_ble_eq_true rfl) dL_law_911
          · exact absurd (by decide) c_23
        · exact absurd (hx_533.trans hx_537.symm) c_540
      by_cases c_32_15 : (xs 0) &&& (nI (31)) = (15 : Int32)
      · refine lv_tableIn (off := 513) (tgt := 545) hx hb dL_law_32 (by rw [c_32_15]; decide) (by rw [c_32_15]; decide) (by rw [c_32_15]; decide) (by decide) ?_
        refine lv_aload_n hx hb dL_law_545 rfl (lv_at hl 2 rfl) ?_
        refine fa_callVip (As := []) (rest := []) CX HX5010 (p1f_now l G 406 hn v5007 r5008 hA hH hr1 hr57 hr115 hFV ) ln_L_77 (by omega) rfl rfl rfl rfl (Nat.le_of_ble_eq_true rfl) hl.1 ⟨Nat.le_of_ble_eq_true rfl, Nat.le_of_ble_eq_true rfl⟩ ⟨Nat.le_of_ble_eq_true rfl, Nat.le_of_ble_eq_true rfl⟩ dL_law_546 (fun x5126 H locs h5125 HX5127 => ?_)
        have hx_546 := h5125
        refine lv_aload_n hx hb dL_law_549 rfl (lv_at hl 1 rfl) ?_
        refine fa_callVip (As := []) (rest := [.int (x5126)]) CX HX5127 (p1n_now l G 406 hn2 v5007 r5008 hM hFM ) ln_L_80 (by omega) rfl rfl rfl rfl (Nat.le_of_ble_eq_true rfl) hl.1 ⟨Nat.le_of_ble_eq_true rfl, Nat.le_of_ble_eq_true rfl⟩ ⟨Nat.le_of_ble_eq_true rfl, Nat.le_of_ble_eq_true rfl⟩ dL_law_550 (fun x5129 H locs h5128 HX5130 => ?_)
        have hx_550 := h5128
        refine lv_icmp_eq (tgt := 904) hx hb dL_law_553 (by decide) (fun c_553 => ?_) (fun c_553 => ?_)
        · refine lv_iinc (v := nI (0 + 4)) (lv' := [(3, .int (nI (0 + 4))), (2, .ref (fa_B G + (397))), (1, .ref (fa_B G + (0))), (0, .ref (b))]) hx hb dL_law_904 hl (k := 0) rfl (nI_add (0) 4) (by decide) rfl (fun ls hl => ?_)
          refine lv_goto (tgt := 18) hx hb dL_law_907 (by decide) ?_
          refine lv_iload_n hx hb dL_law_18 rfl (lv_at hl 0 rfl) ?_
          refine lv_aload_n hx hb dL_law_19 rfl (lv_at hl 3 rfl) ?_
          refine fa_slen CX HX5130 hX hbl hG dL_law_20 ?_
          refine lv_iconst (v := nI (4)) hx hb dL_law_21 (by decide) ?_
          refine lv_isub hx hb dL_law_22 ?_
          refine lv_icmp_gt (tgt := 910) hx hb dL_law_23 (by decide) (fun c_23 => ?_) (fun c_23 => ?_)
          · refine lv_iconst (v := nI (1)) hx hb dL_law_910 (by decide) ?_
            exact RET _ _ _ _ _ _ _ _ _ HX5130 (by first | decide | exact Nat.le_of_ble_eq_true rfl) (by first | decide | exact Nat.le_of_ble_eq_true rfl) dL_law_911
          · exact absurd (by decide) c_23
        · exact absurd (hx_546.trans hx_550.symm) c_553
      by_cases c_32_16 : (xs 0) &&& (nI (31)) = (16 : Int32)
      · refine lv_tableIn (off := 526) (tgt := 558) hx hb dL_law_32 (by rw [c_32_16]; decide) (by rw [c_32_16]; decide) (by rw [c_32_16]; decide) (by decide) ?_
        refine lv_aload_n hx hb dL_law_558 rfl (lv_at hl 2 rfl) ?_
        refine lv_aload_n hx hb dL_law_559 rfl (lv_at hl 3 rfl) ?_
        refine lv_iload_n hx hb dL_law_560 rfl (lv_at hl 0 rfl) ?_
        refine lv_iconst (v := nI (1)) hx hb dL_law_561 (by decide) ?_
        refine fa_iaddN hx hb dL_law_562 ?_
        refine fa_scr (j := 0 + 1) CX HX5010 hX hbl hG (by decide) (by decide) dL_law_563 ?_
        refine fa_callVip (As := [.int (xs (0 + 1))]) (rest := []) CX HX5010 (p1f_count l G 406 hn v5007 r5008 hA hH hr1 hr57 hr115 hFV (xs (0 + 1))) ln_L_81 (by omega) rfl rfl rfl rfl (Nat.le_of_ble_eq_true rfl) hl.1 ⟨Nat.le_of_ble_eq_true rfl, Nat.le_of_ble_eq_true rfl⟩ ⟨Nat.le_of_ble_eq_true rfl, Nat.le_of_ble_eq_true rfl⟩ dL_law_564 (fun x5132 H locs h5131 HX5133 => ?_)
        have hx_564 := h5131
        refine lv_aload_n hx hb dL_law_567 rfl (lv_at hl 1 rfl) ?_
        refine lv_aload_n hx hb dL_law_568 rfl (lv_at hl 3 rfl) ?_
        refine lv_iload_n hx hb dL_law_569 rfl (lv_at hl 0 rfl) ?_
        refine lv_iconst (v := nI (1)) hx hb dL_law_570 (by decide) ?_
        refine fa_iaddN hx hb dL_law_571 ?_
        refine fa_scr (j := 0 + 1) CX HX5133 hX hbl hG (by decide) (by decide) dL_law_572 ?_
        refine fa_callVip (As := [.int (xs (0 + 1))]) (rest := [.int (x5132)]) CX HX5133 (p1n_count l G 406 hn2 v5007 r5008 hM hFM (xs (0 + 1))) ln_L_84 (by omega) rfl rfl rfl rfl (Nat.le_of_ble_eq_true rfl) hl.1 ⟨Nat.le_of_ble_eq_true rfl, Nat.le_of_ble_eq_true rfl⟩ ⟨Nat.le_of_ble_eq_true rfl, Nat.le_of_ble_eq_true rfl⟩ dL_law_573 (fun x5135 H locs h5134 HX5136 => ?_)
        have hx_573 := h5134
        refine lv_icmp_eq (tgt := 904) hx hb dL_law_576 (by decide) (fun c_576 => ?_) (fun c_576 => ?_)
        · refine lv_iinc (v := nI (0 + 4)) (lv' := [(3, .int (nI (0 + 4))), (2, .ref (fa_B G + (397))), (1, .ref (fa_B G + (0))), (0, .ref (b))]) hx hb dL_law_904 hl (k := 0) rfl (nI_add (0) 4) (by decide) rfl (fun ls hl => ?_)
          refine lv_goto (tgt := 18) hx hb dL_law_907 (by decide) ?_
          refine lv_iload_n hx hb dL_law_18 rfl (lv_at hl 0 rfl) ?_
          refine lv_aload_n hx hb dL_law_19 rfl (lv_at hl 3 rfl) ?_
          refine fa_slen CX HX5136 hX hbl hG dL_law_20 ?_
          refine lv_iconst (v := nI (4)) hx hb dL_law_21 (by decide) ?_
          refine lv_isub hx hb dL_law_22 ?_
          refine lv_icmp_gt (tgt := 910) hx hb dL_law_23 (by decide) (fun c_23 => ?_) (fun c_23 => ?_)
          · refine lv_iconst (v := nI (1)) hx hb dL_law_910 (by decide) ?_
            exact RET _ _ _ _ _ _ _ _ _ HX5136 (by first | decide | exact Nat.le_of_ble_eq_true rfl) (by first | decide | exact Nat.le_of_ble_eq_true rfl) dL_law_911
          · exact absurd (by decide) c_23
        · exact absurd (hx_564.trans hx_573.symm) c_576
      by_cases c_32_17 : (xs 0) &&& (nI (31)) = (17 : Int32)
      · refine lv_tableIn (off := 549) (tgt := 581) hx hb dL_law_32 (by rw [c_32_17]; decide) (by rw [c_32_17]; decide) (by rw [c_32_17]; decide) (by decide) ?_
        refine lv_aload_n hx hb dL_law_581 rfl (lv_at hl 2 rfl) ?_
        refine lv_aload_n hx hb dL_law_582 rfl (lv_at hl 3 rfl) ?_
        refine lv_iload_n hx hb dL_law_583 rfl (lv_at hl 0 rfl) ?_
        refine lv_iconst (v := nI (1)) hx hb dL_law_584 (by decide) ?_
        refine fa_iaddN hx hb dL_law_585 ?_
        refine fa_scr (j := 0 + 1) CX HX5010 hX hbl hG (by decide) (by decide) dL_law_586 ?_
        refine fa_callVip (As := [.int (xs (0 + 1))]) (rest := []) CX HX5010 (p1f_fileAt l G 406 hn v5007 r5008 hA hH hr1 hr57 hr115 hFV (xs (0 + 1))) ln_L_85 (by omega) rfl rfl rfl rfl (Nat.le_of_ble_eq_true rfl) hl.1 ⟨Nat.le_of_ble_eq_true rfl, Nat.le_of_ble_eq_true rfl⟩ ⟨Nat.le_of_ble_eq_true rfl, Nat.le_of_ble_eq_true rfl⟩ dL_law_587 (fun x5138 H locs h5137 HX5139 => ?_)
        have hx_587 := h5137
        refine lv_aload_n hx hb dL_law_590 rfl (lv_at hl 1 rfl) ?_
        refine lv_aload_n hx hb dL_law_591 rfl (lv_at hl 3 rfl) ?_
        refine lv_iload_n hx hb dL_law_592 rfl (lv_at hl 0 rfl) ?_
        refine lv_iconst (v := nI (1)) hx hb dL_law_593 (by decide) ?_
        refine fa_iaddN hx hb dL_law_594 ?_
        refine fa_scr (j := 0 + 1) CX HX5139 hX hbl hG (by decide) (by decide) dL_law_595 ?_
        refine fa_callVip (As := [.int (xs (0 + 1))]) (rest := [.int (x5138)]) CX HX5139 (p1n_fileAt l G 406 hn2 v5007 r5008 hM hFM (xs (0 + 1))) ln_L_88 (by omega) rfl rfl rfl rfl (Nat.le_of_ble_eq_true rfl) hl.1 ⟨Nat.le_of_ble_eq_true rfl, Nat.le_of_ble_eq_true rfl⟩ ⟨Nat.le_of_ble_eq_true rfl, Nat.le_of_ble_eq_true rfl⟩ dL_law_596 (fun x5141 H locs h5140 HX5142 => ?_)
        have hx_596 := h5140
        refine lv_icmp_eq (tgt := 904) hx hb dL_law_599 (by decide) (fun c_599 => ?_) (fun c_599 => ?_)
        · refine lv_iinc (v := nI (0 + 4)) (lv' := [(3, .int (nI (0 + 4))), (2, .ref (fa_B G + (397))), (1, .ref (fa_B G + (0))), (0, .ref (b))]) hx hb dL_law_904 hl (k := 0) rfl (nI_add (0) 4) (by decide) rfl (fun ls hl => ?_)
          refine lv_goto (tgt := 18) hx hb dL_law_907 (by decide) ?_
          refine lv_iload_n hx hb dL_law_18 rfl (lv_at hl 0 rfl) ?_
          refine lv_aload_n hx hb dL_law_19 rfl (lv_at hl 3 rfl) ?_
          refine fa_slen CX HX5142 hX hbl hG dL_law_20 ?_
          refine lv_iconst (v := nI (4)) hx hb dL_law_21 (by decide) ?_
          refine lv_isub hx hb dL_law_22 ?_
          refine lv_icmp_gt (tgt := 910) hx hb dL_law_23 (by decide) (fun c_23 => ?_) (fun c_23 => ?_)
          · refine lv_iconst (v := nI (1)) hx hb dL_law_910 (by decide) ?_
            exact RET _ _ _ _ _ _ _ _ _ HX5142 (by first | decide | exact Nat.le_of_ble_eq_true rfl) (by first | decide | exact Nat.le_of_ble_eq_true rfl) dL_law_911
          · exact absurd (by decide) c_23
        · exact absurd (hx_587.trans hx_596.symm) c_599
      by_cases c_32_18 : (xs 0) &&& (nI (31)) = (18 : Int32)
      · refine lv_tableIn (off := 572) (tgt := 604) hx hb dL_law_32 (by rw [c_32_18]; decide) (by rw [c_32_18]; decide) (by rw [c_32_18]; decide) (by decide) ?_
        refine lv_aload_n hx hb dL_law_604 rfl (lv_at hl 2 rfl) ?_
        refine lv_aload_n hx hb dL_law_605 rfl (lv_at hl 3 rfl) ?_
        refine lv_iload_n hx hb dL_law_606 rfl (lv_at hl 0 rfl) ?_
        refine lv_iconst (v := nI (1)) hx hb dL_law_607 (by decide) ?_
        refine fa_iaddN hx hb dL_law_608 ?_
        refine fa_scr (j := 0 + 1) CX HX5010 hX hbl hG (by decide) (by decide) dL_law_609 ?_
        refine lv_aload_n hx hb dL_law_610 rfl (lv_at hl 3 rfl) ?_
        refine lv_iload_n hx hb dL_law_611 rfl (lv_at hl 0 rfl) ?_
        refine lv_iconst (v := nI (2)) hx hb dL_law_612 (by decide) ?_
        refine fa_iaddN hx hb dL_law_613 ?_
        refine fa_scr (j := 0 + 2) CX HX5010 hX hbl hG (by decide) (by decide) dL_law_614 ?_
        refine fa_callVip (As := [.int (xs (0 + 1)), .int (xs (0 + 2))]) (rest := []) CX HX5010 (p1f_file l G 406 hn v5007 r5008 hA hH hr1 hr57 hr115 hFV (xs (0 + 1)) (xs (0 + 2))) ln_L_89 (by omega) rfl rfl rfl rfl (Nat.le_of_ble_eq_true rfl) hl.1 ⟨Nat.le_of_ble_eq_true rfl, Nat.le_of_ble_eq_true rfl⟩ ⟨Nat.le_of_ble_eq_true rfl, Nat.le_of_ble_eq_true rfl⟩ dL_law_615 (fun x5144 H locs h5143 HX5145 => ?_)
        have hx_615 := h5143
        refine lv_aload_n hx hb dL_law_618 rfl (lv_at hl 1 rfl) ?_
        refine lv_aload_n hx hb dL_law_619 rfl (lv_at hl 3 rfl) ?_
        refine lv_iload_n hx hb dL_law_620 rfl (lv_at hl 0 rfl) ?_
        refine lv_iconst (v := nI (1)) hx hb dL_law_621 (by decide) ?_
        refine fa_iaddN hx hb dL_law_622 ?_
        refine fa_scr (j := 0 + 1) CX HX5145 hX hbl hG (by decide) (by decide) dL_law_623 ?_
        refine lv_aload_n hx hb dL_law_624 rfl (lv_at hl 3 rfl) ?_
        refine lv_iload_n hx hb dL_law_625 rfl (lv_at hl 0 rfl) ?_
        refine lv_iconst (v := nI (2)) hx hb dL_law_626 (by decide) ?_
        refine fa_iaddN hx hb dL_law_627 ?_
        refine fa_scr (j := 0 + 2) CX HX5145 hX hbl hG (by decide) (by decide) dL_law_628 ?_
        refine fa_callVip (As := [.int (xs (0 + 1)), .int (xs (0 + 2))]) (rest := [.int (x5144)]) CX HX5145 (p1n_file l G 406 hn2 v5007 r5008 hM hFM (xs (0 + 1)) (xs (0 + 2))) ln_L_92 (by omega) rfl rfl rfl rfl (Nat.le_of_ble_eq_true rfl) hl.1 ⟨Nat.le_of_ble_eq_true rfl, Nat.le_of_ble_eq_true rfl⟩ ⟨Nat.le_of_ble_eq_true rfl, Nat.le_of_ble_eq_true rfl⟩ dL_law_629 (fun x5147 H locs h5146 HX5148 => ?_)
        have hx_629 := h5146
        refine lv_icmp_eq (tgt := 904) hx hb dL_law_632 (by decide) (fun c_632 => ?_) (fun c_632 => ?_)
        · refine lv_iinc (v := nI (0 + 4)) (lv' := [(3, .int (nI (0 + 4))), (2, .ref (fa_B G + (397))), (1, .ref (fa_B G + (0))), (0, .ref (b))]) hx hb dL_law_904 hl (k := 0) rfl (nI_add (0) 4) (by decide) rfl (fun ls hl => ?_)
          refine lv_goto (tgt := 18) hx hb dL_law_907 (by decide) ?_
          refine lv_iload_n hx hb dL_law_18 rfl (lv_at hl 0 rfl) ?_
          refine lv_aload_n hx hb dL_law_19 rfl (lv_at hl 3 rfl) ?_
          refine fa_slen CX HX5148 hX hbl hG dL_law_20 ?_
          refine lv_iconst (v := nI (4)) hx hb dL_law_21 (by decide) ?_
          refine lv_isub hx hb dL_law_22 ?_
          refine lv_icmp_gt (tgt := 910) hx hb dL_law_23 (by decide) (fun c_23 => ?_) (fun c_23 => ?_)
          · refine lv_iconst (v := nI (1)) hx hb dL_law_910 (by decide) ?_
            exact RET _ _ _ _ _ _ _ _ _ HX5148 (by first | decide | exact Nat.le_of_ble_eq_true rfl) (by first | decide | exact Nat.le_of_ble_eq_true rfl) dL_law_911
          · exact absurd (by decide) c_23
        · exact absurd (hx_615.trans hx_629.symm) c_632
      by_cases c_32_19 : (xs 0) &&& (nI (31)) = (19 : Int32)
      · refine lv_tableIn (off := 605) (tgt := 637) hx hb dL_law_32 (by rw [c_32_19]; decide) (by rw [c_32_19]; decide) (by rw [c_32_19]; decide) (by decide) ?_
        refine lv_aload_n hx hb dL_law_637 rfl (lv_at hl 2 rfl) ?_
        refine lv_aload_n hx hb dL_law_638 rfl (lv_at hl 3 rfl) ?_
        refine lv_iload_n hx hb dL_law_639 rfl (lv_at hl 0 rfl) ?_
        refine lv_iconst (v := nI (1)) hx hb dL_law_640 (by decide) ?_
        refine fa_iaddN hx hb dL_law_641 ?_
        refine fa_scr (j := 0 + 1) CX HX5010 hX hbl hG (by decide) (by decide) dL_law_642 ?_
        refine lv_aload_n hx hb dL_law_643 rfl (lv_at hl 3 rfl) ?_
        refine lv_iload_n hx hb dL_law_644 rfl (lv_at hl 0 rfl) ?_
        refine lv_iconst (v := nI (2)) hx hb dL_law_645 (by decide) ?_
        refine fa_iaddN hx hb dL_law_646 ?_
        refine fa_scr (j := 0 + 2) CX HX5010 hX hbl hG (by decide) (by decide) dL_law_647 ?_
        refine fa_callVip (As := [.int (xs (0 + 1)), .int (xs (0 + 2))]) (rest := []) CX HX5010 (p1f_sealOf l G 406 hn v5007 r5008 hA hH hr1 hr57 hr115 hFV (xs (0 + 1)) (xs (0 + 2))) ln_L_93 (by omega) rfl rfl rfl rfl (Nat.le_of_ble_eq_true rfl) hl.1 ⟨Nat.le_of_ble_eq_true rfl, Nat.le_of_ble_eq_true rfl⟩ ⟨Nat.le_of_ble_eq_true rfl, Nat.le_of_ble_eq_true rfl⟩ dL_law_648 (fun x5150 H locs h5149 HX5151 => ?_)
        have hx_648 := h5149
        refine lv_aload_n hx hb dL_law_651 rfl (lv_at hl 1 rfl) ?_
        refine lv_aload_n hx hb dL_law_652 rfl (lv_at hl 3 rfl) ?_
        refine lv_iload_n hx hb dL_law_653 rfl (lv_at hl 0 rfl) ?_
        refine lv_iconst (v := nI (1)) hx hb dL_law_654 (by decide) ?_
        refine fa_iaddN hx hb dL_law_655 ?_
        refine fa_scr (j := 0 + 1) CX HX5151 hX hbl hG (by decide) (by decide) dL_law_656 ?_
        refine lv_aload_n hx hb dL_law_657 rfl (lv_at hl 3 rfl) ?_
        refine lv_iload_n hx hb dL_law_658 rfl (lv_at hl 0 rfl) ?_
        refine lv_iconst (v := nI (2)) hx hb dL_law_659 (by decide) ?_
        refine fa_iaddN hx hb dL_law_660 ?_
        refine fa_scr (j := 0 + 2) CX HX5151 hX hbl hG (by decide) (by decide) dL_law_661 ?_
        refine fa_callVip (As := [.int (xs (0 + 1)), .int (xs (0 + 2))]) (rest := [.int (x5150)]) CX HX5151 (p1n_sealOf l G 406 hn2 v5007 r5008 hM hFM (xs (0 + 1)) (xs (0 + 2))) ln_L_96 (by omega) rfl rfl rfl rfl (Nat.le_of_ble_eq_true rfl) hl.1 ⟨Nat.le_of_ble_eq_true rfl, Nat.le_of_ble_eq_true rfl⟩ ⟨Nat.le_of_ble_eq_true rfl, Nat.le_of_ble_eq_true rfl⟩ dL_law_662 (fun x5153 H locs h5152 HX5154 => ?_)
        have hx_662 := h5152
        refine lv_icmp_eq (tgt := 904) hx hb dL_law_665 (by decide) (fun c_665 => ?_) (fun c_665 => ?_)
        · refine lv_iinc (v := nI (0 + 4)) (lv' := [(3, .int (nI (0 + 4))), (2, .ref (fa_B G + (397))), (1, .ref (fa_B G + (0))), (0, .ref (b))]) hx hb dL_law_904 hl (k := 0) rfl (nI_add (0) 4) (by decide) rfl (fun ls hl => ?_)
          refine lv_goto (tgt := 18) hx hb dL_law_907 (by decide) ?_
          refine lv_iload_n hx hb dL_law_18 rfl (lv_at hl 0 rfl) ?_
          refine lv_aload_n hx hb dL_law_19 rfl (lv_at hl 3 rfl) ?_
          refine fa_slen CX HX5154 hX hbl hG dL_law_20 ?_
          refine lv_iconst (v := nI (4)) hx hb dL_law_21 (by decide) ?_
          refine lv_isub hx hb dL_law_22 ?_
          refine lv_icmp_gt (tgt := 910) hx hb dL_law_23 (by decide) (fun c_23 => ?_) (fun c_23 => ?_)
          · refine lv_iconst (v := nI (1)) hx hb dL_law_910 (by decide) ?_
            exact RET _ _ _ _ _ _ _ _ _ HX5154 (by first | decide | exact Nat.le_of_ble_eq_true rfl) (by first | decide | exact Nat.le_of_ble_eq_true rfl) dL_law_911
          · exact absurd (by decide) c_23
        · exact absurd (hx_648.trans hx_662.symm) c_665
      by_cases c_32_20 : (xs 0) &&& (nI (31)) = (20 : Int32)
      · refine lv_tableIn (off := 638) (tgt := 670) hx hb dL_law_32 (by rw [c_32_20]; decide) (by rw [c_32_20]; decide) (by rw [c_32_20]; decide) (by decide) ?_
        refine lv_aload_n hx hb dL_law_670 rfl (lv_at hl 2 rfl) ?_
        refine lv_aload_n hx hb dL_law_671 rfl (lv_at hl 3 rfl) ?_
        refine lv_iload_n hx hb dL_law_672 rfl (lv_at hl 0 rfl) ?_
        refine lv_iconst (v := nI (1)) hx hb dL_law_673 (by decide) ?_
        refine fa_iaddN hx hb dL_law_674 ?_
        refine fa_scr (j := 0 + 1) CX HX5010 hX hbl hG (by decide) (by decide) dL_law_675 ?_
        refine lv_aload_n hx hb dL_law_676 rfl (lv_at hl 3 rfl) ?_
        refine lv_iload_n hx hb dL_law_677 rfl (lv_at hl 0 rfl) ?_
        refine lv_iconst (v := nI (2)) hx hb dL_law_678 (by decide) ?_
        refine fa_iaddN hx hb dL_law_679 ?_
        refine fa_scr (j := 0 + 2) CX HX5010 hX hbl hG (by decide) (by decide) dL_law_680 ?_
        refine fa_callVip (As := [.int (xs (0 + 1)), .int (xs (0 + 2))]) (rest := []) CX HX5010 (p1f_trace l G 406 hn v5007 r5008 hA hH hr1 hr57 hr115 hFV (xs (0 + 1)) (xs (0 + 2))) ln_L_97 (by omega) rfl rfl rfl rfl (Nat.le_of_ble_eq_true rfl) hl.1 ⟨Nat.le_of_ble_eq_true rfl, Nat.le_of_ble_eq_true rfl⟩ ⟨Nat.le_of_ble_eq_true rfl, Nat.le_of_ble_eq_true rfl⟩ dL_law_681 (fun x5156 H locs h5155 HX5157 => ?_)
        have hx_681 := h5155
        refine lv_aload_n hx hb dL_law_684 rfl (lv_at hl 1 rfl) ?_
        refine lv_aload_n hx hb dL_law_685 rfl (lv_at hl 3 rfl) ?_
        refine lv_iload_n hx hb dL_law_686 rfl (lv_at hl 0 rfl) ?_
        refine lv_iconst (v := nI (1)) hx hb dL_law_687 (by decide) ?_
        refine fa_iaddN hx hb dL_law_688 ?_
        refine fa_scr (j := 0 + 1) CX HX5157 hX hbl hG (by decide) (by decide) dL_law_689 ?_
        refine lv_aload_n hx hb dL_law_690 rfl (lv_at hl 3 rfl) ?_
        refine lv_iload_n hx hb dL_law_691 rfl (lv_at hl 0 rfl) ?_
        refine lv_iconst (v := nI (2)) hx hb dL_law_692 (by decide) ?_
        refine fa_iaddN hx hb dL_law_693 ?_
        refine fa_scr (j := 0 + 2) CX HX5157 hX hbl hG (by decide) (by decide) dL_law_694 ?_
        refine fa_callVip (As := [.int (xs (0 + 1)), .int (xs (0 + 2))]) (rest := [.int (x5156)]) CX HX5157 (p1n_trace l G 406 hn2 v5007 r5008 hM hFM (xs (0 + 1)) (xs (0 + 2))) ln_L_100 (by omega) rfl rfl rfl rfl (Nat.le_of_ble_eq_true rfl) hl.1 ⟨Nat.le_of_ble_eq_true rfl, Nat.le_of_ble_eq_true rfl⟩ ⟨Nat.le_of_ble_eq_true rfl, Nat.le_of_ble_eq_true rfl⟩ dL_law_695 (fun x5159 H locs h5158 HX5160 => ?_)
        have hx_695 := h5158
        refine lv_icmp_eq (tgt := 904) hx hb dL_law_698 (by decide) (fun c_698 => ?_) (fun c_698 => ?_)
        · refine lv_iinc (v := nI (0 + 4)) (lv' := [(3, .int (nI (0 + 4))), (2, .ref (fa_B G + (397))), (1, .ref (fa_B G + (0))), (0, .ref (b))]) hx hb dL_law_904 hl (k := 0) rfl (nI_add (0) 4) (by decide) rfl (fun ls hl => ?_)
          refine lv_goto (tgt := 18) hx hb dL_law_907 (by decide) ?_
          refine lv_iload_n hx hb dL_law_18 rfl (lv_at hl 0 rfl) ?_
          refine lv_aload_n hx hb dL_law_19 rfl (lv_at hl 3 rfl) ?_
          refine fa_slen CX HX5160 hX hbl hG dL_law_20 ?_
          refine lv_iconst (v := nI (4)) hx hb dL_law_21 (by decide) ?_
          refine lv_isub hx hb dL_law_22 ?_
          refine lv_icmp_gt (tgt := 910) hx hb dL_law_23 (by decide) (fun c_23 => ?_) (fun c_23 => ?_)
          · refine lv_iconst (v := nI (1)) hx hb dL_law_910 (by decide) ?_
            exact RET _ _ _ _ _ _ _ _ _ HX5160 (by first | decide | exact Nat.le_of_ble_eq_true rfl) (by first | decide | exact Nat.le_of_ble_eq_true rfl) dL_law_911
          · exact absurd (by decide) c_23
        · exact absurd (hx_681.trans hx_695.symm) c_698
      by_cases c_32_21 : (xs 0) &&& (nI (31)) = (21 : Int32)
      · refine lv_tableIn (off := 671) (tgt := 703) hx hb dL_law_32 (by rw [c_32_21]; decide) (by rw [c_32_21]; decide) (by rw [c_32_21]; decide) (by decide) ?_
        refine lv_aload_n hx hb dL_law_703 rfl (lv_at hl 2 rfl) ?_
        refine lv_aload_n hx hb dL_law_704 rfl (lv_at hl 3 rfl) ?_
        refine lv_iload_n hx hb dL_law_705 rfl (lv_at hl 0 rfl) ?_
        refine lv_iconst (v := nI (1)) hx hb dL_law_706 (by decide) ?_
        refine fa_iaddN hx hb dL_law_707 ?_
        refine fa_scr (j := 0 + 1) CX HX5010 hX hbl hG (by decide) (by decide) dL_law_708 ?_
        refine lv_aload_n hx hb dL_law_709 rfl (lv_at hl 3 rfl) ?_
        refine lv_iload_n hx hb dL_law_710 rfl (lv_at hl 0 rfl) ?_
        refine lv_iconst (v := nI (2)) hx hb dL_law_711 (by decide) ?_
        refine fa_iaddN hx hb dL_law_712 ?_
        refine fa_scr (j := 0 + 2) CX HX5010 hX hbl hG (by decide) (by decide) dL_law_713 ?_
        refine fa_callVip (As := [.int (xs (0 + 1)), .int (xs (0 + 2))]) (rest := []) CX HX5010 (p1f_reservation l G 406 hn v5007 r5008 hA hH hr1 hr57 hr115 hFV (xs (0 + 1)) (xs (0 + 2))) ln_L_101 (by omega) rfl rfl rfl rfl (Nat.le_of_ble_eq_true rfl) hl.1 ⟨Nat.le_of_ble_eq_true rfl, Nat.le_of_ble_eq_true rfl⟩ ⟨Nat.le_of_ble_eq_true rfl, Nat.le_of_ble_eq_true rfl⟩ dL_law_714 (fun x5162 H locs h5161 HX5163 => ?_)
        have hx_714 := h5161
        refine lv_aload_n hx hb dL_law_717 rfl (lv_at hl 1 rfl) ?_
        refine lv_aload_n hx hb dL_law_718 rfl (lv_at hl 3 rfl) ?_
        refine lv_iload_n hx hb dL_law_719 rfl (lv_at hl 0 rfl) ?_
        refine lv_iconst (v := nI (1)) hx hb dL_law_720 (by decide) ?_
        refine fa_iaddN hx hb dL_law_721 ?_
        refine fa_scr (j := 0 + 1) CX HX5163 hX hbl hG (by decide) (by decide) dL_law_722 ?_
        refine lv_aload_n hx hb dL_law_723 rfl (lv_at hl 3 rfl) ?_
        refine lv_iload_n hx hb dL_law_724 rfl (lv_at hl 0 rfl) ?_
        refine lv_iconst (v := nI (2)) hx hb dL_law_725 (by decide) ?_
        refine fa_iaddN hx hb dL_law_726 ?_
        refine fa_scr (j := 0 + 2) CX HX5163 hX hbl hG (by decide) (by decide) dL_law_727 ?_
        refine fa_callVip (As := [.int (xs (0 + 1)), .int (xs (0 + 2))]) (rest := [.int (x5162)]) CX HX5163 (p1n_reservation l G 406 hn2 v5007 r5008 hM hFM (xs (0 + 1)) (xs (0 + 2))) ln_L_104 (by omega) rfl rfl rfl rfl (Nat.le_of_ble_eq_true rfl) hl.1 ⟨Nat.le_of_ble_eq_true rfl, Nat.le_of_ble_eq_true rfl⟩ ⟨Nat.le_of_ble_eq_true rfl, Nat.le_of_ble_eq_true rfl⟩ dL_law_728 (fun x5165 H locs h5164 HX5166 => ?_)
        have hx_728 := h5164
        refine lv_icmp_eq (tgt := 904) hx hb dL_law_731 (by decide) (fun c_731 => ?_) (fun c_731 => ?_)
        · refine lv_iinc (v := nI (0 + 4)) (lv' := [(3, .int (nI (0 + 4))), (2, .ref (fa_B G + (397))), (1, .ref (fa_B G + (0))), (0, .ref (b))]) hx hb dL_law_904 hl (k := 0) rfl (nI_add (0) 4) (by decide) rfl (fun ls hl => ?_)
          refine lv_goto (tgt := 18) hx hb dL_law_907 (by decide) ?_
          refine lv_iload_n hx hb dL_law_18 rfl (lv_at hl 0 rfl) ?_
          refine lv_aload_n hx hb dL_law_19 rfl (lv_at hl 3 rfl) ?_
          refine fa_slen CX HX5166 hX hbl hG dL_law_20 ?_
          refine lv_iconst (v := nI (4)) hx hb dL_law_21 (by decide) ?_
          refine lv_isub hx hb dL_law_22 ?_
          refine lv_icmp_gt (tgt := 910) hx hb dL_law_23 (by decide) (fun c_23 => ?_) (fun c_23 => ?_)
          · refine lv_iconst (v := nI (1)) hx hb dL_law_910 (by decide) ?_
            exact RET _ _ _ _ _ _ _ _ _ HX5166 (by first | decide | exact Nat.le_of_ble_eq_true rfl) (by first | decide | exact Nat.le_of_ble_eq_true rfl) dL_law_911
          · exact absurd (by decide) c_23
        · exact absurd (hx_714.trans hx_728.symm) c_731
      by_cases c_32_22 : (xs 0) &&& (nI (31)) = (22 : Int32)
      · refine lv_tableIn (off := 704) (tgt := 736) hx hb dL_law_32 (by rw [c_32_22]; decide) (by rw [c_32_22]; decide) (by rw [c_32_22]; decide) (by decide) ?_
        refine lv_aload_n hx hb dL_law_736 rfl (lv_at hl 2 rfl) ?_
        refine lv_aload_n hx hb dL_law_737 rfl (lv_at hl 3 rfl) ?_
        refine lv_iload_n hx hb dL_law_738 rfl (lv_at hl 0 rfl) ?_
        refine lv_iconst (v := nI (1)) hx hb dL_law_739 (by decide) ?_
        refine fa_iaddN hx hb dL_law_740 ?_
        refine fa_scr (j := 0 + 1) CX HX5010 hX hbl hG (by decide) (by decide) dL_law_741 ?_
        refine fa_callVip (As := [.int (xs (0 + 1))]) (rest := []) CX HX5010 (p1f_setting l G 406 hn v5007 r5008 hA hH hr1 hr57 hr115 hFV (xs (0 + 1))) ln_L_105 (by omega) rfl rfl rfl rfl (Nat.le_of_ble_eq_true rfl) hl.1 ⟨Nat.le_of_ble_eq_true rfl, Nat.le_of_ble_eq_true rfl⟩ ⟨Nat.le_of_ble_eq_true rfl, Nat.le_of_ble_eq_true rfl⟩ dL_law_742 (fun x5168 H locs h5167 HX5169 => ?_)
        have hx_742 := h5167
        refine lv_aload_n hx hb dL_law_745 rfl (lv_at hl 1 rfl) ?_
        refine lv_aload_n hx hb dL_law_746 rfl (lv_at hl 3 rfl) ?_
        refine lv_iload_n hx hb dL_law_747 rfl (lv_at hl 0 rfl) ?_
        refine lv_iconst (v := nI (1)) hx hb dL_law_748 (by decide) ?_
        refine fa_iaddN hx hb dL_law_749 ?_
        refine fa_scr (j := 0 + 1) CX HX5169 hX hbl hG (by decide) (by decide) dL_law_750 ?_
        refine fa_callVip (As := [.int (xs (0 + 1))]) (rest := [.int (x5168)]) CX HX5169 (p1n_setting l G 406 hn2 v5007 r5008 hM hFM (xs (0 + 1))) ln_L_108 (by omega) rfl rfl rfl rfl (Nat.le_of_ble_eq_true rfl) hl.1 ⟨Nat.le_of_ble_eq_true rfl, Nat.le_of_ble_eq_true rfl⟩ ⟨Nat.le_of_ble_eq_true rfl, Nat.le_of_ble_eq_true rfl⟩ dL_law_751 (fun x5171 H locs h5170 HX5172 => ?_)
        have hx_751 := h5170
        refine lv_icmp_eq (tgt := 904) hx hb dL_law_754 (by decide) (fun c_754 => ?_) (fun c_754 => ?_)
        · refine lv_iinc (v := nI (0 + 4)) (lv' := [(3, .int (nI (0 + 4))), (2, .ref (fa_B G + (397))), (1, .ref (fa_B G + (0))), (0, .ref (b))]) hx hb dL_law_904 hl (k := 0) rfl (nI_add (0) 4) (by decide) rfl (fun ls hl => ?_)
          refine lv_goto (tgt := 18) hx hb dL_law_907 (by decide) ?_
          refine lv_iload_n hx hb dL_law_18 rfl (lv_at hl 0 rfl) ?_
          refine lv_aload_n hx hb dL_law_19 rfl (lv_at hl 3 rfl) ?_
          refine fa_slen CX HX5172 hX hbl hG dL_law_20 ?_
          refine lv_iconst (v := nI (4)) hx hb dL_law_21 (by decide) ?_
          refine lv_isub hx hb dL_law_22 ?_
          refine lv_icmp_gt (tgt := 910) hx hb dL_law_23 (by decide) (fun c_23 => ?_) (fun c_23 => ?_)
          · refine lv_iconst (v := nI (1)) hx hb dL_law_910 (by decide) ?_
            exact RET _ _ _ _ _ _ _ _ _ HX5172 (by first | decide | exact Nat.le_of_ble_eq_true rfl) (by first | decide | exact Nat.le_of_ble_eq_true rfl) dL_law_911
          · exact absurd (by decide) c_23
        · exact absurd (hx_742.trans hx_751.symm) c_754
      by_cases c_32_23 : (xs 0) &&& (nI (31)) = (23 : Int32)
      · refine lv_tableIn (off := 727) (tgt := 759) hx hb dL_law_32 (by rw [c_32_23]; decide) (by rw [c_32_23]; decide) (by rw [c_32_23]; decide) (by decide) ?_
        refine lv_aload_n hx hb dL_law_759 rfl (lv_at hl 2 rfl) ?_
        refine fa_callVfp (As := []) (rest := []) CX HX5010 (p1f_meanAge l G 406 hn v5007 r5008 hA hH hr1 hr57 hr115 hFV ) ln_L_109 (by omega) rfl rfl rfl rfl (Nat.le_of_ble_eq_true rfl) hl.1 ⟨Nat.le_of_ble_eq_true rfl, Nat.le_of_ble_eq_true rfl⟩ ⟨Nat.le_of_ble_eq_true rfl, Nat.le_of_ble_eq_true rfl⟩ dL_law_760 (fun x5174 H locs h5173 HX5175 => ?_)
        subst h5173
        refine lv_f2d hx hb dL_law_763 (by unfold vf_n64; decide +kernel) ?_
        refine lv_dstore (lv' := [(4, .double (FP.f2d FP.fconst0)), (3, .int (nI (0))), (2, .ref (fa_B G + (397))), (1, .ref (fa_B G + (0))), (0, .ref (b))]) hx hb dL_law_764 hl (by decide) rfl (fun ls hl => ?_)
        refine lv_aload_n hx hb dL_law_766 rfl (lv_at hl 2 rfl) ?_
        refine fa_callVfp (As := []) (rest := []) CX HX5175 (p1n_meanAge l G 406 hn2 v5007 r5008 hM hFM ) ln_L_113 (by omega) rfl rfl rfl rfl (Nat.le_of_ble_eq_true rfl) hl.1 ⟨Nat.le_of_ble_eq_true rfl, Nat.le_of_ble_eq_true rfl⟩ ⟨Nat.le_of_ble_eq_true rfl, Nat.le_of_ble_eq_true rfl⟩ dL_law_767 (fun x5177 H locs h5176 HX5178 => ?_)
        subst h5176
        refine lv_f2d hx hb dL_law_770 (by unfold vf_n64; decide +kernel) ?_
        refine lv_dstore (lv' := [(6, .double (FP.f2d FP.fconst0)), (4, .double (FP.f2d FP.fconst0)), (3, .int (nI (0))), (2, .ref (fa_B G + (397))), (1, .ref (fa_B G + (0))), (0, .ref (b))]) hx hb dL_law_771 hl (by decide) rfl (fun ls hl => ?_)
        refine lv_dload hx hb dL_law_773 (lv_at hl 1 rfl) ?_
        refine lv_dload hx hb dL_law_775 (lv_at hl 0 rfl) ?_
        refine lv_dcmp hx hb dL_law_777 ?_
        have kx_778 : Op.cmpValue (FP.dcmp (FP.f2d FP.fconst0) (FP.f2d FP.fconst0)) .l = (0 : Int32) := (by decide +kernel)
        refine lv_if_eq (tgt := 799) hx hb dL_law_778 (by decide) (fun c_778 => ?_) (fun c_778 => ?_)
        · refine lv_goto (tgt := 904) hx hb dL_law_799 (by decide) ?_
          refine lv_iinc (v := nI (0 + 4)) (lv' := [(3, .int (nI (0 + 4))), (6, .double (FP.f2d FP.fconst0)), (4, .double (FP.f2d FP.fconst0)), (2, .ref (fa_B G + (397))), (1, .ref (fa_B G + (0))), (0, .ref (b))]) hx hb dL_law_904 hl (k := 2) rfl (nI_add (0) 4) (by decide) rfl (fun ls hl => ?_)
          refine lv_goto (tgt := 18) hx hb dL_law_907 (by decide) ?_
          refine lv_iload_n hx hb dL_law_18 rfl (lv_at hl 0 rfl) ?_
          refine lv_aload_n hx hb dL_law_19 rfl (lv_at hl 5 rfl) ?_
          refine fa_slen CX HX5178 hX hbl hG dL_law_20 ?_
          refine lv_iconst (v := nI (4)) hx hb dL_law_21 (by decide) ?_
          refine lv_isub hx hb dL_law_22 ?_
          refine lv_icmp_gt (tgt := 910) hx hb dL_law_23 (by decide) (fun c_23 => ?_) (fun c_23 => ?_)
          · refine lv_iconst (v := nI (1)) hx hb dL_law_910 (by decide) ?_
            exact RET _ _ _ _ _ _ _ _ _ HX5178 (by first | decide | exact Nat.le_of_ble_eq_true rfl) (by first | decide | exact Nat.le_of_ble_eq_true rfl) dL_law_911
          · exact absurd (by decide) c_23
        · exact absurd (by rw [kx_778]; try decide) c_778
      by_cases c_32_24 : (xs 0) &&& (nI (31)) = (24 : Int32)
      · refine lv_tableIn (off := 770) (tgt := 802) hx hb dL_law_32 (by rw [c_32_24]; decide) (by rw [c_32_24]; decide) (by rw [c_32_24]; decide) (by decide) ?_
        refine lv_aload_n hx hb dL_law_802 rfl (lv_at hl 2 rfl) ?_
        refine lv_aload_n hx hb dL_law_803 rfl (lv_at hl 3 rfl) ?_
        refine lv_iload_n hx hb dL_law_804 rfl (lv_at hl 0 rfl) ?_
        refine lv_iconst (v := nI (1)) hx hb dL_law_805 (by decide) ?_
        refine fa_iaddN hx hb dL_law_806 ?_
        refine fa_scr (j := 0 + 1) CX HX5010 hX hbl hG (by decide) (by decide) dL_law_807 ?_
        refine fa_callVip (As := [.int (xs (0 + 1))]) (rest := []) CX HX5010 (p1f_stays l G 406 hn v5007 r5008 hA hH hr1 hr57 hr115 hFV (xs (0 + 1))) ln_L_114 (by omega) rfl rfl rfl rfl (Nat.le_of_ble_eq_true rfl) hl.1 ⟨Nat.le_of_ble_eq_true rfl, Nat.le_of_ble_eq_true rfl⟩ ⟨Nat.le_of_ble_eq_true rfl, Nat.le_of_ble_eq_true rfl⟩ dL_law_808 (fun x5180 H locs h5179 HX5181 => ?_)
        have hx_808 := h5179
        refine lv_aload_n hx hb dL_law_811 rfl (lv_at hl 1 rfl) ?_
        refine lv_aload_n hx hb dL_law_812 rfl (lv_at hl 3 rfl) ?_
        refine lv_iload_n hx hb dL_law_813 rfl (lv_at hl 0 rfl) ?_
        refine lv_iconst (v := nI (1)) hx hb dL_law_814 (by decide) ?_
        refine fa_iaddN hx hb dL_law_815 ?_
        refine fa_scr (j := 0 + 1) CX HX5181 hX hbl hG (by decide) (by decide) dL_law_816 ?_
        refine fa_callVip (As := [.int (xs (0 + 1))]) (rest := [.int (x5180)]) CX HX5181 (p1n_stays l G 406 hn2 v5007 r5008 hM hFM (xs (0 + 1))) ln_L_117 (by omega) rfl rfl rfl rfl (Nat.le_of_ble_eq_true rfl) hl.1 ⟨Nat.le_of_ble_eq_true rfl, Nat.le_of_ble_eq_true rfl⟩ ⟨Nat.le_of_ble_eq_true rfl, Nat.le_of_ble_eq_true rfl⟩ dL_law_817 (fun x5183 H locs h5182 HX5184 => ?_)
        have hx_817 := h5182
        refine lv_icmp_eq (tgt := 904) hx hb dL_law_820 (by decide) (fun c_820 => ?_) (fun c_820 => ?_)
        · refine lv_iinc (v := nI (0 + 4)) (lv' := [(3, .int (nI (0 + 4))), (2, .ref (fa_B G + (397))), (1, .ref (fa_B G + (0))), (0, .ref (b))]) hx hb dL_law_904 hl (k := 0) rfl (nI_add (0) 4) (by decide) rfl (fun ls hl => ?_)
          refine lv_goto (tgt := 18) hx hb dL_law_907 (by decide) ?_
          refine lv_iload_n hx hb dL_law_18 rfl (lv_at hl 0 rfl) ?_
          refine lv_aload_n hx hb dL_law_19 rfl (lv_at hl 3 rfl) ?_
          refine fa_slen CX HX5184 hX hbl hG dL_law_20 ?_
          refine lv_iconst (v := nI (4)) hx hb dL_law_21 (by decide) ?_
          refine lv_isub hx hb dL_law_22 ?_
          refine lv_icmp_gt (tgt := 910) hx hb dL_law_23 (by decide) (fun c_23 => ?_) (fun c_23 => ?_)
          · refine lv_iconst (v := nI (1)) hx hb dL_law_910 (by decide) ?_
            exact RET _ _ _ _ _ _ _ _ _ HX5184 (by first | decide | exact Nat.le_of_ble_eq_true rfl) (by first | decide | exact Nat.le_of_ble_eq_true rfl) dL_law_911
          · exact absurd (by decide) c_23
        · exact absurd (hx_808.trans hx_817.symm) c_820
      by_cases c_32_25 : (xs 0) &&& (nI (31)) = (25 : Int32)
      · refine lv_tableIn (off := 793) (tgt := 825) hx hb dL_law_32 (by rw [c_32_25]; decide) (by rw [c_32_25]; decide) (by rw [c_32_25]; decide) (by decide) ?_
        refine lv_aload_n hx hb dL_law_825 rfl (lv_at hl 2 rfl) ?_
        refine lv_aload_n hx hb dL_law_826 rfl (lv_at hl 3 rfl) ?_
        refine lv_iload_n hx hb dL_law_827 rfl (lv_at hl 0 rfl) ?_
        refine lv_iconst (v := nI (1)) hx hb dL_law_828 (by decide) ?_
        refine fa_iaddN hx hb dL_law_829 ?_
        refine fa_scr (j := 0 + 1) CX HX5010 hX hbl hG (by decide) (by decide) dL_law_830 ?_
        refine fa_callVip (As := [.int (xs (0 + 1))]) (rest := []) CX HX5010 (p1f_keeper l G 406 hn v5007 r5008 hA hH hr1 hr57 hr115 hFV (xs (0 + 1))) ln_L_118 (by omega) rfl rfl rfl rfl (Nat.le_of_ble_eq_true rfl) hl.1 ⟨Nat.le_of_ble_eq_true rfl, Nat.le_of_ble_eq_true rfl⟩ ⟨Nat.le_of_ble_eq_true rfl, Nat.le_of_ble_eq_true rfl⟩ dL_law_831 (fun x5186 H locs h5185 HX5187 => ?_)
        have hx_831 := h5185
        refine lv_aload_n hx hb dL_law_834 rfl (lv_at hl 1 rfl) ?_
        refine lv_aload_n hx hb dL_law_835 rfl (lv_at hl 3 rfl) ?_
        refine lv_iload_n hx hb dL_law_836 rfl (lv_at hl 0 rfl) ?_
        refine lv_iconst (v := nI (1)) hx hb dL_law_837 (by decide) ?_
        refine fa_iaddN hx hb dL_law_838 ?_
        refine fa_scr (j := 0 + 1) CX HX5187 hX hbl hG (by decide) (by decide) dL_law_839 ?_
        refine fa_callVip (As := [.int (xs (0 + 1))]) (rest := [.int (x5186)]) CX HX5187 (p1n_keeper l G 406 hn2 v5007 r5008 hM hFM (xs (0 + 1))) ln_L_121 (by omega) rfl rfl rfl rfl (Nat.le_of_ble_eq_true rfl) hl.1 ⟨Nat.le_of_ble_eq_true rfl, Nat.le_of_ble_eq_true rfl⟩ ⟨Nat.le_of_ble_eq_true rfl, Nat.le_of_ble_eq_true rfl⟩ dL_law_840 (fun x5189 H locs h5188 HX5190 => ?_)
        have hx_840 := h5188
        refine lv_icmp_eq (tgt := 904) hx hb dL_law_843 (by decide) (fun c_843 => ?_) (fun c_843 => ?_)
        · refine lv_iinc (v := nI (0 + 4)) (lv' := [(3, .int (nI (0 + 4))), (2, .ref (fa_B G + (397))), (1, .ref (fa_B G + (0))), (0, .ref (b))]) hx hb dL_law_904 hl (k := 0) rfl (nI_add (0) 4) (by decide) rfl (fun ls hl => ?_)
          refine lv_goto (tgt := 18) hx hb dL_law_907 (by decide) ?_
          refine lv_iload_n hx hb dL_law_18 rfl (lv_at hl 0 rfl) ?_
          refine lv_aload_n hx hb dL_law_19 rfl (lv_at hl 3 rfl) ?_
          refine fa_slen CX HX5190 hX hbl hG dL_law_20 ?_
          refine lv_iconst (v := nI (4)) hx hb dL_law_21 (by decide) ?_
          refine lv_isub hx hb dL_law_22 ?_
          refine lv_icmp_gt (tgt := 910) hx hb dL_law_23 (by decide) (fun c_23 => ?_) (fun c_23 => ?_)
          · refine lv_iconst (v := nI (1)) hx hb dL_law_910 (by decide) ?_
            exact RET _ _ _ _ _ _ _ _ _ HX5190 (by first | decide | exact Nat.le_of_ble_eq_true rfl) (by first | decide | exact Nat.le_of_ble_eq_true rfl) dL_law_911
          · exact absurd (by decide) c_23
        · exact absurd (hx_831.trans hx_840.symm) c_843
      by_cases c_32_26 : (xs 0) &&& (nI (31)) = (26 : Int32)
      · refine lv_tableIn (off := 816) (tgt := 848) hx hb dL_law_32 (by rw [c_32_26]; decide) (by rw [c_32_26]; decide) (by rw [c_32_26]; decide) (by decide) ?_
        refine lv_aload_n hx hb dL_law_848 rfl (lv_at hl 2 rfl) ?_
        refine lv_aload_n hx hb dL_law_849 rfl (lv_at hl 3 rfl) ?_
        refine lv_iload_n hx hb dL_law_850 rfl (lv_at hl 0 rfl) ?_
        refine lv_iconst (v := nI (1)) hx hb dL_law_851 (by decide) ?_
        refine fa_iaddN hx hb dL_law_852 ?_
        refine fa_scr (j := 0 + 1) CX HX5010 hX hbl hG (by decide) (by decide) dL_law_853 ?_
        refine fa_callVip (As := [.int (xs (0 + 1))]) (rest := []) CX HX5010 (p1f_burntIn l G 406 hn v5007 r5008 hA hH hr1 hr57 hr115 hFV (xs (0 + 1))) ln_L_122 (by omega) rfl rfl rfl rfl (Nat.le_of_ble_eq_true rfl) hl.1 ⟨Nat.le_of_ble_eq_true rfl, Nat.le_of_ble_eq_true rfl⟩ ⟨Nat.le_of_ble_eq_true rfl, Nat.le_of_ble_eq_true rfl⟩ dL_law_854 (fun x5192 H locs h5191 HX5193 => ?_)
        have hx_854 := h5191
        refine lv_aload_n hx hb dL_law_857 rfl (lv_at hl 1 rfl) ?_
        refine lv_aload_n hx hb dL_law_858 rfl (lv_at hl 3 rfl) ?_
        refine lv_iload_n hx hb dL_law_859 rfl (lv_at hl 0 rfl) ?_
        refine lv_iconst (v := nI (1)) hx hb dL_law_860 (by decide) ?_
        refine fa_iaddN hx hb dL_law_861 ?_
        refine fa_scr (j := 0 + 1) CX HX5193 hX hbl hG (by decide) (by decide) dL_law_862 ?_
        refine fa_callVip (As := [.int (xs (0 + 1))]) (rest := [.int (x5192)]) CX HX5193 (p1n_burntIn l G 406 hn2 v5007 r5008 hM hFM (xs (0 + 1))) ln_L_125 (by omega) rfl rfl rfl rfl (Nat.le_of_ble_eq_true rfl) hl.1 ⟨Nat.le_of_ble_eq_true rfl, Nat.le_of_ble_eq_true rfl⟩ ⟨Nat.le_of_ble_eq_true rfl, Nat.le_of_ble_eq_true rfl⟩ dL_law_863 (fun x5195 H locs h5194 HX5196 => ?_)
        have hx_863 := h5194
        refine lv_icmp_eq (tgt := 904) hx hb dL_law_866 (by decide) (fun c_866 => ?_) (fun c_866 => ?_)
        · refine lv_iinc (v := nI (0 + 4)) (lv' := [(3, .int (nI (0 + 4))), (2, .ref (fa_B G + (397))), (1, .ref (fa_B G + (0))), (0, .ref (b))]) hx hb dL_law_904 hl (k := 0) rfl (nI_add (0) 4) (by decide) rfl (fun ls hl => ?_)
          refine lv_goto (tgt := 18) hx hb dL_law_907 (by decide) ?_
          refine lv_iload_n hx hb dL_law_18 rfl (lv_at hl 0 rfl) ?_
          refine lv_aload_n hx hb dL_law_19 rfl (lv_at hl 3 rfl) ?_
          refine fa_slen CX HX5196 hX hbl hG dL_law_20 ?_
          refine lv_iconst (v := nI (4)) hx hb dL_law_21 (by decide) ?_
          refine lv_isub hx hb dL_law_22 ?_
          refine lv_icmp_gt (tgt := 910) hx hb dL_law_23 (by decide) (fun c_23 => ?_) (fun c_23 => ?_)
          · refine lv_iconst (v := nI (1)) hx hb dL_law_910 (by decide) ?_
            exact RET _ _ _ _ _ _ _ _ _ HX5196 (by first | decide | exact Nat.le_of_ble_eq_true rfl) (by first | decide | exact Nat.le_of_ble_eq_true rfl) dL_law_911
          · exact absurd (by decide) c_23
        · exact absurd (hx_854.trans hx_863.symm) c_866
      by_cases c_32_27 : (xs 0) &&& (nI (31)) = (27 : Int32)
      · refine lv_tableIn (off := 839) (tgt := 871) hx hb dL_law_32 (by rw [c_32_27]; decide) (by rw [c_32_27]; decide) (by rw [c_32_27]; decide) (by decide) ?_
        refine lv_aload_n hx hb dL_law_871 rfl (lv_at hl 2 rfl) ?_
        refine lv_aload_n hx hb dL_law_872 rfl (lv_at hl 3 rfl) ?_
        refine lv_iload_n hx hb dL_law_873 rfl (lv_at hl 0 rfl) ?_
        refine lv_iconst (v := nI (1)) hx hb dL_law_874 (by decide) ?_
        refine fa_iaddN hx hb dL_law_875 ?_
        refine fa_scr (j := 0 + 1) CX HX5010 hX hbl hG (by decide) (by decide) dL_law_876 ?_
        refine lv_aload_n hx hb dL_law_877 rfl (lv_at hl 3 rfl) ?_
        refine lv_iload_n hx hb dL_law_878 rfl (lv_at hl 0 rfl) ?_
        refine lv_iconst (v := nI (2)) hx hb dL_law_879 (by decide) ?_
        refine fa_iaddN hx hb dL_law_880 ?_
        refine fa_scr (j := 0 + 2) CX HX5010 hX hbl hG (by decide) (by decide) dL_law_881 ?_
        refine fa_callViu (As := [.int (xs (0 + 1)), .int (xs (0 + 2))]) (rest := []) CX HX5010 (p1f_ifPassed l G 406 hn v5007 r5008 hA hH hr1 hr57 hr115 hFV (xs (0 + 1)) (xs (0 + 2))) ln_L_126 (by omega) rfl rfl rfl rfl (Nat.le_of_ble_eq_true rfl) hl.1 ⟨Nat.le_of_ble_eq_true rfl, Nat.le_of_ble_eq_true rfl⟩ ⟨Nat.le_of_ble_eq_true rfl, Nat.le_of_ble_eq_true rfl⟩ dL_law_882 (fun x5198 v5199 H locs h5197 HX5200 => ?_)
        have hFM : fa_FM v5199 := fa_FM_cong (h5197.2 397 (by omega)) (h5197.2 398 (by omega)) hFM
        have hx_882 := h5197.1
        refine lv_aload_n hx hb dL_law_885 rfl (lv_at hl 1 rfl) ?_
        refine lv_aload_n hx hb dL_law_886 rfl (lv_at hl 3 rfl) ?_
        refine lv_iload_n hx hb dL_law_887 rfl (lv_at hl 0 rfl) ?_
        refine lv_iconst (v := nI (1)) hx hb dL_law_888 (by decide) ?_
        refine fa_iaddN hx hb dL_law_889 ?_
        refine fa_scr (j := 0 + 1) CX HX5200 hX hbl hG (by decide) (by decide) dL_law_890 ?_
        refine lv_aload_n hx hb dL_law_891 rfl (lv_at hl 3 rfl) ?_
        refine lv_iload_n hx hb dL_law_892 rfl (lv_at hl 0 rfl) ?_
        refine lv_iconst (v := nI (2)) hx hb dL_law_893 (by decide) ?_
        refine fa_iaddN hx hb dL_law_894 ?_
        refine fa_scr (j := 0 + 2) CX HX5200 hX hbl hG (by decide) (by decide) dL_law_895 ?_
        refine fa_callViu (As := [.int (xs (0 + 1)), .int (xs (0 + 2))]) (rest := [.int (x5198)]) CX HX5200 (p1n_ifPassed l G 406 hn2 v5199 r5008 hM hFM (xs (0 + 1)) (xs (0 + 2))) ln_L_129 (by omega) rfl rfl rfl rfl (Nat.le_of_ble_eq_true rfl) hl.1 ⟨Nat.le_of_ble_eq_true rfl, Nat.le_of_ble_eq_true rfl⟩ ⟨Nat.le_of_ble_eq_true rfl, Nat.le_of_ble_eq_true rfl⟩ dL_law_896 (fun x5202 v5203 H locs h5201 HX5204 => ?_)
        have hx_896 := h5201.1
        refine lv_icmp_eq (tgt := 904) hx hb dL_law_899 (by decide) (fun c_899 => ?_) (fun c_899 => ?_)
        · refine lv_iinc (v := nI (0 + 4)) (lv' := [(3, .int (nI (0 + 4))), (2, .ref (fa_B G + (397))), (1, .ref (fa_B G + (0))), (0, .ref (b))]) hx hb dL_law_904 hl (k := 0) rfl (nI_add (0) 4) (by decide) rfl (fun ls hl => ?_)
          refine lv_goto (tgt := 18) hx hb dL_law_907 (by decide) ?_
          refine lv_iload_n hx hb dL_law_18 rfl (lv_at hl 0 rfl) ?_
          refine lv_aload_n hx hb dL_law_19 rfl (lv_at hl 3 rfl) ?_
          refine fa_slen CX HX5204 hX hbl hG dL_law_20 ?_
          refine lv_iconst (v := nI (4)) hx hb dL_law_21 (by decide) ?_
          refine lv_isub hx hb dL_law_22 ?_
          refine lv_icmp_gt (tgt := 910) hx hb dL_law_23 (by decide) (fun c_23 => ?_) (fun c_23 => ?_)
          · refine lv_iconst (v := nI (1)) hx hb dL_law_910 (by decide) ?_
            exact RET _ _ _ _ _ _ _ _ _ HX5204 (by first | decide | exact Nat.le_of_ble_eq_true rfl) (by first | decide | exact Nat.le_of_ble_eq_true rfl) dL_law_911
          · exact absurd (by decide) c_23
        · exact absurd (hx_882.trans hx_896.symm) c_899
      have hout_32 : ((xs 0) &&& (nI (31))).toInt < 0 ∨ 27 < ((xs 0) &&& (nI (31))).toInt := by
        have z0 := lv_neT (a := 0) c_32_0 (by decide)
        have z1 := lv_neT (a := 1) c_32_1 (by decide)
        have z2 := lv_neT (a := 2) c_32_2 (by decide)
        have z3 := lv_neT (a := 3) c_32_3 (by decide)
        have z4 := lv_neT (a := 4) c_32_4 (by decide)
        have z5 := lv_neT (a := 5) c_32_5 (by decide)
        have z6 := lv_neT (a := 6) c_32_6 (by decide)
        have z7 := lv_neT (a := 7) c_32_7 (by decide)
        have z8 := lv_neT (a := 8) c_32_8 (by decide)
        have z9 := lv_neT (a := 9) c_32_9 (by decide)
        have z10 := lv_neT (a := 10) c_32_10 (by decide)
        have z11 := lv_neT (a := 11) c_32_11 (by decide)
        have z12 := lv_neT (a := 12) c_32_12 (by decide)
        have z13 := lv_neT (a := 13) c_32_13 (by decide)
        have z14 := lv_neT (a := 14) c_32_14 (by decide)
        have z15 := lv_neT (a := 15) c_32_15 (by decide)
        have z16 := lv_neT (a := 16) c_32_16 (by decide)
        have z17 := lv_neT (a := 17) c_32_17 (by decide)
        have z18 := lv_neT (a := 18) c_32_18 (by decide)
        have z19 := lv_neT (a := 19) c_32_19 (by decide)
        have z20 := lv_neT (a := 20) c_32_20 (by decide)
        have z21 := lv_neT (a := 21) c_32_21 (by decide)
        have z22 := lv_neT (a := 22) c_32_22 (by decide)
        have z23 := lv_neT (a := 23) c_32_23 (by decide)
        have z24 := lv_neT (a := 24) c_32_24 (by decide)
        have z25 := lv_neT (a := 25) c_32_25 (by decide)
        have z26 := lv_neT (a := 26) c_32_26 (by decide)
        have z27 := lv_neT (a := 27) c_32_27 (by decide)
        omega
      refine lv_tableOut (tgt := 904) hx hb dL_law_32 hout_32 (by decide) ?_
      refine lv_iinc (v := nI (0 + 4)) (lv' := [(3, .int (nI (0 + 4))), (2, .ref (fa_B G + (397))), (1, .ref (fa_B G + (0))), (0, .ref (b))]) hx hb dL_law_904 hl (k := 0) rfl (nI_add (0) 4) (by decide) rfl (fun ls hl => ?_)
      refine lv_goto (tgt := 18) hx hb dL_law_907 (by decide) ?_
      refine lv_iload_n hx hb dL_law_18 rfl (lv_at hl 0 rfl) ?_
      refine lv_aload_n hx hb dL_law_19 rfl (lv_at hl 3 rfl) ?_
      refine fa_slen CX HX5010 hX hbl hG dL_law_20 ?_
      refine lv_iconst (v := nI (4)) hx hb dL_law_21 (by decide) ?_
      refine lv_isub hx hb dL_law_22 ?_
      refine lv_icmp_gt (tgt := 910) hx hb dL_law_23 (by decide) (fun c_23 => ?_) (fun c_23 => ?_)
      · refine lv_iconst (v := nI (1)) hx hb dL_law_910 (by decide) ?_
        exact RET _ _ _ _ _ _ _ _ _ HX5010 (by first | decide | exact Nat.le_of_ble_eq_true rfl) (by first | decide | exact Nat.le_of_ble_eq_true rfl) dL_law_911
      · exact absurd (by decide) c_23
set_option maxHeartbeats 4000000 in
theorem lw_walk (l : Launch) (hflags : l.flags = flags0) (b : Addr) (xs : List Int32) : MetFree l x (headSpec (Jvm.Cond.code x code maxLocals ret :: tables_1) room_1) (lw_P b xs) (fun _ _ _ _ _ => True) lw_Q := by
  refine MetFree.of_bodyS (code := code) (maxLocals := maxLocals) (ret := ret) (by decide) ?_ ?_
  · intro args s m h hn
    obtain ⟨meth, c, h1, h2, h3, h4, h5, h6, -, -⟩ := Cond.code_spec hn (atoms_spec (ws := Jvm.Cond.code x code maxLocals ret :: tables_1) h _ List.mem_cons_self)
    exact ⟨meth, c, h1, h2, h3, h4, h5, h6⟩
  · intro p e s m args below meth c s₁ B hml0 hP _
    obtain ⟨rfl, hx, hbd, hgv⟩ := hP
    obtain ⟨scr, harrAt, hlist, hof, hsmall⟩ := hx
    obtain ⟨hcb, hkn, -, -⟩ := State.arrayAt?_spec harrAt
    have hown : s.vm.findClass R_law = some m.cls := findClass_of_methodNamed B.named
    have hts0 : ∀ c ∈ (Jvm.Cond.code x code maxLocals ret :: tables_1), c.before #[Value.ref b] s = true := atoms_spec (ws := Jvm.Cond.code x code maxLocals ret :: tables_1) B.pre
    have hts : ∀ w ∈ lw_tbl, w.before #[Value.ref b] s = true := k2_hts_sels lw_privs (fun w hw => hts0 w (List.mem_cons_of_mem _ hw)) lw_privs_ok
    have hml : c.maxLocals = 8 := B.maxLocals_eq (hts0 _ List.mem_cons_self)
    have X₀ : Stand p l e room_1 s m #[Value.ref b] below meth c s₁ [] 0 0 := Stand.of_body B
    have hh0 : s₁.heap = s.heap := by rw [B.state]; rfl
    have hsz : scr.slots.size = xs.length := by rw [← Array.length_toList, hlist, List.length_map]
    have hval : ∀ j : Nat, j < xs.length → scr.slots[j]? = some (.int (xs.getD j 0)) := fun j hj => by
      rw [← Array.getElem?_toList, hlist]
      simp [hj]
    have hbl : b < s.heap.size := (Array.getElem?_eq_some_iff.mp hcb).1
    have hX : va_X b xs.length (fun j => xs.getD j 0) s s.heap := ⟨scr, hcb, hof, hkn, hsz, hval⟩
    have K : W p l e room_1 s m #[Value.ref b] below meth c s₁.heap [] 0 0 (lw_Z below #[Value.ref b] s) (entryFrame m ([Value.ref b] : List Value).toArray 8) := by
      rw [hh0]
      exact whole_start l hflags hbd ⟨B.exec, B.bytes, B.returns, hml, hown, hts, hX, hbl, B.notSynchronized, hgv⟩
    obtain ⟨t, a1, o, b1, b2, b3⟩ := K s₁ rfl X₀
    exact ⟨t, o, a1, b1, b2, b3⟩
theorem lw_pre_spec {args : Array Value} {s : State} (h : (Jvm.Cond.and given_1 narrow_1).before args s = true) (hr : rest_1_c.before args s = true) : ∃ (b : Addr) (xs : List Int32), lw_P b xs args s := by
  have hs := flat_of_before _ h
  have hq := flat_of_before _ hr
  have hc : (Cond.count 1).before args s = true := hs _ (by decide +kernel)
  have harr : (Cond.arrayOf (.arg 0) .int).before args s = true := hs _ (by decide +kernel)
  have hle : (Cond.le (.length (.arg 0)) (.int 4)).before args s = true := hs _ (by decide +kernel)
  have hlen : (Cond.isInt (.length (.arg 0))).before args s = true := hq _ (by decide +kernel)
  have hall : (Cond.all (.arg 0) (.isInt (.elem (.arg 0) (.index 0)))).before args s = true := hq _ (by decide +kernel)
  obtain ⟨b, xs, hb, hx⟩ := State.ints_of_pre rfl harr hlen hall
  have hsm : xs.length < 2 ^ 31 := hx.choose_spec.2.2.2
  have hev : (Term.length (.arg 0)).eval args s none [] s = some (.int xs.length.toInt32) := hx.length_eval hb
  have hv := Cond.le_ints hev (show (Term.int 4).eval args s none [] s = some (.int 4) from rfl)
  have hd : xs.length.toInt32 ≤ 4 := by
    simpa [Cond.before, Cond.holds, hv] using hle
  have hN : xs.length ≤ 4 := (Int32.ofNat_le_ofNat hsm (by decide)).mp (show Int32.ofNat xs.length ≤ Int32.ofNat 4 from hd)
  exact ⟨b, xs, Cond.one_arg hc (show args[0]? = some (.ref b) from hb), hx, hN, h⟩
theorem lw_comes (l : Launch) (hflags : l.flags = flags0) : Comes l x (Jvm.Cond.code x code maxLocals ret :: tables_1) room_1 (fun tb e args s => Calls_1 tb e args s ∧ rest_1 tb e args s ∧ Pre_1 tb e args s)
    (fun _ _ args s o t => lw_Q args s o t) := by
  intro p e ha hc hk s m args below hf hfit hheap happ hpre
  obtain ⟨b, xs, hP⟩ := lw_pre_spec hpre.2.2 hpre.2.1
  obtain ⟨k, o, h1, h2, h3, hQ⟩ := lw_walk l hflags b xs p e ha hc hk s m args below hf ((Spec.applies_iff_loose hf).mp happ).1 hP trivial
  exact ⟨k, o, h1, h2, h3, hQ⟩
theorem lw_frame {s t : State} {o : Outcome} {args : Array Value} (h : State.butDraws s t lw_cs (fun t1 => Framed s o t1 [] 600000 7302250)) :
    State.butDraws s t [Jvm.Choice.named "NaN.bits"] (fun t1 => Framed s o t1 (fieldLocs frame_1_writes args s ++ arrayLocs frame_1_arrays args s ++ staticLocs frame_1_statics s) 600000 7302250) := h
theorem lw_limb (L : Cond) (hL : ∀ (args : Array Value) (s t : State), L.after args s (.returned (some (.int 1))) t = true) :
    ArmFor flags0 classFile x code maxLocals ret World_1 tables_1 room_1 Calls_1 rest_1 Pre_1
      (fun tb e a s o t => postC L tb e a s o t ∧ State.butDraws s t [Jvm.Choice.named "NaN.bits"] (fun t1 => Framed s o t1 (fieldLocs frame_1_writes a s ++ arrayLocs frame_1_arrays a s ++ staticLocs frame_1_statics s) 600000 7302250)) := by
  intro l hflags _ _ p e ha hc hk s m args below hf hfit hheap happ hpre
  obtain ⟨k, o, h1, h2, h3, rfl, hF⟩ := lw_comes l hflags p e ha hc hk s m args below hf hfit hheap happ hpre
  exact ⟨k, _, h1, h2, h3, hL args s _, lw_frame hF⟩
theorem i_vc : Claimed_1_1 ∧ Claimed_1_2 := ⟨lw_limb limb_1_1 (fun args s t => by simp [limb_1_1, Cond.after, Cond.holds, Cond.value]), lw_limb limb_1_2 (fun args s t => Cond.after_iff.mpr (by
  first | (rw [show limb_1_2 = Cond.eq .result (.int 1) from rfl, Cond.eq_ints (x := 1) (y := 1) rfl rfl]; simp; done) | (simp [limb_1_2, Cond.value, Term.eval]; done)))⟩

