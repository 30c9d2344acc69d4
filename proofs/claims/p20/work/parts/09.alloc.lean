/-! MAKING CELLS: each new cell stands at B + n -/
theorem fa_w_push {G : fa_G} {n : Nat} {v : fa_V} {r : fa_R} {e : va_E} (he : e = fa_cell G (fa_sh n) (v n) (r n)) : fa_w G n v r ++ [(fa_B G + n, e)] = fa_w G (n + 1) v r := by
  subst he
  simp [fa_w, List.range_succ]
theorem fa_tys_at {G : fa_G} {s : State} (hK : va_K (fa_D G) vwCl (fa_tys (fa_dA G)) s) {t : Nat} {ty : FieldType} (ht : (fa_tys (fa_dA G))[t]? = some (fa_dA G t, ty)) {cA : ClassId} {tys : List (ClassId × FieldType)} (hK2 : va_K (fa_D G) vwCl (tys ++ [(cA, ty)]) s) : cA = fa_dA G t := by
  have h1 := (hK.2 t _ ht).2
  have h2 := (hK2.2 tys.length (cA, ty) (by simp)).2
  cases ty with
  | object C =>
    obtain ⟨_, _, _, _, _, e1⟩ := h1
    obtain ⟨_, _, _, _, _, e2⟩ := h2
    exact Option.some.inj (e2.symm.trans e1)
  | _ =>
    have e1 : s.vm.findClass _ = some _ := h1
    have e2 : s.vm.findClass _ = some _ := h2
    exact Option.some.inj (e2.symm.trans e1)
/-- a class that is made -/
def fa_mk (own : String) (index ci N : Nat) : Prop := ∃ (C : String) (T : u_T) (ty0 : Nat → FieldType), vwCl[ci]? = some (C, T, N) ∧ (∀ w ∈ u_ws C T N, w ∈ fa_tbl) ∧ (∀ k, k < N → parseFieldDescriptor (T k).2.2.1 = some (ty0 k)) ∧ N = (fa_ks ci).length ∧ Cond.classLink own index C ∈ fa_tbl ∧ Cond.instantiable C N ∈ fa_tbl ∧ Cond.initialized C ∈ fa_tbl ∧ ∀ j, j < N → defaultValue (ty0 j) = if (fa_ks ci).getD j false then .null else .int 0
section FAN
variable {p : Program} {l : Launch} {e : Env} {R : Room} {s : State} {m : MethodId} {args : Array Value} {below : List Frame} {meth : Method} {c : Code} {H : Heap} {locs : List Loc} {cells slots : Nat} {Q : State → Prop}
variable {G : fa_G} {n : Nat} {v : fa_V} {r : fa_R} {cc : ByteArray} {nL : Nat} {own : String} {pc : Nat} {ls : Array Slot} {rest : List Value}
/-- the heap's size in a walk that makes cells -/
theorem fa_size {g : JFrame} (E : fa_Env G s) (HX : fa_HX G n v r s H locs) (hsz : s.heap.size + cells = fa_B G + n) (kk : H.size = fa_B G + n → W p l e R s m args below meth c H locs cells slots Q g) : W p l e R s m args below meth c H locs cells slots Q g := by
  intro T hT X
  have h1 : T.heap.size ≤ s.heap.size + cells := X.same.2.2.1
  rw [hT] at h1
  have h2 : fa_B G + n ≤ H.size := by
    rcases Nat.eq_zero_or_pos n with h | h
    · have := E.2.2.2.2.2.2
      have := HX.2.1
      omega
    · have := (HX.1 (n - 1) _ (fa_w_get (show n - 1 < n by omega))).lt
      dsimp only at this
      omega
  exact kk (by omega) T hT X
theorem fa_at_n {ws : va_W} {q : Nat} {en : va_E} {H1 : Heap} {locs1 : List Loc} {g : JFrame} (hw : ws = fa_w G n v r) (hP : va_P (fa_D G) vwCl (ws ++ [(q, en)]) H1) (hD : va_D (fa_A G) (ws ++ [(q, en)])) (hsz : s.heap.size + cells = fa_B G + n)
    (kk : q = fa_B G + n → W p l e R s m args below meth c H1 locs1 (cells + 1) slots Q g) : W p l e R s m args below meth c H1 locs1 (cells + 1) slots Q g := by
  subst hw
  intro T hT X
  have h1 : T.heap.size ≤ s.heap.size + (cells + 1) := X.same.2.2.1
  rw [hT] at h1
  have hl : (fa_w G n v r ++ [(q, en)])[n]? = some (q, en) := by
    rw [List.getElem?_append_right (by rw [fa_w_len]; exact Nat.le_refl _), fa_w_len, Nat.sub_self]
    rfl
  have h2 : q < H1.size := (hP n _ hl).lt
  have h3 : fa_B G ≤ q := hD.2 n _ hl
  have h4 : ∀ k, k < n → q ≠ fa_B G + k := fun k hk hq => by
    have hk2 : (fa_w G n v r ++ [(q, en)])[k]? = some (fa_B G + k, fa_cell G (fa_sh k) (v k) (r k)) := by
      rw [List.getElem?_append_left (by rw [fa_w_len]; exact hk)]
      exact fa_w_get hk
    have := hD.1 n k _ _ hl hk2 hq
    omega
  have h5 : q = fa_B G + n := by
    rcases Nat.lt_or_ge q (fa_B G + n) with z | z
    · exact absurd (show q = fa_B G + (q - fa_B G) by omega) (h4 (q - fa_B G) (by omega))
    · omega
  exact kk h5 T hT X
theorem fa_new {index ci N : Nat} (CX : fa_CX G p s m args c cc nL own) (HX : fa_HX G n v r s H locs) (F : fa_mk own index ci N) (hsz : s.heap.size + cells = fa_B G + n) (hsh : fa_sh n = .inr ci) (hv : ∀ i, v n i = 0) (hr : ∀ i, r n i = none) (hcells : cells + 1 ≤ R.cells) (hslots : slots + N ≤ R.slots) (hdg : decode cc pc = .ok (.new index, 3))
    (kk : ∀ H1, fa_HX G (n + 1) v r s H1 locs → W p l e R s m args below meth c H1 locs (cells + 1) (slots + N) Q (F0 m (pc + 3) ls (.ref (fa_B G + n) :: rest))) : W p l e R s m args below meth c H locs cells slots Q (F0 m pc ls rest) := by
  obtain ⟨⟨hx, hb, -, hown, hts⟩, hE⟩ := CX
  obtain ⟨C, T, ty0, hc, hin, hty, hN, h1, h2, h3, hdf⟩ := F
  refine va_new (fs := fa_fs (fa_B G) (fa_ks ci) (v n) (r n)) hx hb hts hin ty0 hty hown (hts _ h1) (hts _ h2) (hts _ h3) hE.1 HX.1 fa_w_D HX.2 (fun q hq => Nat.le_trans hE.2.2.2.2.2.2 hq) hc (fun j hj => ?_) hcells hslots hdg (fun q H1 hP hD hS => ?_)
  · rw [hdf j hj]
    show _ = ((fa_fs (fa_B G) (fa_ks ci) (v n) (r n))[j]?).getD .null
    rw [fa_fs_get (by omega), Option.getD_some, fa_val, hv, hr]
    by_cases q : (fa_ks ci).getD j false = true
    · rw [if_pos q, if_pos q]
      rfl
    · rw [if_neg q, if_neg q]
  · refine fa_at_n rfl hP hD hsz (fun e => ?_)
    subst e
    rw [fa_w_push (by rw [hsh]; rfl)] at hP
    exact kk H1 ⟨hP, hS⟩
theorem fa_newa {len t : Nat} {atype : ArrayType} {ty : FieldType} (CX : fa_CX G p s m args c cc nL own) (HX : fa_HX G n v r s H locs) (harr : Cond.arrayClass (newarray.typeOf atype) ∈ fa_tbl) (hty : newarray.typeOf atype = ty) (ht : (fa_tys (fa_dA G))[t]? = some (fa_dA G t, ty)) (ht3 : t < 3) (hdf : defaultValue ty = .int 0) (hcb : componentBytes ty ≤ 4) (hsz : s.heap.size + cells = fa_B G + n) (hsh : fa_sh n = .inl (t, len)) (hv : ∀ i, v n i = 0) (hlen : len ≤ 4000)
    (hcells : cells + 1 ≤ R.cells) (hslots : slots + len ≤ R.slots) (hdg : decode cc pc = .ok (.newarray atype, 2))
    (kk : ∀ H1, fa_HX G (n + 1) v r s H1 locs → W p l e R s m args below meth c H1 locs (cells + 1) (slots + len) Q (F0 m (pc + 2) ls (.ref (fa_B G + n) :: rest))) : W p l e R s m args below meth c H locs cells slots Q (F0 m pc ls (.int (nI len) :: rest)) := by
  obtain ⟨⟨hx, hb, -, hown, hts⟩, hE⟩ := CX
  refine va_newa (a0 := (len, .inl (fun _ => 0))) hx hb (hts _ harr) hty hE.1 HX.1 fa_w_D HX.2 (fun q hq => Nat.le_trans hE.2.2.2.2.2.2 hq) (fun cA => by rw [hdf]; rfl) (nI_pos (by omega)) (nI_clamp (by omega)) (by have := Nat.mul_le_mul hlen hcb; omega) hcells hslots hdg (fun q cA H1 hK hP hD hS => ?_)
  refine fa_at_n rfl hP hD hsz (fun e => ?_)
  subst e
  rw [fa_tys_at hE.1 ht hK, fa_w_push (by rw [hsh]; simp only [fa_cell, ht3, if_true]; rw [show v n = fun _ => 0 from funext hv])] at hP
  exact kk H1 ⟨hP, hS⟩
theorem fa_newq {len t index : Nat} {C : String} (CX : fa_CX G p s m args c cc nL own) (HX : fa_HX G n v r s H locs) (hcl : Cond.classLink own index C ∈ fa_tbl) (hAO : va_AO C s) (ht : (fa_tys (fa_dA G))[t]? = some (fa_dA G t, .object C)) (ht3 : ¬ t < 3) (hsz : s.heap.size + cells = fa_B G + n) (hsh : fa_sh n = .inl (t, len)) (hr : ∀ i, r n i = none) (hlen : len ≤ 4000)
    (hcells : cells + 1 ≤ R.cells) (hslots : slots + len ≤ R.slots) (hdg : decode cc pc = .ok (.anewarray index, 3))
    (kk : ∀ H1, fa_HX G (n + 1) v r s H1 locs → W p l e R s m args below meth c H1 locs (cells + 1) (slots + len) Q (F0 m (pc + 3) ls (.ref (fa_B G + n) :: rest))) : W p l e R s m args below meth c H locs cells slots Q (F0 m pc ls (.int (nI len) :: rest)) := by
  obtain ⟨⟨hx, hb, -, hown, hts⟩, hE⟩ := CX
  refine va_newq (N' := len) hx hb hown (hts _ hcl) hAO hE.1 HX.1 fa_w_D HX.2 (fun q hq => Nat.le_trans hE.2.2.2.2.2.2 hq) (nI_pos (by omega)) (nI_clamp (by omega)) (by omega) hcells hslots hdg (fun q cA H1 hK hP hD hS => ?_)
  refine fa_at_n rfl hP hD hsz (fun e => ?_)
  subst e
  rw [fa_tys_at hE.1 ht hK, fa_w_push (by rw [hsh]; simp only [fa_cell, ht3, if_false]; rw [show r n = fun _ => none from funext hr]; rfl)] at hP
  exact kk H1 ⟨hP, hS⟩
/-- writing a final reference field in a constructor -/
theorem fa_putr {index ci i k q : Nat} {ty : FieldType} (CX : fa_CX G p s m args c cc nL own) (HX : fa_HX G n v r s H locs) (F : fa_fld own index ci i ty true) (hown2 : ∀ (C : String) (T : u_T) (N : Nat), vwCl[ci]? = some (C, T, N) → C = own) (hmn : meth.name = "<init>") (hk : k < n) (hsh : fa_sh k = .inr ci) (hks : (fa_ks ci).getD i false = true) (hn : narrow ty (.ref (fa_B G + q)) = .ref (fa_B G + q)) (hfit : fits ty (.ref (fa_B G + q)) = true) (hdg : decode cc pc = .ok (.putfield index, 3))
    (kk : ∀ (H1 : Heap) (locs1 : List Loc) (r1 : fa_R), r1 = fa_u r k i (some q) → fa_HX G n v r1 s H1 locs1 → W p l e R s m args below meth c H1 locs1 cells slots Q (F0 m (pc + 3) ls rest)) : W p l e R s m args below meth c H locs cells slots Q (F0 m pc ls (.ref (fa_B G + q) :: .ref (fa_B G + k) :: rest)) := by
  obtain ⟨⟨hx, hb, -, hown, hts⟩, hE⟩ := CX
  obtain ⟨C, T, N, ty0, hc, hin, hty, hnm, hi, hN, hl, hC, hfin, rfl⟩ := F
  have h := fa_w_get (G := G) (n := n) (v := v) (r := r) hk
  rw [hsh] at h
  refine va_putF hx hb hts hin ty0 hty hnm hown hE.1 HX.1 fa_w_D HX.2 k h hc i hi (hts _ hl) (fun x hx => by rw [hC] at hx; exact hx) hfin hmn (by rw [hC]; exact hown2 C T N hc) (hty i hi) hn hfit (by rw [fa_fs_len]; omega) hdg (fun H1 locs1 hP hD hS => ?_)
  have e := fa_w_set (G := G) (n := n) (k := k) (v := v) (v1 := v) (r := r) (r1 := fa_u r k i (some q)) (e := .inr (ci, (fa_fs (fa_B G) (fa_ks ci) (v k) (r k)).set i (.ref (fa_B G + q))))
    (by rw [hsh]; show _ = Sum.inr _; rw [fa_fs_set (v1 := v k) (r1 := fa_u r k i (some q) k) (by rw [hks]; simp [fa_val, fa_u_s, va_rf]) (fun j hj => ⟨rfl, fa_u_n _ _ (fun q => hj q.2)⟩)]) (fun j hj => ⟨rfl, fa_u_k _ _ hj⟩)
  rw [e] at hP
  exact kk H1 locs1 _ rfl ⟨hP, hS⟩
/-- a constructor's start -/
theorem fa_startN {y : MethodName} {cc : ByteArray} {maxL d mc ms : Nat} {av : List Value} {post : fa_V × fa_R → Prop} (hy : plainName y.cls = true) (hlen : (lg_sl av).length ≤ maxL) (hin : y.name = "<init>")
    (body : ∀ (p : Program) (e : Env) (s : State) (m : MethodId) (args : Array Value) (below : List Frame) (meth : Method) (c : Code) (ls : Array Slot) (Q : State → Prop), fa_CX G p s m args c cc maxL y.cls → lv_has ls maxL (lv_args 0 av) → fa_HX G n v r s s.heap [] → s.heap.size = fa_B G + n → meth.name = "<init>" →
      (∀ (v1 : fa_V) (r1 : fa_R) (H : Heap) (locs : List Loc) (pc : Nat) (ls : Array Slot), fa_HX G (n + mc) v1 r1 s H locs → decode cc pc = .ok (.return_, 1) → post (v1, r1) → W p l e ({ frames := d, cells := mc, slots := ms, locals := 34 * d }) s m args below meth c H locs mc ms Q (F0 m pc ls [])) →
      W p l e ({ frames := d, cells := mc, slots := ms, locals := 34 * d }) s m args below meth c s.heap [] 0 0 Q (F0 m 0 ls [])) : fa_MN l G n y cc maxL d mc ms av v r post :=
  fa_start hy hlen (fun _ h => h.1) (fun p e s m below meth c ls hp CX hr hlk hnm hl HX => body p e s m _ below meth c ls _ CX hl HX hp.2 (hnm.trans hin) (fun v1 r1 H locs pc ls HX hd hp => W.vret CX.1.1 CX.1.2.1 hr (fun t ht _ => ⟨⟨(v1, r1), rfl, hp, by show fa_Mem G _ v1 r1 t.heap; rw [ht]; exact HX.1⟩, HX.2.F ht⟩) HX.2.2.2 hd hlk))
section CTOR
variable {index k : Nat} {y : MethodName} {bytes : ByteArray} {maxL d mc ms : Nat}
theorem fa_ctorI {post : fa_V × fa_R → Prop} (CX : fa_CX G p s m args c cc nL own) (HX : fa_HX G n v r s H locs) (hM : fa_MN l G n y bytes maxL d mc ms [.ref (fa_B G + k)] v r post) (hl : Cond.methodLink own index y ∈ fa_tbl ∧ Cond.instanceMethod y ∈ fa_tbl ∧ Cond.initialized y.cls ∈ fa_tbl ∧ Cond.code y bytes maxL none ∈ fa_tbl) (hy : y.name = "<init>" ∧ y.cls ≠ "java/lang/invoke/MethodHandle" ∧ y.cls ≠ "java/lang/invoke/VarHandle" ∧ (parseMethodDescriptor y.desc).map (fun d => d.parameters.length) = some 0)
    (hsz : s.heap.size + cells = fa_B G + n) (hW : (rest.map fun v => v.category).sum ≤ 8) (hls : ls.size = nL) (hR : d + 1 ≤ R.frames ∧ 8 + (maxL + 11) + 34 * d ≤ R.locals) (hf : cells + mc ≤ R.cells ∧ slots + ms ≤ R.slots) (hdg : decode cc pc = .ok (.invokespecial index, 3))
    (kk : ∀ (v1 : fa_V) (r1 : fa_R) (H1 : Heap) (locs1 : List Loc), post (v1, r1) → fa_HX G (n + mc) v1 r1 s H1 locs1 → W p l e R s m args below meth c H1 locs1 (cells + mc) (slots + ms) Q (F0 m (pc + 3) ls rest)) : W p l e R s m args below meth c H locs cells slots Q (F0 m pc ls (.ref (fa_B G + k) :: rest)) :=
  fa_size CX.2 HX hsz (fun hH => va_callv (va_runI (As := []) (rest := rest) CX.1 hM (cwI 0 CX.1.2.2.2.2 (fa_goodIn (fun w hw => by
    rcases List.mem_cons.mp hw with rfl | hw
    · exact hl.2.2.2
    · exact hw)) rfl rfl rfl (CX.1.2.2.2.2 _ hl.2.2.1) (CX.1.2.2.2.2 _ hl.1) (CX.1.2.2.2.2 _ hl.2.1) hy.1 hy.2 hR) ⟨fa_blindN _, fun U hU hW => ⟨rfl, ⟨by rw [hU]; exact HX.1, CX.2.moved hW HX.2 hU⟩, by rw [hU]; exact hH⟩⟩ rfl rfl hls rfl (lv_room hW) hdg hf) HX.2 (fun _ _ h => h) (fun _ h => h) (fun u t H1 locs1 ht _ hp hB _ _ hS => kk u.1 u.2 H1 locs1 hp ⟨by rw [← ht]; exact hB, hS⟩))
theorem fa_ctorN {post : fa_V × fa_R → Prop} (CX : fa_CX G p s m args c cc nL own) (HX : fa_HX G n v r s H locs) (hM : fa_MN l G n y bytes maxL d mc ms [.ref (fa_B G + k)] v r post) (hq : (own, index, y, RX6) ∈ fa_nM) (hl : Cond.instanceMethod y ∈ fa_tbl ∧ Cond.initialized y.cls ∈ fa_tbl ∧ Cond.code y bytes maxL none ∈ fa_tbl) (hy : y.name = "<init>" ∧ y.cls ≠ "java/lang/invoke/MethodHandle" ∧ y.cls ≠ "java/lang/invoke/VarHandle" ∧ (parseMethodDescriptor y.desc).map (fun d => d.parameters.length) = some 0)
    (hsz : s.heap.size + cells = fa_B G + n) (hW : (rest.map fun v => v.category).sum ≤ 8) (hls : ls.size = nL) (hR : d + 1 ≤ R.frames ∧ 8 + (maxL + 11) + 34 * d ≤ R.locals) (hf : cells + mc ≤ R.cells ∧ slots + ms ≤ R.slots) (hdg : decode cc pc = .ok (.invokespecial index, 3))
    (kk : ∀ (v1 : fa_V) (r1 : fa_R) (H1 : Heap) (locs1 : List Loc), post (v1, r1) → fa_HX G (n + mc) v1 r1 s H1 locs1 → W p l e R s m args below meth c H1 locs1 (cells + mc) (slots + ms) Q (F0 m (pc + 3) ls rest)) : W p l e R s m args below meth c H locs cells slots Q (F0 m pc ls (.ref (fa_B G + k) :: rest)) :=
  fa_size CX.2 HX hsz (fun hH => va_callv (va_runIN (As := []) (rest := rest) CX.1 hM ⟨va_cnB 0 CX.1.2.2.2.2 (fa_goodIn (fun w hw => by
    rcases List.mem_cons.mp hw with rfl | hw
    · exact hl.2.2
    · exact hw)) rfl rfl rfl (CX.2.2.1 _ hq) (CX.1.2.2.2.2 _ hl.2.1) hy.2 hR, hy.1, CX.1.2.2.2.2 _ hl.1⟩ ⟨fa_blindN _, fun U hU hW => ⟨rfl, ⟨by rw [hU]; exact HX.1, CX.2.moved hW HX.2 hU⟩, by rw [hU]; exact hH⟩⟩ rfl rfl hls rfl (lv_room hW) hdg hf) HX.2 (fun _ _ h => h) (fun _ h => h) (fun u t H1 locs1 ht _ hp hB _ _ hS => kk u.1 u.2 H1 locs1 hp ⟨by rw [← ht]; exact hB, hS⟩))
/-- Object.<init> -/
theorem fa_objInit {j : Nat} (CX : fa_CX G p s m args c cc nL own) (hl : Cond.methodLink own index Lib.objectInit ∈ fa_tbl ∧ Cond.instanceMethod Lib.objectInit ∈ fa_tbl ∧ Cond.code Lib.objectInit ⟨#[0xb1]⟩ 1 none ∈ fa_tbl) (hls : ls.size = nL) (hdg : decode cc pc = .ok (.invokespecial index, 3)) (hframes : 1 ≤ R.frames) (hlocals : (rest.map fun v => v.category).sum + 12 ≤ R.locals)
    (kk : W p l e R s m args below meth c H locs cells slots Q (F0 m (pc + 3) ls rest)) : W p l e R s m args below meth c H locs cells slots Q (F0 m pc ls (.ref j :: rest)) :=
  W.objInit CX.1.1 CX.1.2.1 CX.1.2.2.2.1 (CX.1.2.2.2.2 _ hl.1) (CX.1.2.2.2.2 _ hl.2.1) (CX.1.2.2.2.2 _ hl.2.2) rfl (by rw [CX.1.2.2.1]; exact hls) rfl hdg hframes (by show 2 * 0 + _ + 12 ≤ _; omega) kk
end CTOR
end FAN
