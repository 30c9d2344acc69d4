/-- a memory whose references stay -/
abbrev fa_vo (r : fa_R) (post : fa_V → Prop) (w : fa_V × fa_R) : Prop := w.2 = r ∧ post w.1
abbrev fa_voi {α : Type} (r : fa_R) (post : α → fa_V → Prop) (x : α) (w : fa_V × fa_R) : Prop := w.2 = r ∧ post x w.1

section FAS
variable {p : Program} {l : Launch} {e : Env} {R : Room} {s : State} {m : MethodId} {args : Array Value} {below : List Frame} {meth : Method} {c : Code} {H : Heap} {locs : List Loc} {cells slots : Nat} {Q : State → Prop}
variable {G : fa_G} {n : Nat} {v : fa_V} {r : fa_R} {cc : ByteArray} {nL : Nat} {own : String} {pc : Nat} {ls : Array Slot} {rest : List Value}
theorem fa_startI {y : MethodName} {cc : ByteArray} {maxL d : Nat} {av : List Value} {post : Int32 → fa_V × fa_R → Prop} (hy : plainName y.cls = true) (hlen : (lg_sl av).length ≤ maxL)
    (body : ∀ (p : Program) (e : Env) (s : State) (m : MethodId) (args : Array Value) (below : List Frame) (meth : Method) (c : Code) (ls : Array Slot) (Q : State → Prop), fa_CX G p s m args c cc maxL y.cls → lv_has ls maxL (lv_args 0 av) → fa_HX G n v r s s.heap [] →
      (∀ (x : Int32) (v1 : fa_V) (r1 : fa_R) (H : Heap) (locs : List Loc) (pc : Nat) (ls : Array Slot), fa_HX G n v1 r1 s H locs → decode cc pc = .ok (.ireturn, 1) → post x (v1, r1) → W p l e (fa_rm d) s m args below meth c H locs 0 0 Q (F0 m pc ls [.int x])) →
      W p l e (fa_rm d) s m args below meth c s.heap [] 0 0 Q (F0 m 0 ls [])) : fa_MI l G n y cc maxL (some .int) d av v r post :=
  fa_start hy hlen (fun _ h => h) (fun p e s m below meth c ls _ CX hr hlk _ hl HX => body p e s m _ below meth c ls _ CX hl HX (fun x v1 r1 H locs pc ls HX hd hp => fa_iret CX HX hr hlk hd hp))
theorem fa_startZ {y : MethodName} {cc : ByteArray} {maxL d : Nat} {av : List Value} {post : Int32 → fa_V × fa_R → Prop} (hy : plainName y.cls = true) (hlen : (lg_sl av).length ≤ maxL)
    (body : ∀ (p : Program) (e : Env) (s : State) (m : MethodId) (args : Array Value) (below : List Frame) (meth : Method) (c : Code) (ls : Array Slot) (Q : State → Prop), fa_CX G p s m args c cc maxL y.cls → lv_has ls maxL (lv_args 0 av) → fa_HX G n v r s s.heap [] →
      (∀ (x : Int32) (v1 : fa_V) (r1 : fa_R) (H : Heap) (locs : List Loc) (pc : Nat) (ls : Array Slot), fa_HX G n v1 r1 s H locs → decode cc pc = .ok (.ireturn, 1) → narrow .boolean (.int x) = .int x → post x (v1, r1) → W p l e (fa_rm d) s m args below meth c H locs 0 0 Q (F0 m pc ls [.int x])) →
      W p l e (fa_rm d) s m args below meth c s.heap [] 0 0 Q (F0 m 0 ls [])) : fa_MI l G n y cc maxL (some .boolean) d av v r post :=
  fa_start hy hlen (fun _ h => h) (fun p e s m below meth c ls _ CX hr hlk _ hl HX => body p e s m _ below meth c ls _ CX hl HX (fun x v1 r1 H locs pc ls HX hd hn hp => fa_zret CX HX hr hlk hd hn hp))
theorem fa_startC {y : MethodName} {cc : ByteArray} {maxL d : Nat} {av : List Value} {post : Int32 → fa_V × fa_R → Prop} (hy : plainName y.cls = true) (hlen : (lg_sl av).length ≤ maxL)
    (body : ∀ (p : Program) (e : Env) (s : State) (m : MethodId) (args : Array Value) (below : List Frame) (meth : Method) (c : Code) (ls : Array Slot) (Q : State → Prop), fa_CX G p s m args c cc maxL y.cls → lv_has ls maxL (lv_args 0 av) → fa_HX G n v r s s.heap [] →
      (∀ (x : Int32) (v1 : fa_V) (r1 : fa_R) (H : Heap) (locs : List Loc) (pc : Nat) (ls : Array Slot), fa_HX G n v1 r1 s H locs → decode cc pc = .ok (.ireturn, 1) → narrow .char (.int x) = .int x → post x (v1, r1) → W p l e (fa_rm d) s m args below meth c H locs 0 0 Q (F0 m pc ls [.int x])) →
      W p l e (fa_rm d) s m args below meth c s.heap [] 0 0 Q (F0 m 0 ls [])) : fa_MI l G n y cc maxL (some .char) d av v r post :=
  fa_start hy hlen (fun _ h => h) (fun p e s m below meth c ls _ CX hr hlk _ hl HX => body p e s m _ below meth c ls _ CX hl HX (fun x v1 r1 H locs pc ls HX hd hn hp => fa_cret CX HX hr hlk hd hn hp))
theorem fa_startF {y : MethodName} {cc : ByteArray} {maxL d : Nat} {av : List Value} {post : UInt32 → fa_V × fa_R → Prop} (hy : plainName y.cls = true) (hlen : (lg_sl av).length ≤ maxL)
    (body : ∀ (p : Program) (e : Env) (s : State) (m : MethodId) (args : Array Value) (below : List Frame) (meth : Method) (c : Code) (ls : Array Slot) (Q : State → Prop), fa_CX G p s m args c cc maxL y.cls → lv_has ls maxL (lv_args 0 av) → fa_HX G n v r s s.heap [] →
      (∀ (x : UInt32) (v1 : fa_V) (r1 : fa_R) (H : Heap) (locs : List Loc) (pc : Nat) (ls : Array Slot), fa_HX G n v1 r1 s H locs → decode cc pc = .ok (.freturn, 1) → post x (v1, r1) → W p l e (fa_rm d) s m args below meth c H locs 0 0 Q (F0 m pc ls [.float x])) →
      W p l e (fa_rm d) s m args below meth c s.heap [] 0 0 Q (F0 m 0 ls [])) : fa_MF l G n y cc maxL d av v r post :=
  fa_start hy hlen (fun _ h => h) (fun p e s m below meth c ls _ CX hr hlk _ hl HX => body p e s m _ below meth c ls _ CX hl HX (fun x v1 r1 H locs pc ls HX hd hp => fa_fret CX HX hr hlk hd hp))
theorem fa_startV {y : MethodName} {cc : ByteArray} {maxL d : Nat} {av : List Value} {post : fa_V × fa_R → Prop} (hy : plainName y.cls = true) (hlen : (lg_sl av).length ≤ maxL)
    (body : ∀ (p : Program) (e : Env) (s : State) (m : MethodId) (args : Array Value) (below : List Frame) (meth : Method) (c : Code) (ls : Array Slot) (Q : State → Prop), fa_CX G p s m args c cc maxL y.cls → lv_has ls maxL (lv_args 0 av) → fa_HX G n v r s s.heap [] →
      (∀ (v1 : fa_V) (r1 : fa_R) (H : Heap) (locs : List Loc) (pc : Nat) (ls : Array Slot), fa_HX G n v1 r1 s H locs → decode cc pc = .ok (.return_, 1) → post (v1, r1) → W p l e (fa_rm d) s m args below meth c H locs 0 0 Q (F0 m pc ls [])) →
      W p l e (fa_rm d) s m args below meth c s.heap [] 0 0 Q (F0 m 0 ls [])) : fa_MV l G n y cc maxL d av v r post :=
  fa_start hy hlen (fun _ h => h) (fun p e s m below meth c ls _ CX hr hlk _ hl HX => body p e s m _ below meth c ls _ CX hl HX (fun v1 r1 H locs pc ls HX hd hp => fa_vret CX HX hr hlk hd hp))
theorem fa_startR {y : MethodName} {cc : ByteArray} {maxL d : Nat} {C : String} {av : List Value} {post : Option Nat → fa_V × fa_R → Prop} (hy : plainName y.cls = true) (hlen : (lg_sl av).length ≤ maxL)
    (body : ∀ (p : Program) (e : Env) (s : State) (m : MethodId) (args : Array Value) (below : List Frame) (meth : Method) (c : Code) (ls : Array Slot) (Q : State → Prop), fa_CX G p s m args c cc maxL y.cls → lv_has ls maxL (lv_args 0 av) → fa_HX G n v r s s.heap [] →
      (∀ (x : Option Nat) (y : Value) (v1 : fa_V) (r1 : fa_R) (H : Heap) (locs : List Loc) (pc : Nat) (ls : Array Slot), fa_HX G n v1 r1 s H locs → decode cc pc = .ok (.areturn, 1) → y = va_re (fun j => fa_B G + j) x → post x (v1, r1) → W p l e (fa_rm d) s m args below meth c H locs 0 0 Q (F0 m pc ls [y])) →
      W p l e (fa_rm d) s m args below meth c s.heap [] 0 0 Q (F0 m 0 ls [])) : fa_MR l G n y cc maxL (some (.object C)) d av v r post :=
  fa_start hy hlen (fun _ h => h) (fun p e s m below meth c ls _ CX hr hlk _ hl HX => body p e s m _ below meth c ls _ CX hl HX (fun x y v1 r1 H locs pc ls HX hd hy hp => fa_aret CX HX hr hlk hd hy hp))
theorem fa_iaddN {a b : Nat} (hx : p.tables.exec = Jvm.exec) (hb : c.code = cc) (hdg : decode cc pc = .ok (.iadd, 1)) (k : W p l e R s m args below meth c H locs cells slots Q (F0 m (pc + 1) ls (.int (nI (a + b)) :: rest))) : W p l e R s m args below meth c H locs cells slots Q (F0 m pc ls (.int (nI b) :: .int (nI a) :: rest)) :=
  lv_iadd hx hb hdg (by rw [nI_add]; exact k)
theorem fa_imulN {a b : Nat} (hx : p.tables.exec = Jvm.exec) (hb : c.code = cc) (hdg : decode cc pc = .ok (.imul, 1)) (k : W p l e R s m args below meth c H locs cells slots Q (F0 m (pc + 1) ls (.int (nI (a * b)) :: rest))) : W p l e R s m args below meth c H locs cells slots Q (F0 m pc ls (.int (nI b) :: .int (nI a) :: rest)) :=
  lv_imul hx hb hdg (by rw [pk_mul]; exact k)
theorem fa_isubN {a b : Nat} (hx : p.tables.exec = Jvm.exec) (hb : c.code = cc) (hdg : decode cc pc = .ok (.isub, 1)) (h : b ≤ a) (k : W p l e R s m args below meth c H locs cells slots Q (F0 m (pc + 1) ls (.int (nI (a - b)) :: rest))) : W p l e R s m args below meth c H locs cells slots Q (F0 m pc ls (.int (nI b) :: .int (nI a) :: rest)) :=
  lv_isub hx hb hdg (by rw [pk_sub h]; exact k)
section CALLS
variable {index k ci : Nat} {C : String} {T : u_T} {N : Nat} {y : MethodName} {bytes : ByteArray} {maxL na d : Nat} {ret : Option FieldType} {As st0 : List Value}
theorem fa_callSv {post : fa_V × fa_R → Prop} (CX : fa_CX G p s m args c cc nL own) (HX : fa_HX G n v r s H locs) (hM : fa_MV l G n y bytes maxL d As v r post) (hl : fa_lnS own index y bytes maxL none na)
    (hn : As.length = na) (hst : st0 = As.reverse ++ rest) (hW : (rest.map fun v => v.category).sum ≤ 8) (hls : ls.size = nL) (hR : d + 1 ≤ R.frames ∧ 8 + (maxL + 11) + 34 * d ≤ R.locals) (hf : cells + 0 ≤ R.cells ∧ slots + 0 ≤ R.slots) (hdg : decode cc pc = .ok (.invokestatic index, 3))
    (kk : ∀ (v1 : fa_V) (r1 : fa_R) (H1 : Heap) (locs1 : List Loc), post (v1, r1) → fa_HX G n v1 r1 s H1 locs1 → W p l e R s m args below meth c H1 locs1 cells slots Q (F0 m (pc + 3) ls rest)) : W p l e R s m args below meth c H locs cells slots Q (F0 m pc ls st0) :=
  va_callv (va_runS CX.1 hM (va_cwS na CX.1.2.2.2.2 hl.good rfl rfl rfl hl.2.2.2.2 hR) ⟨fa_blind _, fun U hU hW => ⟨rfl, by rw [hU]; exact HX.1, CX.2.moved hW HX.2 hU⟩⟩ rfl hn hls hst (lv_room hW) hdg hf) HX.2 (fun _ _ h => h) (fun _ h => h) (fun u t H1 locs1 ht _ hp hB _ _ hS => kk u.1 u.2 H1 locs1 hp ⟨by rw [← ht]; exact hB, hS⟩)
theorem fa_callVip {post : Int32 → Prop} (CX : fa_CX G p s m args c cc nL own) (HX : fa_HX G n v r s H locs) (hM : fa_MI l G n y bytes maxL ret d (.ref (fa_B G + k) :: As) v r (fun x w => w = (v, r) ∧ post x)) (hl : fa_lnV own index C y bytes maxL ret na)
    (hk : k < n) (hsh : fa_sh k = .inr ci) (hc : vwCl[ci]? = some (C, T, N)) (hn : As.length = na) (hst : st0 = As.reverse ++ .ref (fa_B G + k) :: rest) (hW : (rest.map fun v => v.category).sum ≤ 8) (hls : ls.size = nL) (hR : d + 1 ≤ R.frames ∧ 8 + (maxL + 11) + 34 * d ≤ R.locals) (hf : cells + 0 ≤ R.cells ∧ slots + 0 ≤ R.slots) (hdg : decode cc pc = .ok (.invokevirtual index, 3))
    (kk : ∀ (x : Int32) (H1 : Heap) (locs1 : List Loc), post x → fa_HX G n v r s H1 locs1 → W p l e R s m args below meth c H1 locs1 cells slots Q (F0 m (pc + 3) ls (.int x :: rest))) : W p l e R s m args below meth c H locs cells slots Q (F0 m pc ls st0) := by
  refine fa_callVi CX HX hM hl hk hsh hc hn hst hW hls hR hf hdg (fun x v1 r1 H1 locs1 hp HX1 => ?_)
  obtain ⟨e1, hp⟩ := hp
  obtain ⟨e2, e3⟩ := Prod.mk.inj e1
  rw [e2, e3] at HX1
  exact kk x H1 locs1 hp HX1
theorem fa_callViu {post : Int32 → fa_V → Prop} (CX : fa_CX G p s m args c cc nL own) (HX : fa_HX G n v r s H locs) (hM : fa_MI l G n y bytes maxL ret d (.ref (fa_B G + k) :: As) v r (fa_voi r post)) (hl : fa_lnV own index C y bytes maxL ret na)
    (hk : k < n) (hsh : fa_sh k = .inr ci) (hc : vwCl[ci]? = some (C, T, N)) (hn : As.length = na) (hst : st0 = As.reverse ++ .ref (fa_B G + k) :: rest) (hW : (rest.map fun v => v.category).sum ≤ 8) (hls : ls.size = nL) (hR : d + 1 ≤ R.frames ∧ 8 + (maxL + 11) + 34 * d ≤ R.locals) (hf : cells + 0 ≤ R.cells ∧ slots + 0 ≤ R.slots) (hdg : decode cc pc = .ok (.invokevirtual index, 3))
    (kk : ∀ (x : Int32) (v1 : fa_V) (H1 : Heap) (locs1 : List Loc), post x v1 → fa_HX G n v1 r s H1 locs1 → W p l e R s m args below meth c H1 locs1 cells slots Q (F0 m (pc + 3) ls (.int x :: rest))) : W p l e R s m args below meth c H locs cells slots Q (F0 m pc ls st0) := by
  refine fa_callVi CX HX hM hl hk hsh hc hn hst hW hls hR hf hdg (fun x v1 r1 H1 locs1 hp HX1 => ?_)
  obtain ⟨e3, hp⟩ := hp
  rw [show r1 = r from e3] at HX1
  exact kk x v1 H1 locs1 hp HX1
theorem fa_callVfp {post : UInt32 → Prop} (CX : fa_CX G p s m args c cc nL own) (HX : fa_HX G n v r s H locs) (hM : fa_MF l G n y bytes maxL d (.ref (fa_B G + k) :: As) v r (fun x w => w = (v, r) ∧ post x)) (hl : fa_lnV own index C y bytes maxL (some .float) na)
    (hk : k < n) (hsh : fa_sh k = .inr ci) (hc : vwCl[ci]? = some (C, T, N)) (hn : As.length = na) (hst : st0 = As.reverse ++ .ref (fa_B G + k) :: rest) (hW : (rest.map fun v => v.category).sum ≤ 8) (hls : ls.size = nL) (hR : d + 1 ≤ R.frames ∧ 8 + (maxL + 11) + 34 * d ≤ R.locals) (hf : cells + 0 ≤ R.cells ∧ slots + 0 ≤ R.slots) (hdg : decode cc pc = .ok (.invokevirtual index, 3))
    (kk : ∀ (x : UInt32) (H1 : Heap) (locs1 : List Loc), post x → fa_HX G n v r s H1 locs1 → W p l e R s m args below meth c H1 locs1 cells slots Q (F0 m (pc + 3) ls (.float x :: rest))) : W p l e R s m args below meth c H locs cells slots Q (F0 m pc ls st0) := by
  refine fa_callVf CX HX hM hl hk hsh hc hn hst hW hls hR hf hdg (fun x v1 r1 H1 locs1 hp HX1 => ?_)
  obtain ⟨e1, hp⟩ := hp
  obtain ⟨e2, e3⟩ := Prod.mk.inj e1
  rw [e2, e3] at HX1
  exact kk x H1 locs1 hp HX1
theorem fa_callVfu {post : UInt32 → fa_V → Prop} (CX : fa_CX G p s m args c cc nL own) (HX : fa_HX G n v r s H locs) (hM : fa_MF l G n y bytes maxL d (.ref (fa_B G + k) :: As) v r (fa_voi r post)) (hl : fa_lnV own index C y bytes maxL (some .float) na)
    (hk : k < n) (hsh : fa_sh k = .inr ci) (hc : vwCl[ci]? = some (C, T, N)) (hn : As.length = na) (hst : st0 = As.reverse ++ .ref (fa_B G + k) :: rest) (hW : (rest.map fun v => v.category).sum ≤ 8) (hls : ls.size = nL) (hR : d + 1 ≤ R.frames ∧ 8 + (maxL + 11) + 34 * d ≤ R.locals) (hf : cells + 0 ≤ R.cells ∧ slots + 0 ≤ R.slots) (hdg : decode cc pc = .ok (.invokevirtual index, 3))
    (kk : ∀ (x : UInt32) (v1 : fa_V) (H1 : Heap) (locs1 : List Loc), post x v1 → fa_HX G n v1 r s H1 locs1 → W p l e R s m args below meth c H1 locs1 cells slots Q (F0 m (pc + 3) ls (.float x :: rest))) : W p l e R s m args below meth c H locs cells slots Q (F0 m pc ls st0) := by
  refine fa_callVf CX HX hM hl hk hsh hc hn hst hW hls hR hf hdg (fun x v1 r1 H1 locs1 hp HX1 => ?_)
  obtain ⟨e3, hp⟩ := hp
  rw [show r1 = r from e3] at HX1
  exact kk x v1 H1 locs1 hp HX1
theorem fa_callVrp {post : Option Nat → Prop} (CX : fa_CX G p s m args c cc nL own) (HX : fa_HX G n v r s H locs) (hM : fa_MR l G n y bytes maxL ret d (.ref (fa_B G + k) :: As) v r (fun x w => w = (v, r) ∧ post x)) (hl : fa_lnV own index C y bytes maxL ret na)
    (hk : k < n) (hsh : fa_sh k = .inr ci) (hc : vwCl[ci]? = some (C, T, N)) (hn : As.length = na) (hst : st0 = As.reverse ++ .ref (fa_B G + k) :: rest) (hW : (rest.map fun v => v.category).sum ≤ 8) (hls : ls.size = nL) (hR : d + 1 ≤ R.frames ∧ 8 + (maxL + 11) + 34 * d ≤ R.locals) (hf : cells + 0 ≤ R.cells ∧ slots + 0 ≤ R.slots) (hdg : decode cc pc = .ok (.invokevirtual index, 3))
    (k0 : ∀ (H1 : Heap) (locs1 : List Loc), post none → fa_HX G n v r s H1 locs1 → W p l e R s m args below meth c H1 locs1 cells slots Q (F0 m (pc + 3) ls (.null :: rest))) (k1 : ∀ (q : Nat) (H1 : Heap) (locs1 : List Loc), post (some q) → fa_HX G n v r s H1 locs1 → W p l e R s m args below meth c H1 locs1 cells slots Q (F0 m (pc + 3) ls (.ref (fa_B G + q) :: rest))) : W p l e R s m args below meth c H locs cells slots Q (F0 m pc ls st0) := by
  refine fa_callVr CX HX hM hl hk hsh hc hn hst hW hls hR hf hdg (fun x v1 r1 H1 locs1 hp HX1 => ?_)
  obtain ⟨e1, hp⟩ := hp
  obtain ⟨e2, e3⟩ := Prod.mk.inj e1
  rw [e2, e3] at HX1
  cases x with
  | none => exact k0 H1 locs1 hp HX1
  | some q => exact k1 q H1 locs1 hp HX1
theorem fa_callVru {post : Option Nat → fa_V → Prop} (CX : fa_CX G p s m args c cc nL own) (HX : fa_HX G n v r s H locs) (hM : fa_MR l G n y bytes maxL ret d (.ref (fa_B G + k) :: As) v r (fa_voi r post)) (hl : fa_lnV own index C y bytes maxL ret na)
    (hk : k < n) (hsh : fa_sh k = .inr ci) (hc : vwCl[ci]? = some (C, T, N)) (hn : As.length = na) (hst : st0 = As.reverse ++ .ref (fa_B G + k) :: rest) (hW : (rest.map fun v => v.category).sum ≤ 8) (hls : ls.size = nL) (hR : d + 1 ≤ R.frames ∧ 8 + (maxL + 11) + 34 * d ≤ R.locals) (hf : cells + 0 ≤ R.cells ∧ slots + 0 ≤ R.slots) (hdg : decode cc pc = .ok (.invokevirtual index, 3))
    (k0 : ∀ (v1 : fa_V) (H1 : Heap) (locs1 : List Loc), post none v1 → fa_HX G n v1 r s H1 locs1 → W p l e R s m args below meth c H1 locs1 cells slots Q (F0 m (pc + 3) ls (.null :: rest))) (k1 : ∀ (q : Nat) (v1 : fa_V) (H1 : Heap) (locs1 : List Loc), post (some q) v1 → fa_HX G n v1 r s H1 locs1 → W p l e R s m args below meth c H1 locs1 cells slots Q (F0 m (pc + 3) ls (.ref (fa_B G + q) :: rest))) : W p l e R s m args below meth c H locs cells slots Q (F0 m pc ls st0) := by
  refine fa_callVr CX HX hM hl hk hsh hc hn hst hW hls hR hf hdg (fun x v1 r1 H1 locs1 hp HX1 => ?_)
  obtain ⟨e3, hp⟩ := hp
  rw [show r1 = r from e3] at HX1
  cases x with
  | none => exact k0 v1 H1 locs1 hp HX1
  | some q => exact k1 q v1 H1 locs1 hp HX1
theorem fa_callVvp (CX : fa_CX G p s m args c cc nL own) (HX : fa_HX G n v r s H locs) (hM : fa_MV l G n y bytes maxL d (.ref (fa_B G + k) :: As) v r (fun w => w = (v, r))) (hl : fa_lnV own index C y bytes maxL none na)
    (hk : k < n) (hsh : fa_sh k = .inr ci) (hc : vwCl[ci]? = some (C, T, N)) (hn : As.length = na) (hst : st0 = As.reverse ++ .ref (fa_B G + k) :: rest) (hW : (rest.map fun v => v.category).sum ≤ 8) (hls : ls.size = nL) (hR : d + 1 ≤ R.frames ∧ 8 + (maxL + 11) + 34 * d ≤ R.locals) (hf : cells + 0 ≤ R.cells ∧ slots + 0 ≤ R.slots) (hdg : decode cc pc = .ok (.invokevirtual index, 3))
    (kk : ∀ (H1 : Heap) (locs1 : List Loc), True → fa_HX G n v r s H1 locs1 → W p l e R s m args below meth c H1 locs1 cells slots Q (F0 m (pc + 3) ls rest)) : W p l e R s m args below meth c H locs cells slots Q (F0 m pc ls st0) := by
  refine fa_callVv CX HX hM hl hk hsh hc hn hst hW hls hR hf hdg (fun v1 r1 H1 locs1 hp HX1 => ?_)
  have e1 := hp
  obtain ⟨e2, e3⟩ := Prod.mk.inj e1
  rw [e2, e3] at HX1
  have hp := True.intro
  exact kk H1 locs1 hp HX1
theorem fa_callVvu {post : fa_V → Prop} (CX : fa_CX G p s m args c cc nL own) (HX : fa_HX G n v r s H locs) (hM : fa_MV l G n y bytes maxL d (.ref (fa_B G + k) :: As) v r (fa_vo r post)) (hl : fa_lnV own index C y bytes maxL none na)
    (hk : k < n) (hsh : fa_sh k = .inr ci) (hc : vwCl[ci]? = some (C, T, N)) (hn : As.length = na) (hst : st0 = As.reverse ++ .ref (fa_B G + k) :: rest) (hW : (rest.map fun v => v.category).sum ≤ 8) (hls : ls.size = nL) (hR : d + 1 ≤ R.frames ∧ 8 + (maxL + 11) + 34 * d ≤ R.locals) (hf : cells + 0 ≤ R.cells ∧ slots + 0 ≤ R.slots) (hdg : decode cc pc = .ok (.invokevirtual index, 3))
    (kk : ∀ (v1 : fa_V) (H1 : Heap) (locs1 : List Loc), post v1 → fa_HX G n v1 r s H1 locs1 → W p l e R s m args below meth c H1 locs1 cells slots Q (F0 m (pc + 3) ls rest)) : W p l e R s m args below meth c H locs cells slots Q (F0 m pc ls st0) := by
  refine fa_callVv CX HX hM hl hk hsh hc hn hst hW hls hR hf hdg (fun v1 r1 H1 locs1 hp HX1 => ?_)
  obtain ⟨e3, hp⟩ := hp
  rw [show r1 = r from e3] at HX1
  exact kk v1 H1 locs1 hp HX1
theorem fa_callSip {post : Int32 → Prop} (CX : fa_CX G p s m args c cc nL own) (HX : fa_HX G n v r s H locs) (hM : fa_MI l G n y bytes maxL ret d As v r (fun x w => w = (v, r) ∧ post x)) (hl : fa_lnS own index y bytes maxL ret na)
    (hn : As.length = na) (hst : st0 = As.reverse ++ rest) (hW : (rest.map fun v => v.category).sum ≤ 8) (hls : ls.size = nL) (hR : d + 1 ≤ R.frames ∧ 8 + (maxL + 11) + 34 * d ≤ R.locals) (hf : cells + 0 ≤ R.cells ∧ slots + 0 ≤ R.slots) (hdg : decode cc pc = .ok (.invokestatic index, 3))
    (kk : ∀ (x : Int32) (H1 : Heap) (locs1 : List Loc), post x → fa_HX G n v r s H1 locs1 → W p l e R s m args below meth c H1 locs1 cells slots Q (F0 m (pc + 3) ls (.int x :: rest))) : W p l e R s m args below meth c H locs cells slots Q (F0 m pc ls st0) := by
  refine fa_callSi CX HX hM hl hn hst hW hls hR hf hdg (fun x v1 r1 H1 locs1 hp HX1 => ?_)
  obtain ⟨e1, hp⟩ := hp
  obtain ⟨e2, e3⟩ := Prod.mk.inj e1
  rw [e2, e3] at HX1
  exact kk x H1 locs1 hp HX1
theorem fa_callSiu {post : Int32 → fa_V → Prop} (CX : fa_CX G p s m args c cc nL own) (HX : fa_HX G n v r s H locs) (hM : fa_MI l G n y bytes maxL ret d As v r (fa_voi r post)) (hl : fa_lnS own index y bytes maxL ret na)
    (hn : As.length = na) (hst : st0 = As.reverse ++ rest) (hW : (rest.map fun v => v.category).sum ≤ 8) (hls : ls.size = nL) (hR : d + 1 ≤ R.frames ∧ 8 + (maxL + 11) + 34 * d ≤ R.locals) (hf : cells + 0 ≤ R.cells ∧ slots + 0 ≤ R.slots) (hdg : decode cc pc = .ok (.invokestatic index, 3))
    (kk : ∀ (x : Int32) (v1 : fa_V) (H1 : Heap) (locs1 : List Loc), post x v1 → fa_HX G n v1 r s H1 locs1 → W p l e R s m args below meth c H1 locs1 cells slots Q (F0 m (pc + 3) ls (.int x :: rest))) : W p l e R s m args below meth c H locs cells slots Q (F0 m pc ls st0) := by
  refine fa_callSi CX HX hM hl hn hst hW hls hR hf hdg (fun x v1 r1 H1 locs1 hp HX1 => ?_)
  obtain ⟨e3, hp⟩ := hp
  rw [show r1 = r from e3] at HX1
  exact kk x v1 H1 locs1 hp HX1
theorem fa_callSvp (CX : fa_CX G p s m args c cc nL own) (HX : fa_HX G n v r s H locs) (hM : fa_MV l G n y bytes maxL d As v r (fun w => w = (v, r))) (hl : fa_lnS own index y bytes maxL none na)
    (hn : As.length = na) (hst : st0 = As.reverse ++ rest) (hW : (rest.map fun v => v.category).sum ≤ 8) (hls : ls.size = nL) (hR : d + 1 ≤ R.frames ∧ 8 + (maxL + 11) + 34 * d ≤ R.locals) (hf : cells + 0 ≤ R.cells ∧ slots + 0 ≤ R.slots) (hdg : decode cc pc = .ok (.invokestatic index, 3))
    (kk : ∀ (H1 : Heap) (locs1 : List Loc), True → fa_HX G n v r s H1 locs1 → W p l e R s m args below meth c H1 locs1 cells slots Q (F0 m (pc + 3) ls rest)) : W p l e R s m args below meth c H locs cells slots Q (F0 m pc ls st0) := by
  refine fa_callSv CX HX hM hl hn hst hW hls hR hf hdg (fun v1 r1 H1 locs1 hp HX1 => ?_)
  have e1 := hp
  obtain ⟨e2, e3⟩ := Prod.mk.inj e1
  rw [e2, e3] at HX1
  have hp := True.intro
  exact kk H1 locs1 hp HX1
theorem fa_callSvu {post : fa_V → Prop} (CX : fa_CX G p s m args c cc nL own) (HX : fa_HX G n v r s H locs) (hM : fa_MV l G n y bytes maxL d As v r (fa_vo r post)) (hl : fa_lnS own index y bytes maxL none na)
    (hn : As.length = na) (hst : st0 = As.reverse ++ rest) (hW : (rest.map fun v => v.category).sum ≤ 8) (hls : ls.size = nL) (hR : d + 1 ≤ R.frames ∧ 8 + (maxL + 11) + 34 * d ≤ R.locals) (hf : cells + 0 ≤ R.cells ∧ slots + 0 ≤ R.slots) (hdg : decode cc pc = .ok (.invokestatic index, 3))
    (kk : ∀ (v1 : fa_V) (H1 : Heap) (locs1 : List Loc), post v1 → fa_HX G n v1 r s H1 locs1 → W p l e R s m args below meth c H1 locs1 cells slots Q (F0 m (pc + 3) ls rest)) : W p l e R s m args below meth c H locs cells slots Q (F0 m pc ls st0) := by
  refine fa_callSv CX HX hM hl hn hst hW hls hR hf hdg (fun v1 r1 H1 locs1 hp HX1 => ?_)
  obtain ⟨e3, hp⟩ := hp
  rw [show r1 = r from e3] at HX1
  exact kk v1 H1 locs1 hp HX1
theorem fa_callSNip {post : Int32 → Prop} (CX : fa_CX G p s m args c cc nL own) (HX : fa_HX G n v r s H locs) (hM : fa_MI l G n y bytes maxL ret d As v r (fun x w => w = (v, r) ∧ post x)) (hq : (own, index, y, RX6) ∈ fa_nM) (hl : Cond.static y ∈ fa_tbl ∧ Cond.initialized y.cls ∈ fa_tbl ∧ Cond.code y bytes maxL ret ∈ fa_tbl ∧ (y.cls ≠ "java/lang/invoke/MethodHandle" ∧ y.cls ≠ "java/lang/invoke/VarHandle" ∧ (parseMethodDescriptor y.desc).map (fun d => d.parameters.length) = some na))
    (hn : As.length = na) (hst : st0 = As.reverse ++ rest) (hW : (rest.map fun v => v.category).sum ≤ 8) (hls : ls.size = nL) (hR : d + 1 ≤ R.frames ∧ 8 + (maxL + 11) + 34 * d ≤ R.locals) (hf : cells + 0 ≤ R.cells ∧ slots + 0 ≤ R.slots) (hdg : decode cc pc = .ok (.invokestatic index, 3))
    (kk : ∀ (x : Int32) (H1 : Heap) (locs1 : List Loc), post x → fa_HX G n v r s H1 locs1 → W p l e R s m args below meth c H1 locs1 cells slots Q (F0 m (pc + 3) ls (.int x :: rest))) : W p l e R s m args below meth c H locs cells slots Q (F0 m pc ls st0) := by
  refine fa_callSNi CX HX hM hq hl hn hst hW hls hR hf hdg (fun x v1 r1 H1 locs1 hp HX1 => ?_)
  obtain ⟨e1, hp⟩ := hp
  obtain ⟨e2, e3⟩ := Prod.mk.inj e1
  rw [e2, e3] at HX1
  exact kk x H1 locs1 hp HX1
theorem fa_callSNiu {post : Int32 → fa_V → Prop} (CX : fa_CX G p s m args c cc nL own) (HX : fa_HX G n v r s H locs) (hM : fa_MI l G n y bytes maxL ret d As v r (fa_voi r post)) (hq : (own, index, y, RX6) ∈ fa_nM) (hl : Cond.static y ∈ fa_tbl ∧ Cond.initialized y.cls ∈ fa_tbl ∧ Cond.code y bytes maxL ret ∈ fa_tbl ∧ (y.cls ≠ "java/lang/invoke/MethodHandle" ∧ y.cls ≠ "java/lang/invoke/VarHandle" ∧ (parseMethodDescriptor y.desc).map (fun d => d.parameters.length) = some na))
    (hn : As.length = na) (hst : st0 = As.reverse ++ rest) (hW : (rest.map fun v => v.category).sum ≤ 8) (hls : ls.size = nL) (hR : d + 1 ≤ R.frames ∧ 8 + (maxL + 11) + 34 * d ≤ R.locals) (hf : cells + 0 ≤ R.cells ∧ slots + 0 ≤ R.slots) (hdg : decode cc pc = .ok (.invokestatic index, 3))
    (kk : ∀ (x : Int32) (v1 : fa_V) (H1 : Heap) (locs1 : List Loc), post x v1 → fa_HX G n v1 r s H1 locs1 → W p l e R s m args below meth c H1 locs1 cells slots Q (F0 m (pc + 3) ls (.int x :: rest))) : W p l e R s m args below meth c H locs cells slots Q (F0 m pc ls st0) := by
  refine fa_callSNi CX HX hM hq hl hn hst hW hls hR hf hdg (fun x v1 r1 H1 locs1 hp HX1 => ?_)
  obtain ⟨e3, hp⟩ := hp
  rw [show r1 = r from e3] at HX1
  exact kk x v1 H1 locs1 hp HX1
end CALLS
theorem fa_cp_row {k0 k1 sp dp cnt : Nat} {v1 : fa_V} (h : v1 = fun k i => if k = k1 then va_cpy (v k0) (v k1) sp dp cnt i else v k i) : v1 k1 = va_cpy (v k0) (v k1) sp dp cnt ∧ ∀ k, k ≠ k1 → v1 k = v k := by
  subst h
  refine ⟨by funext i; simp, fun k hk => by funext i; simp [hk]⟩
/-- System.arraycopy between two int arrays -/
theorem fa_copy {index k0 k1 n0 n1 sp dp cnt : Nat} (CX : fa_CX G p s m args c cc nL own) (HX : fa_HX G n v r s H locs) (hlink : Cond.methodLink own index arraycopyName ∈ fa_tbl) (hnat : Cond.native arraycopyName ∈ fa_tbl) (hstat : Cond.static arraycopyName ∈ fa_tbl) (hini : Cond.initialized "java/lang/System" ∈ fa_tbl) (hls : ls.size = nL)
    (hk0 : k0 < n) (hsh0 : fa_sh k0 = .inl (0, n0)) (hk1 : k1 < n) (hsh1 : fa_sh k1 = .inl (0, n1)) (h4 : sp + cnt ≤ n0) (h5 : dp + cnt ≤ n1) (h6 : n0 < 2 ^ 31) (h7 : n1 < 2 ^ 31)
    (hframes : 1 ≤ R.frames) (hlocals : (rest.map fun v => v.category).sum + (nativeFrameWords "java/lang/System" "arraycopy" 5 + 11) ≤ R.locals) (hdg : decode cc pc = .ok (.invokestatic index, 3))
    (kk : ∀ (H1 : Heap) (locs1 : List Loc) (v1 : fa_V), (v1 = fun k i => if k = k1 then va_cpy (v k0) (v k1) sp dp cnt i else v k i) → fa_HX G n v1 r s H1 locs1 → W p l e R s m args below meth c H1 locs1 cells slots Q (F0 m (pc + 3) ls rest)) : W p l e R s m args below meth c H locs cells slots Q (F0 m pc ls (.int (nI cnt) :: .int (nI dp) :: .ref (fa_B G + k1) :: .int (nI sp) :: .ref (fa_B G + k0) :: rest)) := by
  obtain ⟨⟨hx, hb, hml, hown, hts⟩, hE⟩ := CX
  have c1 : (nI sp).toNatClampNeg = sp := nI_clamp (by omega)
  have c2 : (nI dp).toNatClampNeg = dp := nI_clamp (by omega)
  have c3 : (nI cnt).toNatClampNeg = cnt := nI_clamp (by omega)
  refine va_copyi hx hb (hml.trans hls.symm) hown (hts _ hlink) (hts _ hnat) (hts _ hstat) (hts _ hini) hE.1 HX.1 fa_w_D HX.2 k0 k1 0 0 (fa_w_arr hk0 hsh0 (by decide)) (fa_w_arr hk1 hsh1 (by decide)) rfl rfl rfl (nI_pos (by omega)) (nI_pos (by omega)) (nI_pos (by omega)) (by rw [c1, c3]; exact h4) (by rw [c2, c3]; exact h5) (fun _ _ => rfl) hframes hlocals hdg (fun H1 locs1 hP _ hS => ?_)
  rw [c1, c2, c3] at hP
  have e := fa_w_set (G := G) (n := n) (k := k1) (v := v) (v1 := fun k i => if k = k1 then va_cpy (v k0) (v k1) sp dp cnt i else v k i) (r := r) (r1 := r) (e := .inl (fa_dA G 0, n1, .inl (va_cpy (v k0) (v k1) sp dp cnt)))
    (by rw [hsh1]; simp [fa_cell]) (fun j hj => ⟨by funext i; simp [hj], rfl⟩)
  rw [e] at hP
  exact kk H1 locs1 _ rfl ⟨hP, hS⟩
end FAS
