/-- a memory whose references stay -/
abbrev fa_vo (r : fa_R) (post : fa_V → Prop) (w : fa_V × fa_R) : Prop := w.2 = r ∧ post w.1
abbrev fa_voi {α : Type} (r : fa_R) (post : α → fa_V → Prop) (x : α) (w : fa_V × fa_R) : Prop := w.2 = r ∧ post x w.1

section FAS
variable {p : Program} {l : Launch} {e : Env} {R : Room} {s : State} {m : MethodId} {args : Array Value} {below : List Frame} {meth : Method} {c : Code} {H : Heap} {locs : List Loc} {cells slots : Nat} {Q : State → Prop}
variable {G : fa_G} {n : Nat} {v : fa_V} {r : fa_R} {cc : ByteArray} {nL : Nat} {own : String} {pc : Nat} {ls : Array Slot} {rest : List Value}
theorem fa_startI {y : MethodName} {cc : ByteArray} {maxL d : Nat} {av : List Value} {post : Int32 → fa_V × fa_R → Prop} (hy : plainName y.cls = true) (hlen : (lg_sl av).length ≤ maxL)
    (body : ∀ (p : Program) (e : Env) (s : State) (m : MethodId) (args : Array Value) (below : List Frame) (meth : Method) (c : Code) (ls : Array Slot) (Q : State → Prop), fa_CX G p s m args c cc maxL y.cls → lv_has ls maxL (lv_args 0 av) → fa_HX G n v r s s.heap [] →
      (∀ (x : Int32) (v1 : fa_V) (r1 : fa_R) (H : Heap) (locs : List Loc) (pc : Nat) (ls : Array Slot), fa_HX G n v1 r1 s H locs → decode cc pc = .ok (.ireturn, 1) → post x (v1, r1) → W p l e (fa_rm d) s m args below meth c H locs 0 0 Q (F0 m pc ls [.int x])) →
      W p l e (fa_rm d) s m args below meth c s.heap [] 0 0 Q (F0 m 0 ls [])) : fa_MI l G n y cc maxL (some .int) d av v r post :=
  fa_start hy hlen (fun _ h => h) (fun p e s m below meth c ls _ CX hr hlk _ hl HX => body p e s m _ below meth c ls _ CX hl HX (fun x v1 r1 H locs pc ls HX hd hp => fa_iret CX HX hr hlk hd hp))
theorem fa_startZ {y : MethodName} {cc : ByteArray} {maxL d : Nat} {av : List Value} {post : Int32 → fa_V × fa_R → Prop} (hy : plainName y.cls = true) (hlen : (lg_sl av).length ≤ maxL)
    (body : ∀ (p : Program) (e : Env) (s : State) (m : MethodId) (args : Array Value) (below : List Frame) (meth : Method) (c : Code) (ls : Array Slot) (Q : State → Prop), fa_CX G p s m args c cc maxL y.cls → lv_has ls maxL (lv_args 0 av) → fa_HX G n v r s s.heap [] →
      (∀ (x : Int32) (v1 : fa_V) (r1 : fa_R) (H : Heap) (locs : List Loc) (pc : Nat) (ls : Array Slot), fa_HX G n v1 r1 s H locs → decode cc pc = .ok (.ireturn, 1) → narrow .boolean (.int x) = .int x → post x (v1, r1) → W p l e (fa_rm d) s m args below meth c H locs 0 0 Q (F0 m pc ls [.int x])) →
      W p l e (fa_rm d) s m args below meth c s.heap [] 0 0 Q (F0 m 0 ls [])) : fa_MI l G n y cc maxL (some .boolean) d av v r post :=
  fa_start hy hlen (fun _ h => h) (fun p e s m below meth c ls _ CX hr hlk _ hl HX => body p e s m _ below meth c ls _ CX hl HX (fun x v1 r1 H locs pc ls HX hd hn hp => fa_zret CX HX hr hlk hd hn hp))
theorem fa_startC {y : MethodName} {cc : ByteArray} {maxL d : Nat} {av : List Value} {post : Int32 → fa_V × fa_R → Prop} (hy : plainName y.cls = true) (hlen : (lg_sl av).length ≤ maxL)
    (body : ∀ (p : Program) (e : Env) (s : State) (m : MethodId) (args : Array Value) (below : List Frame) (meth : Method) (c : Code) (ls : Array Slot) (Q : State → Prop), fa_CX G p s m args c cc maxL y.cls → lv_has ls maxL (lv_args 0 av) → fa_HX G n v r s s.heap [] →
      (∀ (x : Int32) (v1 : fa_V) (r1 : fa_R) (H : Heap) (locs : List Loc) (pc : Nat) (ls : Array Slot), fa_HX G n v1 r1 s H locs → decode cc pc = .ok (.ireturn, 1) → narrow .char (.int x) = .int x → post x (v1, r1) → W p l e (fa_rm d) s m args below meth c H locs 0 0 Q (F0 m pc ls [.int x])) →
      W p l e (fa_rm d) s m args below meth c s.heap [] 0 0 Q (F0 m 0 ls [])) : fa_MI l G n y cc maxL (some .char) d av v r post :=
  fa_start hy hlen (fun _ h => h) (fun p e s m below meth c ls _ CX hr hlk _ hl HX => body p e s m _ below meth c ls _ CX hl HX (fun x v1 r1 H locs pc ls HX hd hn hp => fa_cret CX HX hr hlk hd hn hp))
theorem fa_startF {y : MethodName} {cc : ByteArray} {maxL d : Nat} {av : List Value} {post : UInt32 → fa_V × fa_R → Prop} (hy : plainName y.cls = true) (hlen : (lg_sl av).length ≤ maxL)
    (body : ∀ (p : Program) (e : Env) (s : State) (m : MethodId) (args : Array Value) (below : List Frame) (meth : Method) (c : Code) (ls : Array Slot) (Q : State → Prop), fa_CX G p s m args c cc maxL y.cls → lv_has ls maxL (lv_args 0 av) → fa_HX G n v r s s.heap [] →
      (∀ (x : UInt32) (v1 : fa_V) (r1 : fa_R) (H : Heap) (locs : List Loc) (pc : Nat) (ls : Array Slot), fa_HX G n v1 r1 s H locs → decode cc pc = .ok (.freturn, 1) → post x (v1, r1) → W p l e (fa_rm d) s m args below meth c H locs 0 0 Q (F0 m pc ls [.float x])) →
      W p l e (fa_rm d) s m args below meth c s.heap [] 0 0 Q (F0 m 0 ls [])) : fa_MF l G n y cc maxL d av v r post :=
  fa_start hy hlen (fun _ h => h) (fun p e s m below meth c ls _ CX hr hlk _ hl HX => body p e s m _ below meth c ls _ CX hl HX (fun x v1 r1 H locs pc ls HX hd hp => fa_fret CX HX hr hlk hd hp))
theorem fa_startV {y : MethodName} {cc : ByteArray} {maxL d : Nat} {av : List Value} {post : fa_V × fa_R → Prop} (hy : plainName y.cls = true) (hlen : (lg_sl av).length ≤ maxL)
    (body : ∀ (p : Program) (e : Env) (s : State) (m : MethodId) (args : Array Value) (below : List Frame) (meth : Method) (c : Code) (ls : Array Slot) (Q : State → Prop), fa_CX G p s m args c cc maxL y.cls → lv_has ls maxL (lv_args 0 av) → fa_HX G n v r s s.heap [] →
      (∀ (v1 : fa_V) (r1 : fa_R) (H : Heap) (locs : List Loc) (pc : Nat) (ls : Array Slot), fa_HX G n v1 r1 s H locs → decode cc pc = .ok (.return_, 1) → post (v1, r1) → W p l e (fa_rm d) s m args below meth c H locs 0 0 Q (F0 m pc ls [])) →
      W p l e (fa_rm d) s m args below meth c s.heap [] 0 0 Q (F0 m 0 ls [])) : fa_MV l G n y cc maxL d av v r post :=
  fa_start hy hlen (fun _ h => h) (fun p e s m below meth c ls _ CX hr hlk _ hl HX => body p e s m _ below meth c ls _ CX hl HX (fun v1 r1 H locs pc ls HX hd hp => fa_vret CX HX hr hlk hd hp))
theorem fa_startR {y : MethodName} {cc : ByteArray} {maxL d : Nat} {C : String} {av : List Value} {post : Option Nat → fa_V × fa_R → Prop} (hy : plainName y.cls = true) (hlen : (lg_sl av).length ≤ maxL)
    (body : ∀ (p : Program) (e : Env) (s : State) (m : MethodId) (args : Array Value) (below : List Frame) (meth : Method) (c : Code) (ls : Array Slot) (Q : State → Prop), fa_CX G p s m args c cc maxL y.cls → lv_has ls maxL (lv_args 0 av) → fa_HX G n v r s s.heap [] →
      (∀ (x : Option Nat) (y : Value) (v1 : fa_V) (r1 : fa_R) (H : Heap) (locs : List Loc) (pc : Nat) (ls : Array Slot), fa_HX G n v1 r1 s H locs → decode cc pc = .ok (.areturn, 1) → y = va_re (fun j => fa_B G + j) x → post x (v1, r1) → W p l e (fa_rm d) s m args below meth c H locs 0 0 Q (F0 m pc ls [y])) →
      W p l e (fa_rm d) s m args below meth c s.heap [] 0 0 Q (F0 m 0 ls [])) : fa_MR l G n y cc maxL (some (.object C)) d av v r post :=
  fa_start hy hlen (fun _ h => h) (fun p e s m below meth c ls _ CX hr hlk _ hl HX => body p e s m _ below meth c ls _ CX hl HX (fun x y v1 r1 H locs pc ls HX hd hy hp => fa_aret CX HX hr hlk hd hy hp))
theorem fa_iaddN {a b : Nat} (hx : p.tables.exec = Jvm.exec) (hb : c.code = cc) (hdg : decode cc pc = .ok (.iadd, 1)) (k : W p l e R s m args below meth c H locs cells slots Q (F0 m (pc + 1) ls (.int (nI (a + b)) :: rest))) : W p l e R s m args below meth c H locs cells slots Q (F0 m pc ls (.int (nI b) :: .int (nI a) :: rest)) :=
  lv_iadd hx hb hdg (by rw [nI_add]; exact k)
theorem fa_imulN {a b : Nat} (hx : p.tables.exec = Jvm.exec) (hb : c.code = cc) (hdg : decode cc pc = .ok (.imul, 1)) (k : W p l e R s m args below meth c H locs cells slots Q (F0 m (pc + 1) ls (.int (nI (a * b)) :: rest))) : W p l e R s m args below meth c H locs cells slots Q (F0 m pc ls (.int (nI b) :: .int (nI a) :: rest)) :=
  lv_imul hx hb hdg (by rw [pk_mul]; exact k)
theorem fa_isubN {a b : Nat} (hx : p.tables.exec = Jvm.exec) (hb : c.code = cc) (hdg : decode cc pc = .ok (.isub, 1)) (h : b ≤ a) (k : W p l e R s m args below meth c H locs cells slots Q (F0 m (pc + 1) ls (.int (nI (a - b)) :: rest))) : W p l e R s m args below meth c H locs cells slots Q (F0 m pc ls (.int (nI b) :: .int (nI a) :: rest)) :=
  lv_isub hx hb hdg (by rw [pk_sub h]; exact k)
section CALLS
variable {index k ci : Nat} {C : String} {T : u_T} {N : Nat} {y : MethodName} {bytes : ByteArray} {maxL na d : Nat} {ret : Option FieldType} {As st0 : List Value}
theorem fa_callSv {post : fa_V × fa_R → Prop} (CX : fa_CX G p s m args c cc nL own) (HX : fa_HX G n v r s H locs) (hM : fa_MV l G n y bytes maxL d As v r post) (hl : fa_lnS own index y bytes maxL none na)
    (hn : As.length = na) (hst : st0 = As.reverse ++ rest) (hW : (rest.map fun v => v.category).sum ≤ 8) (hls : ls.size = nL) (hR : d + 1 ≤ R.frames ∧ 8 + (maxL + 11) + 34 * d ≤ R.locals) (hf : cells + 0 ≤ R.cells ∧ slots + 0 ≤ R.slots) (hdg : decode cc pc = .ok (.invokestatic index, 3))
    (kk : ∀ (v1 : fa_V) (r1 : fa_R) (H1 : Heap) (locs1 : List Loc), post (v1, r1) → fa_HX G n v1 r1 s H1 locs1 → W p l e R s m args below meth c H1 locs1 cells slots Q (F0 m (pc + 3) ls rest)) : W p l e R s m args below meth c H locs cells slots Q (F0 m pc ls st0) :=
  va_callv (va_runS CX.1 hM (va_cwS na CX.1.2.2.2.2 hl.good rfl rfl rfl hl.2.2.2.2 hR) ⟨fa_blind _, fun U hU hW => ⟨rfl, by rw [hU]; exact HX.1, CX.2.moved hW HX.2 hU⟩⟩ rfl hn hls hst (lv_room hW) hdg hf) HX.2 (fun _ _ h => h) (fun _ h => h) (fun u t H1 locs1 ht _ hp hB _ _ hS => kk u.1 u.2 H1 locs1 hp ⟨by rw [← ht]; exact hB, hS⟩)
theorem fa_callVip {post : Int32 → Prop} (CX : fa_CX G p s m args c cc nL own) (HX : fa_HX G n v r s H locs) (hM : fa_MI l G n y bytes maxL ret d (.ref (fa_B G + k) :: As) v r (fun x w => w = (v, r) ∧ post x)) (hl : fa_lnV own index C y bytes maxL ret na)
    (hk : k < n) (hsh : fa_sh k = .inr ci) (hc : vwCl[ci]? = some (C, T, N)) (hn : As.length = na) (hst : st0 = As.reverse ++ .ref (fa_B G + k) :: rest) (hW : (rest.map fun v => v.category).sum ≤ 8) (hls : ls.size = nL) (hR : d + 1 ≤ R.frames ∧ 8 + (maxL + 11) + 34 * d ≤ R.locals) (hf : cells + 0 ≤ R.cells ∧ slots + 0 ≤ R.slots) (hdg : decode cc pc = .ok (.invokevirtual index, 3))
    (kk : ∀ (x : Int32) (H1 : Heap) (locs1 : List Loc), post x → fa_HX G n v r s H1 locs1 → W p l e R s m args below meth c H1 locs1 cells slots Q (F0 m (pc + 3) ls (.int x :: rest))) : W p l e R s m args below meth c H locs cells slots Q (F0 m pc ls st0) := by
  refine fa_callVi CX HX hM hl hk hsh hc hn hst hW hls hR hf hdg (fun x v1 r1 H1 locs1 hp HX1 => ?_)
  obtain ⟨e1, hp⟩ := hp
  obtain ⟨e2, e3⟩ := Prod.mk.inj e1
  rw [e2, e3] at HX1
  exact kk x H1 locs1 hp HX1
theorem fa_callViu {post : Int32 → fa_V → Prop} (CX : fa_CX G p s m args c cc nL own) (HX : fa_HX G n v r s H locs) (hM : fa_MI l G n y bytes maxL ret d (.ref (fa_B G + k) :: As) v r (fa_voi r post)) (hl : fa_lnV own index C y bytes maxL ret na)
    (hk : k < n) (hsh : fa_sh k = .inr ci) (hc : vwCl[ci]? = some (C, T, N)) (hn : As.length = na) (hst : st0 = As.reverse ++ .ref (fa_B G + k) :: rest) (hW : (rest.map fun v => v.category).sum ≤ 8) (hls : ls.size = nL) (hR : d + 1 ≤ R.frames ∧ 8 + (maxL + 11) + 34 * d ≤ R.locals) (hf : cells + 0 ≤ R.cells ∧ slots + 0 ≤ R.slots) (hdg : decode cc pc = .ok (.invokevirtual index, 3))
    (kk : ∀ (x : Int32) (v1 : fa_V) (H1 : Heap) (locs1 : List Loc), post x v1 → fa_HX G n v1 r s H1 locs1 → W p l e R s m args below meth c H1 locs1 cells slots Q (F0 m (pc + 3) ls (.int x :: rest))) : W p l e R s m args below meth c H locs cells slots Q (F0 m pc ls st0) := by
  refine fa_callVi CX HX hM hl hk hsh hc hn hst hW hls hR hf hdg (fun x v1 r1 H1 locs1 hp HX1 => ?_)
  obtain ⟨e3, hp⟩ := hp
  rw [show r1 = r from e3] at HX1
  exact kk x v1 H1 locs1 hp HX1
theorem fa_callVfp {post : UInt32 → Prop} (CX : fa_CX G p s m args c cc nL own) (HX : fa_HX G n v r s H locs) (hM : fa_MF l G n y bytes maxL d (.ref (fa_B G + k) :: As) v r (fun x w => w = (v, r) ∧ post x)) (hl : fa_lnV own index C y bytes maxL (some .float) na)
    (hk : k < n) (hsh : fa_sh k = .inr ci) (hc : vwCl[ci]? = some (C, T, N)) (hn : As.length = na) (hst : st0 = As.reverse ++ .ref (fa_B G + k) :: rest) (hW : (rest.map fun v => v.category).sum ≤ 8) (hls : ls.size = nL) (hR : d + 1 ≤ R.frames ∧ 8 + (maxL + 11) + 34 * d ≤ R.locals) (hf : cells + 0 ≤ R.cells ∧ slots + 0 ≤ R.slots) (hdg : decode cc pc = .ok (.invokevirtual index, 3))
    (kk : ∀ (x : UInt32) (H1 : Heap) (locs1 : List Loc), post x → fa_HX G n v r s H1 locs1 → W p l e R s m args below meth c H1 locs1 cells slots Q (F0 m (pc + 3) ls (.float x :: rest))) : W p l e R s m args below meth c H locs cells slots Q (F0 m pc ls st0) := by
  refine fa_callVf CX HX hM hl hk hsh hc hn hst hW hls hR hf hdg (fun x v1 r1 H1 locs1 hp HX1 => ?_)
  obtain ⟨e1, hp⟩ := hp
  obtain ⟨e2, e3⟩ := Prod.mk.inj e1
  rw [e2, e3] at HX1
  exact kk x H1 locs1 hp HX1
theorem fa_callVfu {post : UInt32 → fa_V → Prop} (CX : fa_CX G p s m args c cc nL own) (HX : fa_HX G n v r s H locs) (hM : fa_MF l G n y bytes maxL d (.ref (fa_B G + k) :: As) v r (fa_voi r post)) (hl : fa_lnV own index C y bytes maxL (some .float) na)
    (hk : k < n) (hsh : fa_sh k = .inr ci) (hc : vwCl[ci]? = some (C, T, N)) (hn : As.length = na) (hst : st0 = As.reverse ++ .ref (fa_B G + k) :: rest) (hW : (rest.map fun v => v.category).sum ≤ 8) (hls : ls.size = nL) (hR : d + 1 ≤ R.frames ∧ 8 + (maxL + 11) + 34 * d ≤ R.locals) (hf : cells + 0 ≤ R.cells ∧ slots + 0 ≤ R.slots) (hdg : decode cc pc = .ok (.invokevirtual index, 3))
    (kk : ∀ (x : UInt32) (v1 : fa_V) (H1 : Heap) (locs1 : List Loc), post x v1 → fa_HX G n v1 r s H1 locs1 → W p l e R s m args below meth c H1 locs1 cells slots Q (F0 m (pc + 3) ls (.float x :: rest))) : W p l e R s m args below meth c H locs cells slots Q (F0 m pc ls st0) := by
  refine fa_callVf CX HX hM hl hk hsh hc hn hst hW hls hR hf hdg (fun x v1 r1 H1 locs1 hp HX1 => ?_)
  obtain ⟨e3, hp⟩ := hp
  rw [show r1 = r from e3] at HX1
  exact kk x v1 H1 locs1 hp HX1
theorem fa_callVrp {post : Option Nat → Prop} (CX : fa_CX G p s m args c cc nL own) (HX : fa_HX G n v r s H locs) (hM : fa_MR l G n y bytes maxL ret d (.ref (fa_B G + k) :: As) v r (fun x w => w = (v, r) ∧ post x)) (hl : fa_lnV own index C y bytes maxL ret na)
    (hk : k < n) (hsh : fa_sh k = .inr ci) (hc : vwCl[ci]? = some (C, T, N)) (hn : As.length = na) (hst : st0 = As.reverse ++ .ref (fa_B G + k) :: rest) (hW : (rest.map fun v => v.category).sum ≤ 8) (hls : ls.size = nL) (hR : d + 1 ≤ R.frames ∧ 8 + (maxL + 11) + 34 * d ≤ R.locals) (hf : cells + 0 ≤ R.cells ∧ slots + 0 ≤ R.slots) (hdg : decode cc pc = .ok (.invokevirtual index, 3))
    (k0 : ∀ (H1 : Heap) (locs1 : List Loc), post none → fa_HX G n v r s H1 locs1 → W p l e R s m args below meth c H1 locs1 cells slots Q (F0 m (pc + 3) ls (.null :: rest))) (k1 : ∀ (q : Nat) (H1 : Heap) (locs1 : List Loc), post (some q) → fa_HX G n v r s H1 locs1 → W p l e R s m args below meth c H1 locs1 cells slots Q (F0 m (pc + 3) ls (.ref (fa_B G + q) :: rest))) : W p l e R s m args below meth c H locs cells slots Q (F0 m pc ls st0) := by
  refine fa_callVr CX HX hM hl hk hsh hc hn hst hW hls hR hf hdg (fun x v1 r1 H1 locs1 hp HX1 => ?_)
  obtain ⟨e1, hp⟩ := hp
  obtain ⟨e2, e3⟩ := Prod.mk.inj e1
  rw [e2, e3] at HX1
  cases x with
  | none => exact k0 H1 locs1 hp HX1
  | some q => exact k1 q H1 locs1 hp HX1
theorem fa_callVru {post : Option Nat → fa_V → Prop} (CX : fa_CX G p s m args c cc nL own) (HX : fa_HX G n v r s H locs) (hM : fa_MR l G n y bytes maxL ret d (.ref (fa_B G + k) :: As) v r (fa_voi r post)) (hl : fa_lnV own index C y bytes maxL ret na)
    (hk : k < n) (hsh : fa_sh k = .inr ci) (hc : vwCl[ci]? = some (C, T, N)) (hn : As.length = na) (hst : st0 = As.reverse ++ .ref (fa_B G + k) :: rest) (hW : (rest.map fun v => v.category).sum ≤ 8) (hls : ls.size = nL) (hR : d + 1 ≤ R.frames ∧ 8 + (maxL + 11) + 34 * d ≤ R.locals) (hf : cells + 0 ≤ R.cells ∧ slots + 0 ≤ R.slots) (hdg : decode cc pc = .ok (.invokevirtual index, 3))
    (k0 : ∀ (v1 : fa_V) (H1 : Heap) (locs1 : List Loc), post none v1 → fa_HX G n v1 r s H1 locs1 → W p l e R s m args below meth c H1 locs1 cells slots Q (F0 m (pc + 3) ls (.null :: rest))) (k1 : ∀ (q : Nat) (v1 : fa_V) (H1 : Heap) (locs1 : List Loc), post (some q) v1 → fa_HX G n v1 r s H1 locs1 → W p l e R s m args below meth c H1 locs1 cells slots Q (F0 m (pc + 3) ls (.ref (fa_B G + q) :: rest))) : W p l e R s m args below meth c H locs cells slots Q (F0 m pc ls st0) := by
  refine fa_callVr CX HX hM hl hk hsh hc hn hst hW hls hR hf hdg (fun x v1 r1 H1 locs1 hp HX1 => ?_)
  obtain ⟨e3, hp⟩ := hp
  rw [show r1 = r from e3] at HX1
  cases x with
  | none => exact k0 v1 H1 locs1 hp HX1
  | some q => exact k1 q v1 H1 locs1 hp HX1
theorem fa_callVvp (CX : fa_CX G p s m args c cc nL own) (HX : fa_HX G n v r s H locs) (hM : fa_MV l G n y bytes maxL d (.ref (fa_B G + k) :: As) v r (fun w => w = (v, r))) (hl : fa_lnV own index C y bytes maxL none na)
    (hk : k < n) (hsh : fa_sh k = .inr ci) (hc : vwCl[ci]? = some (C, T, N)) (hn : As.length = na) (hst : st0 = As.reverse ++ .ref (fa_B G + k) :: rest) (hW : (rest.map fun v => v.category).sum ≤ 8) (hls : ls.size = nL) (hR : d + 1 ≤ R.frames ∧ 8 + (maxL + 11) + 34 * d ≤ R.locals) (hf : cells + 0 ≤ R.cells ∧ slots + 0 ≤ R.slots) (hdg : decode cc pc = .ok (.invokevirtual index, 3))
    (kk : ∀ (H1 : Heap) (locs1 : List Loc), True → fa_HX G n v r s H1 locs1 → W p l e R s m args below meth c H1 locs1 cells slots Q (F0 m (pc + 3) ls rest)) : W p l e R s m args below meth c H locs cells slots Q (F0 m pc ls st0) := by
  refine fa_callVv CX HX hM hl hk hsh hc hn hst hW hls hR hf hdg (fun v1 r1 H1 locs1 hp HX1 => ?_)
  have e1 := hp
  obtain ⟨e2, e3⟩ := Prod.mk.inj e1
  rw [e2, e3] at HX1
  have hp := True.intro
  exact kk H1 locs1 hp HX1
theorem fa_callVvu {post : fa_V → Prop} (CX : fa_CX G p s m args c cc nL own) (HX : fa_HX G n v r s H locs) (hM : fa_MV l G n y bytes maxL d (.ref (fa_B G + k) :: As) v r (fa_vo r post)) (hl : fa_lnV own index C y bytes maxL none na)
    (hk : k < n) (hsh : fa_sh k = .inr ci) (hc : vwCl[ci]? = some (C, T, N)) (hn : As.length = na) (hst : st0 = As.reverse ++ .ref (fa_B G + k) :: rest) (hW : (rest.map fun v => v.category).sum ≤ 8) (hls : ls.size = nL) (hR : d + 1 ≤ R.frames ∧ 8 + (maxL + 11) + 34 * d ≤ R.locals) (hf : cells + 0 ≤ R.cells ∧ slots + 0 ≤ R.slots) (hdg : decode cc pc = .ok (.invokevirtual index, 3))
    (kk : ∀ (v1 : fa_V) (H1 : Heap) (locs1 : List Loc), post v1 → fa_HX G n v1 r s H1 locs1 → W p l e R s m args below meth c H1 locs1 cells slots Q (F0 m (pc + 3) ls rest)) : W p l e R s m args below meth c H locs cells slots Q (F0 m pc ls st0) := by
  refine fa_callVv CX HX hM hl hk hsh hc hn hst hW hls hR hf hdg (fun v1 r1 H1 locs1 hp HX1 => ?_)
  obtain ⟨e3, hp⟩ := hp
  rw [show r1 = r from e3] at HX1
  exact kk v1 H1 locs1 hp HX1
theorem fa_callSip {post : Int32 → Prop} (CX : fa_CX G p s m args c cc nL own) (HX : fa_HX G n v r s H locs) (hM : fa_MI l G n y bytes maxL ret d As v r (fun x w => w = (v, r) ∧ post x)) (hl : fa_lnS own index y bytes maxL ret na)
    (hn : As.length = na) (hst : st0 = As.reverse ++ rest) (hW : (rest.map fun v => v.category).sum ≤ 8) (hls : ls.size = nL) (hR : d + 1 ≤ R.frames ∧ 8 + (maxL + 11) + 34 * d ≤ R.locals) (hf : cells + 0 ≤ R.cells ∧ slots + 0 ≤ R.slots) (hdg : decode cc pc = .ok (.invokestatic index, 3))
    (kk : ∀ (x : Int32) (H1 : Heap) (locs1 : List Loc), post x → fa_HX G n v r s H1 locs1 → W p l e R s m args below meth c H1 locs1 cells slots Q (F0 m (pc + 3) ls (.int x :: rest))) : W p l e R s m args below meth c H locs cells slots Q (F0 m pc ls st0) := by
  refine fa_callSi CX HX hM hl hn hst hW hls hR hf hdg (fun x v1 r1 H1 locs1 hp HX1 => ?_)
  obtain ⟨e1, hp⟩ := hp
  obtain ⟨e2, e3⟩ := Prod.mk.inj e1
  rw [e2, e3] at HX1
  exact kk x H1 locs1 hp HX1
theorem fa_callSiu {post : Int32 → fa_V → Prop} (CX : fa_CX G p s m args c cc nL own) (HX : fa_HX G n v r s H locs) (hM : fa_MI l G n y bytes maxL ret d As v r (fa_voi r post)) (hl : fa_lnS own index y bytes maxL ret na)
    (hn : As.length = na) (hst : st0 = As.reverse ++ rest) (hW : (rest.map fun v => v.category).sum ≤ 8) (hls : ls.size = nL) (hR : d + 1 ≤ R.frames ∧ 8 + (maxL + 11) + 34 * d ≤ R.locals) (hf : cells + 0 ≤ R.cells ∧ slots + 0 ≤ R.slots) (hdg : decode cc pc = .ok (.invokestatic index, 3))
    (kk : ∀ (x : Int32) (v1 : fa_V) (H1 : Heap) (locs1 : List Loc), post x v1 → fa_HX G n v1 r s H1 locs1 → W p l e R s m args below meth c H1 locs1 cells slots Q (F0 m (pc + 3) ls (.int x :: rest))) : W p l e R s m args below meth c H locs cells slots Q (F0 m pc ls st0) := by
  refine fa_callSi CX HX hM hl hn hst hW hls hR hf hdg (fun x v1 r1 H1 locs1 hp HX1 => ?_)
  obtain ⟨e3, hp⟩ := hp
  rw [show r1 = r from e3] at HX1
  exact kk x v1 H1 locs1 hp HX1
theorem fa_callSvp (CX : fa_CX G p s m args c cc nL own) (HX : fa_HX G n v r s H locs) (hM : fa_MV l G n y bytes maxL d As v r (fun w => w = (v, r))) (hl : fa_lnS own index y bytes maxL none na)
    (hn : As.length = na) (hst : st0 = As.reverse ++ rest) (hW : (rest.map fun v => v.category).sum ≤ 8) (hls : ls.size = nL) (hR : d + 1 ≤ R.frames ∧ 8 + (maxL + 11) + 34 * d ≤ R.locals) (hf : cells + 0 ≤ R.cells ∧ slots + 0 ≤ R.slots) (hdg : decode cc pc = .ok (.invokestatic index, 3))
    (kk : ∀ (H1 : Heap) (locs1 : List Loc), True → fa_HX G n v r s H1 locs1 → W p l e R s m args below meth c H1 locs1 cells slots Q (F0 m (pc + 3) ls rest)) : W p l e R s m args below meth c H locs cells slots Q (F0 m pc ls st0) := by
  refine fa_callSv CX HX hM hl hn hst hW hls hR hf hdg (fun v1 r1 H1 locs1 hp HX1 => ?_)
  have e1 := hp
  obtain ⟨e2, e3⟩ := Prod.mk.inj e1
  rw [e2, e3] at HX1
  have hp := True.intro
  exact kk H1 locs1 hp HX1
theorem fa_callSvu {post : fa_V → Prop} (CX : fa_CX G p s m args c cc nL own) (HX : fa_HX G n v r s H locs) (hM : fa_MV l G n y bytes maxL d As v r (fa_vo r post)) (hl : fa_lnS own index y bytes maxL none na)
    (hn : As.length = na) (hst : st0 = As.reverse ++ rest) (hW : (rest.map fun v => v.category).sum ≤ 8) (hls : ls.size = nL) (hR : d + 1 ≤ R.frames ∧ 8 + (maxL + 11) + 34 * d ≤ R.locals) (hf : cells + 0 ≤ R.cells ∧ slots + 0 ≤ R.slots) (hdg : decode cc pc = .ok (.invokestatic index, 3))
    (kk : ∀ (v1 : fa_V) (H1 : Heap) (locs1 : List Loc), post v1 → fa_HX G n v1 r s H1 locs1 → W p l e R s m args below meth c H1 locs1 cells slots Q (F0 m (pc + 3) ls rest)) : W p l e R s m args below meth c H locs cells slots Q (F0 m pc ls st0) := by
  refine fa_callSv CX HX hM hl hn hst hW hls hR hf hdg (fun v1 r1 H1 locs1 hp HX1 => ?_)
  obtain ⟨e3, hp⟩ := hp
  rw [show r1 = r from e3] at HX1
  exact kk v1 H1 locs1 hp HX1
theorem fa_callSNip {post : Int32 → Prop} (CX : fa_CX G p s m args c cc nL own) (HX : fa_HX G n v r s H locs) (hM : fa_MI l G n y bytes maxL ret d As v r (fun x w => w = (v, r) ∧ post x)) (hq : (own, index, y, RX6) ∈ fa_nM) (hl : Cond.static y ∈ fa_tbl ∧ Cond.initialized y.cls ∈ fa_tbl ∧ Cond.code y bytes maxL ret ∈ fa_tbl ∧ (y.cls ≠ "java/lang/invoke/MethodHandle" ∧ y.cls ≠ "java/lang/invoke/VarHandle" ∧ (parseMethodDescriptor y.desc).map (fun d => d.parameters.length) = some na))
    (hn : As.length = na) (hst : st0 = As.reverse ++ rest) (hW : (rest.map fun v => v.category).sum ≤ 8) (hls : ls.size = nL) (hR : d + 1 ≤ R.frames ∧ 8 + (maxL + 11) + 34 * d ≤ R.locals) (hf : cells + 0 ≤ R.cells ∧ slots + 0 ≤ R.slots) (hdg : decode cc pc = .ok (.invokestatic index, 3))
    (kk : ∀ (x : Int32) (H1 : Heap) (locs1 : List Loc), post x → fa_HX G n v r s H1 locs1 → W p l e R s m args below meth c H1 locs1 cells slots Q (F0 m (pc + 3) ls (.int x :: rest))) : W p l e R s m args below meth c H locs cells slots Q (F0 m pc ls st0) := by
  refine fa_callSNi CX HX hM hq hl hn hst hW hls hR hf hdg (fun x v1 r1 H1 locs1 hp HX1 => ?_)
  obtain ⟨e1, hp⟩ := hp
  obtain ⟨e2, e3⟩ := Prod.mk.inj e1
  rw [e2, e3] at HX1
  exact kk x H1 locs1 hp HX1
theorem fa_callSNiu {post : Int32 → fa_V → Prop} (CX : fa_CX G p s m args c cc nL own) (HX : fa_HX G n v r s H locs) (hM : fa_MI l G n y bytes maxL ret d As v r (fa_voi r post)) (hq : (own, index, y, RX6) ∈ fa_nM) (hl : Cond.static y ∈ fa_tbl ∧ Cond.initialized y.cls ∈ fa_tbl ∧ Cond.code y bytes maxL ret ∈ fa_tbl ∧ (y.cls ≠ "java/lang/invoke/MethodHandle" ∧ y.cls ≠ "java/lang/invoke/VarHandle" ∧ (parseMethodDescriptor y.desc).map (fun d => d.parameters.length) = some na))
    (hn : As.length = na) (hst : st0 = As.reverse ++ rest) (hW : (rest.map fun v => v.category).sum ≤ 8) (hls : ls.size = nL) (hR : d + 1 ≤ R.frames ∧ 8 + (maxL + 11) + 34 * d ≤ R.locals) (hf : cells + 0 ≤ R.cells ∧ slots + 0 ≤ R.slots) (hdg : decode cc pc = .ok (.invokestatic index, 3))
    (kk : ∀ (x : Int32) (v1 : fa_V) (H1 : Heap) (locs1 : List Loc), post x v1 → fa_HX G n v1 r s H1 locs1 → W p l e R s m args below meth c H1 locs1 cells slots Q (F0 m (pc + 3) ls (.int x :: rest))) : W p l e R s m args below meth c H locs cells slots Q (F0 m pc ls st0) := by
  refine fa_callSNi CX HX hM hq hl hn hst hW hls hR hf hdg (fun x v1 r1 H1 locs1 hp HX1 => ?_)
  obtain ⟨e3, hp⟩ := hp
  rw [show r1 = r from e3] at HX1
  exact kk x v1 H1 locs1 hp HX1
end CALLS
theorem fa_cp_row {k0 k1 sp dp cnt : Nat} {v1 : fa_V} (h : v1 = fun k i => if k = k1 then va_cpy (v k0) (v k1) sp dp cnt i else v k i) : v1 k1 = va_cpy (v k0) (v k1) sp dp cnt ∧ ∀ k, k ≠ k1 → v1 k = v k := by
  subst h
  refine ⟨by funext i; simp, fun k hk => by funext i; simp [hk]⟩
/-- System.arraycopy between two int arrays -/
theorem fa_copy {index k0 k1 n0 n1 sp dp cnt : Nat} (CX : fa_CX G p s m args c cc nL own) (HX : fa_HX G n v r s H locs) (hlink : Cond.methodLink own index arraycopyName ∈ fa_tbl) (hnat : Cond.native arraycopyName ∈ fa_tbl) (hstat : Cond.static arraycopyName ∈ fa_tbl) (hini : Cond.initialized "java/lang/System" ∈ fa_tbl) (hls : ls.size = nL)
    (hk0 : k0 < n) (hsh0 : fa_sh k0 = .inl (0, n0)) (hk1 : k1 < n) (hsh1 : fa_sh k1 = .inl (0, n1)) (h4 : sp + cnt ≤ n0) (h5 : dp + cnt ≤ n1) (h6 : n0 < 2 ^ 31) (h7 : n1 < 2 ^ 31)
    (hframes : 1 ≤ R.frames) (hlocals : (rest.map fun v => v.category).sum + (nativeFrameWords "java/lang/System" "arraycopy" 5 + 11) ≤ R.locals) (hdg : decode cc pc = .ok (.invokestatic index, 3))
    (kk : ∀ (H1 : Heap) (locs1 : List Loc) (v1 : fa_V), (v1 = fun k i => if k = k1 then va_cpy (v k0) (v k1) sp dp cnt i else v k i) → fa_HX G n v1 r s H1 locs1 → W p l e R s m args below meth c H1 locs1 cells slots Q (F0 m (pc + 3) ls rest)) : W p l e R s m args below meth c H locs cells slots Q (F0 m pc ls (.int (nI cnt) :: .int (nI dp) :: .ref (fa_B G + k1) :: .int (nI sp) :: .ref (fa_B G + k0) :: rest)) := by
  obtain ⟨⟨hx, hb, hml, hown, hts⟩, hE⟩ := CX
  have c1 : (nI sp).toNatClampNeg = sp := nI_clamp (by omega)
  have c2 : (nI dp).toNatClampNeg = dp := nI_clamp (by omega)
  have c3 : (nI cnt).toNatClampNeg = cnt := nI_clamp (by omega)
  refine va_copyi hx hb (hml.trans hls.symm) hown (hts _ hlink) (hts _ hnat) (hts _ hstat) (hts _ hini) hE.1 HX.1 fa_w_D HX.2 k0 k1 0 0 (fa_w_arr hk0 hsh0 (by decide)) (fa_w_arr hk1 hsh1 (by decide)) rfl rfl rfl (nI_pos (by omega)) (nI_pos (by omega)) (nI_pos (by omega)) (by rw [c1, c3]; exact h4) (by rw [c2, c3]; exact h5) (fun _ _ => rfl) hframes hlocals hdg (fun H1 locs1 hP _ hS => ?_)
  rw [c1, c2, c3] at hP
  have e := fa_w_set (G := G) (n := n) (k := k1) (v := v) (v1 := fun k i => if k = k1 then va_cpy (v k0) (v k1) sp dp cnt i else v k i) (r := r) (r1 := r) (e := .inl (fa_dA G 0, n1, .inl (va_cpy (v k0) (v k1) sp dp cnt)))
    (by rw [hsh1]; simp [fa_cell]) (fun j hj => ⟨by funext i; simp [hj], rfl⟩)
  rw [e] at hP
  exact kk H1 locs1 _ rfl ⟨hP, hS⟩
end FAS
/-! WHERE THINGS STAND: the States' bases, shapes, the references that never change -/
def fa_bs : List Nat := [1, 57, 115, 171, 227, 283, 339]
theorem fa_shb : ∀ b ∈ fa_bs, ∀ o, o < 56 → fa_sh (b + o) = fa_shS o := by decide +kernel
theorem fa_bsle : ∀ b ∈ fa_bs, b + 56 ≤ 395 := by decide
theorem fa_lt {b n : Nat} (hb : b ∈ fa_bs) (o : Nat) (ho : o < 56) (hn : 397 ≤ n) : b + o < n := by
  have := fa_bsle b hb
  omega
theorem fa_s0 {b : Nat} (hb : b ∈ fa_bs) : fa_sh b = .inr 3 := fa_shb b hb 0 (by decide)
theorem fa_s1 {b : Nat} (hb : b ∈ fa_bs) : fa_sh (b + 1) = .inl (3, 24) := fa_shb b hb 1 (by decide)
theorem fa_s2 {b : Nat} (hb : b ∈ fa_bs) : fa_sh (b + 2) = .inr 2 := fa_shb b hb 2 (by decide)
theorem fa_s3 {b : Nat} (hb : b ∈ fa_bs) : fa_sh (b + 3) = .inl (0, 8) := fa_shb b hb 3 (by decide)
theorem fa_s4 {b : Nat} (hb : b ∈ fa_bs) : fa_sh (b + 4) = .inl (0, 8) := fa_shb b hb 4 (by decide)
theorem fa_s5 {b : Nat} (hb : b ∈ fa_bs) : fa_sh (b + 5) = .inr 5 := fa_shb b hb 5 (by decide)
theorem fa_s6 {b : Nat} (hb : b ∈ fa_bs) : fa_sh (b + 6) = .inl (0, 60) := fa_shb b hb 6 (by decide)
theorem fa_s7 {b : Nat} (hb : b ∈ fa_bs) : fa_sh (b + 7) = .inl (0, 7) := fa_shb b hb 7 (by decide)
theorem fa_shO : ∀ j, j < 24 → fa_shS (8 + 2 * j) = .inr 4 ∧ fa_shS (9 + 2 * j) = .inl (0, 8) := by decide +kernel
theorem fa_sf {b j : Nat} (hb : b ∈ fa_bs) (hj : j < 24) : fa_sh (b + 8 + 2 * j) = .inr 4 := by
  have h := fa_shb b hb (8 + 2 * j) (by omega)
  rw [(fa_shO j hj).1] at h
  rw [← h]
  congr 1
  omega
theorem fa_se {b j : Nat} (hb : b ∈ fa_bs) (hj : j < 24) : fa_sh (b + 9 + 2 * j) = .inl (0, 8) := by
  have h := fa_shb b hb (9 + 2 * j) (by omega)
  rw [(fa_shO j hj).2] at h
  rw [← h]
  congr 1
  omega
theorem fa_ltf {b j n : Nat} (hb : b ∈ fa_bs) (hj : j < 24) (hn : 397 ≤ n) : b + 8 + 2 * j < n := by
  have := fa_bsle b hb
  omega
theorem fa_lte {b j n : Nat} (hb : b ∈ fa_bs) (hj : j < 24) (hn : 397 ≤ n) : b + 9 + 2 * j < n := by
  have := fa_bsle b hb
  omega
/-- the references of the State at b -/
def fa_RS (r : fa_R) (b : Nat) : Prop := r b 8 = some (b + 1) ∧ r b 9 = some (b + 2) ∧ r b 10 = some (b + 5) ∧ r b 11 = some (b + 7) ∧ r (b + 2) 1 = some (b + 3) ∧ r (b + 2) 2 = some (b + 4) ∧ r (b + 5) 1 = some (b + 6) ∧ (∀ p, p < 24 → ∃ j, j < 24 ∧ r (b + 1) p = some (b + 8 + 2 * j)) ∧ ∀ j, j < 24 → r (b + 8 + 2 * j) 7 = some (b + 9 + 2 * j)
/-- the references of the archive -/
def fa_RA (r : fa_R) : Prop := r 0 0 = some 1 ∧ r 0 1 = some 57 ∧ r 0 2 = some 113 ∧ r 0 3 = some 395 ∧ r 113 1 = some 114 ∧ r 395 0 = some 396
/-- the references of the reference -/
def fa_RM (r : fa_R) : Prop := r 397 0 = some 398 ∧ r 397 1 = some 399 ∧ r 397 2 = some 400 ∧ r 397 3 = some 401 ∧ r 397 4 = some 402 ∧ r 397 5 = some 403 ∧ r 397 6 = some 404 ∧ r 397 7 = some 405
/-- rows outside lo .. hi-1 stay -/
def fa_fr (lo hi : Nat) (v v1 : fa_V) : Prop := ∀ k, ¬ (lo ≤ k ∧ k < hi) → v1 k = v k
theorem fa_fr.rf {lo hi : Nat} {v : fa_V} : fa_fr lo hi v v := fun _ _ => rfl
theorem fa_fr.u {lo hi k i : Nat} {x : Int32} {v v1 : fa_V} (h : fa_fr lo hi v v1) (hk : lo ≤ k ∧ k < hi) : fa_fr lo hi v (fa_u v1 k i x) := fun j hj => by
  have hne : j ≠ k := fun e => hj (by rw [e]; exact hk)
  rw [fa_u_k _ _ hne]
  exact h j hj
theorem fa_fr.tr {lo hi : Nat} {v v1 v2 : fa_V} (h : fa_fr lo hi v v1) (h2 : fa_fr lo hi v1 v2) : fa_fr lo hi v v2 := fun k hk => (h2 k hk).trans (h k hk)
theorem fa_fr.wide {lo hi lo1 hi1 : Nat} {v v1 : fa_V} (h : fa_fr lo hi v v1) (h1 : lo1 ≤ lo) (h2 : hi ≤ hi1) : fa_fr lo1 hi1 v v1 := fun k hk => h k (fun q => hk ⟨by omega, by omega⟩)
theorem fa_fr.cp {lo hi k1 : Nat} {f : Nat → Int32} {v v1 : fa_V} (h : fa_fr lo hi v v1) (hk : lo ≤ k1 ∧ k1 < hi) : fa_fr lo hi v (fun k i => if k = k1 then f i else v1 k i) := fun j hj => by
  have hne : j ≠ k1 := fun e => hj (by rw [e]; exact hk)
  funext i
  show (if j = k1 then f i else v1 j i) = v j i
  rw [if_neg hne, h j hj]
theorem fa_cpn : Cond.native arraycopyName ∈ fa_tbl := fa_in 123 (by decide +kernel) (by decide +kernel)
theorem fa_cps : Cond.static arraycopyName ∈ fa_tbl := fa_in 122 (by decide +kernel) (by decide +kernel)
theorem fa_cpi : Cond.initialized "java/lang/System" ∈ fa_tbl := fa_in 6 (by decide +kernel) (by decide +kernel)
theorem fa_cpl_X3_39 : Cond.methodLink RX3 39 arraycopyName ∈ fa_tbl := fa_in 121 (by decide +kernel) (by decide +kernel)
theorem fa_cpl_X4_43 : Cond.methodLink RX4 43 arraycopyName ∈ fa_tbl := fa_in 259 (by decide +kernel) (by decide +kernel)
theorem fa_cpl_X2_22 : Cond.methodLink RX2 22 arraycopyName ∈ fa_tbl := fa_in 264 (by decide +kernel) (by decide +kernel)
theorem fa_cpl_X5_19 : Cond.methodLink RX5 19 arraycopyName ∈ fa_tbl := fa_in 269 (by decide +kernel) (by decide +kernel)
section FAT
variable {p : Program} {l : Launch} {e : Env} {R : Room} {s : State} {m : MethodId} {args : Array Value} {below : List Frame} {meth : Method} {c : Code} {H : Heap} {locs : List Loc} {cells slots : Nat} {Q : State → Prop}
variable {G : fa_G} {n : Nat} {v : fa_V} {r : fa_R} {cc : ByteArray} {nL : Nat} {own : String} {pc : Nat} {ls : Array Slot} {rest : List Value}
theorem fa_alen {k len : Nat} (CX : fa_CX G p s m args c cc nL own) (HX : fa_HX G n v r s H locs) (hk : k < n) (hsh : fa_sh k = .inl (0, len)) (hdg : decode cc pc = .ok (.arraylength, 1))
    (kk : W p l e R s m args below meth c H locs cells slots Q (F0 m (pc + 1) ls (.int (nI len) :: rest))) : W p l e R s m args below meth c H locs cells slots Q (F0 m pc ls (.ref (fa_B G + k) :: rest)) :=
  va_alen CX.1.1 CX.1.2.1 CX.2.1 HX.1 k 0 (fa_w_arr hk hsh (by decide)) rfl rfl hdg kk
/-- a static array of the archive, read by a nest mate or by itself -/
theorem fa_getst {j index : Nat} (CX : fa_CX G p s m args c cc nL own) (HX : fa_HX G n v r s H locs) (hj : j < 3) (hq : (own, index, RX6, fa_stN j, "[I", RX6) ∈ fa_nF) (hdg : decode cc pc = .ok (.getstatic index, 3))
    (kk : W p l e R s m args below meth c H locs cells slots Q (F0 m (pc + 3) ls (.ref (fa_st G j) :: rest))) : W p l e R s m args below meth c H locs cells slots Q (F0 m pc ls rest) :=
  va_getsN CX.1.1 CX.1.2.1 (CX.2.2.2.2.2.2.1 j hj).1 HX.2 CX.1.2.2.2.1 (va_Nw.use rfl (CX.2.2.2.1 _ hq)) (fun _ h => h) hdg kk
theorem fa_sald {j i : Nat} (CX : fa_CX G p s m args c cc nL own) (HX : fa_HX G n v r s H locs) (hj : j < 3) (hi : i < 7) (hdg : decode cc pc = .ok (.iaload, 1))
    (kk : W p l e R s m args below meth c H locs cells slots Q (F0 m (pc + 1) ls (.int (fa_stV j i) :: rest))) : W p l e R s m args below meth c H locs cells slots Q (F0 m pc ls (.int (nI i) :: .ref (fa_st G j) :: rest)) := by
  obtain ⟨-, hX, hb⟩ := CX.2.2.2.2.2.2.1 j hj
  refine va_sld CX.1.1 CX.1.2.1 hX (Nat.lt_of_lt_of_le hb CX.2.2.2.2.2.2.2) (Nat.not_le.mpr hb) HX.2 (fa_ix hi (by decide)) hdg ?_
  rw [nI_clamp (by omega)]
  exact kk
/-- System.arraycopy out of a static array -/
theorem fa_copyS {index j k1 n1 sp dp cnt : Nat} (CX : fa_CX G p s m args c cc nL own) (HX : fa_HX G n v r s H locs) (hlink : Cond.methodLink own index arraycopyName ∈ fa_tbl) (hnat : Cond.native arraycopyName ∈ fa_tbl) (hstat : Cond.static arraycopyName ∈ fa_tbl) (hini : Cond.initialized "java/lang/System" ∈ fa_tbl) (hls : ls.size = nL) (hj : j < 3)
    (hk1 : k1 < n) (hsh1 : fa_sh k1 = .inl (0, n1)) (h4 : sp + cnt ≤ 7) (h5 : dp + cnt ≤ n1) (h7 : n1 < 2 ^ 31)
    (hframes : 1 ≤ R.frames) (hlocals : (rest.map fun v => v.category).sum + (nativeFrameWords "java/lang/System" "arraycopy" 5 + 11) ≤ R.locals) (hdg : decode cc pc = .ok (.invokestatic index, 3))
    (kk : ∀ (H1 : Heap) (locs1 : List Loc) (v1 : fa_V), (v1 = fun k i => if k = k1 then va_cpy (fa_stV j) (v k1) sp dp cnt i else v k i) → fa_HX G n v1 r s H1 locs1 → W p l e R s m args below meth c H1 locs1 cells slots Q (F0 m (pc + 3) ls rest)) : W p l e R s m args below meth c H locs cells slots Q (F0 m pc ls (.int (nI cnt) :: .int (nI dp) :: .ref (fa_B G + k1) :: .int (nI sp) :: .ref (fa_st G j) :: rest)) := by
  obtain ⟨-, hX, hbb⟩ := CX.2.2.2.2.2.2.1 j hj
  obtain ⟨⟨hx, hb, hml, hown, hts⟩, hE⟩ := CX
  have c1 : (nI sp).toNatClampNeg = sp := nI_clamp (by omega)
  have c2 : (nI dp).toNatClampNeg = dp := nI_clamp (by omega)
  have c3 : (nI cnt).toNatClampNeg = cnt := nI_clamp (by omega)
  refine va_copyx hx hb (hml.trans hls.symm) hown (hts _ hlink) (hts _ hnat) (hts _ hstat) (hts _ hini) hE.1 HX.1 fa_w_D HX.2 hX (Nat.lt_of_lt_of_le hbb hE.2.2.2.2.2.2) (Nat.not_le.mpr hbb) k1 0 (fa_w_arr hk1 hsh1 (by decide)) rfl (nI_pos (by omega)) (nI_pos (by omega)) (nI_pos (by omega)) (by rw [c1, c3]; exact h4) (by rw [c2, c3]; exact h5) hframes hlocals hdg (fun H1 locs1 hP _ hS => ?_)
  rw [c1, c2, c3] at hP
  have e := fa_w_set (G := G) (n := n) (k := k1) (v := v) (v1 := fun k i => if k = k1 then va_cpy (fa_stV j) (v k1) sp dp cnt i else v k i) (r := r) (r1 := r) (e := .inl (fa_dA G 0, n1, .inl (va_cpy (fa_stV j) (v k1) sp dp cnt)))
    (by rw [hsh1]; simp [fa_cell]) (fun j hj => ⟨by funext i; simp [hj], rfl⟩)
  rw [e] at hP
  exact kk H1 locs1 _ rfl ⟨hP, hS⟩
end FAT
theorem fa_fill1 {v v1 : fa_V} {k i : Nat} {x : Int32} (h : ∀ j, j < i → v k j = x) (e : v1 = fa_u v k i x) : ∀ j, j < i + 1 → v1 k j = x := fun j hj => by
  rw [e]
  by_cases q : j = i
  · rw [q, fa_u_s]
  · rw [fa_u_n _ _ (fun z => q z.2)]
    exact h j (by omega)
theorem fa_fill2 {v v0 v1 : fa_V} {k i : Nat} {x : Int32} (h : ∀ j, ¬ j < i → v k j = v0 k j) (e : v1 = fa_u v k i x) : ∀ j, ¬ j < i + 1 → v1 k j = v0 k j := fun j hj => by
  rw [e, fa_u_n _ _ (fun z => hj (by omega))]
  exact h j (by omega)
theorem fa_add300 {a : Int32} (h : a ≤ nI 50) : nI 0 + a ≤ nI 300 := by
  have e : nI 0 + a = a := by
    show (0 : Int32) + a = a
    exact Int32.zero_add a
  rw [e]
  exact Int32.le_trans h (by decide)
theorem fa_add9999 {a : Int32} (h : a ≤ nI 400) : nI 0 + a ≤ nI 9999 := by
  have e : nI 0 + a = a := by
    show (0 : Int32) + a = a
    exact Int32.zero_add a
  rw [e]
  exact Int32.le_trans h (by decide)
theorem fa_natIn {x : Int32} {N : Nat} (hN : N < 2 ^ 31) (h1 : ¬ x < nI 1) (h2 : x ≤ nI N) : ∃ k : Nat, 1 ≤ k ∧ k ≤ N ∧ x = nI k := by
  have a1 : (1 : Int) ≤ x.toInt := by
    have := Int32.not_lt.mp h1
    have := Int32.le_iff_toInt_le.mp this
    rw [nI_toInt (by decide)] at this
    exact this
  have a2 : x.toInt ≤ (N : Int) := by
    have := Int32.le_iff_toInt_le.mp h2
    rw [nI_toInt hN] at this
    exact this
  refine ⟨x.toInt.toNat, by omega, by omega, ?_⟩
  apply Int32.toInt_inj.mp
  rw [nI_toInt (by omega)]
  omega
theorem fa_ix7 {x : Int32} {N : Nat} (hN : N < 2 ^ 31) (h : ¬ (x < 0 ∨ ¬ x < nI N)) : ∃ j : Nat, j < N ∧ x = nI j := by
  rcases pk_ix x hN with q | q | q
  · exact absurd (Or.inl q) h
  · exact absurd (Or.inr (Int32.not_lt.mpr q)) h
  · exact q
theorem fa_ifn {C : Prop} {d : Decidable C} {x : Int32} (h : x = @ite _ C d (nI 1) (nI 0)) (c : x = 0) : ¬ C := by
  intro q
  rw [if_pos q] at h
  rw [h] at c
  exact absurd c (by decide)
theorem fa_ift {C : Prop} {d : Decidable C} {x : Int32} (h : x = @ite _ C d (nI 1) (nI 0)) (c : ¬ x = 0) : C := by
  refine Decidable.byContradiction (fun q => ?_)
  rw [if_neg q] at h
  exact c h
/-- the class's memory as the constructor leaves it -/
def fa_FV (v : fa_V) : Prop := v 113 0 = 0 ∧ (∀ i, i < 8 → v 1 i = 0) ∧ v (1 + 2) 0 = 0 ∧ v (1 + 5) 0 = 0 ∧ (∀ i, i < 7 → v (1 + 7) i = fa_stV 0 i) ∧ v 395 1 = 0 ∧ v 0 6 = 0
theorem fa_set_eq {f : Nat → Int32} (a1 a2 : Int32) (h : ∀ j, j < 7 → f j = fa_stV 0 j) : (if a1 < 0 ∨ ¬ a1 < nI 7 then (-1 : Int32) else if a2 < fa_stV 1 a1.toNatClampNeg ∨ ¬ a2 ≤ fa_stV 2 a1.toNatClampNeg then (-2 : Int32) else f a1.toNatClampNeg) = (if a1 < 0 ∨ ¬ a1 < nI 7 then (-1 : Int32) else if a2 < fa_stV 1 a1.toNatClampNeg ∨ ¬ a2 ≤ fa_stV 2 a1.toNatClampNeg then (-2 : Int32) else fa_stV 0 a1.toNatClampNeg) := by
  by_cases q : a1 < 0 ∨ ¬ a1 < nI 7
  · rw [if_pos q, if_pos q]
  · obtain ⟨j, hj, e⟩ := fa_ix7 (by decide) q
    rw [if_neg q, if_neg q, h a1.toNatClampNeg (by rw [e, nI_clamp (by omega)]; exact hj)]
/-- the reference's memory as the constructor leaves it -/
def fa_FM (v : fa_V) : Prop := (∀ i, 7 ≤ i → i < 17 → v 398 i = 0) ∧ (∀ i, i < 7 → v 398 i = fa_stV 0 i) ∧ v 397 8 = 0 ∧ v 397 9 = 0 ∧ v 397 10 = 0
theorem fa_ltN {a b : Nat} (ha : a < 2 ^ 31) (hb : b < 2 ^ 31) (c : ¬ nI b ≤ nI a) : a < b := Nat.lt_of_not_le (fun q => c ((nI_leI hb ha).mpr q))
theorem fa_in0 {C : Prop} {d : Decidable C} {x : Int32} (h : x = @ite _ C d (nI 0) (nI 1)) (c : x = 0) : C := by
  refine Decidable.byContradiction (fun q => ?_)
  rw [if_neg q] at h
  rw [h] at c
  exact absurd c (by decide)
theorem fa_in1 {C : Prop} {d : Decidable C} {x : Int32} (h : x = @ite _ C d (nI 0) (nI 1)) (c : ¬ x = 0) : ¬ C := by
  intro q
  rw [if_pos q] at h
  exact c h
theorem fa_ltS {a : Int32} {k : Nat} (hk : k + 1 < 2 ^ 31) : nI k < a ↔ ¬ a < nI (k + 1) := by
  constructor
  · intro h q
    have h1 := Int32.lt_iff_toInt_lt.mp h
    have h2 := Int32.lt_iff_toInt_lt.mp q
    rw [nI_toInt (by omega)] at h1 h2
    omega
  · intro h
    have h2 := Int32.le_iff_toInt_le.mp (Int32.not_lt.mp h)
    apply Int32.lt_iff_toInt_lt.mpr
    rw [nI_toInt (by omega)] at h2 ⊢
    omega
theorem fa_seven {j : Nat} (h : j < 7) : j = 0 ∨ j = 1 ∨ j = 2 ∨ j = 3 ∨ j = 4 ∨ j = 5 ∨ j = 6 := by omega
theorem fa_inno {a h : Int32} (e : h = -1) (q : ¬ (a < nI 0 ∨ h < a)) : False := by
  have h1 : ¬ a < 0 := fun z => q (Or.inl z)
  have h2 : ¬ h < a := fun z => q (Or.inr z)
  rw [e] at h2
  have h3 := Int32.le_iff_toInt_le.mp (Int32.not_lt.mp h2)
  have h4 := Int32.le_iff_toInt_le.mp (Int32.not_lt.mp h1)
  have e1 : (-1 : Int32).toInt = -1 := by decide
  have e0 : (0 : Int32).toInt = 0 := by decide
  rw [e1] at h3
  rw [e0] at h4
  omega
theorem fa_cpy1 {v v0 v1 : fa_V} {k1 k2 k : Nat} (h : ∀ i, i < k → v k1 i = v0 k2 i) (hne : k2 ≠ k1) (hf : fa_fr k1 (k1 + 1) v0 v) (e : v1 = fa_u v k1 k (v k2 k)) : ∀ i, i < k + 1 → v1 k1 i = v0 k2 i := fun i hi => by
  rw [e]
  by_cases q : i = k
  · rw [q, fa_u_s, hf k2 (by omega)]
  · rw [fa_u_n _ _ (fun z => q z.2)]
    exact h i (by omega)
theorem fa_addn {a1 a2 : Int32} (h1 : ¬ (a1 < nI 0 ∨ nI 4 < a1)) (h2 : ¬ (a2 < nI 1 ∨ nI 50 < a2)) : ¬ (a1 < 0 ∨ nI 4 < a1 ∨ a2 < nI 1 ∨ ¬ a2 ≤ nI 50) := fun z => by
  rcases z with z | z | z | z
  · exact h1 (Or.inl z)
  · exact h1 (Or.inr z)
  · exact h2 (Or.inl z)
  · exact h2 (Or.inr (Int32.not_le.mp z))
theorem fa_set6 {a : Int32} (h : ¬ (a < nI 0 ∨ nI 6 < a)) : ¬ (a < 0 ∨ ¬ a < nI 7) := fun z => by
  rcases z with z | z
  · exact h (Or.inl z)
  · exact h (Or.inr ((fa_ltS (by decide)).mpr z))
theorem fa_set6n {a : Int32} (h : a < nI 0 ∨ nI 6 < a) : a < 0 ∨ ¬ a < nI 7 := by
  rcases h with z | z
  · exact Or.inl z
  · exact Or.inr ((fa_ltS (by decide)).mp z)
theorem fa_ip {a1 a2 : Int32} (h1 : ¬ (a1 < nI 1 ∨ nI 400 < a1)) (h2 : ¬ (a2 < nI 0 ∨ nI 2 < a2)) : ¬ (a1 < nI 1 ∨ nI 400 < a1 ∨ a2 < 0 ∨ ¬ a2 ≤ nI 2) := fun z => by
  rcases z with z | z | z | z
  · exact h1 (Or.inl z)
  · exact h1 (Or.inr z)
  · exact h2 (Or.inl z)
  · exact h2 (Or.inr (Int32.not_le.mp z))
/-! MAKING CELLS: each new cell stands at B + n -/
theorem fa_w_push {G : fa_G} {n : Nat} {v : fa_V} {r : fa_R} {e : va_E} (he : e = fa_cell G (fa_sh n) (v n) (r n)) : fa_w G n v r ++ [(fa_B G + n, e)] = fa_w G (n + 1) v r := by
  subst he
  simp [fa_w, List.range_succ]
theorem fa_tys_at {G : fa_G} {s : State} (hK : va_K (fa_D G) vwCl (fa_tys (fa_dA G)) s) {t : Nat} {ty : FieldType} (ht : (fa_tys (fa_dA G))[t]? = some (fa_dA G t, ty)) {cA : ClassId} {tys : List (ClassId × FieldType)} (hK2 : va_K (fa_D G) vwCl (tys ++ [(cA, ty)]) s) : cA = fa_dA G t := by
  have h1 := (hK.2 t _ ht).2
  have h2 := (hK2.2 tys.length (cA, ty) (by simp)).2
  cases ty with
  | object C =>
    obtain ⟨_, _, _, _, _, e1⟩ := h1
    obtain ⟨_, _, _, _, _, e2⟩ := h2
    exact Option.some.inj (e2.symm.trans e1)
  | _ =>
    have e1 : s.vm.findClass _ = some _ := h1
    have e2 : s.vm.findClass _ = some _ := h2
    exact Option.some.inj (e2.symm.trans e1)
/-- a class that is made -/
def fa_mk (own : String) (index ci N : Nat) : Prop := ∃ (C : String) (T : u_T) (ty0 : Nat → FieldType), vwCl[ci]? = some (C, T, N) ∧ (∀ w ∈ u_ws C T N, w ∈ fa_tbl) ∧ (∀ k, k < N → parseFieldDescriptor (T k).2.2.1 = some (ty0 k)) ∧ N = (fa_ks ci).length ∧ Cond.classLink own index C ∈ fa_tbl ∧ Cond.instantiable C N ∈ fa_tbl ∧ Cond.initialized C ∈ fa_tbl ∧ ∀ j, j < N → defaultValue (ty0 j) = if (fa_ks ci).getD j false then .null else .int 0
section FAN
variable {p : Program} {l : Launch} {e : Env} {R : Room} {s : State} {m : MethodId} {args : Array Value} {below : List Frame} {meth : Method} {c : Code} {H : Heap} {locs : List Loc} {cells slots : Nat} {Q : State → Prop}
variable {G : fa_G} {n : Nat} {v : fa_V} {r : fa_R} {cc : ByteArray} {nL : Nat} {own : String} {pc : Nat} {ls : Array Slot} {rest : List Value}
/-- the heap's size in a walk that makes cells -/
theorem fa_size {g : JFrame} (E : fa_Env G s) (HX : fa_HX G n v r s H locs) (hsz : s.heap.size + cells = fa_B G + n) (kk : H.size = fa_B G + n → W p l e R s m args below meth c H locs cells slots Q g) : W p l e R s m args below meth c H locs cells slots Q g := by
  intro T hT X
  have h1 : T.heap.size ≤ s.heap.size + cells := X.same.2.2.1
  rw [hT] at h1
  have h2 : fa_B G + n ≤ H.size := by
    rcases Nat.eq_zero_or_pos n with h | h
    · have := E.2.2.2.2.2.2
      have := HX.2.1
      omega
    · have := (HX.1 (n - 1) _ (fa_w_get (show n - 1 < n by omega))).lt
      dsimp only at this
      omega
  exact kk (by omega) T hT X
theorem fa_at_n {ws : va_W} {q : Nat} {en : va_E} {H1 : Heap} {locs1 : List Loc} {g : JFrame} (hw : ws = fa_w G n v r) (hP : va_P (fa_D G) vwCl (ws ++ [(q, en)]) H1) (hD : va_D (fa_A G) (ws ++ [(q, en)])) (hsz : s.heap.size + cells = fa_B G + n)
    (kk : q = fa_B G + n → W p l e R s m args below meth c H1 locs1 (cells + 1) slots Q g) : W p l e R s m args below meth c H1 locs1 (cells + 1) slots Q g := by
  subst hw
  intro T hT X
  have h1 : T.heap.size ≤ s.heap.size + (cells + 1) := X.same.2.2.1
  rw [hT] at h1
  have hl : (fa_w G n v r ++ [(q, en)])[n]? = some (q, en) := by
    rw [List.getElem?_append_right (by rw [fa_w_len]; exact Nat.le_refl _), fa_w_len, Nat.sub_self]
    rfl
  have h2 : q < H1.size := (hP n _ hl).lt
  have h3 : fa_B G ≤ q := hD.2 n _ hl
  have h4 : ∀ k, k < n → q ≠ fa_B G + k := fun k hk hq => by
    have hk2 : (fa_w G n v r ++ [(q, en)])[k]? = some (fa_B G + k, fa_cell G (fa_sh k) (v k) (r k)) := by
      rw [List.getElem?_append_left (by rw [fa_w_len]; exact hk)]
      exact fa_w_get hk
    have := hD.1 n k _ _ hl hk2 hq
    omega
  have h5 : q = fa_B G + n := by
    rcases Nat.lt_or_ge q (fa_B G + n) with z | z
    · exact absurd (show q = fa_B G + (q - fa_B G) by omega) (h4 (q - fa_B G) (by omega))
    · omega
  exact kk h5 T hT X
theorem fa_new {index ci N : Nat} (CX : fa_CX G p s m args c cc nL own) (HX : fa_HX G n v r s H locs) (F : fa_mk own index ci N) (hsz : s.heap.size + cells = fa_B G + n) (hsh : fa_sh n = .inr ci) (hv : ∀ i, v n i = 0) (hr : ∀ i, r n i = none) (hcells : cells + 1 ≤ R.cells) (hslots : slots + N ≤ R.slots) (hdg : decode cc pc = .ok (.new index, 3))
    (kk : ∀ H1, fa_HX G (n + 1) v r s H1 locs → W p l e R s m args below meth c H1 locs (cells + 1) (slots + N) Q (F0 m (pc + 3) ls (.ref (fa_B G + n) :: rest))) : W p l e R s m args below meth c H locs cells slots Q (F0 m pc ls rest) := by
  obtain ⟨⟨hx, hb, -, hown, hts⟩, hE⟩ := CX
  obtain ⟨C, T, ty0, hc, hin, hty, hN, h1, h2, h3, hdf⟩ := F
  refine va_new (fs := fa_fs (fa_B G) (fa_ks ci) (v n) (r n)) hx hb hts hin ty0 hty hown (hts _ h1) (hts _ h2) (hts _ h3) hE.1 HX.1 fa_w_D HX.2 (fun q hq => Nat.le_trans hE.2.2.2.2.2.2 hq) hc (fun j hj => ?_) hcells hslots hdg (fun q H1 hP hD hS => ?_)
  · rw [hdf j hj]
    show _ = ((fa_fs (fa_B G) (fa_ks ci) (v n) (r n))[j]?).getD .null
    rw [fa_fs_get (by omega), Option.getD_some, fa_val, hv, hr]
    by_cases q : (fa_ks ci).getD j false = true
    · rw [if_pos q, if_pos q]
      rfl
    · rw [if_neg q, if_neg q]
  · refine fa_at_n rfl hP hD hsz (fun e => ?_)
    subst e
    rw [fa_w_push (by rw [hsh]; rfl)] at hP
    exact kk H1 ⟨hP, hS⟩
theorem fa_newa {len t : Nat} {atype : ArrayType} {ty : FieldType} (CX : fa_CX G p s m args c cc nL own) (HX : fa_HX G n v r s H locs) (harr : Cond.arrayClass (newarray.typeOf atype) ∈ fa_tbl) (hty : newarray.typeOf atype = ty) (ht : (fa_tys (fa_dA G))[t]? = some (fa_dA G t, ty)) (ht3 : t < 3) (hdf : defaultValue ty = .int 0) (hcb : componentBytes ty ≤ 4) (hsz : s.heap.size + cells = fa_B G + n) (hsh : fa_sh n = .inl (t, len)) (hv : ∀ i, v n i = 0) (hlen : len ≤ 4000)
    (hcells : cells + 1 ≤ R.cells) (hslots : slots + len ≤ R.slots) (hdg : decode cc pc = .ok (.newarray atype, 2))
    (kk : ∀ H1, fa_HX G (n + 1) v r s H1 locs → W p l e R s m args below meth c H1 locs (cells + 1) (slots + len) Q (F0 m (pc + 2) ls (.ref (fa_B G + n) :: rest))) : W p l e R s m args below meth c H locs cells slots Q (F0 m pc ls (.int (nI len) :: rest)) := by
  obtain ⟨⟨hx, hb, -, hown, hts⟩, hE⟩ := CX
  refine va_newa (a0 := (len, .inl (fun _ => 0))) hx hb (hts _ harr) hty hE.1 HX.1 fa_w_D HX.2 (fun q hq => Nat.le_trans hE.2.2.2.2.2.2 hq) (fun cA => by rw [hdf]; rfl) (nI_pos (by omega)) (nI_clamp (by omega)) (by have := Nat.mul_le_mul hlen hcb; omega) hcells hslots hdg (fun q cA H1 hK hP hD hS => ?_)
  refine fa_at_n rfl hP hD hsz (fun e => ?_)
  subst e
  rw [fa_tys_at hE.1 ht hK, fa_w_push (by rw [hsh]; simp only [fa_cell, ht3, if_true]; rw [show v n = fun _ => 0 from funext hv])] at hP
  exact kk H1 ⟨hP, hS⟩
theorem fa_newq {len t index : Nat} {C : String} (CX : fa_CX G p s m args c cc nL own) (HX : fa_HX G n v r s H locs) (hcl : Cond.classLink own index C ∈ fa_tbl) (hAO : va_AO C s) (ht : (fa_tys (fa_dA G))[t]? = some (fa_dA G t, .object C)) (ht3 : ¬ t < 3) (hsz : s.heap.size + cells = fa_B G + n) (hsh : fa_sh n = .inl (t, len)) (hr : ∀ i, r n i = none) (hlen : len ≤ 4000)
    (hcells : cells + 1 ≤ R.cells) (hslots : slots + len ≤ R.slots) (hdg : decode cc pc = .ok (.anewarray index, 3))
    (kk : ∀ H1, fa_HX G (n + 1) v r s H1 locs → W p l e R s m args below meth c H1 locs (cells + 1) (slots + len) Q (F0 m (pc + 3) ls (.ref (fa_B G + n) :: rest))) : W p l e R s m args below meth c H locs cells slots Q (F0 m pc ls (.int (nI len) :: rest)) := by
  obtain ⟨⟨hx, hb, -, hown, hts⟩, hE⟩ := CX
  refine va_newq (N' := len) hx hb hown (hts _ hcl) hAO hE.1 HX.1 fa_w_D HX.2 (fun q hq => Nat.le_trans hE.2.2.2.2.2.2 hq) (nI_pos (by omega)) (nI_clamp (by omega)) (by omega) hcells hslots hdg (fun q cA H1 hK hP hD hS => ?_)
  refine fa_at_n rfl hP hD hsz (fun e => ?_)
  subst e
  rw [fa_tys_at hE.1 ht hK, fa_w_push (by rw [hsh]; simp only [fa_cell, ht3, if_false]; rw [show r n = fun _ => none from funext hr]; rfl)] at hP
  exact kk H1 ⟨hP, hS⟩
/-- writing a final reference field in a constructor -/
theorem fa_putr {index ci i k q : Nat} {ty : FieldType} (CX : fa_CX G p s m args c cc nL own) (HX : fa_HX G n v r s H locs) (F : fa_fld own index ci i ty true) (hown2 : ∀ (C : String) (T : u_T) (N : Nat), vwCl[ci]? = some (C, T, N) → C = own) (hmn : meth.name = "<init>") (hk : k < n) (hsh : fa_sh k = .inr ci) (hks : (fa_ks ci).getD i false = true) (hn : narrow ty (.ref (fa_B G + q)) = .ref (fa_B G + q)) (hfit : fits ty (.ref (fa_B G + q)) = true) (hdg : decode cc pc = .ok (.putfield index, 3))
    (kk : ∀ (H1 : Heap) (locs1 : List Loc) (r1 : fa_R), r1 = fa_u r k i (some q) → fa_HX G n v r1 s H1 locs1 → W p l e R s m args below meth c H1 locs1 cells slots Q (F0 m (pc + 3) ls rest)) : W p l e R s m args below meth c H locs cells slots Q (F0 m pc ls (.ref (fa_B G + q) :: .ref (fa_B G + k) :: rest)) := by
  obtain ⟨⟨hx, hb, -, hown, hts⟩, hE⟩ := CX
  obtain ⟨C, T, N, ty0, hc, hin, hty, hnm, hi, hN, hl, hC, hfin, rfl⟩ := F
  have h := fa_w_get (G := G) (n := n) (v := v) (r := r) hk
  rw [hsh] at h
  refine va_putF hx hb hts hin ty0 hty hnm hown hE.1 HX.1 fa_w_D HX.2 k h hc i hi (hts _ hl) (fun x hx => by rw [hC] at hx; exact hx) hfin hmn (by rw [hC]; exact hown2 C T N hc) (hty i hi) hn hfit (by rw [fa_fs_len]; omega) hdg (fun H1 locs1 hP hD hS => ?_)
  have e := fa_w_set (G := G) (n := n) (k := k) (v := v) (v1 := v) (r := r) (r1 := fa_u r k i (some q)) (e := .inr (ci, (fa_fs (fa_B G) (fa_ks ci) (v k) (r k)).set i (.ref (fa_B G + q))))
    (by rw [hsh]; show _ = Sum.inr _; rw [fa_fs_set (v1 := v k) (r1 := fa_u r k i (some q) k) (by rw [hks]; simp [fa_val, fa_u_s, va_rf]) (fun j hj => ⟨rfl, fa_u_n _ _ (fun q => hj q.2)⟩)]) (fun j hj => ⟨rfl, fa_u_k _ _ hj⟩)
  rw [e] at hP
  exact kk H1 locs1 _ rfl ⟨hP, hS⟩
/-- a constructor's start -/
theorem fa_startN {y : MethodName} {cc : ByteArray} {maxL d mc ms : Nat} {av : List Value} {post : fa_V × fa_R → Prop} (hy : plainName y.cls = true) (hlen : (lg_sl av).length ≤ maxL) (hin : y.name = "<init>")
    (body : ∀ (p : Program) (e : Env) (s : State) (m : MethodId) (args : Array Value) (below : List Frame) (meth : Method) (c : Code) (ls : Array Slot) (Q : State → Prop), fa_CX G p s m args c cc maxL y.cls → lv_has ls maxL (lv_args 0 av) → fa_HX G n v r s s.heap [] → s.heap.size = fa_B G + n → meth.name = "<init>" →
      (∀ (v1 : fa_V) (r1 : fa_R) (H : Heap) (locs : List Loc) (pc : Nat) (ls : Array Slot), fa_HX G (n + mc) v1 r1 s H locs → decode cc pc = .ok (.return_, 1) → post (v1, r1) → W p l e ({ frames := d, cells := mc, slots := ms, locals := 34 * d }) s m args below meth c H locs mc ms Q (F0 m pc ls [])) →
      W p l e ({ frames := d, cells := mc, slots := ms, locals := 34 * d }) s m args below meth c s.heap [] 0 0 Q (F0 m 0 ls [])) : fa_MN l G n y cc maxL d mc ms av v r post :=
  fa_start hy hlen (fun _ h => h.1) (fun p e s m below meth c ls hp CX hr hlk hnm hl HX => body p e s m _ below meth c ls _ CX hl HX hp.2 (hnm.trans hin) (fun v1 r1 H locs pc ls HX hd hp => W.vret CX.1.1 CX.1.2.1 hr (fun t ht _ => ⟨⟨(v1, r1), rfl, hp, by show fa_Mem G _ v1 r1 t.heap; rw [ht]; exact HX.1⟩, HX.2.F ht⟩) HX.2.2.2 hd hlk))
section CTOR
variable {index k : Nat} {y : MethodName} {bytes : ByteArray} {maxL d mc ms : Nat}
theorem fa_ctorI {post : fa_V × fa_R → Prop} (CX : fa_CX G p s m args c cc nL own) (HX : fa_HX G n v r s H locs) (hM : fa_MN l G n y bytes maxL d mc ms [.ref (fa_B G + k)] v r post) (hl : Cond.methodLink own index y ∈ fa_tbl ∧ Cond.instanceMethod y ∈ fa_tbl ∧ Cond.initialized y.cls ∈ fa_tbl ∧ Cond.code y bytes maxL none ∈ fa_tbl) (hy : y.name = "<init>" ∧ y.cls ≠ "java/lang/invoke/MethodHandle" ∧ y.cls ≠ "java/lang/invoke/VarHandle" ∧ (parseMethodDescriptor y.desc).map (fun d => d.parameters.length) = some 0)
    (hsz : s.heap.size + cells = fa_B G + n) (hW : (rest.map fun v => v.category).sum ≤ 8) (hls : ls.size = nL) (hR : d + 1 ≤ R.frames ∧ 8 + (maxL + 11) + 34 * d ≤ R.locals) (hf : cells + mc ≤ R.cells ∧ slots + ms ≤ R.slots) (hdg : decode cc pc = .ok (.invokespecial index, 3))
    (kk : ∀ (v1 : fa_V) (r1 : fa_R) (H1 : Heap) (locs1 : List Loc), post (v1, r1) → fa_HX G (n + mc) v1 r1 s H1 locs1 → W p l e R s m args below meth c H1 locs1 (cells + mc) (slots + ms) Q (F0 m (pc + 3) ls rest)) : W p l e R s m args below meth c H locs cells slots Q (F0 m pc ls (.ref (fa_B G + k) :: rest)) :=
  fa_size CX.2 HX hsz (fun hH => va_callv (va_runI (As := []) (rest := rest) CX.1 hM (cwI 0 CX.1.2.2.2.2 (fa_goodIn (fun w hw => by
    rcases List.mem_cons.mp hw with rfl | hw
    · exact hl.2.2.2
    · exact hw)) rfl rfl rfl (CX.1.2.2.2.2 _ hl.2.2.1) (CX.1.2.2.2.2 _ hl.1) (CX.1.2.2.2.2 _ hl.2.1) hy.1 hy.2 hR) ⟨fa_blindN _, fun U hU hW => ⟨rfl, ⟨by rw [hU]; exact HX.1, CX.2.moved hW HX.2 hU⟩, by rw [hU]; exact hH⟩⟩ rfl rfl hls rfl (lv_room hW) hdg hf) HX.2 (fun _ _ h => h) (fun _ h => h) (fun u t H1 locs1 ht _ hp hB _ _ hS => kk u.1 u.2 H1 locs1 hp ⟨by rw [← ht]; exact hB, hS⟩))
theorem fa_ctorN {post : fa_V × fa_R → Prop} (CX : fa_CX G p s m args c cc nL own) (HX : fa_HX G n v r s H locs) (hM : fa_MN l G n y bytes maxL d mc ms [.ref (fa_B G + k)] v r post) (hq : (own, index, y, RX6) ∈ fa_nM) (hl : Cond.instanceMethod y ∈ fa_tbl ∧ Cond.initialized y.cls ∈ fa_tbl ∧ Cond.code y bytes maxL none ∈ fa_tbl) (hy : y.name = "<init>" ∧ y.cls ≠ "java/lang/invoke/MethodHandle" ∧ y.cls ≠ "java/lang/invoke/VarHandle" ∧ (parseMethodDescriptor y.desc).map (fun d => d.parameters.length) = some 0)
    (hsz : s.heap.size + cells = fa_B G + n) (hW : (rest.map fun v => v.category).sum ≤ 8) (hls : ls.size = nL) (hR : d + 1 ≤ R.frames ∧ 8 + (maxL + 11) + 34 * d ≤ R.locals) (hf : cells + mc ≤ R.cells ∧ slots + ms ≤ R.slots) (hdg : decode cc pc = .ok (.invokespecial index, 3))
    (kk : ∀ (v1 : fa_V) (r1 : fa_R) (H1 : Heap) (locs1 : List Loc), post (v1, r1) → fa_HX G (n + mc) v1 r1 s H1 locs1 → W p l e R s m args below meth c H1 locs1 (cells + mc) (slots + ms) Q (F0 m (pc + 3) ls rest)) : W p l e R s m args below meth c H locs cells slots Q (F0 m pc ls (.ref (fa_B G + k) :: rest)) :=
  fa_size CX.2 HX hsz (fun hH => va_callv (va_runIN (As := []) (rest := rest) CX.1 hM ⟨va_cnB 0 CX.1.2.2.2.2 (fa_goodIn (fun w hw => by
    rcases List.mem_cons.mp hw with rfl | hw
    · exact hl.2.2
    · exact hw)) rfl rfl rfl (CX.2.2.1 _ hq) (CX.1.2.2.2.2 _ hl.2.1) hy.2 hR, hy.1, CX.1.2.2.2.2 _ hl.1⟩ ⟨fa_blindN _, fun U hU hW => ⟨rfl, ⟨by rw [hU]; exact HX.1, CX.2.moved hW HX.2 hU⟩, by rw [hU]; exact hH⟩⟩ rfl rfl hls rfl (lv_room hW) hdg hf) HX.2 (fun _ _ h => h) (fun _ h => h) (fun u t H1 locs1 ht _ hp hB _ _ hS => kk u.1 u.2 H1 locs1 hp ⟨by rw [← ht]; exact hB, hS⟩))
/-- Object.<init> -/
theorem fa_objInit {j : Nat} (CX : fa_CX G p s m args c cc nL own) (hl : Cond.methodLink own index Lib.objectInit ∈ fa_tbl ∧ Cond.instanceMethod Lib.objectInit ∈ fa_tbl ∧ Cond.code Lib.objectInit ⟨#[0xb1]⟩ 1 none ∈ fa_tbl) (hls : ls.size = nL) (hdg : decode cc pc = .ok (.invokespecial index, 3)) (hframes : 1 ≤ R.frames) (hlocals : (rest.map fun v => v.category).sum + 12 ≤ R.locals)
    (kk : W p l e R s m args below meth c H locs cells slots Q (F0 m (pc + 3) ls rest)) : W p l e R s m args below meth c H locs cells slots Q (F0 m pc ls (.ref j :: rest)) :=
  W.objInit CX.1.1 CX.1.2.1 CX.1.2.2.2.1 (CX.1.2.2.2.2 _ hl.1) (CX.1.2.2.2.2 _ hl.2.1) (CX.1.2.2.2.2 _ hl.2.2) rfl (by rw [CX.1.2.2.1]; exact hls) rfl hdg hframes (by show 2 * 0 + _ + 12 ≤ _; omega) kk
end CTOR
end FAN
set_option maxHeartbeats 4000000 in
set_option maxRecDepth 100000 in
theorem c_X6_isError (l : Launch) (G : fa_G) (n : Nat) (v : fa_V) (r : fa_R) (a1 : Int32) : fa_MI l G n yX6_isError cX6_isError 1 (some .boolean) 1 [.int (a1)] v r (fun x w => w = (v, r) ∧ (x = if 0 ≤ a1 ∨ a1 = (-6 : Int32) then nI 0 else nI 1)) := by
  refine fa_startZ (by decide +kernel) (Nat.le_of_ble_eq_true rfl) (fun p e s m args below meth c ls Q CX hl HX RET => ?_)
  have hl : lv_has ls 1 [(0, .int (a1))] := hl
  have hx := CX.1.1
  have hb := CX.1.2.1
  refine lv_iload_n hx hb dX6_isError_0 rfl (lv_at hl 0 rfl) ?_
  refine lv_if_ge (tgt := 14) hx hb dX6_isError_1 (by decide) (fun c_1 => ?_) (fun c_1 => ?_)
  · refine lv_iconst (v := nI (0)) hx hb dX6_isError_14 (by decide) ?_
    exact RET _ _ _ _ _ _ _ HX dX6_isError_15 (by decide) (⟨rfl, (by simp [c_1])⟩)
  · refine lv_iload_n hx hb dX6_isError_4 rfl (lv_at hl 0 rfl) ?_
    refine lv_bipush (v := (-6 : Int32)) hx hb dX6_isError_5 (by decide) ?_
    refine lv_icmp_eq (tgt := 14) hx hb dX6_isError_7 (by decide) (fun c_7 => ?_) (fun c_7 => ?_)
    · refine lv_iconst (v := nI (0)) hx hb dX6_isError_14 (by decide) ?_
      exact RET _ _ _ _ _ _ _ HX dX6_isError_15 (by decide) (⟨rfl, (by simp [c_1, c_7])⟩)
    · refine lv_iconst (v := nI (1)) hx hb dX6_isError_10 (by decide) ?_
      refine lv_goto (tgt := 15) hx hb dX6_isError_11 (by decide) ?_
      exact RET _ _ _ _ _ _ _ HX dX6_isError_15 (by decide) (⟨rfl, (by simp [c_1, c_7])⟩)
set_option maxHeartbeats 4000000 in
set_option maxRecDepth 100000 in
theorem c_X6_isNoHolder (l : Launch) (G : fa_G) (n : Nat) (v : fa_V) (r : fa_R) (a1 : Int32) : fa_MI l G n yX6_isNoHolder cX6_isNoHolder 1 (some .boolean) 1 [.int (a1)] v r (fun x w => w = (v, r) ∧ (x = if a1 < 0 ∨ ¬ a1 < nI 8 then nI 1 else nI 0)) := by
  refine fa_startZ (by decide +kernel) (Nat.le_of_ble_eq_true rfl) (fun p e s m args below meth c ls Q CX hl HX RET => ?_)
  have hl : lv_has ls 1 [(0, .int (a1))] := hl
  have hx := CX.1.1
  have hb := CX.1.2.1
  refine lv_iload_n hx hb dX6_isNoHolder_0 rfl (lv_at hl 0 rfl) ?_
  refine lv_if_lt (tgt := 10) hx hb dX6_isNoHolder_1 (by decide) (fun c_1 => ?_) (fun c_1 => ?_)
  · refine lv_iconst (v := nI (1)) hx hb dX6_isNoHolder_10 (by decide) ?_
    refine lv_goto (tgt := 15) hx hb dX6_isNoHolder_11 (by decide) ?_
    exact RET _ _ _ _ _ _ _ HX dX6_isNoHolder_15 (by decide) (⟨rfl, (by simp [c_1])⟩)
  · refine lv_iload_n hx hb dX6_isNoHolder_4 rfl (lv_at hl 0 rfl) ?_
    refine lv_bipush (v := nI (8)) hx hb dX6_isNoHolder_5 (by decide) ?_
    refine lv_icmp_lt (tgt := 14) hx hb dX6_isNoHolder_7 (by decide) (fun c_7 => ?_) (fun c_7 => ?_)
    · refine lv_iconst (v := nI (0)) hx hb dX6_isNoHolder_14 (by decide) ?_
      exact RET _ _ _ _ _ _ _ HX dX6_isNoHolder_15 (by decide) (⟨rfl, (by simp [c_1, c_7])⟩)
    · refine lv_iconst (v := nI (1)) hx hb dX6_isNoHolder_10 (by decide) ?_
      refine lv_goto (tgt := 15) hx hb dX6_isNoHolder_11 (by decide) ?_
      exact RET _ _ _ _ _ _ _ HX dX6_isNoHolder_15 (by decide) (⟨rfl, (by simp [c_1, c_7])⟩)
set_option maxHeartbeats 4000000 in
set_option maxRecDepth 100000 in
theorem c_X6_isNoSetting (l : Launch) (G : fa_G) (n : Nat) (v : fa_V) (r : fa_R) (a1 : Int32) : fa_MI l G n yX6_isNoSetting cX6_isNoSetting 1 (some .boolean) 1 [.int (a1)] v r (fun x w => w = (v, r) ∧ (x = if a1 < 0 ∨ ¬ a1 < nI 7 then nI 1 else nI 0)) := by
  refine fa_startZ (by decide +kernel) (Nat.le_of_ble_eq_true rfl) (fun p e s m args below meth c ls Q CX hl HX RET => ?_)
  have hl : lv_has ls 1 [(0, .int (a1))] := hl
  have hx := CX.1.1
  have hb := CX.1.2.1
  refine lv_iload_n hx hb dX6_isNoSetting_0 rfl (lv_at hl 0 rfl) ?_
  refine lv_if_lt (tgt := 10) hx hb dX6_isNoSetting_1 (by decide) (fun c_1 => ?_) (fun c_1 => ?_)
  · refine lv_iconst (v := nI (1)) hx hb dX6_isNoSetting_10 (by decide) ?_
    refine lv_goto (tgt := 15) hx hb dX6_isNoSetting_11 (by decide) ?_
    exact RET _ _ _ _ _ _ _ HX dX6_isNoSetting_15 (by decide) (⟨rfl, (by simp [c_1])⟩)
  · refine lv_iload_n hx hb dX6_isNoSetting_4 rfl (lv_at hl 0 rfl) ?_
    refine lv_bipush (v := nI (7)) hx hb dX6_isNoSetting_5 (by decide) ?_
    refine lv_icmp_lt (tgt := 14) hx hb dX6_isNoSetting_7 (by decide) (fun c_7 => ?_) (fun c_7 => ?_)
    · refine lv_iconst (v := nI (0)) hx hb dX6_isNoSetting_14 (by decide) ?_
      exact RET _ _ _ _ _ _ _ HX dX6_isNoSetting_15 (by decide) (⟨rfl, (by simp [c_1, c_7])⟩)
    · refine lv_iconst (v := nI (1)) hx hb dX6_isNoSetting_10 (by decide) ?_
      refine lv_goto (tgt := 15) hx hb dX6_isNoSetting_11 (by decide) ?_
      exact RET _ _ _ _ _ _ _ HX dX6_isNoSetting_15 (by decide) (⟨rfl, (by simp [c_1, c_7])⟩)
set_option maxHeartbeats 4000000 in
set_option maxRecDepth 100000 in
theorem p1_find (l : Launch) (G : fa_G) (n : Nat) (hn : 397 ≤ n) (v : fa_V) (r : fa_R) (b : Nat) (hB : b ∈ fa_bs) (hr : fa_RS r b) (a1 : Int32) (h1 : v b 1 = 0) : fa_MR l G n yX3_find cX3_find 3 (some (.object RX4)) 1 [.ref (fa_B G + (b)), .int (a1)] v r (fun x w => w = (v, r) ∧ (x = none)) := by
  refine fa_startR (by decide +kernel) (Nat.le_of_ble_eq_true rfl) (fun p e s m args below meth c ls Q CX hl HX RET => ?_)
  have hl : lv_has ls 3 [(0, .ref (fa_B G + (b))), (1, .int (a1))] := hl
  have hx := CX.1.1
  have hb := CX.1.2.1
  refine lv_iconst (v := nI (0)) hx hb dX3_find_0 (by decide) ?_
  refine lv_istore_n (lv' := [(2, .int (nI (0))), (0, .ref (fa_B G + (b))), (1, .int (a1))]) hx hb dX3_find_1 rfl hl (by decide) rfl (fun ls hl => ?_)
  refine lv_iload_n hx hb dX3_find_2 rfl (lv_at hl 0 rfl) ?_
  refine lv_aload_n hx hb dX3_find_3 rfl (lv_at hl 1 rfl) ?_
  refine fa_geti (k := b) CX HX fl_X3_49 (fa_lt hB 0 (by decide) hn) (fa_s0 hB) rfl dX3_find_4 ?_
  have ky_7 : v b 1 = (0 : Int32) := h1
  refine lv_icmp_ge (tgt := 36) hx hb dX3_find_7 (by decide) (fun c_7 => ?_) (fun c_7 => ?_)
  · refine lv_null hx hb dX3_find_36 ?_
    exact RET none _ _ _ _ _ _ _ HX dX3_find_37 rfl (⟨rfl, rfl⟩)
  · exact absurd (by rw [ky_7]; try decide) c_7
set_option maxHeartbeats 4000000 in
set_option maxRecDepth 100000 in
theorem p1_placeOf (l : Launch) (G : fa_G) (n : Nat) (hn : 397 ≤ n) (v : fa_V) (r : fa_R) (b : Nat) (hB : b ∈ fa_bs) (hr : fa_RS r b) (a1 a2 : Int32) (h3 : v (b + 2) 0 = 0) : fa_MI l G n yX2_placeOf cX2_placeOf 4 (some .int) 1 [.ref (fa_B G + (b + 2)), .int (a1), .int (a2)] v r (fun x w => w = (v, r) ∧ (x = (-1 : Int32))) := by
  refine fa_startI (by decide +kernel) (Nat.le_of_ble_eq_true rfl) (fun p e s m args below meth c ls Q CX hl HX RET => ?_)
  have hl : lv_has ls 4 [(0, .ref (fa_B G + (b + 2))), (1, .int (a1)), (2, .int (a2))] := hl
  have hx := CX.1.1
  have hb := CX.1.2.1
  refine lv_iconst (v := nI (0)) hx hb dX2_placeOf_0 (by decide) ?_
  refine lv_istore_n (lv' := [(3, .int (nI (0))), (0, .ref (fa_B G + (b + 2))), (1, .int (a1)), (2, .int (a2))]) hx hb dX2_placeOf_1 rfl hl (by decide) rfl (fun ls hl => ?_)
  refine lv_iload_n hx hb dX2_placeOf_2 rfl (lv_at hl 0 rfl) ?_
  refine lv_aload_n hx hb dX2_placeOf_3 rfl (lv_at hl 1 rfl) ?_
  refine fa_geti (k := b + 2) CX HX fl_X2_18 (fa_lt hB 2 (by decide) hn) (fa_s2 hB) rfl dX2_placeOf_4 ?_
  have ky_7 : v (b + 2) 0 = (0 : Int32) := h3
  refine lv_icmp_ge (tgt := 38) hx hb dX2_placeOf_7 (by decide) (fun c_7 => ?_) (fun c_7 => ?_)
  · refine lv_iconst (v := (-1 : Int32)) hx hb dX2_placeOf_38 (by decide) ?_
    exact RET _ _ _ _ _ _ _ HX dX2_placeOf_39 (⟨rfl, rfl⟩)
  · exact absurd (by rw [ky_7]; try decide) c_7
set_option maxHeartbeats 4000000 in
set_option maxRecDepth 100000 in
theorem p1_storedPages (l : Launch) (G : fa_G) (n : Nat) (hn : 397 ≤ n) (v : fa_V) (r : fa_R) (b : Nat) (hB : b ∈ fa_bs) (hr : fa_RS r b) (h1 : v b 1 = 0) : fa_MI l G n yX3_storedPages cX3_storedPages 3 (some .int) 1 [.ref (fa_B G + (b))] v r (fun x w => w = (v, r) ∧ (x = nI 0)) := by
  refine fa_startI (by decide +kernel) (Nat.le_of_ble_eq_true rfl) (fun p e s m args below meth c ls Q CX hl HX RET => ?_)
  have hl : lv_has ls 3 [(0, .ref (fa_B G + (b)))] := hl
  have hx := CX.1.1
  have hb := CX.1.2.1
  refine lv_iconst (v := nI (0)) hx hb dX3_storedPages_0 (by decide) ?_
  refine lv_istore_n (lv' := [(1, .int (nI (0))), (0, .ref (fa_B G + (b)))]) hx hb dX3_storedPages_1 rfl hl (by decide) rfl (fun ls hl => ?_)
  refine lv_iconst (v := nI (0)) hx hb dX3_storedPages_2 (by decide) ?_
  refine lv_istore_n (lv' := [(2, .int (nI (0))), (1, .int (nI (0))), (0, .ref (fa_B G + (b)))]) hx hb dX3_storedPages_3 rfl hl (by decide) rfl (fun ls hl => ?_)
  refine lv_iload_n hx hb dX3_storedPages_4 rfl (lv_at hl 0 rfl) ?_
  refine lv_aload_n hx hb dX3_storedPages_5 rfl (lv_at hl 2 rfl) ?_
  refine fa_geti (k := b) CX HX fl_X3_49 (fa_lt hB 0 (by decide) hn) (fa_s0 hB) rfl dX3_storedPages_6 ?_
  have ky_9 : v b 1 = (0 : Int32) := h1
  refine lv_icmp_ge (tgt := 30) hx hb dX3_storedPages_9 (by decide) (fun c_9 => ?_) (fun c_9 => ?_)
  · refine lv_iload_n hx hb dX3_storedPages_30 rfl (lv_at hl 1 rfl) ?_
    exact RET _ _ _ _ _ _ _ HX dX3_storedPages_31 (⟨rfl, rfl⟩)
  · exact absurd (by rw [ky_9]; try decide) c_9
set_option maxHeartbeats 4000000 in
set_option maxRecDepth 100000 in
theorem c_J7_fill_53178 (l : Launch) (G : fa_G) (n : Nat) (v : fa_V) (r : fa_R) (k len : Nat) (hk : k < n) (hsh : fa_sh k = .inl (0, len)) (hlen : len < 2 ^ 31) (a2 : Int32) : fa_MV l G n yJ7_fill_53178 cJ7_fill_53178 4 1 [.ref (fa_B G + (k)), .int (a2)] v r (fa_vo r (fun v1 => ((∀ i, i < len → v1 k i = a2) ∧ ∀ i, ¬ i < len → v1 k i = v k i) ∧ (fa_fr (k) (k + 1) v v1))) := by
  refine fa_startV (by decide +kernel) (Nat.le_of_ble_eq_true rfl) (fun p e s m args below meth c ls Q CX hl HX RET => ?_)
  have hl : lv_has ls 4 [(0, .ref (fa_B G + (k))), (1, .int (a2))] := hl
  have hx := CX.1.1
  have hb := CX.1.2.1
  refine lv_iconst (v := nI (0)) hx hb dJ7_fill_53178_0 (by decide) ?_
  refine lv_istore_n (lv' := [(2, .int (nI (0))), (0, .ref (fa_B G + (k))), (1, .int (a2))]) hx hb dJ7_fill_53178_1 rfl hl (by decide) rfl (fun ls hl => ?_)
  refine lv_aload_n hx hb dJ7_fill_53178_2 rfl (lv_at hl 1 rfl) ?_
  refine fa_alen (k := k) (len := len) CX HX hk hsh dJ7_fill_53178_3 ?_
  refine lv_istore_n (lv' := [(3, .int (nI (len))), (2, .int (nI (0))), (0, .ref (fa_B G + (k))), (1, .int (a2))]) hx hb dJ7_fill_53178_4 rfl hl (by decide) rfl (fun ls hl => ?_)
  have LOOP_5 : ∀ (fu : Nat) (i : Nat) (v1 : fa_V) (H : Heap) (locs : List Loc) (ls : Array Slot), len - i < fu → (i ≤ len ∧ (∀ j, j < i → v1 k j = a2) ∧ (∀ j, ¬ j < i → v1 k j = v k j) ∧ fa_fr k (k + 1) v v1) → lv_has ls 4 [(0, .ref (fa_B G + (k))), (1, .int (a2)), (2, .int (nI (i))), (3, .int (nI (len)))] → fa_HX G (n) v1 r s H locs → W p l e (fa_rm 1) s m args below meth c H locs (0) (0) Q (F0 m 5 ls []) := by
    intro fu
    induction fu with
    | zero => intro i v1 H locs ls hk; exact absurd hk (Nat.not_lt_zero _)
    | succ fu ih_5 =>
      intro i v1 H locs ls hk_5 hi_5 hl HX2
      refine lv_iload_n hx hb dJ7_fill_53178_5 rfl (lv_at hl 2 rfl) ?_
      refine lv_iload_n hx hb dJ7_fill_53178_6 rfl (lv_at hl 3 rfl) ?_
      refine lv_icmp_ge (tgt := 20) hx hb dJ7_fill_53178_7 (by decide) (fun c_7 => ?_) (fun c_7 => ?_)
      · have z1 : len ≤ i := (nI_leI (by omega) (by omega)).mp c_7
        have z2 : i = len := by omega
        rw [z2] at hi_5
        exact RET _ _ _ _ _ _ HX2 dJ7_fill_53178_20 (⟨rfl, ⟨⟨hi_5.2.1, hi_5.2.2.1⟩, (fa_fr.tr fa_fr.rf (fa_fr.wide hi_5.2.2.2 (by omega) (by omega)))⟩⟩)
      · have z1 : i < len := by
          refine Nat.lt_of_not_le (fun q => c_7 ?_)
          exact (nI_leI (by omega) (by omega)).mpr q
        refine lv_aload_n hx hb dJ7_fill_53178_10 rfl (lv_at hl 0 rfl) ?_
        refine lv_iload_n hx hb dJ7_fill_53178_11 rfl (lv_at hl 2 rfl) ?_
        refine lv_iload_n hx hb dJ7_fill_53178_12 rfl (lv_at hl 1 rfl) ?_
        refine fa_iast (k := k) (j := i) CX HX2 hk hsh (by omega) (by first | decide | assumption) dJ7_fill_53178_13 (fun H locs v3 e4 HX5 => ?_)
        refine lv_iinc (v := nI (i + 1)) (lv' := [(2, .int (nI (i + 1))), (0, .ref (fa_B G + (k))), (1, .int (a2)), (3, .int (nI (len)))]) hx hb dJ7_fill_53178_14 hl (k := 2) rfl (nI_add (i) 1) (by decide) rfl (fun ls hl => ?_)
        refine lv_goto (tgt := 5) hx hb dJ7_fill_53178_17 (by decide) ?_
        exact ih_5 (i + 1) v3 _ _ _ (by omega) (⟨by omega, fa_fill1 hi_5.2.1 e4, fa_fill2 hi_5.2.2.1 e4, (by rw [e4]; exact fa_fr.u (fa_fr.tr fa_fr.rf (fa_fr.wide hi_5.2.2.2 (by omega) (by omega))) (by omega))⟩) (lv_sub hl [1, 2, 0, 3] rfl) HX5
  exact LOOP_5 (len - 0 + 1) (0) v _ _ _ (Nat.lt_succ_self _) (⟨Nat.zero_le _, fun j hj => absurd hj (Nat.not_lt_zero _), fun j _ => rfl, fa_fr.rf⟩) (lv_sub hl [2, 3, 1, 0] rfl) HX
theorem fa_RS_cong {r r1 : fa_R} {b : Nat} (h : ∀ q, b ≤ q → q < b + 56 → r1 q = r q) (hR : fa_RS r b) : fa_RS r1 b := by
  obtain ⟨h1, h2, h3, h4, h5, h6, h7, h8, h9⟩ := hR
  refine ⟨?_, ?_, ?_, ?_, ?_, ?_, ?_, fun p hp => ?_, fun j hj => ?_⟩
  · rw [h b (by omega) (by omega)]; exact h1
  · rw [h b (by omega) (by omega)]; exact h2
  · rw [h b (by omega) (by omega)]; exact h3
  · rw [h b (by omega) (by omega)]; exact h4
  · rw [h (b + 2) (by omega) (by omega)]; exact h5
  · rw [h (b + 2) (by omega) (by omega)]; exact h6
  · rw [h (b + 5) (by omega) (by omega)]; exact h7
  · rw [h (b + 1) (by omega) (by omega)]; exact h8 p hp
  · rw [h (b + 8 + 2 * j) (by omega) (by omega)]; exact h9 j hj
theorem fa_bsH : ∀ j, j < 5 → 115 + 56 * j ∈ fa_bs := by decide
theorem fa_nltN {a b : Nat} (ha : a < 2 ^ 31) (hb : b < 2 ^ 31) (c : ¬ nI b < nI a) : a ≤ b := by
  rcases Nat.lt_or_ge b a with h | h
  · exact absurd ((nI_ltI hb ha).mpr h) c
  · exact h
