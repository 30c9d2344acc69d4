def fa_Mem (G : fa_G) (n : Nat) (v : fa_V) (r : fa_R) (H : Heap) : Prop := va_P (fa_D G) vwCl (fa_w G n v r) H
def fa_Pre (G : fa_G) (n : Nat) (v : fa_V) (r : fa_R) (U : State) : Prop := fa_Mem G n v r U.heap ∧ fa_Env G U
/-- the memory in a walk -/
def fa_HX (G : fa_G) (n : Nat) (v : fa_V) (r : fa_R) (s : State) (H : Heap) (locs : List Loc) : Prop := fa_Mem G n v r H ∧ va_S (fa_A G) s.heap H locs
abbrev fa_CX (G : fa_G) (p : Program) (s : State) (m : MethodId) (args : Array Value) (c : Code) (cc : ByteArray) (nL : Nat) (own : String) : Prop := CallFix p m c cc nL s args fa_tbl own ∧ fa_Env G s
abbrev fa_rm (d : Nat) : Room := { frames := d, cells := 0, slots := 0, locals := 34 * d }
abbrev fa_ws (y : MethodName) (cc : ByteArray) (maxL : Nat) (ret : Option FieldType) : List Cond := Cond.code y cc maxL ret :: fa_tbl
/-- contracts: int (or boolean), void, reference -/
abbrev fa_MI (l : Launch) (G : fa_G) (n : Nat) (y : MethodName) (cc : ByteArray) (maxL : Nat) (ret : Option FieldType) (d : Nat) (av : List Value) (v : fa_V) (r : fa_R) (post : Int32 → fa_V × fa_R → Prop) : Prop :=
  Met l y (fa_ws y cc maxL ret) (fa_rm d) (va_Pc av (fa_Pre G n v r)) (va_Qi post (fun (w : fa_V × fa_R) t => fa_Mem G n w.1 w.2 t.heap) (fa_A G)) 0 0 (fa_A G)
abbrev fa_MV (l : Launch) (G : fa_G) (n : Nat) (y : MethodName) (cc : ByteArray) (maxL : Nat) (d : Nat) (av : List Value) (v : fa_V) (r : fa_R) (post : fa_V × fa_R → Prop) : Prop :=
  Met l y (fa_ws y cc maxL none) (fa_rm d) (va_Pc av (fa_Pre G n v r)) (va_Qv post (fun (w : fa_V × fa_R) t => fa_Mem G n w.1 w.2 t.heap) (fa_A G)) 0 0 (fa_A G)
abbrev fa_MR (l : Launch) (G : fa_G) (n : Nat) (y : MethodName) (cc : ByteArray) (maxL : Nat) (ret : Option FieldType) (d : Nat) (av : List Value) (v : fa_V) (r : fa_R) (post : Option Nat → fa_V × fa_R → Prop) : Prop :=
  Met l y (fa_ws y cc maxL ret) (fa_rm d) (va_Pc av (fa_Pre G n v r)) (va_Qe (fun j => fa_B G + j) post (fun (w : fa_V × fa_R) t => fa_Mem G n w.1 w.2 t.heap) (fa_A G)) 0 0 (fa_A G)
abbrev fa_MF (l : Launch) (G : fa_G) (n : Nat) (y : MethodName) (cc : ByteArray) (maxL : Nat) (d : Nat) (av : List Value) (v : fa_V) (r : fa_R) (post : UInt32 → fa_V × fa_R → Prop) : Prop :=
  Met l y (fa_ws y cc maxL (some .float)) (fa_rm d) (va_Pc av (fa_Pre G n v r)) (va_Qf post (fun (w : fa_V × fa_R) t => fa_Mem G n w.1 w.2 t.heap) (fa_A G)) 0 0 (fa_A G)
/-- a constructor's: mc cells, ms slots are made -/
abbrev fa_MN (l : Launch) (G : fa_G) (n : Nat) (y : MethodName) (cc : ByteArray) (maxL : Nat) (d mc ms : Nat) (av : List Value) (v : fa_V) (r : fa_R) (post : fa_V × fa_R → Prop) : Prop :=
  Met l y (fa_ws y cc maxL none) ({ frames := d, cells := mc, slots := ms, locals := 34 * d }) (va_Pc av (fun U => fa_Pre G n v r U ∧ U.heap.size = fa_B G + n)) (va_Qv post (fun (w : fa_V × fa_R) t => fa_Mem G (n + mc) w.1 w.2 t.heap) (fa_A G)) mc ms (fa_A G)
/-- what links a field -/
def fa_fld (own : String) (index ci i : Nat) (ty : FieldType) (fin : Bool) : Prop := ∃ (C : String) (T : u_T) (N : Nat) (ty0 : Nat → FieldType), vwCl[ci]? = some (C, T, N) ∧ (∀ w ∈ u_ws C T N, w ∈ fa_tbl) ∧ (∀ k, k < N → parseFieldDescriptor (T k).2.2.1 = some (ty0 k)) ∧ (∀ a, a < N → ∀ b, b < N → a ≠ b → (T a).2.1 ≠ (T b).2.1) ∧ i < N ∧ N = (fa_ks ci).length ∧ Cond.fieldLink own index C (T i).2.1 (T i).2.2.1 ∈ fa_tbl ∧ (T i).1 = C ∧ (T i).2.2.2 = fin ∧ ty0 i = ty
/-- what links a call of an object's method -/
def fa_lnV (own : String) (index : Nat) (C : String) (y : MethodName) (bytes : ByteArray) (maxL : Nat) (ret : Option FieldType) (na : Nat) : Prop :=
  Cond.methodLink own index y ∈ fa_tbl ∧ Cond.instanceMethod y ∈ fa_tbl ∧ Cond.selects C y y ∈ fa_tbl ∧ Cond.initialized C ∈ fa_tbl ∧ Cond.code y bytes maxL ret ∈ fa_tbl ∧ (y.cls = C ∧ y.cls ≠ "java/lang/invoke/MethodHandle" ∧ y.cls ≠ "java/lang/invoke/VarHandle" ∧ (parseMethodDescriptor y.desc).map (fun d => d.parameters.length) = some na)
def fa_lnS (own : String) (index : Nat) (y : MethodName) (bytes : ByteArray) (maxL : Nat) (ret : Option FieldType) (na : Nat) : Prop :=
  Cond.methodLink own index y ∈ fa_tbl ∧ Cond.static y ∈ fa_tbl ∧ Cond.initialized y.cls ∈ fa_tbl ∧ Cond.code y bytes maxL ret ∈ fa_tbl ∧ (y.cls ≠ "java/lang/invoke/MethodHandle" ∧ y.cls ≠ "java/lang/invoke/VarHandle" ∧ (parseMethodDescriptor y.desc).map (fun d => d.parameters.length) = some na)
section FAR
variable {p : Program} {l : Launch} {e : Env} {R : Room} {s : State} {m : MethodId} {args : Array Value} {below : List Frame} {meth : Method} {c : Code} {H : Heap} {locs : List Loc} {cells slots : Nat} {Q : State → Prop}
variable {G : fa_G} {n : Nat} {v : fa_V} {r : fa_R} {cc : ByteArray} {nL : Nat} {own : String} {pc : Nat} {ls : Array Slot} {rest : List Value}
/-- a method's start -/
theorem fa_start {y : MethodName} {cc : ByteArray} {maxL : Nat} {ret : Option FieldType} {rm : Room} {av : List Value} {Pc : State → Prop} {Qc : Array Value → State → Outcome → State → Prop} {mc ms : Nat} {free : Addr → Prop} (hy : plainName y.cls = true) (hlen : (lg_sl av).length ≤ maxL) (hPc : ∀ U, Pc U → fa_Pre G n v r U)
    (body : ∀ (p : Program) (e : Env) (s : State) (m : MethodId) (below : List Frame) (meth : Method) (c : Code) (ls : Array Slot), Pc s → fa_CX G p s m av.toArray c cc maxL y.cls → meth.sig.returnType = ret → meth.locks = false → meth.name = y.name → lv_has ls maxL (lv_args 0 av) → fa_HX G n v r s s.heap [] →
      W p l e rm s m av.toArray below meth c s.heap [] 0 0 (MQ below Qc av.toArray s mc ms free) (F0 m 0 ls [])) : Met l y (fa_ws y cc maxL ret) rm (va_Pc av Pc) Qc mc ms free := by
  refine Met.ofW (cc := cc) (maxL := maxL) (ret := ret) hy rfl ?_
  intro p e s m args below meth c s₁ B hml hv
  obtain ⟨rfl, hP⟩ := hv
  have hts : ∀ w ∈ fa_tbl, w.before av.toArray s = true := fun w hw => atoms_spec (ws := fa_ws y cc maxL ret) B.pre w (List.mem_cons_of_mem _ hw)
  have hl := lv_entry av (n := maxL) hlen
  rw [lg_entry_eq]
  generalize (lg_sl av ++ List.replicate (maxL - (lg_sl av).length) Slot.unset).toArray = ls at hl ⊢
  exact body p e s m below meth c ls hP ⟨⟨B.exec, B.bytes, hml, findClass_of_methodNamed B.named, hts⟩, (hPc s hP).2⟩ B.returns B.notSynchronized (name_of_methodNamed B.named B.method).1 hl ⟨(hPc s hP).1, va_S.rf⟩
theorem fa_blind (av : List Value) : FrameBlind (va_Pc av (fa_Pre G n v r)) := fun a U g mk q => ⟨q.1, q.2.1, q.2.2.call g mk a⟩
theorem fa_blindN (av : List Value) : FrameBlind (va_Pc av (fun U => fa_Pre G n v r U ∧ U.heap.size = fa_B G + n)) := fun a U g mk q => ⟨q.1, ⟨q.2.1.1, q.2.1.2.call g mk a⟩, q.2.2⟩
theorem fa_recv {k ci : Nat} {C : String} {T : u_T} {N : Nat} (E : fa_Env G s) (HX : fa_HX G n v r s H locs) (hk : k < n) (hsh : fa_sh k = .inr ci) (hc : vwCl[ci]? = some (C, T, N)) : ∃ cell : Cell, H[fa_B G + k]? = some cell ∧ cell.vm.isStatics = false ∧ s.vm.findClass C = some cell.cls := by
  have h := fa_w_get (G := G) (n := n) (v := v) (r := r) hk
  rw [hsh] at h
  exact va_recv E.1 HX.1 hc h
/-- reading a field -/
theorem fa_get {index ci i k : Nat} {ty : FieldType} {fin : Bool} (CX : fa_CX G p s m args c cc nL own) (HX : fa_HX G n v r s H locs) (F : fa_fld own index ci i ty fin) (hk : k < n) (hsh : fa_sh k = .inr ci) (hdg : decode cc pc = .ok (.getfield index, 3))
    (kk : W p l e R s m args below meth c H locs cells slots Q (F0 m (pc + 3) ls (fa_val (fa_B G) ((fa_ks ci).getD i false) (v k i) (r k i) :: rest))) : W p l e R s m args below meth c H locs cells slots Q (F0 m pc ls (.ref (fa_B G + k) :: rest)) := by
  obtain ⟨⟨hx, hb, -, hown, hts⟩, hE⟩ := CX
  obtain ⟨C, T, N, ty0, hc, hin, -, -, hi, hN, hl, hC, -, -⟩ := F
  have h := fa_w_get (G := G) (n := n) (v := v) (r := r) hk
  rw [hsh] at h
  exact va_get hx hb hts hin hown hE.1 HX.1 k h hc i hi (hts _ hl) (fun x hx => by rw [hC] at hx; exact hx) (fa_fs_get (by omega)) hdg kk
theorem fa_geti {index ci i k : Nat} {ty : FieldType} {fin : Bool} (CX : fa_CX G p s m args c cc nL own) (HX : fa_HX G n v r s H locs) (F : fa_fld own index ci i ty fin) (hk : k < n) (hsh : fa_sh k = .inr ci) (hks : (fa_ks ci).getD i false = false) (hdg : decode cc pc = .ok (.getfield index, 3))
    (kk : W p l e R s m args below meth c H locs cells slots Q (F0 m (pc + 3) ls (.int (v k i) :: rest))) : W p l e R s m args below meth c H locs cells slots Q (F0 m pc ls (.ref (fa_B G + k) :: rest)) := fa_get CX HX F hk hsh hdg (by rw [hks]; exact kk)
theorem fa_getr {index ci i k j : Nat} {ty : FieldType} {fin : Bool} (CX : fa_CX G p s m args c cc nL own) (HX : fa_HX G n v r s H locs) (F : fa_fld own index ci i ty fin) (hk : k < n) (hsh : fa_sh k = .inr ci) (hks : (fa_ks ci).getD i false = true) (hj : r k i = some j) (hdg : decode cc pc = .ok (.getfield index, 3))
    (kk : W p l e R s m args below meth c H locs cells slots Q (F0 m (pc + 3) ls (.ref (fa_B G + j) :: rest))) : W p l e R s m args below meth c H locs cells slots Q (F0 m pc ls (.ref (fa_B G + k) :: rest)) := fa_get CX HX F hk hsh hdg (by rw [hks, hj]; exact kk)
/-- writing an int field -/
theorem fa_puti {index ci i k : Nat} {ty : FieldType} {x : Int32} (CX : fa_CX G p s m args c cc nL own) (HX : fa_HX G n v r s H locs) (F : fa_fld own index ci i ty false) (hk : k < n) (hsh : fa_sh k = .inr ci) (hks : (fa_ks ci).getD i false = false) (hn : narrow ty (.int x) = .int x) (hfit : fits ty (.int x) = true) (hdg : decode cc pc = .ok (.putfield index, 3))
    (kk : ∀ (H1 : Heap) (locs1 : List Loc) (v1 : fa_V), v1 = fa_u v k i x → fa_HX G n v1 r s H1 locs1 → W p l e R s m args below meth c H1 locs1 cells slots Q (F0 m (pc + 3) ls rest)) : W p l e R s m args below meth c H locs cells slots Q (F0 m pc ls (.int x :: .ref (fa_B G + k) :: rest)) := by
  obtain ⟨⟨hx, hb, -, hown, hts⟩, hE⟩ := CX
  obtain ⟨C, T, N, ty0, hc, hin, hty, hnm, hi, hN, hl, hC, hfin, rfl⟩ := F
  have h := fa_w_get (G := G) (n := n) (v := v) (r := r) hk
  rw [hsh] at h
  refine va_put hx hb hts hin ty0 hty hnm hown hE.1 HX.1 fa_w_D HX.2 k h hc i hi (hts _ hl) (fun x hx => by rw [hC] at hx; exact hx) hfin (hty i hi) hn hfit (by rw [fa_fs_len]; omega) hdg (fun H1 locs1 hP hD hS => ?_)
  have e := fa_w_set (G := G) (n := n) (k := k) (v := v) (v1 := fa_u v k i x) (r := r) (r1 := r) (e := .inr (ci, (fa_fs (fa_B G) (fa_ks ci) (v k) (r k)).set i (.int x)))
    (by rw [hsh]; show _ = Sum.inr _; rw [fa_fs_set (v1 := fa_u v k i x k) (r1 := r k) (by rw [hks]; simp [fa_val, fa_u_s]) (fun j hj => ⟨fa_u_n _ _ (fun q => hj q.2), rfl⟩)]) (fun j hj => ⟨fa_u_k _ _ hj, rfl⟩)
  rw [e] at hP
  exact kk H1 locs1 _ rfl ⟨hP, hS⟩
theorem fa_ix {j len : Nat} (hj : j < len) (hlen : len < 2 ^ 31) : vp_in (nI j) len := vp_in_nI hj hlen
theorem fa_w_arr {k t len : Nat} (hk : k < n) (hsh : fa_sh k = .inl (t, len)) (ht : t < 3) : (fa_w G n v r)[k]? = some (fa_B G + k, .inl (fa_dA G t, len, .inl (v k))) := by
  rw [fa_w_get hk, hsh]
  simp [fa_cell, ht]
theorem fa_w_arrq {k t len : Nat} (hk : k < n) (hsh : fa_sh k = .inl (t, len)) (ht : ¬ t < 3) : (fa_w G n v r)[k]? = some (fa_B G + k, .inl (fa_dA G t, len, .inr (.inr (.inr (.inr (fun i => (r k i).map (fun j => fa_B G + j))))))) := by
  rw [fa_w_get hk, hsh]
  simp [fa_cell, ht]
theorem fa_w_arrset {k t len j : Nat} {x : Int32} (hsh : fa_sh k = .inl (t, len)) (ht : t < 3) : (fa_w G n v r).set k (fa_B G + k, .inl (fa_dA G t, len, .inl (upd (v k) j x))) = fa_w G n (fa_u v k j x) r := by
  refine fa_w_set ?_ (fun i hi => ⟨fa_u_k _ _ hi, rfl⟩)
  rw [hsh]
  simp only [fa_cell, ht, if_true]
  congr 4
  funext i
  by_cases hi : i = j
  · subst hi; simp [upd, fa_u_s]
  · simp [upd, hi, fa_u]
theorem fa_w_arrqset {k t len j q : Nat} (hsh : fa_sh k = .inl (t, len)) (ht : ¬ t < 3) : (fa_w G n v r).set k (fa_B G + k, .inl (fa_dA G t, len, .inr (.inr (.inr (.inr (va_up (fun i => (r k i).map (fun j => fa_B G + j)) j (some (fa_B G + q)))))))) = fa_w G n v (fa_u r k j (some q)) := by
  refine fa_w_set ?_ (fun i hi => ⟨rfl, fa_u_k _ _ hi⟩)
  rw [hsh]
  simp only [fa_cell, ht, if_false]
  congr 7
  funext i
  by_cases hi : i = j
  · subst hi; simp [va_up, fa_u_s]
  · simp [va_up, hi, fa_u]
theorem fa_iald {k len j : Nat} (CX : fa_CX G p s m args c cc nL own) (HX : fa_HX G n v r s H locs) (hk : k < n) (hsh : fa_sh k = .inl (0, len)) (hj : j < len) (hlen : len < 2 ^ 31) (hdg : decode cc pc = .ok (.iaload, 1))
    (kk : W p l e R s m args below meth c H locs cells slots Q (F0 m (pc + 1) ls (.int (v k j) :: rest))) : W p l e R s m args below meth c H locs cells slots Q (F0 m pc ls (.int (nI j) :: .ref (fa_B G + k) :: rest)) :=
  va_iald CX.1.1 CX.1.2.1 CX.2.1 HX.1 k 0 (fa_w_arr hk hsh (by decide)) rfl (fa_ix hj hlen) hdg (by rw [nI_clamp (by omega)]; exact kk)
theorem fa_cald {k len j : Nat} (CX : fa_CX G p s m args c cc nL own) (HX : fa_HX G n v r s H locs) (hk : k < n) (hsh : fa_sh k = .inl (1, len)) (hj : j < len) (hlen : len < 2 ^ 31) (hdg : decode cc pc = .ok (.caload, 1))
    (kk : W p l e R s m args below meth c H locs cells slots Q (F0 m (pc + 1) ls (.int (v k j) :: rest))) : W p l e R s m args below meth c H locs cells slots Q (F0 m pc ls (.int (nI j) :: .ref (fa_B G + k) :: rest)) :=
  va_cald CX.1.1 CX.1.2.1 CX.2.1 HX.1 k 1 (fa_w_arr hk hsh (by decide)) rfl (fa_ix hj hlen) hdg (by rw [nI_clamp (by omega)]; exact kk)
theorem fa_zald {k len j : Nat} (CX : fa_CX G p s m args c cc nL own) (HX : fa_HX G n v r s H locs) (hk : k < n) (hsh : fa_sh k = .inl (2, len)) (hj : j < len) (hlen : len < 2 ^ 31) (hdg : decode cc pc = .ok (.baload, 1))
    (kk : W p l e R s m args below meth c H locs cells slots Q (F0 m (pc + 1) ls (.int (v k j) :: rest))) : W p l e R s m args below meth c H locs cells slots Q (F0 m pc ls (.int (nI j) :: .ref (fa_B G + k) :: rest)) :=
  va_zald CX.1.1 CX.1.2.1 CX.2.1 HX.1 k 2 (fa_w_arr hk hsh (by decide)) rfl (fa_ix hj hlen) hdg (by rw [nI_clamp (by omega)]; exact kk)
theorem fa_iast {k len j : Nat} {x : Int32} (CX : fa_CX G p s m args c cc nL own) (HX : fa_HX G n v r s H locs) (hk : k < n) (hsh : fa_sh k = .inl (0, len)) (hj : j < len) (hlen : len < 2 ^ 31) (hdg : decode cc pc = .ok (.iastore, 1))
    (kk : ∀ (H1 : Heap) (locs1 : List Loc) (v1 : fa_V), v1 = fa_u v k j x → fa_HX G n v1 r s H1 locs1 → W p l e R s m args below meth c H1 locs1 cells slots Q (F0 m (pc + 1) ls rest)) : W p l e R s m args below meth c H locs cells slots Q (F0 m pc ls (.int x :: .int (nI j) :: .ref (fa_B G + k) :: rest)) :=
  va_iast CX.1.1 CX.1.2.1 CX.2.1 HX.1 fa_w_D HX.2 k 0 (fa_w_arr hk hsh (by decide)) rfl (fa_ix hj hlen) hdg (fun H1 locs1 hP _ hS => by
    rw [nI_clamp (by omega), fa_w_arrset hsh (by decide)] at hP
    exact kk H1 locs1 _ rfl ⟨hP, hS⟩)
theorem fa_cast {k len j : Nat} {x : Int32} (CX : fa_CX G p s m args c cc nL own) (HX : fa_HX G n v r s H locs) (hk : k < n) (hsh : fa_sh k = .inl (1, len)) (hj : j < len) (hlen : len < 2 ^ 31) (hdg : decode cc pc = .ok (.castore, 1))
    (kk : ∀ (H1 : Heap) (locs1 : List Loc) (v1 : fa_V), v1 = fa_u v k j (vp_nar .char x) → fa_HX G n v1 r s H1 locs1 → W p l e R s m args below meth c H1 locs1 cells slots Q (F0 m (pc + 1) ls rest)) : W p l e R s m args below meth c H locs cells slots Q (F0 m pc ls (.int x :: .int (nI j) :: .ref (fa_B G + k) :: rest)) :=
  va_cast CX.1.1 CX.1.2.1 CX.2.1 HX.1 fa_w_D HX.2 k 1 (fa_w_arr hk hsh (by decide)) rfl (fa_ix hj hlen) hdg (fun H1 locs1 hP _ hS => by
    rw [nI_clamp (by omega), fa_w_arrset hsh (by decide)] at hP
    exact kk H1 locs1 _ rfl ⟨hP, hS⟩)
theorem fa_zast {k len j : Nat} {x : Int32} (CX : fa_CX G p s m args c cc nL own) (HX : fa_HX G n v r s H locs) (hk : k < n) (hsh : fa_sh k = .inl (2, len)) (hj : j < len) (hlen : len < 2 ^ 31) (hdg : decode cc pc = .ok (.bastore, 1))
    (kk : ∀ (H1 : Heap) (locs1 : List Loc) (v1 : fa_V), v1 = fa_u v k j (vp_nar .boolean x) → fa_HX G n v1 r s H1 locs1 → W p l e R s m args below meth c H1 locs1 cells slots Q (F0 m (pc + 1) ls rest)) : W p l e R s m args below meth c H locs cells slots Q (F0 m pc ls (.int x :: .int (nI j) :: .ref (fa_B G + k) :: rest)) :=
  va_zast CX.1.1 CX.1.2.1 CX.2.1 HX.1 fa_w_D HX.2 k 2 (fa_w_arr hk hsh (by decide)) rfl (fa_ix hj hlen) hdg (fun H1 locs1 hP _ hS => by
    rw [nI_clamp (by omega), fa_w_arrset hsh (by decide)] at hP
    exact kk H1 locs1 _ rfl ⟨hP, hS⟩)
/-- reading a reference out of an array; t0: 3 StoredFile[], 4 State[] -/
theorem fa_aald {t k len j q : Nat} {C : String} (CX : fa_CX G p s m args c cc nL own) (HX : fa_HX G n v r s H locs) (hk : k < n) (hsh : fa_sh k = .inl (t, len)) (ht : (fa_tys (fa_dA G))[t]? = some (fa_dA G t, .object C)) (ht3 : ¬ t < 3) (hj : j < len) (hlen : len < 2 ^ 31) (hq : r k j = some q) (hdg : decode cc pc = .ok (.aaload, 1))
    (kk : W p l e R s m args below meth c H locs cells slots Q (F0 m (pc + 1) ls (.ref (fa_B G + q) :: rest))) : W p l e R s m args below meth c H locs cells slots Q (F0 m pc ls (.int (nI j) :: .ref (fa_B G + k) :: rest)) :=
  va_aldq CX.1.1 CX.1.2.1 CX.2.1 HX.1 k t (fa_w_arrq hk hsh ht3) ht (fa_ix hj hlen) hdg (by rw [nI_clamp (by omega), hq]; exact kk)
theorem fa_aast {t k len j q ci : Nat} {rc : vw_C} (CX : fa_CX G p s m args c cc nL own) (HX : fa_HX G n v r s H locs) (hk : k < n) (hsh : fa_sh k = .inl (t, len)) (ht : (fa_tys (fa_dA G))[t]? = some (fa_dA G t, .object rc.1)) (ht3 : ¬ t < 3) (hj : j < len) (hlen : len < 2 ^ 31) (hq : q < n) (hshq : fa_sh q = .inr ci) (hc : vwCl[ci]? = some rc) (hdg : decode cc pc = .ok (.aastore, 1))
    (kk : ∀ (H1 : Heap) (locs1 : List Loc) (r1 : fa_R), r1 = fa_u r k j (some q) → fa_HX G n v r1 s H1 locs1 → W p l e R s m args below meth c H1 locs1 cells slots Q (F0 m (pc + 1) ls rest)) : W p l e R s m args below meth c H locs cells slots Q (F0 m pc ls (.ref (fa_B G + q) :: .int (nI j) :: .ref (fa_B G + k) :: rest)) :=
  va_astq CX.1.1 CX.1.2.1 CX.2.1 HX.1 fa_w_D HX.2 k t q ci (fa_w_arrq hk hsh ht3) ht (by have h := fa_w_get (G := G) (v := v) (r := r) hq; rw [hshq] at h; exact h) hc (fa_ix hj hlen) hdg (fun H1 locs1 hP _ hS => by
    rw [nI_clamp (by omega), fa_w_arrqset hsh ht3] at hP
    exact kk H1 locs1 _ rfl ⟨hP, hS⟩)
/-- the ends -/
theorem fa_iret {post : Int32 → fa_V × fa_R → Prop} {x : Int32} (CX : fa_CX G p s m args c cc nL own) (HX : fa_HX G n v r s H locs) (hr : meth.sig.returnType = some .int) (hlk : meth.locks = false) (hdg : decode cc pc = .ok (.ireturn, 1)) (h : post x (v, r)) :
    W p l e R s m args below meth c H locs cells slots (MQ below (va_Qi post (fun (w : fa_V × fa_R) t => fa_Mem G n w.1 w.2 t.heap) (fa_A G)) args s cells slots (fa_A G)) (F0 m pc ls [.int x]) :=
  W.iret CX.1.1 CX.1.2.1 hr (fun t ht _ => ⟨⟨x, (v, r), rfl, h, by show fa_Mem G n v r t.heap; rw [ht]; exact HX.1⟩, HX.2.F ht⟩) HX.2.2.2 hdg hlk
theorem fa_zret {post : Int32 → fa_V × fa_R → Prop} {x : Int32} (CX : fa_CX G p s m args c cc nL own) (HX : fa_HX G n v r s H locs) (hr : meth.sig.returnType = some .boolean) (hlk : meth.locks = false) (hdg : decode cc pc = .ok (.ireturn, 1)) (hn : narrow .boolean (.int x) = .int x) (h : post x (v, r)) :
    W p l e R s m args below meth c H locs cells slots (MQ below (va_Qi post (fun (w : fa_V × fa_R) t => fa_Mem G n w.1 w.2 t.heap) (fa_A G)) args s cells slots (fa_A G)) (F0 m pc ls [.int x]) :=
  W.zret CX.1.1 CX.1.2.1 hr hn (fun t ht _ => ⟨⟨x, (v, r), rfl, h, by show fa_Mem G n v r t.heap; rw [ht]; exact HX.1⟩, HX.2.F ht⟩) HX.2.2.2 hdg hlk
theorem fa_cret {post : Int32 → fa_V × fa_R → Prop} {x : Int32} (CX : fa_CX G p s m args c cc nL own) (HX : fa_HX G n v r s H locs) (hr : meth.sig.returnType = some .char) (hlk : meth.locks = false) (hdg : decode cc pc = .ok (.ireturn, 1)) (hn : narrow .char (.int x) = .int x) (h : post x (v, r)) :
    W p l e R s m args below meth c H locs cells slots (MQ below (va_Qi post (fun (w : fa_V × fa_R) t => fa_Mem G n w.1 w.2 t.heap) (fa_A G)) args s cells slots (fa_A G)) (F0 m pc ls [.int x]) :=
  W.zret CX.1.1 CX.1.2.1 hr hn (fun t ht _ => ⟨⟨x, (v, r), rfl, h, by show fa_Mem G n v r t.heap; rw [ht]; exact HX.1⟩, HX.2.F ht⟩) HX.2.2.2 hdg hlk
theorem fa_vret {post : fa_V × fa_R → Prop} (CX : fa_CX G p s m args c cc nL own) (HX : fa_HX G n v r s H locs) (hr : meth.sig.returnType = none) (hlk : meth.locks = false) (hdg : decode cc pc = .ok (.return_, 1)) (h : post (v, r)) :
    W p l e R s m args below meth c H locs cells slots (MQ below (va_Qv post (fun (w : fa_V × fa_R) t => fa_Mem G n w.1 w.2 t.heap) (fa_A G)) args s cells slots (fa_A G)) (F0 m pc ls []) :=
  W.vret CX.1.1 CX.1.2.1 hr (fun t ht _ => ⟨⟨(v, r), rfl, h, by show fa_Mem G n v r t.heap; rw [ht]; exact HX.1⟩, HX.2.F ht⟩) HX.2.2.2 hdg hlk
theorem fa_fret {post : UInt32 → fa_V × fa_R → Prop} {x : UInt32} (CX : fa_CX G p s m args c cc nL own) (HX : fa_HX G n v r s H locs) (hr : meth.sig.returnType = some .float) (hlk : meth.locks = false) (hdg : decode cc pc = .ok (.freturn, 1)) (h : post x (v, r)) :
    W p l e R s m args below meth c H locs cells slots (MQ below (va_Qf post (fun (w : fa_V × fa_R) t => fa_Mem G n w.1 w.2 t.heap) (fa_A G)) args s cells slots (fa_A G)) (F0 m pc ls [.float x]) :=
  W.fret CX.1.1 CX.1.2.1 hr (fun t ht _ => ⟨⟨x, (v, r), rfl, h, by show fa_Mem G n v r t.heap; rw [ht]; exact HX.1⟩, HX.2.F ht⟩) HX.2.2.2 hdg hlk
/-- a reference: none is null, some j the cell at j -/
theorem fa_aret {post : Option Nat → fa_V × fa_R → Prop} {x : Option Nat} {C : String} {y : Value} (CX : fa_CX G p s m args c cc nL own) (HX : fa_HX G n v r s H locs) (hr : meth.sig.returnType = some (.object C)) (hlk : meth.locks = false) (hdg : decode cc pc = .ok (.areturn, 1)) (hy : y = va_re (fun j => fa_B G + j) x) (h : post x (v, r)) :
    W p l e R s m args below meth c H locs cells slots (MQ below (va_Qe (fun j => fa_B G + j) post (fun (w : fa_V × fa_R) t => fa_Mem G n w.1 w.2 t.heap) (fa_A G)) args s cells slots (fa_A G)) (F0 m pc ls [y]) := by
  subst hy
  exact W.aret CX.1.1 CX.1.2.1 hr (Or.inl ⟨C, rfl⟩) (va_re_or _ _) (fun t ht _ => ⟨⟨x, (v, r), rfl, h, by show fa_Mem G n v r t.heap; rw [ht]; exact HX.1⟩, HX.2.F ht⟩) HX.2.2.2 hdg hlk
/-! CALLS -/
section CALLS
variable {index k ci : Nat} {C : String} {T : u_T} {N : Nat} {y : MethodName} {bytes : ByteArray} {maxL na d : Nat} {ret : Option FieldType} {As st0 : List Value}
theorem fa_lnV.good (h : fa_lnV own index C y bytes maxL ret na) : GoodIn fa_tbl (wsV own index C y (fa_ws y bytes maxL ret)) := fa_goodIn (fun w hw => by
  obtain ⟨h1, h2, h3, h4, h5, -⟩ := h
  simp only [wsV, List.cons_append, List.nil_append, List.mem_cons] at hw
  rcases hw with rfl | rfl | rfl | rfl | rfl | hw
  · exact h1
  · exact h2
  · exact h3
  · exact h4
  · exact h5
  · exact hw)
theorem fa_runV {Qc : Array Value → State → Outcome → State → Prop} (CX : fa_CX G p s m args c cc nL own) (HX : fa_HX G n v r s H locs) (hM : Met l y (fa_ws y bytes maxL ret) (fa_rm d) (va_Pc (.ref (fa_B G + k) :: As) (fa_Pre G n v r)) Qc 0 0 (fa_A G)) (hl : fa_lnV own index C y bytes maxL ret na)
    (hk : k < n) (hsh : fa_sh k = .inr ci) (hc : vwCl[ci]? = some (C, T, N)) (hn : As.length = na) (hst : st0 = As.reverse ++ .ref (fa_B G + k) :: rest) (hW : (rest.map fun v => v.category).sum ≤ 8) (hls : ls.size = nL) (hR : d + 1 ≤ R.frames ∧ 8 + (maxL + 11) + 34 * d ≤ R.locals) (hf : cells + 0 ≤ R.cells ∧ slots + 0 ≤ R.slots) (hdg : decode cc pc = .ok (.invokevirtual index, 3)) :
    va_Run p l e R s m args below meth c H locs cells slots 0 0 (F0 m pc ls st0) rest (Qc (Value.ref (fa_B G + k) :: As).toArray) (fa_A G) :=
  va_runV CX.1 hM (cwV na CX.1.2.2.2.2 hl.good rfl rfl rfl hl.2.2.2.2.2 hR) ⟨fa_blind _, fa_recv CX.2 HX hk hsh hc, fun U hU hW => ⟨rfl, by rw [hU]; exact HX.1, CX.2.moved hW HX.2 hU⟩⟩ rfl hn hls hst (lv_room hW) hdg hf
theorem fa_callVi {post : Int32 → fa_V × fa_R → Prop} (CX : fa_CX G p s m args c cc nL own) (HX : fa_HX G n v r s H locs) (hM : fa_MI l G n y bytes maxL ret d (.ref (fa_B G + k) :: As) v r post) (hl : fa_lnV own index C y bytes maxL ret na)
    (hk : k < n) (hsh : fa_sh k = .inr ci) (hc : vwCl[ci]? = some (C, T, N)) (hn : As.length = na) (hst : st0 = As.reverse ++ .ref (fa_B G + k) :: rest) (hW : (rest.map fun v => v.category).sum ≤ 8) (hls : ls.size = nL) (hR : d + 1 ≤ R.frames ∧ 8 + (maxL + 11) + 34 * d ≤ R.locals) (hf : cells + 0 ≤ R.cells ∧ slots + 0 ≤ R.slots) (hdg : decode cc pc = .ok (.invokevirtual index, 3))
    (kk : ∀ (res : Int32) (v1 : fa_V) (r1 : fa_R) (H1 : Heap) (locs1 : List Loc), post res (v1, r1) → fa_HX G n v1 r1 s H1 locs1 → W p l e R s m args below meth c H1 locs1 cells slots Q (F0 m (pc + 3) ls (.int res :: rest))) : W p l e R s m args below meth c H locs cells slots Q (F0 m pc ls st0) :=
  va_calli (fa_runV CX HX hM hl hk hsh hc hn hst hW hls hR hf hdg) HX.2 (fun _ _ h => h) (fun _ h => h) (fun res u t H1 locs1 ht _ hp hB _ _ hS => kk res u.1 u.2 H1 locs1 hp ⟨by rw [← ht]; exact hB, hS⟩)
theorem fa_callVv {post : fa_V × fa_R → Prop} (CX : fa_CX G p s m args c cc nL own) (HX : fa_HX G n v r s H locs) (hM : fa_MV l G n y bytes maxL d (.ref (fa_B G + k) :: As) v r post) (hl : fa_lnV own index C y bytes maxL none na)
    (hk : k < n) (hsh : fa_sh k = .inr ci) (hc : vwCl[ci]? = some (C, T, N)) (hn : As.length = na) (hst : st0 = As.reverse ++ .ref (fa_B G + k) :: rest) (hW : (rest.map fun v => v.category).sum ≤ 8) (hls : ls.size = nL) (hR : d + 1 ≤ R.frames ∧ 8 + (maxL + 11) + 34 * d ≤ R.locals) (hf : cells + 0 ≤ R.cells ∧ slots + 0 ≤ R.slots) (hdg : decode cc pc = .ok (.invokevirtual index, 3))
    (kk : ∀ (v1 : fa_V) (r1 : fa_R) (H1 : Heap) (locs1 : List Loc), post (v1, r1) → fa_HX G n v1 r1 s H1 locs1 → W p l e R s m args below meth c H1 locs1 cells slots Q (F0 m (pc + 3) ls rest)) : W p l e R s m args below meth c H locs cells slots Q (F0 m pc ls st0) :=
  va_callv (fa_runV CX HX hM hl hk hsh hc hn hst hW hls hR hf hdg) HX.2 (fun _ _ h => h) (fun _ h => h) (fun u t H1 locs1 ht _ hp hB _ _ hS => kk u.1 u.2 H1 locs1 hp ⟨by rw [← ht]; exact hB, hS⟩)
theorem fa_callVr {post : Option Nat → fa_V × fa_R → Prop} (CX : fa_CX G p s m args c cc nL own) (HX : fa_HX G n v r s H locs) (hM : fa_MR l G n y bytes maxL ret d (.ref (fa_B G + k) :: As) v r post) (hl : fa_lnV own index C y bytes maxL ret na)
    (hk : k < n) (hsh : fa_sh k = .inr ci) (hc : vwCl[ci]? = some (C, T, N)) (hn : As.length = na) (hst : st0 = As.reverse ++ .ref (fa_B G + k) :: rest) (hW : (rest.map fun v => v.category).sum ≤ 8) (hls : ls.size = nL) (hR : d + 1 ≤ R.frames ∧ 8 + (maxL + 11) + 34 * d ≤ R.locals) (hf : cells + 0 ≤ R.cells ∧ slots + 0 ≤ R.slots) (hdg : decode cc pc = .ok (.invokevirtual index, 3))
    (kk : ∀ (res : Option Nat) (v1 : fa_V) (r1 : fa_R) (H1 : Heap) (locs1 : List Loc), post res (v1, r1) → fa_HX G n v1 r1 s H1 locs1 → W p l e R s m args below meth c H1 locs1 cells slots Q (F0 m (pc + 3) ls (va_re (fun j => fa_B G + j) res :: rest))) : W p l e R s m args below meth c H locs cells slots Q (F0 m pc ls st0) :=
  va_calle (fa_runV CX HX hM hl hk hsh hc hn hst hW hls hR hf hdg) HX.2 (fun _ _ h => h) (fun _ h => h) (fun res u t H1 locs1 ht _ hp hB _ _ hS => kk res u.1 u.2 H1 locs1 hp ⟨by rw [← ht]; exact hB, hS⟩)
theorem fa_callVf {post : UInt32 → fa_V × fa_R → Prop} (CX : fa_CX G p s m args c cc nL own) (HX : fa_HX G n v r s H locs) (hM : fa_MF l G n y bytes maxL d (.ref (fa_B G + k) :: As) v r post) (hl : fa_lnV own index C y bytes maxL (some .float) na)
    (hk : k < n) (hsh : fa_sh k = .inr ci) (hc : vwCl[ci]? = some (C, T, N)) (hn : As.length = na) (hst : st0 = As.reverse ++ .ref (fa_B G + k) :: rest) (hW : (rest.map fun v => v.category).sum ≤ 8) (hls : ls.size = nL) (hR : d + 1 ≤ R.frames ∧ 8 + (maxL + 11) + 34 * d ≤ R.locals) (hf : cells + 0 ≤ R.cells ∧ slots + 0 ≤ R.slots) (hdg : decode cc pc = .ok (.invokevirtual index, 3))
    (kk : ∀ (res : UInt32) (v1 : fa_V) (r1 : fa_R) (H1 : Heap) (locs1 : List Loc), post res (v1, r1) → fa_HX G n v1 r1 s H1 locs1 → W p l e R s m args below meth c H1 locs1 cells slots Q (F0 m (pc + 3) ls (.float res :: rest))) : W p l e R s m args below meth c H locs cells slots Q (F0 m pc ls st0) :=
  va_callf (fa_runV CX HX hM hl hk hsh hc hn hst hW hls hR hf hdg) HX.2 (fun _ _ h => h) (fun _ h => h) (fun res u t H1 locs1 ht _ hp hB _ _ hS => kk res u.1 u.2 H1 locs1 hp ⟨by rw [← ht]; exact hB, hS⟩)
theorem fa_lnS.good (h : fa_lnS own index y bytes maxL ret na) : GoodIn fa_tbl (va_wsS own index y (fa_ws y bytes maxL ret)) := fa_goodIn (fun w hw => by
  obtain ⟨h1, h2, h3, h4, -⟩ := h
  simp only [va_wsS, List.cons_append, List.nil_append, List.mem_cons] at hw
  rcases hw with rfl | rfl | rfl | rfl | hw
  · exact h1
  · exact h2
  · exact h3
  · exact h4
  · exact hw)
theorem fa_callSi {post : Int32 → fa_V × fa_R → Prop} (CX : fa_CX G p s m args c cc nL own) (HX : fa_HX G n v r s H locs) (hM : fa_MI l G n y bytes maxL ret d As v r post) (hl : fa_lnS own index y bytes maxL ret na)
    (hn : As.length = na) (hst : st0 = As.reverse ++ rest) (hW : (rest.map fun v => v.category).sum ≤ 8) (hls : ls.size = nL) (hR : d + 1 ≤ R.frames ∧ 8 + (maxL + 11) + 34 * d ≤ R.locals) (hf : cells + 0 ≤ R.cells ∧ slots + 0 ≤ R.slots) (hdg : decode cc pc = .ok (.invokestatic index, 3))
    (kk : ∀ (res : Int32) (v1 : fa_V) (r1 : fa_R) (H1 : Heap) (locs1 : List Loc), post res (v1, r1) → fa_HX G n v1 r1 s H1 locs1 → W p l e R s m args below meth c H1 locs1 cells slots Q (F0 m (pc + 3) ls (.int res :: rest))) : W p l e R s m args below meth c H locs cells slots Q (F0 m pc ls st0) :=
  va_calli (va_runS CX.1 hM (va_cwS na CX.1.2.2.2.2 hl.good rfl rfl rfl hl.2.2.2.2 hR) ⟨fa_blind _, fun U hU hW => ⟨rfl, by rw [hU]; exact HX.1, CX.2.moved hW HX.2 hU⟩⟩ rfl hn hls hst (lv_room hW) hdg hf) HX.2 (fun _ _ h => h) (fun _ h => h) (fun res u t H1 locs1 ht _ hp hB _ _ hS => kk res u.1 u.2 H1 locs1 hp ⟨by rw [← ht]; exact hB, hS⟩)
/-- a private static method of a nest mate -/
theorem fa_callSNi {post : Int32 → fa_V × fa_R → Prop} (CX : fa_CX G p s m args c cc nL own) (HX : fa_HX G n v r s H locs) (hM : fa_MI l G n y bytes maxL ret d As v r post) (hq : (own, index, y, RX6) ∈ fa_nM) (hl : Cond.static y ∈ fa_tbl ∧ Cond.initialized y.cls ∈ fa_tbl ∧ Cond.code y bytes maxL ret ∈ fa_tbl ∧ (y.cls ≠ "java/lang/invoke/MethodHandle" ∧ y.cls ≠ "java/lang/invoke/VarHandle" ∧ (parseMethodDescriptor y.desc).map (fun d => d.parameters.length) = some na))
    (hn : As.length = na) (hst : st0 = As.reverse ++ rest) (hW : (rest.map fun v => v.category).sum ≤ 8) (hls : ls.size = nL) (hR : d + 1 ≤ R.frames ∧ 8 + (maxL + 11) + 34 * d ≤ R.locals) (hf : cells + 0 ≤ R.cells ∧ slots + 0 ≤ R.slots) (hdg : decode cc pc = .ok (.invokestatic index, 3))
    (kk : ∀ (res : Int32) (v1 : fa_V) (r1 : fa_R) (H1 : Heap) (locs1 : List Loc), post res (v1, r1) → fa_HX G n v1 r1 s H1 locs1 → W p l e R s m args below meth c H1 locs1 cells slots Q (F0 m (pc + 3) ls (.int res :: rest))) : W p l e R s m args below meth c H locs cells slots Q (F0 m pc ls st0) :=
  va_calli (va_runSN CX.1 hM ⟨va_cnB na CX.1.2.2.2.2 (fa_goodIn (fun w hw => by
    rcases List.mem_cons.mp hw with rfl | hw
    · exact hl.2.2.1
    · exact hw)) rfl rfl rfl (CX.2.2.1 _ hq) (CX.1.2.2.2.2 _ hl.2.1) hl.2.2.2 hR, CX.1.2.2.2.2 _ hl.1, trivial⟩ ⟨fa_blind _, fun U hU hW => ⟨rfl, by rw [hU]; exact HX.1, CX.2.moved hW HX.2 hU⟩⟩ rfl hn hls hst (lv_room hW) hdg hf) HX.2 (fun _ _ h => h) (fun _ h => h) (fun res u t H1 locs1 ht _ hp hB _ _ hS => kk res u.1 u.2 H1 locs1 hp ⟨by rw [← ht]; exact hB, hS⟩)
end CALLS
end FAR
