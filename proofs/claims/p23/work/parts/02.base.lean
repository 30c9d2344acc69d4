/-! THE FLAT MEMORY. All cells of the run stand at B, B+1, B+2 ..: the class's and the reference's, in the order in which they are made. A cell at the position k has a fixed shape fa_sh k: an array (type's place in fa_tys, length) or an object (class's place in vwCl); v k i: its ints by index, r k i: its references, as positions. -/
abbrev fa_V : Type := Nat → Nat → Int32
abbrev fa_R : Type := Nat → Nat → Option Nat
/-- constants of a run: classes' ids and slots; array classes' ids; B; the static arrays' addresses -/
abbrev fa_G : Type := va_G × (Nat → ClassId) × Nat × (Nat → Nat)
abbrev fa_D (G : fa_G) : va_G := G.1
abbrev fa_dA (G : fa_G) : Nat → ClassId := G.2.1
abbrev fa_B (G : fa_G) : Nat := G.2.2.1
abbrev fa_st (G : fa_G) : Nat → Nat := G.2.2.2
/-- which fields of a class hold references -/
def fa_ks : Nat → List Bool := fun c => match c with
  | 0 => [false, true]
  | 1 => [true, false, false, false, false, false]
  | 2 => [false, true, true]
  | 3 => [false, false, false, false, false, false, false, false, true, true, true, true]
  | 4 => [false, false, false, false, false, false, false, true, false]
  | 5 => [false, true]
  | 6 => [true, true, true, true, false, false, false]
  | _ => [true, true, true, true, true, true, true, true, false, false, false, false, false]
/-- the shape of the State at b by offset: 0 State, 1 files, 2 Reservations, 3 files, 4 days, 5 Traces, 6 cells, 7 settings, 8+2j StoredFile j, 9+2j its sealEnds -/
def fa_shS (o : Nat) : Nat × Nat ⊕ Nat := match o with
  | 0 => .inr 3
  | 1 => .inl (3, 24)
  | 2 => .inr 2
  | 3 => .inl (0, 8)
  | 4 => .inl (0, 8)
  | 5 => .inr 5
  | 6 => .inl (0, 60)
  | 7 => .inl (0, 7)
  | o + 8 => if o % 2 = 0 then .inr 4 else .inl (0, 8)
/-- 0 the archive; 1.. state; 57.. future; 113 History, 114 its states, 115+56i the i-th made; 395 OrderText, 396 its signs; 397 the reference, 398 s, 399 spare, 400 trial, 401 before, 402 stay, 403 read, 404 report, 405 text -/
def fa_sh (k : Nat) : Nat × Nat ⊕ Nat :=
  if k = 0 then .inr 6 else if k < 113 then fa_shS ((k - 1) % 56) else if k = 113 then .inr 0 else if k = 114 then .inl (4, 5)
  else if k < 395 then fa_shS ((k - 115) % 56) else match k with
  | 395 => .inr 1
  | 396 => .inl (1, 60)
  | 397 => .inr 7
  | 398 => .inl (0, 453)
  | 399 => .inl (0, 453)
  | 400 => .inl (0, 453)
  | 401 => .inl (0, 1812)
  | 402 => .inl (2, 24)
  | 403 => .inl (0, 124)
  | 404 => .inl (0, 3)
  | _ => .inl (1, 60)
def fa_tys (dA : Nat → ClassId) : List (ClassId × FieldType) := [(dA 0, .int), (dA 1, .char), (dA 2, .boolean), (dA 3, .object RX4), (dA 4, .object RX3)]
def fa_val (B : Nat) (isRef : Bool) (x : Int32) (q : Option Nat) : Value := if isRef then va_rf (q.map (fun j => B + j)) else .int x
def fa_fs (B : Nat) (ks : List Bool) (v : Nat → Int32) (r : Nat → Option Nat) : List Value := (List.range ks.length).map (fun i => fa_val B (ks.getD i false) (v i) (r i))
def fa_cell (G : fa_G) (sh : Nat × Nat ⊕ Nat) (v : Nat → Int32) (r : Nat → Option Nat) : va_E := match sh with
  | .inl (t, len) => .inl (fa_dA G t, len, if t < 3 then .inl v else .inr (.inr (.inr (.inr (fun i => (r i).map (fun j => fa_B G + j))))))
  | .inr ci => .inr (ci, fa_fs (fa_B G) (fa_ks ci) v r)
def fa_w (G : fa_G) (n : Nat) (v : fa_V) (r : fa_R) : va_W := (List.range n).map (fun k => (fa_B G + k, fa_cell G (fa_sh k) (v k) (r k)))
def fa_A (G : fa_G) : Nat → Prop := fun q => fa_B G ≤ q
/-- writing one place of a two-dimensional table -/
def fa_u {α : Type} (v : Nat → Nat → α) (k i : Nat) (x : α) : Nat → Nat → α := fun k' i' => if k' = k ∧ i' = i then x else v k' i'
theorem fa_u_s {α : Type} (v : Nat → Nat → α) (k i : Nat) (x : α) : fa_u v k i x k i = x := by simp [fa_u]
theorem fa_u_n {α : Type} (v : Nat → Nat → α) {k i k' i' : Nat} (x : α) (h : ¬ (k' = k ∧ i' = i)) : fa_u v k i x k' i' = v k' i' := by simp [fa_u, h]
theorem fa_u_k {α : Type} (v : Nat → Nat → α) {k i k' : Nat} (x : α) (h : k' ≠ k) : fa_u v k i x k' = v k' := by funext j; simp [fa_u, h]
theorem fa_u_row {α : Type} (v : Nat → Nat → α) (k i : Nat) (x : α) : fa_u v k i x k = fun j => if j = i then x else v k j := by funext j; simp [fa_u]
theorem fa_w_get {G : fa_G} {n k : Nat} {v : fa_V} {r : fa_R} (h : k < n) : (fa_w G n v r)[k]? = some (fa_B G + k, fa_cell G (fa_sh k) (v k) (r k)) := by
  simp [fa_w, h]
theorem fa_w_len {G : fa_G} {n : Nat} {v : fa_V} {r : fa_R} : (fa_w G n v r).length = n := by simp [fa_w]
theorem fa_w_set {G : fa_G} {n k : Nat} {v v1 : fa_V} {r r1 : fa_R} {e : va_E} (he : e = fa_cell G (fa_sh k) (v1 k) (r1 k)) (ho : ∀ j, j ≠ k → v1 j = v j ∧ r1 j = r j) : (fa_w G n v r).set k (fa_B G + k, e) = fa_w G n v1 r1 := by
  apply List.ext_getElem?
  intro j
  by_cases hj : j < n
  · by_cases hk : j = k
    · subst hk
      rw [List.getElem?_set_self (by rw [fa_w_len]; exact hj), fa_w_get hj, he]
    · rw [List.getElem?_set_ne (Ne.symm hk), fa_w_get hj, fa_w_get hj, (ho j hk).1, (ho j hk).2]
  · rw [List.getElem?_eq_none (by rw [List.length_set, fa_w_len]; omega), List.getElem?_eq_none (by rw [fa_w_len]; omega)]
theorem fa_w_inv {G : fa_G} {n k : Nat} {v : fa_V} {r : fa_R} {q : Nat × va_E} (h : (fa_w G n v r)[k]? = some q) : k < n ∧ q = (fa_B G + k, fa_cell G (fa_sh k) (v k) (r k)) := by
  have hk : k < n := by
    have := (List.getElem?_eq_some_iff.mp h).1
    rw [fa_w_len] at this
    exact this
  rw [fa_w_get hk] at h
  exact ⟨hk, (Option.some.inj h).symm⟩
theorem fa_w_D {G : fa_G} {n : Nat} {v : fa_V} {r : fa_R} : va_D (fa_A G) (fa_w G n v r) := by
  refine ⟨fun i j x y hx hy hxy => ?_, fun k q hk => ?_⟩
  · obtain ⟨-, rfl⟩ := fa_w_inv hx
    obtain ⟨-, rfl⟩ := fa_w_inv hy
    have : fa_B G + i = fa_B G + j := hxy
    omega
  · obtain ⟨-, rfl⟩ := fa_w_inv hk
    exact Nat.le_add_right _ _
theorem fa_fs_get {B : Nat} {ks : List Bool} {v : Nat → Int32} {r : Nat → Option Nat} {i : Nat} (h : i < ks.length) : (fa_fs B ks v r)[i]? = some (fa_val B (ks.getD i false) (v i) (r i)) := by
  simp [fa_fs, h]
theorem fa_fs_len {B : Nat} {ks : List Bool} {v : Nat → Int32} {r : Nat → Option Nat} : (fa_fs B ks v r).length = ks.length := by simp [fa_fs]
theorem fa_fs_set {B : Nat} {ks : List Bool} {v v1 : Nat → Int32} {r r1 : Nat → Option Nat} {i : Nat} {x : Value} (hx : x = fa_val B (ks.getD i false) (v1 i) (r1 i)) (ho : ∀ j, j ≠ i → v1 j = v j ∧ r1 j = r j) : (fa_fs B ks v r).set i x = fa_fs B ks v1 r1 := by
  apply List.ext_getElem?
  intro j
  by_cases hj : j < ks.length
  · by_cases hk : j = i
    · subst hk
      rw [List.getElem?_set_self (by rw [fa_fs_len]; exact hj), fa_fs_get hj, hx]
    · rw [List.getElem?_set_ne (Ne.symm hk), fa_fs_get hj, fa_fs_get hj, (ho j hk).1, (ho j hk).2]
  · rw [List.getElem?_eq_none (by rw [List.length_set, fa_fs_len]; omega), List.getElem?_eq_none (by rw [fa_fs_len]; omega)]
/-! THE WORDS: one list for all methods. -/
def fa_tbl : List Cond := lw_tbl.filter goodWord
theorem fa_tbl_sub : ∀ w ∈ fa_tbl, w ∈ lw_tbl := fun _ h => (List.mem_filter.mp h).1
theorem fa_in {w : Cond} (i : Nat) (h : tables_1[i]? = some w) (hg : goodWord w = true) : w ∈ fa_tbl := List.mem_filter.mpr ⟨List.mem_append_right _ (List.mem_of_getElem? h), hg⟩
theorem fa_inS {w : Cond} (i : Nat) (h : (k2_sels lw_privs)[i]? = some w) (hg : goodWord w = true) : w ∈ fa_tbl := List.mem_filter.mpr ⟨List.mem_append_left _ (List.mem_of_getElem? h), hg⟩
theorem fa_good {w : Cond} (h : w ∈ fa_tbl) : (w.onTables && w.keeps) = true ∨ ∃ ty, w = .arrayClass ty := good_of_word (List.mem_filter.mp h).2
theorem fa_goodIn {ws : List Cond} (h : ∀ w ∈ ws, w ∈ fa_tbl) : GoodIn fa_tbl ws := fun w hw => ⟨h w hw, fa_good (h w hw)⟩
/-- words of nest mates, and what else a state has that no method changes -/
def fa_nM : List (String × Nat × MethodName × String) := [(RX3, 19, yX2_init, RX6), (RX3, 26, yX5_init, RX6), (RX3, 35, yX4_init, RX6), (RX6, 28, yX1_init, RX6), (RX3, 98, yX6_isNoHolder, RX6), (RX3, 138, yX6_isNoSetting, RX6)]
def fa_nF : List (String × Nat × String × String × String × String) := [(RX3, 36, RX6, "FIRST_VALUES", "[I", RX6), (RX3, 141, RX6, "LOWEST_VALUES", "[I", RX6), (RX3, 144, RX6, "HIGHEST_VALUES", "[I", RX6)]
def fa_stN (j : Nat) : String := match j with
  | 0 => "FIRST_VALUES"
  | 1 => "LOWEST_VALUES"
  | _ => "HIGHEST_VALUES"
def fa_stV (j : Nat) (i : Nat) : Int32 := match j with
  | 0 => (match i with | 0 => 90 | 1 => 180 | 2 => 360 | 3 => 720 | 4 => 1440 | 5 => 3 | _ => 300)
  | 1 => (match i with | 5 => 1 | 6 => 50 | _ => 30)
  | _ => (match i with | 5 => 20 | 6 => 600 | _ => 2000)
def fa_Stat (G : fa_G) (U : State) (H : Heap) (j : Nat) : Prop := va_Z RX6 (fa_stN j) "[I" (.ref (fa_st G j)) (fa_A G) U H ∧ va_X (fa_st G j) 7 (fa_stV j) U H ∧ fa_st G j < fa_B G
def fa_Env (G : fa_G) (U : State) : Prop := va_K (fa_D G) vwCl (fa_tys (fa_dA G)) U ∧ (∀ q ∈ fa_nM, va_Nw (.methodLinkNest q.1 q.2.1 q.2.2.1 q.2.2.2) U) ∧ (∀ q ∈ fa_nF, va_Nw (.fieldLinkNest q.1 q.2.1 q.2.2.1 q.2.2.2.1 q.2.2.2.2.1 q.2.2.2.2.2) U) ∧ va_AO RX4 U ∧ va_AO RX3 U ∧ (∀ j, j < 3 → fa_Stat G U U.heap j) ∧ fa_B G ≤ U.heap.size
theorem fa_Env.moved {G : fa_G} {s U : State} {H : Heap} {locs : List Loc} (h : fa_Env G s) (hW : s.WarmedH U.vm) (hS : va_S (fa_A G) s.heap H locs) (hU : U.heap = H) : fa_Env G U := by
  obtain ⟨h1, h2, h3, h4, h5, h6, h7⟩ := h
  refine ⟨va_K.moved hW.alike h1, fun q hq => va_Nw.warmM hW (h2 q hq), fun q hq => va_Nw.warmF hW (h3 q hq), va_AO.moved hW.alike h4, va_AO.moved hW.alike h5, fun j hj => ?_, by rw [hU]; exact Nat.le_trans h7 hS.1⟩
  obtain ⟨z, x, b⟩ := h6 j hj
  have hk : ∀ a : Nat, a < s.heap.size → ¬ fa_A G a → U.heap[a]? = s.heap[a]? := fun a h1 h2 => by rw [hU]; exact hS.2.1 a h1 h2
  exact ⟨va_Z.moved hW.alike (z.kept hk), va_X.moved hW.alike (x.kept (hk _ (Nat.lt_of_lt_of_le b h7) (Nat.not_le.mpr b))), b⟩
theorem fa_Env.call {G : fa_G} {U : State} (h : fa_Env G U) (g : JFrame) (mk : MethodId) (a : Array Value) : fa_Env G (U.calling g mk a) := by
  obtain ⟨h1, h2, h3, h4, h5, h6, h7⟩ := h
  refine ⟨va_K.moved (u := U) (U := U.calling g mk a) (Vm.Alike.refl U.vm) h1, fun q hq => ?_, fun q hq => ?_, va_AO.moved (u := U) (U := U.calling g mk a) (Vm.Alike.refl U.vm) h4, va_AO.moved (u := U) (U := U.calling g mk a) (Vm.Alike.refl U.vm) h5, fun j hj => ?_, h7⟩
  · exact va_Nw.same rfl (u := U) (U := U.calling g mk a) rfl (h2 q hq)
  · exact va_Nw.same rfl (u := U) (U := U.calling g mk a) rfl (h3 q hq)
  · obtain ⟨z, x, b⟩ := h6 j hj
    exact ⟨va_Z.moved (u := U) (U := U.calling g mk a) (Vm.Alike.refl U.vm) z, va_X.moved (u := U) (U := U.calling g mk a) (Vm.Alike.refl U.vm) x, b⟩
