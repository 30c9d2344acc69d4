theorem fa_Xof {args : Array Value} {s : State} {tm : Term} {f : Nat → Int32} (harr : (Cond.arrayOf tm .int).before args s = true) (hlen : (Term.length tm).eval args s none [] s = some (.int 7)) (hel : ∀ j : Nat, j < 7 → (Term.elem tm (.int (Int32.ofNat j))).eval args s none [] s = some (.int (f j))) : ∃ t : Nat, tm.eval args s none [] s = some (.ref t) ∧ va_X t 7 f s s.heap ∧ t < s.heap.size := by
  obtain ⟨t, cell, ht, hat, hv⟩ := Term.length_spec hlen
  have hsz : cell.slots.size < 2 ^ 31 := by
    have hl := hlen
    simp only [Term.eval, ht, hat, Option.bind_eq_bind, Option.bind_some] at hl
    by_cases hlt : cell.slots.size < 2147483648
    · exact hlt
    · simp [hlt] at hl
  obtain ⟨hcell, hkn, -, -⟩ := State.arrayAt?_spec hat
  obtain ⟨hof, -⟩ := Cond.arrayOf_spec harr ht hcell
  have hs7 : cell.slots.size = 7 := by
    have e : nI cell.slots.size = nI 7 := (Value.int.inj hv).symm
    exact (nI_eq hsz (by decide)).mp e
  refine ⟨t, ht, ⟨cell, hcell, hof, hkn, hs7, fun j hj => ?_⟩, (Array.getElem?_eq_some_iff.mp hcell).1⟩
  obtain ⟨a, i, cell2, h1, h2, h3, h4, h5⟩ := Term.elem_spec (hel j hj)
  cases ht.symm.trans h1
  cases hat.symm.trans h3
  have hi : i = Int32.ofNat j := by
    have e : (Term.int (Int32.ofNat j)).eval args s none [] s = some (.int (Int32.ofNat j)) := rfl
    cases h2.symm.trans e
    rfl
  have hc : i.toNatClampNeg = j := by rw [hi]; exact Int32.toNatClampNeg_ofNat_of_lt (by omega)
  rw [hc] at h5
  exact h5
theorem fa_prim {args : Array Value} {s : State} {ty : FieldType} (hp : ∀ C, ty ≠ .object C) (h : (Cond.arrayClass ty).before args s = true) : ∃ c : ClassId, ArrOfT s c ty ∧ va_RA s c ty := by
  obtain ⟨c, k, comp, h1, h2, h3⟩ := Cond.arrayClass_spec h
  refine ⟨c, fun n z => ⟨(fun k h => by cases h), k, h2, comp, h3⟩, ?_⟩
  cases ty with
  | object C => exact absurd rfl (hp C)
  | _ => exact h1
theorem fa_over {args : Array Value} {s : State} {C : String} (h : (Cond.arrayOver (.object C)).before args s = true) : ∃ c : ClassId, ArrOfT s c (.object C) ∧ va_RA s c (.object C) := by
  obtain ⟨comp, c, k, h1, h2, h3, h4, h5⟩ := Cond.arrayOver_spec h
  exact ⟨c, fun n z => ⟨(fun k h => by cases h), k, h3, comp, h4⟩, k, comp, h3, h4, h1, h5⟩
theorem fa_classes {s : State} {args : Array Value} (hts : ∀ w ∈ fa_tbl, w.before args s = true) : ∃ D : va_G, ∀ (k : Nat) (q : vw_C), vwCl[k]? = some q → u_Kn s q.1 q.2.1 q.2.2 (D.1 k) (D.2 k) := by
  have h : ∀ k : Nat, ∃ p : ClassId × (Nat → Nat), ∀ q : vw_C, vwCl[k]? = some q → u_Kn s q.1 q.2.1 q.2.2 p.1 p.2 := by
    intro k
    match k with
    | 0 =>
      obtain ⟨c, i, hc⟩ := u_known (C := RX0) (T := TX0) (N := 2) (n := 2) hts fa_ly_X0 (hts (.instantiable RX0 2) (fa_in 173 (by decide +kernel) (by decide +kernel)))
      exact ⟨(c, i), fun q hq => by cases hq; exact hc⟩
    | 1 =>
      obtain ⟨c, i, hc⟩ := u_known (C := RX1) (T := TX1) (N := 6) (n := 6) hts fa_ly_X1 (hts (.instantiable RX1 6) (fa_in 190 (by decide +kernel) (by decide +kernel)))
      exact ⟨(c, i), fun q hq => by cases hq; exact hc⟩
    | 2 =>
      obtain ⟨c, i, hc⟩ := u_known (C := RX2) (T := TX2) (N := 3) (n := 3) hts fa_ly_X2 (hts (.instantiable RX2 3) (fa_in 28 (by decide +kernel) (by decide +kernel)))
      exact ⟨(c, i), fun q hq => by cases hq; exact hc⟩
    | 3 =>
      obtain ⟨c, i, hc⟩ := u_known (C := RX3) (T := TX3) (N := 12) (n := 12) hts fa_ly_X3 (hts (.instantiable RX3 12) (fa_in 20 (by decide +kernel) (by decide +kernel)))
      exact ⟨(c, i), fun q hq => by cases hq; exact hc⟩
    | 4 =>
      obtain ⟨c, i, hc⟩ := u_known (C := RX4) (T := TX4) (N := 9) (n := 9) hts fa_ly_X4 (hts (.instantiable RX4 9) (fa_in 64 (by decide +kernel) (by decide +kernel)))
      exact ⟨(c, i), fun q hq => by cases hq; exact hc⟩
    | 5 =>
      obtain ⟨c, i, hc⟩ := u_known (C := RX5) (T := TX5) (N := 2) (n := 2) hts fa_ly_X5 (hts (.instantiable RX5 2) (fa_in 51 (by decide +kernel) (by decide +kernel)))
      exact ⟨(c, i), fun q hq => by cases hq; exact hc⟩
    | 6 =>
      obtain ⟨c, i, hc⟩ := u_known (C := RX6) (T := TX6) (N := 7) (n := 7) hts fa_ly_X6 (hts (.instantiable RX6 7) (fa_in 12 (by decide +kernel) (by decide +kernel)))
      exact ⟨(c, i), fun q hq => by cases hq; exact hc⟩
    | k + 7 => exact ⟨(0, fun _ => 0), fun q hq => by simp [vwCl] at hq⟩
  exact ⟨(fun k => (Classical.choose (h k)).1, fun k => (Classical.choose (h k)).2), fun k q hq => Classical.choose_spec (h k) q hq⟩
theorem fa_stat_0 {s : State} {args : Array Value} (hs : ∀ w ∈ flatC (Jvm.Cond.and given_1 narrow_1), w.before args s = true) (hl : (Cond.laysStatic "ForgettingArchive" "FIRST_VALUES" "[I").before args s = true) (hi : (Cond.initialized "ForgettingArchive").before args s = true) : ∃ t : Nat, (∀ A : Nat → Prop, (∀ a : Nat, a < s.heap.size → ¬ A a) → va_Z RX6 (fa_stN 0) "[I" (.ref t) A s s.heap) ∧ va_X t 7 (fa_stV 0) s s.heap ∧ t < s.heap.size := by
  obtain ⟨t, h1, h2, h3⟩ := fa_Xof (tm := (Term.static "ForgettingArchive" "FIRST_VALUES" "[I")) (f := fa_stV 0) (hs _ (by decide +kernel)) (va_eqt (hs _ (by decide +kernel))) (fun j hj => by
    rcases fa_seven hj with z | z | z | z | z | z | z <;> subst z
    · exact va_eqt (t := .elem (Term.static "ForgettingArchive" "FIRST_VALUES" "[I") (.int 0)) (z := 90) (hs _ (by decide +kernel))
    · exact va_eqt (t := .elem (Term.static "ForgettingArchive" "FIRST_VALUES" "[I") (.int 1)) (z := 180) (hs _ (by decide +kernel))
    · exact va_eqt (t := .elem (Term.static "ForgettingArchive" "FIRST_VALUES" "[I") (.int 2)) (z := 360) (hs _ (by decide +kernel))
    · exact va_eqt (t := .elem (Term.static "ForgettingArchive" "FIRST_VALUES" "[I") (.int 3)) (z := 720) (hs _ (by decide +kernel))
    · exact va_eqt (t := .elem (Term.static "ForgettingArchive" "FIRST_VALUES" "[I") (.int 4)) (z := 1440) (hs _ (by decide +kernel))
    · exact va_eqt (t := .elem (Term.static "ForgettingArchive" "FIRST_VALUES" "[I") (.int 5)) (z := 3) (hs _ (by decide +kernel))
    · exact va_eqt (t := .elem (Term.static "ForgettingArchive" "FIRST_VALUES" "[I") (.int 6)) (z := 300) (hs _ (by decide +kernel)))
  exact ⟨t, fun A hA => va_Zof hl hi h1 hA, h2, h3⟩
theorem fa_stat_1 {s : State} {args : Array Value} (hs : ∀ w ∈ flatC (Jvm.Cond.and given_1 narrow_1), w.before args s = true) (hl : (Cond.laysStatic "ForgettingArchive" "LOWEST_VALUES" "[I").before args s = true) (hi : (Cond.initialized "ForgettingArchive").before args s = true) : ∃ t : Nat, (∀ A : Nat → Prop, (∀ a : Nat, a < s.heap.size → ¬ A a) → va_Z RX6 (fa_stN 1) "[I" (.ref t) A s s.heap) ∧ va_X t 7 (fa_stV 1) s s.heap ∧ t < s.heap.size := by
  obtain ⟨t, h1, h2, h3⟩ := fa_Xof (tm := (Term.static "ForgettingArchive" "LOWEST_VALUES" "[I")) (f := fa_stV 1) (hs _ (by decide +kernel)) (va_eqt (hs _ (by decide +kernel))) (fun j hj => by
    rcases fa_seven hj with z | z | z | z | z | z | z <;> subst z
    · exact va_eqt (t := .elem (Term.static "ForgettingArchive" "LOWEST_VALUES" "[I") (.int 0)) (z := 30) (hs _ (by decide +kernel))
    · exact va_eqt (t := .elem (Term.static "ForgettingArchive" "LOWEST_VALUES" "[I") (.int 1)) (z := 30) (hs _ (by decide +kernel))
    · exact va_eqt (t := .elem (Term.static "ForgettingArchive" "LOWEST_VALUES" "[I") (.int 2)) (z := 30) (hs _ (by decide +kernel))
    · exact va_eqt (t := .elem (Term.static "ForgettingArchive" "LOWEST_VALUES" "[I") (.int 3)) (z := 30) (hs _ (by decide +kernel))
    · exact va_eqt (t := .elem (Term.static "ForgettingArchive" "LOWEST_VALUES" "[I") (.int 4)) (z := 30) (hs _ (by decide +kernel))
    · exact va_eqt (t := .elem (Term.static "ForgettingArchive" "LOWEST_VALUES" "[I") (.int 5)) (z := 1) (hs _ (by decide +kernel))
    · exact va_eqt (t := .elem (Term.static "ForgettingArchive" "LOWEST_VALUES" "[I") (.int 6)) (z := 50) (hs _ (by decide +kernel)))
  exact ⟨t, fun A hA => va_Zof hl hi h1 hA, h2, h3⟩
theorem fa_stat_2 {s : State} {args : Array Value} (hs : ∀ w ∈ flatC (Jvm.Cond.and given_1 narrow_1), w.before args s = true) (hl : (Cond.laysStatic "ForgettingArchive" "HIGHEST_VALUES" "[I").before args s = true) (hi : (Cond.initialized "ForgettingArchive").before args s = true) : ∃ t : Nat, (∀ A : Nat → Prop, (∀ a : Nat, a < s.heap.size → ¬ A a) → va_Z RX6 (fa_stN 2) "[I" (.ref t) A s s.heap) ∧ va_X t 7 (fa_stV 2) s s.heap ∧ t < s.heap.size := by
  obtain ⟨t, h1, h2, h3⟩ := fa_Xof (tm := (Term.static "ForgettingArchive" "HIGHEST_VALUES" "[I")) (f := fa_stV 2) (hs _ (by decide +kernel)) (va_eqt (hs _ (by decide +kernel))) (fun j hj => by
    rcases fa_seven hj with z | z | z | z | z | z | z <;> subst z
    · exact va_eqt (t := .elem (Term.static "ForgettingArchive" "HIGHEST_VALUES" "[I") (.int 0)) (z := 2000) (hs _ (by decide +kernel))
    · exact va_eqt (t := .elem (Term.static "ForgettingArchive" "HIGHEST_VALUES" "[I") (.int 1)) (z := 2000) (hs _ (by decide +kernel))
    · exact va_eqt (t := .elem (Term.static "ForgettingArchive" "HIGHEST_VALUES" "[I") (.int 2)) (z := 2000) (hs _ (by decide +kernel))
    · exact va_eqt (t := .elem (Term.static "ForgettingArchive" "HIGHEST_VALUES" "[I") (.int 3)) (z := 2000) (hs _ (by decide +kernel))
    · exact va_eqt (t := .elem (Term.static "ForgettingArchive" "HIGHEST_VALUES" "[I") (.int 4)) (z := 2000) (hs _ (by decide +kernel))
    · exact va_eqt (t := .elem (Term.static "ForgettingArchive" "HIGHEST_VALUES" "[I") (.int 5)) (z := 20) (hs _ (by decide +kernel))
    · exact va_eqt (t := .elem (Term.static "ForgettingArchive" "HIGHEST_VALUES" "[I") (.int 6)) (z := 600) (hs _ (by decide +kernel)))
  exact ⟨t, fun A hA => va_Zof hl hi h1 hA, h2, h3⟩
theorem fa_env0 {s : State} {args : Array Value} (hts : ∀ w ∈ lw_tbl, w.before args s = true) (hgv : (Jvm.Cond.and given_1 narrow_1).before args s = true) : ∃ G : fa_G, fa_B G = s.heap.size ∧ fa_Env G s := by
  have hs := flat_of_before _ hgv
  have ht2 : ∀ w ∈ fa_tbl, w.before args s = true := fun w hw => hts w (fa_tbl_sub w hw)
  obtain ⟨D, hD⟩ := fa_classes ht2
  obtain ⟨c0, a0, b0⟩ := fa_prim (s := s) (ty := .int) (fun C h => by cases h) (hts (.arrayClass .int) (List.mem_append_right _ (List.mem_of_getElem? (i := 49) (by decide +kernel))))
  obtain ⟨c1, a1, b1⟩ := fa_prim (s := s) (ty := .char) (fun C h => by cases h) (hts (.arrayClass .char) (List.mem_append_right _ (List.mem_of_getElem? (i := 218) (by decide +kernel))))
  obtain ⟨c2, a2, b2⟩ := fa_prim (s := s) (ty := .char) (fun C h => by cases h) (hts (.arrayClass .char) (List.mem_append_right _ (List.mem_of_getElem? (i := 218) (by decide +kernel))))
  have o3 := hts (.arrayOver (.object RX4)) (List.mem_append_right _ (List.mem_of_getElem? (i := 26) (by decide +kernel)))
  have o4 := hts (.arrayOver (.object RX3)) (List.mem_append_right _ (List.mem_of_getElem? (i := 179) (by decide +kernel)))
  obtain ⟨c3, a3, b3⟩ := fa_over o3
  obtain ⟨c4, a4, b4⟩ := fa_over o4
  obtain ⟨t0, z0, x0, l0⟩ := fa_stat_0 hs (hts _ (List.mem_append_right _ (List.mem_of_getElem? (i := 119) (by decide +kernel)))) (hts _ (List.mem_append_right _ (List.mem_of_getElem? (i := 1) (by decide +kernel))))
  obtain ⟨t1, z1, x1, l1⟩ := fa_stat_1 hs (hts _ (List.mem_append_right _ (List.mem_of_getElem? (i := 583) (by decide +kernel)))) (hts _ (List.mem_append_right _ (List.mem_of_getElem? (i := 1) (by decide +kernel))))
  obtain ⟨t2, z2, x2, l2⟩ := fa_stat_2 hs (hts _ (List.mem_append_right _ (List.mem_of_getElem? (i := 585) (by decide +kernel)))) (hts _ (List.mem_append_right _ (List.mem_of_getElem? (i := 1) (by decide +kernel))))
  let dA : Nat → ClassId := fun k => match k with | 0 => c0 | 1 => c1 | 2 => c2 | 3 => c3 | _ => c4
  let st : Nat → Nat := fun k => match k with | 0 => t0 | 1 => t1 | _ => t2
  refine ⟨(D, dA, s.heap.size, st), rfl, ⟨hD, fun k q hq => ?_⟩, fun q hq => ?_, fun q hq => ?_, va_AO.of o3, va_AO.of o4, fun j hj => ?_, Nat.le_refl _⟩
  · match k, hq with
    | 0, hq => cases hq; exact ⟨a0, b0⟩
    | 1, hq => cases hq; exact ⟨a1, b1⟩
    | 2, hq => cases hq; exact ⟨a2, b2⟩
    | 3, hq => cases hq; exact ⟨a3, b3⟩
    | 4, hq => cases hq; exact ⟨a4, b4⟩
    | k + 5, hq => simp [fa_tys] at hq
  · simp only [fa_nM, List.mem_cons, List.not_mem_nil, or_false] at hq
    rcases hq with rfl | rfl | rfl | rfl | rfl | rfl
    · exact va_Nw.of rfl (hts _ (List.mem_append_right _ (List.mem_of_getElem? (i := 29) (by decide +kernel))))
    · exact va_Nw.of rfl (hts _ (List.mem_append_right _ (List.mem_of_getElem? (i := 52) (by decide +kernel))))
    · exact va_Nw.of rfl (hts _ (List.mem_append_right _ (List.mem_of_getElem? (i := 65) (by decide +kernel))))
    · exact va_Nw.of rfl (hts _ (List.mem_append_right _ (List.mem_of_getElem? (i := 191) (by decide +kernel))))
    · exact va_Nw.of rfl (hts _ (List.mem_append_right _ (List.mem_of_getElem? (i := 399) (by decide +kernel))))
    · exact va_Nw.of rfl (hts _ (List.mem_append_right _ (List.mem_of_getElem? (i := 581) (by decide +kernel))))
  · simp only [fa_nF, List.mem_cons, List.not_mem_nil, or_false] at hq
    rcases hq with rfl | rfl | rfl
    · exact va_Nw.of rfl (hts _ (List.mem_append_right _ (List.mem_of_getElem? (i := 118) (by decide +kernel))))
    · exact va_Nw.of rfl (hts _ (List.mem_append_right _ (List.mem_of_getElem? (i := 582) (by decide +kernel))))
    · exact va_Nw.of rfl (hts _ (List.mem_append_right _ (List.mem_of_getElem? (i := 584) (by decide +kernel))))
  · have hA : ∀ a : Nat, a < s.heap.size → ¬ fa_A (D, dA, s.heap.size, st) a := fun a h => Nat.not_le.mpr h
    rcases (show j = 0 ∨ j = 1 ∨ j = 2 by omega) with z | z | z <;> subst z
    · exact ⟨z0 _ hA, x0, l0⟩
    · exact ⟨z1 _ hA, x1, l1⟩
    · exact ⟨z2 _ hA, x2, l2⟩
