theorem fa_Xof {args : Array Value} {s : State} {tm : Term} {f : Nat → Int32} (harr : (Cond.arrayOf tm .int).before args s = true) (hlen : (Term.length tm).eval args s none [] s = some (.int 7)) (hel : ∀ j : Nat, j < 7 → (Term.elem tm (.int (Int32.ofNat j))).eval args s none [] s = some (.int (f j))) : ∃ t : Nat, tm.eval args s none [] s = some (.ref t) ∧ va_X t 7 f s s.heap ∧ t < s.heap.size := by
  obtain ⟨t, cell, ht, hat, hv⟩ := Term.length_spec hlen
  have hsz : cell.slots.size < 2 ^ 31 := by
    have hl := hlen
    simp only [Term.eval, ht, hat, Option.bind_eq_bind, Option.bind_some] at hl
    by_cases hlt : cell.slots.size < 2147483648
    · exact hlt
    · simp [hlt] at hl
  obtain ⟨hcell, hkn, -, -⟩ := State.arrayAt?_spec hat
  obtain ⟨hof, -⟩ := Cond.arrayOf_spec harr ht hcell
  have hs7 : cell.slots.size = 7 := by
    have e : nI cell.slots.size = nI 7 := (Value.int.inj hv).symm
    exact (nI_eq hsz (by decide)).mp e
  refine ⟨t, ht, ⟨cell, hcell, hof, hkn, hs7, fun j hj => ?_⟩, (Array.getElem?_eq_some_iff.mp hcell).1⟩
  obtain ⟨a, i, cell2, h1, h2, h3, h4, h5⟩ := Term.elem_spec (hel j hj)
  cases ht.symm.trans h1
  cases hat.symm.trans h3
  have hi : i = Int32.ofNat j := by
    have e : (Term.int (Int32.ofNat j)).eval args s none [] s = some (.int (Int32.ofNat j)) := rfl
    cases h2.symm.trans e
    rfl
  have hc : i.toNatClampNeg = j := by rw [hi]; exact Int32.toNatClampNeg_ofNat_of_lt (by omega)
  rw [hc] at h5
  exact h5
theorem fa_prim {args : Array Value} {s : State} {ty : FieldType} (hp : ∀ C, ty ≠ .object C) (h : (Cond.arrayClass ty).before args s = true) : ∃ c : ClassId, ArrOfT s c ty ∧ va_RA s c ty := by
  obtain ⟨c, k, comp, h1, h2, h3⟩ := Cond.arrayClass_spec h
  refine ⟨c, fun n z => ⟨(fun k h => by cases h), k, h2, comp, h3⟩, ?_⟩
  cases ty with
  | object C => exact absurd rfl (hp C)
  | _ => exact h1
theorem fa_over {args : Array Value} {s : State} {C : String} (h : (Cond.arrayOver (.object C)).before args s = true) : ∃ c : ClassId, ArrOfT s c (.object C) ∧ va_RA s c (.object C) := by
  obtain ⟨comp, c, k, h1, h2, h3, h4, h5⟩ := Cond.arrayOver_spec h
  exact ⟨c, fun n z => ⟨(fun k h => by cases h), k, h3, comp, h4⟩, k, comp, h3, h4, h1, h5⟩
theorem fa_classes {s : State} {args : Array Value} (hts : ∀ w ∈ fa_tbl, w.before args s = true) : ∃ D : va_G, ∀ (k : Nat) (q : vw_C), vwCl[k]? = some q → u_Kn s q.1 q.2.1 q.2.2 (D.1 k) (D.2 k) := by
  have h : ∀ k : Nat, ∃ p : ClassId × (Nat → Nat), ∀ q : vw_C, vwCl[k]? = some q → u_Kn s q.1 q.2.1 q.2.2 p.1 p.2 := by
    intro k
    match k with
    | 0 =>
      obtain ⟨c, i, hc⟩ := u_known (C := RX0) (T := TX0) (N := 2) (n := 2) hts fa_ly_X0 (hts (.instantiable RX0 2) (fa_in 174 (by decide +kernel) (by decide +kernel)))
      exact ⟨(c, i), fun q hq => by cases hq; exact hc⟩
    | 1 =>
      obtain ⟨c, i, hc⟩ := u_known (C := RX1) (T := TX1) (N := 6) (n := 6) hts fa_ly_X1 (hts (.instantiable RX1 6) (fa_in 191 (by decide +kernel) (by decide +kernel)))
      exact ⟨(c, i), fun q hq => by cases hq; exact hc⟩
    | 2 =>
      obtain ⟨c, i, hc⟩ := u_known (C := RX2) (T := TX2) (N := 3) (n := 3) hts fa_ly_X2 (hts (.instantiable RX2 3) (fa_in 29 (by decide +kernel) (by decide +kernel)))
      exact ⟨(c, i), fun q hq => by cases hq; exact hc⟩
    | 3 =>
      obtain ⟨c, i, hc⟩ := u_known (C := RX3) (T := TX3) (N := 12) (n := 12) hts fa_ly_X3 (hts (.instantiable RX3 12) (fa_in 21 (by decide +kernel) (by decide +kernel)))
      exact ⟨(c, i), fun q hq => by cases hq; exact hc⟩
    | 4 =>
      obtain ⟨c, i, hc⟩ := u_known (C := RX4) (T := TX4) (N := 9) (n := 9) hts fa_ly_X4 (hts (.instantiable RX4 9) (fa_in 65 (by decide +kernel) (by decide +kernel)))
      exact ⟨(c, i), fun q hq => by cases hq; exact hc⟩
    | 5 =>
      obtain ⟨c, i, hc⟩ := u_known (C := RX5) (T := TX5) (N := 2) (n := 2) hts fa_ly_X5 (hts (.instantiable RX5 2) (fa_in 52 (by decide +kernel) (by decide +kernel)))
      exact ⟨(c, i), fun q hq => by cases hq; exact hc⟩
    | 6 =>
      obtain ⟨c, i, hc⟩ := u_known (C := RX6) (T := TX6) (N := 7) (n := 7) hts fa_ly_X6 (hts (.instantiable RX6 7) (fa_in 13 (by decide +kernel) (by decide +kernel)))
      exact ⟨(c, i), fun q hq => by cases hq; exact hc⟩
    | 7 =>
      obtain ⟨c, i, hc⟩ := u_known (C := RX7) (T := TX7) (N := 13) (n := 13) hts fa_ly_X7 (hts (.instantiable RX7 13) (fa_in 595 (by decide +kernel) (by decide +kernel)))
      exact ⟨(c, i), fun q hq => by cases hq; exact hc⟩
    | k + 8 => exact ⟨(0, fun _ => 0), fun q hq => by simp [vwCl] at hq⟩
  exact ⟨(fun k => (Classical.choose (h k)).1, fun k => (Classical.choose (h k)).2), fun k q hq => Classical.choose_spec (h k) q hq⟩
theorem fa_stat_0 {s : State} {args : Array Value} (hs : ∀ w ∈ flatC (Jvm.Cond.and given_1 narrow_1), w.before args s = true) (hl : (Cond.laysStatic "ForgettingArchive" "FIRST_VALUES" "[I").before args s = true) (hi : (Cond.initialized "ForgettingArchive").before args s = true) : ∃ t : Nat, (∀ A : Nat → Prop, (∀ a : Nat, a < s.heap.size → ¬ A a) → va_Z RX6 (fa_stN 0) "[I" (.ref t) A s s.heap) ∧ va_X t 7 (fa_stV 0) s s.heap ∧ t < s.heap.size := by
  obtain ⟨t, h1, h2, h3⟩ := fa_Xof (tm := (Term.static "ForgettingArchive" "FIRST_VALUES" "[I")) (f := fa_stV 0) (hs _ (by decide +kernel)) (va_eqt (hs _ (by decide +kernel))) (fun j hj => by
    rcases fa_seven hj with z | z | z | z | z | z | z <;> subst z
    · exact va_eqt (t := .elem (Term.static "ForgettingArchive" "FIRST_VALUES" "[I") (.int 0)) (z := 90) (hs _ (by decide +kernel))
    · exact va_eqt (t := .elem (Term.static "ForgettingArchive" "FIRST_VALUES" "[I") (.int 1)) (z := 180) (hs _ (by decide +kernel))
    · exact va_eqt (t := .elem (Term.static "ForgettingArchive" "FIRST_VALUES" "[I") (.int 2)) (z := 360) (hs _ (by decide +kernel))
    · exact va_eqt (t := .elem (Term.static "ForgettingArchive" "FIRST_VALUES" "[I") (.int 3)) (z := 720) (hs _ (by decide +kernel))
    · exact va_eqt (t := .elem (Term.static "ForgettingArchive" "FIRST_VALUES" "[I") (.int 4)) (z := 1440) (hs _ (by decide +kernel))
    · exact va_eqt (t := .elem (Term.static "ForgettingArchive" "FIRST_VALUES" "[I") (.int 5)) (z := 3) (hs _ (by decide +kernel))
    · exact va_eqt (t := .elem (Term.static "ForgettingArchive" "FIRST_VALUES" "[I") (.int 6)) (z := 300) (hs _ (by decide +kernel)))
  exact ⟨t, fun A hA => va_Zof hl hi h1 hA, h2, h3⟩
theorem fa_stat_1 {s : State} {args : Array Value} (hs : ∀ w ∈ flatC (Jvm.Cond.and given_1 narrow_1), w.before args s = true) (hl : (Cond.laysStatic "ForgettingArchive" "LOWEST_VALUES" "[I").before args s = true) (hi : (Cond.initialized "ForgettingArchive").before args s = true) : ∃ t : Nat, (∀ A : Nat → Prop, (∀ a : Nat, a < s.heap.size → ¬ A a) → va_Z RX6 (fa_stN 1) "[I" (.ref t) A s s.heap) ∧ va_X t 7 (fa_stV 1) s s.heap ∧ t < s.heap.size := by
  obtain ⟨t, h1, h2, h3⟩ := fa_Xof (tm := (Term.static "ForgettingArchive" "LOWEST_VALUES" "[I")) (f := fa_stV 1) (hs _ (by decide +kernel)) (va_eqt (hs _ (by decide +kernel))) (fun j hj => by
    rcases fa_seven hj with z | z | z | z | z | z | z <;> subst z
    · exact va_eqt (t := .elem (Term.static "ForgettingArchive" "LOWEST_VALUES" "[I") (.int 0)) (z := 30) (hs _ (by decide +kernel))
    · exact va_eqt (t := .elem (Term.static "ForgettingArchive" "LOWEST_VALUES" "[I") (.int 1)) (z := 30) (hs _ (by decide +kernel))
    · exact va_eqt (t := .elem (Term.static "ForgettingArchive" "LOWEST_VALUES" "[I") (.int 2)) (z := 30) (hs _ (by decide +kernel))
    · exact va_eqt (t := .elem (Term.static "ForgettingArchive" "LOWEST_VALUES" "[I") (.int 3)) (z := 30) (hs _ (by decide +kernel))
    · exact va_eqt (t := .elem (Term.static "ForgettingArchive" "LOWEST_VALUES" "[I") (.int 4)) (z := 30) (hs _ (by decide +kernel))
    · exact va_eqt (t := .elem (Term.static "ForgettingArchive" "LOWEST_VALUES" "[I") (.int 5)) (z := 1) (hs _ (by decide +kernel))
    · exact va_eqt (t := .elem (Term.static "ForgettingArchive" "LOWEST_VALUES" "[I") (.int 6)) (z := 50) (hs _ (by decide +kernel)))
  exact ⟨t, fun A hA => va_Zof hl hi h1 hA, h2, h3⟩
theorem fa_stat_2 {s : State} {args : Array Value} (hs : ∀ w ∈ flatC (Jvm.Cond.and given_1 narrow_1), w.before args s = true) (hl : (Cond.laysStatic "ForgettingArchive" "HIGHEST_VALUES" "[I").before args s = true) (hi : (Cond.initialized "ForgettingArchive").before args s = true) : ∃ t : Nat, (∀ A : Nat → Prop, (∀ a : Nat, a < s.heap.size → ¬ A a) → va_Z RX6 (fa_stN 2) "[I" (.ref t) A s s.heap) ∧ va_X t 7 (fa_stV 2) s s.heap ∧ t < s.heap.size := by
  obtain ⟨t, h1, h2, h3⟩ := fa_Xof (tm := (Term.static "ForgettingArchive" "HIGHEST_VALUES" "[I")) (f := fa_stV 2) (hs _ (by decide +kernel)) (va_eqt (hs _ (by decide +kernel))) (fun j hj => by
    rcases fa_seven hj with z | z | z | z | z | z | z <;> subst z
    · exact va_eqt (t := .elem (Term.static "ForgettingArchive" "HIGHEST_VALUES" "[I") (.int 0)) (z := 2000) (hs _ (by decide +kernel))
    · exact va_eqt (t := .elem (Term.static "ForgettingArchive" "HIGHEST_VALUES" "[I") (.int 1)) (z := 2000) (hs _ (by decide +kernel))
    · exact va_eqt (t := .elem (Term.static "ForgettingArchive" "HIGHEST_VALUES" "[I") (.int 2)) (z := 2000) (hs _ (by decide +kernel))
    · exact va_eqt (t := .elem (Term.static "ForgettingArchive" "HIGHEST_VALUES" "[I") (.int 3)) (z := 2000) (hs _ (by decide +kernel))
    · exact va_eqt (t := .elem (Term.static "ForgettingArchive" "HIGHEST_VALUES" "[I") (.int 4)) (z := 2000) (hs _ (by decide +kernel))
    · exact va_eqt (t := .elem (Term.static "ForgettingArchive" "HIGHEST_VALUES" "[I") (.int 5)) (z := 20) (hs _ (by decide +kernel))
    · exact va_eqt (t := .elem (Term.static "ForgettingArchive" "HIGHEST_VALUES" "[I") (.int 6)) (z := 600) (hs _ (by decide +kernel)))
  exact ⟨t, fun A hA => va_Zof hl hi h1 hA, h2, h3⟩
theorem fa_env0 {s : State} {args : Array Value} (hts : ∀ w ∈ lw_tbl, w.before args s = true) (hgv : (Jvm.Cond.and given_1 narrow_1).before args s = true) : ∃ G : fa_G, fa_B G = s.heap.size ∧ fa_Env G s := by
  have hs := flat_of_before _ hgv
  have ht2 : ∀ w ∈ fa_tbl, w.before args s = true := fun w hw => hts w (fa_tbl_sub w hw)
  obtain ⟨D, hD⟩ := fa_classes ht2
  obtain ⟨c0, a0, b0⟩ := fa_prim (s := s) (ty := .int) (fun C h => by cases h) (hts (.arrayClass .int) (List.mem_append_right _ (List.mem_of_getElem? (i := 50) (by decide +kernel))))
  obtain ⟨c1, a1, b1⟩ := fa_prim (s := s) (ty := .char) (fun C h => by cases h) (hts (.arrayClass .char) (List.mem_append_right _ (List.mem_of_getElem? (i := 220) (by decide +kernel))))
  obtain ⟨c2, a2, b2⟩ := fa_prim (s := s) (ty := .boolean) (fun C h => by cases h) (hts (.arrayClass .boolean) (List.mem_append_right _ (List.mem_of_getElem? (i := 640) (by decide +kernel))))
  have o3 := hts (.arrayOver (.object RX4)) (List.mem_append_right _ (List.mem_of_getElem? (i := 27) (by decide +kernel)))
  have o4 := hts (.arrayOver (.object RX3)) (List.mem_append_right _ (List.mem_of_getElem? (i := 180) (by decide +kernel)))
  obtain ⟨c3, a3, b3⟩ := fa_over o3
  obtain ⟨c4, a4, b4⟩ := fa_over o4
  obtain ⟨t0, z0, x0, l0⟩ := fa_stat_0 hs (hts _ (List.mem_append_right _ (List.mem_of_getElem? (i := 120) (by decide +kernel)))) (hts _ (List.mem_append_right _ (List.mem_of_getElem? (i := 1) (by decide +kernel))))
  obtain ⟨t1, z1, x1, l1⟩ := fa_stat_1 hs (hts _ (List.mem_append_right _ (List.mem_of_getElem? (i := 441) (by decide +kernel)))) (hts _ (List.mem_append_right _ (List.mem_of_getElem? (i := 1) (by decide +kernel))))
  obtain ⟨t2, z2, x2, l2⟩ := fa_stat_2 hs (hts _ (List.mem_append_right _ (List.mem_of_getElem? (i := 443) (by decide +kernel)))) (hts _ (List.mem_append_right _ (List.mem_of_getElem? (i := 1) (by decide +kernel))))
  let dA : Nat → ClassId := fun k => match k with | 0 => c0 | 1 => c1 | 2 => c2 | 3 => c3 | _ => c4
  let st : Nat → Nat := fun k => match k with | 0 => t0 | 1 => t1 | _ => t2
  refine ⟨(D, dA, s.heap.size, st), rfl, ⟨hD, fun k q hq => ?_⟩, fun q hq => ?_, fun q hq => ?_, va_AO.of o3, va_AO.of o4, fun j hj => ?_, Nat.le_refl _⟩
  · match k, hq with
    | 0, hq => cases hq; exact ⟨a0, b0⟩
    | 1, hq => cases hq; exact ⟨a1, b1⟩
    | 2, hq => cases hq; exact ⟨a2, b2⟩
    | 3, hq => cases hq; exact ⟨a3, b3⟩
    | 4, hq => cases hq; exact ⟨a4, b4⟩
    | k + 5, hq => simp [fa_tys] at hq
  · simp only [fa_nM, List.mem_cons, List.not_mem_nil, or_false] at hq
    rcases hq with rfl | rfl | rfl | rfl | rfl | rfl
    · exact va_Nw.of rfl (hts _ (List.mem_append_right _ (List.mem_of_getElem? (i := 30) (by decide +kernel))))
    · exact va_Nw.of rfl (hts _ (List.mem_append_right _ (List.mem_of_getElem? (i := 53) (by decide +kernel))))
    · exact va_Nw.of rfl (hts _ (List.mem_append_right _ (List.mem_of_getElem? (i := 66) (by decide +kernel))))
    · exact va_Nw.of rfl (hts _ (List.mem_append_right _ (List.mem_of_getElem? (i := 192) (by decide +kernel))))
    · exact va_Nw.of rfl (hts _ (List.mem_append_right _ (List.mem_of_getElem? (i := 320) (by decide +kernel))))
    · exact va_Nw.of rfl (hts _ (List.mem_append_right _ (List.mem_of_getElem? (i := 437) (by decide +kernel))))
  · simp only [fa_nF, List.mem_cons, List.not_mem_nil, or_false] at hq
    rcases hq with rfl | rfl | rfl
    · exact va_Nw.of rfl (hts _ (List.mem_append_right _ (List.mem_of_getElem? (i := 119) (by decide +kernel))))
    · exact va_Nw.of rfl (hts _ (List.mem_append_right _ (List.mem_of_getElem? (i := 440) (by decide +kernel))))
    · exact va_Nw.of rfl (hts _ (List.mem_append_right _ (List.mem_of_getElem? (i := 442) (by decide +kernel))))
  · have hA : ∀ a : Nat, a < s.heap.size → ¬ fa_A (D, dA, s.heap.size, st) a := fun a h => Nat.not_le.mpr h
    rcases (show j = 0 ∨ j = 1 ∨ j = 2 by omega) with z | z | z <;> subst z
    · exact ⟨z0 _ hA, x0, l0⟩
    · exact ⟨z1 _ hA, x1, l1⟩
    · exact ⟨z2 _ hA, x2, l2⟩
theorem fa_FM_cong {v v1 : fa_V} (h1 : v1 397 = v 397) (h2 : v1 398 = v 398) (h : fa_FM v) : fa_FM v1 := by
  unfold fa_FM at h ⊢
  rw [h1, h2]
  exact h
theorem fa_FV_cong {v v1 : fa_V} (h : ∀ k, ¬ k = 398 → v1 k = v k) (hF : fa_FV v) : fa_FV v1 := by
  unfold fa_FV at hF ⊢
  rw [h 113 (by omega), h 1 (by omega), h (1 + 2) (by omega), h (1 + 5) (by omega), h (1 + 7) (by omega), h 395 (by omega), h 0 (by omega)]
  exact hF
theorem fa_RA_cong {r r1 : fa_R} (h : ∀ k, ¬ k = 397 → r1 k = r k) (hA : fa_RA r) : fa_RA r1 := by
  unfold fa_RA at hA ⊢
  rw [h 0 (by omega), h 113 (by omega), h 395 (by omega)]
  exact hA
section FAL
variable {p : Program} {l : Launch} {e : Env} {R : Room} {s : State} {m : MethodId} {args : Array Value} {below : List Frame} {meth : Method} {c : Code} {H : Heap} {locs : List Loc} {cells slots : Nat} {Q : State → Prop}
variable {G : fa_G} {n : Nat} {v : fa_V} {r : fa_R} {cc : ByteArray} {nL : Nat} {own : String} {pc : Nat} {ls : Array Slot} {rest : List Value}
theorem fa_scr {b L j : Nat} {xs : Nat → Int32} (CX : fa_CX G p s m args c cc nL own) (HX : fa_HX G n v r s H locs) (hX : va_X b L xs s s.heap) (hbl : b < s.heap.size) (hG : fa_B G = s.heap.size) (hj : j < L) (hL : L < 2 ^ 31) (hdg : decode cc pc = .ok (.iaload, 1))
    (kk : W p l e R s m args below meth c H locs cells slots Q (F0 m (pc + 1) ls (.int (xs j) :: rest))) : W p l e R s m args below meth c H locs cells slots Q (F0 m pc ls (.int (nI j) :: .ref b :: rest)) :=
  va_sld CX.1.1 CX.1.2.1 hX hbl (show ¬ fa_A G b by unfold fa_A; omega) HX.2 (fa_ix hj hL) hdg (by rw [nI_clamp (by omega)]; exact kk)
theorem fa_slen {b L : Nat} {xs : Nat → Int32} (CX : fa_CX G p s m args c cc nL own) (HX : fa_HX G n v r s H locs) (hX : va_X b L xs s s.heap) (hbl : b < s.heap.size) (hG : fa_B G = s.heap.size) (hdg : decode cc pc = .ok (.arraylength, 1))
    (kk : W p l e R s m args below meth c H locs cells slots Q (F0 m (pc + 1) ls (.int (nI L) :: rest))) : W p l e R s m args below meth c H locs cells slots Q (F0 m pc ls (.ref b :: rest)) :=
  va_slen CX.1.1 CX.1.2.1 hX hbl (show ¬ fa_A G b by unfold fa_A; omega) HX.2 hdg kk
end FAL
/-! THE LAW: what holds between two calls -/
theorem fa_RM_cong {r r1 : fa_R} (h : r1 397 = r 397) (hM : fa_RM r) : fa_RM r1 := by
  unfold fa_RM
  rw [h]
  exact hM
theorem fa_MJ_cong {v v1 : fa_V} (h : ∀ k, 397 ≤ k → k < 402 → v1 k = v k) (hJ : fa_MJ v) : fa_MJ v1 := by
  unfold fa_MJ
  rw [h 397 (by omega) (by omega), h 398 (by omega) (by omega), h 399 (by omega) (by omega), h 400 (by omega) (by omega), h 401 (by omega) (by omega)]
  exact hJ
theorem fa_IS0 {v : fa_V} {b : Nat} (h : ∀ k, b ≤ k → k < b + 56 → ¬ k = b + 7 → ∀ i, v k i = 0) : fa_IS v b :=
  ⟨⟨0, by decide, h b (by omega) (by omega) (by omega) 1⟩, ⟨0, by decide, h (b + 2) (by omega) (by omega) (by omega) 0⟩, ⟨0, by decide, h (b + 5) (by omega) (by omega) (by omega) 0⟩, fun j hj => ⟨0, by decide, h (b + 8 + 2 * j) (by omega) (by omega) (by omega) 1⟩⟩
theorem fa_bs_cases : ∀ b ∈ fa_bs, b = 1 ∨ b = 57 ∨ ∃ j, j < 5 ∧ b = 115 + 56 * j := by
  intro b hb
  simp only [fa_bs, List.mem_cons, List.not_mem_nil, or_false] at hb
  rcases hb with h | h | h | h | h | h | h
  · exact Or.inl h
  · exact Or.inr (Or.inl h)
  · exact Or.inr (Or.inr ⟨0, by decide, h⟩)
  · exact Or.inr (Or.inr ⟨1, by decide, h⟩)
  · exact Or.inr (Or.inr ⟨2, by decide, h⟩)
  · exact Or.inr (Or.inr ⟨3, by decide, h⟩)
  · exact Or.inr (Or.inr ⟨4, by decide, h⟩)
theorem fa_hbH : ∀ j, j < 5 → 115 + 56 * j ∈ fa_hb := by decide
theorem fa_CI_start {v : fa_V} {r : fa_R} (hA : fa_RA r) (hH : ∀ i, i < 5 → r 114 i = some (115 + 56 * i)) (h1 : fa_RS r 1) (h57 : fa_RS r 57) (hrH : ∀ i, i < 5 → fa_RS r (115 + 56 * i)) (hz : ∀ k, 1 ≤ k → k < 397 → ¬ k = 8 → ¬ k = 64 → (∀ p, p < 5 → ¬ k = 115 + 56 * p + 7) → ∀ i, v k i = 0) : fa_CI v r := by
  refine ⟨hA, fun b hb => ?_, fun i hi => ⟨_, fa_hbH i hi, hH i hi⟩, fun i j hi hj e => ?_, ⟨0, by decide, hz 113 (by decide) (by decide) (by decide) (by decide) (fun p hp => by omega) 0⟩, ⟨0, by decide, hz 395 (by decide) (by decide) (by decide) (by decide) (fun p hp => by omega) 1⟩, fun i hi => ?_⟩
  · rcases fa_bs_cases b hb with e | e | ⟨j, hj, e⟩
    · subst e
      exact ⟨h1, fa_IS0 (fun k a b c => hz k (by omega) (by omega) (by omega) (by omega) (fun p hp => by omega))⟩
    · subst e
      exact ⟨h57, fa_IS0 (fun k a b c => hz k (by omega) (by omega) (by omega) (by omega) (fun p hp => by omega))⟩
    · subst e
      exact ⟨hrH j hj, fa_IS0 (fun k a b c => hz k (by omega) (by omega) (by omega) (by omega) (fun p hp => by omega))⟩
  · rw [hH i hi, hH j hj] at e
    have := Option.some.inj e
    omega
  · rw [hz 396 (by decide) (by decide) (by decide) (by decide) (fun p hp => by omega) i]
    exact fa_isC_0
theorem fa_ok0 (i : Nat) : fa_ok i 0 := ⟨fun _ => ⟨0, by decide, rfl⟩, fun _ => ⟨0, by decide, rfl⟩, fun _ => ⟨0, by decide, rfl⟩, fun _ _ _ => ⟨0, by decide, rfl⟩⟩
theorem fa_MJ_start {v : fa_V} (h7 : ∀ i, 7 ≤ i → v 398 i = 0) (hz : ∀ k, 397 ≤ k → ¬ k = 398 → ∀ i, v k i = 0) : fa_MJ v := by
  refine ⟨fun i hi => ?_, fun i hi => ?_, fun i hi => ?_, fun i hi => ?_, ⟨0, by decide, hz 397 (by decide) (by decide) 10⟩, ⟨0, by decide, hz 397 (by decide) (by decide) 9⟩⟩
  · rcases Nat.lt_or_ge i 7 with h | h
    · exact fa_ok.o (by omega) (by omega) (by omega) (fun p hp => by omega)
    · rw [h7 i h]; exact fa_ok0 i
  · rw [hz 399 (by decide) (by decide) i]; exact fa_ok0 i
  · rw [hz 400 (by decide) (by decide) i]; exact fa_ok0 i
  · rw [hz 401 (by decide) (by decide) i]; exact fa_ok0 _
theorem fa_len_app {v v1 v2 : fa_V} {R X1 X2 X3 Y1 Y2 Y3 : Prop} {q : Int32} (hE : v 395 1 = v 397 9) (hf : fa_fr 395 397 v v1) (hg : fa_fr 397 406 v1 v2) (h1 : (¬ R ∧ X1 ∧ v1 = v) ∨ (R ∧ ((X2 ∧ 60 ≤ fa_N (v 395 1) ∧ v1 = v) ∨ (X3 ∧ fa_N (v 395 1) < 60 ∧ v1 = fa_put v q)))) (h2 : (¬ R ∧ Y1 ∧ v2 = v1) ∨ (R ∧ ((Y2 ∧ 60 ≤ fa_N (v1 397 9) ∧ v2 = v1) ∨ (Y3 ∧ fa_N (v1 397 9) < 60 ∧ v2 = fa_put7 v1 q)))) : v2 395 1 = v2 397 9 := by
  have e7 : v1 397 9 = v 397 9 := by rw [hf 397 (by omega)]
  rw [e7] at h2
  rcases h1 with ⟨a1, -, a2⟩ | ⟨a1, ⟨-, a2, a3⟩ | ⟨-, a2, a3⟩⟩
  · rcases h2 with ⟨-, -, b2⟩ | ⟨b1, -⟩
    · rw [b2, a2]; exact hE
    · exact absurd b1 a1
  · rcases h2 with ⟨b1, -⟩ | ⟨-, ⟨-, -, b3⟩ | ⟨-, b2, -⟩⟩
    · exact absurd a1 b1
    · rw [b3, a3]; exact hE
    · rw [hE] at a2; omega
  · rcases h2 with ⟨b1, -⟩ | ⟨-, ⟨-, b2, -⟩ | ⟨-, -, b3⟩⟩
    · exact absurd a1 b1
    · rw [hE] at a2; omega
    · have g1 : v1 395 1 = nI (fa_N (v 395 1) + 1) := by rw [a3]; exact fa_u_s _ _ _ _
      have g2 : v2 397 9 = nI (fa_N (v1 397 9) + 1) := by rw [b3]; exact fa_u_s _ _ _ _
      rw [hg 395 (by omega), g1, g2, e7, hE]
theorem fa_len_clr {v v1 v2 : fa_V} (h1 : v1 = fa_u v 395 1 (nI 0)) (h2 : v2 = fa_u v1 397 9 (nI 0)) : v2 395 1 = v2 397 9 := by
  rw [h2, fa_u_n _ _ (by decide), fa_u_s, h1, fa_u_s]
theorem fa_app_eq {v v1 : fa_V} {R A1 A2 A3 : Prop} {x y : Int32} (hE : v 395 1 = v 397 9) (hf : fa_fr 395 397 v v1) (h1 : (¬ R ∧ x = (-2 : Int32) ∧ A1) ∨ (R ∧ ((x = (-4 : Int32) ∧ 60 ≤ fa_N (v 395 1) ∧ A2) ∨ (x = nI (fa_N (v 395 1) + 1) ∧ fa_N (v 395 1) < 60 ∧ A3)))) {B1 B2 B3 : Prop} (h2 : (¬ R ∧ y = (-2 : Int32) ∧ B1) ∨ (R ∧ ((y = (-4 : Int32) ∧ 60 ≤ fa_N (v1 397 9) ∧ B2) ∨ (y = nI (fa_N (v1 397 9) + 1) ∧ fa_N (v1 397 9) < 60 ∧ B3)))) : x = y := by
  have e7 : v1 397 9 = v 395 1 := by rw [hf 397 (by omega)]; exact hE.symm
  rw [e7] at h2
  rcases h1 with ⟨a1, a2, -⟩ | ⟨a1, ⟨a2, a3, -⟩ | ⟨a2, a3, -⟩⟩
  · rcases h2 with ⟨-, b2, -⟩ | ⟨b1, -⟩
    · rw [a2, b2]
    · exact absurd b1 a1
  · rcases h2 with ⟨b1, -⟩ | ⟨-, ⟨b2, -, -⟩ | ⟨-, b3, -⟩⟩
    · exact absurd a1 b1
    · rw [a2, b2]
    · omega
  · rcases h2 with ⟨b1, -⟩ | ⟨-, ⟨-, b3, -⟩ | ⟨b2, -, -⟩⟩
    · exact absurd a1 b1
    · omega
    · rw [a2, b2]
/-- the two texts are alike -/
def fa_TE (v : fa_V) : Prop := v 395 1 = v 397 9 ∧ ∀ i, i < fa_N (v 395 1) → v 396 i = v 405 i
theorem fa_TE.cls {v v1 : fa_V} (h : fa_TE v) (h1 : v1 395 1 = v 395 1) (h2 : v1 396 = v 396) (h3 : v1 397 9 = v 397 9) (h4 : v1 405 = v 405) : fa_TE v1 := by
  refine ⟨by rw [h1, h3]; exact h.1, fun i hi => ?_⟩
  rw [h1] at hi
  rw [h2, h4]
  exact h.2 i hi
theorem fa_TE.sg {v : fa_V} (h : fa_TE v) : fa_sg (v 396) (fa_N (v 395 1)) = fa_sg (v 405) (fa_N (v 397 9)) := by
  rw [← h.1]
  exact fa_sg_congr h.2
theorem fa_TE.clr {v v1 v2 : fa_V} (h1 : v1 = fa_u v 395 1 (nI 0)) (h2 : v2 = fa_u v1 397 9 (nI 0)) : fa_TE v2 := by
  refine ⟨fa_len_clr h1 h2, fun i hi => ?_⟩
  rw [h2, fa_u_n _ _ (by decide), h1, fa_u_s, fa_N_nI (by decide)] at hi
  exact absurd hi (Nat.not_lt_zero _)
theorem fa_TE.app {v v1 v2 : fa_V} {R X1 X2 X3 Y1 Y2 Y3 : Prop} {q : Int32} (hE : fa_TE v) (hf : fa_fr 395 397 v v1) (hg : fa_fr 397 406 v1 v2) (h1 : (¬ R ∧ X1 ∧ v1 = v) ∨ (R ∧ ((X2 ∧ 60 ≤ fa_N (v 395 1) ∧ v1 = v) ∨ (X3 ∧ fa_N (v 395 1) < 60 ∧ v1 = fa_put v q)))) (h2 : (¬ R ∧ Y1 ∧ v2 = v1) ∨ (R ∧ ((Y2 ∧ 60 ≤ fa_N (v1 397 9) ∧ v2 = v1) ∨ (Y3 ∧ fa_N (v1 397 9) < 60 ∧ v2 = fa_put7 v1 q)))) : fa_TE v2 := by
  refine ⟨fa_len_app hE.1 hf hg h1 h2, fun i hi => ?_⟩
  have e7 : v1 397 9 = v 397 9 := by rw [hf 397 (by omega)]
  rw [e7, ← hE.1] at h2
  rw [hg 395 (by omega)] at hi
  rw [hg 396 (by omega)]
  have same : v1 = v → v2 = v1 → v1 396 i = v2 405 i := fun a b => by
    rw [b, a]
    rw [a] at hi
    exact hE.2 i hi
  rcases h1 with ⟨a1, -, a2⟩ | ⟨a1, ⟨-, a2, a3⟩ | ⟨-, a2, a3⟩⟩
  · rcases h2 with ⟨-, -, b2⟩ | ⟨b1, -⟩
    · exact same a2 b2
    · exact absurd b1 a1
  · rcases h2 with ⟨b1, -⟩ | ⟨-, ⟨-, -, b3⟩ | ⟨-, b2, -⟩⟩
    · exact absurd a1 b1
    · exact same a3 b3
    · omega
  · rcases h2 with ⟨b1, -⟩ | ⟨-, ⟨-, b2, -⟩ | ⟨-, -, b3⟩⟩
    · exact absurd a1 b1
    · omega
    · have l1 : v1 395 1 = nI (fa_N (v 395 1) + 1) := by rw [a3]; exact fa_u_s _ _ _ _
      rw [l1, fa_N_nI (by omega)] at hi
      have r1 : v1 396 = fun j => if j = fa_N (v 395 1) then vp_nar .char q else v 396 j := by
        rw [a3, fa_put, fa_u_k _ _ (by decide), fa_u_row]
      have r2 : v2 405 = fun j => if j = fa_N (v 395 1) then vp_nar .char q else v1 405 j := by
        rw [b3, fa_put7, fa_u_k _ _ (by decide), fa_u_row, e7, ← hE.1]
      rw [r1, r2]
      show (if i = fa_N (v 395 1) then vp_nar .char q else v 396 i) = (if i = fa_N (v 395 1) then vp_nar .char q else v1 405 i)
      by_cases z : i = fa_N (v 395 1)
      · rw [if_pos z, if_pos z]
      · rw [if_neg z, if_neg z, hf 405 (by omega)]
        exact hE.2 i (by omega)
theorem fa_TE_start {v : fa_V} (h : v 395 1 = v 397 9) (h0 : v 395 1 = 0) : fa_TE v := ⟨h, fun i hi => by
  rw [h0] at hi
  exact absurd hi (Nat.not_lt_zero _)⟩
/-- both faults are the same -/
theorem fa_flt_eq {v v1 : fa_V} {x y : Int32} (h : fa_TE v1) (h1 : v1 395 1 = v 395 1) (h2 : v1 396 = v 396) (hx : ∃ j, j ≤ 20 ∧ fa_FR (fa_sg (v 396) (fa_N (v 395 1))) (fa_N (v 395 1)) j x) (hy : ∃ j, j ≤ 20 ∧ fa_FR (fa_sg (v1 405) (fa_N (v1 397 9))) (fa_N (v1 397 9)) j y) : x = y := by
  obtain ⟨j, -, a⟩ := hx
  obtain ⟨k, -, b⟩ := hy
  rw [← h.sg, ← h.1] at b
  rw [← h1, ← h2] at a
  exact (a.uniq b).2
/-! BOTH ARCHIVES ALIKE -/
def fb_RE (v : fa_V) : Prop := (v 0 6 = 0 ∧ v 397 8 = nI 0) ∨ (¬ v 0 6 = 0 ∧ v 397 8 = nI 1 ∧ v 404 0 = v 0 4 ∧ v 404 1 = v 0 5 ∧ v 404 2 = v 0 6)
theorem fb_RE.cong {v v1 : fa_V} (h : fb_RE v) (h0 : v1 0 = v 0) (h8 : v1 397 8 = v 397 8) (h4 : v1 404 = v 404) : fb_RE v1 := by
  unfold fb_RE at h ⊢
  rw [h0, h8, h4]
  exact h
theorem fb_CV.rsn {v v1 : fa_V} {r : fa_R} {A : fb_At} {H : List fb_At} (h : fb_CV v r A H) (hf : fa_rsn 1 v v1) (f : fa_fr 9 57 v v1) : fb_CV v1 r A H :=
  ⟨h.1, h.2.1, h.2.2.1.rsn hf, h.2.2.2.cong (by rw [f 113 (by omega)]) (fun k k1 k2 => f k (by omega)) (fun _ _ _ => rfl)⟩
theorem fb_CV.fut {v v1 : fa_V} {r r1 : fa_R} {A : fb_At} {H : List fb_At} (h : fb_CV v r A H) (f : fa_fr 57 113 v v1) (g : ∀ k, ¬ k = 58 → r1 k = r k) : fb_CV v1 r1 A H :=
  ⟨h.1, fun b hb h57 => (h.2.1 b hb h57).congr (g _ (by omega)), h.2.2.1.congr (fun k k1 k2 => f k (by omega)) (fa_RS_cong2 (fun q q1 q2 => g q (by omega)) h.2.2.1.1) (g _ (by omega)), h.2.2.2.cong (by rw [f 113 (by omega)]) (fun k k1 k2 => f k (by omega)) (fun k k1 k2 => g k (by omega))⟩
def fb_A0 : fb_At := (fun k => if k < 7 then fa_stV 0 k else 0, (0, fun _ _ => 0), [], (0, fun _ _ => 0))
theorem fb_okA0 : fb_okA fb_A0 :=
  ⟨⟨Nat.zero_le _, ⟨0, by decide, rfl⟩, ⟨0, by decide, rfl⟩, fun p k _ hk => absurd hk (Nat.not_lt_zero _), fun p hp => absurd hp (Nat.not_lt_zero _), fun p hp => absurd hp (Nat.not_lt_zero _)⟩, Nat.zero_le _, Nat.zero_le _, List.nodup_nil, fun y hy => absurd hy (by
    show ¬ y ∈ ([] : List (Int32 × Int32))
    simp)⟩
theorem fb_CV_start {v : fa_V} {r : fa_R} (h1 : fb_RS1 r 1) (hH : ∀ i, i < 5 → fb_RS1 r (115 + 56 * i)) (z1 : ∀ i, i < 8 → v 1 i = 0) (z2 : v (1 + 2) 0 = 0) (z5 : v (1 + 5) 0 = 0) (z7 : ∀ i, i < 7 → v (1 + 7) i = fa_stV 0 i) (z113 : v 113 0 = 0) : fb_CV v r fb_A0 [] := by
  refine ⟨fb_okA0, fun b hb h57 => ?_, ⟨h1.1, h1.inj, ⟨fun k hk => ?_, z1 0 (by decide), fun k k8 k14 => ?_⟩, ⟨Nat.zero_le _, z1 1 (by decide), fun p i hp => absurd hp (Nat.not_lt_zero _)⟩, ⟨[], ⟨z2, Nat.zero_le _, fun p y e => absurd e (by simp)⟩, List.Perm.refl _, List.Pairwise.nil⟩, ⟨Nat.zero_le _, z5, fun p i hp => absurd hp (Nat.not_lt_zero _)⟩⟩, z113, Nat.zero_le _, fun i hi => absurd hi (Nat.not_lt_zero _)⟩
  · rcases fa_bs_cases b hb with e | e | ⟨j, hj, e⟩
    · subst e; exact h1.inj
    · exact absurd e h57
    · subst e; exact (hH j hj).inj
  · show _ = if k < 7 then fa_stV 0 k else 0
    rw [if_pos hk]
    exact z7 k hk
  · show _ = if k < 7 then fa_stV 0 k else 0
    rw [if_neg (by omega)]
    exact z1 (k - 6) (by omega)
theorem fb_MV_start {v : fa_V} (hs7 : ∀ i, 7 ≤ i → v 398 i = 0) (hs0 : ∀ i, i < 7 → v 398 i = fa_stV 0 i) (h10 : v 397 10 = 0) : fb_MV v fb_A0 [] := by
  refine ⟨fb_okA0, ⟨fun k hk => ?_, ⟨Nat.zero_le _, hs7 14 (by decide), fun p i hp => absurd hp (Nat.not_lt_zero _)⟩, ⟨[], ⟨hs7 15 (by decide), Nat.zero_le _, fun p y e => absurd e (by simp)⟩, List.Perm.refl _⟩, ⟨Nat.zero_le _, hs7 16 (by decide), fun p i hp => absurd hp (Nat.not_lt_zero _)⟩⟩, h10, Nat.zero_le _, fun i hi => absurd hi (Nat.not_lt_zero _)⟩
  show _ = if k < 7 then fa_stV 0 k else 0
  by_cases z : k < 7
  · rw [if_pos z]; exact hs0 k z
  · rw [if_neg z]; exact hs7 k (by omega)
theorem fb_why_eq {v : fa_V} {a x y : Int32} (h : fb_RE v) (hx : x = fb_whyA (v 0 6) (v 0 4) (v 0 5) a) (hy : y = fb_whm (v 397 8) (v 404) a) : x = y := by
  rw [hx, hy]
  unfold fb_whyA fb_whm
  by_cases c : a < 0 ∨ ¬ a ≤ nI 2
  · rw [if_pos c, if_pos c]
  · rw [if_neg c, if_neg c]
    obtain ⟨j, hj, ej⟩ := fa_natLe (x := a) (N := 2) (by decide) (fun z => c (Or.inl z)) (fun z => c (Or.inr (Int32.not_le.mpr z)))
    rcases h with ⟨h1, h2⟩ | ⟨h1, h2, h3, h4, h5⟩
    · rw [if_pos h1, if_pos (show v 397 8 = 0 from h2)]
    · have n8 : ¬ v 397 8 = 0 := by rw [h2]; decide
      rw [if_neg h1, if_neg n8, ej, fa_N_nI (by omega)]
      have : j = 0 ∨ j = 1 ∨ j = 2 := by omega
      rcases this with z | z | z
      · rw [z, if_pos (by decide), h3]
      · rw [z, if_neg (by decide), if_pos (by decide), h4]
      · rw [z, if_neg (by decide), if_neg (by decide), h5]
theorem fb_er_ne {y : Int32} (h : fb_er y) : ¬ -(y) = 0 := fun z => by
  have e : y = 0 := by
    have q := congrArg (fun x : Int32 => -x) z
    have q' : -(-y) = -(0 : Int32) := q
    rw [Int32.neg_neg] at q'
    rw [q']
    decide
  exact h (Or.inl (by rw [e]; decide))
theorem fb_rsv_eq {v : fa_V} {r : fa_R} {A : fb_At} {k w x y : Int32} (hc : fb_cA v r 1 A) (hx : fb_rsvP A k w x) (hy : fb_rsvP A k w y) : x = y := by
  obtain ⟨L, -, hP, hS⟩ := hc.2.2.2.2.1
  rw [hx L hP hS, hy L hP hS]
theorem fb_app_k {v v1 : fa_V} {R X1 X2 X3 Y1 Y2 Y3 : Prop} {q : Int32} (h : (R ∧ X1 ∧ v1 = v) ∨ (Y1 ∧ ((X2 ∧ Y2 ∧ v1 = v) ∨ (X3 ∧ Y3 ∧ v1 = fa_put7 v q)))) : v1 404 = v 404 ∧ v1 398 = v 398 ∧ v1 401 = v 401 ∧ v1 397 10 = v 397 10 := by
  rcases h with ⟨-, -, e⟩ | ⟨-, ⟨-, -, e⟩ | ⟨-, -, e⟩⟩
  · rw [e]; exact ⟨rfl, rfl, rfl, rfl⟩
  · rw [e]; exact ⟨rfl, rfl, rfl, rfl⟩
  · rw [e, fa_put7]
    refine ⟨?_, ?_, ?_, ?_⟩
    · rw [fa_u_k _ _ (by decide), fa_u_k _ _ (by decide)]
    · rw [fa_u_k _ _ (by decide), fa_u_k _ _ (by decide)]
    · rw [fa_u_k _ _ (by decide), fa_u_k _ _ (by decide)]
    · rw [fa_u_n _ _ (by omega), fa_u_n _ _ (by omega)]
theorem fb_clr_k {v v1 : fa_V} (e : v1 = fa_u v 397 9 (nI 0)) : v1 404 = v 404 ∧ v1 398 = v 398 ∧ v1 401 = v 401 ∧ v1 397 10 = v 397 10 := by
  rw [e]
  refine ⟨?_, ?_, ?_, ?_⟩
  · rw [fa_u_k _ _ (by decide)]
  · rw [fa_u_k _ _ (by decide)]
  · rw [fa_u_k _ _ (by decide)]
  · rw [fa_u_n _ _ (by decide)]
/-- both runs -/
theorem fb_run_both {v v1 v2 : fa_V} {r r1 : fa_R} {A : fb_At} {H : List fb_At} {x y : Int32} (hE : fa_TE v1) (hl : v1 395 1 = v 395 1) (ht : v1 396 = v 396) (hV : fb_CV v r A H) (hW : fb_MV v A H) (hR : fb_RE v) (f1 : fa_fr 0 396 v v1) (f2 : fa_fr 397 405 v1 v2)
    (hx : ∀ A H, fb_CV v r A H → (∃ j y, j ≤ 20 ∧ fa_FR (fa_sg (v 396) (fa_N (v 395 1))) (fa_N (v 395 1)) j y ∧ ¬ y = (-6 : Int32) ∧ x = (-3 : Int32) ∧ fb_CV v1 r1 A H ∧ v1 0 = v 0) ∨ (∃ j e, j ≤ 20 ∧ fa_FR (fa_sg (v 396) (fa_N (v 395 1))) (fa_N (v 395 1)) j (-6 : Int32) ∧ fb_runP A (fa_sg (v 396) (fa_N (v 395 1))) (j + 1) e ∧ x = nI e ∧ fb_CV v1 r1 (fb_fin A (fa_sg (v 396) (fa_N (v 395 1))) (j + 1) e) (fb_push H A) ∧ fb_rpt A (fa_sg (v 396) (fa_N (v 395 1))) (j + 1) e (v1 0 6) (v1 0 4) (v1 0 5))) (hy : ∀ A H, fb_MV v1 A H → (∃ j z, j ≤ 20 ∧ fa_FR (fa_sg (v1 405) (fa_N (v1 397 9))) (fa_N (v1 397 9)) j z ∧ ¬ z = (-6 : Int32) ∧ y = (-3 : Int32) ∧ fb_MV v2 A H ∧ v2 397 8 = v1 397 8 ∧ v2 404 = v1 404) ∨ (∃ j e, j ≤ 20 ∧ fa_FR (fa_sg (v1 405) (fa_N (v1 397 9))) (fa_N (v1 397 9)) j (-6 : Int32) ∧ fb_runP A (fa_sg (v1 405) (fa_N (v1 397 9))) (j + 1) e ∧ y = nI e ∧ fb_MV v2 (fb_fin A (fa_sg (v1 405) (fa_N (v1 397 9))) (j + 1) e) (fb_push H A) ∧ fb_rpm A (fa_sg (v1 405) (fa_N (v1 397 9))) (j + 1) e (v2 397 8) (v2 404 0) (v2 404 1) (v2 404 2))) : x = y ∧ ∃ A2 H2, fb_CV v2 r1 A2 H2 ∧ fb_MV v2 A2 H2 ∧ fb_RE v2 := by
  have hx' := hx A H hV
  have hy' := hy A H (hW.cong (fun i _ => congrFun (f1 398 (by omega)) i) (congrFun (f1 397 (by omega)) 10) (f1 401 (by omega)))
  rw [show fa_N (v1 397 9) = fa_N (v 395 1) by rw [← hE.1, hl], show fa_sg (v1 405) (fa_N (v 395 1)) = fa_sg (v 396) (fa_N (v 395 1)) by (have z := hE.sg; rw [← hE.1, hl, ht] at z; exact z.symm)] at hy'
  rcases hx' with ⟨j, y1, hj, hF, hn, ex, c1, c2⟩ | ⟨j, e, hj, hF, hr, ex, c1, c2⟩
  · rcases hy' with ⟨k, y2, hk, hG, gn, ey, m1, m2, m3⟩ | ⟨k, e2, hk, hG, hr2, ey, m1, m2⟩
    · exact ⟨ex.trans ey.symm, A, H, c1.cong (fun k k1 k2 => f2 k (by omega)), m1, hR.cong (by rw [f2 0 (by omega)]; exact c2) (m2.trans (congrFun (f1 397 (by omega)) 8)) (m3.trans (f1 404 (by omega)))⟩
    · exact absurd (hF.uniq hG).2 hn
  · rcases hy' with ⟨k, y2, hk, hG, gn, ey, m1, m2, m3⟩ | ⟨k, e2, hk, hG, hr2, ey, m1, m2⟩
    · exact absurd (hF.uniq hG).2.symm gn
    · obtain ⟨ejk, -⟩ := hF.uniq hG
      subst ejk
      have ee := hr.uniq hr2
      subst ee
      refine ⟨ex.trans ey.symm, _, _, c1.cong (fun k k1 k2 => f2 k (by omega)), m1, ?_⟩
      unfold fb_RE
      rw [f2 0 (by omega)]
      by_cases z : e < j + 1
      · obtain ⟨q1, q2, q3⟩ := c2.1 z
        obtain ⟨p1, p2, p3, p4⟩ := m2.1 z
        refine Or.inr ⟨?_, p1, by rw [p2, q2], by rw [p3, q3], by rw [p4, q1]⟩
        rw [q1]
        exact fb_er_ne (hr.2.2 z)
      · have z2 : e = j + 1 := by have := hr.1; omega
        exact Or.inl ⟨c2.2 z2, m2.2 z2⟩
