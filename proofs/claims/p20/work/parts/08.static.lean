theorem fa_cps : Cond.static arraycopyName ∈ fa_tbl := fa_in 122 (by decide +kernel) (by decide +kernel)
theorem fa_cpi : Cond.initialized "java/lang/System" ∈ fa_tbl := fa_in 6 (by decide +kernel) (by decide +kernel)
theorem fa_cpl_X3_39 : Cond.methodLink RX3 39 arraycopyName ∈ fa_tbl := fa_in 121 (by decide +kernel) (by decide +kernel)
theorem fa_cpl_X4_43 : Cond.methodLink RX4 43 arraycopyName ∈ fa_tbl := fa_in 259 (by decide +kernel) (by decide +kernel)
theorem fa_cpl_X2_22 : Cond.methodLink RX2 22 arraycopyName ∈ fa_tbl := fa_in 264 (by decide +kernel) (by decide +kernel)
theorem fa_cpl_X5_19 : Cond.methodLink RX5 19 arraycopyName ∈ fa_tbl := fa_in 269 (by decide +kernel) (by decide +kernel)
section FAT
variable {p : Program} {l : Launch} {e : Env} {R : Room} {s : State} {m : MethodId} {args : Array Value} {below : List Frame} {meth : Method} {c : Code} {H : Heap} {locs : List Loc} {cells slots : Nat} {Q : State → Prop}
variable {G : fa_G} {n : Nat} {v : fa_V} {r : fa_R} {cc : ByteArray} {nL : Nat} {own : String} {pc : Nat} {ls : Array Slot} {rest : List Value}
theorem fa_alen {k len : Nat} (CX : fa_CX G p s m args c cc nL own) (HX : fa_HX G n v r s H locs) (hk : k < n) (hsh : fa_sh k = .inl (0, len)) (hdg : decode cc pc = .ok (.arraylength, 1))
    (kk : W p l e R s m args below meth c H locs cells slots Q (F0 m (pc + 1) ls (.int (nI len) :: rest))) : W p l e R s m args below meth c H locs cells slots Q (F0 m pc ls (.ref (fa_B G + k) :: rest)) :=
  va_alen CX.1.1 CX.1.2.1 CX.2.1 HX.1 k 0 (fa_w_arr hk hsh (by decide)) rfl rfl hdg kk
/-- a static array of the archive, read by a nest mate or by itself -/
theorem fa_getst {j index : Nat} (CX : fa_CX G p s m args c cc nL own) (HX : fa_HX G n v r s H locs) (hj : j < 3) (hq : (own, index, RX6, fa_stN j, "[I", RX6) ∈ fa_nF) (hdg : decode cc pc = .ok (.getstatic index, 3))
    (kk : W p l e R s m args below meth c H locs cells slots Q (F0 m (pc + 3) ls (.ref (fa_st G j) :: rest))) : W p l e R s m args below meth c H locs cells slots Q (F0 m pc ls rest) :=
  va_getsN CX.1.1 CX.1.2.1 (CX.2.2.2.2.2.2.1 j hj).1 HX.2 CX.1.2.2.2.1 (va_Nw.use rfl (CX.2.2.2.1 _ hq)) (fun _ h => h) hdg kk
theorem fa_sald {j i : Nat} (CX : fa_CX G p s m args c cc nL own) (HX : fa_HX G n v r s H locs) (hj : j < 3) (hi : i < 7) (hdg : decode cc pc = .ok (.iaload, 1))
    (kk : W p l e R s m args below meth c H locs cells slots Q (F0 m (pc + 1) ls (.int (fa_stV j i) :: rest))) : W p l e R s m args below meth c H locs cells slots Q (F0 m pc ls (.int (nI i) :: .ref (fa_st G j) :: rest)) := by
  obtain ⟨-, hX, hb⟩ := CX.2.2.2.2.2.2.1 j hj
  refine va_sld CX.1.1 CX.1.2.1 hX (Nat.lt_of_lt_of_le hb CX.2.2.2.2.2.2.2) (Nat.not_le.mpr hb) HX.2 (fa_ix hi (by decide)) hdg ?_
  rw [nI_clamp (by omega)]
  exact kk
/-- System.arraycopy out of a static array -/
theorem fa_copyS {index j k1 n1 sp dp cnt : Nat} (CX : fa_CX G p s m args c cc nL own) (HX : fa_HX G n v r s H locs) (hlink : Cond.methodLink own index arraycopyName ∈ fa_tbl) (hnat : Cond.native arraycopyName ∈ fa_tbl) (hstat : Cond.static arraycopyName ∈ fa_tbl) (hini : Cond.initialized "java/lang/System" ∈ fa_tbl) (hls : ls.size = nL) (hj : j < 3)
    (hk1 : k1 < n) (hsh1 : fa_sh k1 = .inl (0, n1)) (h4 : sp + cnt ≤ 7) (h5 : dp + cnt ≤ n1) (h7 : n1 < 2 ^ 31)
    (hframes : 1 ≤ R.frames) (hlocals : (rest.map fun v => v.category).sum + (nativeFrameWords "java/lang/System" "arraycopy" 5 + 11) ≤ R.locals) (hdg : decode cc pc = .ok (.invokestatic index, 3))
    (kk : ∀ (H1 : Heap) (locs1 : List Loc) (v1 : fa_V), (v1 = fun k i => if k = k1 then va_cpy (fa_stV j) (v k1) sp dp cnt i else v k i) → fa_HX G n v1 r s H1 locs1 → W p l e R s m args below meth c H1 locs1 cells slots Q (F0 m (pc + 3) ls rest)) : W p l e R s m args below meth c H locs cells slots Q (F0 m pc ls (.int (nI cnt) :: .int (nI dp) :: .ref (fa_B G + k1) :: .int (nI sp) :: .ref (fa_st G j) :: rest)) := by
  obtain ⟨-, hX, hbb⟩ := CX.2.2.2.2.2.2.1 j hj
  obtain ⟨⟨hx, hb, hml, hown, hts⟩, hE⟩ := CX
  have c1 : (nI sp).toNatClampNeg = sp := nI_clamp (by omega)
  have c2 : (nI dp).toNatClampNeg = dp := nI_clamp (by omega)
  have c3 : (nI cnt).toNatClampNeg = cnt := nI_clamp (by omega)
  refine va_copyx hx hb (hml.trans hls.symm) hown (hts _ hlink) (hts _ hnat) (hts _ hstat) (hts _ hini) hE.1 HX.1 fa_w_D HX.2 hX (Nat.lt_of_lt_of_le hbb hE.2.2.2.2.2.2) (Nat.not_le.mpr hbb) k1 0 (fa_w_arr hk1 hsh1 (by decide)) rfl (nI_pos (by omega)) (nI_pos (by omega)) (nI_pos (by omega)) (by rw [c1, c3]; exact h4) (by rw [c2, c3]; exact h5) hframes hlocals hdg (fun H1 locs1 hP _ hS => ?_)
  rw [c1, c2, c3] at hP
  have e := fa_w_set (G := G) (n := n) (k := k1) (v := v) (v1 := fun k i => if k = k1 then va_cpy (fa_stV j) (v k1) sp dp cnt i else v k i) (r := r) (r1 := r) (e := .inl (fa_dA G 0, n1, .inl (va_cpy (fa_stV j) (v k1) sp dp cnt)))
    (by rw [hsh1]; simp [fa_cell]) (fun j hj => ⟨by funext i; simp [hj], rfl⟩)
  rw [e] at hP
  exact kk H1 locs1 _ rfl ⟨hP, hS⟩
end FAT
theorem fa_fill1 {v v1 : fa_V} {k i : Nat} {x : Int32} (h : ∀ j, j < i → v k j = x) (e : v1 = fa_u v k i x) : ∀ j, j < i + 1 → v1 k j = x := fun j hj => by
  rw [e]
  by_cases q : j = i
  · rw [q, fa_u_s]
  · rw [fa_u_n _ _ (fun z => q z.2)]
    exact h j (by omega)
theorem fa_fill2 {v v0 v1 : fa_V} {k i : Nat} {x : Int32} (h : ∀ j, ¬ j < i → v k j = v0 k j) (e : v1 = fa_u v k i x) : ∀ j, ¬ j < i + 1 → v1 k j = v0 k j := fun j hj => by
  rw [e, fa_u_n _ _ (fun z => hj (by omega))]
  exact h j (by omega)
theorem fa_add300 {a : Int32} (h : a ≤ nI 50) : nI 0 + a ≤ nI 300 := by
  have e : nI 0 + a = a := by
    show (0 : Int32) + a = a
    exact Int32.zero_add a
  rw [e]
  exact Int32.le_trans h (by decide)
theorem fa_add9999 {a : Int32} (h : a ≤ nI 400) : nI 0 + a ≤ nI 9999 := by
  have e : nI 0 + a = a := by
    show (0 : Int32) + a = a
    exact Int32.zero_add a
  rw [e]
  exact Int32.le_trans h (by decide)
theorem fa_natIn {x : Int32} {N : Nat} (hN : N < 2 ^ 31) (h1 : ¬ x < nI 1) (h2 : x ≤ nI N) : ∃ k : Nat, 1 ≤ k ∧ k ≤ N ∧ x = nI k := by
  have a1 : (1 : Int) ≤ x.toInt := by
    have := Int32.not_lt.mp h1
    have := Int32.le_iff_toInt_le.mp this
    rw [nI_toInt (by decide)] at this
    exact this
  have a2 : x.toInt ≤ (N : Int) := by
    have := Int32.le_iff_toInt_le.mp h2
    rw [nI_toInt hN] at this
    exact this
  refine ⟨x.toInt.toNat, by omega, by omega, ?_⟩
  apply Int32.toInt_inj.mp
  rw [nI_toInt (by omega)]
  omega
theorem fa_ix7 {x : Int32} {N : Nat} (hN : N < 2 ^ 31) (h : ¬ (x < 0 ∨ ¬ x < nI N)) : ∃ j : Nat, j < N ∧ x = nI j := by
  rcases pk_ix x hN with q | q | q
  · exact absurd (Or.inl q) h
  · exact absurd (Or.inr (Int32.not_lt.mpr q)) h
  · exact q
theorem fa_ifn {C : Prop} {d : Decidable C} {x : Int32} (h : x = @ite _ C d (nI 1) (nI 0)) (c : x = 0) : ¬ C := by
  intro q
  rw [if_pos q] at h
  rw [h] at c
  exact absurd c (by decide)
theorem fa_ift {C : Prop} {d : Decidable C} {x : Int32} (h : x = @ite _ C d (nI 1) (nI 0)) (c : ¬ x = 0) : C := by
  refine Decidable.byContradiction (fun q => ?_)
  rw [if_neg q] at h
  exact c h
/-- the class's memory as the constructor leaves it -/
def fa_FV (v : fa_V) : Prop := v 113 0 = 0 ∧ (∀ i, i < 8 → v 1 i = 0) ∧ v (1 + 2) 0 = 0 ∧ v (1 + 5) 0 = 0 ∧ (∀ i, i < 7 → v (1 + 7) i = fa_stV 0 i) ∧ v 395 1 = 0 ∧ v 0 6 = 0
theorem fa_set_eq {f : Nat → Int32} (a1 a2 : Int32) (h : ∀ j, j < 7 → f j = fa_stV 0 j) : (if a1 < 0 ∨ ¬ a1 < nI 7 then (-1 : Int32) else if a2 < fa_stV 1 a1.toNatClampNeg ∨ ¬ a2 ≤ fa_stV 2 a1.toNatClampNeg then (-2 : Int32) else f a1.toNatClampNeg) = (if a1 < 0 ∨ ¬ a1 < nI 7 then (-1 : Int32) else if a2 < fa_stV 1 a1.toNatClampNeg ∨ ¬ a2 ≤ fa_stV 2 a1.toNatClampNeg then (-2 : Int32) else fa_stV 0 a1.toNatClampNeg) := by
  by_cases q : a1 < 0 ∨ ¬ a1 < nI 7
  · rw [if_pos q, if_pos q]
  · obtain ⟨j, hj, e⟩ := fa_ix7 (by decide) q
    rw [if_neg q, if_neg q, h a1.toNatClampNeg (by rw [e, nI_clamp (by omega)]; exact hj)]
/-- the reference's memory as the constructor leaves it -/
def fa_FM (v : fa_V) : Prop := (∀ i, 7 ≤ i → i < 17 → v 398 i = 0) ∧ (∀ i, i < 7 → v 398 i = fa_stV 0 i) ∧ v 397 8 = 0 ∧ v 397 9 = 0 ∧ v 397 10 = 0
theorem fa_ltN {a b : Nat} (ha : a < 2 ^ 31) (hb : b < 2 ^ 31) (c : ¬ nI b ≤ nI a) : a < b := Nat.lt_of_not_le (fun q => c ((nI_leI hb ha).mpr q))
theorem fa_in0 {C : Prop} {d : Decidable C} {x : Int32} (h : x = @ite _ C d (nI 0) (nI 1)) (c : x = 0) : C := by
  refine Decidable.byContradiction (fun q => ?_)
  rw [if_neg q] at h
  rw [h] at c
  exact absurd c (by decide)
theorem fa_in1 {C : Prop} {d : Decidable C} {x : Int32} (h : x = @ite _ C d (nI 0) (nI 1)) (c : ¬ x = 0) : ¬ C := by
  intro q
  rw [if_pos q] at h
  exact c h
theorem fa_ltS {a : Int32} {k : Nat} (hk : k + 1 < 2 ^ 31) : nI k < a ↔ ¬ a < nI (k + 1) := by
  constructor
  · intro h q
    have h1 := Int32.lt_iff_toInt_lt.mp h
    have h2 := Int32.lt_iff_toInt_lt.mp q
    rw [nI_toInt (by omega)] at h1 h2
    omega
  · intro h
    have h2 := Int32.le_iff_toInt_le.mp (Int32.not_lt.mp h)
    apply Int32.lt_iff_toInt_lt.mpr
    rw [nI_toInt (by omega)] at h2 ⊢
    omega
theorem fa_seven {j : Nat} (h : j < 7) : j = 0 ∨ j = 1 ∨ j = 2 ∨ j = 3 ∨ j = 4 ∨ j = 5 ∨ j = 6 := by omega
theorem fa_inno {a h : Int32} (e : h = -1) (q : ¬ (a < nI 0 ∨ h < a)) : False := by
  have h1 : ¬ a < 0 := fun z => q (Or.inl z)
  have h2 : ¬ h < a := fun z => q (Or.inr z)
  rw [e] at h2
  have h3 := Int32.le_iff_toInt_le.mp (Int32.not_lt.mp h2)
  have h4 := Int32.le_iff_toInt_le.mp (Int32.not_lt.mp h1)
  have e1 : (-1 : Int32).toInt = -1 := by decide
  have e0 : (0 : Int32).toInt = 0 := by decide
  rw [e1] at h3
  rw [e0] at h4
  omega
theorem fa_cpy1 {v v0 v1 : fa_V} {k1 k2 k : Nat} (h : ∀ i, i < k → v k1 i = v0 k2 i) (hne : k2 ≠ k1) (hf : fa_fr k1 (k1 + 1) v0 v) (e : v1 = fa_u v k1 k (v k2 k)) : ∀ i, i < k + 1 → v1 k1 i = v0 k2 i := fun i hi => by
  rw [e]
  by_cases q : i = k
  · rw [q, fa_u_s, hf k2 (by omega)]
  · rw [fa_u_n _ _ (fun z => q z.2)]
    exact h i (by omega)
theorem fa_addn {a1 a2 : Int32} (h1 : ¬ (a1 < nI 0 ∨ nI 4 < a1)) (h2 : ¬ (a2 < nI 1 ∨ nI 50 < a2)) : ¬ (a1 < 0 ∨ nI 4 < a1 ∨ a2 < nI 1 ∨ ¬ a2 ≤ nI 50) := fun z => by
  rcases z with z | z | z | z
  · exact h1 (Or.inl z)
  · exact h1 (Or.inr z)
  · exact h2 (Or.inl z)
  · exact h2 (Or.inr (Int32.not_le.mp z))
theorem fa_set6 {a : Int32} (h : ¬ (a < nI 0 ∨ nI 6 < a)) : ¬ (a < 0 ∨ ¬ a < nI 7) := fun z => by
  rcases z with z | z
  · exact h (Or.inl z)
  · exact h (Or.inr ((fa_ltS (by decide)).mpr z))
theorem fa_set6n {a : Int32} (h : a < nI 0 ∨ nI 6 < a) : a < 0 ∨ ¬ a < nI 7 := by
  rcases h with z | z
  · exact Or.inl z
  · exact Or.inr ((fa_ltS (by decide)).mp z)
theorem fa_ip {a1 a2 : Int32} (h1 : ¬ (a1 < nI 1 ∨ nI 400 < a1)) (h2 : ¬ (a2 < nI 0 ∨ nI 2 < a2)) : ¬ (a1 < nI 1 ∨ nI 400 < a1 ∨ a2 < 0 ∨ ¬ a2 ≤ nI 2) := fun z => by
  rcases z with z | z | z | z
  · exact h1 (Or.inl z)
  · exact h1 (Or.inr z)
  · exact h2 (Or.inl z)
  · exact h2 (Or.inr (Int32.not_le.mp z))
