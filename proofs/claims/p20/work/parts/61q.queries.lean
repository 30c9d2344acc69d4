/-! WHAT IS TOLD, as numbers -/
def fb_cntA (A : fb_At) (w : Int32) : Int32 := if w = (0 : Int32) then nI A.n else if w = (1 : Int32) then A.g 8 else if w = (2 : Int32) then fb_pgs A else if w = (3 : Int32) then A.g 9 else if w = (4 : Int32) then A.g 10 else if w = (5 : Int32) then A.g 11 else if w = (6 : Int32) then A.g 12 else if w = (7 : Int32) then A.g 13 else if w = (8 : Int32) then nI A.q.length else if w = (9 : Int32) then nI A.m else (-2 : Int32)
theorem fb_cntA_0 {A : fb_At} {w : Int32} (h : w = (0 : Int32)) : fb_cntA A w = nI A.n := by
  rw [fb_cntA, h, if_pos rfl]
theorem fb_cntA_1 {A : fb_At} {w : Int32} (h : w = (1 : Int32)) : fb_cntA A w = A.g 8 := by
  rw [fb_cntA, h, if_neg (by decide), if_pos rfl]
theorem fb_cntA_2 {A : fb_At} {w : Int32} (h : w = (2 : Int32)) : fb_cntA A w = fb_pgs A := by
  rw [fb_cntA, h, if_neg (by decide), if_neg (by decide), if_pos rfl]
theorem fb_cntA_3 {A : fb_At} {w : Int32} (h : w = (3 : Int32)) : fb_cntA A w = A.g 9 := by
  rw [fb_cntA, h, if_neg (by decide), if_neg (by decide), if_neg (by decide), if_pos rfl]
theorem fb_cntA_4 {A : fb_At} {w : Int32} (h : w = (4 : Int32)) : fb_cntA A w = A.g 10 := by
  rw [fb_cntA, h, if_neg (by decide), if_neg (by decide), if_neg (by decide), if_neg (by decide), if_pos rfl]
theorem fb_cntA_5 {A : fb_At} {w : Int32} (h : w = (5 : Int32)) : fb_cntA A w = A.g 11 := by
  rw [fb_cntA, h, if_neg (by decide), if_neg (by decide), if_neg (by decide), if_neg (by decide), if_neg (by decide), if_pos rfl]
theorem fb_cntA_6 {A : fb_At} {w : Int32} (h : w = (6 : Int32)) : fb_cntA A w = A.g 12 := by
  rw [fb_cntA, h, if_neg (by decide), if_neg (by decide), if_neg (by decide), if_neg (by decide), if_neg (by decide), if_neg (by decide), if_pos rfl]
theorem fb_cntA_7 {A : fb_At} {w : Int32} (h : w = (7 : Int32)) : fb_cntA A w = A.g 13 := by
  rw [fb_cntA, h, if_neg (by decide), if_neg (by decide), if_neg (by decide), if_neg (by decide), if_neg (by decide), if_neg (by decide), if_neg (by decide), if_pos rfl]
theorem fb_cntA_8 {A : fb_At} {w : Int32} (h : w = (8 : Int32)) : fb_cntA A w = nI A.q.length := by
  rw [fb_cntA, h, if_neg (by decide), if_neg (by decide), if_neg (by decide), if_neg (by decide), if_neg (by decide), if_neg (by decide), if_neg (by decide), if_neg (by decide), if_pos rfl]
theorem fb_cntA_9 {A : fb_At} {w : Int32} (h : w = (9 : Int32)) : fb_cntA A w = nI A.m := by
  rw [fb_cntA, h, if_neg (by decide), if_neg (by decide), if_neg (by decide), if_neg (by decide), if_neg (by decide), if_neg (by decide), if_neg (by decide), if_neg (by decide), if_neg (by decide), if_pos rfl]
theorem fb_cntA_o {A : fb_At} {w : Int32} (h0 : ¬ w = (0 : Int32)) (h1 : ¬ w = (1 : Int32)) (h2 : ¬ w = (2 : Int32)) (h3 : ¬ w = (3 : Int32)) (h4 : ¬ w = (4 : Int32)) (h5 : ¬ w = (5 : Int32)) (h6 : ¬ w = (6 : Int32)) (h7 : ¬ w = (7 : Int32)) (h8 : ¬ w = (8 : Int32)) (h9 : ¬ w = (9 : Int32)) : fb_cntA A w = (-2 : Int32) := by
  rw [fb_cntA, if_neg h0, if_neg h1, if_neg h2, if_neg h3, if_neg h4, if_neg h5, if_neg h6, if_neg h7, if_neg h8, if_neg h9]
def fb_fatA (A : fb_At) (p : Int32) : Int32 := if p < 0 then (-2 : Int32) else if ¬ p < nI A.n then (-6 : Int32) else A.F (fa_N p) 0
def fb_m6 (x : Int32) : Int32 := if x < 0 then (-6 : Int32) else x
def fb_filP (A : fb_At) (p : Nat) (w : Int32) : Int32 := if w = (0 : Int32) then A.F p 1 else if w = (1 : Int32) then A.F p 2 else if w = (2 : Int32) then A.F p 3 else if w = (3 : Int32) then fb_m6 (A.F p 4) else if w = (4 : Int32) then A.F p 5 else if w = (5 : Int32) then fb_m6 (A.F p 6) else if w = (6 : Int32) then fb_dueA A p else if w = (7 : Int32) then fb_maskA A p else if w = (8 : Int32) then fb_refs A (A.F p 0) else if w = (9 : Int32) then fb_nres A (A.F p 0) else (-2 : Int32)
theorem fb_filP_0 {A : fb_At} {p : Nat} {w : Int32} (h : w = (0 : Int32)) : fb_filP A p w = A.F p 1 := by
  rw [fb_filP, h, if_pos rfl]
theorem fb_filP_1 {A : fb_At} {p : Nat} {w : Int32} (h : w = (1 : Int32)) : fb_filP A p w = A.F p 2 := by
  rw [fb_filP, h, if_neg (by decide), if_pos rfl]
theorem fb_filP_2 {A : fb_At} {p : Nat} {w : Int32} (h : w = (2 : Int32)) : fb_filP A p w = A.F p 3 := by
  rw [fb_filP, h, if_neg (by decide), if_neg (by decide), if_pos rfl]
theorem fb_filP_3 {A : fb_At} {p : Nat} {w : Int32} (h : w = (3 : Int32)) : fb_filP A p w = fb_m6 (A.F p 4) := by
  rw [fb_filP, h, if_neg (by decide), if_neg (by decide), if_neg (by decide), if_pos rfl]
theorem fb_filP_4 {A : fb_At} {p : Nat} {w : Int32} (h : w = (4 : Int32)) : fb_filP A p w = A.F p 5 := by
  rw [fb_filP, h, if_neg (by decide), if_neg (by decide), if_neg (by decide), if_neg (by decide), if_pos rfl]
theorem fb_filP_5 {A : fb_At} {p : Nat} {w : Int32} (h : w = (5 : Int32)) : fb_filP A p w = fb_m6 (A.F p 6) := by
  rw [fb_filP, h, if_neg (by decide), if_neg (by decide), if_neg (by decide), if_neg (by decide), if_neg (by decide), if_pos rfl]
theorem fb_filP_6 {A : fb_At} {p : Nat} {w : Int32} (h : w = (6 : Int32)) : fb_filP A p w = fb_dueA A p := by
  rw [fb_filP, h, if_neg (by decide), if_neg (by decide), if_neg (by decide), if_neg (by decide), if_neg (by decide), if_neg (by decide), if_pos rfl]
theorem fb_filP_7 {A : fb_At} {p : Nat} {w : Int32} (h : w = (7 : Int32)) : fb_filP A p w = fb_maskA A p := by
  rw [fb_filP, h, if_neg (by decide), if_neg (by decide), if_neg (by decide), if_neg (by decide), if_neg (by decide), if_neg (by decide), if_neg (by decide), if_pos rfl]
theorem fb_filP_8 {A : fb_At} {p : Nat} {w : Int32} (h : w = (8 : Int32)) : fb_filP A p w = fb_refs A (A.F p 0) := by
  rw [fb_filP, h, if_neg (by decide), if_neg (by decide), if_neg (by decide), if_neg (by decide), if_neg (by decide), if_neg (by decide), if_neg (by decide), if_neg (by decide), if_pos rfl]
theorem fb_filP_9 {A : fb_At} {p : Nat} {w : Int32} (h : w = (9 : Int32)) : fb_filP A p w = fb_nres A (A.F p 0) := by
  rw [fb_filP, h, if_neg (by decide), if_neg (by decide), if_neg (by decide), if_neg (by decide), if_neg (by decide), if_neg (by decide), if_neg (by decide), if_neg (by decide), if_neg (by decide), if_pos rfl]
theorem fb_filP_o {A : fb_At} {p : Nat} {w : Int32} (h0 : ¬ w = (0 : Int32)) (h1 : ¬ w = (1 : Int32)) (h2 : ¬ w = (2 : Int32)) (h3 : ¬ w = (3 : Int32)) (h4 : ¬ w = (4 : Int32)) (h5 : ¬ w = (5 : Int32)) (h6 : ¬ w = (6 : Int32)) (h7 : ¬ w = (7 : Int32)) (h8 : ¬ w = (8 : Int32)) (h9 : ¬ w = (9 : Int32)) : fb_filP A p w = (-2 : Int32) := by
  rw [fb_filP, if_neg h0, if_neg h1, if_neg h2, if_neg h3, if_neg h4, if_neg h5, if_neg h6, if_neg h7, if_neg h8, if_neg h9]
def fb_filA (A : fb_At) (a w : Int32) : Int32 := match fb_ix A.F a A.n with
  | none => (-1 : Int32)
  | some p => fb_filP A p w
theorem fb_filA_n {A : fb_At} {a w : Int32} (e : fb_ix A.F a A.n = none) : fb_filA A a w = (-1 : Int32) := by rw [fb_filA, e]
theorem fb_filA_s {A : fb_At} {a w : Int32} {p : Nat} (e : fb_ix A.F a A.n = some p) : fb_filA A a w = fb_filP A p w := by rw [fb_filA, e]
theorem fb_m6_of {x y : Int32} (h : fb_e6 x = y) (hy : y = (-1 : Int32) ∨ 0 ≤ y) : x = fb_m6 y := by
  rcases hy with z | z
  · rw [z] at h
    rw [fb_e6_m1 h, z]
    rfl
  · rw [fb_e6_inv h z, fb_m6, if_neg (Int32.not_lt.mpr z)]
theorem fb_okA.f4 {A : fb_At} (h : fb_okA A) {p : Nat} (hp : p < A.n) : A.F p 4 = (-1 : Int32) ∨ 0 ≤ A.F p 4 := (h.1.2.2.2.2.2 p hp).2.1
theorem fb_okA.f6 {A : fb_At} (h : fb_okA A) {p : Nat} (hp : p < A.n) : A.F p 6 = (-1 : Int32) ∨ 0 ≤ A.F p 6 := by
  rcases (h.1.2.2.2.2.2 p hp).2.2.1 with z | ⟨k, hk, z⟩
  · exact Or.inl z
  · exact Or.inr (by rw [← z]; exact h.npos hk)
def fb_sloA (A : fb_At) (h a : Int32) : Int32 := match fb_ix A.F a A.n with
  | none => (-1 : Int32)
  | some p => if h < 0 ∨ ¬ h < nI 8 then (-1 : Int32) else if A.F p (7 + fa_N h) = 0 then (-6 : Int32) else A.F p (7 + fa_N h) - 1
theorem fb_sloA_n {A : fb_At} {h a : Int32} (e : fb_ix A.F a A.n = none) : fb_sloA A h a = (-1 : Int32) := by rw [fb_sloA, e]
theorem fb_sloA_h {A : fb_At} {h a : Int32} {p : Nat} (e : fb_ix A.F a A.n = some p) (c : h < 0 ∨ ¬ h < nI 8) : fb_sloA A h a = (-1 : Int32) := by
  rw [fb_sloA, e]
  exact if_pos c
theorem fb_sloA_s {A : fb_At} {h a : Int32} {p j : Nat} (e : fb_ix A.F a A.n = some p) (c : ¬ (h < 0 ∨ ¬ h < nI 8)) (hj : h = nI j) (hj8 : j < 8) : fb_sloA A h a = if A.F p (7 + j) = 0 then (-6 : Int32) else A.F p (7 + j) - 1 := by
  have ej : fa_N h = j := by rw [hj, fa_N_nI (by omega)]
  rw [← ej, fb_sloA, e]
  exact if_neg c
def fb_trcA (A : fb_At) (k w : Int32) : Int32 := if k < 0 ∨ w < 0 ∨ ¬ w < nI 5 then (-2 : Int32) else if ¬ k < nI A.m then (-6 : Int32) else A.T (A.m - 1 - fa_N k) (fa_N w)
/-- the reservations, sorted -/
def fb_rsvP (A : fb_At) (k w x : Int32) : Prop := ∀ L : List (Int32 × Int32), L.Perm A.q → L.Pairwise fb_bef → x = if k < 0 ∨ w < 0 ∨ ¬ w ≤ nI 1 then (-2 : Int32) else match L[fa_N k]? with
  | none => (-6 : Int32)
  | some y => if w = 0 then y.1 else y.2
def fb_stgA (A : fb_At) (s : Int32) : Int32 := if s < 0 ∨ ¬ s < nI 7 then (-1 : Int32) else A.g (fa_N s)
def fb_ages (A : fb_At) : Int32 := fa_sum (fun p => A.g 7 - A.F p 3) A.n
noncomputable def fb_styA (A : fb_At) (a : Int32) : Int32 := match fb_ix A.F a A.n with
  | none => (-1 : Int32)
  | some p => fb_why A p
theorem fb_styA_n {A : fb_At} {a : Int32} (e : fb_ix A.F a A.n = none) : fb_styA A a = (-1 : Int32) := by rw [fb_styA, e]
theorem fb_styA_s {A : fb_At} {a : Int32} {p : Nat} (e : fb_ix A.F a A.n = some p) : fb_styA A a = fb_why A p := by rw [fb_styA, e]
/-- the lowest one that stays and refers to a -/
noncomputable def fb_kpr (A : fb_At) (a : Int32) : Nat → Int32
  | 0 => (-6 : Int32)
  | n + 1 => if fb_kpr A a n = (-6 : Int32) then (if A.F n 6 = a ∧ fb_stb A n = true then A.F n 0 else (-6 : Int32)) else fb_kpr A a n
noncomputable def fb_kprA (A : fb_At) (a : Int32) : Int32 := if fb_styA A a = (-1 : Int32) then (-1 : Int32) else if fb_styA A a = nI 4 then fb_kpr A a A.n else (-6 : Int32)
theorem fb_kpr_no {A : fb_At} {a : Int32} : ∀ n, (∀ k, k < n → ¬ (A.F k 6 = a ∧ fb_stb A k = true)) → fb_kpr A a n = (-6 : Int32)
  | 0, _ => rfl
  | n + 1, h => by rw [fb_kpr, fb_kpr_no n (fun k hk => h k (by omega)), if_pos rfl, if_neg (h n (by omega))]
theorem fb_kpr_at {A : fb_At} {a : Int32} {p : Nat} (h : A.F p 6 = a ∧ fb_stb A p = true) (hp : 0 ≤ A.F p 0) (hl : ∀ k, k < p → ¬ (A.F k 6 = a ∧ fb_stb A k = true)) : ∀ n, p < n → fb_kpr A a n = A.F p 0
  | 0, hn => absurd hn (Nat.not_lt_zero _)
  | n + 1, hn => by
    have n6 : ¬ A.F p 0 = (-6 : Int32) := fun z => by rw [z] at hp; exact absurd hp (by decide)
    rw [fb_kpr]
    by_cases z : p = n
    · rw [← z, fb_kpr_no p hl, if_pos rfl, if_pos h]
    · rw [fb_kpr_at h hp hl n (by omega), if_neg n6]
theorem fb_cA.ages {v : fa_V} {r : fa_R} {b : Nat} {A : fb_At} (h : fb_cA v r b A) : fa_sum (fun p => v b 0 - v (fa_pf r b p) 3) (fa_N (v b 1)) = fb_ages A := by
  rw [h.n]
  exact fa_sum_congr _ (fun k hk => by rw [h.now, h.f hk (by decide) (by decide)])
/-- the class's row of reservations is the sorted one -/
theorem fb_srt_uniq {L M : List (Int32 × Int32)} (h : L.Perm M) (h1 : L.Pairwise fb_bef) (h2 : M.Pairwise fb_bef) : L = M := List.Perm.eq_of_pairwise (fun a b _ _ x y => absurd (fb_bef_tr x y) fb_bef_irr) h1 h2 h
theorem fb_cQ.at {v : fa_V} {b : Nat} {q L : List (Int32 × Int32)} (h : fb_cQ v b q) (hP : L.Perm q) (hS : L.Pairwise fb_bef) : fb_cL v b L := by
  obtain ⟨M, hM, hQ, hT⟩ := h
  rw [fb_srt_uniq (hP.trans hQ.symm) hS hT]
  exact hM
theorem fb_c_rsv0 {A : fb_At} {k w : Int32} (h : k < 0 ∨ w < 0 ∨ ¬ w ≤ nI 1) : fb_rsvP A k w (-2 : Int32) := fun L _ _ => (if_pos h).symm
theorem fb_c_rsv1 {v : fa_V} {b : Nat} {A : fb_At} {k w : Int32} (hc : fb_cQ v b A.q) (h : ¬ (k < 0 ∨ w < 0 ∨ ¬ w ≤ nI 1)) (h2 : ¬ k < v (b + 2) 0) : fb_rsvP A k w (-6 : Int32) := fun L hP hS => by
  have hL := hc.at hP hS
  have l8 := hL.2.1
  obtain ⟨j, hj, ej⟩ := nI_of (x := k) (fun z => h (Or.inl z))
  rw [hL.1, ej, nI_ltI hj (by omega)] at h2
  rw [if_neg h, ej, fa_N_nI hj, List.getElem?_eq_none (by omega)]
theorem fb_c_rsv2 {v : fa_V} {b j : Nat} {A : fb_At} {k w x : Int32} (hc : fb_cQ v b A.q) (h : ¬ (k < 0 ∨ w < 0 ∨ ¬ w ≤ nI 1)) (ej : k = nI j) (hj : j < fa_N (v (b + 2) 0)) (hx : x = if w = 0 then v (b + 3) j else v (b + 4) j) : fb_rsvP A k w x := fun L hP hS => by
  have hL := hc.at hP hS
  have l8 := hL.2.1
  rw [hL.n] at hj
  rw [if_neg h, ej, fa_N_nI (by omega), List.getElem?_eq_getElem hj, hx, hL.at hj]
theorem fb_trc0 {A : fb_At} {k w : Int32} (h : k < 0 ∨ w < 0 ∨ ¬ w < nI 5) : fb_trcA A k w = (-2 : Int32) := if_pos h
theorem fb_trc1 {A : fb_At} {k w : Int32} (h : ¬ (k < 0 ∨ w < 0 ∨ ¬ w < nI 5)) (h2 : ¬ k < nI A.m) : fb_trcA A k w = (-6 : Int32) := by rw [fb_trcA, if_neg h, if_pos h2]
theorem fb_trc2 {A : fb_At} {k w : Int32} {j i : Nat} (h : ¬ (k < 0 ∨ w < 0 ∨ ¬ w < nI 5)) (ek : k = nI j) (ew : w = nI i) (hj : j < A.m) (hm : A.m ≤ 12) (hi : i < 5) : fb_trcA A k w = A.T (A.m - 1 - j) i := by
  rw [fb_trcA, if_neg h, if_neg (fun z => z (by rw [ek]; exact nI_lt hj (by omega))), ek, ew, fa_N_nI (by omega), fa_N_nI (by omega)]
/-- the one that keeps, as the class finds it -/
theorem fb_c_kpr {v : fa_V} {r : fa_R} {b : Nat} {A : fb_At} {a x : Int32} (hok : fb_okA A) (hc : fb_cA v r b A) (ha : 0 ≤ a) (hw : ∀ p, p < A.n → v (fa_pf r b p) 8 = fb_why A p) (h : (∃ p, p < fa_N (v b 1) ∧ (v (fa_pf r b p) 6 = a ∧ ¬ v (fa_pf r b p) 8 = 0) ∧ x = v (fa_pf r b p) 0 ∧ ∀ k, k < p → ¬ (v (fa_pf r b k) 6 = a ∧ ¬ v (fa_pf r b k) 8 = 0)) ∨ (x = (-6 : Int32) ∧ ∀ k, k < fa_N (v b 1) → ¬ (v (fa_pf r b k) 6 = a ∧ ¬ v (fa_pf r b k) 8 = 0))) : x = fb_kpr A a A.n := by
  rw [hc.n] at h
  have iff : ∀ k, k < A.n → ((v (fa_pf r b k) 6 = a ∧ ¬ v (fa_pf r b k) 8 = 0) ↔ (A.F k 6 = a ∧ fb_stb A k = true)) := fun k hk => by
    rw [hw k hk, fb_why0 hk, fb_e6_eq ha, hc.f6 hk (Or.inr rfl), Decidable.not_not]
  rcases h with ⟨p, hp, h1, h2, h3⟩ | ⟨h1, h2⟩
  · rw [h2, hc.f hp (by decide) (by decide), fb_kpr_at ((iff p hp).mp h1) (hok.npos hp) (fun k hk z => h3 k hk ((iff k (by omega)).mpr z)) A.n hp]
  · rw [h1, fb_kpr_no A.n (fun k hk z => h2 k hk ((iff k hk).mpr z))]
theorem fb_sty4 {A : fb_At} {a : Int32} (hok : fb_okA A) (h : fb_styA A a = nI 4) : 0 ≤ a := by
  rcases fb_ix_elim A.n (F := A.F) (a := a) with z | ⟨p, z, hp, ep, -⟩
  · rw [fb_styA_n z.1] at h
    exact absurd h (by decide)
  · rw [← ep]; exact hok.npos hp
theorem fb_mean {v : fa_V} {r : fa_R} {b : Nat} {A : fb_At} (hc : fb_cA v r b A) : fa_N (v b 1) = A.n := hc.n
noncomputable def fb_meanA (A : fb_At) : UInt32 := if A.n = 0 then FP.fconst0 else FP.fdiv (FP.i2f (fb_ages A)) (FP.i2f (nI A.n))
