/-! RESERVATIONS -/
/-- (a1, a2) comes before the k-th -/
def fb_cb (v : fa_V) (b : Nat) (a1 a2 : Int32) (k : Nat) : Prop := a2 < v (b + 4) k ∨ (a2 = v (b + 4) k ∧ ¬ v (b + 3) k ≤ a1)
def fb_insI (v w : fa_V) (b : Nat) (a1 a2 : Int32) (n2 pl : Nat) : Prop := (∀ k, k < pl → w (b + 3) k = v (b + 3) k ∧ w (b + 4) k = v (b + 4) k) ∧ (∀ k, pl < k → k ≤ n2 → w (b + 3) k = v (b + 3) (k - 1) ∧ w (b + 4) k = v (b + 4) (k - 1)) ∧ ∀ k, pl ≤ k → k < n2 → fb_cb v b a1 a2 k
theorem fb_insI.s {v w w1 w2 : fa_V} {b : Nat} {a1 a2 : Int32} {n2 pl : Nat} (h : fb_insI v w b a1 a2 n2 pl) (hp : 0 < pl) (e1 : w1 = fa_u w (b + 3) pl (w (b + 3) (pl - 1))) (e2 : w2 = fa_u w1 (b + 4) pl (w1 (b + 4) (pl - 1))) (hcb : fb_cb w b a1 a2 (pl - 1)) : fb_insI v w2 b a1 a2 n2 (pl - 1) := by
  obtain ⟨h1, h2, h3⟩ := h
  have z := h1 (pl - 1) (by omega)
  refine ⟨fun k hk => ?_, fun k hk hk2 => ?_, fun k hk hk2 => ?_⟩
  · rw [e2, fa_u_n _ _ (by omega), fa_u_n _ _ (by omega), e1, fa_u_n _ _ (by omega), fa_u_n _ _ (by omega)]
    exact h1 k (by omega)
  · by_cases y : k = pl
    · subst y
      rw [e2, fa_u_n _ _ (by omega), fa_u_s, e1, fa_u_s, fa_u_n _ _ (by omega)]
      exact z
    · rw [e2, fa_u_n _ _ (by omega), fa_u_n _ _ (by omega), e1, fa_u_n _ _ (by omega), fa_u_n _ _ (by omega)]
      exact h2 k (by omega) hk2
  · by_cases y : k = pl - 1
    · subst y
      unfold fb_cb at hcb ⊢
      rw [z.1, z.2] at hcb
      exact hcb
    · exact h3 k (by omega) hk2
theorem fb_cbt {v : fa_V} {b k : Nat} {a1 a2 x : Int32} (h : x = if a2 < v (b + 4) k ∨ (a2 = v (b + 4) k ∧ ¬ v (b + 3) k ≤ a1) then nI 1 else nI 0) (c : ¬ x = 0) : fb_cb v b a1 a2 k := fa_ift h c
theorem fb_cbn {v : fa_V} {b k : Nat} {a1 a2 x : Int32} (h : x = if a2 < v (b + 4) k ∨ (a2 = v (b + 4) k ∧ ¬ v (b + 3) k ≤ a1) then nI 1 else nI 0) (c : x = 0) : ¬ fb_cb v b a1 a2 k := fa_ifn h c
theorem fb_nIinj2 {a b : Nat} (ha : a < 2 ^ 31) (hb : b < 2 ^ 31) (h : nI a = nI b) : a = b := by
  have := congrArg fa_N h
  rw [fa_N_nI ha, fa_N_nI hb] at this
  exact this
theorem fb_res7 {v : fa_V} {b : Nat} (hI : fa_IS v b) (c : v (b + 2) 0 < nI 8) : fa_N (v (b + 2) 0) < 8 := by
  obtain ⟨n, hn, e⟩ := hI.2.1
  rw [e] at c ⊢
  rw [fa_N_nI (by omega)]
  exact fa_ltN' (by omega) (by omega) c
theorem fb_res8 {v : fa_V} {b : Nat} (hI : fa_IS v b) (c : ¬ v (b + 2) 0 < nI 8) : 8 ≤ fa_N (v (b + 2) 0) := by
  obtain ⟨n, hn, e⟩ := hI.2.1
  rw [e] at c ⊢
  rw [fa_N_nI (by omega)]
  exact Nat.le_of_not_lt (fun z => c ((nI_ltI (by omega) (by decide)).mpr z))
/-- what inserting (a1, a2) does -/
def fb_insP (v w : fa_V) (b : Nat) (a1 a2 : Int32) (n2 pl : Nat) : Prop := pl ≤ n2 ∧ w (b + 2) 0 = nI (n2 + 1) ∧ (∀ k, k < pl → w (b + 3) k = v (b + 3) k ∧ w (b + 4) k = v (b + 4) k) ∧ (w (b + 3) pl = a1 ∧ w (b + 4) pl = a2) ∧ (∀ k, pl < k → k ≤ n2 → w (b + 3) k = v (b + 3) (k - 1) ∧ w (b + 4) k = v (b + 4) (k - 1)) ∧ (∀ k, pl ≤ k → k < n2 → fb_cb v b a1 a2 k) ∧ (0 < pl → ¬ fb_cb v b a1 a2 (pl - 1))
theorem fb_insI.e {v w w1 w2 w3 : fa_V} {b : Nat} {a1 a2 : Int32} {n2 pl : Nat} (h : fb_insI v w b a1 a2 n2 pl) (hp : pl ≤ n2) (e1 : w1 = fa_u w (b + 3) pl a1) (e2 : w2 = fa_u w1 (b + 4) pl a2) (e3 : w3 = fa_u w2 (b + 2) 0 (nI (n2 + 1))) (hs : 0 < pl → ¬ fb_cb w b a1 a2 (pl - 1)) : fb_insP v w3 b a1 a2 n2 pl := by
  obtain ⟨h1, h2, h3⟩ := h
  refine ⟨hp, by rw [e3, fa_u_s], fun k hk => ?_, ⟨?_, ?_⟩, fun k hk hk2 => ?_, h3, fun y => ?_⟩
  · rw [e3, fa_u_n _ _ (by omega), fa_u_n _ _ (by omega), e2, fa_u_n _ _ (by omega), fa_u_n _ _ (by omega), e1, fa_u_n _ _ (by omega), fa_u_n _ _ (by omega)]
    exact h1 k hk
  · rw [e3, fa_u_n _ _ (by omega), e2, fa_u_n _ _ (by omega), e1, fa_u_s]
  · rw [e3, fa_u_n _ _ (by omega), e2, fa_u_s]
  · rw [e3, fa_u_n _ _ (by omega), fa_u_n _ _ (by omega), e2, fa_u_n _ _ (by omega), fa_u_n _ _ (by omega), e1, fa_u_n _ _ (by omega), fa_u_n _ _ (by omega)]
    exact h2 k hk hk2
  · have z := h1 (pl - 1) (by omega)
    have w := hs y
    unfold fb_cb at w ⊢
    rw [z.1, z.2] at w
    exact w
theorem fb_cL.at {v : fa_V} {b : Nat} {L : List (Int32 × Int32)} (h : fb_cL v b L) {k : Nat} (hk : k < L.length) : L[k] = (v (b + 3) k, v (b + 4) k) := by
  have z := h.2.2 k L[k] (List.getElem?_eq_getElem hk)
  rw [z.1, z.2]
theorem fb_cL.of {v : fa_V} {b : Nat} {L : List (Int32 × Int32)} (h0 : v (b + 2) 0 = nI L.length) (h8 : L.length ≤ 8) (h : ∀ k (hk : k < L.length), v (b + 3) k = L[k].1 ∧ v (b + 4) k = L[k].2) : fb_cL v b L :=
  ⟨h0, h8, fun p y e => by
    obtain ⟨hp, e2⟩ := List.getElem?_eq_some_iff.mp e
    rw [← e2]
    exact h p hp⟩
theorem fb_cL.n {v : fa_V} {b : Nat} {L : List (Int32 × Int32)} (h : fb_cL v b L) : fa_N (v (b + 2) 0) = L.length := by
  rw [h.1, fa_N_nI (by have := h.2.1; omega)]
theorem fb_bef_irr {x : Int32 × Int32} : ¬ fb_bef x x := fun h => h.elim Int32.lt_irrefl (fun z => Int32.lt_irrefl z.2)
theorem fb_bef_tr {x y z : Int32 × Int32} (h : fb_bef x y) (h2 : fb_bef y z) : fb_bef x z := by
  rcases h with h | ⟨h, k⟩ <;> rcases h2 with h2 | ⟨h2, k2⟩
  · exact Or.inl (Int32.lt_trans h h2)
  · exact Or.inl (by rw [← h2]; exact h)
  · exact Or.inl (by rw [h]; exact h2)
  · exact Or.inr ⟨h.trans h2, Int32.lt_trans k k2⟩
theorem fb_bef_or {x y : Int32 × Int32} (h : ¬ fb_bef x y) (hne : ¬ x = y) : fb_bef y x := by
  by_cases z : x.2 < y.2
  · exact absurd (Or.inl z) h
  · rcases Int32.lt_or_eq_of_le (Int32.not_lt.mp z) with w | w
    · exact Or.inl w
    · by_cases u : x.1 < y.1
      · exact absurd (Or.inr ⟨w.symm, u⟩) h
      · rcases Int32.lt_or_eq_of_le (Int32.not_lt.mp u) with t | t
        · exact Or.inr ⟨w, t⟩
        · exact absurd (Prod.ext t.symm w.symm) hne
theorem fb_cb_bef {v : fa_V} {b k : Nat} {a1 a2 : Int32} {L : List (Int32 × Int32)} (h : fb_cL v b L) (hk : k < L.length) : fb_cb v b a1 a2 k ↔ fb_bef (a1, a2) L[k] := by
  rw [h.at hk]
  unfold fb_cb fb_bef
  rw [Int32.not_le]
theorem fb_srt_at {L : List (Int32 × Int32)} (h : L.Pairwise fb_bef) {i j : Nat} (hi : i < L.length) (hj : j < L.length) (hij : i < j) : fb_bef L[i] L[j] := List.pairwise_iff_getElem.mp h i j hi hj hij
theorem fb_c_ins {v w : fa_V} {b pl n2 : Nat} {q : List (Int32 × Int32)} {L : List (Int32 × Int32)} {a1 a2 : Int32} (hL : fb_cL v b L) (hP : L.Perm q) (hS : L.Pairwise fb_bef) (hn : n2 = L.length) (h8 : n2 < 8) (hne : ¬ (a1, a2) ∈ q) (h : fb_insP v w b a1 a2 n2 pl) : fb_cQ w b ((a1, a2) :: q) := by
  subst hn
  obtain ⟨h1, h2, h3, h4, h5, h6, h7⟩ := h
  have hl : (L.insertIdx pl (a1, a2)).length = L.length + 1 := by rw [List.length_insertIdx, if_pos h1]
  have hne2 : ∀ k (hk : k < L.length), ¬ (a1, a2) = L[k] := fun k hk e => hne (hP.mem_iff.mp (by rw [e]; exact List.getElem_mem hk))
  have up : ∀ k (hk : k < L.length), pl ≤ k → fb_bef (a1, a2) L[k] := fun k hk y => (fb_cb_bef hL hk).mp (h6 k y hk)
  have dn : ∀ k (hk : k < L.length), k < pl → fb_bef L[k] (a1, a2) := fun k hk y => by
    have z : fb_bef L[pl - 1] (a1, a2) := fb_bef_or (fun y => h7 (by omega) ((fb_cb_bef hL (by omega)).mpr y)) (hne2 (pl - 1) (by omega))
    by_cases e : k = pl - 1
    · subst e; exact z
    · exact fb_bef_tr (fb_srt_at hS hk (by omega) (by omega)) z
  refine ⟨L.insertIdx pl (a1, a2), fb_cL.of (by rw [hl]; exact h2) (by omega) (fun k hk => ?_), (List.perm_insertIdx _ _ h1).trans (List.Perm.cons _ hP), List.pairwise_iff_getElem.mpr (fun i j hi hj hij => ?_)⟩
  · rcases Nat.lt_trichotomy k pl with z | z | z
    · rw [List.getElem_insertIdx_of_lt z, hL.at (by omega)]
      exact h3 k z
    · subst z
      rw [List.getElem_insertIdx_self]
      exact h4
    · rw [List.getElem_insertIdx_of_gt z, hL.at (by omega)]
      exact h5 k z (by omega)
  · rcases Nat.lt_trichotomy j pl with z | z | z
    · rw [List.getElem_insertIdx_of_lt z, List.getElem_insertIdx_of_lt (by omega)]
      exact fb_srt_at hS _ _ hij
    · subst z
      rw [List.getElem_insertIdx_self, List.getElem_insertIdx_of_lt hij]
      exact dn i (by omega) hij
    · rw [List.getElem_insertIdx_of_gt z]
      rcases Nat.lt_trichotomy i pl with y | y | y
      · rw [List.getElem_insertIdx_of_lt y]
        exact fb_srt_at hS _ _ (by omega)
      · subst y
        rw [List.getElem_insertIdx_self]
        exact up (j - 1) (by omega) (by omega)
      · rw [List.getElem_insertIdx_of_gt y]
        exact fb_srt_at hS _ _ (by omega)
/-- what removing the ja-th does -/
def fb_remP (v w : fa_V) (b n2 ja : Nat) : Prop := w (b + 2) 0 = nI (n2 - 1) ∧ (∀ k, k < ja → w (b + 3) k = v (b + 3) k ∧ w (b + 4) k = v (b + 4) k) ∧ ∀ k, ja ≤ k → k < n2 - 1 → w (b + 3) k = v (b + 3) (k + 1) ∧ w (b + 4) k = v (b + 4) (k + 1)
def fb_remI (v w : fa_V) (b ja j : Nat) : Prop := ja ≤ j ∧ (∀ k, k < ja → w (b + 3) k = v (b + 3) k ∧ w (b + 4) k = v (b + 4) k) ∧ (∀ k, ja ≤ k → k < j → w (b + 3) k = v (b + 3) (k + 1) ∧ w (b + 4) k = v (b + 4) (k + 1)) ∧ ∀ k, j ≤ k → w (b + 3) k = v (b + 3) k ∧ w (b + 4) k = v (b + 4) k
theorem fb_remI0 {v w : fa_V} {b ja : Nat} {x : Int32} (e : w = fa_u v (b + 2) 0 x) : fb_remI v w b ja ja := by
  have r : ∀ q, ¬ q = b + 2 → w q = v q := fun q hq => by rw [e, fa_u_k _ _ hq]
  exact ⟨Nat.le_refl ja, fun k _ => by rw [r _ (by omega), r _ (by omega)]; exact ⟨rfl, rfl⟩, fun k h1 h2 => by omega, fun k _ => by rw [r _ (by omega), r _ (by omega)]; exact ⟨rfl, rfl⟩⟩
theorem fb_remI.s {v w w1 w2 : fa_V} {b ja j : Nat} (h : fb_remI v w b ja j) (e1 : w1 = fa_u w (b + 3) j (w (b + 3) (j + 1))) (e2 : w2 = fa_u w1 (b + 4) j (w1 (b + 4) (j + 1))) : fb_remI v w2 b ja (j + 1) := by
  obtain ⟨h0, h1, h2, h3⟩ := h
  refine ⟨by omega, fun k hk => ?_, fun k hk hk2 => ?_, fun k hk => ?_⟩
  · rw [e2, fa_u_n _ _ (by omega), fa_u_n _ _ (by omega), e1, fa_u_n _ _ (by omega), fa_u_n _ _ (by omega)]
    exact h1 k hk
  · by_cases y : k = j
    · subst y
      rw [e2, fa_u_n _ _ (by omega), fa_u_s, e1, fa_u_s, fa_u_n _ _ (by omega)]
      exact h3 (k + 1) (by omega)
    · rw [e2, fa_u_n _ _ (by omega), fa_u_n _ _ (by omega), e1, fa_u_n _ _ (by omega), fa_u_n _ _ (by omega)]
      exact h2 k hk (by omega)
  · rw [e2, fa_u_n _ _ (by omega), fa_u_n _ _ (by omega), e1, fa_u_n _ _ (by omega), fa_u_n _ _ (by omega)]
    exact h3 k (by omega)
theorem fb_remI.e {v w : fa_V} {b ja n2 j : Nat} (h : fb_remI v w b ja j) (hj : n2 - 1 ≤ j) (hs : w (b + 2) 0 = nI (n2 - 1)) : fb_remP v w b n2 ja := ⟨hs, h.2.1, fun k h1 h2 => h.2.2.1 k h1 (by omega)⟩
theorem fb_eraseP {α : Type} {L : List α} {i : Nat} (h : i < L.length) : L.Perm (L[i] :: L.eraseIdx i) := by
  have e : L = L.take i ++ L[i] :: L.drop (i + 1) := by
    rw [← List.drop_eq_getElem_cons h, List.take_append_drop]
  rw [List.eraseIdx_eq_take_drop_succ]
  exact (List.Perm.of_eq e).trans List.perm_middle
/-- a row of which the ja-th is removed -/
theorem fb_c_remL {v w : fa_V} {b n2 ja : Nat} {L : List (Int32 × Int32)} (hL : fb_cL v b L) (hS : L.Pairwise fb_bef) (hn : n2 = L.length) (hj : ja < L.length) (h : fb_remP v w b n2 ja) : fb_cL w b (L.eraseIdx ja) ∧ (L.eraseIdx ja).Pairwise fb_bef := by
  subst hn
  have hl : (L.eraseIdx ja).length = L.length - 1 := List.length_eraseIdx_of_lt hj
  have h8 := hL.2.1
  refine ⟨fb_cL.of (by rw [hl]; exact h.1) (by omega) (fun k hk => ?_), hS.sublist (List.eraseIdx_sublist _ _)⟩
  rcases Nat.lt_or_ge k ja with z | z
  · rw [List.getElem_eraseIdx_of_lt _ z, hL.at (by omega)]
    exact h.2.1 k z
  · rw [List.getElem_eraseIdx_of_ge _ z, hL.at (by omega)]
    exact h.2.2 k z (by omega)
theorem fb_c_rem {v w : fa_V} {b n2 ja : Nat} {q : List (Int32 × Int32)} {L : List (Int32 × Int32)} {x : Int32 × Int32} (hL : fb_cL v b L) (hP : L.Perm q) (hS : L.Pairwise fb_bef) (hn : n2 = L.length) (hj : ja < L.length) (hx : L[ja] = x) (h : fb_remP v w b n2 ja) : fb_cQ w b (q.erase x) := by
  have z := fb_c_remL hL hS hn hj h
  refine ⟨_, z.1, ?_, z.2⟩
  have p : L.Perm (x :: L.eraseIdx ja) := by rw [← hx]; exact fb_eraseP hj
  have m : x ∈ q := hP.mem_iff.mp (by rw [← hx]; exact List.getElem_mem hj)
  exact List.Perm.cons_inv ((p.symm.trans hP).trans (List.perm_cons_erase m))
/-- the place of a reservation, or -1 -/
theorem fb_c_plc {v : fa_V} {b : Nat} {q : List (Int32 × Int32)} {a1 a2 x : Int32} (h : fb_cQ v b q) (hx : (x = -1 ∧ ∀ k, k < fa_N (v (b + 2) 0) → ¬ (v (b + 3) k = a1 ∧ v (b + 4) k = a2)) ∨ ∃ k, k < fa_N (v (b + 2) 0) ∧ x = nI k ∧ v (b + 3) k = a1 ∧ v (b + 4) k = a2) : (x < 0 ∧ ¬ (a1, a2) ∈ q) ∨ (¬ x < 0 ∧ (a1, a2) ∈ q ∧ ∃ k L, fb_cL v b L ∧ L.Perm q ∧ L.Pairwise fb_bef ∧ ∃ (hk : k < L.length), x = nI k ∧ L[k] = (a1, a2)) := by
  obtain ⟨L, hL, hP, hS⟩ := h
  rw [hL.n] at hx
  have h8 := hL.2.1
  rcases hx with ⟨h1, h2⟩ | ⟨k, hk, h1, h2, h3⟩
  · refine Or.inl ⟨by rw [h1]; decide, fun m => ?_⟩
    obtain ⟨k, hk, e⟩ := List.mem_iff_getElem.mp (hP.mem_iff.mpr m)
    rw [hL.at hk] at e
    have e := Prod.mk.inj e
    exact h2 k hk e
  · have e : L[k] = (a1, a2) := by rw [hL.at hk, h2, h3]
    exact Or.inr ⟨by rw [h1]; exact nI_pos (by omega), hP.mem_iff.mp (by rw [← e]; exact List.getElem_mem hk), k, L, hL, hP, hS, hk, h1, e⟩
theorem fb_cQ.len {v : fa_V} {b : Nat} {q : List (Int32 × Int32)} (h : fb_cQ v b q) : v (b + 2) 0 = nI q.length ∧ q.length ≤ 8 ∧ fa_N (v (b + 2) 0) = q.length := by
  obtain ⟨L, hL, hP, -⟩ := h
  rw [← hP.length_eq]
  exact ⟨hL.1, hL.2.1, hL.n⟩
/-- the rows of reservations alone change -/
theorem fb_cA.res {v w : fa_V} {r : fa_R} {b : Nat} {A : fb_At} {q : List (Int32 × Int32)} (h : fb_cA v r b A) (hf : fa_fr (b + 2) (b + 5) v w) (hq : fb_cQ w b q) : fb_cA w r b (A.sq q) := by
  obtain ⟨h1, h2, h3, h4, -, h6⟩ := h
  have row : ∀ j, ¬ (b + 2 ≤ j ∧ j < b + 5) → w j = v j := fun j hj => hf j hj
  refine ⟨h1, h2, h3.congr (row _ (by omega)) (row _ (by omega)), ⟨h4.1, by rw [row b (by omega)]; exact h4.2.1, fun p i hp hi => ?_⟩, hq, h6.congr (by rw [row _ (by omega)]) (row _ (by omega))⟩
  have hp24 : p < 24 := Nat.lt_of_lt_of_le hp h4.1
  obtain ⟨j, hj, e⟩ := fb_pf_at2 h1 hp24
  rw [fb_cw_congr rfl (fun i hi => by rw [row _ (by omega)]) (fun i hi => by rw [row _ (by omega)]) hi]
  exact h4.2.2 p i hp hi
theorem fb_resA_n {A : fb_At} {a d : Int32} (e : fb_ix A.F a A.n = none) : fb_resA A a d = ((-1 : Int32), A) := if_pos e
theorem fb_resA_b {A : fb_At} {a d : Int32} {p : Nat} (e : fb_ix A.F a A.n = some p) (h : d ≤ A.g 7 ∨ ¬ d ≤ nI 9999) : fb_resA A a d = ((-2 : Int32), A) := by
  rw [fb_resA, if_neg (by rw [e]; exact fun z => by cases z), if_pos h]
theorem fb_resA_p {A : fb_At} {a d : Int32} {p : Nat} (e : fb_ix A.F a A.n = some p) (h : ¬ (d ≤ A.g 7 ∨ ¬ d ≤ nI 9999)) (m : (a, d) ∈ A.q) : fb_resA A a d = ((-5 : Int32), A) := by
  rw [fb_resA, if_neg (by rw [e]; exact fun z => by cases z), if_neg h, if_pos m]
theorem fb_resA_m {A : fb_At} {a d : Int32} {p : Nat} (e : fb_ix A.F a A.n = some p) (h : ¬ (d ≤ A.g 7 ∨ ¬ d ≤ nI 9999)) (m : ¬ (a, d) ∈ A.q) (h8 : 8 ≤ A.q.length) : fb_resA A a d = ((-4 : Int32), A) := by
  rw [fb_resA, if_neg (by rw [e]; exact fun z => by cases z), if_neg h, if_neg m, if_pos h8]
theorem fb_resA_s {A : fb_At} {a d : Int32} {p : Nat} (e : fb_ix A.F a A.n = some p) (h : ¬ (d ≤ A.g 7 ∨ ¬ d ≤ nI 9999)) (m : ¬ (a, d) ∈ A.q) (h8 : ¬ 8 ≤ A.q.length) : fb_resA A a d = (nI (A.q.length + 1), A.sq ((a, d) :: A.q)) := by
  rw [fb_resA, if_neg (by rw [e]; exact fun z => by cases z), if_neg h, if_neg m, if_neg h8]
theorem fb_canA_s {A : fb_At} {a d : Int32} (m : (a, d) ∈ A.q) : fb_canA A a d = (nI (A.q.length - 1), A.sq (A.q.erase (a, d))) := if_pos m
theorem fb_canA_n {A : fb_At} {a d : Int32} (m : ¬ (a, d) ∈ A.q) : fb_canA A a d = ((-1 : Int32), A) := if_neg m
