/-! RESERVING, CANCELLING, SETTING, in the reference's row -/
theorem fb_m_in6 (a : Int32) : (a < nI 0 ∨ nI 6 < a) ↔ (a < 0 ∨ ¬ a < nI 7) := by
  rw [fa_ltS (by decide)]
  exact Iff.rfl
theorem fb_m_inR {A : fb_At} (hok : fb_okA A) (a : Int32) : (a < A.g 7 + nI 1 ∨ nI 9999 < a) ↔ (a ≤ A.g 7 ∨ ¬ a ≤ nI 9999) := by
  obtain ⟨d, hd, e⟩ := hok.1.2.1
  rw [e, nI_add]
  have h : a < nI (d + 1) ↔ a ≤ nI d := by
    have z := fa_ltS (a := a) (k := d) (by omega)
    constructor
    · intro h
      exact Int32.not_lt.mp (fun y => z.mp y h)
    · intro h
      exact Decidable.byContradiction (fun y => Int32.not_lt.mpr h (z.mpr y))
  rw [h, Int32.not_le]
theorem fb_m_fd1 {f : Nat → Int32} {A : fb_At} {a d x : Int32} (hc : fb_mA f A) (h : fb_fd f a d (fa_N (f 15)) x) (c : ¬ x = (-1 : Int32)) : ∃ k, k < fa_N (f 15) ∧ x = nI k ∧ f (377 + 2 * k) = a ∧ f (377 + 2 * k + 1) = d ∧ (a, d) ∈ A.q := by
  rcases h with h | ⟨k, hk, e, e1, e2⟩
  · exact absurd h.1 c
  · refine ⟨k, hk, e, e1, e2, ?_⟩
    obtain ⟨L, hL, hP⟩ := hc.2.2.1
    rw [hL.1, fa_N_nI (by have := hL.2.1; omega)] at hk
    have z := hL.at hk
    rw [e1, e2] at z
    rw [← z]
    exact hP.mem_iff.mp (List.getElem_mem hk)
theorem fb_m_fd0 {f : Nat → Int32} {A : fb_At} {a d x : Int32} (hc : fb_mA f A) (h : fb_fd f a d (fa_N (f 15)) x) (c : x = (-1 : Int32)) : ¬ (a, d) ∈ A.q := fun m => by
  obtain ⟨L, hL, hP⟩ := hc.2.2.1
  rcases h with h | ⟨k, hk, e, -⟩
  · obtain ⟨i, hi, ei⟩ := List.getElem_of_mem (hP.mem_iff.mpr m)
    have z := hL.at hi
    rw [ei] at z
    refine h.2 i ?_ ⟨(congrArg Prod.fst z).symm, (congrArg Prod.snd z).symm⟩
    rw [hL.1, fa_N_nI (by have := hL.2.1; omega)]
    exact hi
  · rw [hL.1, fa_N_nI (by have := hL.2.1; omega)] at hk
    have := hL.2.1
    rw [c] at e
    exact fb_nI_ne1 (by omega) e.symm
/-- only reservations change -/
theorem fb_mA.rsv {f f1 : Nat → Int32} {A : fb_At} {q L : List (Int32 × Int32)} (h : fb_mA f A) (ro : ∀ i, ¬ i = 15 → ¬ (377 ≤ i ∧ i < 393) → f1 i = f i) (hL : fb_mL f1 L) (hP : L.Perm q) : fb_mA f1 (A.sq q) := by
  obtain ⟨h1, ⟨h2, h3, h4⟩, -, h7, h8, h9⟩ := h
  have h2' : A.n ≤ 24 := h2
  have h7' : A.m ≤ 12 := h7
  refine ⟨fun k hk => by rw [ro k (by omega) (by omega)]; exact h1 k hk, ⟨h2, by rw [ro 14 (by decide) (by decide)]; exact h3, fun p i hp hi => ?_⟩, ⟨L, hL, hP⟩, h7, by rw [ro 16 (by decide) (by decide)]; exact h8, fun p i hp hi => ?_⟩
  · have hp' : p < A.n := hp
    rw [ro _ (by omega) (by omega)]; exact h4 p i hp hi
  · have hp' : p < A.m := hp
    rw [ro _ (by omega) (by omega)]; exact h9 p i hp hi
theorem fb_m_res {v v1 v2 v3 : fa_V} {A : fb_At} {a d : Int32} {n5 : Nat} (h : fb_mA (v 398) A) (g5 : v 398 15 = nI n5) (hn : n5 < 8) (e1 : v1 = fa_u v 398 (377 + (2 * n5)) a) (e2 : v2 = fa_u v1 398 (377 + (2 * n5) + 1) d) (e3 : v3 = fa_u v2 398 15 (nI (n5 + 1))) :
    nI (n5 + 1) = nI (A.q.length + 1) ∧ fb_mA (v3 398) (A.sq ((a, d) :: A.q)) := by
  obtain ⟨L, hL, hP⟩ := h.2.2.1
  have en : L.length = n5 := fa_nIinj (by have := hL.2.1; omega) (by omega) (hL.1.symm.trans g5)
  have lo : ∀ i, ¬ i = 15 → ¬ (i = 377 + 2 * n5 ∨ i = 377 + 2 * n5 + 1) → v3 398 i = v 398 i := fun i a b => by
    rw [e3, fa_u_n _ _ (by omega), e2, fa_u_n _ _ (by omega), e1, fa_u_n _ _ (by omega)]
  refine ⟨by rw [← hP.length_eq, en], h.rsv (L := L ++ [(a, d)]) (fun i b c => lo i b (by omega)) ⟨by rw [e3, fa_u_s, List.length_append, en]; rfl, by rw [List.length_append, en]; show n5 + 1 ≤ 8; omega, fun p y hy => ?_⟩ ((List.perm_append_singleton _ _).trans (hP.cons _))⟩
  have hp : p < (L ++ [(a, d)]).length := (List.getElem?_eq_some_iff.mp hy).1
  rw [List.length_append, en] at hp
  have hp' : p < n5 + 1 := hp
  by_cases z : p = n5
  · subst z
    rw [List.getElem?_append_right (by omega), en, Nat.sub_self] at hy
    have hy' : some (a, d) = some y := hy
    rw [← Option.some.inj hy']
    refine ⟨?_, ?_⟩
    · rw [e3, fa_u_n _ _ (by omega), e2, fa_u_n _ _ (by omega), e1, fa_u_s]
    · rw [e3, fa_u_n _ _ (by omega), e2, fa_u_s]
  · rw [List.getElem?_append_left (by omega)] at hy
    rw [lo _ (by omega) (by omega), lo _ (by omega) (by omega)]
    exact hL.2.2 p y hy
theorem fb_m_can {f f2 : Nat → Int32} {A : fb_At} {a d : Int32} {u n5 : Nat} (h : fb_mA f A) (g5 : f 15 = nI n5) (hn : n5 ≤ 8) (hu : u < n5) (ha : f (377 + 2 * u) = a) (hd : f (377 + 2 * u + 1) = d) (hr : fb_mRM f f2 u) : nI (n5 - 1) = nI (A.q.length - 1) ∧ fb_mA f2 (A.sq (A.q.erase (a, d))) := by
  obtain ⟨L, hL, hP⟩ := h.2.2.1
  have en : L.length = n5 := fa_nIinj (by have := hL.2.1; omega) (by omega) (hL.1.symm.trans g5)
  have hul : u < L.length := by omega
  have eu : L[u] = (a, d) := by rw [hL.at hul, ha, hd]
  refine ⟨by rw [← hP.length_eq, en], h.rsv hr.1 (hr.2 L hL hul) ?_⟩
  have p1 : L.Perm ((a, d) :: L.eraseIdx u) := by rw [← eu]; exact fb_eraseP hul
  have mem : (a, d) ∈ A.q := hP.mem_iff.mp (by rw [← eu]; exact List.getElem_mem hul)
  have p2 : A.q.Perm ((a, d) :: A.q.erase (a, d)) := List.perm_cons_erase mem
  exact ((p1.symm.trans hP).trans p2).cons_inv
theorem fb_st5 {j : Nat} (h : j < 5) : fa_stV 1 j = nI 30 ∧ fa_stV 2 j = nI 2000 := by
  have : j = 0 ∨ j = 1 ∨ j = 2 ∨ j = 3 ∨ j = 4 := by omega
  rcases this with z | z | z | z | z <;> (rw [z]; decide)
theorem fb_st6 {j : Nat} (h : j = 5) : fa_stV 1 j = nI 1 ∧ fa_stV 2 j = nI 20 := by
  rw [h]; decide
theorem fb_st7 {j : Nat} (h : 5 ≤ j) (h2 : j ≤ 6) (h3 : ¬ j = 5) : fa_stV 1 j = nI 50 ∧ fa_stV 2 j = nI 600 := by
  have : j = 6 := by omega
  rw [this]; decide
