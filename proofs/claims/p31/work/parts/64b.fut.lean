/-! WHAT WOULD BE, of the class -/
theorem fb_ix_ne {F : Nat → Nat → Int32} {a : Int32} {n p : Nat} (e : fb_ix F a n = some p) : ¬ fb_ix F a n = none := by
  rw [e]; simp
/-- the future, j - 1 days ahead -/
def fc_bnI (A : fb_At) (a : Int32) (w : fa_V) (rr : fa_R) (j : Nat) : Prop := 1 ≤ j ∧ fb_cA w rr 57 (fb_daysA A (j - 1)).2 ∧ ∀ i, i < j → ¬ fb_ix (fb_daysA A i).2.F a (fb_daysA A i).2.n = none
theorem fc_bnI.start {A : fb_At} {a : Int32} {w : fa_V} {rr : fa_R} (hc : fb_cA w rr 57 A) (h : ¬ fb_ix A.F a A.n = none) : fc_bnI A a w rr 1 := ⟨Nat.le_refl _, hc, fun i hi => by
  have : i = 0 := by omega
  subst this
  exact h⟩
theorem fc_bnI.s {A : fb_At} {a x : Int32} {w w2 : fa_V} {rr r2 : fa_R} {j d : Nat} (hok : fb_okA A) (h7 : A.g 7 = nI d) (hd : d ≤ 6500) (h : fc_bnI A a w rr j) (hj : j ≤ 3000) (hp : ∀ B, fb_okA B → B.g 7 < nI 9999 → fb_cA w rr 57 B → x = (fb_dayA B).1 ∧ fb_cA w2 r2 57 (fb_dayA B).2) :
    1 ≤ j ∧ x = (fb_dayA (fb_daysA A (j - 1)).2).1 ∧ fb_cA w2 r2 57 (fb_daysA A j).2 ∧ ∀ i, i < j → ¬ fb_ix (fb_daysA A i).2.F a (fb_daysA A i).2.n = none := by
  obtain ⟨h1, h2, h3⟩ := h
  obtain ⟨i, rfl⟩ : ∃ i, j = i + 1 := ⟨j - 1, by omega⟩
  have y := hok.days h7 i (by omega)
  have z := hp _ y.1 (by rw [y.2]; exact nI_lt (by omega) (by decide)) h2
  exact ⟨h1, z.1, z.2, h3⟩
theorem fc_bnI.no1 {A : fb_At} {a x : Int32} {w2 : fa_V} {r2 : fa_R} {j d : Nat} (hok : fb_okA A) (h7 : A.g 7 = nI d) (hd : d ≤ 6500) (hj : j ≤ 3000) (h : 1 ≤ j ∧ x = (fb_dayA (fb_daysA A (j - 1)).2).1 ∧ fb_cA w2 r2 57 (fb_daysA A j).2 ∧ ∀ i, i < j → ¬ fb_ix (fb_daysA A i).2.F a (fb_daysA A i).2.n = none) (c : x ≤ 0) : fc_bnI A a w2 r2 (j + 1) := by
  obtain ⟨h1, h2, h3, h4⟩ := h
  refine ⟨by omega, h3, fun i hi => ?_⟩
  by_cases z : i = j
  · rw [z]
    intro q
    obtain ⟨k, rfl⟩ : ∃ k, j = k + 1 := ⟨j - 1, by omega⟩
    have y := hok.days h7 k (by omega)
    obtain ⟨-, m, m1, m2, em⟩ := fc_gone y.1 y.2 (by omega) (h4 k (by omega)) q
    have e2 : x = nI m := h2.trans em
    rw [e2] at c
    exact nI_nle (by omega) (by omega) c
  · exact h4 i (by omega)
theorem fc_bnI.no2 {A : fb_At} {a x : Int32} {w2 : fa_V} {r2 : fa_R} {j : Nat} (h : 1 ≤ j ∧ x = (fb_dayA (fb_daysA A (j - 1)).2).1 ∧ fb_cA w2 r2 57 (fb_daysA A j).2 ∧ ∀ i, i < j → ¬ fb_ix (fb_daysA A i).2.F a (fb_daysA A i).2.n = none) {q : Nat} (hf : fa_isF 57 q ∧ ∃ p, p < fa_N (w2 57 1) ∧ q = fa_pf r2 57 p ∧ w2 q 0 = a ∧ ∀ k, k < p → ¬ w2 (fa_pf r2 57 k) 0 = a) : fc_bnI A a w2 r2 (j + 1) := by
  obtain ⟨h1, h2, h3, h4⟩ := h
  obtain ⟨p, -, -, ei, -⟩ := h3.find1 hf
  refine ⟨by omega, h3, fun i hi => ?_⟩
  by_cases z : i = j
  · rw [z]; exact fb_ix_ne ei
  · exact h4 i (by omega)
theorem fc_bnI.yes {A : fb_At} {a x : Int32} {w2 : fa_V} {r2 : fa_R} {j : Nat} (hj : j ≤ 3000) (h : 1 ≤ j ∧ x = (fb_dayA (fb_daysA A (j - 1)).2).1 ∧ fb_cA w2 r2 57 (fb_daysA A j).2 ∧ ∀ i, i < j → ¬ fb_ix (fb_daysA A i).2.F a (fb_daysA A i).2.n = none) (hf : ∀ k, k < fa_N (w2 57 1) → ¬ w2 (fa_pf r2 57 k) 0 = a) : fc_bnP A a (nI j) := by
  obtain ⟨h1, h2, h3, h4⟩ := h
  exact Or.inr ⟨h4 0 (by omega), Or.inl ⟨j, h1, hj, rfl, h4, h3.find0 hf⟩⟩
