/-! ACTIONS in the reference's row -/
theorem fb_m_in8 {A : fb_At} (hok : fb_okA A) (a : Int32) : (a < nI 0 ∨ A.g 8 - nI 1 < a) ↔ (a < 0 ∨ ¬ a < A.g 8) := by
  obtain ⟨c, hc, ec⟩ := hok.1.2.2.1
  rw [ec]
  cases c with
  | zero =>
    constructor
    · rintro (z | z)
      · exact Or.inl z
      · by_cases y : a < 0
        · exact Or.inl y
        · exact Or.inr y
    · rintro (z | z)
      · exact Or.inl z
      · refine Or.inr ?_
        have y : (0 : Int32) ≤ a := Int32.not_lt.mp z
        exact Int32.lt_of_lt_of_le (by decide) y
  | succ j =>
    rw [pk_sub (by omega), fa_ltS (by omega)]
    exact Iff.rfl
theorem fb_m_pl0 {f : Nat → Int32} {A : fb_At} {a x : Int32} (h : fb_mA f A) (hok : fb_okA A) (hx : x = fb_plm f a) (c : x = (-1 : Int32)) : fb_ix A.F a A.n = none := by
  rcases h.pl hok a with z | ⟨p, hp, z, -⟩
  · exact z.2
  · rw [← hx, c] at z
    exact absurd z.symm (fb_nI_ne1 (by have := hok.1.1; omega))
theorem fb_m_pl1 {f : Nat → Int32} {A : fb_At} {a x : Int32} (h : fb_mA f A) (hok : fb_okA A) (hx : x = fb_plm f a) (c : ¬ x = (-1 : Int32)) : ∃ p, p < A.n ∧ x = nI p ∧ fb_ix A.F a A.n = some p ∧ A.F p 0 = a := by
  rcases h.pl hok a with z | ⟨p, hp, z, z2⟩
  · exact absurd (hx.trans z.1) c
  · exact ⟨p, hp, hx.trans z, z2⟩
theorem fb_m_askn {v v1 : fa_V} {A : fb_At} (h : fb_mA (v 398) A) (e : v1 = fa_u v 398 12 (v 398 12 + nI 1)) : fb_mA (v1 398) (A.sg 12 (A.g 12 + nI 1)) := by
  rw [e, h.g (k := 12) (by decide)]; exact h.ug (by decide)
