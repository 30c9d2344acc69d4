/-! ASKING; A RESERVATION GOES, in the reference's row -/
theorem fb_m_ask {v v1 v2 v3 : fa_V} {p : Nat} {A : fb_At} (h : fb_mA (v 398) A) (hp : p < A.n) (e1 : v1 = fa_u v 398 (17 + 15 * p + 4) (v 398 7)) (e2 : v2 = fa_u v1 398 (17 + 15 * p + 5) (v1 398 (17 + 15 * p + 5) + nI 1)) (e3 : v3 = fa_u v2 398 11 (v2 398 11 + nI 1)) :
    v3 398 (17 + 15 * p + 5) = A.F p 5 + nI 1 ∧ fb_mA (v3 398) (fb_askp A p) ∧ ∀ i, i = 15 ∨ 377 ≤ i → v3 398 i = v 398 i := by
  have m1 : fb_mA (v1 398) (A.sF p 4 (A.g 7)) := by
    rw [e1, h.g (k := 7) (by decide)]; exact h.uF hp (by decide)
  have q5 : v1 398 (17 + 15 * p + 5) = A.F p 5 := by
    rw [e1, fa_u_n _ _ (by omega)]; exact h.F hp (by decide)
  have m2 : fb_mA (v2 398) ((A.sF p 4 (A.g 7)).sF p 5 (A.F p 5 + nI 1)) := by
    rw [e2, q5]; exact m1.uF (A := A.sF p 4 (A.g 7)) hp (by decide)
  have q11 : v2 398 11 = A.g 11 := m2.g (k := 11) (by decide)
  have hn := h.2.1.1
  refine ⟨?_, ?_, fun i hi => by rw [e3, fa_u_n _ _ (by omega), e2, fa_u_n _ _ (by omega), e1, fa_u_n _ _ (by omega)]⟩
  · rw [e3, fa_u_n _ _ (by omega), e2, fa_u_s, q5]
  · rw [e3, q11]; exact m2.ug (by decide)
def fb_mRM (f f1 : Nat → Int32) (u : Nat) : Prop := (∀ i, ¬ i = 15 → ¬ (377 ≤ i ∧ i < 393) → f1 i = f i) ∧ ∀ L, fb_mL f L → u < L.length → fb_mL f1 (L.eraseIdx u)
theorem fb_m_rsh {v w w1 : fa_V} {k u : Nat} (h3 : 377 + 2 * u ≤ k) (h : ∀ i, w 398 i = if 377 + 2 * u ≤ i ∧ i < k then v 398 (i + 2) else v 398 i) (e : w1 = fa_u w 398 k (w 398 (k + 2))) : ∀ i, w1 398 i = if 377 + 2 * u ≤ i ∧ i < k + 1 then v 398 (i + 2) else v 398 i := fun i => by
  by_cases z : i = k
  · rw [if_pos (by omega), z, e, fa_u_s, h (k + 2), if_neg (by omega)]
  · rw [e, fa_u_n _ _ (fun y => z y.2), h i]
    by_cases y : 377 + 2 * u ≤ i ∧ i < k
    · rw [if_pos y, if_pos (by omega)]
    · rw [if_neg y, if_neg (by omega)]
theorem fb_m_rem {v w w1 : fa_V} {k u n5 : Nat} (hn : n5 ≤ 8) (g5 : v 398 15 = nI n5) (hu : u < n5) (h1 : 377 + 2 * u ≤ k) (hk : 377 + 2 * n5 - 2 ≤ k) (hk2 : k ≤ 377 + 2 * n5 - 2) (h : ∀ i, w 398 i = if 377 + 2 * u ≤ i ∧ i < k then v 398 (i + 2) else v 398 i) (e : w1 = fa_u w 398 15 (nI (n5 - 1))) : fb_mRM (v 398) (w1 398) u := by
  refine ⟨fun i a b => by rw [e, fa_u_n _ _ (fun z => a z.2), h i, if_neg (by omega)], fun L hL hul => ?_⟩
  have en : L.length = n5 := fa_nIinj (by have := hL.2.1; omega) (by omega) (hL.1.symm.trans g5)
  have el : (L.eraseIdx u).length = n5 - 1 := by rw [List.length_eraseIdx, if_pos hul, en]
  refine ⟨by rw [e, fa_u_s, el], by rw [el]; omega, fun p y hy => ?_⟩
  have hp : p < n5 - 1 := by rw [← el]; exact (List.getElem?_eq_some_iff.mp hy).1
  rw [List.getElem?_eraseIdx] at hy
  rw [e, fa_u_n _ _ (by omega), fa_u_n _ _ (by omega), h, h]
  by_cases z : p < u
  · rw [if_pos z] at hy
    rw [if_neg (by omega), if_neg (by omega)]
    exact hL.2.2 p y hy
  · rw [if_neg z] at hy
    rw [if_pos (by omega), if_pos (by omega)]
    exact hL.2.2 (p + 1) y hy
