theorem fa_RS_cong {r r1 : fa_R} {b : Nat} (h : ∀ q, b ≤ q → q < b + 56 → r1 q = r q) (hR : fa_RS r b) : fa_RS r1 b := by
  obtain ⟨h1, h2, h3, h4, h5, h6, h7, h8, h9⟩ := hR
  refine ⟨?_, ?_, ?_, ?_, ?_, ?_, ?_, fun p hp => ?_, fun j hj => ?_⟩
  · rw [h b (by omega) (by omega)]; exact h1
  · rw [h b (by omega) (by omega)]; exact h2
  · rw [h b (by omega) (by omega)]; exact h3
  · rw [h b (by omega) (by omega)]; exact h4
  · rw [h (b + 2) (by omega) (by omega)]; exact h5
  · rw [h (b + 2) (by omega) (by omega)]; exact h6
  · rw [h (b + 5) (by omega) (by omega)]; exact h7
  · rw [h (b + 1) (by omega) (by omega)]; exact h8 p hp
  · rw [h (b + 8 + 2 * j) (by omega) (by omega)]; exact h9 j hj
theorem fa_bsH : ∀ j, j < 5 → 115 + 56 * j ∈ fa_bs := by decide
theorem fa_nltN {a b : Nat} (ha : a < 2 ^ 31) (hb : b < 2 ^ 31) (c : ¬ nI b < nI a) : a ≤ b := by
  rcases Nat.lt_or_ge b a with h | h
  · exact absurd ((nI_ltI hb ha).mpr h) c
  · exact h
