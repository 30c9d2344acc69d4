/-- what find finds -/
def fb_fd (f : Nat → Int32) (a d : Int32) (n : Nat) (x : Int32) : Prop := (x = (-1 : Int32) ∧ ∀ k, k < n → ¬ (f (377 + 2 * k) = a ∧ f (377 + 2 * k + 1) = d)) ∨ ∃ k, k < n ∧ x = nI k ∧ f (377 + 2 * k) = a ∧ f (377 + 2 * k + 1) = d
theorem fb_fd_0 {f : Nat → Int32} {a d : Int32} : fb_fd f a d 0 (-1 : Int32) := Or.inl ⟨rfl, fun k hk => absurd hk (Nat.not_lt_zero _)⟩
theorem fb_fd_t {f : Nat → Int32} {a d : Int32} {j : Nat} (h1 : f (377 + 2 * j) = a) (h2 : f (377 + 2 * j + 1) = d) : fb_fd f a d (j + 1) (nI j) := Or.inr ⟨j, by omega, rfl, h1, h2⟩
theorem fb_fd.f {f : Nat → Int32} {a d x : Int32} {j : Nat} (h : fb_fd f a d j x) (c : ¬ (f (377 + 2 * j) = a ∧ f (377 + 2 * j + 1) = d)) : fb_fd f a d (j + 1) x := by
  rcases h with ⟨h1, h2⟩ | ⟨k, h1, h2⟩
  · refine Or.inl ⟨h1, fun k hk => ?_⟩
    by_cases z : k = j
    · rw [z]; exact c
    · exact h2 k (by omega)
  · exact Or.inr ⟨k, by omega, h2⟩
