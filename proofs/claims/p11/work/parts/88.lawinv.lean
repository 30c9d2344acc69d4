/-! THE LAW: what holds between two calls -/
theorem fa_RM_cong {r r1 : fa_R} (h : r1 397 = r 397) (hM : fa_RM r) : fa_RM r1 := by
  unfold fa_RM
  rw [h]
  exact hM
theorem fa_MJ_cong {v v1 : fa_V} (h : ∀ k, 397 ≤ k → k < 402 → v1 k = v k) (hJ : fa_MJ v) : fa_MJ v1 := by
  unfold fa_MJ
  rw [h 397 (by omega) (by omega), h 398 (by omega) (by omega), h 399 (by omega) (by omega), h 400 (by omega) (by omega), h 401 (by omega) (by omega)]
  exact hJ
theorem fa_IS0 {v : fa_V} {b : Nat} (h : ∀ k, b ≤ k → k < b + 56 → ¬ k = b + 7 → ∀ i, v k i = 0) : fa_IS v b :=
  ⟨⟨0, by decide, h b (by omega) (by omega) (by omega) 1⟩, ⟨0, by decide, h (b + 2) (by omega) (by omega) (by omega) 0⟩, ⟨0, by decide, h (b + 5) (by omega) (by omega) (by omega) 0⟩, fun j hj => ⟨0, by decide, h (b + 8 + 2 * j) (by omega) (by omega) (by omega) 1⟩⟩
theorem fa_bs_cases : ∀ b ∈ fa_bs, b = 1 ∨ b = 57 ∨ ∃ j, j < 5 ∧ b = 115 + 56 * j := by
  intro b hb
  simp only [fa_bs, List.mem_cons, List.not_mem_nil, or_false] at hb
  rcases hb with h | h | h | h | h | h | h
  · exact Or.inl h
  · exact Or.inr (Or.inl h)
  · exact Or.inr (Or.inr ⟨0, by decide, h⟩)
  · exact Or.inr (Or.inr ⟨1, by decide, h⟩)
  · exact Or.inr (Or.inr ⟨2, by decide, h⟩)
  · exact Or.inr (Or.inr ⟨3, by decide, h⟩)
  · exact Or.inr (Or.inr ⟨4, by decide, h⟩)
theorem fa_hbH : ∀ j, j < 5 → 115 + 56 * j ∈ fa_hb := by decide
theorem fa_CI_start {v : fa_V} {r : fa_R} (hA : fa_RA r) (hH : ∀ i, i < 5 → r 114 i = some (115 + 56 * i)) (h1 : fa_RS r 1) (h57 : fa_RS r 57) (hrH : ∀ i, i < 5 → fa_RS r (115 + 56 * i)) (hz : ∀ k, 1 ≤ k → k < 397 → ¬ k = 8 → ¬ k = 64 → (∀ p, p < 5 → ¬ k = 115 + 56 * p + 7) → ∀ i, v k i = 0) : fa_CI v r := by
  refine ⟨hA, fun b hb => ?_, fun i hi => ⟨_, fa_hbH i hi, hH i hi⟩, fun i j hi hj e => ?_, ⟨0, by decide, hz 113 (by decide) (by decide) (by decide) (by decide) (fun p hp => by omega) 0⟩, ⟨0, by decide, hz 395 (by decide) (by decide) (by decide) (by decide) (fun p hp => by omega) 1⟩, fun i hi => ?_⟩
  · rcases fa_bs_cases b hb with e | e | ⟨j, hj, e⟩
    · subst e
      exact ⟨h1, fa_IS0 (fun k a b c => hz k (by omega) (by omega) (by omega) (by omega) (fun p hp => by omega))⟩
    · subst e
      exact ⟨h57, fa_IS0 (fun k a b c => hz k (by omega) (by omega) (by omega) (by omega) (fun p hp => by omega))⟩
    · subst e
      exact ⟨hrH j hj, fa_IS0 (fun k a b c => hz k (by omega) (by omega) (by omega) (by omega) (fun p hp => by omega))⟩
  · rw [hH i hi, hH j hj] at e
    have := Option.some.inj e
    omega
  · rw [hz 396 (by decide) (by decide) (by decide) (by decide) (fun p hp => by omega) i]
    exact fa_isC_0
theorem fa_ok0 (i : Nat) : fa_ok i 0 := ⟨fun _ => ⟨0, by decide, rfl⟩, fun _ => ⟨0, by decide, rfl⟩, fun _ => ⟨0, by decide, rfl⟩, fun _ _ _ => ⟨0, by decide, rfl⟩⟩
theorem fa_MJ_start {v : fa_V} (h7 : ∀ i, 7 ≤ i → v 398 i = 0) (hz : ∀ k, 397 ≤ k → ¬ k = 398 → ∀ i, v k i = 0) : fa_MJ v := by
  refine ⟨fun i hi => ?_, fun i hi => ?_, fun i hi => ?_, fun i hi => ?_, ⟨0, by decide, hz 397 (by decide) (by decide) 10⟩, ⟨0, by decide, hz 397 (by decide) (by decide) 9⟩⟩
  · rcases Nat.lt_or_ge i 7 with h | h
    · exact fa_ok.o (by omega) (by omega) (by omega) (fun p hp => by omega)
    · rw [h7 i h]; exact fa_ok0 i
  · rw [hz 399 (by decide) (by decide) i]; exact fa_ok0 i
  · rw [hz 400 (by decide) (by decide) i]; exact fa_ok0 i
  · rw [hz 401 (by decide) (by decide) i]; exact fa_ok0 _
theorem fa_len_app {v v1 v2 : fa_V} {R X1 X2 X3 Y1 Y2 Y3 : Prop} {q : Int32} (hE : v 395 1 = v 397 9) (hf : fa_fr 395 397 v v1) (hg : fa_fr 397 406 v1 v2) (h1 : (¬ R ∧ X1 ∧ v1 = v) ∨ (R ∧ ((X2 ∧ 60 ≤ fa_N (v 395 1) ∧ v1 = v) ∨ (X3 ∧ fa_N (v 395 1) < 60 ∧ v1 = fa_put v q)))) (h2 : (¬ R ∧ Y1 ∧ v2 = v1) ∨ (R ∧ ((Y2 ∧ 60 ≤ fa_N (v1 397 9) ∧ v2 = v1) ∨ (Y3 ∧ fa_N (v1 397 9) < 60 ∧ v2 = fa_put7 v1 q)))) : v2 395 1 = v2 397 9 := by
  have e7 : v1 397 9 = v 397 9 := by rw [hf 397 (by omega)]
  rw [e7] at h2
  rcases h1 with ⟨a1, -, a2⟩ | ⟨a1, ⟨-, a2, a3⟩ | ⟨-, a2, a3⟩⟩
  · rcases h2 with ⟨-, -, b2⟩ | ⟨b1, -⟩
    · rw [b2, a2]; exact hE
    · exact absurd b1 a1
  · rcases h2 with ⟨b1, -⟩ | ⟨-, ⟨-, -, b3⟩ | ⟨-, b2, -⟩⟩
    · exact absurd a1 b1
    · rw [b3, a3]; exact hE
    · rw [hE] at a2; omega
  · rcases h2 with ⟨b1, -⟩ | ⟨-, ⟨-, b2, -⟩ | ⟨-, -, b3⟩⟩
    · exact absurd a1 b1
    · rw [hE] at a2; omega
    · have g1 : v1 395 1 = nI (fa_N (v 395 1) + 1) := by rw [a3]; exact fa_u_s _ _ _ _
      have g2 : v2 397 9 = nI (fa_N (v1 397 9) + 1) := by rw [b3]; exact fa_u_s _ _ _ _
      rw [hg 395 (by omega), g1, g2, e7, hE]
theorem fa_len_clr {v v1 v2 : fa_V} (h1 : v1 = fa_u v 395 1 (nI 0)) (h2 : v2 = fa_u v1 397 9 (nI 0)) : v2 395 1 = v2 397 9 := by
  rw [h2, fa_u_n _ _ (by decide), fa_u_s, h1, fa_u_s]
theorem fa_app_eq {v v1 : fa_V} {R A1 A2 A3 : Prop} {x y : Int32} (hE : v 395 1 = v 397 9) (hf : fa_fr 395 397 v v1) (h1 : (¬ R ∧ x = (-2 : Int32) ∧ A1) ∨ (R ∧ ((x = (-4 : Int32) ∧ 60 ≤ fa_N (v 395 1) ∧ A2) ∨ (x = nI (fa_N (v 395 1) + 1) ∧ fa_N (v 395 1) < 60 ∧ A3)))) {B1 B2 B3 : Prop} (h2 : (¬ R ∧ y = (-2 : Int32) ∧ B1) ∨ (R ∧ ((y = (-4 : Int32) ∧ 60 ≤ fa_N (v1 397 9) ∧ B2) ∨ (y = nI (fa_N (v1 397 9) + 1) ∧ fa_N (v1 397 9) < 60 ∧ B3)))) : x = y := by
  have e7 : v1 397 9 = v 395 1 := by rw [hf 397 (by omega)]; exact hE.symm
  rw [e7] at h2
  rcases h1 with ⟨a1, a2, -⟩ | ⟨a1, ⟨a2, a3, -⟩ | ⟨a2, a3, -⟩⟩
  · rcases h2 with ⟨-, b2, -⟩ | ⟨b1, -⟩
    · rw [a2, b2]
    · exact absurd b1 a1
  · rcases h2 with ⟨b1, -⟩ | ⟨-, ⟨b2, -, -⟩ | ⟨-, b3, -⟩⟩
    · exact absurd a1 b1
    · rw [a2, b2]
    · omega
  · rcases h2 with ⟨b1, -⟩ | ⟨-, ⟨-, b3, -⟩ | ⟨b2, -, -⟩⟩
    · exact absurd a1 b1
    · omega
    · rw [a2, b2]
