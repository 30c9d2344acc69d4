/-! THE LAW: what holds between two calls -/
theorem fa_RM_cong {r r1 : fa_R} (h : r1 397 = r 397) (hM : fa_RM r) : fa_RM r1 := by
  unfold fa_RM
  rw [h]
  exact hM
theorem fa_MJ_cong {v v1 : fa_V} (h : ∀ k, 397 ≤ k → k < 402 → v1 k = v k) (hJ : fa_MJ v) : fa_MJ v1 := by
  unfold fa_MJ
  rw [h 397 (by omega) (by omega), h 398 (by omega) (by omega), h 399 (by omega) (by omega), h 400 (by omega) (by omega), h 401 (by omega) (by omega)]
  exact hJ
theorem fa_IS0 {v : fa_V} {b : Nat} (h : ∀ k, b ≤ k → k < b + 56 → ¬ k = b + 7 → ∀ i, v k i = 0) : fa_IS v b :=
  ⟨⟨0, by decide, h b (by omega) (by omega) (by omega) 1⟩, ⟨0, by decide, h (b + 2) (by omega) (by omega) (by omega) 0⟩, ⟨0, by decide, h (b + 5) (by omega) (by omega) (by omega) 0⟩, fun j hj => ⟨0, by decide, h (b + 8 + 2 * j) (by omega) (by omega) (by omega) 1⟩⟩
theorem fa_bs_cases : ∀ b ∈ fa_bs, b = 1 ∨ b = 57 ∨ ∃ j, j < 5 ∧ b = 115 + 56 * j := by
  intro b hb
  simp only [fa_bs, List.mem_cons, List.not_mem_nil, or_false] at hb
  rcases hb with h | h | h | h | h | h | h
  · exact Or.inl h
  · exact Or.inr (Or.inl h)
  · exact Or.inr (Or.inr ⟨0, by decide, h⟩)
  · exact Or.inr (Or.inr ⟨1, by decide, h⟩)
  · exact Or.inr (Or.inr ⟨2, by decide, h⟩)
  · exact Or.inr (Or.inr ⟨3, by decide, h⟩)
  · exact Or.inr (Or.inr ⟨4, by decide, h⟩)
theorem fa_hbH : ∀ j, j < 5 → 115 + 56 * j ∈ fa_hb := by decide
theorem fa_CI_start {v : fa_V} {r : fa_R} (hA : fa_RA r) (hH : ∀ i, i < 5 → r 114 i = some (115 + 56 * i)) (h1 : fa_RS r 1) (h57 : fa_RS r 57) (hrH : ∀ i, i < 5 → fa_RS r (115 + 56 * i)) (hz : ∀ k, 1 ≤ k → k < 397 → ¬ k = 8 → ¬ k = 64 → (∀ p, p < 5 → ¬ k = 115 + 56 * p + 7) → ∀ i, v k i = 0) : fa_CI v r := by
  refine ⟨hA, fun b hb => ?_, fun i hi => ⟨_, fa_hbH i hi, hH i hi⟩, fun i j hi hj e => ?_, ⟨0, by decide, hz 113 (by decide) (by decide) (by decide) (by decide) (fun p hp => by omega) 0⟩, ⟨0, by decide, hz 395 (by decide) (by decide) (by decide) (by decide) (fun p hp => by omega) 1⟩, fun i hi => ?_⟩
  · rcases fa_bs_cases b hb with e | e | ⟨j, hj, e⟩
    · subst e
      exact ⟨h1, fa_IS0 (fun k a b c => hz k (by omega) (by omega) (by omega) (by omega) (fun p hp => by omega))⟩
    · subst e
      exact ⟨h57, fa_IS0 (fun k a b c => hz k (by omega) (by omega) (by omega) (by omega) (fun p hp => by omega))⟩
    · subst e
      exact ⟨hrH j hj, fa_IS0 (fun k a b c => hz k (by omega) (by omega) (by omega) (by omega) (fun p hp => by omega))⟩
  · rw [hH i hi, hH j hj] at e
    have := Option.some.inj e
    omega
  · rw [hz 396 (by decide) (by decide) (by decide) (by decide) (fun p hp => by omega) i]
    exact fa_isC_0
theorem fa_ok0 (i : Nat) : fa_ok i 0 := ⟨fun _ => ⟨0, by decide, rfl⟩, fun _ => ⟨0, by decide, rfl⟩, fun _ => ⟨0, by decide, rfl⟩, fun _ _ _ => ⟨0, by decide, rfl⟩⟩
theorem fa_MJ_start {v : fa_V} (h7 : ∀ i, 7 ≤ i → v 398 i = 0) (hz : ∀ k, 397 ≤ k → ¬ k = 398 → ∀ i, v k i = 0) : fa_MJ v := by
  refine ⟨fun i hi => ?_, fun i hi => ?_, fun i hi => ?_, fun i hi => ?_, ⟨0, by decide, hz 397 (by decide) (by decide) 10⟩, ⟨0, by decide, hz 397 (by decide) (by decide) 9⟩⟩
  · rcases Nat.lt_or_ge i 7 with h | h
    · exact fa_ok.o (by omega) (by omega) (by omega) (fun p hp => by omega)
    · rw [h7 i h]; exact fa_ok0 i
  · rw [hz 399 (by decide) (by decide) i]; exact fa_ok0 i
  · rw [hz 400 (by decide) (by decide) i]; exact fa_ok0 i
  · rw [hz 401 (by decide) (by decide) i]; exact fa_ok0 _
theorem fa_len_app {v v1 v2 : fa_V} {R X1 X2 X3 Y1 Y2 Y3 : Prop} {q : Int32} (hE : v 395 1 = v 397 9) (hf : fa_fr 395 397 v v1) (hg : fa_fr 397 406 v1 v2) (h1 : (¬ R ∧ X1 ∧ v1 = v) ∨ (R ∧ ((X2 ∧ 60 ≤ fa_N (v 395 1) ∧ v1 = v) ∨ (X3 ∧ fa_N (v 395 1) < 60 ∧ v1 = fa_put v q)))) (h2 : (¬ R ∧ Y1 ∧ v2 = v1) ∨ (R ∧ ((Y2 ∧ 60 ≤ fa_N (v1 397 9) ∧ v2 = v1) ∨ (Y3 ∧ fa_N (v1 397 9) < 60 ∧ v2 = fa_put7 v1 q)))) : v2 395 1 = v2 397 9 := by
  have e7 : v1 397 9 = v 397 9 := by rw [hf 397 (by omega)]
  rw [e7] at h2
  rcases h1 with ⟨a1, -, a2⟩ | ⟨a1, ⟨-, a2, a3⟩ | ⟨-, a2, a3⟩⟩
  · rcases h2 with ⟨-, -, b2⟩ | ⟨b1, -⟩
    · rw [b2, a2]; exact hE
    · exact absurd b1 a1
  · rcases h2 with ⟨b1, -⟩ | ⟨-, ⟨-, -, b3⟩ | ⟨-, b2, -⟩⟩
    · exact absurd a1 b1
    · rw [b3, a3]; exact hE
    · rw [hE] at a2; omega
  · rcases h2 with ⟨b1, -⟩ | ⟨-, ⟨-, b2, -⟩ | ⟨-, -, b3⟩⟩
    · exact absurd a1 b1
    · rw [hE] at a2; omega
    · have g1 : v1 395 1 = nI (fa_N (v 395 1) + 1) := by rw [a3]; exact fa_u_s _ _ _ _
      have g2 : v2 397 9 = nI (fa_N (v1 397 9) + 1) := by rw [b3]; exact fa_u_s _ _ _ _
      rw [hg 395 (by omega), g1, g2, e7, hE]
theorem fa_len_clr {v v1 v2 : fa_V} (h1 : v1 = fa_u v 395 1 (nI 0)) (h2 : v2 = fa_u v1 397 9 (nI 0)) : v2 395 1 = v2 397 9 := by
  rw [h2, fa_u_n _ _ (by decide), fa_u_s, h1, fa_u_s]
theorem fa_app_eq {v v1 : fa_V} {R A1 A2 A3 : Prop} {x y : Int32} (hE : v 395 1 = v 397 9) (hf : fa_fr 395 397 v v1) (h1 : (¬ R ∧ x = (-2 : Int32) ∧ A1) ∨ (R ∧ ((x = (-4 : Int32) ∧ 60 ≤ fa_N (v 395 1) ∧ A2) ∨ (x = nI (fa_N (v 395 1) + 1) ∧ fa_N (v 395 1) < 60 ∧ A3)))) {B1 B2 B3 : Prop} (h2 : (¬ R ∧ y = (-2 : Int32) ∧ B1) ∨ (R ∧ ((y = (-4 : Int32) ∧ 60 ≤ fa_N (v1 397 9) ∧ B2) ∨ (y = nI (fa_N (v1 397 9) + 1) ∧ fa_N (v1 397 9) < 60 ∧ B3)))) : x = y := by
  have e7 : v1 397 9 = v 395 1 := by rw [hf 397 (by omega)]; exact hE.symm
  rw [e7] at h2
  rcases h1 with ⟨a1, a2, -⟩ | ⟨a1, ⟨a2, a3, -⟩ | ⟨a2, a3, -⟩⟩
  · rcases h2 with ⟨-, b2, -⟩ | ⟨b1, -⟩
    · rw [a2, b2]
    · exact absurd b1 a1
  · rcases h2 with ⟨b1, -⟩ | ⟨-, ⟨b2, -, -⟩ | ⟨-, b3, -⟩⟩
    · exact absurd a1 b1
    · rw [a2, b2]
    · omega
  · rcases h2 with ⟨b1, -⟩ | ⟨-, ⟨-, b3, -⟩ | ⟨b2, -, -⟩⟩
    · exact absurd a1 b1
    · omega
    · rw [a2, b2]
/-- the two texts are alike -/
def fa_TE (v : fa_V) : Prop := v 395 1 = v 397 9 ∧ ∀ i, i < fa_N (v 395 1) → v 396 i = v 405 i
theorem fa_TE.cls {v v1 : fa_V} (h : fa_TE v) (h1 : v1 395 1 = v 395 1) (h2 : v1 396 = v 396) (h3 : v1 397 9 = v 397 9) (h4 : v1 405 = v 405) : fa_TE v1 := by
  refine ⟨by rw [h1, h3]; exact h.1, fun i hi => ?_⟩
  rw [h1] at hi
  rw [h2, h4]
  exact h.2 i hi
theorem fa_TE.sg {v : fa_V} (h : fa_TE v) : fa_sg (v 396) (fa_N (v 395 1)) = fa_sg (v 405) (fa_N (v 397 9)) := by
  rw [← h.1]
  exact fa_sg_congr h.2
theorem fa_TE.clr {v v1 v2 : fa_V} (h1 : v1 = fa_u v 395 1 (nI 0)) (h2 : v2 = fa_u v1 397 9 (nI 0)) : fa_TE v2 := by
  refine ⟨fa_len_clr h1 h2, fun i hi => ?_⟩
  rw [h2, fa_u_n _ _ (by decide), h1, fa_u_s, fa_N_nI (by decide)] at hi
  exact absurd hi (Nat.not_lt_zero _)
theorem fa_TE.app {v v1 v2 : fa_V} {R X1 X2 X3 Y1 Y2 Y3 : Prop} {q : Int32} (hE : fa_TE v) (hf : fa_fr 395 397 v v1) (hg : fa_fr 397 406 v1 v2) (h1 : (¬ R ∧ X1 ∧ v1 = v) ∨ (R ∧ ((X2 ∧ 60 ≤ fa_N (v 395 1) ∧ v1 = v) ∨ (X3 ∧ fa_N (v 395 1) < 60 ∧ v1 = fa_put v q)))) (h2 : (¬ R ∧ Y1 ∧ v2 = v1) ∨ (R ∧ ((Y2 ∧ 60 ≤ fa_N (v1 397 9) ∧ v2 = v1) ∨ (Y3 ∧ fa_N (v1 397 9) < 60 ∧ v2 = fa_put7 v1 q)))) : fa_TE v2 := by
  refine ⟨fa_len_app hE.1 hf hg h1 h2, fun i hi => ?_⟩
  have e7 : v1 397 9 = v 397 9 := by rw [hf 397 (by omega)]
  rw [e7, ← hE.1] at h2
  rw [hg 395 (by omega)] at hi
  rw [hg 396 (by omega)]
  have same : v1 = v → v2 = v1 → v1 396 i = v2 405 i := fun a b => by
    rw [b, a]
    rw [a] at hi
    exact hE.2 i hi
  rcases h1 with ⟨a1, -, a2⟩ | ⟨a1, ⟨-, a2, a3⟩ | ⟨-, a2, a3⟩⟩
  · rcases h2 with ⟨-, -, b2⟩ | ⟨b1, -⟩
    · exact same a2 b2
    · exact absurd b1 a1
  · rcases h2 with ⟨b1, -⟩ | ⟨-, ⟨-, -, b3⟩ | ⟨-, b2, -⟩⟩
    · exact absurd a1 b1
    · exact same a3 b3
    · omega
  · rcases h2 with ⟨b1, -⟩ | ⟨-, ⟨-, b2, -⟩ | ⟨-, -, b3⟩⟩
    · exact absurd a1 b1
    · omega
    · have l1 : v1 395 1 = nI (fa_N (v 395 1) + 1) := by rw [a3]; exact fa_u_s _ _ _ _
      rw [l1, fa_N_nI (by omega)] at hi
      have r1 : v1 396 = fun j => if j = fa_N (v 395 1) then vp_nar .char q else v 396 j := by
        rw [a3, fa_put, fa_u_k _ _ (by decide), fa_u_row]
      have r2 : v2 405 = fun j => if j = fa_N (v 395 1) then vp_nar .char q else v1 405 j := by
        rw [b3, fa_put7, fa_u_k _ _ (by decide), fa_u_row, e7, ← hE.1]
      rw [r1, r2]
      show (if i = fa_N (v 395 1) then vp_nar .char q else v 396 i) = (if i = fa_N (v 395 1) then vp_nar .char q else v1 405 i)
      by_cases z : i = fa_N (v 395 1)
      · rw [if_pos z, if_pos z]
      · rw [if_neg z, if_neg z, hf 405 (by omega)]
        exact hE.2 i (by omega)
theorem fa_TE_start {v : fa_V} (h : v 395 1 = v 397 9) (h0 : v 395 1 = 0) : fa_TE v := ⟨h, fun i hi => by
  rw [h0] at hi
  exact absurd hi (Nat.not_lt_zero _)⟩
/-- both faults are the same -/
theorem fa_flt_eq {v v1 : fa_V} {x y : Int32} (h : fa_TE v1) (h1 : v1 395 1 = v 395 1) (h2 : v1 396 = v 396) (hx : ∃ j, j ≤ 20 ∧ fa_FR (fa_sg (v 396) (fa_N (v 395 1))) (fa_N (v 395 1)) j x) (hy : ∃ j, j ≤ 20 ∧ fa_FR (fa_sg (v1 405) (fa_N (v1 397 9))) (fa_N (v1 397 9)) j y) : x = y := by
  obtain ⟨j, -, a⟩ := hx
  obtain ⟨k, -, b⟩ := hy
  rw [← h.sg, ← h.1] at b
  rw [← h1, ← h2] at a
  exact (a.uniq b).2
