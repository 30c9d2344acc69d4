/-! THE WHOLE ARCHIVE, safe -/
/-- the States of the history -/
def fa_hb : List Nat := [115, 171, 227, 283, 339]
theorem fa_hb_bs : ∀ b ∈ fa_hb, b ∈ fa_bs := by decide
theorem fa_hb_lo : ∀ b ∈ fa_hb, 115 ≤ b ∧ b + 56 ≤ 395 := by decide
theorem fa_bs_in : ∀ b ∈ fa_bs, 1 ≤ b ∧ b + 56 ≤ 395 ∧ (b + 56 ≤ 113 ∨ 115 ≤ b) := by decide
theorem fa_bs_d : ∀ b ∈ fa_bs, ∀ b2 ∈ fa_bs, b = b2 ∨ b + 56 ≤ b2 ∨ b2 + 56 ≤ b := by decide
def fa_CI (v : fa_V) (r : fa_R) : Prop := fa_RA r ∧ (∀ b ∈ fa_bs, fa_RS r b ∧ fa_IS v b) ∧ (∀ i, i < 5 → ∃ b, b ∈ fa_hb ∧ r 114 i = some b) ∧ (∀ i j, i < 5 → j < 5 → r 114 i = r 114 j → i = j) ∧ (∃ n, n ≤ 4 ∧ v 113 0 = nI n) ∧ fa_IT v
theorem fa_CI.A {v : fa_V} {r : fa_R} (h : fa_CI v r) : fa_RA r := h.1
theorem fa_CI.S {v : fa_V} {r : fa_R} (h : fa_CI v r) : ∀ b ∈ fa_bs, fa_RS r b ∧ fa_IS v b := h.2.1
theorem fa_CI.H {v : fa_V} {r : fa_R} (h : fa_CI v r) : ∀ i, i < 5 → ∃ b, b ∈ fa_hb ∧ r 114 i = some b := h.2.2.1
theorem fa_CI.J {v : fa_V} {r : fa_R} (h : fa_CI v r) : ∀ i j, i < 5 → j < 5 → r 114 i = r 114 j → i = j := h.2.2.2.1
theorem fa_CI.N {v : fa_V} {r : fa_R} (h : fa_CI v r) : ∃ n, n ≤ 4 ∧ v 113 0 = nI n := h.2.2.2.2.1
theorem fa_CI.T {v : fa_V} {r : fa_R} (h : fa_CI v r) : fa_IT v := h.2.2.2.2.2
theorem fa_RA_cong2 {r r1 : fa_R} (h0 : r1 0 = r 0) (h1 : r1 113 = r 113) (h2 : r1 395 = r 395) (h : fa_RA r) : fa_RA r1 := by
  unfold fa_RA
  rw [h0, h1, h2]
  exact h
theorem fa_RS_cong2 {b : Nat} {r r1 : fa_R} (h : ∀ q, b ≤ q → q < b + 56 → r1 q = r q) (hr : fa_RS r b) : fa_RS r1 b := by
  obtain ⟨h1, h2, h3, h4, h5, h6, h7, h8, h9⟩ := hr
  refine ⟨?_, ?_, ?_, ?_, ?_, ?_, ?_, fun k hk => ?_, fun j hj => ?_⟩
  · rw [h b (by omega) (by omega)]; exact h1
  · rw [h b (by omega) (by omega)]; exact h2
  · rw [h b (by omega) (by omega)]; exact h3
  · rw [h b (by omega) (by omega)]; exact h4
  · rw [h (b + 2) (by omega) (by omega)]; exact h5
  · rw [h (b + 2) (by omega) (by omega)]; exact h6
  · rw [h (b + 5) (by omega) (by omega)]; exact h7
  · rw [h (b + 1) (by omega) (by omega)]; exact h8 k hk
  · rw [h (b + 8 + 2 * j) (by omega) (by omega)]; exact h9 j hj
theorem fa_CI.st {v v1 : fa_V} {r r1 : fa_R} {b : Nat} (h : fa_CI v r) (hb : b ∈ fa_bs) (hS : fa_IS v1 b) (hR : fa_RS r1 b) (hf : fa_fr b (b + 56) v v1) (hr : ∀ k, ¬ k = b + 1 → r1 k = r k) : fa_CI v1 r1 := by
  have hi := fa_bs_in b hb
  refine ⟨fa_RA_cong2 (hr 0 (by omega)) (hr 113 (by omega)) (hr 395 (by omega)) h.A, fun b2 hb2 => ?_, ?_, ?_, ?_, ?_⟩
  · rcases fa_bs_d b hb b2 hb2 with e | e
    · rw [← e]; exact ⟨hR, hS⟩
    · exact ⟨fa_RS_cong2 (fun q h1 h2 => hr q (by omega)) (h.S b2 hb2).1, fa_IS.congr (fun q h1 h2 => hf q (by omega)) (h.S b2 hb2).2⟩
  · rw [hr 114 (by omega)]; exact h.H
  · rw [hr 114 (by omega)]; exact h.J
  · rw [hf 113 (by omega)]; exact h.N
  · exact h.T.rows (by rw [hf 395 (by omega)]) (by rw [hf 396 (by omega)])
theorem fa_CI.tx {v v1 : fa_V} {r : fa_R} (h : fa_CI v r) (hT : fa_IT v1) (hf : fa_fr 395 397 v v1) : fa_CI v1 r := by
  refine ⟨h.A, fun b hb => ⟨(h.S b hb).1, fa_IS.congr (fun q h1 h2 => hf q (by have := fa_bs_in b hb; omega)) (h.S b hb).2⟩, h.H, h.J, ?_, hT⟩
  rw [hf 113 (by omega)]; exact h.N
/-- rows of no State, no text, and not the history -/
theorem fa_CI.congr {v v1 : fa_V} {r r1 : fa_R} (h : fa_CI v r) (hv : ∀ k, 1 ≤ k → k < 397 → v1 k = v k) (hr : ∀ k, k < 397 → r1 k = r k) : fa_CI v1 r1 := by
  refine ⟨fa_RA_cong2 (hr 0 (by omega)) (hr 113 (by omega)) (hr 395 (by omega)) h.A, fun b hb => ?_, ?_, ?_, ?_, ?_⟩
  · have hi := fa_bs_in b hb
    exact ⟨fa_RS_cong2 (fun q h1 h2 => hr q (by omega)) (h.S b hb).1, fa_IS.congr (fun q h1 h2 => hv q (by omega) (by omega)) (h.S b hb).2⟩
  · rw [hr 114 (by omega)]; exact h.H
  · rw [hr 114 (by omega)]; exact h.J
  · rw [hv 113 (by omega) (by omega)]; exact h.N
  · exact h.T.rows (by rw [hv 395 (by omega) (by omega)]) (by rw [hv 396 (by omega) (by omega)])
theorem fa_CI.u0 {v : fa_V} {r : fa_R} {i : Nat} {x : Int32} (h : fa_CI v r) : fa_CI (fa_u v 0 i x) r :=
  h.congr (fun k h1 _ => fa_u_k _ _ (by omega)) (fun _ _ => rfl)
theorem fa_CI.u113 {v : fa_V} {r : fa_R} {m : Nat} (h : fa_CI v r) (hm : m ≤ 4) : fa_CI (fa_u v 113 0 (nI m)) r := by
  refine ⟨h.A, fun b hb => ⟨(h.S b hb).1, fa_IS.congr (fun q h1 h2 => fa_u_k _ _ (by have := fa_bs_in b hb; omega)) (h.S b hb).2⟩, h.H, h.J, ⟨m, hm, fa_u_s _ _ _ _⟩, ?_⟩
  exact h.T.rows (by rw [fa_u_k _ _ (by decide)]) (by rw [fa_u_k _ _ (by decide)])
theorem fa_CI.u395 {v : fa_V} {r : fa_R} {i : Nat} {x : Int32} (h : fa_CI v r) (hi : ¬ i = 1) : fa_CI (fa_u v 395 i x) r :=
  h.tx (h.T.u hi) (fun k hk => fa_u_k _ _ (by omega))
theorem fa_CI.len {v : fa_V} {r : fa_R} {m : Nat} (h : fa_CI v r) (hm : m ≤ 60) : fa_CI (fa_u v 395 1 (nI m)) r :=
  h.tx (h.T.len hm) (fun k hk => fa_u_k _ _ (by omega))
/-- the history's row goes round -/
theorem fa_CI.rot {v : fa_V} {r r1 : fa_R} (h : fa_CI v r) (h1 : ∀ i, i < 4 → r1 114 i = r 114 (i + 1)) (h2 : r1 114 4 = r 114 0) (hr : ∀ k, ¬ k = 114 → r1 k = r k) : fa_CI v r1 := by
  have key : ∀ i, i < 5 → ∃ q, q < 5 ∧ r1 114 i = r 114 q ∧ (q = if i = 4 then 0 else i + 1) := fun i hi => by
    by_cases z : i = 4
    · exact ⟨0, by decide, by rw [z]; exact h2, by rw [if_pos z]⟩
    · exact ⟨i + 1, by omega, h1 i (by omega), by rw [if_neg z]⟩
  refine ⟨fa_RA_cong2 (hr 0 (by omega)) (hr 113 (by omega)) (hr 395 (by omega)) h.A, fun b hb => ?_, fun i hi => ?_, fun i j hi hj e => ?_, h.N, h.T⟩
  · have hi := fa_bs_in b hb
    exact ⟨fa_RS_cong2 (fun q h1 h2 => hr q (by omega)) (h.S b hb).1, (h.S b hb).2⟩
  · obtain ⟨q, hq, e, -⟩ := key i hi
    rw [e]
    exact h.H q hq
  · obtain ⟨q, hq, e1, f1⟩ := key i hi
    obtain ⟨q2, hq2, e2, f2⟩ := key j hj
    rw [e1, e2] at e
    have := h.J q q2 hq hq2 e
    split at f1 <;> split at f2 <;> omega
theorem fa_err1 {x a : Int32} (h : x = if 0 ≤ a ∨ a = (-6 : Int32) then nI 0 else nI 1) (c : ¬ x = 0) : ¬ (0 ≤ a ∨ a = (-6 : Int32)) := fun z => by
  rw [if_pos z] at h
  exact c h
theorem fa_err0 {x a : Int32} (h : x = if 0 ≤ a ∨ a = (-6 : Int32) then nI 0 else nI 1) (c : x = 0) : 0 ≤ a ∨ a = (-6 : Int32) := by
  by_cases z : 0 ≤ a ∨ a = (-6 : Int32)
  · exact z
  · rw [if_neg z] at h
    rw [h] at c
    exact absurd c (by decide)
theorem fa_ap_0 {x : Int32} {v v1 : fa_V} {k : Nat} {a : Int32} {B : Prop} (h : (x = nI 0 ∧ 60 ≤ k ∧ v1 = v) ∨ (x = nI 1 ∧ k < 60 ∧ v1 = fa_put v a)) (c : x = 0) : ((-4 : Int32) = (-4 : Int32) ∧ 60 ≤ k ∧ v1 = v) ∨ B := by
  rcases h with h | h
  · exact Or.inl ⟨rfl, h.2⟩
  · rw [h.1] at c
    exact absurd c (by decide)
theorem fa_ap_1 {x : Int32} {v v1 : fa_V} {a : Int32} {B : Prop} (h : (x = nI 0 ∧ 60 ≤ fa_N (v 395 1) ∧ v1 = v) ∨ (x = nI 1 ∧ fa_N (v 395 1) < 60 ∧ v1 = fa_put v a)) (c : ¬ x = 0) : B ∨ (v1 395 1 = nI (fa_N (v 395 1) + 1) ∧ fa_N (v 395 1) < 60 ∧ v1 = fa_put v a) := by
  rcases h with h | h
  · exact absurd h.1 c
  · exact Or.inr ⟨by rw [h.2.2]; exact fa_u_s _ _ _ _, h.2⟩
