/-! ANY REACHABLE STATE: places, sums, what is safe -/
def fa_pf (r : fa_R) (b p : Nat) : Nat := (r (b + 1) p).getD 0
/-- q is a StoredFile of the State at b -/
def fa_isF (b q : Nat) : Prop := ∃ j, j < 24 ∧ q = b + 8 + 2 * j
theorem fa_pf_isF {r : fa_R} {b p : Nat} (hr : fa_RS r b) (hp : p < 24) : fa_isF b (fa_pf r b p) := by
  obtain ⟨j, hj, e⟩ := hr.2.2.2.2.2.2.2.1 p hp
  exact ⟨j, hj, by rw [fa_pf, e]; rfl⟩
theorem fa_pf_at {r : fa_R} {b p : Nat} (hr : fa_RS r b) (hp : p < 24) : r (b + 1) p = some (fa_pf r b p) := by
  obtain ⟨j, hj, e⟩ := hr.2.2.2.2.2.2.2.1 p hp
  rw [fa_pf, e]
  rfl
theorem fa_isF_sh {b q : Nat} (hB : b ∈ fa_bs) (h : fa_isF b q) : fa_sh q = .inr 4 := by
  obtain ⟨j, hj, rfl⟩ := h
  exact fa_sf hB hj
theorem fa_isF_lt {b q n : Nat} (hB : b ∈ fa_bs) (h : fa_isF b q) (hn : 397 ≤ n) : q < n := by
  obtain ⟨j, hj, rfl⟩ := h
  exact fa_ltf hB hj hn
theorem fa_isF_sh1 {b q : Nat} (hB : b ∈ fa_bs) (h : fa_isF b q) : fa_sh (q + 1) = .inl (0, 8) := by
  obtain ⟨j, hj, rfl⟩ := h
  rw [show b + 8 + 2 * j + 1 = b + 9 + 2 * j by omega]
  exact fa_se hB hj
theorem fa_isF_lt1 {b q n : Nat} (hB : b ∈ fa_bs) (h : fa_isF b q) (hn : 397 ≤ n) : q + 1 < n := by
  obtain ⟨j, hj, rfl⟩ := h
  have := fa_lte hB hj hn
  omega
theorem fa_isF_ref {r : fa_R} {b q : Nat} (hr : fa_RS r b) (h : fa_isF b q) : r q 7 = some (q + 1) := by
  obtain ⟨j, hj, rfl⟩ := h
  rw [hr.2.2.2.2.2.2.2.2 j hj]
  congr 1
  omega
theorem fa_isF_in {b q : Nat} (h : fa_isF b q) : b + 8 ≤ q ∧ q + 1 < b + 56 := by
  obtain ⟨j, hj, rfl⟩ := h
  omega
def fa_sum (f : Nat → Int32) : Nat → Int32
  | 0 => 0
  | n + 1 => fa_sum f n + f n
theorem fa_sum_congr {f g : Nat → Int32} : ∀ (n : Nat), (∀ k, k < n → f k = g k) → fa_sum f n = fa_sum g n
  | 0, _ => rfl
  | n + 1, h => by
    rw [fa_sum, fa_sum, fa_sum_congr n (fun k hk => h k (by omega)), h n (by omega)]
/-- what no index of a State's methods leaves its array for -/
def fa_IS (v : fa_V) (b : Nat) : Prop := (∃ n, n ≤ 24 ∧ v b 1 = nI n) ∧ (∃ n, n ≤ 8 ∧ v (b + 2) 0 = nI n) ∧ (∃ n, n ≤ 12 ∧ v (b + 5) 0 = nI n) ∧ ∀ j, j < 24 → ∃ k, k ≤ 4 ∧ v (b + 8 + 2 * j) 1 = nI k
theorem fa_IS.kind {v : fa_V} {b q : Nat} (h : fa_IS v b) (hq : fa_isF b q) : ∃ k, k ≤ 4 ∧ v q 1 = nI k := by
  obtain ⟨j, hj, rfl⟩ := hq
  exact h.2.2.2 j hj
theorem fa_IS.congr {v v1 : fa_V} {b : Nat} (h : ∀ k, b ≤ k → k < b + 56 → v1 k = v k) (hI : fa_IS v b) : fa_IS v1 b := by
  obtain ⟨h1, h2, h3, h4⟩ := hI
  refine ⟨?_, ?_, ?_, fun j hj => ?_⟩
  · rw [h b (by omega) (by omega)]; exact h1
  · rw [h (b + 2) (by omega) (by omega)]; exact h2
  · rw [h (b + 5) (by omega) (by omega)]; exact h3
  · rw [h (b + 8 + 2 * j) (by omega) (by omega)]; exact h4 j hj
/-- only reasons differ -/
def fa_rsn (b : Nat) (v v1 : fa_V) : Prop := ∀ k i, ¬ (fa_isF b k ∧ i = 8) → v1 k i = v k i
theorem fa_rsn.rf {b : Nat} {v : fa_V} : fa_rsn b v v := fun _ _ _ => rfl
theorem fa_rsn.u {b q : Nat} {v v1 : fa_V} {x : Int32} (h : fa_rsn b v v1) (hq : fa_isF b q) : fa_rsn b v (fa_u v1 q 8 x) := fun k i hk => by
  rw [fa_u_n _ _ (fun z => hk ⟨by rw [z.1]; exact hq, z.2⟩)]
  exact h k i hk
theorem fa_rsn.tr {b : Nat} {v v1 v2 : fa_V} (h : fa_rsn b v v1) (h2 : fa_rsn b v1 v2) : fa_rsn b v v2 := fun k i hk => (h2 k i hk).trans (h k i hk)
theorem fa_rsn.fr {b : Nat} {v v1 : fa_V} (h : fa_rsn b v v1) : fa_fr (b + 8) (b + 56) v v1 := fun k hk => by
  funext i
  exact h k i (fun z => hk (by have := fa_isF_in z.1; omega))
theorem fa_rsn.IS {b : Nat} {v v1 : fa_V} (hf : fa_rsn b v v1) (h : fa_IS v b) : fa_IS v1 b := by
  obtain ⟨h1, h2, h3, h4⟩ := h
  refine ⟨?_, ?_, ?_, fun j hj => ?_⟩
  · rw [hf b 1 (by simp)]; exact h1
  · rw [hf (b + 2) 0 (by simp)]; exact h2
  · rw [hf (b + 5) 0 (by simp)]; exact h3
  · rw [hf (b + 8 + 2 * j) 1 (by simp)]; exact h4 j hj
theorem fa_leN {a b : Nat} (ha : a < 2 ^ 31) (hb : b < 2 ^ 31) (c : nI b ≤ nI a) : b ≤ a := (nI_leI hb ha).mp c
theorem fa_ltN' {a b : Nat} (ha : a < 2 ^ 31) (hb : b < 2 ^ 31) (c : nI a < nI b) : a < b := (nI_ltI ha hb).mp c
def fa_N (x : Int32) : Nat := x.toNatClampNeg
theorem fa_N_nI {n : Nat} (h : n < 2 ^ 31) : fa_N (nI n) = n := nI_clamp h
theorem fa_IS.n1 {v : fa_V} {b n0 : Nat} (h : fa_IS v b) (e : n0 = fa_N (v b 1)) : n0 ≤ 24 ∧ v b 1 = nI n0 := by
  obtain ⟨⟨n, hn, h1⟩, -⟩ := h
  rw [h1, fa_N_nI (by omega)] at e
  exact ⟨by omega, by rw [e]; exact h1⟩
theorem fa_IS.n2 {v : fa_V} {b n0 : Nat} (h : fa_IS v b) (e : n0 = fa_N (v (b + 2) 0)) : n0 ≤ 8 ∧ v (b + 2) 0 = nI n0 := by
  obtain ⟨-, ⟨n, hn, h1⟩, -⟩ := h
  rw [h1, fa_N_nI (by omega)] at e
  exact ⟨by omega, by rw [e]; exact h1⟩
theorem fa_IS.n5 {v : fa_V} {b n0 : Nat} (h : fa_IS v b) (e : n0 = fa_N (v (b + 5) 0)) : n0 ≤ 12 ∧ v (b + 5) 0 = nI n0 := by
  obtain ⟨-, -, ⟨n, hn, h1⟩, -⟩ := h
  rw [h1, fa_N_nI (by omega)] at e
  exact ⟨by omega, by rw [e]; exact h1⟩
theorem fa_sum_t {f : Nat → Prop} {d : ∀ p, Decidable (f p)} {j : Nat} (c : ¬ ¬ f j) : fa_sum (fun p => @ite _ (f p) (d p) (1 : Int32) 0) j + Int32.ofInt 1 = fa_sum (fun p => @ite _ (f p) (d p) (1 : Int32) 0) (j + 1) := by
  show _ = fa_sum _ j + (if f j then (1 : Int32) else 0)
  rw [if_pos (Decidable.not_not.mp c)]
  rfl
theorem fa_sum_f {f : Nat → Prop} {d : ∀ p, Decidable (f p)} {j : Nat} (c : ¬ f j) : fa_sum (fun p => @ite _ (f p) (d p) (1 : Int32) 0) j = fa_sum (fun p => @ite _ (f p) (d p) (1 : Int32) 0) (j + 1) := by
  show _ = fa_sum _ j + (if f j then (1 : Int32) else 0)
  rw [if_neg c, Int32.add_zero]
