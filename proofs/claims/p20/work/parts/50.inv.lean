/-! ANY REACHABLE STATE: places, sums, what is safe -/
def fa_pf (r : fa_R) (b p : Nat) : Nat := (r (b + 1) p).getD 0
/-- q is a StoredFile of the State at b -/
def fa_isF (b q : Nat) : Prop := ∃ j, j < 24 ∧ q = b + 8 + 2 * j
theorem fa_pf_isF {r : fa_R} {b p : Nat} (hr : fa_RS r b) (hp : p < 24) : fa_isF b (fa_pf r b p) := by
  obtain ⟨j, hj, e⟩ := hr.2.2.2.2.2.2.2.1 p hp
  exact ⟨j, hj, by rw [fa_pf, e]; rfl⟩
theorem fa_pf_at {r : fa_R} {b p : Nat} (hr : fa_RS r b) (hp : p < 24) : r (b + 1) p = some (fa_pf r b p) := by
  obtain ⟨j, hj, e⟩ := hr.2.2.2.2.2.2.2.1 p hp
  rw [fa_pf, e]
  rfl
theorem fa_isF_sh {b q : Nat} (hB : b ∈ fa_bs) (h : fa_isF b q) : fa_sh q = .inr 4 := by
  obtain ⟨j, hj, rfl⟩ := h
  exact fa_sf hB hj
theorem fa_isF_lt {b q n : Nat} (hB : b ∈ fa_bs) (h : fa_isF b q) (hn : 397 ≤ n) : q < n := by
  obtain ⟨j, hj, rfl⟩ := h
  exact fa_ltf hB hj hn
theorem fa_isF_sh1 {b q : Nat} (hB : b ∈ fa_bs) (h : fa_isF b q) : fa_sh (q + 1) = .inl (0, 8) := by
  obtain ⟨j, hj, rfl⟩ := h
  rw [show b + 8 + 2 * j + 1 = b + 9 + 2 * j by omega]
  exact fa_se hB hj
theorem fa_isF_lt1 {b q n : Nat} (hB : b ∈ fa_bs) (h : fa_isF b q) (hn : 397 ≤ n) : q + 1 < n := by
  obtain ⟨j, hj, rfl⟩ := h
  have := fa_lte hB hj hn
  omega
theorem fa_isF_ref {r : fa_R} {b q : Nat} (hr : fa_RS r b) (h : fa_isF b q) : r q 7 = some (q + 1) := by
  obtain ⟨j, hj, rfl⟩ := h
  rw [hr.2.2.2.2.2.2.2.2 j hj]
  congr 1
  omega
theorem fa_isF_in {b q : Nat} (h : fa_isF b q) : b + 8 ≤ q ∧ q + 1 < b + 56 := by
  obtain ⟨j, hj, rfl⟩ := h
  omega
def fa_sum (f : Nat → Int32) : Nat → Int32
  | 0 => 0
  | n + 1 => fa_sum f n + f n
theorem fa_sum_congr {f g : Nat → Int32} : ∀ (n : Nat), (∀ k, k < n → f k = g k) → fa_sum f n = fa_sum g n
  | 0, _ => rfl
  | n + 1, h => by
    rw [fa_sum, fa_sum, fa_sum_congr n (fun k hk => h k (by omega)), h n (by omega)]
/-- what no index of a State's methods leaves its array for -/
def fa_IS (v : fa_V) (b : Nat) : Prop := (∃ n, n ≤ 24 ∧ v b 1 = nI n) ∧ (∃ n, n ≤ 8 ∧ v (b + 2) 0 = nI n) ∧ (∃ n, n ≤ 12 ∧ v (b + 5) 0 = nI n) ∧ ∀ j, j < 24 → ∃ k, k ≤ 4 ∧ v (b + 8 + 2 * j) 1 = nI k
theorem fa_IS.kind {v : fa_V} {b q : Nat} (h : fa_IS v b) (hq : fa_isF b q) : ∃ k, k ≤ 4 ∧ v q 1 = nI k := by
  obtain ⟨j, hj, rfl⟩ := hq
  exact h.2.2.2 j hj
theorem fa_IS.congr {v v1 : fa_V} {b : Nat} (h : ∀ k, b ≤ k → k < b + 56 → v1 k = v k) (hI : fa_IS v b) : fa_IS v1 b := by
  obtain ⟨h1, h2, h3, h4⟩ := hI
  refine ⟨?_, ?_, ?_, fun j hj => ?_⟩
  · rw [h b (by omega) (by omega)]; exact h1
  · rw [h (b + 2) (by omega) (by omega)]; exact h2
  · rw [h (b + 5) (by omega) (by omega)]; exact h3
  · rw [h (b + 8 + 2 * j) (by omega) (by omega)]; exact h4 j hj
/-- only reasons differ -/
def fa_rsn (b : Nat) (v v1 : fa_V) : Prop := ∀ k i, ¬ (fa_isF b k ∧ i = 8) → v1 k i = v k i
theorem fa_rsn.rf {b : Nat} {v : fa_V} : fa_rsn b v v := fun _ _ _ => rfl
theorem fa_rsn.u {b q : Nat} {v v1 : fa_V} {x : Int32} (h : fa_rsn b v v1) (hq : fa_isF b q) : fa_rsn b v (fa_u v1 q 8 x) := fun k i hk => by
  rw [fa_u_n _ _ (fun z => hk ⟨by rw [z.1]; exact hq, z.2⟩)]
  exact h k i hk
theorem fa_rsn.tr {b : Nat} {v v1 v2 : fa_V} (h : fa_rsn b v v1) (h2 : fa_rsn b v1 v2) : fa_rsn b v v2 := fun k i hk => (h2 k i hk).trans (h k i hk)
theorem fa_rsn.fr {b : Nat} {v v1 : fa_V} (h : fa_rsn b v v1) : fa_fr (b + 8) (b + 56) v v1 := fun k hk => by
  funext i
  exact h k i (fun z => hk (by have := fa_isF_in z.1; omega))
theorem fa_rsn.IS {b : Nat} {v v1 : fa_V} (hf : fa_rsn b v v1) (h : fa_IS v b) : fa_IS v1 b := by
  obtain ⟨h1, h2, h3, h4⟩ := h
  refine ⟨?_, ?_, ?_, fun j hj => ?_⟩
  · rw [hf b 1 (by simp)]; exact h1
  · rw [hf (b + 2) 0 (by simp)]; exact h2
  · rw [hf (b + 5) 0 (by simp)]; exact h3
  · rw [hf (b + 8 + 2 * j) 1 (by simp)]; exact h4 j hj
theorem fa_leN {a b : Nat} (ha : a < 2 ^ 31) (hb : b < 2 ^ 31) (c : nI b ≤ nI a) : b ≤ a := (nI_leI hb ha).mp c
theorem fa_ltN' {a b : Nat} (ha : a < 2 ^ 31) (hb : b < 2 ^ 31) (c : nI a < nI b) : a < b := (nI_ltI ha hb).mp c
def fa_N (x : Int32) : Nat := x.toNatClampNeg
theorem fa_N_nI {n : Nat} (h : n < 2 ^ 31) : fa_N (nI n) = n := nI_clamp h
theorem fa_IS.n1 {v : fa_V} {b n0 : Nat} (h : fa_IS v b) (e : n0 = fa_N (v b 1)) : n0 ≤ 24 ∧ v b 1 = nI n0 := by
  obtain ⟨⟨n, hn, h1⟩, -⟩ := h
  rw [h1, fa_N_nI (by omega)] at e
  exact ⟨by omega, by rw [e]; exact h1⟩
theorem fa_IS.n2 {v : fa_V} {b n0 : Nat} (h : fa_IS v b) (e : n0 = fa_N (v (b + 2) 0)) : n0 ≤ 8 ∧ v (b + 2) 0 = nI n0 := by
  obtain ⟨-, ⟨n, hn, h1⟩, -⟩ := h
  rw [h1, fa_N_nI (by omega)] at e
  exact ⟨by omega, by rw [e]; exact h1⟩
theorem fa_IS.n5 {v : fa_V} {b n0 : Nat} (h : fa_IS v b) (e : n0 = fa_N (v (b + 5) 0)) : n0 ≤ 12 ∧ v (b + 5) 0 = nI n0 := by
  obtain ⟨-, -, ⟨n, hn, h1⟩, -⟩ := h
  rw [h1, fa_N_nI (by omega)] at e
  exact ⟨by omega, by rw [e]; exact h1⟩
theorem fa_sum_t {f : Nat → Prop} {d : ∀ p, Decidable (f p)} {j : Nat} (c : f j) : fa_sum (fun p => @ite _ (f p) (d p) (1 : Int32) 0) j + Int32.ofInt 1 = fa_sum (fun p => @ite _ (f p) (d p) (1 : Int32) 0) (j + 1) := by
  show _ = fa_sum _ j + (if f j then (1 : Int32) else 0)
  rw [if_pos c]
  rfl
theorem fa_sum_f {f : Nat → Prop} {d : ∀ p, Decidable (f p)} {j : Nat} (c : ¬ f j) : fa_sum (fun p => @ite _ (f p) (d p) (1 : Int32) 0) j = fa_sum (fun p => @ite _ (f p) (d p) (1 : Int32) 0) (j + 1) := by
  show _ = fa_sum _ j + (if f j then (1 : Int32) else 0)
  rw [if_neg c, Int32.add_zero]
def fa_mask (c : Nat → Bool) : Nat → Int32
  | 0 => 0
  | n + 1 => if c n = true then fa_mask c n ||| ((nI 1) <<< ((nI n) &&& 31)) else fa_mask c n
theorem fa_mask_t {c : Nat → Bool} {j : Nat} (h : c j = true) : (fa_mask c j) ||| ((nI 1) <<< ((nI j) &&& 31)) = fa_mask c (j + 1) := by
  show _ = if c j = true then _ else _
  rw [if_pos h]
theorem fa_mask_f {c : Nat → Bool} {j : Nat} (h : ¬ c j = true) : fa_mask c j = fa_mask c (j + 1) := by
  show _ = if c j = true then _ else _
  rw [if_neg h]
/-- the holders whose seals hold on a day -/
def fa_hold (v : fa_V) (q : Nat) (day : Int32) : Int32 := fa_mask (fun h => decide (v (q + 1) h = nI 10000 ∨ ¬ v (q + 1) h < day)) 8
def fa_due (v : fa_V) (b q : Nat) : Int32 := if v q 5 < v (b + 7) 5 then (if v q 4 = -6 then v q 3 else v q 4) + v (b + 7) (fa_N (v q 1)) else (if v q 4 = -6 then v q 3 else v q 4) + nI 2 * v (b + 7) (fa_N (v q 1))
def fa_resv (v : fa_V) (b : Nat) (num : Int32) : Int32 := fa_sum (fun p => if v (b + 3) p = num then 1 else 0) (fa_N (v (b + 2) 0))
def fa_own (v : fa_V) (b q : Nat) : Int32 := if fa_due v b q ≤ v b 0 then (if fa_hold v q (v b 0) = 0 then (if fa_resv v b (v q 0) ≤ 0 then 0 else nI 3) else nI 2) else nI 1
/-- a stored file is asked -/
def fa_ask (v : fa_V) (b q : Nat) : fa_V := fa_u (fa_u (fa_u v q 4 (v b 0)) q 5 (v q 5 + nI 1)) b 5 (v b 5 + nI 1)
theorem fa_IS.u {v : fa_V} {b k i : Nat} {x : Int32} (h : fa_IS v b) (hk : (k = b ∧ ¬ i = 1) ∨ (fa_isF b k ∧ ¬ i = 1) ∨ (∃ j, j < 24 ∧ k = b + 9 + 2 * j) ∨ k = b + 1 ∨ k = b + 3 ∨ k = b + 4 ∨ k = b + 6 ∨ k = b + 7 ∨ k < b ∨ b + 56 ≤ k) : fa_IS (fa_u v k i x) b := by
  obtain ⟨h1, h2, h3, h4⟩ := h
  have hF : fa_isF b k → b + 8 ≤ k ∧ k + 1 < b + 56 := fa_isF_in
  refine ⟨?_, ?_, ?_, fun j hj => ?_⟩
  · rw [fa_u_n _ _ (fun z => by rcases hk with q | q | ⟨_, _, q⟩ | q | q | q | q | q | q | q <;> first | omega | (have := hF q.1; omega))]; exact h1
  · rw [fa_u_n _ _ (fun z => by rcases hk with q | q | ⟨_, _, q⟩ | q | q | q | q | q | q | q <;> first | omega | (have := hF q.1; omega))]; exact h2
  · rw [fa_u_n _ _ (fun z => by rcases hk with q | q | ⟨_, _, q⟩ | q | q | q | q | q | q | q <;> first | omega | (have := hF q.1; omega))]; exact h3
  · rw [fa_u_n _ _ (fun z => by rcases hk with q | q | ⟨_, _, q⟩ | q | q | q | q | q | q | q <;> omega)]; exact h4 j hj
theorem fa_ask_IS {v : fa_V} {b q : Nat} (h : fa_IS v b) (hq : fa_isF b q) : fa_IS (fa_ask v b q) b :=
  ((h.u (Or.inr (Or.inl ⟨hq, by decide⟩))).u (Or.inr (Or.inl ⟨hq, by decide⟩))).u (Or.inl ⟨rfl, by decide⟩)
theorem fa_IS.set1 {v : fa_V} {b m : Nat} (h : fa_IS v b) (hm : m ≤ 24) : fa_IS (fa_u v b 1 (nI m)) b := by
  obtain ⟨h1, h2, h3, h4⟩ := h
  refine ⟨⟨m, hm, fa_u_s _ _ _ _⟩, ?_, ?_, fun j hj => ?_⟩
  · rw [fa_u_n _ _ (by omega)]; exact h2
  · rw [fa_u_n _ _ (by omega)]; exact h3
  · rw [fa_u_n _ _ (by omega)]; exact h4 j hj
theorem fa_IS.set2 {v : fa_V} {b m : Nat} (h : fa_IS v b) (hm : m ≤ 8) : fa_IS (fa_u v (b + 2) 0 (nI m)) b := by
  obtain ⟨h1, h2, h3, h4⟩ := h
  refine ⟨?_, ⟨m, hm, fa_u_s _ _ _ _⟩, ?_, fun j hj => ?_⟩
  · rw [fa_u_n _ _ (by omega)]; exact h1
  · rw [fa_u_n _ _ (by omega)]; exact h3
  · rw [fa_u_n _ _ (by omega)]; exact h4 j hj
theorem fa_IS.set5 {v : fa_V} {b m : Nat} (h : fa_IS v b) (hm : m ≤ 12) : fa_IS (fa_u v (b + 5) 0 (nI m)) b := by
  obtain ⟨h1, h2, h3, h4⟩ := h
  refine ⟨?_, ?_, ⟨m, hm, fa_u_s _ _ _ _⟩, fun j hj => ?_⟩
  · rw [fa_u_n _ _ (by omega)]; exact h1
  · rw [fa_u_n _ _ (by omega)]; exact h2
  · rw [fa_u_n _ _ (by omega)]; exact h4 j hj
theorem fa_IS.setk {v : fa_V} {b q m : Nat} (h : fa_IS v b) (hq : fa_isF b q) (hm : m ≤ 4) : fa_IS (fa_u v q 1 (nI m)) b := by
  obtain ⟨h1, h2, h3, h4⟩ := h
  obtain ⟨j0, hj0, rfl⟩ := hq
  refine ⟨?_, ?_, ?_, fun j hj => ?_⟩
  · rw [fa_u_n _ _ (by omega)]; exact h1
  · rw [fa_u_n _ _ (by omega)]; exact h2
  · rw [fa_u_n _ _ (by omega)]; exact h3
  · by_cases z : j = j0
    · rw [z, fa_u_s]; exact ⟨m, hm, rfl⟩
    · rw [fa_u_n _ _ (by omega)]; exact h4 j hj
/-- a whole row that holds no size and no kind -/
theorem fa_IS.row {v v1 : fa_V} {b k : Nat} (h : fa_IS v b) (hr : ∀ q, ¬ q = k → v1 q = v q) (hk : (∃ j, j < 24 ∧ k = b + 9 + 2 * j) ∨ k = b + 1 ∨ k = b + 3 ∨ k = b + 4 ∨ k = b + 6 ∨ k = b + 7) : fa_IS v1 b := by
  obtain ⟨h1, h2, h3, h4⟩ := h
  refine ⟨?_, ?_, ?_, fun j hj => ?_⟩
  · rw [hr b (by rcases hk with ⟨_, _, q⟩ | q | q | q | q | q <;> omega)]; exact h1
  · rw [hr (b + 2) (by rcases hk with ⟨_, _, q⟩ | q | q | q | q | q <;> omega)]; exact h2
  · rw [hr (b + 5) (by rcases hk with ⟨_, _, q⟩ | q | q | q | q | q <;> omega)]; exact h3
  · rw [hr (b + 8 + 2 * j) (by rcases hk with ⟨_, _, q⟩ | q | q | q | q | q <;> omega)]; exact h4 j hj
theorem fa_isF.seal {b q : Nat} (h : fa_isF b q) : ∃ j, j < 24 ∧ q + 1 = b + 9 + 2 * j := by
  obtain ⟨j, hj, rfl⟩ := h
  exact ⟨j, hj, by omega⟩
theorem fa_cp_out {v v1 : fa_V} {k1 : Nat} {f : Nat → Int32} (e : v1 = fun k i => if k = k1 then f i else v k i) : ∀ q, ¬ q = k1 → v1 q = v q := fun q hq => by
  rw [e]
  funext i
  exact if_neg hq
theorem fa_dec {p : Nat} (h : 0 < p) : nI p + Int32.ofInt (-1) = nI (p - 1) := by
  obtain ⟨k, rfl⟩ : ∃ k, p = k + 1 := ⟨p - 1, by omega⟩
  exact pk_m1 k
theorem fa_ixN {x : Int32} {N : Nat} (hN : N < 2 ^ 31) (h1 : ¬ x < 0) (h2 : x < nI N) : ∃ j : Nat, j < N ∧ x = nI j := fa_ix7 hN (fun z => z.elim h1 (fun z => z h2))
theorem fa_natLe {x : Int32} {N : Nat} (hN : N + 1 < 2 ^ 31) (h1 : ¬ x < 0) (h2 : ¬ nI N < x) : ∃ k : Nat, k ≤ N ∧ x = nI k := by
  obtain ⟨j, hj, e⟩ := fa_ixN (x := x) (N := N + 1) hN h1 (by
    refine Decidable.byContradiction (fun z => h2 ((fa_ltS hN).mpr z)))
  exact ⟨j, by omega, e⟩
theorem fa_RS.set {r : fa_R} {b p q : Nat} (hr : fa_RS r b) (hq : fa_isF b q) : fa_RS (fa_u r (b + 1) p (some q)) b := by
  obtain ⟨h1, h2, h3, h4, h5, h6, h7, h8, h9⟩ := hr
  refine ⟨?_, ?_, ?_, ?_, ?_, ?_, ?_, fun k hk => ?_, fun j hj => ?_⟩
  · rw [fa_u_n _ _ (by omega)]; exact h1
  · rw [fa_u_n _ _ (by omega)]; exact h2
  · rw [fa_u_n _ _ (by omega)]; exact h3
  · rw [fa_u_n _ _ (by omega)]; exact h4
  · rw [fa_u_n _ _ (by omega)]; exact h5
  · rw [fa_u_n _ _ (by omega)]; exact h6
  · rw [fa_u_n _ _ (by omega)]; exact h7
  · by_cases z : k = p
    · obtain ⟨j, hj, e⟩ := hq
      exact ⟨j, hj, by rw [z, fa_u_s, e]⟩
    · rw [fa_u_n _ _ (by omega)]; exact h8 k hk
  · rw [fa_u_n _ _ (by omega)]; exact h9 j hj
/-- a char -/
def fa_isC (x : Int32) : Prop := narrow .char (.int x) = .int x ∧ fits .char (.int x) = true
/-- the class's text is safe -/
def fa_IT (v : fa_V) : Prop := (∃ n, n ≤ 60 ∧ v 395 1 = nI n) ∧ ∀ i, i < 60 → fa_isC (v 396 i)
theorem fa_IT.u {v : fa_V} {i : Nat} {x : Int32} (h : fa_IT v) (hi : ¬ i = 1) : fa_IT (fa_u v 395 i x) := by
  obtain ⟨⟨n, h1, h2⟩, h3⟩ := h
  refine ⟨⟨n, h1, by rw [fa_u_n _ _ (by omega)]; exact h2⟩, fun j hj => ?_⟩
  rw [fa_u_k _ _ (by decide)]
  exact h3 j hj
theorem fa_IT.rows {v v1 : fa_V} (h : fa_IT v) (h1 : v1 395 1 = v 395 1) (h2 : v1 396 = v 396) : fa_IT v1 := by
  obtain ⟨⟨n, h3, h4⟩, h5⟩ := h
  exact ⟨⟨n, h3, by rw [h1]; exact h4⟩, fun j hj => by rw [h2]; exact h5 j hj⟩
theorem fa_nar_char (x : Int32) : narrow .char (.int (vp_nar .char x)) = .int (vp_nar .char x) := by
  have e : vp_nar .char (vp_nar .char x) = vp_nar .char x := by
    rw [vp_nar_char, vp_nar_char]
    apply Int32.toBitVec_inj.mp
    simp
    apply BitVec.eq_of_toNat_eq
    rw [BitVec.toNat_umod, BitVec.toNat_umod]
    exact Nat.mod_mod _ _
  show Value.int (vp_nar .char (vp_nar .char x)) = _
  rw [e]

theorem fa_char_nI (x : Int32) : ∃ k : Nat, k < 65536 ∧ vp_nar .char x = nI k := by
  refine ⟨x.toUInt32.toUInt16.toNat, x.toUInt32.toUInt16.toNat_lt, ?_⟩
  rw [vp_nar_char]
  apply Int32.toBitVec_inj.mp
  apply BitVec.eq_of_toNat_eq
  simp [nI]
  show x.toUInt32.toNat % 65536 = _
  omega
theorem fa_isC_nar (x : Int32) : fa_isC (vp_nar .char x) := by
  refine ⟨fa_nar_char x, ?_⟩
  obtain ⟨k, hk, e⟩ := fa_char_nI x
  rw [e]
  have h1 : (0 : Int32) ≤ nI k := nI_pos' (by omega)
  have h2 : nI k ≤ (65535 : Int32) := nI_le (a := k) (b := 65535) (by omega) (by decide)
  simp [fits, h1, h2]
theorem fa_isC_0 : fa_isC (nI 0) := ⟨by decide, by decide⟩
theorem fa_IT.put {v : fa_V} {k : Nat} {x : Int32} (h : fa_IT v) : fa_IT (fa_u v 396 k (vp_nar .char x)) := by
  obtain ⟨⟨n, h1, h2⟩, h3⟩ := h
  refine ⟨⟨n, h1, by rw [fa_u_k _ _ (by decide)]; exact h2⟩, fun j hj => ?_⟩
  by_cases z : j = k
  · rw [z, fa_u_s]; exact fa_isC_nar x
  · rw [fa_u_n _ _ (fun y => z y.2)]; exact h3 j hj
theorem fa_IT.len {v : fa_V} {m : Nat} (h : fa_IT v) (hm : m ≤ 60) : fa_IT (fa_u v 395 1 (nI m)) := by
  obtain ⟨-, h3⟩ := h
  refine ⟨⟨m, hm, fa_u_s _ _ _ _⟩, fun j hj => ?_⟩
  rw [fa_u_k _ _ (by decide)]
  exact h3 j hj
/-- a sign behind the text -/
def fa_put (v : fa_V) (x : Int32) : fa_V := fa_u (fa_u v 396 (fa_N (v 395 1)) (vp_nar .char x)) 395 1 (nI (fa_N (v 395 1) + 1))
theorem fa_put_eq {v : fa_V} {x : Int32} {m : Nat} (h : v 395 1 = nI m) (hm : m < 2 ^ 31) : fa_put v x = fa_u (fa_u v 396 m (vp_nar .char x)) 395 1 (nI (m + 1)) := by
  unfold fa_put
  rw [h, fa_N_nI hm]
