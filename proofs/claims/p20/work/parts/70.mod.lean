/-! THE REFERENCE: what no index of its methods leaves its rows for -/
/-- a cell of the reference's row -/
def fa_ok (i : Nat) (x : Int32) : Prop := (i = 14 → ∃ n, n ≤ 24 ∧ x = nI n) ∧ (i = 15 → ∃ n, n ≤ 8 ∧ x = nI n) ∧ (i = 16 → ∃ n, n ≤ 12 ∧ x = nI n) ∧ ∀ p, p < 24 → i = 17 + 15 * p + 1 → ∃ k, k ≤ 4 ∧ x = nI k
def fa_MS (f : Nat → Int32) : Prop := ∀ i, i < 453 → fa_ok i (f i)
def fa_MB (f : Nat → Int32) : Prop := ∀ i, i < 1812 → fa_ok (i % 453) (f i)
theorem fa_ok.o {i : Nat} {x : Int32} (h1 : ¬ i = 14) (h2 : ¬ i = 15) (h3 : ¬ i = 16) (h4 : ∀ p, p < 24 → ¬ i = 17 + 15 * p + 1) : fa_ok i x :=
  ⟨fun e => absurd e h1, fun e => absurd e h2, fun e => absurd e h3, fun p hp e => absurd e (h4 p hp)⟩
theorem fa_ok.n14 {m : Nat} (h : m ≤ 24) : fa_ok 14 (nI m) := ⟨fun _ => ⟨m, h, rfl⟩, fun e => absurd e (by decide), fun e => absurd e (by decide), fun p hp e => by omega⟩
theorem fa_ok.n15 {m : Nat} (h : m ≤ 8) : fa_ok 15 (nI m) := ⟨fun e => absurd e (by decide), fun _ => ⟨m, h, rfl⟩, fun e => absurd e (by decide), fun p hp e => by omega⟩
theorem fa_ok.n16 {m : Nat} (h : m ≤ 12) : fa_ok 16 (nI m) := ⟨fun e => absurd e (by decide), fun e => absurd e (by decide), fun _ => ⟨m, h, rfl⟩, fun p hp e => by omega⟩
theorem fa_ok.k {i m : Nat} (hi : 17 ≤ i) (h : m ≤ 4) : fa_ok i (nI m) := ⟨fun e => by omega, fun e => by omega, fun e => by omega, fun _ _ _ => ⟨m, h, rfl⟩⟩
theorem fa_ok.cp {l p k : Nat} {x : Int32} (hl : l < 24) (hp : p < 24) (hk : k < 15) (h : fa_ok (17 + 15 * p + k) x) : fa_ok (17 + 15 * l + k) x :=
  ⟨fun e => by omega, fun e => by omega, fun e => by omega, fun q hq e => h.2.2.2 p hp (by omega)⟩
theorem fa_MS.u {v : fa_V} {i : Nat} {x : Int32} {row : Nat} (h : fa_MS (v row)) (hx : fa_ok i x) : fa_MS (fa_u v row i x row) := fun j hj => by
  by_cases z : j = i
  · rw [z, fa_u_s]; exact hx
  · rw [fa_u_n _ _ (fun y => z y.2)]; exact h j hj
theorem fa_MB.u {v : fa_V} {i : Nat} {x : Int32} {row : Nat} (h : fa_MB (v row)) (hx : fa_ok (i % 453) x) : fa_MB (fa_u v row i x row) := fun j hj => by
  by_cases z : j = i
  · rw [z, fa_u_s]; exact hx
  · rw [fa_u_n _ _ (fun y => z y.2)]; exact h j hj
theorem fa_MS.n {f : Nat → Int32} (h : fa_MS f) : ∃ n, n = fa_N (f 14) := ⟨_, rfl⟩
theorem fa_MS.n4 {f : Nat → Int32} {n0 : Nat} (h : fa_MS f) (e : n0 = fa_N (f 14)) : n0 ≤ 24 ∧ f 14 = nI n0 := by
  obtain ⟨n, hn, h1⟩ := (h 14 (by decide)).1 rfl
  rw [h1, fa_N_nI (by omega)] at e
  exact ⟨by omega, by rw [e]; exact h1⟩
theorem fa_MS.n5 {f : Nat → Int32} {n0 : Nat} (h : fa_MS f) (e : n0 = fa_N (f 15)) : n0 ≤ 8 ∧ f 15 = nI n0 := by
  obtain ⟨n, hn, h1⟩ := (h 15 (by decide)).2.1 rfl
  rw [h1, fa_N_nI (by omega)] at e
  exact ⟨by omega, by rw [e]; exact h1⟩
theorem fa_MS.n6 {f : Nat → Int32} {n0 : Nat} (h : fa_MS f) (e : n0 = fa_N (f 16)) : n0 ≤ 12 ∧ f 16 = nI n0 := by
  obtain ⟨n, hn, h1⟩ := (h 16 (by decide)).2.2.1 rfl
  rw [h1, fa_N_nI (by omega)] at e
  exact ⟨by omega, by rw [e]; exact h1⟩
theorem fa_MS.kd {f : Nat → Int32} {p : Nat} (h : fa_MS f) (hp : p < 24) : ∃ k, k ≤ 4 ∧ f (17 + 15 * p + 1) = nI k := (h (17 + 15 * p + 1) (by omega)).2.2.2 p hp rfl
def fa_MJ (v : fa_V) : Prop := fa_MS (v 398) ∧ fa_MS (v 399) ∧ fa_MS (v 400) ∧ fa_MB (v 401) ∧ (∃ n, n ≤ 4 ∧ v 397 10 = nI n) ∧ ∃ n, n ≤ 60 ∧ v 397 9 = nI n
/-- a place, or none -/
def fa_pl (n : Nat) (x : Int32) : Prop := x = (-1 : Int32) ∨ ∃ p, p < n ∧ x = nI p
theorem fa_pl.ne {n : Nat} {x : Int32} (h : fa_pl n x) (c : ¬ x = (-1 : Int32)) : ∃ p, p < n ∧ x = nI p := h.elim (fun z => absurd z c) id
def fa_bo (x : Int32) : Prop := x = nI 0 ∨ x = nI 1
theorem fa_bo.nar {x : Int32} (h : fa_bo x) : narrow .boolean (.int x) = .int x := by rcases h with z | z <;> rw [z] <;> decide
theorem fa_pred {k : Nat} (hk : k < 2 ^ 31) (c : ¬ (nI k - nI 1 : Int32) < 0) : ∃ j, k = j + 1 ∧ (nI k - nI 1 : Int32) = nI j := by
  cases k with
  | zero => exact absurd (by decide) c
  | succ j => exact ⟨j, rfl, by rw [pk_sub (by omega)]; rfl⟩
theorem fa_predS (j : Nat) : nI j + (-1 : Int32) = nI j - nI 1 := by
  rw [Int32.sub_eq_add_neg]
  rfl
/-- how many do not stay -/
def fa_cnt (f : Nat → Int32) : Nat → Nat
  | 0 => 0
  | n + 1 => fa_cnt f n + (if f n = 0 then 1 else 0)
theorem fa_cnt_le {f g : Nat → Int32} : ∀ n, (∀ k, k < n → g k = 0 → f k = 0) → fa_cnt g n ≤ fa_cnt f n
  | 0, _ => Nat.le_refl _
  | n + 1, h => by
    have h1 := fa_cnt_le n (fun k hk => h k (by omega))
    show fa_cnt g n + (if g n = 0 then 1 else 0) ≤ fa_cnt f n + (if f n = 0 then 1 else 0)
    by_cases z : g n = 0
    · rw [if_pos z, if_pos (h n (by omega) z)]; omega
    · rw [if_neg z]; omega
theorem fa_cnt_lt {f g : Nat → Int32} {p : Nat} : ∀ n, p < n → f p = 0 → ¬ g p = 0 → (∀ k, k < n → g k = 0 → f k = 0) → fa_cnt g n < fa_cnt f n
  | 0, hp, _, _, _ => absurd hp (Nat.not_lt_zero _)
  | n + 1, hp, hf, hg, h => by
    show fa_cnt g n + (if g n = 0 then 1 else 0) < fa_cnt f n + (if f n = 0 then 1 else 0)
    by_cases e : p = n
    · rw [e] at hf hg
      rw [if_pos hf, if_neg hg]
      have := fa_cnt_le n (fun k hk => h k (by omega)) (f := f) (g := g)
      omega
    · have h1 := fa_cnt_lt n (by omega) hf hg (fun k hk => h k (by omega))
      by_cases z : g n = 0
      · rw [if_pos z, if_pos (h n (by omega) z)]; omega
      · rw [if_neg z]; omega
theorem fa_cnt_u {v : fa_V} {p row : Nat} {x : Int32} (hp : p < 24) (hf : v row p = 0) (hx : ¬ x = 0) : fa_cnt (fa_u v row p x row) 24 < fa_cnt (v row) 24 :=
  fa_cnt_lt (p := p) 24 hp hf (by rw [fa_u_s]; exact hx) (fun k _ h => by
    by_cases z : k = p
    · rw [z, fa_u_s] at h; exact absurd h hx
    · rw [fa_u_n _ _ (fun y => z y.2)] at h; exact h)
theorem fa_MS.cp {f g : Nat → Int32} (h : fa_MS f) (e : ∀ i, i < 453 → g i = f i) : fa_MS g := fun i hi => by
  rw [e i hi]
  exact h i hi
theorem fa_nIinj {a b : Nat} (ha : a < 2 ^ 31) (hb : b < 2 ^ 31) (h : nI a = nI b) : a = b := by
  have := congrArg fa_N h
  rw [fa_N_nI ha, fa_N_nI hb] at this
  exact this
theorem fa_more {a b fu : Nat} {mo mi : Int32} (hk : 2 * a + (if mo = 0 then 0 else 1) < fu + 1) (c : ¬ mo = 0) (h : (mi = nI 0 ∧ b ≤ a) ∨ (mi = nI 1 ∧ b < a)) : 2 * b + (if mi = 0 then 0 else 1) < fu := by
  rw [if_neg c] at hk
  rcases h with z | z
  · rw [z.1, if_pos (by decide)]; omega
  · rw [z.1, if_neg (by decide)]; omega
theorem fa_more2 {a b c : Nat} {A B : Prop} (h : (A ∧ b ≤ a) ∨ (B ∧ b < a)) (hl : c < b) : c < a := by
  rcases h with z | z <;> omega
/-- only the row of the state and that of what stays differ -/
def fa_f2 (v v1 : fa_V) : Prop := ∀ k, ¬ k = 398 → ¬ k = 402 → v1 k = v k
theorem fa_f2.rf {v : fa_V} : fa_f2 v v := fun _ _ _ => rfl
theorem fa_f2.u {v v1 : fa_V} {k i : Nat} {x : Int32} (h : fa_f2 v v1) (hk : k = 398 ∨ k = 402) : fa_f2 v (fa_u v1 k i x) := fun j h1 h2 => by
  rw [fa_u_k _ _ (by omega)]
  exact h j h1 h2
theorem fa_f2.tr {v v1 v2 : fa_V} (h : fa_f2 v v1) (h2 : fa_f2 v1 v2) : fa_f2 v v2 := fun k a b => (h2 k a b).trans (h k a b)
theorem fa_f2.of398 {v v1 : fa_V} (h : fa_fr 398 399 v v1) : fa_f2 v v1 := fun k a b => h k (by omega)
theorem fa_f2.of402 {v v1 : fa_V} (h : fa_fr 402 403 v v1) : fa_f2 v v1 := fun k a b => h k (by omega)
theorem fa_f2.fr {v v1 : fa_V} (h : fa_f2 v v1) : fa_fr 398 403 v v1 := fun k hk => h k (by omega) (by omega)
theorem fa_ok.z {i : Nat} {x : Int32} (hi : 17 ≤ i) (hx : x = nI 0) : fa_ok i x := by rw [hx]; exact fa_ok.k hi (by decide)
theorem fa_inN {a : Int32} {N : Nat} (hN : N + 1 < 2 ^ 31) (h : ¬ (a < nI 0 ∨ nI N < a)) : ∃ k : Nat, k ≤ N ∧ a = nI k :=
  fa_natLe hN (fun z => h (Or.inl z)) (fun z => h (Or.inr z))
theorem fa_okm {f : Nat → Int32} {k : Nat} (h : fa_MB f) (hk : k < 1359) : fa_ok (k % 453) (f (453 + k)) := by
  have z := h (453 + k) (by omega)
  rw [Nat.add_mod_left] at z
  exact z
theorem fa_okb {m k : Nat} {x : Int32} (hk : k < 453) (h : fa_ok k x) : fa_ok ((453 * m + k) % 453) x := by
  rw [Nat.mul_add_mod, Nat.mod_eq_of_lt hk]
  exact h
theorem fa_okx {f : Nat → Int32} {m k : Nat} (h : fa_MB f) (hm : m < 4) (hk : k < 453) : fa_ok k (f (453 * m + k)) := by
  have z := h (453 * m + k) (by omega)
  rw [Nat.mul_add_mod, Nat.mod_eq_of_lt hk] at z
  exact z
/-- only where the reader stands, how many orders it read, and what it read, differ -/
def fa_f3 (v v1 : fa_V) : Prop := (∀ k, ¬ k = 397 → ¬ k = 403 → v1 k = v k) ∧ ∀ i, ¬ i = 11 → ¬ i = 12 → v1 397 i = v 397 i
theorem fa_f3.rf {v : fa_V} : fa_f3 v v := ⟨fun _ _ _ => rfl, fun _ _ _ => rfl⟩
theorem fa_f3.u {v v1 : fa_V} {i : Nat} {x : Int32} (h : fa_f3 v v1) : fa_f3 v (fa_u v1 403 i x) := ⟨fun j h1 h2 => by
  rw [fa_u_k _ _ h2]
  exact h.1 j h1 h2, fun j h1 h2 => by
  rw [fa_u_k _ _ (by decide)]
  exact h.2 j h1 h2⟩
theorem fa_f3.w {v v1 : fa_V} {i : Nat} {x : Int32} (h : fa_f3 v v1) (hi : i = 11 ∨ i = 12) : fa_f3 v (fa_u v1 397 i x) := ⟨fun j h1 h2 => by
  rw [fa_u_k _ _ h1]
  exact h.1 j h1 h2, fun j h1 h2 => by
  rw [fa_u_n _ _ (by omega)]
  exact h.2 j h1 h2⟩
theorem fa_f3.tr {v v1 v2 : fa_V} (h : fa_f3 v v1) (h2 : fa_f3 v1 v2) : fa_f3 v v2 := ⟨fun k a b => (h2.1 k a b).trans (h.1 k a b), fun i a b => (h2.2 i a b).trans (h.2 i a b)⟩
theorem fa_f3.fr {v v1 : fa_V} (h : fa_f3 v v1) : fa_fr 397 404 v v1 := fun k hk => h.1 k (by omega) (by omega)
theorem fa_bo.z {x : Int32} (h : fa_bo x) (c : ¬ x = 0) : x = nI 1 := h.elim (fun z => absurd z c) id
/-- a sign behind the reference's text -/
def fa_put7 (v : fa_V) (x : Int32) : fa_V := fa_u (fa_u v 405 (fa_N (v 397 9)) (vp_nar .char x)) 397 9 (nI (fa_N (v 397 9) + 1))
theorem fa_put7_eq {v : fa_V} {x : Int32} {m : Nat} (h : v 397 9 = nI m) (hm : m < 2 ^ 31) : fa_put7 v x = fa_u (fa_u v 405 m (vp_nar .char x)) 397 9 (nI (m + 1)) := by
  unfold fa_put7
  rw [h, fa_N_nI hm]
theorem fa_inr1 {x a l h : Int32} (e : x = if a < l ∨ h < a then nI 0 else nI 1) (c : ¬ x = 0) : l ≤ a ∧ a ≤ h := by
  have z := fa_in1 e c
  exact ⟨Int32.not_lt.mp (fun y => z (Or.inl y)), Int32.not_lt.mp (fun y => z (Or.inr y))⟩
theorem fa_inr0 {x a l h : Int32} (e : x = if a < l ∨ h < a then nI 0 else nI 1) (c : x = 0) : ¬ (l ≤ a ∧ a ≤ h) := fun z => by
  rcases fa_in0 e c with y | y
  · exact Int32.not_lt.mpr z.1 y
  · exact Int32.not_lt.mpr z.2 y
