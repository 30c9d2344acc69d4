/-! THE REFERENCE: what no index of its methods leaves its rows for -/
/-- a cell of the reference's row -/
def fa_ok (i : Nat) (x : Int32) : Prop := (i = 14 → ∃ n, n ≤ 24 ∧ x = nI n) ∧ (i = 15 → ∃ n, n ≤ 8 ∧ x = nI n) ∧ (i = 16 → ∃ n, n ≤ 12 ∧ x = nI n) ∧ ∀ p, p < 24 → i = 17 + 15 * p + 1 → ∃ k, k ≤ 4 ∧ x = nI k
def fa_MS (f : Nat → Int32) : Prop := ∀ i, i < 453 → fa_ok i (f i)
def fa_MB (f : Nat → Int32) : Prop := ∀ i, i < 1812 → fa_ok (i % 453) (f i)
theorem fa_ok.o {i : Nat} {x : Int32} (h1 : ¬ i = 14) (h2 : ¬ i = 15) (h3 : ¬ i = 16) (h4 : ∀ p, p < 24 → ¬ i = 17 + 15 * p + 1) : fa_ok i x :=
  ⟨fun e => absurd e h1, fun e => absurd e h2, fun e => absurd e h3, fun p hp e => absurd e (h4 p hp)⟩
theorem fa_ok.n14 {m : Nat} (h : m ≤ 24) : fa_ok 14 (nI m) := ⟨fun _ => ⟨m, h, rfl⟩, fun e => absurd e (by decide), fun e => absurd e (by decide), fun p hp e => by omega⟩
theorem fa_ok.n15 {m : Nat} (h : m ≤ 8) : fa_ok 15 (nI m) := ⟨fun e => absurd e (by decide), fun _ => ⟨m, h, rfl⟩, fun e => absurd e (by decide), fun p hp e => by omega⟩
theorem fa_ok.n16 {m : Nat} (h : m ≤ 12) : fa_ok 16 (nI m) := ⟨fun e => absurd e (by decide), fun e => absurd e (by decide), fun _ => ⟨m, h, rfl⟩, fun p hp e => by omega⟩
theorem fa_ok.k {i m : Nat} (hi : 17 ≤ i) (h : m ≤ 4) : fa_ok i (nI m) := ⟨fun e => by omega, fun e => by omega, fun e => by omega, fun _ _ _ => ⟨m, h, rfl⟩⟩
theorem fa_ok.cp {l p k : Nat} {x : Int32} (hl : l < 24) (hp : p < 24) (hk : k < 15) (h : fa_ok (17 + 15 * p + k) x) : fa_ok (17 + 15 * l + k) x :=
  ⟨fun e => by omega, fun e => by omega, fun e => by omega, fun q hq e => h.2.2.2 p hp (by omega)⟩
theorem fa_MS.u {v : fa_V} {i : Nat} {x : Int32} {row : Nat} (h : fa_MS (v row)) (hx : fa_ok i x) : fa_MS (fa_u v row i x row) := fun j hj => by
  by_cases z : j = i
  · rw [z, fa_u_s]; exact hx
  · rw [fa_u_n _ _ (fun y => z y.2)]; exact h j hj
theorem fa_MB.u {v : fa_V} {i : Nat} {x : Int32} {row : Nat} (h : fa_MB (v row)) (hx : fa_ok (i % 453) x) : fa_MB (fa_u v row i x row) := fun j hj => by
  by_cases z : j = i
  · rw [z, fa_u_s]; exact hx
  · rw [fa_u_n _ _ (fun y => z y.2)]; exact h j hj
theorem fa_MS.n {f : Nat → Int32} (h : fa_MS f) : ∃ n, n = fa_N (f 14) := ⟨_, rfl⟩
theorem fa_MS.n4 {f : Nat → Int32} {n0 : Nat} (h : fa_MS f) (e : n0 = fa_N (f 14)) : n0 ≤ 24 ∧ f 14 = nI n0 := by
  obtain ⟨n, hn, h1⟩ := (h 14 (by decide)).1 rfl
  rw [h1, fa_N_nI (by omega)] at e
  exact ⟨by omega, by rw [e]; exact h1⟩
theorem fa_MS.n5 {f : Nat → Int32} {n0 : Nat} (h : fa_MS f) (e : n0 = fa_N (f 15)) : n0 ≤ 8 ∧ f 15 = nI n0 := by
  obtain ⟨n, hn, h1⟩ := (h 15 (by decide)).2.1 rfl
  rw [h1, fa_N_nI (by omega)] at e
  exact ⟨by omega, by rw [e]; exact h1⟩
theorem fa_MS.n6 {f : Nat → Int32} {n0 : Nat} (h : fa_MS f) (e : n0 = fa_N (f 16)) : n0 ≤ 12 ∧ f 16 = nI n0 := by
  obtain ⟨n, hn, h1⟩ := (h 16 (by decide)).2.2.1 rfl
  rw [h1, fa_N_nI (by omega)] at e
  exact ⟨by omega, by rw [e]; exact h1⟩
theorem fa_MS.kd {f : Nat → Int32} {p : Nat} (h : fa_MS f) (hp : p < 24) : ∃ k, k ≤ 4 ∧ f (17 + 15 * p + 1) = nI k := (h (17 + 15 * p + 1) (by omega)).2.2.2 p hp rfl
def fa_MJ (v : fa_V) : Prop := fa_MS (v 398) ∧ fa_MS (v 399) ∧ fa_MS (v 400) ∧ fa_MB (v 401) ∧ (∃ n, n ≤ 4 ∧ v 397 10 = nI n) ∧ ∃ n, n ≤ 60 ∧ v 397 9 = nI n
/-- a place, or none -/
def fa_pl (n : Nat) (x : Int32) : Prop := x = (-1 : Int32) ∨ ∃ p, p < n ∧ x = nI p
theorem fa_pl.ne {n : Nat} {x : Int32} (h : fa_pl n x) (c : ¬ x = (-1 : Int32)) : ∃ p, p < n ∧ x = nI p := h.elim (fun z => absurd z c) id
def fa_bo (x : Int32) : Prop := x = nI 0 ∨ x = nI 1
theorem fa_bo.nar {x : Int32} (h : fa_bo x) : narrow .boolean (.int x) = .int x := by rcases h with z | z <;> rw [z] <;> decide
theorem fa_pred {k : Nat} (hk : k < 2 ^ 31) (c : ¬ (nI k - nI 1 : Int32) < 0) : ∃ j, k = j + 1 ∧ (nI k - nI 1 : Int32) = nI j := by
  cases k with
  | zero => exact absurd (by decide) c
  | succ j => exact ⟨j, rfl, by rw [pk_sub (by omega)]; rfl⟩
theorem fa_predS (j : Nat) : nI j + (-1 : Int32) = nI j - nI 1 := by
  rw [Int32.sub_eq_add_neg]
  rfl
/-- how many do not stay -/
def fa_cnt (f : Nat → Int32) : Nat → Nat
  | 0 => 0
  | n + 1 => fa_cnt f n + (if f n = 0 then 1 else 0)
theorem fa_cnt_le {f g : Nat → Int32} : ∀ n, (∀ k, k < n → g k = 0 → f k = 0) → fa_cnt g n ≤ fa_cnt f n
  | 0, _ => Nat.le_refl _
  | n + 1, h => by
    have h1 := fa_cnt_le n (fun k hk => h k (by omega))
    show fa_cnt g n + (if g n = 0 then 1 else 0) ≤ fa_cnt f n + (if f n = 0 then 1 else 0)
    by_cases z : g n = 0
    · rw [if_pos z, if_pos (h n (by omega) z)]; omega
    · rw [if_neg z]; omega
theorem fa_cnt_lt {f g : Nat → Int32} {p : Nat} : ∀ n, p < n → f p = 0 → ¬ g p = 0 → (∀ k, k < n → g k = 0 → f k = 0) → fa_cnt g n < fa_cnt f n
  | 0, hp, _, _, _ => absurd hp (Nat.not_lt_zero _)
  | n + 1, hp, hf, hg, h => by
    show fa_cnt g n + (if g n = 0 then 1 else 0) < fa_cnt f n + (if f n = 0 then 1 else 0)
    by_cases e : p = n
    · rw [e] at hf hg
      rw [if_pos hf, if_neg hg]
      have := fa_cnt_le n (fun k hk => h k (by omega)) (f := f) (g := g)
      omega
    · have h1 := fa_cnt_lt n (by omega) hf hg (fun k hk => h k (by omega))
      by_cases z : g n = 0
      · rw [if_pos z, if_pos (h n (by omega) z)]; omega
      · rw [if_neg z]; omega
theorem fa_cnt_u {v : fa_V} {p row : Nat} {x : Int32} (hp : p < 24) (hf : v row p = 0) (hx : ¬ x = 0) : fa_cnt (fa_u v row p x row) 24 < fa_cnt (v row) 24 :=
  fa_cnt_lt (p := p) 24 hp hf (by rw [fa_u_s]; exact hx) (fun k _ h => by
    by_cases z : k = p
    · rw [z, fa_u_s] at h; exact absurd h hx
    · rw [fa_u_n _ _ (fun y => z y.2)] at h; exact h)
theorem fa_MS.cp {f g : Nat → Int32} (h : fa_MS f) (e : ∀ i, i < 453 → g i = f i) : fa_MS g := fun i hi => by
  rw [e i hi]
  exact h i hi
theorem fa_nIinj {a b : Nat} (ha : a < 2 ^ 31) (hb : b < 2 ^ 31) (h : nI a = nI b) : a = b := by
  have := congrArg fa_N h
  rw [fa_N_nI ha, fa_N_nI hb] at this
  exact this
theorem fa_more {a b fu : Nat} {mo mi : Int32} (hk : 2 * a + (if mo = 0 then 0 else 1) < fu + 1) (c : ¬ mo = 0) (h : (mi = nI 0 ∧ b ≤ a) ∨ (mi = nI 1 ∧ b < a)) : 2 * b + (if mi = 0 then 0 else 1) < fu := by
  rw [if_neg c] at hk
  rcases h with z | z
  · rw [z.1, if_pos (by decide)]; omega
  · rw [z.1, if_neg (by decide)]; omega
theorem fa_more2 {a b c : Nat} {A B : Prop} (h : (A ∧ b ≤ a) ∨ (B ∧ b < a)) (hl : c < b) : c < a := by
  rcases h with z | z <;> omega
/-- only the row of the state and that of what stays differ -/
def fa_f2 (v v1 : fa_V) : Prop := ∀ k, ¬ k = 398 → ¬ k = 402 → v1 k = v k
theorem fa_f2.rf {v : fa_V} : fa_f2 v v := fun _ _ _ => rfl
theorem fa_f2.u {v v1 : fa_V} {k i : Nat} {x : Int32} (h : fa_f2 v v1) (hk : k = 398 ∨ k = 402) : fa_f2 v (fa_u v1 k i x) := fun j h1 h2 => by
  rw [fa_u_k _ _ (by omega)]
  exact h j h1 h2
theorem fa_f2.tr {v v1 v2 : fa_V} (h : fa_f2 v v1) (h2 : fa_f2 v1 v2) : fa_f2 v v2 := fun k a b => (h2 k a b).trans (h k a b)
theorem fa_f2.of398 {v v1 : fa_V} (h : fa_fr 398 399 v v1) : fa_f2 v v1 := fun k a b => h k (by omega)
theorem fa_f2.of402 {v v1 : fa_V} (h : fa_fr 402 403 v v1) : fa_f2 v v1 := fun k a b => h k (by omega)
theorem fa_f2.fr {v v1 : fa_V} (h : fa_f2 v v1) : fa_fr 398 403 v v1 := fun k hk => h k (by omega) (by omega)
theorem fa_ok.z {i : Nat} {x : Int32} (hi : 17 ≤ i) (hx : x = nI 0) : fa_ok i x := by rw [hx]; exact fa_ok.k hi (by decide)
theorem fa_inN {a : Int32} {N : Nat} (hN : N + 1 < 2 ^ 31) (h : ¬ (a < nI 0 ∨ nI N < a)) : ∃ k : Nat, k ≤ N ∧ a = nI k :=
  fa_natLe hN (fun z => h (Or.inl z)) (fun z => h (Or.inr z))
theorem fa_okm {f : Nat → Int32} {k : Nat} (h : fa_MB f) (hk : k < 1359) : fa_ok (k % 453) (f (453 + k)) := by
  have z := h (453 + k) (by omega)
  rw [Nat.add_mod_left] at z
  exact z
theorem fa_okb {m k : Nat} {x : Int32} (hk : k < 453) (h : fa_ok k x) : fa_ok ((453 * m + k) % 453) x := by
  rw [Nat.mul_add_mod, Nat.mod_eq_of_lt hk]
  exact h
theorem fa_okx {f : Nat → Int32} {m k : Nat} (h : fa_MB f) (hm : m < 4) (hk : k < 453) : fa_ok k (f (453 * m + k)) := by
  have z := h (453 * m + k) (by omega)
  rw [Nat.mul_add_mod, Nat.mod_eq_of_lt hk] at z
  exact z
/-- only where the reader stands, how many orders it read, and what it read, differ -/
def fa_f3 (v v1 : fa_V) : Prop := (∀ k, ¬ k = 397 → ¬ k = 403 → v1 k = v k) ∧ ∀ i, ¬ i = 11 → ¬ i = 12 → v1 397 i = v 397 i
theorem fa_f3.rf {v : fa_V} : fa_f3 v v := ⟨fun _ _ _ => rfl, fun _ _ _ => rfl⟩
theorem fa_f3.u {v v1 : fa_V} {i : Nat} {x : Int32} (h : fa_f3 v v1) : fa_f3 v (fa_u v1 403 i x) := ⟨fun j h1 h2 => by
  rw [fa_u_k _ _ h2]
  exact h.1 j h1 h2, fun j h1 h2 => by
  rw [fa_u_k _ _ (by decide)]
  exact h.2 j h1 h2⟩
theorem fa_f3.w {v v1 : fa_V} {i : Nat} {x : Int32} (h : fa_f3 v v1) (hi : i = 11 ∨ i = 12) : fa_f3 v (fa_u v1 397 i x) := ⟨fun j h1 h2 => by
  rw [fa_u_k _ _ h1]
  exact h.1 j h1 h2, fun j h1 h2 => by
  rw [fa_u_n _ _ (by omega)]
  exact h.2 j h1 h2⟩
theorem fa_f3.tr {v v1 v2 : fa_V} (h : fa_f3 v v1) (h2 : fa_f3 v1 v2) : fa_f3 v v2 := ⟨fun k a b => (h2.1 k a b).trans (h.1 k a b), fun i a b => (h2.2 i a b).trans (h.2 i a b)⟩
theorem fa_f3.fr {v v1 : fa_V} (h : fa_f3 v v1) : fa_fr 397 404 v v1 := fun k hk => h.1 k (by omega) (by omega)
theorem fa_bo.z {x : Int32} (h : fa_bo x) (c : ¬ x = 0) : x = nI 1 := h.elim (fun z => absurd z c) id
/-- a sign behind the reference's text -/
def fa_put7 (v : fa_V) (x : Int32) : fa_V := fa_u (fa_u v 405 (fa_N (v 397 9)) (vp_nar .char x)) 397 9 (nI (fa_N (v 397 9) + 1))
theorem fa_put7_eq {v : fa_V} {x : Int32} {m : Nat} (h : v 397 9 = nI m) (hm : m < 2 ^ 31) : fa_put7 v x = fa_u (fa_u v 405 m (vp_nar .char x)) 397 9 (nI (m + 1)) := by
  unfold fa_put7
  rw [h, fa_N_nI hm]
theorem fa_inr1 {x a l h : Int32} (e : x = if a < l ∨ h < a then nI 0 else nI 1) (c : ¬ x = 0) : l ≤ a ∧ a ≤ h := by
  have z := fa_in1 e c
  exact ⟨Int32.not_lt.mp (fun y => z (Or.inl y)), Int32.not_lt.mp (fun y => z (Or.inr y))⟩
theorem fa_inr0 {x a l h : Int32} (e : x = if a < l ∨ h < a then nI 0 else nI 1) (c : x = 0) : ¬ (l ≤ a ∧ a ≤ h) := fun z => by
  rcases fa_in0 e c with y | y
  · exact Int32.not_lt.mpr z.1 y
  · exact Int32.not_lt.mpr z.2 y
/-! THE REFERENCE'S ROW AS AN ARCHIVE -/
/-- the row of reservations is L -/
def fb_mL (f : Nat → Int32) (L : List (Int32 × Int32)) : Prop := f 15 = nI L.length ∧ L.length ≤ 8 ∧ ∀ p y, L[p]? = some y → f (377 + 2 * p) = y.1 ∧ f (377 + 2 * p + 1) = y.2
def fb_mA (f : Nat → Int32) (A : fb_At) : Prop := (∀ k, k < 14 → f k = A.g k) ∧ (A.n ≤ 24 ∧ f 14 = nI A.n ∧ ∀ p i, p < A.n → i < 15 → f (17 + 15 * p + i) = A.F p i) ∧ (∃ L, fb_mL f L ∧ L.Perm A.q) ∧ (A.m ≤ 12 ∧ f 16 = nI A.m ∧ ∀ p i, p < A.m → i < 5 → f (393 + 5 * p + i) = A.T p i)
theorem fb_mA.g {f : Nat → Int32} {A : fb_At} (h : fb_mA f A) {k : Nat} (hk : k < 14) : f k = A.g k := h.1 k hk
theorem fb_mA.n4 {f : Nat → Int32} {A : fb_At} (h : fb_mA f A) : f 14 = nI A.n := h.2.1.2.1
theorem fb_mA.n {f : Nat → Int32} {A : fb_At} (h : fb_mA f A) : fa_N (f 14) = A.n := by
  rw [h.n4, fa_N_nI (by have := h.2.1.1; omega)]
theorem fb_mA.F {f : Nat → Int32} {A : fb_At} (h : fb_mA f A) {p i : Nat} (hp : p < A.n) (hi : i < 15) : f (17 + 15 * p + i) = A.F p i := h.2.1.2.2 p i hp hi
theorem fb_mA.F0 {f : Nat → Int32} {A : fb_At} (h : fb_mA f A) {p : Nat} (hp : p < A.n) : f (17 + 15 * p) = A.F p 0 := h.F hp (i := 0) (by decide)
theorem fb_mA.m6 {f : Nat → Int32} {A : fb_At} (h : fb_mA f A) : f 16 = nI A.m := h.2.2.2.2.1
theorem fb_mA.n5 {f : Nat → Int32} {A : fb_At} (h : fb_mA f A) : f 15 = nI A.q.length := by
  obtain ⟨L, hL, hp⟩ := h.2.2.1
  rw [hL.1, hp.length_eq]
theorem fb_mA.q8 {f : Nat → Int32} {A : fb_At} (h : fb_mA f A) : A.q.length ≤ 8 := by
  obtain ⟨L, hL, hp⟩ := h.2.2.1
  rw [← hp.length_eq]
  exact hL.2.1
theorem fb_mL.congr {f f1 : Nat → Int32} {L : List (Int32 × Int32)} (h : fb_mL f L) (e : ∀ i, i = 15 ∨ (377 ≤ i ∧ i < 393) → f1 i = f i) : fb_mL f1 L :=
  ⟨by rw [e 15 (Or.inl rfl)]; exact h.1, h.2.1, fun p y z => by
    have hl : p < L.length := (List.getElem?_eq_some_iff.mp z).1
    have h8 := h.2.1
    rw [e (377 + 2 * p) (Or.inr (by omega)), e (377 + 2 * p + 1) (Or.inr (by omega))]
    exact h.2.2 p y z⟩
theorem fb_mA.congr {f f1 : Nat → Int32} {A : fb_At} (h : fb_mA f A) (e : ∀ i, i < 453 → f1 i = f i) : fb_mA f1 A := by
  obtain ⟨h1, ⟨h2, h3, h4⟩, ⟨L, h5, h6⟩, h7, h8, h9⟩ := h
  exact ⟨fun k hk => by rw [e k (by omega)]; exact h1 k hk, ⟨h2, by rw [e 14 (by decide)]; exact h3, fun p i hp hi => by rw [e _ (by omega)]; exact h4 p i hp hi⟩, ⟨L, h5.congr (fun i hi => e i (by omega)), h6⟩, h7, by rw [e 16 (by decide)]; exact h8, fun p i hp hi => by rw [e _ (by omega)]; exact h9 p i hp hi⟩
/-- a number is written; a field of a file is written -/
theorem fb_mA.ug {v : fa_V} {row k : Nat} {A : fb_At} {x : Int32} (h : fb_mA (v row) A) (hk : k < 14) : fb_mA (fa_u v row k x row) (A.sg k x) := by
  obtain ⟨h1, ⟨h2, h3, h4⟩, ⟨L, h5, h6⟩, h7, h8, h9⟩ := h
  refine ⟨fun j hj => ?_, ⟨h2, ?_, fun p i hp hi => ?_⟩, ⟨L, h5.congr (fun i hi => fa_u_n _ _ (by omega)), h6⟩, h7, ?_, fun p i hp hi => ?_⟩
  · show _ = fb_s1 A.g k x j
    by_cases z : j = k
    · rw [z, fa_u_s, fb_s1_s]
    · rw [fa_u_n _ _ (fun y => z y.2), fb_s1_n z]; exact h1 j hj
  · rw [fa_u_n _ _ (by omega)]; exact h3
  · rw [fa_u_n _ _ (by omega)]; exact h4 p i hp hi
  · rw [fa_u_n _ _ (by omega)]; exact h8
  · rw [fa_u_n _ _ (by omega)]; exact h9 p i hp hi
theorem fb_mA.uF {v : fa_V} {row p i : Nat} {A : fb_At} {x : Int32} (h : fb_mA (v row) A) (hp : p < A.n) (hi : i < 15) : fb_mA (fa_u v row (17 + 15 * p + i) x row) (A.sF p i x) := by
  obtain ⟨h1, ⟨h2, h3, h4⟩, ⟨L, h5, h6⟩, h7, h8, h9⟩ := h
  have h2' : A.n ≤ 24 := h2
  refine ⟨fun j hj => ?_, ⟨h2, ?_, fun q c hq hc => ?_⟩, ⟨L, h5.congr (fun i hi => fa_u_n _ _ (by omega)), h6⟩, h7, ?_, fun q c hq hc => ?_⟩
  · rw [fa_u_n _ _ (by omega)]; exact h1 j hj
  · rw [fa_u_n _ _ (by omega)]; exact h3
  · show _ = fa_u A.F p i x q c
    have hq' : q < A.n := hq
    by_cases z : q = p ∧ c = i
    · rw [z.1, z.2, fa_u_s, fa_u_s]
    · rw [fa_u_n _ _ (by omega), fa_u_n _ _ z]; exact h4 q c hq hc
  · rw [fa_u_n _ _ (by omega)]; exact h8
  · rw [fa_u_n _ _ (by omega)]; exact h9 q c hq hc
/-- the last place of a number, or -1 -/
def fb_las (f : Nat → Int32) (a : Int32) : Nat → Int32
  | 0 => (-1 : Int32)
  | j + 1 => if f j = a then nI j else fb_las f a j
theorem fb_las_t {f : Nat → Int32} {a : Int32} {j : Nat} (c : f j = a) : nI j = fb_las f a (j + 1) := (if_pos c).symm
theorem fb_las_f {f : Nat → Int32} {a : Int32} {j : Nat} (c : ¬ f j = a) : fb_las f a j = fb_las f a (j + 1) := (if_neg c).symm
theorem fb_las_elim {f : Nat → Int32} {a : Int32} : ∀ n, (fb_las f a n = (-1 : Int32) ∧ ∀ k, k < n → ¬ f k = a) ∨ ∃ p, p < n ∧ fb_las f a n = nI p ∧ f p = a
  | 0 => Or.inl ⟨rfl, fun k hk => absurd hk (Nat.not_lt_zero _)⟩
  | n + 1 => by
    by_cases z : f n = a
    · exact Or.inr ⟨n, by omega, if_pos z, z⟩
    · rcases fb_las_elim n (f := f) (a := a) with ⟨h1, h2⟩ | ⟨p, h1, h2, h3⟩
      · exact Or.inl ⟨(if_neg z).trans h1, fun k hk => by
          by_cases y : k = n
          · rw [y]; exact z
          · exact h2 k (by omega)⟩
      · exact Or.inr ⟨p, by omega, (if_neg z).trans h2, h3⟩
def fb_plm (f : Nat → Int32) (a : Int32) : Int32 := if a < 0 then (-1 : Int32) else fb_las (fun p => f (17 + 15 * p)) a (fa_N (f 14))
/-- a file's place -/
theorem fb_mA.pl {f : Nat → Int32} {A : fb_At} (h : fb_mA f A) (hok : fb_okA A) (a : Int32) : (fb_plm f a = (-1 : Int32) ∧ fb_ix A.F a A.n = none) ∨ ∃ p, p < A.n ∧ fb_plm f a = nI p ∧ fb_ix A.F a A.n = some p ∧ A.F p 0 = a := by
  obtain ⟨⟨-, -, -, hinc, hnum, -⟩, -⟩ := hok
  unfold fb_plm
  rw [h.n]
  by_cases z : a < 0
  · rw [if_pos z]
    exact Or.inl ⟨rfl, fb_ix_none (fun k hk e => Int32.not_lt.mpr (hnum k hk).1 (by rw [e]; exact z))⟩
  · rw [if_neg z]
    rcases fb_las_elim A.n (f := fun p => f (17 + 15 * p)) (a := a) with ⟨h1, h2⟩ | ⟨p, h1, h2, h3⟩
    · exact Or.inl ⟨h1, fb_ix_none (fun k hk => by rw [← h.F0 hk]; exact h2 k hk)⟩
    · have e : A.F p 0 = a := by rw [← h.F0 h1]; exact h3
      refine Or.inr ⟨p, h1, h2, fb_ix_some h1 e (fun k hk y => ?_), e⟩
      have := hinc k p hk h1
      rw [y, e] at this
      exact Int32.lt_irrefl this
theorem fb_nI_ne1 {p : Nat} (hp : p < 2 ^ 31) : ¬ nI p = (-1 : Int32) := fun z => by
  have h0 : ¬ nI p < 0 := nI_pos hp
  rw [z] at h0
  exact h0 (by decide)
def fb_dum (f : Nat → Int32) (p : Nat) : Int32 := f (fa_N (f (17 + 15 * p + 1))) * (if f (17 + 15 * p + 5) < f 5 then nI 1 else nI 2) + (if f (17 + 15 * p + 4) < 0 then f (17 + 15 * p + 3) else f (17 + 15 * p + 4))
theorem fb_mA.due {f : Nat → Int32} {A : fb_At} (h : fb_mA f A) (hok : fb_okA A) {p : Nat} (hp : p < A.n) : fb_dum f p = fb_dueA A p := by
  obtain ⟨k, hk, ek⟩ := (hok.1.2.2.2.2.2 p hp).1
  unfold fb_dum fb_dueA
  rw [h.F hp (i := 1) (by decide), h.F hp (i := 5) (by decide), h.F hp (i := 4) (by decide), h.F hp (i := 3) (by decide), h.g (k := 5) (by decide), ek, fa_N_nI (by omega), h.g (k := k) (by omega)]
  by_cases z : A.F p 5 < A.g 5
  · rw [if_pos z, if_pos z, Int32.add_comm, show nI 1 = (1 : Int32) from rfl, Int32.mul_one]
  · rw [if_neg z, if_neg z, Int32.add_comm, Int32.mul_comm (A.g k)]
def fb_msm (f : Nat → Int32) (p : Nat) : Int32 := fa_mask (fun h => decide (f 7 < f (17 + 15 * p + 7 + h))) 8
theorem fb_mask_cg7 {c d : Nat → Bool} : ∀ n, (∀ k, k < n → c k = d k) → fa_mask c n = fa_mask d n
  | 0, _ => rfl
  | n + 1, h => by
    rw [fa_mask, fa_mask, fb_mask_cg7 n (fun k hk => h k (by omega)), h n (by omega)]
theorem fb_mA.msk {f : Nat → Int32} {A : fb_At} (h : fb_mA f A) {p : Nat} (hp : p < A.n) : fb_msm f p = fb_maskA A p :=
  fb_mask_cg7 8 (fun k hk => by rw [h.g (k := 7) (by decide), show 17 + 15 * p + 7 + k = 17 + 15 * p + (7 + k) by omega, h.F hp (by omega)])
theorem fb_mask_or0 {c : Nat → Bool} {j : Nat} (h : ¬ c j = true) : fa_mask c j ||| nI 0 = fa_mask c (j + 1) := by
  rw [← fa_mask_f h, show nI 0 = (0 : Int32) from rfl, Int32.or_zero]
def fb_rsm (f : Nat → Int32) (a : Int32) : Int32 := fa_sum (fun k => if f (377 + 2 * k) = a then 1 else 0) (fa_N (f 15))
theorem fb_mL.at {f : Nat → Int32} {L : List (Int32 × Int32)} (h : fb_mL f L) {k : Nat} (hk : k < L.length) : L[k] = (f (377 + 2 * k), f (377 + 2 * k + 1)) := by
  have z := h.2.2 k L[k] (List.getElem?_eq_getElem hk)
  rw [z.1, z.2]
theorem fb_mA.nres {f : Nat → Int32} {A : fb_At} (h : fb_mA f A) (a : Int32) : fb_rsm f a = fb_nres A a := by
  obtain ⟨L, hL, hP⟩ := h.2.2.1
  have h8 := hL.2.1
  unfold fb_rsm fb_nres
  rw [hL.1, fa_N_nI (by omega), fb_sumP (L := L) (P := fun y => decide (y.1 = a)) (fun k hk => ?_) L.length (Nat.le_refl _), List.take_length, hP.countP_eq]
  have e1 : L[k].1 = f (377 + 2 * k) := by rw [hL.at hk]
  rw [← e1]
  by_cases z : L[k].1 = a
  · rw [if_pos z, if_pos (decide_eq_true z)]
  · rw [if_neg z, if_neg (by rw [decide_eq_false z]; decide)]
def fb_pgm (f : Nat → Int32) : Int32 := fa_sum (fun p => f (17 + 15 * p + 2)) (fa_N (f 14))
def fb_rfm (f : Nat → Int32) (a : Int32) : Int32 := fa_sum (fun p => if f (17 + 15 * p + 6) = a then 1 else 0) (fa_N (f 14))
theorem fb_mA.pgs {f : Nat → Int32} {A : fb_At} (h : fb_mA f A) : fb_pgm f = fb_pgs A := by
  unfold fb_pgm fb_pgs
  rw [h.n]
  exact fa_sum_congr _ (fun k hk => h.F hk (i := 2) (by decide))
theorem fb_mA.refs {f : Nat → Int32} {A : fb_At} (h : fb_mA f A) (a : Int32) : fb_rfm f a = fb_refs A a := by
  unfold fb_rfm fb_refs
  rw [h.n]
  exact fa_sum_congr _ (fun k hk => by rw [h.F hk (i := 6) (by decide)])
def fb_owm (f : Nat → Int32) (p : Nat) : Int32 := if fb_dum f p ≤ f 7 then (if fb_msm f p ≤ 0 then (if fb_rsm f (f (17 + 15 * p)) ≤ 0 then 0 else nI 3) else nI 2) else nI 1
theorem fb_mask0 (c : Nat → Bool) : fa_mask c 8 ≤ 0 ↔ fa_mask c 8 = 0 := by
  have h : ∀ b0 b1 b2 b3 b4 b5 b6 b7 : Bool, fa_mask (fun k => if k = 0 then b0 else if k = 1 then b1 else if k = 2 then b2 else if k = 3 then b3 else if k = 4 then b4 else if k = 5 then b5 else if k = 6 then b6 else b7) 8 ≤ 0 ↔ fa_mask (fun k => if k = 0 then b0 else if k = 1 then b1 else if k = 2 then b2 else if k = 3 then b3 else if k = 4 then b4 else if k = 5 then b5 else if k = 6 then b6 else b7) 8 = 0 := by decide +kernel
  have e : fa_mask c 8 = fa_mask (fun k => if k = 0 then c 0 else if k = 1 then c 1 else if k = 2 then c 2 else if k = 3 then c 3 else if k = 4 then c 4 else if k = 5 then c 5 else if k = 6 then c 6 else c 7) 8 := rfl
  rw [e]
  exact h _ _ _ _ _ _ _ _
theorem fb_mA.own {f : Nat → Int32} {A : fb_At} (h : fb_mA f A) (hok : fb_okA A) {p : Nat} (hp : p < A.n) : fb_owm f p = fb_ownA A p := by
  unfold fb_owm fb_ownA
  rw [h.due hok hp, h.g (k := 7) (by decide), h.F0 hp, h.nres, h.msk hp]
  by_cases z : fb_maskA A p = 0
  · rw [if_pos z, if_pos (show fb_maskA A p ≤ 0 from (fb_mask0 _).mpr z)]
  · rw [if_neg z, if_neg (show ¬ fb_maskA A p ≤ 0 from fun y => z ((fb_mask0 _).mp y))]
set_option maxHeartbeats 4000000 in
set_option maxRecDepth 100000 in
theorem r_in (l : Launch) (G : fa_G) (n : Nat) (v : fa_V) (r : fa_R) (a1 a2 a3 : Int32) : fa_MI l G n yX7_in cX7_in 3 (some .boolean) 1 [.int (a1), .int (a2), .int (a3)] v r (fun x w => w = (v, r) ∧ (x = if a1 < a2 ∨ a3 < a1 then nI 0 else nI 1)) := by
  refine fa_startZ (by decide +kernel) (Nat.le_of_ble_eq_true rfl) (fun p e s m args below meth c ls Q CX hl HX RET => ?_)
  have hl : lv_has ls 3 [(0, .int (a1)), (1, .int (a2)), (2, .int (a3))] := hl
  have hx := CX.1.1
  have hb := CX.1.2.1
  refine lv_iload_n hx hb dX7_in_0 rfl (lv_at hl 0 rfl) ?_
  refine lv_iload_n hx hb dX7_in_1 rfl (lv_at hl 1 rfl) ?_
  refine lv_icmp_lt (tgt := 14) hx hb dX7_in_2 (by decide) (fun c_2 => ?_) (fun c_2 => ?_)
  · refine lv_iconst (v := nI (0)) hx hb dX7_in_14 (by decide) ?_
    exact RET _ _ _ _ _ _ _ HX dX7_in_15 (by decide) (⟨rfl, (by simp [c_2])⟩)
  · refine lv_iload_n hx hb dX7_in_5 rfl (lv_at hl 0 rfl) ?_
    refine lv_iload_n hx hb dX7_in_6 rfl (lv_at hl 2 rfl) ?_
    refine lv_icmp_gt (tgt := 14) hx hb dX7_in_7 (by decide) (fun c_7 => ?_) (fun c_7 => ?_)
    · refine lv_iconst (v := nI (0)) hx hb dX7_in_14 (by decide) ?_
      exact RET _ _ _ _ _ _ _ HX dX7_in_15 (by decide) (⟨rfl, (by simp [c_2, c_7])⟩)
    · refine lv_iconst (v := nI (1)) hx hb dX7_in_10 (by decide) ?_
      refine lv_goto (tgt := 15) hx hb dX7_in_11 (by decide) ?_
      exact RET _ _ _ _ _ _ _ HX dX7_in_15 (by decide) (⟨rfl, (by simp [c_2, c_7])⟩)
set_option maxHeartbeats 4000000 in
set_option maxRecDepth 100000 in
theorem r_f (l : Launch) (G : fa_G) (n : Nat) (v : fa_V) (r : fa_R) (j : Nat) : fa_MI l G n yX7_f cX7_f 1 (some .int) 1 [.int (nI (j))] v r (fun x w => w = (v, r) ∧ (x = nI (17 + 15 * j))) := by
  refine fa_startI (by decide +kernel) (Nat.le_of_ble_eq_true rfl) (fun p e s m args below meth c ls Q CX hl HX RET => ?_)
  have hl : lv_has ls 1 [(0, .int (nI (j)))] := hl
  have hx := CX.1.1
  have hb := CX.1.2.1
  refine lv_bipush (v := nI (17)) hx hb dX7_f_0 (by decide) ?_
  refine lv_bipush (v := nI (15)) hx hb dX7_f_2 (by decide) ?_
  refine lv_iload_n hx hb dX7_f_4 rfl (lv_at hl 0 rfl) ?_
  refine fa_imulN hx hb dX7_f_5 ?_
  refine fa_iaddN hx hb dX7_f_6 ?_
  exact RET _ _ _ _ _ _ _ HX dX7_f_7 (⟨rfl, rfl⟩)
set_option maxHeartbeats 4000000 in
set_option maxRecDepth 100000 in
theorem r_fneg (l : Launch) (G : fa_G) (n : Nat) (v : fa_V) (r : fa_R) : fa_MI l G n yX7_f cX7_f 1 (some .int) 1 [.int ((-1 : Int32))] v r (fun x w => w = (v, r) ∧ (x = nI 2)) := by
  refine fa_startI (by decide +kernel) (Nat.le_of_ble_eq_true rfl) (fun p e s m args below meth c ls Q CX hl HX RET => ?_)
  have hl : lv_has ls 1 [(0, .int ((-1 : Int32)))] := hl
  have hx := CX.1.1
  have hb := CX.1.2.1
  refine lv_bipush (v := nI (17)) hx hb dX7_f_0 (by decide) ?_
  refine lv_bipush (v := nI (15)) hx hb dX7_f_2 (by decide) ?_
  refine lv_iload_n hx hb dX7_f_4 rfl (lv_at hl 0 rfl) ?_
  refine lv_imul hx hb dX7_f_5 ?_
  refine lv_iadd hx hb dX7_f_6 ?_
  exact RET _ _ _ _ _ _ _ HX dX7_f_7 (⟨rfl, rfl⟩)
set_option maxHeartbeats 4000000 in
set_option maxRecDepth 100000 in
theorem r_hold (l : Launch) (G : fa_G) (n : Nat) (hn : 406 ≤ n) (v : fa_V) (r : fa_R) (hM : fa_RM r) : fa_MV l G n yX7_hold cX7_hold 2 1 [.ref (fa_B G + (397))] v r (fa_vo r (fun v1 => (∀ i, i < 453 → v1 399 i = v 398 i) ∧ (fa_fr (399) (400) v v1))) := by
  refine fa_startV (by decide +kernel) (Nat.le_of_ble_eq_true rfl) (fun p e s m args below meth c ls Q CX hl HX RET => ?_)
  have hl : lv_has ls 2 [(0, .ref (fa_B G + (397)))] := hl
  have hx := CX.1.1
  have hb := CX.1.2.1
  refine lv_iconst (v := nI (0)) hx hb dX7_hold_0 (by decide) ?_
  refine lv_istore_n (lv' := [(1, .int (nI (0))), (0, .ref (fa_B G + (397)))]) hx hb dX7_hold_1 rfl hl (by decide) rfl (fun ls hl => ?_)
  have LOOP_2 : ∀ (fu : Nat) (k : Nat) (v1698 : fa_V) (H : Heap) (locs : List Loc) (ls : Array Slot), 453 - k < fu → (k ≤ 453 ∧ (∀ i, i < k → v1698 399 i = v 398 i) ∧ fa_fr 399 (399 + 1) v v1698) → lv_has ls 2 [(0, .ref (fa_B G + (397))), (1, .int (nI (k)))] → fa_HX G (n) v1698 r s H locs → W p l e (fa_rm 1) s m args below meth c H locs (0) (0) Q (F0 m 2 ls []) := by
    intro fu
    induction fu with
    | zero => intro k v1698 H locs ls hk; exact absurd hk (Nat.not_lt_zero _)
    | succ fu ih_2 =>
      intro k v1698 H locs ls hk_2 hi_2 hl HX1699
      refine lv_iload_n hx hb dX7_hold_2 rfl (lv_at hl 1 rfl) ?_
      refine lv_sipush (v := nI (453)) hx hb dX7_hold_3 (by decide) ?_
      refine lv_icmp_ge (tgt := 27) hx hb dX7_hold_6 (by decide) (fun c_6 => ?_) (fun c_6 => ?_)
      · have hk : k = 453 := by
          have := (nI_leI (by omega) (by omega)).mp c_6
          omega
        rw [hk] at hi_2
        exact RET _ _ _ _ _ _ HX1699 dX7_hold_27 (⟨rfl, ⟨hi_2.2.1, (fa_fr.tr fa_fr.rf (fa_fr.wide hi_2.2.2 (by omega) (by omega)))⟩⟩)
      · have hk := fa_ltN (by omega) (by omega) c_6
        refine lv_aload_n hx hb dX7_hold_9 rfl (lv_at hl 0 rfl) ?_
        refine fa_getr (k := 397) (j := 399) CX HX1699 fl_X7_13 (by omega) rfl rfl hM.2.1 dX7_hold_10 ?_
        refine lv_iload_n hx hb dX7_hold_13 rfl (lv_at hl 1 rfl) ?_
        refine lv_aload_n hx hb dX7_hold_14 rfl (lv_at hl 0 rfl) ?_
        refine fa_getr (k := 397) (j := 398) CX HX1699 fl_X7_7 (by omega) rfl rfl hM.1 dX7_hold_15 ?_
        refine lv_iload_n hx hb dX7_hold_18 rfl (lv_at hl 1 rfl) ?_
        refine fa_iald (k := 398) (j := k) CX HX1699 (by omega) rfl (by omega) (by first | decide | assumption) dX7_hold_19 ?_
        refine fa_iast (k := 399) (j := k) CX HX1699 (by omega) rfl (by omega) (by first | decide | assumption) dX7_hold_20 (fun H locs v1700 e1701 HX1702 => ?_)
        refine lv_iinc (v := nI (k + 1)) (lv' := [(1, .int (nI (k + 1))), (0, .ref (fa_B G + (397)))]) hx hb dX7_hold_21 hl (k := 1) rfl (nI_add (k) 1) (by decide) rfl (fun ls hl => ?_)
        refine lv_goto (tgt := 2) hx hb dX7_hold_24 (by decide) ?_
        exact ih_2 (k + 1) v1700 _ _ _ (by omega) (⟨by omega, fa_cpy1 hi_2.2.1 (by decide) hi_2.2.2 e1701, (by rw [e1701]; exact fa_fr.u (fa_fr.tr fa_fr.rf (fa_fr.wide hi_2.2.2 (by omega) (by omega))) (by omega))⟩) (lv_sub hl [1, 0] rfl) HX1702
  exact LOOP_2 (453 - 0 + 1) (0) v _ _ _ (Nat.lt_succ_self _) (⟨Nat.zero_le _, fun j hj => absurd hj (Nat.not_lt_zero _), fa_fr.rf⟩) (lv_sub hl [1, 0] rfl) HX
set_option maxHeartbeats 4000000 in
set_option maxRecDepth 100000 in
theorem r_keepTrial (l : Launch) (G : fa_G) (n : Nat) (hn : 406 ≤ n) (v : fa_V) (r : fa_R) (hM : fa_RM r) : fa_MV l G n yX7_keepTrial cX7_keepTrial 2 1 [.ref (fa_B G + (397))] v r (fa_vo r (fun v1 => (∀ i, i < 453 → v1 400 i = v 398 i) ∧ (fa_fr (400) (401) v v1))) := by
  refine fa_startV (by decide +kernel) (Nat.le_of_ble_eq_true rfl) (fun p e s m args below meth c ls Q CX hl HX RET => ?_)
  have hl : lv_has ls 2 [(0, .ref (fa_B G + (397)))] := hl
  have hx := CX.1.1
  have hb := CX.1.2.1
  refine lv_iconst (v := nI (0)) hx hb dX7_keepTrial_0 (by decide) ?_
  refine lv_istore_n (lv' := [(1, .int (nI (0))), (0, .ref (fa_B G + (397)))]) hx hb dX7_keepTrial_1 rfl hl (by decide) rfl (fun ls hl => ?_)
  have LOOP_2 : ∀ (fu : Nat) (k : Nat) (v1703 : fa_V) (H : Heap) (locs : List Loc) (ls : Array Slot), 453 - k < fu → (k ≤ 453 ∧ (∀ i, i < k → v1703 400 i = v 398 i) ∧ fa_fr 400 (400 + 1) v v1703) → lv_has ls 2 [(0, .ref (fa_B G + (397))), (1, .int (nI (k)))] → fa_HX G (n) v1703 r s H locs → W p l e (fa_rm 1) s m args below meth c H locs (0) (0) Q (F0 m 2 ls []) := by
    intro fu
    induction fu with
    | zero => intro k v1703 H locs ls hk; exact absurd hk (Nat.not_lt_zero _)
    | succ fu ih_2 =>
      intro k v1703 H locs ls hk_2 hi_2 hl HX1704
      refine lv_iload_n hx hb dX7_keepTrial_2 rfl (lv_at hl 1 rfl) ?_
      refine lv_sipush (v := nI (453)) hx hb dX7_keepTrial_3 (by decide) ?_
      refine lv_icmp_ge (tgt := 27) hx hb dX7_keepTrial_6 (by decide) (fun c_6 => ?_) (fun c_6 => ?_)
      · have hk : k = 453 := by
          have := (nI_leI (by omega) (by omega)).mp c_6
          omega
        rw [hk] at hi_2
        exact RET _ _ _ _ _ _ HX1704 dX7_keepTrial_27 (⟨rfl, ⟨hi_2.2.1, (fa_fr.tr fa_fr.rf (fa_fr.wide hi_2.2.2 (by omega) (by omega)))⟩⟩)
      · have hk := fa_ltN (by omega) (by omega) c_6
        refine lv_aload_n hx hb dX7_keepTrial_9 rfl (lv_at hl 0 rfl) ?_
        refine fa_getr (k := 397) (j := 400) CX HX1704 fl_X7_16 (by omega) rfl rfl hM.2.2.1 dX7_keepTrial_10 ?_
        refine lv_iload_n hx hb dX7_keepTrial_13 rfl (lv_at hl 1 rfl) ?_
        refine lv_aload_n hx hb dX7_keepTrial_14 rfl (lv_at hl 0 rfl) ?_
        refine fa_getr (k := 397) (j := 398) CX HX1704 fl_X7_7 (by omega) rfl rfl hM.1 dX7_keepTrial_15 ?_
        refine lv_iload_n hx hb dX7_keepTrial_18 rfl (lv_at hl 1 rfl) ?_
        refine fa_iald (k := 398) (j := k) CX HX1704 (by omega) rfl (by omega) (by first | decide | assumption) dX7_keepTrial_19 ?_
        refine fa_iast (k := 400) (j := k) CX HX1704 (by omega) rfl (by omega) (by first | decide | assumption) dX7_keepTrial_20 (fun H locs v1705 e1706 HX1707 => ?_)
        refine lv_iinc (v := nI (k + 1)) (lv' := [(1, .int (nI (k + 1))), (0, .ref (fa_B G + (397)))]) hx hb dX7_keepTrial_21 hl (k := 1) rfl (nI_add (k) 1) (by decide) rfl (fun ls hl => ?_)
        refine lv_goto (tgt := 2) hx hb dX7_keepTrial_24 (by decide) ?_
        exact ih_2 (k + 1) v1705 _ _ _ (by omega) (⟨by omega, fa_cpy1 hi_2.2.1 (by decide) hi_2.2.2 e1706, (by rw [e1706]; exact fa_fr.u (fa_fr.tr fa_fr.rf (fa_fr.wide hi_2.2.2 (by omega) (by omega))) (by omega))⟩) (lv_sub hl [1, 0] rfl) HX1707
  exact LOOP_2 (453 - 0 + 1) (0) v _ _ _ (Nat.lt_succ_self _) (⟨Nat.zero_le _, fun j hj => absurd hj (Nat.not_lt_zero _), fa_fr.rf⟩) (lv_sub hl [1, 0] rfl) HX
set_option maxHeartbeats 4000000 in
set_option maxRecDepth 100000 in
theorem r_putBack (l : Launch) (G : fa_G) (n : Nat) (hn : 406 ≤ n) (v : fa_V) (r : fa_R) (hM : fa_RM r) : fa_MV l G n yX7_putBack cX7_putBack 2 1 [.ref (fa_B G + (397))] v r (fa_vo r (fun v1 => (∀ i, i < 453 → v1 398 i = v 400 i) ∧ (fa_fr (398) (399) v v1))) := by
  refine fa_startV (by decide +kernel) (Nat.le_of_ble_eq_true rfl) (fun p e s m args below meth c ls Q CX hl HX RET => ?_)
  have hl : lv_has ls 2 [(0, .ref (fa_B G + (397)))] := hl
  have hx := CX.1.1
  have hb := CX.1.2.1
  refine lv_iconst (v := nI (0)) hx hb dX7_putBack_0 (by decide) ?_
  refine lv_istore_n (lv' := [(1, .int (nI (0))), (0, .ref (fa_B G + (397)))]) hx hb dX7_putBack_1 rfl hl (by decide) rfl (fun ls hl => ?_)
  have LOOP_2 : ∀ (fu : Nat) (k : Nat) (v1708 : fa_V) (H : Heap) (locs : List Loc) (ls : Array Slot), 453 - k < fu → (k ≤ 453 ∧ (∀ i, i < k → v1708 398 i = v 400 i) ∧ fa_fr 398 (398 + 1) v v1708) → lv_has ls 2 [(0, .ref (fa_B G + (397))), (1, .int (nI (k)))] → fa_HX G (n) v1708 r s H locs → W p l e (fa_rm 1) s m args below meth c H locs (0) (0) Q (F0 m 2 ls []) := by
    intro fu
    induction fu with
    | zero => intro k v1708 H locs ls hk; exact absurd hk (Nat.not_lt_zero _)
    | succ fu ih_2 =>
      intro k v1708 H locs ls hk_2 hi_2 hl HX1709
      refine lv_iload_n hx hb dX7_putBack_2 rfl (lv_at hl 1 rfl) ?_
      refine lv_sipush (v := nI (453)) hx hb dX7_putBack_3 (by decide) ?_
      refine lv_icmp_ge (tgt := 27) hx hb dX7_putBack_6 (by decide) (fun c_6 => ?_) (fun c_6 => ?_)
      · have hk : k = 453 := by
          have := (nI_leI (by omega) (by omega)).mp c_6
          omega
        rw [hk] at hi_2
        exact RET _ _ _ _ _ _ HX1709 dX7_putBack_27 (⟨rfl, ⟨hi_2.2.1, (fa_fr.tr fa_fr.rf (fa_fr.wide hi_2.2.2 (by omega) (by omega)))⟩⟩)
      · have hk := fa_ltN (by omega) (by omega) c_6
        refine lv_aload_n hx hb dX7_putBack_9 rfl (lv_at hl 0 rfl) ?_
        refine fa_getr (k := 397) (j := 398) CX HX1709 fl_X7_7 (by omega) rfl rfl hM.1 dX7_putBack_10 ?_
        refine lv_iload_n hx hb dX7_putBack_13 rfl (lv_at hl 1 rfl) ?_
        refine lv_aload_n hx hb dX7_putBack_14 rfl (lv_at hl 0 rfl) ?_
        refine fa_getr (k := 397) (j := 400) CX HX1709 fl_X7_16 (by omega) rfl rfl hM.2.2.1 dX7_putBack_15 ?_
        refine lv_iload_n hx hb dX7_putBack_18 rfl (lv_at hl 1 rfl) ?_
        refine fa_iald (k := 400) (j := k) CX HX1709 (by omega) rfl (by omega) (by first | decide | assumption) dX7_putBack_19 ?_
        refine fa_iast (k := 398) (j := k) CX HX1709 (by omega) rfl (by omega) (by first | decide | assumption) dX7_putBack_20 (fun H locs v1710 e1711 HX1712 => ?_)
        refine lv_iinc (v := nI (k + 1)) (lv' := [(1, .int (nI (k + 1))), (0, .ref (fa_B G + (397)))]) hx hb dX7_putBack_21 hl (k := 1) rfl (nI_add (k) 1) (by decide) rfl (fun ls hl => ?_)
        refine lv_goto (tgt := 2) hx hb dX7_putBack_24 (by decide) ?_
        exact ih_2 (k + 1) v1710 _ _ _ (by omega) (⟨by omega, fa_cpy1 hi_2.2.1 (by decide) hi_2.2.2 e1711, (by rw [e1711]; exact fa_fr.u (fa_fr.tr fa_fr.rf (fa_fr.wide hi_2.2.2 (by omega) (by omega))) (by omega))⟩) (lv_sub hl [1, 0] rfl) HX1712
  exact LOOP_2 (453 - 0 + 1) (0) v _ _ _ (Nat.lt_succ_self _) (⟨Nat.zero_le _, fun j hj => absurd hj (Nat.not_lt_zero _), fa_fr.rf⟩) (lv_sub hl [1, 0] rfl) HX
set_option maxHeartbeats 4000000 in
set_option maxRecDepth 100000 in
theorem r_placeOf (l : Launch) (G : fa_G) (n : Nat) (hn : 406 ≤ n) (v : fa_V) (r : fa_R) (hM : fa_RM r) (hS : fa_MS (v 398)) (a1 : Int32) : fa_MI l G n yX7_placeOf cX7_placeOf 4 (some .int) 2 [.ref (fa_B G + (397)), .int (a1)] v r (fun x w => w = (v, r) ∧ ((fa_pl 24 x) ∧ x = fb_plm (v 398) a1)) := by
  refine fa_startI (by decide +kernel) (Nat.le_of_ble_eq_true rfl) (fun p e s m args below meth c ls Q CX hl HX RET => ?_)
  have hl : lv_has ls 4 [(0, .ref (fa_B G + (397))), (1, .int (a1))] := hl
  have hx := CX.1.1
  have hb := CX.1.2.1
  obtain ⟨n4, en4⟩ : ∃ m, m = fa_N (v 398 14) := ⟨_, rfl⟩
  obtain ⟨hn4, g4⟩ := hS.n4 en4
  obtain ⟨n5, en5⟩ : ∃ m, m = fa_N (v 398 15) := ⟨_, rfl⟩
  obtain ⟨hn5, g5⟩ := hS.n5 en5
  obtain ⟨n6, en6⟩ : ∃ m, m = fa_N (v 398 16) := ⟨_, rfl⟩
  obtain ⟨hn6, g6⟩ := hS.n6 en6
  refine lv_iconst (v := (-1 : Int32)) hx hb dX7_placeOf_0 (by decide) ?_
  refine lv_istore_n (lv' := [(2, .int ((-1 : Int32))), (0, .ref (fa_B G + (397))), (1, .int (a1))]) hx hb dX7_placeOf_1 rfl hl (by decide) rfl (fun ls hl => ?_)
  refine lv_iconst (v := nI (0)) hx hb dX7_placeOf_2 (by decide) ?_
  refine lv_istore_n (lv' := [(3, .int (nI (0))), (2, .int ((-1 : Int32))), (0, .ref (fa_B G + (397))), (1, .int (a1))]) hx hb dX7_placeOf_3 rfl hl (by decide) rfl (fun ls hl => ?_)
  have LOOP_4 : ∀ (fu : Nat) (j : Nat) (fo : Int32) (H : Heap) (locs : List Loc) (ls : Array Slot), n4 - j < fu → (j ≤ n4 ∧ fa_pl 24 fo ∧ fo = fb_las (fun p => v 398 (17 + 15 * p)) a1 j) → lv_has ls 4 [(0, .ref (fa_B G + (397))), (1, .int (a1)), (2, .int (fo)), (3, .int (nI (j)))] → fa_HX G (n) v r s H locs → W p l e (fa_rm 2) s m args below meth c H locs (0) (0) Q (F0 m 4 ls []) := by
    intro fu
    induction fu with
    | zero => intro j fo H locs ls hk; exact absurd hk (Nat.not_lt_zero _)
    | succ fu ih_4 =>
      intro j fo H locs ls hk_4 hi_4 hl HX1713
      refine lv_iload_n hx hb dX7_placeOf_4 rfl (lv_at hl 3 rfl) ?_
      refine lv_aload_n hx hb dX7_placeOf_5 rfl (lv_at hl 0 rfl) ?_
      refine fa_getr (k := 397) (j := 398) CX HX1713 fl_X7_7 (by omega) rfl rfl hM.1 dX7_placeOf_6 ?_
      refine lv_bipush (v := nI (14)) hx hb dX7_placeOf_9 (by decide) ?_
      refine fa_iald (k := 398) (j := 14) CX HX1713 (by omega) rfl (by omega) (by first | decide | assumption) dX7_placeOf_11 ?_
      rw [show v 398 14 = nI (n4) from g4]
      refine lv_icmp_ge (tgt := 40) hx hb dX7_placeOf_12 (by decide) (fun c_12 => ?_) (fun c_12 => ?_)
      · have hjn : j = n4 := by
          have := fa_leN (by omega) (by omega) c_12
          omega
        refine lv_iload_n hx hb dX7_placeOf_40 rfl (lv_at hl 1 rfl) ?_
        refine lv_if_ge (tgt := 48) hx hb dX7_placeOf_41 (by decide) (fun c_41 => ?_) (fun c_41 => ?_)
        · refine lv_iload_n hx hb dX7_placeOf_48 rfl (lv_at hl 2 rfl) ?_
          exact RET _ _ _ _ _ _ _ HX1713 dX7_placeOf_49 (⟨rfl, ⟨hi_4.2.1, (by unfold fb_plm; rw [if_neg (by first | exact Int32.not_lt.mpr c_41 | exact c_41), ← en4, ← hjn]; exact hi_4.2.2)⟩⟩)
        · refine lv_iconst (v := (-1 : Int32)) hx hb dX7_placeOf_44 (by decide) ?_
          refine lv_goto (tgt := 49) hx hb dX7_placeOf_45 (by decide) ?_
          exact RET _ _ _ _ _ _ _ HX1713 dX7_placeOf_49 (⟨rfl, ⟨(Or.inl rfl), (by unfold fb_plm; rw [if_pos (Int32.not_le.mp (by first | exact c_41 | exact Int32.not_le.mpr c_41))])⟩⟩)
      · have hj := fa_ltN (by omega) (by omega) c_12
        refine lv_aload_n hx hb dX7_placeOf_15 rfl (lv_at hl 0 rfl) ?_
        refine fa_getr (k := 397) (j := 398) CX HX1713 fl_X7_7 (by omega) rfl rfl hM.1 dX7_placeOf_16 ?_
        refine lv_iload_n hx hb dX7_placeOf_19 rfl (lv_at hl 3 rfl) ?_
        refine fa_callSip (As := [.int (nI (j))]) (rest := [.ref (fa_B G + (398))]) CX HX1713 (r_f l G n v r (j)) ln_X7_36 rfl rfl (Nat.le_of_ble_eq_true rfl) hl.1 ⟨Nat.le_of_ble_eq_true rfl, Nat.le_of_ble_eq_true rfl⟩ ⟨Nat.le_refl _, Nat.le_refl _⟩ dX7_placeOf_20 (fun x1715 H locs h1714 HX1716 => ?_)
        subst h1714
        refine fa_iald (k := 398) (j := 17 + 15 * j) CX HX1716 (by omega) rfl (by omega) (by first | decide | assumption) dX7_placeOf_23 ?_
        refine lv_iload_n hx hb dX7_placeOf_24 rfl (lv_at hl 1 rfl) ?_
        refine lv_icmp_ne (tgt := 32) hx hb dX7_placeOf_25 (by decide) (fun c_25 => ?_) (fun c_25 => ?_)
        · refine lv_iload_n hx hb dX7_placeOf_32 rfl (lv_at hl 2 rfl) ?_
          refine lv_istore_n (lv' := [(2, .int (fo)), (0, .ref (fa_B G + (397))), (1, .int (a1)), (3, .int (nI (j)))]) hx hb dX7_placeOf_33 rfl hl (by decide) rfl (fun ls hl => ?_)
          refine lv_iinc (v := nI (j + 1)) (lv' := [(3, .int (nI (j + 1))), (2, .int (fo)), (0, .ref (fa_B G + (397))), (1, .int (a1))]) hx hb dX7_placeOf_34 hl (k := 3) rfl (nI_add (j) 1) (by decide) rfl (fun ls hl => ?_)
          refine lv_goto (tgt := 4) hx hb dX7_placeOf_37 (by decide) ?_
          exact ih_4 (j + 1) (fo)  _ _ _ (by omega) (⟨by omega, hi_4.2.1, hi_4.2.2.trans (fb_las_f (f := (fun p => v 398 (17 + 15 * p))) c_25)⟩) (lv_sub hl [2, 3, 1, 0] rfl) HX1716
        · refine lv_iload_n hx hb dX7_placeOf_28 rfl (lv_at hl 3 rfl) ?_
          refine lv_goto (tgt := 33) hx hb dX7_placeOf_29 (by decide) ?_
          refine lv_istore_n (lv' := [(2, .int (nI (j))), (0, .ref (fa_B G + (397))), (1, .int (a1)), (3, .int (nI (j)))]) hx hb dX7_placeOf_33 rfl hl (by decide) rfl (fun ls hl => ?_)
          refine lv_iinc (v := nI (j + 1)) (lv' := [(3, .int (nI (j + 1))), (2, .int (nI (j))), (0, .ref (fa_B G + (397))), (1, .int (a1))]) hx hb dX7_placeOf_34 hl (k := 3) rfl (nI_add (j) 1) (by decide) rfl (fun ls hl => ?_)
          refine lv_goto (tgt := 4) hx hb dX7_placeOf_37 (by decide) ?_
          exact ih_4 (j + 1) (nI (j))  _ _ _ (by omega) (⟨by omega, Or.inr ⟨j, by omega, rfl⟩, fb_las_t (f := (fun p => v 398 (17 + 15 * p))) (by first | exact c_25 | exact Decidable.not_not.mp c_25)⟩) (lv_sub hl [2, 3, 1, 0] rfl) HX1716
  exact LOOP_4 (n4 - 0 + 1) (0) ((-1 : Int32))  _ _ _ (Nat.lt_succ_self _) (⟨Nat.zero_le _, Or.inl rfl, rfl⟩) (lv_sub hl [2, 3, 1, 0] rfl) HX
set_option maxHeartbeats 4000000 in
set_option maxRecDepth 100000 in
theorem r_pages (l : Launch) (G : fa_G) (n : Nat) (hn : 406 ≤ n) (v : fa_V) (r : fa_R) (hM : fa_RM r) (hS : fa_MS (v 398)) : fa_MI l G n yX7_pages cX7_pages 3 (some .int) 2 [.ref (fa_B G + (397))] v r (fun x w => w = (v, r) ∧ (x = fb_pgm (v 398))) := by
  refine fa_startI (by decide +kernel) (Nat.le_of_ble_eq_true rfl) (fun p e s m args below meth c ls Q CX hl HX RET => ?_)
  have hl : lv_has ls 3 [(0, .ref (fa_B G + (397)))] := hl
  have hx := CX.1.1
  have hb := CX.1.2.1
  obtain ⟨n4, en4⟩ : ∃ m, m = fa_N (v 398 14) := ⟨_, rfl⟩
  obtain ⟨hn4, g4⟩ := hS.n4 en4
  obtain ⟨n5, en5⟩ : ∃ m, m = fa_N (v 398 15) := ⟨_, rfl⟩
  obtain ⟨hn5, g5⟩ := hS.n5 en5
  obtain ⟨n6, en6⟩ : ∃ m, m = fa_N (v 398 16) := ⟨_, rfl⟩
  obtain ⟨hn6, g6⟩ := hS.n6 en6
  refine lv_iconst (v := nI (0)) hx hb dX7_pages_0 (by decide) ?_
  refine lv_istore_n (lv' := [(1, .int (nI (0))), (0, .ref (fa_B G + (397)))]) hx hb dX7_pages_1 rfl hl (by decide) rfl (fun ls hl => ?_)
  refine lv_iconst (v := nI (0)) hx hb dX7_pages_2 (by decide) ?_
  refine lv_istore_n (lv' := [(2, .int (nI (0))), (1, .int (nI (0))), (0, .ref (fa_B G + (397)))]) hx hb dX7_pages_3 rfl hl (by decide) rfl (fun ls hl => ?_)
  have LOOP_4 : ∀ (fu : Nat) (j : Nat) (ac : Int32) (H : Heap) (locs : List Loc) (ls : Array Slot), n4 - j < fu → (j ≤ n4 ∧ ac = fa_sum (fun p => v 398 (17 + 15 * p + 2)) j) → lv_has ls 3 [(0, .ref (fa_B G + (397))), (1, .int (ac)), (2, .int (nI (j)))] → fa_HX G (n) v r s H locs → W p l e (fa_rm 2) s m args below meth c H locs (0) (0) Q (F0 m 4 ls []) := by
    intro fu
    induction fu with
    | zero => intro j ac H locs ls hk; exact absurd hk (Nat.not_lt_zero _)
    | succ fu ih_4 =>
      intro j ac H locs ls hk_4 hi_4 hl HX1717
      refine lv_iload_n hx hb dX7_pages_4 rfl (lv_at hl 2 rfl) ?_
      refine lv_aload_n hx hb dX7_pages_5 rfl (lv_at hl 0 rfl) ?_
      refine fa_getr (k := 397) (j := 398) CX HX1717 fl_X7_7 (by omega) rfl rfl hM.1 dX7_pages_6 ?_
      refine lv_bipush (v := nI (14)) hx hb dX7_pages_9 (by decide) ?_
      refine fa_iald (k := 398) (j := 14) CX HX1717 (by omega) rfl (by omega) (by first | decide | assumption) dX7_pages_11 ?_
      rw [show v 398 14 = nI (n4) from g4]
      refine lv_icmp_ge (tgt := 35) hx hb dX7_pages_12 (by decide) (fun c_12 => ?_) (fun c_12 => ?_)
      · have hjn : j = n4 := by
          have := fa_leN (by omega) (by omega) c_12
          omega
        refine lv_iload_n hx hb dX7_pages_35 rfl (lv_at hl 1 rfl) ?_
        exact RET _ _ _ _ _ _ _ HX1717 dX7_pages_36 (⟨rfl, (by unfold fb_pgm; rw [← en4, ← hjn]; exact hi_4.2)⟩)
      · have hj := fa_ltN (by omega) (by omega) c_12
        refine lv_iload_n hx hb dX7_pages_15 rfl (lv_at hl 1 rfl) ?_
        refine lv_aload_n hx hb dX7_pages_16 rfl (lv_at hl 0 rfl) ?_
        refine fa_getr (k := 397) (j := 398) CX HX1717 fl_X7_7 (by omega) rfl rfl hM.1 dX7_pages_17 ?_
        refine lv_iload_n hx hb dX7_pages_20 rfl (lv_at hl 2 rfl) ?_
        refine fa_callSip (As := [.int (nI (j))]) (rest := [.ref (fa_B G + (398)), .int (ac)]) CX HX1717 (r_f l G n v r (j)) ln_X7_36 rfl rfl (Nat.le_of_ble_eq_true rfl) hl.1 ⟨Nat.le_of_ble_eq_true rfl, Nat.le_of_ble_eq_true rfl⟩ ⟨Nat.le_refl _, Nat.le_refl _⟩ dX7_pages_21 (fun x1719 H locs h1718 HX1720 => ?_)
        subst h1718
        refine lv_iconst (v := nI (2)) hx hb dX7_pages_24 (by decide) ?_
        refine fa_iaddN hx hb dX7_pages_25 ?_
        refine fa_iald (k := 398) (j := 17 + 15 * j + 2) CX HX1720 (by omega) rfl (by omega) (by first | decide | assumption) dX7_pages_26 ?_
        refine lv_iadd hx hb dX7_pages_27 ?_
        refine lv_istore_n (lv' := [(1, .int ((ac) + (v 398 (17 + 15 * j + 2)))), (0, .ref (fa_B G + (397))), (2, .int (nI (j)))]) hx hb dX7_pages_28 rfl hl (by decide) rfl (fun ls hl => ?_)
        refine lv_iinc (v := nI (j + 1)) (lv' := [(2, .int (nI (j + 1))), (1, .int ((ac) + (v 398 (17 + 15 * j + 2)))), (0, .ref (fa_B G + (397)))]) hx hb dX7_pages_29 hl (k := 2) rfl (nI_add (j) 1) (by decide) rfl (fun ls hl => ?_)
        refine lv_goto (tgt := 4) hx hb dX7_pages_32 (by decide) ?_
        exact ih_4 (j + 1) ((ac) + (v 398 (17 + 15 * j + 2)))  _ _ _ (by omega) (⟨by omega, by rw [hi_4.2]; rfl⟩) (lv_sub hl [2, 1, 0] rfl) HX1720
  exact LOOP_4 (n4 - 0 + 1) (0) (nI (0))  _ _ _ (Nat.lt_succ_self _) (⟨Nat.zero_le _, rfl⟩) (lv_sub hl [2, 1, 0] rfl) HX
set_option maxHeartbeats 4000000 in
set_option maxRecDepth 100000 in
theorem r_due (l : Launch) (G : fa_G) (n : Nat) (hn : 406 ≤ n) (v : fa_V) (r : fa_R) (hM : fa_RM r) (hS : fa_MS (v 398)) (u : Nat) (hu : u < 24) : fa_MI l G n yX7_due cX7_due 4 (some .int) 2 [.ref (fa_B G + (397)), .int (nI (u))] v r (fun x w => w = (v, r) ∧ (x = fb_dum (v 398) u)) := by
  refine fa_startI (by decide +kernel) (Nat.le_of_ble_eq_true rfl) (fun p e s m args below meth c ls Q CX hl HX RET => ?_)
  have hl : lv_has ls 4 [(0, .ref (fa_B G + (397))), (1, .int (nI (u)))] := hl
  have hx := CX.1.1
  have hb := CX.1.2.1
  obtain ⟨n4, en4⟩ : ∃ m, m = fa_N (v 398 14) := ⟨_, rfl⟩
  obtain ⟨hn4, g4⟩ := hS.n4 en4
  obtain ⟨n5, en5⟩ : ∃ m, m = fa_N (v 398 15) := ⟨_, rfl⟩
  obtain ⟨hn5, g5⟩ := hS.n5 en5
  obtain ⟨n6, en6⟩ : ∃ m, m = fa_N (v 398 16) := ⟨_, rfl⟩
  obtain ⟨hn6, g6⟩ := hS.n6 en6
  obtain ⟨kd, hkd, ekd⟩ := hS.kd hu
  refine lv_iload_n hx hb dX7_due_0 rfl (lv_at hl 1 rfl) ?_
  refine fa_callSip (As := [.int (nI (u))]) (rest := []) CX HX (r_f l G n v r (u)) ln_X7_36 rfl rfl (Nat.le_of_ble_eq_true rfl) hl.1 ⟨Nat.le_of_ble_eq_true rfl, Nat.le_of_ble_eq_true rfl⟩ ⟨Nat.le_refl _, Nat.le_refl _⟩ dX7_due_1 (fun x1722 H locs h1721 HX1723 => ?_)
  subst h1721
  refine lv_istore_n (lv' := [(2, .int (nI (17 + 15 * u))), (0, .ref (fa_B G + (397))), (1, .int (nI (u)))]) hx hb dX7_due_4 rfl hl (by decide) rfl (fun ls hl => ?_)
  refine lv_aload_n hx hb dX7_due_5 rfl (lv_at hl 1 rfl) ?_
  refine fa_getr (k := 397) (j := 398) CX HX1723 fl_X7_7 (by omega) rfl rfl hM.1 dX7_due_6 ?_
  refine lv_aload_n hx hb dX7_due_9 rfl (lv_at hl 1 rfl) ?_
  refine fa_getr (k := 397) (j := 398) CX HX1723 fl_X7_7 (by omega) rfl rfl hM.1 dX7_due_10 ?_
  refine lv_iload_n hx hb dX7_due_13 rfl (lv_at hl 0 rfl) ?_
  refine lv_iconst (v := nI (1)) hx hb dX7_due_14 (by decide) ?_
  refine fa_iaddN hx hb dX7_due_15 ?_
  refine fa_iald (k := 398) (j := 17 + 15 * u + 1) CX HX1723 (by omega) rfl (by omega) (by first | decide | assumption) dX7_due_16 ?_
  rw [show v 398 (17 + 15 * u + 1) = nI (kd) from ekd]
  refine fa_iald (k := 398) (j := kd) CX HX1723 (by omega) rfl (by omega) (by first | decide | assumption) dX7_due_17 ?_
  refine lv_aload_n hx hb dX7_due_18 rfl (lv_at hl 1 rfl) ?_
  refine fa_getr (k := 397) (j := 398) CX HX1723 fl_X7_7 (by omega) rfl rfl hM.1 dX7_due_19 ?_
  refine lv_iload_n hx hb dX7_due_22 rfl (lv_at hl 0 rfl) ?_
  refine lv_iconst (v := nI (5)) hx hb dX7_due_23 (by decide) ?_
  refine fa_iaddN hx hb dX7_due_24 ?_
  refine fa_iald (k := 398) (j := 17 + 15 * u + 5) CX HX1723 (by omega) rfl (by omega) (by first | decide | assumption) dX7_due_25 ?_
  refine lv_aload_n hx hb dX7_due_26 rfl (lv_at hl 1 rfl) ?_
  refine fa_getr (k := 397) (j := 398) CX HX1723 fl_X7_7 (by omega) rfl rfl hM.1 dX7_due_27 ?_
  refine lv_iconst (v := nI (5)) hx hb dX7_due_30 (by decide) ?_
  refine fa_iald (k := 398) (j := 5) CX HX1723 (by omega) rfl (by omega) (by first | decide | assumption) dX7_due_31 ?_
  refine lv_icmp_lt (tgt := 39) hx hb dX7_due_32 (by decide) (fun c_32 => ?_) (fun c_32 => ?_)
  · refine lv_iconst (v := nI (1)) hx hb dX7_due_39 (by decide) ?_
    refine lv_imul hx hb dX7_due_40 ?_
    refine lv_istore_n (lv' := [(3, .int ((v 398 kd) * (nI (1)))), (2, .int (nI (17 + 15 * u))), (0, .ref (fa_B G + (397))), (1, .int (nI (u)))]) hx hb dX7_due_41 rfl hl (by decide) rfl (fun ls hl => ?_)
    refine lv_iload_n hx hb dX7_due_42 rfl (lv_at hl 0 rfl) ?_
    refine lv_aload_n hx hb dX7_due_43 rfl (lv_at hl 2 rfl) ?_
    refine fa_getr (k := 397) (j := 398) CX HX1723 fl_X7_7 (by omega) rfl rfl hM.1 dX7_due_44 ?_
    refine lv_iload_n hx hb dX7_due_47 rfl (lv_at hl 1 rfl) ?_
    refine lv_iconst (v := nI (4)) hx hb dX7_due_48 (by decide) ?_
    refine fa_iaddN hx hb dX7_due_49 ?_
    refine fa_iald (k := 398) (j := 17 + 15 * u + 4) CX HX1723 (by omega) rfl (by omega) (by first | decide | assumption) dX7_due_50 ?_
    refine lv_if_ge (tgt := 65) hx hb dX7_due_51 (by decide) (fun c_51 => ?_) (fun c_51 => ?_)
    · refine lv_aload_n hx hb dX7_due_65 rfl (lv_at hl 2 rfl) ?_
      refine fa_getr (k := 397) (j := 398) CX HX1723 fl_X7_7 (by omega) rfl rfl hM.1 dX7_due_66 ?_
      refine lv_iload_n hx hb dX7_due_69 rfl (lv_at hl 1 rfl) ?_
      refine lv_iconst (v := nI (4)) hx hb dX7_due_70 (by decide) ?_
      refine fa_iaddN hx hb dX7_due_71 ?_
      refine fa_iald (k := 398) (j := 17 + 15 * u + 4) CX HX1723 (by omega) rfl (by omega) (by first | decide | assumption) dX7_due_72 ?_
      refine lv_iadd hx hb dX7_due_73 ?_
      exact RET _ _ _ _ _ _ _ HX1723 dX7_due_74 (⟨rfl, (by unfold fb_dum; rw [ekd, fa_N_nI (by omega), if_pos c_32, if_neg (Int32.not_lt.mpr c_51)])⟩)
    · refine lv_aload_n hx hb dX7_due_54 rfl (lv_at hl 2 rfl) ?_
      refine fa_getr (k := 397) (j := 398) CX HX1723 fl_X7_7 (by omega) rfl rfl hM.1 dX7_due_55 ?_
      refine lv_iload_n hx hb dX7_due_58 rfl (lv_at hl 1 rfl) ?_
      refine lv_iconst (v := nI (3)) hx hb dX7_due_59 (by decide) ?_
      refine fa_iaddN hx hb dX7_due_60 ?_
      refine fa_iald (k := 398) (j := 17 + 15 * u + 3) CX HX1723 (by omega) rfl (by omega) (by first | decide | assumption) dX7_due_61 ?_
      refine lv_goto (tgt := 73) hx hb dX7_due_62 (by decide) ?_
      refine lv_iadd hx hb dX7_due_73 ?_
      exact RET _ _ _ _ _ _ _ HX1723 dX7_due_74 (⟨rfl, (by unfold fb_dum; rw [ekd, fa_N_nI (by omega), if_pos c_32, if_pos (Int32.not_le.mp c_51)])⟩)
  · refine lv_iconst (v := nI (2)) hx hb dX7_due_35 (by decide) ?_
    refine lv_goto (tgt := 40) hx hb dX7_due_36 (by decide) ?_
    refine lv_imul hx hb dX7_due_40 ?_
    refine lv_istore_n (lv' := [(3, .int ((v 398 kd) * (nI (2)))), (2, .int (nI (17 + 15 * u))), (0, .ref (fa_B G + (397))), (1, .int (nI (u)))]) hx hb dX7_due_41 rfl hl (by decide) rfl (fun ls hl => ?_)
    refine lv_iload_n hx hb dX7_due_42 rfl (lv_at hl 0 rfl) ?_
    refine lv_aload_n hx hb dX7_due_43 rfl (lv_at hl 2 rfl) ?_
    refine fa_getr (k := 397) (j := 398) CX HX1723 fl_X7_7 (by omega) rfl rfl hM.1 dX7_due_44 ?_
    refine lv_iload_n hx hb dX7_due_47 rfl (lv_at hl 1 rfl) ?_
    refine lv_iconst (v := nI (4)) hx hb dX7_due_48 (by decide) ?_
    refine fa_iaddN hx hb dX7_due_49 ?_
    refine fa_iald (k := 398) (j := 17 + 15 * u + 4) CX HX1723 (by omega) rfl (by omega) (by first | decide | assumption) dX7_due_50 ?_
    refine lv_if_ge (tgt := 65) hx hb dX7_due_51 (by decide) (fun c_51 => ?_) (fun c_51 => ?_)
    · refine lv_aload_n hx hb dX7_due_65 rfl (lv_at hl 2 rfl) ?_
      refine fa_getr (k := 397) (j := 398) CX HX1723 fl_X7_7 (by omega) rfl rfl hM.1 dX7_due_66 ?_
      refine lv_iload_n hx hb dX7_due_69 rfl (lv_at hl 1 rfl) ?_
      refine lv_iconst (v := nI (4)) hx hb dX7_due_70 (by decide) ?_
      refine fa_iaddN hx hb dX7_due_71 ?_
      refine fa_iald (k := 398) (j := 17 + 15 * u + 4) CX HX1723 (by omega) rfl (by omega) (by first | decide | assumption) dX7_due_72 ?_
      refine lv_iadd hx hb dX7_due_73 ?_
      exact RET _ _ _ _ _ _ _ HX1723 dX7_due_74 (⟨rfl, (by unfold fb_dum; rw [ekd, fa_N_nI (by omega), if_neg c_32, if_neg (Int32.not_lt.mpr c_51)])⟩)
    · refine lv_aload_n hx hb dX7_due_54 rfl (lv_at hl 2 rfl) ?_
      refine fa_getr (k := 397) (j := 398) CX HX1723 fl_X7_7 (by omega) rfl rfl hM.1 dX7_due_55 ?_
      refine lv_iload_n hx hb dX7_due_58 rfl (lv_at hl 1 rfl) ?_
      refine lv_iconst (v := nI (3)) hx hb dX7_due_59 (by decide) ?_
      refine fa_iaddN hx hb dX7_due_60 ?_
      refine fa_iald (k := 398) (j := 17 + 15 * u + 3) CX HX1723 (by omega) rfl (by omega) (by first | decide | assumption) dX7_due_61 ?_
      refine lv_goto (tgt := 73) hx hb dX7_due_62 (by decide) ?_
      refine lv_iadd hx hb dX7_due_73 ?_
      exact RET _ _ _ _ _ _ _ HX1723 dX7_due_74 (⟨rfl, (by unfold fb_dum; rw [ekd, fa_N_nI (by omega), if_neg c_32, if_pos (Int32.not_le.mp c_51)])⟩)
set_option maxHeartbeats 4000000 in
set_option maxRecDepth 100000 in
theorem r_holds (l : Launch) (G : fa_G) (n : Nat) (hn : 406 ≤ n) (v : fa_V) (r : fa_R) (hM : fa_RM r) (u hd : Nat) (hu : u < 24) (hhd : hd < 8) : fa_MI l G n yX7_holds cX7_holds 3 (some .boolean) 2 [.ref (fa_B G + (397)), .int (nI (u)), .int (nI (hd))] v r (fun x w => w = (v, r) ∧ (x = if v 398 7 < v 398 (17 + 15 * u + 7 + hd) then nI 1 else nI 0)) := by
  refine fa_startZ (by decide +kernel) (Nat.le_of_ble_eq_true rfl) (fun p e s m args below meth c ls Q CX hl HX RET => ?_)
  have hl : lv_has ls 3 [(0, .ref (fa_B G + (397))), (1, .int (nI (u))), (2, .int (nI (hd)))] := hl
  have hx := CX.1.1
  have hb := CX.1.2.1
  refine lv_aload_n hx hb dX7_holds_0 rfl (lv_at hl 0 rfl) ?_
  refine fa_getr (k := 397) (j := 398) CX HX fl_X7_7 (by omega) rfl rfl hM.1 dX7_holds_1 ?_
  refine lv_iload_n hx hb dX7_holds_4 rfl (lv_at hl 1 rfl) ?_
  refine fa_callSip (As := [.int (nI (u))]) (rest := [.ref (fa_B G + (398))]) CX HX (r_f l G n v r (u)) ln_X7_36 rfl rfl (Nat.le_of_ble_eq_true rfl) hl.1 ⟨Nat.le_of_ble_eq_true rfl, Nat.le_of_ble_eq_true rfl⟩ ⟨Nat.le_refl _, Nat.le_refl _⟩ dX7_holds_5 (fun x1725 H locs h1724 HX1726 => ?_)
  subst h1724
  refine lv_bipush (v := nI (7)) hx hb dX7_holds_8 (by decide) ?_
  refine fa_iaddN hx hb dX7_holds_10 ?_
  refine lv_iload_n hx hb dX7_holds_11 rfl (lv_at hl 2 rfl) ?_
  refine fa_iaddN hx hb dX7_holds_12 ?_
  refine fa_iald (k := 398) (j := 17 + 15 * u + 7 + hd) CX HX1726 (by omega) rfl (by omega) (by first | decide | assumption) dX7_holds_13 ?_
  refine lv_aload_n hx hb dX7_holds_14 rfl (lv_at hl 0 rfl) ?_
  refine fa_getr (k := 397) (j := 398) CX HX1726 fl_X7_7 (by omega) rfl rfl hM.1 dX7_holds_15 ?_
  refine lv_bipush (v := nI (7)) hx hb dX7_holds_18 (by decide) ?_
  refine fa_iald (k := 398) (j := 7) CX HX1726 (by omega) rfl (by omega) (by first | decide | assumption) dX7_holds_20 ?_
  refine lv_icmp_le (tgt := 28) hx hb dX7_holds_21 (by decide) (fun c_21 => ?_) (fun c_21 => ?_)
  · refine lv_iconst (v := nI (0)) hx hb dX7_holds_28 (by decide) ?_
    exact RET _ _ _ _ _ _ _ HX1726 dX7_holds_29 (by decide) (⟨rfl, (if_neg (Int32.not_lt.mpr c_21)).symm⟩)
  · refine lv_iconst (v := nI (1)) hx hb dX7_holds_24 (by decide) ?_
    refine lv_goto (tgt := 29) hx hb dX7_holds_25 (by decide) ?_
    exact RET _ _ _ _ _ _ _ HX1726 dX7_holds_29 (by decide) (⟨rfl, (if_pos (Int32.not_le.mp c_21)).symm⟩)
set_option maxHeartbeats 4000000 in
set_option maxRecDepth 100000 in
theorem r_sealing (l : Launch) (G : fa_G) (n : Nat) (hn : 406 ≤ n) (v : fa_V) (r : fa_R) (hM : fa_RM r) (hS : fa_MS (v 398)) (u : Nat) (hu : u < 24) : fa_MI l G n yX7_sealing cX7_sealing 4 (some .int) 3 [.ref (fa_B G + (397)), .int (nI (u))] v r (fun x w => w = (v, r) ∧ (x = fb_msm (v 398) u)) := by
  refine fa_startI (by decide +kernel) (Nat.le_of_ble_eq_true rfl) (fun p e s m args below meth c ls Q CX hl HX RET => ?_)
  have hl : lv_has ls 4 [(0, .ref (fa_B G + (397))), (1, .int (nI (u)))] := hl
  have hx := CX.1.1
  have hb := CX.1.2.1
  obtain ⟨n4, en4⟩ : ∃ m, m = fa_N (v 398 14) := ⟨_, rfl⟩
  obtain ⟨hn4, g4⟩ := hS.n4 en4
  obtain ⟨n5, en5⟩ : ∃ m, m = fa_N (v 398 15) := ⟨_, rfl⟩
  obtain ⟨hn5, g5⟩ := hS.n5 en5
  obtain ⟨n6, en6⟩ : ∃ m, m = fa_N (v 398 16) := ⟨_, rfl⟩
  obtain ⟨hn6, g6⟩ := hS.n6 en6
  refine lv_iconst (v := nI (0)) hx hb dX7_sealing_0 (by decide) ?_
  refine lv_istore_n (lv' := [(2, .int (nI (0))), (0, .ref (fa_B G + (397))), (1, .int (nI (u)))]) hx hb dX7_sealing_1 rfl hl (by decide) rfl (fun ls hl => ?_)
  refine lv_iconst (v := nI (0)) hx hb dX7_sealing_2 (by decide) ?_
  refine lv_istore_n (lv' := [(3, .int (nI (0))), (2, .int (nI (0))), (0, .ref (fa_B G + (397))), (1, .int (nI (u)))]) hx hb dX7_sealing_3 rfl hl (by decide) rfl (fun ls hl => ?_)
  have LOOP_4 : ∀ (fu : Nat) (j : Nat) (mk : Int32) (H : Heap) (locs : List Loc) (ls : Array Slot), 8 - j < fu → (j ≤ 8 ∧ mk = fa_mask (fun h => decide (v 398 7 < v 398 (17 + 15 * u + 7 + h))) j) → lv_has ls 4 [(0, .ref (fa_B G + (397))), (1, .int (nI (u))), (2, .int (mk)), (3, .int (nI (j)))] → fa_HX G (n) v r s H locs → W p l e (fa_rm 3) s m args below meth c H locs (0) (0) Q (F0 m 4 ls []) := by
    intro fu
    induction fu with
    | zero => intro j mk H locs ls hk; exact absurd hk (Nat.not_lt_zero _)
    | succ fu ih_4 =>
      intro j mk H locs ls hk_4 hi_4 hl HX1727
      refine lv_iload_n hx hb dX7_sealing_4 rfl (lv_at hl 3 rfl) ?_
      refine lv_bipush (v := nI (8)) hx hb dX7_sealing_5 (by decide) ?_
      refine lv_icmp_ge (tgt := 35) hx hb dX7_sealing_7 (by decide) (fun c_7 => ?_) (fun c_7 => ?_)
      · have hjn : j = 8 := by
          have := fa_leN (by omega) (by omega) c_7
          omega
        refine lv_iload_n hx hb dX7_sealing_35 rfl (lv_at hl 2 rfl) ?_
        exact RET _ _ _ _ _ _ _ HX1727 dX7_sealing_36 (⟨rfl, (by unfold fb_msm; rw [hi_4.2, hjn])⟩)
      · have hj := fa_ltN (by omega) (by omega) c_7
        refine lv_iload_n hx hb dX7_sealing_10 rfl (lv_at hl 2 rfl) ?_
        refine lv_aload_n hx hb dX7_sealing_11 rfl (lv_at hl 0 rfl) ?_
        refine lv_iload_n hx hb dX7_sealing_12 rfl (lv_at hl 1 rfl) ?_
        refine lv_iload_n hx hb dX7_sealing_13 rfl (lv_at hl 3 rfl) ?_
        refine fa_callVip (As := [.int (nI (u)), .int (nI (j))]) (rest := [.int (mk)]) CX HX1727 (r_holds l G n hn v r hM (u) (j) (by omega) (by omega)) ln_X7_44 (by omega) rfl rfl rfl rfl (Nat.le_of_ble_eq_true rfl) hl.1 ⟨Nat.le_of_ble_eq_true rfl, Nat.le_of_ble_eq_true rfl⟩ ⟨Nat.le_refl _, Nat.le_refl _⟩ dX7_sealing_14 (fun x1729 H locs h1728 HX1730 => ?_)
        have h_holds := h1728
        refine lv_if_eq (tgt := 26) hx hb dX7_sealing_17 (by decide) (fun c_17 => ?_) (fun c_17 => ?_)
        · refine lv_iconst (v := nI (0)) hx hb dX7_sealing_26 (by decide) ?_
          refine lv_ior hx hb dX7_sealing_27 ?_
          refine lv_istore_n (lv' := [(2, .int ((mk) ||| (nI (0)))), (0, .ref (fa_B G + (397))), (1, .int (nI (u))), (3, .int (nI (j)))]) hx hb dX7_sealing_28 rfl hl (by decide) rfl (fun ls hl => ?_)
          refine lv_iinc (v := nI (j + 1)) (lv' := [(3, .int (nI (j + 1))), (2, .int ((mk) ||| (nI (0)))), (0, .ref (fa_B G + (397))), (1, .int (nI (u)))]) hx hb dX7_sealing_29 hl (k := 3) rfl (nI_add (j) 1) (by decide) rfl (fun ls hl => ?_)
          refine lv_goto (tgt := 4) hx hb dX7_sealing_32 (by decide) ?_
          exact ih_4 (j + 1) ((mk) ||| (nI (0)))  _ _ _ (by omega) (⟨by omega, by rw [hi_4.2]; exact fb_mask_or0 (c := (fun h => decide (v 398 7 < v 398 (17 + 15 * u + 7 + h)))) (fun z => by rw [h_holds, if_pos (of_decide_eq_true z)] at c_17; exact absurd c_17 (by decide))⟩) (lv_sub hl [2, 3, 1, 0] rfl) HX1730
        · refine lv_iconst (v := nI (1)) hx hb dX7_sealing_20 (by decide) ?_
          refine lv_iload_n hx hb dX7_sealing_21 rfl (lv_at hl 3 rfl) ?_
          refine lv_ishl hx hb dX7_sealing_22 ?_
          refine lv_goto (tgt := 27) hx hb dX7_sealing_23 (by decide) ?_
          refine lv_ior hx hb dX7_sealing_27 ?_
          refine lv_istore_n (lv' := [(2, .int ((mk) ||| ((nI (1)) <<< ((nI (j)) &&& 31)))), (0, .ref (fa_B G + (397))), (1, .int (nI (u))), (3, .int (nI (j)))]) hx hb dX7_sealing_28 rfl hl (by decide) rfl (fun ls hl => ?_)
          refine lv_iinc (v := nI (j + 1)) (lv' := [(3, .int (nI (j + 1))), (2, .int ((mk) ||| ((nI (1)) <<< ((nI (j)) &&& 31)))), (0, .ref (fa_B G + (397))), (1, .int (nI (u)))]) hx hb dX7_sealing_29 hl (k := 3) rfl (nI_add (j) 1) (by decide) rfl (fun ls hl => ?_)
          refine lv_goto (tgt := 4) hx hb dX7_sealing_32 (by decide) ?_
          exact ih_4 (j + 1) ((mk) ||| ((nI (1)) <<< ((nI (j)) &&& 31)))  _ _ _ (by omega) (⟨by omega, by rw [hi_4.2]; exact fa_mask_t (c := (fun h => decide (v 398 7 < v 398 (17 + 15 * u + 7 + h)))) (decide_eq_true (Decidable.byContradiction (fun z => c_17 (by rw [h_holds, if_neg z]; rfl))))⟩) (lv_sub hl [2, 3, 1, 0] rfl) HX1730
  exact LOOP_4 (8 - 0 + 1) (0) (nI (0))  _ _ _ (Nat.lt_succ_self _) (⟨Nat.zero_le _, rfl⟩) (lv_sub hl [2, 3, 1, 0] rfl) HX
set_option maxHeartbeats 4000000 in
set_option maxRecDepth 100000 in
theorem r_bits (l : Launch) (G : fa_G) (n : Nat) (v : fa_V) (r : fa_R) (a1 : Int32) : fa_MI l G n yX7_bits cX7_bits 3 (some .int) 1 [.int (a1)] v r (fun x w => w = (v, r) ∧ (x = fb_bits a1)) := by
  refine fa_startI (by decide +kernel) (Nat.le_of_ble_eq_true rfl) (fun p e s m args below meth c ls Q CX hl HX RET => ?_)
  have hl : lv_has ls 3 [(0, .int (a1))] := hl
  have hx := CX.1.1
  have hb := CX.1.2.1
  refine lv_iconst (v := nI (0)) hx hb dX7_bits_0 (by decide) ?_
  refine lv_istore_n (lv' := [(1, .int (nI (0))), (0, .int (a1))]) hx hb dX7_bits_1 rfl hl (by decide) rfl (fun ls hl => ?_)
  refine lv_iconst (v := nI (0)) hx hb dX7_bits_2 (by decide) ?_
  refine lv_istore_n (lv' := [(2, .int (nI (0))), (1, .int (nI (0))), (0, .int (a1))]) hx hb dX7_bits_3 rfl hl (by decide) rfl (fun ls hl => ?_)
  have LOOP_4 : ∀ (fu : Nat) (j : Nat) (ac : Int32) (H : Heap) (locs : List Loc) (ls : Array Slot), 8 - j < fu → (j ≤ 8 ∧ ac = fa_sum (fun k => (a1 >>> (nI k &&& 31)) &&& nI 1) j) → lv_has ls 3 [(0, .int (a1)), (1, .int (ac)), (2, .int (nI (j)))] → fa_HX G (n) v r s H locs → W p l e (fa_rm 1) s m args below meth c H locs (0) (0) Q (F0 m 4 ls []) := by
    intro fu
    induction fu with
    | zero => intro j ac H locs ls hk; exact absurd hk (Nat.not_lt_zero _)
    | succ fu ih_4 =>
      intro j ac H locs ls hk_4 hi_4 hl HX1731
      refine lv_iload_n hx hb dX7_bits_4 rfl (lv_at hl 2 rfl) ?_
      refine lv_bipush (v := nI (8)) hx hb dX7_bits_5 (by decide) ?_
      refine lv_icmp_ge (tgt := 24) hx hb dX7_bits_7 (by decide) (fun c_7 => ?_) (fun c_7 => ?_)
      · have hjn : j = 8 := by
          have := fa_leN (by omega) (by omega) c_7
          omega
        refine lv_iload_n hx hb dX7_bits_24 rfl (lv_at hl 1 rfl) ?_
        exact RET _ _ _ _ _ _ _ HX1731 dX7_bits_25 (⟨rfl, (by unfold fb_bits; rw [hi_4.2, hjn])⟩)
      · have hj := fa_ltN (by omega) (by omega) c_7
        refine lv_iload_n hx hb dX7_bits_10 rfl (lv_at hl 1 rfl) ?_
        refine lv_iload_n hx hb dX7_bits_11 rfl (lv_at hl 0 rfl) ?_
        refine lv_iload_n hx hb dX7_bits_12 rfl (lv_at hl 2 rfl) ?_
        refine lv_ishr hx hb dX7_bits_13 ?_
        refine lv_iconst (v := nI (1)) hx hb dX7_bits_14 (by decide) ?_
        refine lv_iand hx hb dX7_bits_15 ?_
        refine lv_iadd hx hb dX7_bits_16 ?_
        refine lv_istore_n (lv' := [(1, .int ((ac) + (((a1) >>> ((nI (j)) &&& 31)) &&& (nI (1))))), (0, .int (a1)), (2, .int (nI (j)))]) hx hb dX7_bits_17 rfl hl (by decide) rfl (fun ls hl => ?_)
        refine lv_iinc (v := nI (j + 1)) (lv' := [(2, .int (nI (j + 1))), (1, .int ((ac) + (((a1) >>> ((nI (j)) &&& 31)) &&& (nI (1))))), (0, .int (a1))]) hx hb dX7_bits_18 hl (k := 2) rfl (nI_add (j) 1) (by decide) rfl (fun ls hl => ?_)
        refine lv_goto (tgt := 4) hx hb dX7_bits_21 (by decide) ?_
        exact ih_4 (j + 1) ((ac) + (((a1) >>> ((nI (j)) &&& 31)) &&& (nI (1))))  _ _ _ (by omega) (⟨by omega, by rw [hi_4.2]; rfl⟩) (lv_sub hl [2, 1, 0] rfl) HX1731
  exact LOOP_4 (8 - 0 + 1) (0) (nI (0))  _ _ _ (Nat.lt_succ_self _) (⟨Nat.zero_le _, rfl⟩) (lv_sub hl [2, 1, 0] rfl) HX
set_option maxHeartbeats 4000000 in
set_option maxRecDepth 100000 in
theorem r_reservations (l : Launch) (G : fa_G) (n : Nat) (hn : 406 ≤ n) (v : fa_V) (r : fa_R) (hM : fa_RM r) (hS : fa_MS (v 398)) (a1 : Int32) : fa_MI l G n yX7_reservations cX7_reservations 4 (some .int) 1 [.ref (fa_B G + (397)), .int (a1)] v r (fun x w => w = (v, r) ∧ (x = fb_rsm (v 398) a1)) := by
  refine fa_startI (by decide +kernel) (Nat.le_of_ble_eq_true rfl) (fun p e s m args below meth c ls Q CX hl HX RET => ?_)
  have hl : lv_has ls 4 [(0, .ref (fa_B G + (397))), (1, .int (a1))] := hl
  have hx := CX.1.1
  have hb := CX.1.2.1
  obtain ⟨n4, en4⟩ : ∃ m, m = fa_N (v 398 14) := ⟨_, rfl⟩
  obtain ⟨hn4, g4⟩ := hS.n4 en4
  obtain ⟨n5, en5⟩ : ∃ m, m = fa_N (v 398 15) := ⟨_, rfl⟩
  obtain ⟨hn5, g5⟩ := hS.n5 en5
  obtain ⟨n6, en6⟩ : ∃ m, m = fa_N (v 398 16) := ⟨_, rfl⟩
  obtain ⟨hn6, g6⟩ := hS.n6 en6
  refine lv_iconst (v := nI (0)) hx hb dX7_reservations_0 (by decide) ?_
  refine lv_istore_n (lv' := [(2, .int (nI (0))), (0, .ref (fa_B G + (397))), (1, .int (a1))]) hx hb dX7_reservations_1 rfl hl (by decide) rfl (fun ls hl => ?_)
  refine lv_iconst (v := nI (0)) hx hb dX7_reservations_2 (by decide) ?_
  refine lv_istore_n (lv' := [(3, .int (nI (0))), (2, .int (nI (0))), (0, .ref (fa_B G + (397))), (1, .int (a1))]) hx hb dX7_reservations_3 rfl hl (by decide) rfl (fun ls hl => ?_)
  have LOOP_4 : ∀ (fu : Nat) (j : Nat) (ac : Int32) (H : Heap) (locs : List Loc) (ls : Array Slot), n5 - j < fu → (j ≤ n5 ∧ ac = fa_sum (fun k => if v 398 (377 + 2 * k) = a1 then 1 else 0) j) → lv_has ls 4 [(0, .ref (fa_B G + (397))), (1, .int (a1)), (2, .int (ac)), (3, .int (nI (j)))] → fa_HX G (n) v r s H locs → W p l e (fa_rm 1) s m args below meth c H locs (0) (0) Q (F0 m 4 ls []) := by
    intro fu
    induction fu with
    | zero => intro j ac H locs ls hk; exact absurd hk (Nat.not_lt_zero _)
    | succ fu ih_4 =>
      intro j ac H locs ls hk_4 hi_4 hl HX1732
      refine lv_iload_n hx hb dX7_reservations_4 rfl (lv_at hl 3 rfl) ?_
      refine lv_aload_n hx hb dX7_reservations_5 rfl (lv_at hl 0 rfl) ?_
      refine fa_getr (k := 397) (j := 398) CX HX1732 fl_X7_7 (by omega) rfl rfl hM.1 dX7_reservations_6 ?_
      refine lv_bipush (v := nI (15)) hx hb dX7_reservations_9 (by decide) ?_
      refine fa_iald (k := 398) (j := 15) CX HX1732 (by omega) rfl (by omega) (by first | decide | assumption) dX7_reservations_11 ?_
      rw [show v 398 15 = nI (n5) from g5]
      refine lv_icmp_ge (tgt := 45) hx hb dX7_reservations_12 (by decide) (fun c_12 => ?_) (fun c_12 => ?_)
      · have hjn : j = n5 := by
          have := fa_leN (by omega) (by omega) c_12
          omega
        refine lv_iload_n hx hb dX7_reservations_45 rfl (lv_at hl 2 rfl) ?_
        exact RET _ _ _ _ _ _ _ HX1732 dX7_reservations_46 (⟨rfl, (by unfold fb_rsm; rw [← en5, ← hjn]; exact hi_4.2)⟩)
      · have hj := fa_ltN (by omega) (by omega) c_12
        refine lv_iload_n hx hb dX7_reservations_15 rfl (lv_at hl 2 rfl) ?_
        refine lv_aload_n hx hb dX7_reservations_16 rfl (lv_at hl 0 rfl) ?_
        refine fa_getr (k := 397) (j := 398) CX HX1732 fl_X7_7 (by omega) rfl rfl hM.1 dX7_reservations_17 ?_
        refine lv_sipush (v := nI (377)) hx hb dX7_reservations_20 (by decide) ?_
        refine lv_iconst (v := nI (2)) hx hb dX7_reservations_23 (by decide) ?_
        refine lv_iload_n hx hb dX7_reservations_24 rfl (lv_at hl 3 rfl) ?_
        refine fa_imulN hx hb dX7_reservations_25 ?_
        refine fa_iaddN hx hb dX7_reservations_26 ?_
        refine fa_iald (k := 398) (j := 377 + (2 * j)) CX HX1732 (by omega) rfl (by omega) (by first | decide | assumption) dX7_reservations_27 ?_
        refine lv_iload_n hx hb dX7_reservations_28 rfl (lv_at hl 1 rfl) ?_
        refine lv_icmp_ne (tgt := 36) hx hb dX7_reservations_29 (by decide) (fun c_29 => ?_) (fun c_29 => ?_)
        · refine lv_iconst (v := nI (0)) hx hb dX7_reservations_36 (by decide) ?_
          refine lv_iadd hx hb dX7_reservations_37 ?_
          refine lv_istore_n (lv' := [(2, .int ((ac) + (nI (0)))), (0, .ref (fa_B G + (397))), (1, .int (a1)), (3, .int (nI (j)))]) hx hb dX7_reservations_38 rfl hl (by decide) rfl (fun ls hl => ?_)
          refine lv_iinc (v := nI (j + 1)) (lv' := [(3, .int (nI (j + 1))), (2, .int ((ac) + (nI (0)))), (0, .ref (fa_B G + (397))), (1, .int (a1))]) hx hb dX7_reservations_39 hl (k := 3) rfl (nI_add (j) 1) (by decide) rfl (fun ls hl => ?_)
          refine lv_goto (tgt := 4) hx hb dX7_reservations_42 (by decide) ?_
          exact ih_4 (j + 1) ((ac) + (nI (0)))  _ _ _ (by omega) (⟨by omega, by rw [hi_4.2]; exact (Int32.add_zero _).trans (fa_sum_f c_29)⟩) (lv_sub hl [2, 3, 1, 0] rfl) HX1732
        · refine lv_iconst (v := nI (1)) hx hb dX7_reservations_32 (by decide) ?_
          refine lv_goto (tgt := 37) hx hb dX7_reservations_33 (by decide) ?_
          refine lv_iadd hx hb dX7_reservations_37 ?_
          refine lv_istore_n (lv' := [(2, .int ((ac) + (nI (1)))), (0, .ref (fa_B G + (397))), (1, .int (a1)), (3, .int (nI (j)))]) hx hb dX7_reservations_38 rfl hl (by decide) rfl (fun ls hl => ?_)
          refine lv_iinc (v := nI (j + 1)) (lv' := [(3, .int (nI (j + 1))), (2, .int ((ac) + (nI (1)))), (0, .ref (fa_B G + (397))), (1, .int (a1))]) hx hb dX7_reservations_39 hl (k := 3) rfl (nI_add (j) 1) (by decide) rfl (fun ls hl => ?_)
          refine lv_goto (tgt := 4) hx hb dX7_reservations_42 (by decide) ?_
          exact ih_4 (j + 1) ((ac) + (nI (1)))  _ _ _ (by omega) (⟨by omega, by rw [hi_4.2]; exact fa_sum_t (by first | exact c_29 | exact Decidable.not_not.mp c_29)⟩) (lv_sub hl [2, 3, 1, 0] rfl) HX1732
  exact LOOP_4 (n5 - 0 + 1) (0) (nI (0))  _ _ _ (Nat.lt_succ_self _) (⟨Nat.zero_le _, rfl⟩) (lv_sub hl [2, 3, 1, 0] rfl) HX
set_option maxHeartbeats 4000000 in
set_option maxRecDepth 100000 in
theorem r_referring (l : Launch) (G : fa_G) (n : Nat) (hn : 406 ≤ n) (v : fa_V) (r : fa_R) (hM : fa_RM r) (hS : fa_MS (v 398)) (a1 : Int32) : fa_MI l G n yX7_referring cX7_referring 4 (some .int) 2 [.ref (fa_B G + (397)), .int (a1)] v r (fun x w => w = (v, r) ∧ (x = fb_rfm (v 398) a1)) := by
  refine fa_startI (by decide +kernel) (Nat.le_of_ble_eq_true rfl) (fun p e s m args below meth c ls Q CX hl HX RET => ?_)
  have hl : lv_has ls 4 [(0, .ref (fa_B G + (397))), (1, .int (a1))] := hl
  have hx := CX.1.1
  have hb := CX.1.2.1
  obtain ⟨n4, en4⟩ : ∃ m, m = fa_N (v 398 14) := ⟨_, rfl⟩
  obtain ⟨hn4, g4⟩ := hS.n4 en4
  obtain ⟨n5, en5⟩ : ∃ m, m = fa_N (v 398 15) := ⟨_, rfl⟩
  obtain ⟨hn5, g5⟩ := hS.n5 en5
  obtain ⟨n6, en6⟩ : ∃ m, m = fa_N (v 398 16) := ⟨_, rfl⟩
  obtain ⟨hn6, g6⟩ := hS.n6 en6
  refine lv_iconst (v := nI (0)) hx hb dX7_referring_0 (by decide) ?_
  refine lv_istore_n (lv' := [(2, .int (nI (0))), (0, .ref (fa_B G + (397))), (1, .int (a1))]) hx hb dX7_referring_1 rfl hl (by decide) rfl (fun ls hl => ?_)
  refine lv_iconst (v := nI (0)) hx hb dX7_referring_2 (by decide) ?_
  refine lv_istore_n (lv' := [(3, .int (nI (0))), (2, .int (nI (0))), (0, .ref (fa_B G + (397))), (1, .int (a1))]) hx hb dX7_referring_3 rfl hl (by decide) rfl (fun ls hl => ?_)
  have LOOP_4 : ∀ (fu : Nat) (j : Nat) (ac : Int32) (H : Heap) (locs : List Loc) (ls : Array Slot), n4 - j < fu → (j ≤ n4 ∧ ac = fa_sum (fun p => if v 398 (17 + 15 * p + 6) = a1 then 1 else 0) j) → lv_has ls 4 [(0, .ref (fa_B G + (397))), (1, .int (a1)), (2, .int (ac)), (3, .int (nI (j)))] → fa_HX G (n) v r s H locs → W p l e (fa_rm 2) s m args below meth c H locs (0) (0) Q (F0 m 4 ls []) := by
    intro fu
    induction fu with
    | zero => intro j ac H locs ls hk; exact absurd hk (Nat.not_lt_zero _)
    | succ fu ih_4 =>
      intro j ac H locs ls hk_4 hi_4 hl HX1733
      refine lv_iload_n hx hb dX7_referring_4 rfl (lv_at hl 3 rfl) ?_
      refine lv_aload_n hx hb dX7_referring_5 rfl (lv_at hl 0 rfl) ?_
      refine fa_getr (k := 397) (j := 398) CX HX1733 fl_X7_7 (by omega) rfl rfl hM.1 dX7_referring_6 ?_
      refine lv_bipush (v := nI (14)) hx hb dX7_referring_9 (by decide) ?_
      refine fa_iald (k := 398) (j := 14) CX HX1733 (by omega) rfl (by omega) (by first | decide | assumption) dX7_referring_11 ?_
      rw [show v 398 14 = nI (n4) from g4]
      refine lv_icmp_ge (tgt := 45) hx hb dX7_referring_12 (by decide) (fun c_12 => ?_) (fun c_12 => ?_)
      · have hjn : j = n4 := by
          have := fa_leN (by omega) (by omega) c_12
          omega
        refine lv_iload_n hx hb dX7_referring_45 rfl (lv_at hl 2 rfl) ?_
        exact RET _ _ _ _ _ _ _ HX1733 dX7_referring_46 (⟨rfl, (by unfold fb_rfm; rw [← en4, ← hjn]; exact hi_4.2)⟩)
      · have hj := fa_ltN (by omega) (by omega) c_12
        refine lv_iload_n hx hb dX7_referring_15 rfl (lv_at hl 2 rfl) ?_
        refine lv_aload_n hx hb dX7_referring_16 rfl (lv_at hl 0 rfl) ?_
        refine fa_getr (k := 397) (j := 398) CX HX1733 fl_X7_7 (by omega) rfl rfl hM.1 dX7_referring_17 ?_
        refine lv_iload_n hx hb dX7_referring_20 rfl (lv_at hl 3 rfl) ?_
        refine fa_callSip (As := [.int (nI (j))]) (rest := [.ref (fa_B G + (398)), .int (ac)]) CX HX1733 (r_f l G n v r (j)) ln_X7_36 rfl rfl (Nat.le_of_ble_eq_true rfl) hl.1 ⟨Nat.le_of_ble_eq_true rfl, Nat.le_of_ble_eq_true rfl⟩ ⟨Nat.le_refl _, Nat.le_refl _⟩ dX7_referring_21 (fun x1735 H locs h1734 HX1736 => ?_)
        subst h1734
        refine lv_bipush (v := nI (6)) hx hb dX7_referring_24 (by decide) ?_
        refine fa_iaddN hx hb dX7_referring_26 ?_
        refine fa_iald (k := 398) (j := 17 + 15 * j + 6) CX HX1736 (by omega) rfl (by omega) (by first | decide | assumption) dX7_referring_27 ?_
        refine lv_iload_n hx hb dX7_referring_28 rfl (lv_at hl 1 rfl) ?_
        refine lv_icmp_ne (tgt := 36) hx hb dX7_referring_29 (by decide) (fun c_29 => ?_) (fun c_29 => ?_)
        · refine lv_iconst (v := nI (0)) hx hb dX7_referring_36 (by decide) ?_
          refine lv_iadd hx hb dX7_referring_37 ?_
          refine lv_istore_n (lv' := [(2, .int ((ac) + (nI (0)))), (0, .ref (fa_B G + (397))), (1, .int (a1)), (3, .int (nI (j)))]) hx hb dX7_referring_38 rfl hl (by decide) rfl (fun ls hl => ?_)
          refine lv_iinc (v := nI (j + 1)) (lv' := [(3, .int (nI (j + 1))), (2, .int ((ac) + (nI (0)))), (0, .ref (fa_B G + (397))), (1, .int (a1))]) hx hb dX7_referring_39 hl (k := 3) rfl (nI_add (j) 1) (by decide) rfl (fun ls hl => ?_)
          refine lv_goto (tgt := 4) hx hb dX7_referring_42 (by decide) ?_
          exact ih_4 (j + 1) ((ac) + (nI (0)))  _ _ _ (by omega) (⟨by omega, by rw [hi_4.2]; exact (Int32.add_zero _).trans (fa_sum_f c_29)⟩) (lv_sub hl [2, 3, 1, 0] rfl) HX1736
        · refine lv_iconst (v := nI (1)) hx hb dX7_referring_32 (by decide) ?_
          refine lv_goto (tgt := 37) hx hb dX7_referring_33 (by decide) ?_
          refine lv_iadd hx hb dX7_referring_37 ?_
          refine lv_istore_n (lv' := [(2, .int ((ac) + (nI (1)))), (0, .ref (fa_B G + (397))), (1, .int (a1)), (3, .int (nI (j)))]) hx hb dX7_referring_38 rfl hl (by decide) rfl (fun ls hl => ?_)
          refine lv_iinc (v := nI (j + 1)) (lv' := [(3, .int (nI (j + 1))), (2, .int ((ac) + (nI (1)))), (0, .ref (fa_B G + (397))), (1, .int (a1))]) hx hb dX7_referring_39 hl (k := 3) rfl (nI_add (j) 1) (by decide) rfl (fun ls hl => ?_)
          refine lv_goto (tgt := 4) hx hb dX7_referring_42 (by decide) ?_
          exact ih_4 (j + 1) ((ac) + (nI (1)))  _ _ _ (by omega) (⟨by omega, by rw [hi_4.2]; exact fa_sum_t (by first | exact c_29 | exact Decidable.not_not.mp c_29)⟩) (lv_sub hl [2, 3, 1, 0] rfl) HX1736
  exact LOOP_4 (n4 - 0 + 1) (0) (nI (0))  _ _ _ (Nat.lt_succ_self _) (⟨Nat.zero_le _, rfl⟩) (lv_sub hl [2, 3, 1, 0] rfl) HX
set_option maxHeartbeats 4000000 in
set_option maxRecDepth 100000 in
theorem r_ownReason (l : Launch) (G : fa_G) (n : Nat) (hn : 406 ≤ n) (v : fa_V) (r : fa_R) (hM : fa_RM r) (hS : fa_MS (v 398)) (u : Nat) (hu : u < 24) : fa_MI l G n yX7_ownReason cX7_ownReason 2 (some .int) 4 [.ref (fa_B G + (397)), .int (nI (u))] v r (fun x w => w = (v, r) ∧ (x = fb_owm (v 398) u)) := by
  refine fa_startI (by decide +kernel) (Nat.le_of_ble_eq_true rfl) (fun p e s m args below meth c ls Q CX hl HX RET => ?_)
  have hl : lv_has ls 2 [(0, .ref (fa_B G + (397))), (1, .int (nI (u)))] := hl
  have hx := CX.1.1
  have hb := CX.1.2.1
  obtain ⟨n4, en4⟩ : ∃ m, m = fa_N (v 398 14) := ⟨_, rfl⟩
  obtain ⟨hn4, g4⟩ := hS.n4 en4
  obtain ⟨n5, en5⟩ : ∃ m, m = fa_N (v 398 15) := ⟨_, rfl⟩
  obtain ⟨hn5, g5⟩ := hS.n5 en5
  obtain ⟨n6, en6⟩ : ∃ m, m = fa_N (v 398 16) := ⟨_, rfl⟩
  obtain ⟨hn6, g6⟩ := hS.n6 en6
  refine lv_aload_n hx hb dX7_ownReason_0 rfl (lv_at hl 0 rfl) ?_
  refine lv_iload_n hx hb dX7_ownReason_1 rfl (lv_at hl 1 rfl) ?_
  refine fa_callVip (As := [.int (nI (u))]) (rest := []) CX HX (r_due l G n hn v r hM hS (u) (by omega)) ln_X7_48 (by omega) rfl rfl rfl rfl (Nat.le_of_ble_eq_true rfl) hl.1 ⟨Nat.le_of_ble_eq_true rfl, Nat.le_of_ble_eq_true rfl⟩ ⟨Nat.le_refl _, Nat.le_refl _⟩ dX7_ownReason_2 (fun x1738 H locs h1737 HX1739 => ?_)
  have h_due := h1737
  refine lv_aload_n hx hb dX7_ownReason_5 rfl (lv_at hl 0 rfl) ?_
  refine fa_getr (k := 397) (j := 398) CX HX1739 fl_X7_7 (by omega) rfl rfl hM.1 dX7_ownReason_6 ?_
  refine lv_bipush (v := nI (7)) hx hb dX7_ownReason_9 (by decide) ?_
  refine fa_iald (k := 398) (j := 7) CX HX1739 (by omega) rfl (by omega) (by first | decide | assumption) dX7_ownReason_11 ?_
  refine lv_icmp_le (tgt := 19) hx hb dX7_ownReason_12 (by decide) (fun c_12 => ?_) (fun c_12 => ?_)
  · refine lv_aload_n hx hb dX7_ownReason_19 rfl (lv_at hl 0 rfl) ?_
    refine lv_iload_n hx hb dX7_ownReason_20 rfl (lv_at hl 1 rfl) ?_
    refine fa_callVip (As := [.int (nI (u))]) (rest := []) CX HX1739 (r_sealing l G n hn v r hM hS (u) (by omega)) ln_X7_51 (by omega) rfl rfl rfl rfl (Nat.le_of_ble_eq_true rfl) hl.1 ⟨Nat.le_of_ble_eq_true rfl, Nat.le_of_ble_eq_true rfl⟩ ⟨Nat.le_refl _, Nat.le_refl _⟩ dX7_ownReason_21 (fun x1741 H locs h1740 HX1742 => ?_)
    have h_sealing := h1740
    refine lv_if_le (tgt := 31) hx hb dX7_ownReason_24 (by decide) (fun c_24 => ?_) (fun c_24 => ?_)
    · refine lv_aload_n hx hb dX7_ownReason_31 rfl (lv_at hl 0 rfl) ?_
      refine lv_aload_n hx hb dX7_ownReason_32 rfl (lv_at hl 0 rfl) ?_
      refine fa_getr (k := 397) (j := 398) CX HX1742 fl_X7_7 (by omega) rfl rfl hM.1 dX7_ownReason_33 ?_
      refine lv_iload_n hx hb dX7_ownReason_36 rfl (lv_at hl 1 rfl) ?_
      refine fa_callSip (As := [.int (nI (u))]) (rest := [.ref (fa_B G + (398)), .ref (fa_B G + (397))]) CX HX1742 (r_f l G n v r (u)) ln_X7_36 rfl rfl (Nat.le_of_ble_eq_true rfl) hl.1 ⟨Nat.le_of_ble_eq_true rfl, Nat.le_of_ble_eq_true rfl⟩ ⟨Nat.le_refl _, Nat.le_refl _⟩ dX7_ownReason_37 (fun x1744 H locs h1743 HX1745 => ?_)
      subst h1743
      refine fa_iald (k := 398) (j := 17 + 15 * u) CX HX1745 (by omega) rfl (by omega) (by first | decide | assumption) dX7_ownReason_40 ?_
      refine fa_callVip (As := [.int (v 398 (17 + 15 * u))]) (rest := []) CX HX1745 (r_reservations l G n hn v r hM hS (v 398 (17 + 15 * u))) ln_X7_54 (by omega) rfl rfl rfl rfl (Nat.le_of_ble_eq_true rfl) hl.1 ⟨Nat.le_of_ble_eq_true rfl, Nat.le_of_ble_eq_true rfl⟩ ⟨Nat.le_refl _, Nat.le_refl _⟩ dX7_ownReason_41 (fun x1747 H locs h1746 HX1748 => ?_)
      have h_reservations := h1746
      refine lv_if_le (tgt := 51) hx hb dX7_ownReason_44 (by decide) (fun c_44 => ?_) (fun c_44 => ?_)
      · refine lv_iconst (v := nI (0)) hx hb dX7_ownReason_51 (by decide) ?_
        exact RET _ _ _ _ _ _ _ HX1748 dX7_ownReason_52 (⟨rfl, (by unfold fb_owm; rw [← h_due, if_pos c_12, ← h_sealing, if_pos c_24, ← h_reservations, if_pos c_44]; rfl)⟩)
      · refine lv_iconst (v := nI (3)) hx hb dX7_ownReason_47 (by decide) ?_
        refine lv_goto (tgt := 52) hx hb dX7_ownReason_48 (by decide) ?_
        exact RET _ _ _ _ _ _ _ HX1748 dX7_ownReason_52 (⟨rfl, (by unfold fb_owm; rw [← h_due, if_pos c_12, ← h_sealing, if_pos c_24, ← h_reservations, if_neg c_44])⟩)
    · refine lv_iconst (v := nI (2)) hx hb dX7_ownReason_27 (by decide) ?_
      refine lv_goto (tgt := 52) hx hb dX7_ownReason_28 (by decide) ?_
      exact RET _ _ _ _ _ _ _ HX1742 dX7_ownReason_52 (⟨rfl, (by unfold fb_owm; rw [← h_due, if_pos c_12, ← h_sealing, if_neg c_24])⟩)
  · refine lv_iconst (v := nI (1)) hx hb dX7_ownReason_15 (by decide) ?_
    refine lv_goto (tgt := 52) hx hb dX7_ownReason_16 (by decide) ?_
    exact RET _ _ _ _ _ _ _ HX1739 dX7_ownReason_52 (⟨rfl, (by unfold fb_owm; rw [← h_due, if_neg (Int32.not_le.mpr (Int32.not_le.mp c_12))])⟩)
/-! WHAT STAYS: the reference's marks -/
theorem fb_mA.tgt {f : Nat → Int32} {A : fb_At} (h : fb_mA f A) (hok : fb_okA A) {j : Nat} (hj : j < A.n) : (fb_plm f (f (17 + 15 * j + 6)) = (-1 : Int32) ∧ ∀ i, i < A.n → ¬ A.F i 0 = A.F j 6) ∨ ∃ p, p < A.n ∧ fb_plm f (f (17 + 15 * j + 6)) = nI p ∧ A.F p 0 = A.F j 6 := by
  rw [h.F hj (i := 6) (by decide)]
  rcases h.pl hok (A.F j 6) with ⟨h1, h2⟩ | ⟨p, h1, h2, -, h4⟩
  · rcases fb_ix_elim A.n (F := A.F) (a := A.F j 6) with ⟨-, z⟩ | ⟨p, z, -⟩
    · exact Or.inl ⟨h1, z⟩
    · rw [h2] at z
      cases z
  · exact Or.inr ⟨p, h1, h2, h4⟩
def fb_t1 (A : fb_At) (w : Nat → Int32) (j : Nat) : Prop := ∀ p, p < j → w p = if fb_ownA A p = 0 then nI 0 else nI 1
def fb_t2 (A : fb_At) (w : Nat → Int32) : Prop := (∀ p, p < A.n → w p = nI 0 ∨ w p = nI 1) ∧ (∀ p, p < A.n → ¬ fb_ownA A p = 0 → ¬ w p = 0) ∧ ∀ S : Nat → Prop, fb_clos A S → ∀ p, p < A.n → ¬ w p = 0 → S p
def fb_t3 (A : fb_At) (w : Nat → Int32) (mi : Int32) (j : Nat) : Prop := fb_t2 A w ∧ (mi = 0 → ∀ k, k < j → k < A.n → ∀ i, i < A.n → A.F i 0 = A.F k 6 → ¬ w k = 0 → ¬ w i = 0)
theorem fb_own_le (A : fb_At) (p : Nat) : fb_ownA A p ≤ 0 ↔ fb_ownA A p = 0 := by
  unfold fb_ownA
  split
  · split
    · split <;> decide
    · decide
  · decide
theorem fb_t1.s {A : fb_At} {v : fa_V} {j : Nat} {x y : Int32} (h : fb_t1 A (v 402) j) (hx : x = fb_ownA A j) (hy : y = if x ≤ 0 then nI 0 else nI 1) : fb_t1 A (fa_u v 402 j y 402) (j + 1) := fun p hp => by
  by_cases z : p = j
  · rw [z, fa_u_s, hy, hx]
    by_cases o : fb_ownA A j = 0
    · rw [if_pos o, if_pos ((fb_own_le A j).mpr o)]
    · rw [if_neg o, if_neg (fun q => o ((fb_own_le A j).mp q))]
  · rw [fa_u_n _ _ (fun q => z q.2)]
    exact h p (by omega)
theorem fb_t1.e {A : fb_At} {w : Nat → Int32} {mo : Int32} (h : fb_t1 A w A.n) (hm : ¬ mo = 0) : fb_t3 A w mo A.n := by
  refine ⟨⟨fun p hp => ?_, fun p hp ho => ?_, fun S hS p hp hw => ?_⟩, fun z => absurd z hm⟩
  · rw [h p hp]
    by_cases o : fb_ownA A p = 0
    · exact Or.inl (if_pos o)
    · exact Or.inr (if_neg o)
  · rw [h p hp, if_neg ho]; decide
  · refine hS.1 p hp (fun o => hw ?_)
    rw [h p hp, if_pos o]; rfl
theorem fb_t3.z {A : fb_At} {w : Nat → Int32} {mi mo : Int32} {j : Nat} (h : fb_t3 A w mi j) : fb_t3 A w mo 0 := ⟨h.1, fun _ k hk => absurd hk (Nat.not_lt_zero _)⟩
theorem fb_t3.at {A : fb_At} {w : Nat → Int32} {mi : Int32} {j : Nat} (h : fb_t3 A w mi j) (hj : ∀ i, i < A.n → A.F i 0 = A.F j 6 → ¬ w j = 0 → ¬ w i = 0) : fb_t3 A w mi (j + 1) := ⟨h.1, fun m k hk hn i hi e hk0 => by
  by_cases z : k = j
  · rw [z] at e hk0; exact hj i hi e hk0
  · exact h.2 m k (by omega) hn i hi e hk0⟩
theorem fb_t3.no {A : fb_At} {f w : Nat → Int32} {mi x : Int32} {j : Nat} (hok : fb_okA A) (hc : fb_mA f A) (h : fb_t3 A w mi j) (hj : j < A.n) (hx : x = fb_plm f (f (17 + 15 * j + 6))) (c : x = (-1 : Int32)) : fb_t3 A w mi (j + 1) := h.at (fun i hi e _ => by
  rcases hc.tgt hok hj with ⟨-, z⟩ | ⟨p, hp, z, -⟩
  · exact absurd e (z i hi)
  · rw [← hx, c] at z
    exact absurd z.symm (fb_nI_ne1 (by have := hc.2.1.1; omega)))
theorem fb_mA.tp {f : Nat → Int32} {A : fb_At} {j tp : Nat} {x : Int32} (hc : fb_mA f A) (hok : fb_okA A) (hj : j < A.n) (hx : x = fb_plm f (f (17 + 15 * j + 6))) (ht : tp < 24) (et : x = nI tp) : tp < A.n ∧ A.F tp 0 = A.F j 6 := by
  rcases hc.tgt hok hj with ⟨z, -⟩ | ⟨p, hp, z, e⟩
  · rw [← hx, et] at z
    exact absurd z (fb_nI_ne1 (by omega))
  · rw [← hx, et] at z
    have : tp = p := fa_nIinj (by omega) (by have := hc.2.1.1; omega) z
    rw [this]
    exact ⟨hp, e⟩
theorem fb_t3.ne {A : fb_At} {f w : Nat → Int32} {mi x : Int32} {j tp : Nat} (hok : fb_okA A) (hc : fb_mA f A) (h : fb_t3 A w mi j) (hj : j < A.n) (hx : x = fb_plm f (f (17 + 15 * j + 6))) (ht : tp < 24) (et : x = nI tp) (c : ¬ w tp = 0) : fb_t3 A w mi (j + 1) := h.at (fun i hi e _ => by
  obtain ⟨h1, h2⟩ := hc.tp hok hj hx ht et
  have : i = tp := hok.num hi h1 (by rw [e, h2])
  rw [this]
  exact c)
theorem fb_t3.wr {A : fb_At} {f : Nat → Int32} {v : fa_V} {mi x : Int32} {j tp : Nat} (hok : fb_okA A) (hc : fb_mA f A) (h : fb_t3 A (v 402) mi j) (hj : j < A.n) (hx : x = fb_plm f (f (17 + 15 * j + 6))) (ht : tp < 24) (et : x = nI tp) (c : ¬ v 402 j = 0) : fb_t3 A (fa_u v 402 tp (nI 1) 402) (nI 1) (j + 1) := by
  obtain ⟨h1, h2⟩ := hc.tp hok hj hx ht et
  refine ⟨⟨fun p hp => ?_, fun p hp ho => ?_, fun S hS p hp hw => ?_⟩, fun z => absurd z (by decide)⟩
  · by_cases z : p = tp
    · rw [z, fa_u_s]; exact Or.inr rfl
    · rw [fa_u_n _ _ (fun q => z q.2)]; exact h.1.1 p hp
  · by_cases z : p = tp
    · rw [z, fa_u_s]; decide
    · rw [fa_u_n _ _ (fun q => z q.2)]; exact h.1.2.1 p hp ho
  · by_cases z : p = tp
    · rw [z]; exact hS.2 j tp hj h1 (h.1.2.2 S hS j hj c) h2
    · rw [fa_u_n _ _ (fun q => z q.2)] at hw; exact h.1.2.2 S hS p hp hw
theorem fb_t3.e {A : fb_At} {w : Nat → Int32} (h : fb_t3 A w 0 A.n) {p : Nat} (hp : p < A.n) : w p = if fb_stb A p = true then nI 1 else nI 0 := by
  have st : fb_stay A p ↔ ¬ w p = 0 := by
    constructor
    · intro s
      exact s (fun q => q < A.n → ¬ w q = 0) ⟨fun k hk ho _ => h.1.2.1 k hk ho, fun k j hk hj a e _ => h.2 rfl k hk hk j hj e (a hk)⟩ hp
    · intro z
      exact h.1.2.2 (fb_stay A) fb_stay.clos p hp z
  rcases h.1.1 p hp with z | z
  · rw [z, if_neg (fun y => (st.mp (fb_stb_t.mp y)) (by rw [z]; rfl))]
  · rw [z, if_pos (fb_stb_t.mpr (st.mpr (by rw [z]; decide)))]
set_option maxHeartbeats 4000000 in
set_option maxRecDepth 100000 in
theorem r_tellStaying (l : Launch) (G : fa_G) (n : Nat) (hn : 406 ≤ n) (v : fa_V) (r : fa_R) (hM : fa_RM r) (hS : fa_MS (v 398)) : fa_MV l G n yX7_tellStaying cX7_tellStaying 4 5 [.ref (fa_B G + (397))] v r (fa_vo r (fun v1 => ((∀ A, fb_okA A → fb_mA (v 398) A → ∀ p, p < A.n → v1 402 p = if fb_stb A p = true then nI 1 else nI 0)) ∧ (fa_fr (402) (403) v v1))) := by
  refine fa_startV (by decide +kernel) (Nat.le_of_ble_eq_true rfl) (fun p e s m args below meth c ls Q CX hl HX RET => ?_)
  have hl : lv_has ls 4 [(0, .ref (fa_B G + (397)))] := hl
  have hx := CX.1.1
  have hb := CX.1.2.1
  obtain ⟨n4, en4⟩ : ∃ m, m = fa_N (v 398 14) := ⟨_, rfl⟩
  obtain ⟨hn4, g4⟩ := hS.n4 en4
  obtain ⟨n5, en5⟩ : ∃ m, m = fa_N (v 398 15) := ⟨_, rfl⟩
  obtain ⟨hn5, g5⟩ := hS.n5 en5
  obtain ⟨n6, en6⟩ : ∃ m, m = fa_N (v 398 16) := ⟨_, rfl⟩
  obtain ⟨hn6, g6⟩ := hS.n6 en6
  refine lv_iconst (v := nI (0)) hx hb dX7_tellStaying_0 (by decide) ?_
  refine lv_istore_n (lv' := [(1, .int (nI (0))), (0, .ref (fa_B G + (397)))]) hx hb dX7_tellStaying_1 rfl hl (by decide) rfl (fun ls hl => ?_)
  have LOOP_2 : ∀ (fu : Nat) (j : Nat) (v1749 : fa_V) (H : Heap) (locs : List Loc) (ls : Array Slot), n4 - j < fu → (j ≤ n4 ∧ fa_fr 402 403 v v1749 ∧ (∀ A, fb_okA A → fb_mA (v 398) A → fb_t1 A (v1749 402) j)) → lv_has ls 4 [(0, .ref (fa_B G + (397))), (1, .int (nI (j)))] → fa_HX G (n) v1749 r s H locs → W p l e (fa_rm 5) s m args below meth c H locs (0) (0) Q (F0 m 2 ls []) := by
    intro fu
    induction fu with
    | zero => intro j v1749 H locs ls hk; exact absurd hk (Nat.not_lt_zero _)
    | succ fu ih_2 =>
      intro j v1749 H locs ls hk_2 hi_2 hl HX1750
      refine lv_iload_n hx hb dX7_tellStaying_2 rfl (lv_at hl 1 rfl) ?_
      refine lv_aload_n hx hb dX7_tellStaying_3 rfl (lv_at hl 0 rfl) ?_
      refine fa_getr (k := 397) (j := 398) CX HX1750 fl_X7_7 (by omega) rfl rfl hM.1 dX7_tellStaying_4 ?_
      refine lv_bipush (v := nI (14)) hx hb dX7_tellStaying_7 (by decide) ?_
      refine fa_iald (k := 398) (j := 14) CX HX1750 (by omega) rfl (by omega) (by first | decide | assumption) dX7_tellStaying_9 ?_
      rw [show v1749 398 14 = nI (n4) from (by rw [hi_2.2.1 _ (by omega)]; exact g4)]
      refine lv_icmp_ge (tgt := 38) hx hb dX7_tellStaying_10 (by decide) (fun c_10 => ?_) (fun c_10 => ?_)
      · have hjn : j = n4 := by
          have := fa_leN (by omega) (by omega) c_10
          omega
        refine lv_iconst (v := nI (1)) hx hb dX7_tellStaying_38 (by decide) ?_
        refine lv_istore_n (lv' := [(1, .int (nI (1))), (0, .ref (fa_B G + (397)))]) hx hb dX7_tellStaying_39 rfl hl (by decide) rfl (fun ls hl => ?_)
        have LOOP_40 : ∀ (fu : Nat) (mo : Int32) (v1751 : fa_V) (H : Heap) (locs : List Loc) (ls : Array Slot), 2 * fa_cnt (v1751 402) 24 + (if mo = 0 then 0 else 1) < fu → ((fa_fr 402 403 v v1751) ∧ (∀ A, fb_okA A → fb_mA (v 398) A → fb_t3 A (v1751 402) mo A.n)) → lv_has ls 4 [(0, .ref (fa_B G + (397))), (1, .int (mo))] → fa_HX G (n) v1751 r s H locs → W p l e (fa_rm 5) s m args below meth c H locs (0) (0) Q (F0 m 40 ls []) := by
          intro fu
          induction fu with
          | zero => intro mo v1751 H locs ls hk; exact absurd hk (Nat.not_lt_zero _)
          | succ fu ih_40 =>
            intro mo v1751 H locs ls hk_40 hi_40 hl HX1752
            refine lv_iload_n hx hb dX7_tellStaying_40 rfl (lv_at hl 1 rfl) ?_
            refine lv_if_eq (tgt := 117) hx hb dX7_tellStaying_41 (by decide) (fun c_41 => ?_) (fun c_41 => ?_)
            · exact RET _ _ _ _ _ _ HX1752 dX7_tellStaying_117 (⟨rfl, ⟨(fun A hok hc p hp => fb_t3.e (by have z := hi_40.2 A hok hc; rw [c_41] at z; exact z) hp), (fa_fr.tr fa_fr.rf (fa_fr.wide hi_40.1 (by omega) (by omega)))⟩⟩)
            · refine lv_iconst (v := nI (0)) hx hb dX7_tellStaying_44 (by decide) ?_
              refine lv_istore_n (lv' := [(1, .int (nI (0))), (0, .ref (fa_B G + (397)))]) hx hb dX7_tellStaying_45 rfl hl (by decide) rfl (fun ls hl => ?_)
              refine lv_iconst (v := nI (0)) hx hb dX7_tellStaying_46 (by decide) ?_
              refine lv_istore_n (lv' := [(2, .int (nI (0))), (1, .int (nI (0))), (0, .ref (fa_B G + (397)))]) hx hb dX7_tellStaying_47 rfl hl (by decide) rfl (fun ls hl => ?_)
              have LOOP_48 : ∀ (fu : Nat) (pl : Nat) (mi : Int32) (v1753 : fa_V) (H : Heap) (locs : List Loc) (ls : Array Slot), n4 - pl < fu → (pl ≤ n4 ∧ fa_fr 402 403 v v1753 ∧ ((mi = nI 0 ∧ fa_cnt (v1753 402) 24 ≤ fa_cnt (v1751 402) 24) ∨ (mi = nI 1 ∧ fa_cnt (v1753 402) 24 < fa_cnt (v1751 402) 24)) ∧ (∀ A, fb_okA A → fb_mA (v 398) A → fb_t3 A (v1753 402) mi pl)) → lv_has ls 4 [(0, .ref (fa_B G + (397))), (1, .int (mi)), (2, .int (nI (pl)))] → fa_HX G (n) v1753 r s H locs → W p l e (fa_rm 5) s m args below meth c H locs (0) (0) Q (F0 m 48 ls []) := by
                intro fu
                induction fu with
                | zero => intro pl mi v1753 H locs ls hk; exact absurd hk (Nat.not_lt_zero _)
                | succ fu ih_48 =>
                  intro pl mi v1753 H locs ls hk_48 hi_48 hl HX1754
                  refine lv_iload_n hx hb dX7_tellStaying_48 rfl (lv_at hl 2 rfl) ?_
                  refine lv_aload_n hx hb dX7_tellStaying_49 rfl (lv_at hl 0 rfl) ?_
                  refine fa_getr (k := 397) (j := 398) CX HX1754 fl_X7_7 (by omega) rfl rfl hM.1 dX7_tellStaying_50 ?_
                  refine lv_bipush (v := nI (14)) hx hb dX7_tellStaying_53 (by decide) ?_
                  refine fa_iald (k := 398) (j := 14) CX HX1754 (by omega) rfl (by omega) (by first | decide | assumption) dX7_tellStaying_55 ?_
                  rw [show v1753 398 14 = nI (n4) from (by rw [hi_48.2.1 _ (by omega)]; exact g4)]
                  refine lv_icmp_ge (tgt := 114) hx hb dX7_tellStaying_56 (by decide) (fun c_56 => ?_) (fun c_56 => ?_)
                  · have hjp : pl = n4 := by
                      have := fa_leN (by omega) (by omega) c_56
                      omega
                    refine lv_goto (tgt := 40) hx hb dX7_tellStaying_114 (by decide) ?_
                    exact ih_40 (mi) v1753 _ _ _ (fa_more hk_40 c_41 hi_48.2.2.1) (⟨(fa_fr.tr fa_fr.rf (fa_fr.wide hi_48.2.1 (by omega) (by omega))), fun A hok hc => (by have z := hi_48.2.2.2 A hok hc; rw [show pl = A.n by rw [← hc.n, ← en4]; exact hjp] at z; exact z)⟩) (lv_sub hl [0, 1] rfl) HX1754
                  · have hj := fa_ltN (by omega) (by omega) c_56
                    refine lv_aload_n hx hb dX7_tellStaying_59 rfl (lv_at hl 0 rfl) ?_
                    refine lv_aload_n hx hb dX7_tellStaying_60 rfl (lv_at hl 0 rfl) ?_
                    refine fa_getr (k := 397) (j := 398) CX HX1754 fl_X7_7 (by omega) rfl rfl hM.1 dX7_tellStaying_61 ?_
                    refine lv_iload_n hx hb dX7_tellStaying_64 rfl (lv_at hl 2 rfl) ?_
                    refine fa_callSip (As := [.int (nI (pl))]) (rest := [.ref (fa_B G + (398)), .ref (fa_B G + (397))]) CX HX1754 (r_f l G n v1753 r (pl)) ln_X7_36 rfl rfl (Nat.le_of_ble_eq_true rfl) hl.1 ⟨Nat.le_of_ble_eq_true rfl, Nat.le_of_ble_eq_true rfl⟩ ⟨Nat.le_refl _, Nat.le_refl _⟩ dX7_tellStaying_65 (fun x1756 H locs h1755 HX1757 => ?_)
                    subst h1755
                    refine lv_bipush (v := nI (6)) hx hb dX7_tellStaying_68 (by decide) ?_
                    refine fa_iaddN hx hb dX7_tellStaying_70 ?_
                    refine fa_iald (k := 398) (j := 17 + 15 * pl + 6) CX HX1757 (by omega) rfl (by omega) (by first | decide | assumption) dX7_tellStaying_71 ?_
                    refine fa_callVip (As := [.int (v1753 398 (17 + 15 * pl + 6))]) (rest := []) CX HX1757 (r_placeOf l G n hn v1753 r hM (show fa_MS (v1753 398) from by rw [hi_48.2.1 398 (by omega)]; exact hS) (v1753 398 (17 + 15 * pl + 6))) ln_X7_60 (by omega) rfl rfl rfl rfl (Nat.le_of_ble_eq_true rfl) hl.1 ⟨Nat.le_of_ble_eq_true rfl, Nat.le_of_ble_eq_true rfl⟩ ⟨Nat.le_refl _, Nat.le_refl _⟩ dX7_tellStaying_72 (fun x1759 H locs h1758 HX1760 => ?_)
                    have h_pl72 := h1758.1
                    have h_plm72 := h1758.2
                    refine lv_istore_n (lv' := [(3, .int (x1759)), (0, .ref (fa_B G + (397))), (1, .int (mi)), (2, .int (nI (pl)))]) hx hb dX7_tellStaying_75 rfl hl (by decide) rfl (fun ls hl => ?_)
                    refine lv_iload_n hx hb dX7_tellStaying_76 rfl (lv_at hl 0 rfl) ?_
                    refine lv_iconst (v := (-1 : Int32)) hx hb dX7_tellStaying_77 (by decide) ?_
                    refine lv_icmp_eq (tgt := 108) hx hb dX7_tellStaying_78 (by decide) (fun c_78 => ?_) (fun c_78 => ?_)
                    · refine lv_iinc (v := nI (pl + 1)) (lv' := [(2, .int (nI (pl + 1))), (3, .int (x1759)), (0, .ref (fa_B G + (397))), (1, .int (mi))]) hx hb dX7_tellStaying_108 hl (k := 3) rfl (nI_add (pl) 1) (by decide) rfl (fun ls hl => ?_)
                      refine lv_goto (tgt := 48) hx hb dX7_tellStaying_111 (by decide) ?_
                      exact ih_48 (pl + 1) (mi) v1753 _ _ _ (by omega) (⟨by omega, hi_48.2.1, hi_48.2.2.1, fun A hok hc => by (have hm := (show fb_mA (v1753 398) A from by rw [hi_48.2.1 398 (by omega)]; exact hc); exact (hi_48.2.2.2 A hok hc).no hok hm (by rw [← hc.n, ← en4]; exact hj) h_plm72 c_78)⟩) (lv_sub hl [2, 3, 0] rfl) HX1760
                    · obtain ⟨tp, htp, etp⟩ := h_pl72.ne c_78
                      refine lv_aload_n hx hb dX7_tellStaying_81 rfl (lv_at hl 1 rfl) ?_
                      refine fa_getr (k := 397) (j := 402) CX HX1760 fl_X7_22 (by omega) rfl rfl hM.2.2.2.2.1 dX7_tellStaying_82 ?_
                      refine lv_iload_n hx hb dX7_tellStaying_85 rfl (lv_at hl 3 rfl) ?_
                      refine fa_zald (k := 402) (j := pl) CX HX1760 (by omega) rfl (by omega) (by first | decide | assumption) dX7_tellStaying_86 ?_
                      refine lv_if_eq (tgt := 108) hx hb dX7_tellStaying_87 (by decide) (fun c_87 => ?_) (fun c_87 => ?_)
                      · refine lv_iinc (v := nI (pl + 1)) (lv' := [(2, .int (nI (pl + 1))), (3, .int (x1759)), (0, .ref (fa_B G + (397))), (1, .int (mi))]) hx hb dX7_tellStaying_108 hl (k := 3) rfl (nI_add (pl) 1) (by decide) rfl (fun ls hl => ?_)
                        refine lv_goto (tgt := 48) hx hb dX7_tellStaying_111 (by decide) ?_
                        exact ih_48 (pl + 1) (mi) v1753 _ _ _ (by omega) (⟨by omega, hi_48.2.1, hi_48.2.2.1, fun A hok hc => by (have hm := (show fb_mA (v1753 398) A from by rw [hi_48.2.1 398 (by omega)]; exact hc); exact (hi_48.2.2.2 A hok hc).at (fun i hi e y => absurd c_87 y))⟩) (lv_sub hl [2, 3, 0] rfl) HX1760
                      · refine lv_aload_n hx hb dX7_tellStaying_90 rfl (lv_at hl 1 rfl) ?_
                        refine fa_getr (k := 397) (j := 402) CX HX1760 fl_X7_22 (by omega) rfl rfl hM.2.2.2.2.1 dX7_tellStaying_91 ?_
                        refine lv_iload_n hx hb dX7_tellStaying_94 rfl (lv_at hl 0 rfl) ?_
                        rw [show x1759 = nI (tp) from etp]
                        refine fa_zald (k := 402) (j := tp) CX HX1760 (by omega) rfl (by omega) (by first | decide | assumption) dX7_tellStaying_95 ?_
                        refine lv_if_ne (tgt := 108) hx hb dX7_tellStaying_96 (by decide) (fun c_96 => ?_) (fun c_96 => ?_)
                        · refine lv_iinc (v := nI (pl + 1)) (lv' := [(2, .int (nI (pl + 1))), (3, .int (x1759)), (0, .ref (fa_B G + (397))), (1, .int (mi))]) hx hb dX7_tellStaying_108 hl (k := 3) rfl (nI_add (pl) 1) (by decide) rfl (fun ls hl => ?_)
                          refine lv_goto (tgt := 48) hx hb dX7_tellStaying_111 (by decide) ?_
                          exact ih_48 (pl + 1) (mi) v1753 _ _ _ (by omega) (⟨by omega, hi_48.2.1, hi_48.2.2.1, fun A hok hc => by (have hm := (show fb_mA (v1753 398) A from by rw [hi_48.2.1 398 (by omega)]; exact hc); exact (hi_48.2.2.2 A hok hc).ne hok hm (by rw [← hc.n, ← en4]; exact hj) h_plm72 htp etp c_96)⟩) (lv_sub hl [2, 3, 0] rfl) HX1760
                        · refine lv_aload_n hx hb dX7_tellStaying_99 rfl (lv_at hl 1 rfl) ?_
                          refine fa_getr (k := 397) (j := 402) CX HX1760 fl_X7_22 (by omega) rfl rfl hM.2.2.2.2.1 dX7_tellStaying_100 ?_
                          refine lv_iload_n hx hb dX7_tellStaying_103 rfl (lv_at hl 0 rfl) ?_
                          rw [show x1759 = nI (tp) from etp]
                          refine lv_iconst (v := nI (1)) hx hb dX7_tellStaying_104 (by decide) ?_
                          refine fa_zast (k := 402) (j := tp) CX HX1760 (by omega) rfl (by omega) (by first | decide | assumption) dX7_tellStaying_105 (fun H locs v1761 e1762 HX1763 => ?_)
                          refine lv_iconst (v := nI (1)) hx hb dX7_tellStaying_106 (by decide) ?_
                          refine lv_istore_n (lv' := [(1, .int (nI (1))), (3, .int (x1759)), (0, .ref (fa_B G + (397))), (2, .int (nI (pl)))]) hx hb dX7_tellStaying_107 rfl hl (by decide) rfl (fun ls hl => ?_)
                          refine lv_iinc (v := nI (pl + 1)) (lv' := [(2, .int (nI (pl + 1))), (1, .int (nI (1))), (3, .int (x1759)), (0, .ref (fa_B G + (397)))]) hx hb dX7_tellStaying_108 hl (k := 3) rfl (nI_add (pl) 1) (by decide) rfl (fun ls hl => ?_)
                          refine lv_goto (tgt := 48) hx hb dX7_tellStaying_111 (by decide) ?_
                          exact ih_48 (pl + 1) (nI (1)) v1761 _ _ _ (by omega) (⟨by omega, (by rw [e1762]; exact fa_fr.u (fa_fr.tr fa_fr.rf (fa_fr.wide hi_48.2.1 (by omega) (by omega))) (by omega)), Or.inr ⟨rfl, fa_more2 hi_48.2.2.1 (by rw [e1762]; exact fa_cnt_u (by omega) c_96 (by decide))⟩, fun A hok hc => by (have hm := (show fb_mA (v1753 398) A from by rw [hi_48.2.1 398 (by omega)]; exact hc); rw [e1762]; exact (hi_48.2.2.2 A hok hc).wr hok hm (by rw [← hc.n, ← en4]; exact hj) h_plm72 htp etp c_87)⟩) (lv_sub hl [3, 1, 0] rfl) HX1763
              exact LOOP_48 (n4 - 0 + 1) (0) (nI (0)) v1751 _ _ _ (Nat.lt_succ_self _) (⟨Nat.zero_le _, (fa_fr.tr fa_fr.rf (fa_fr.wide hi_40.1 (by omega) (by omega))), Or.inl ⟨rfl, Nat.le_refl _⟩, fun A hok hc => (hi_40.2 A hok hc).z⟩) (lv_sub hl [2, 1, 0] rfl) HX1752
        exact LOOP_40 (2 * fa_cnt (v1749 402) 24 + (if (nI (1)) = 0 then 0 else 1) + 1) (nI (1)) v1749 _ _ _ (Nat.lt_succ_self _) (⟨(fa_fr.tr fa_fr.rf (fa_fr.wide hi_2.2.1 (by omega) (by omega))), fun A hok hc => fb_t1.e (by have z := hi_2.2.2 A hok hc; rw [show j = A.n by rw [← hc.n, ← en4]; exact hjn] at z; exact z) (by decide)⟩) (lv_sub hl [1, 0] rfl) HX1750
      · have hj := fa_ltN (by omega) (by omega) c_10
        refine lv_aload_n hx hb dX7_tellStaying_13 rfl (lv_at hl 0 rfl) ?_
        refine fa_getr (k := 397) (j := 402) CX HX1750 fl_X7_22 (by omega) rfl rfl hM.2.2.2.2.1 dX7_tellStaying_14 ?_
        refine lv_iload_n hx hb dX7_tellStaying_17 rfl (lv_at hl 1 rfl) ?_
        refine lv_aload_n hx hb dX7_tellStaying_18 rfl (lv_at hl 0 rfl) ?_
        refine lv_iload_n hx hb dX7_tellStaying_19 rfl (lv_at hl 1 rfl) ?_
        refine fa_callVip (As := [.int (nI (j))]) (rest := [.int (nI (j)), .ref (fa_B G + (402))]) CX HX1750 (r_ownReason l G n hn v1749 r hM (show fa_MS (v1749 398) from by rw [hi_2.2.1 398 (by omega)]; exact hS) (j) (by omega)) ln_X7_57 (by omega) rfl rfl rfl rfl (Nat.le_of_ble_eq_true rfl) hl.1 ⟨Nat.le_of_ble_eq_true rfl, Nat.le_of_ble_eq_true rfl⟩ ⟨Nat.le_refl _, Nat.le_refl _⟩ dX7_tellStaying_20 (fun x1765 H locs h1764 HX1766 => ?_)
        have h_ownReason := h1764
        refine lv_if_le (tgt := 30) hx hb dX7_tellStaying_23 (by decide) (fun c_23 => ?_) (fun c_23 => ?_)
        · refine lv_iconst (v := nI (0)) hx hb dX7_tellStaying_30 (by decide) ?_
          refine fa_zast (k := 402) (j := j) CX HX1766 (by omega) rfl (by omega) (by first | decide | assumption) dX7_tellStaying_31 (fun H locs v1767 e1768 HX1769 => ?_)
          refine lv_iinc (v := nI (j + 1)) (lv' := [(1, .int (nI (j + 1))), (0, .ref (fa_B G + (397)))]) hx hb dX7_tellStaying_32 hl (k := 1) rfl (nI_add (j) 1) (by decide) rfl (fun ls hl => ?_)
          refine lv_goto (tgt := 2) hx hb dX7_tellStaying_35 (by decide) ?_
          exact ih_2 (j + 1) v1767 _ _ _ (by omega) (⟨by omega, (by rw [e1768]; exact fa_fr.u (fa_fr.tr fa_fr.rf (fa_fr.wide hi_2.2.1 (by omega) (by omega))) (by omega)), fun A hok hc => by (rw [e1768]; exact fb_t1.s (hi_2.2.2 A hok hc) (h_ownReason.trans ((show fb_mA (v1749 398) A from by rw [hi_2.2.1 398 (by omega)]; exact hc).own hok (by rw [← hc.n, ← en4]; exact hj))) (if_pos c_23).symm)⟩) (lv_sub hl [1, 0] rfl) HX1769
        · refine lv_iconst (v := nI (1)) hx hb dX7_tellStaying_26 (by decide) ?_
          refine lv_goto (tgt := 31) hx hb dX7_tellStaying_27 (by decide) ?_
          refine fa_zast (k := 402) (j := j) CX HX1766 (by omega) rfl (by omega) (by first | decide | assumption) dX7_tellStaying_31 (fun H locs v1770 e1771 HX1772 => ?_)
          refine lv_iinc (v := nI (j + 1)) (lv' := [(1, .int (nI (j + 1))), (0, .ref (fa_B G + (397)))]) hx hb dX7_tellStaying_32 hl (k := 1) rfl (nI_add (j) 1) (by decide) rfl (fun ls hl => ?_)
          refine lv_goto (tgt := 2) hx hb dX7_tellStaying_35 (by decide) ?_
          exact ih_2 (j + 1) v1770 _ _ _ (by omega) (⟨by omega, (by rw [e1771]; exact fa_fr.u (fa_fr.tr fa_fr.rf (fa_fr.wide hi_2.2.1 (by omega) (by omega))) (by omega)), fun A hok hc => by (rw [e1771]; exact fb_t1.s (hi_2.2.2 A hok hc) (h_ownReason.trans ((show fb_mA (v1749 398) A from by rw [hi_2.2.1 398 (by omega)]; exact hc).own hok (by rw [← hc.n, ← en4]; exact hj))) (if_neg c_23).symm)⟩) (lv_sub hl [1, 0] rfl) HX1772
  exact LOOP_2 (n4 - 0 + 1) (0) v _ _ _ (Nat.lt_succ_self _) (⟨Nat.zero_le _, fa_fr.rf, fun _ _ _ p hp => absurd hp (Nat.not_lt_zero _)⟩) (lv_sub hl [1, 0] rfl) HX
/-! TRACES in the reference's row -/
def fb_mT (f : Nat → Int32) (m : Nat) (T : Nat → Nat → Int32) : Prop := m ≤ 12 ∧ f 16 = nI m ∧ ∀ p i, p < m → i < 5 → f (393 + 5 * p + i) = T p i
theorem fb_m_lvw {w v1 v2 v3 v4 v5 v6 : fa_V} {u d : Nat} (hu : u < 24) (hd : d < 12) (e1 : v1 = fa_u w 398 (393 + 5 * d) (w 398 (17 + 15 * u))) (e2 : v2 = fa_u v1 398 (393 + 5 * d + 1) (v1 398 (17 + 15 * u + 1))) (e3 : v3 = fa_u v2 398 (393 + 5 * d + 2) (v2 398 (17 + 15 * u + 2)))
    (e4 : v4 = fa_u v3 398 (393 + 5 * d + 3) (v3 398 7)) (e5 : v5 = fa_u v4 398 (393 + 5 * d + 4) (v4 398 (17 + 15 * u + 5))) (e6 : v6 = fa_u v5 398 16 (nI (d + 1))) :
    (∀ i, ¬ i = 16 → ¬ (393 + 5 * d ≤ i ∧ i < 393 + 5 * d + 5) → v6 398 i = w 398 i) ∧ v6 398 16 = nI (d + 1) ∧ ∀ i, i < 5 → v6 398 (393 + 5 * d + i) = if i = 3 then w 398 7 else if i = 4 then w 398 (17 + 15 * u + 5) else w 398 (17 + 15 * u + i) := by
  have a1 : ∀ i, ¬ i = 393 + 5 * d → v1 398 i = w 398 i := fun i h => by rw [e1]; exact fa_u_n _ _ (fun z => h z.2)
  have a2 : ∀ i, ¬ i = 393 + 5 * d + 1 → v2 398 i = v1 398 i := fun i h => by rw [e2]; exact fa_u_n _ _ (fun z => h z.2)
  have a3 : ∀ i, ¬ i = 393 + 5 * d + 2 → v3 398 i = v2 398 i := fun i h => by rw [e3]; exact fa_u_n _ _ (fun z => h z.2)
  have a4 : ∀ i, ¬ i = 393 + 5 * d + 3 → v4 398 i = v3 398 i := fun i h => by rw [e4]; exact fa_u_n _ _ (fun z => h z.2)
  have a5 : ∀ i, ¬ i = 393 + 5 * d + 4 → v5 398 i = v4 398 i := fun i h => by rw [e5]; exact fa_u_n _ _ (fun z => h z.2)
  have a6 : ∀ i, ¬ i = 16 → v6 398 i = v5 398 i := fun i h => by rw [e6]; exact fa_u_n _ _ (fun z => h z.2)
  refine ⟨fun i h1 h2 => ?_, by rw [e6, fa_u_s], fun i hi => ?_⟩
  · rw [a6 i h1, a5 i (by omega), a4 i (by omega), a3 i (by omega), a2 i (by omega), a1 i (by omega)]
  · rw [a6 _ (by omega)]
    have : i = 0 ∨ i = 1 ∨ i = 2 ∨ i = 3 ∨ i = 4 := by omega
    rcases this with z | z | z | z | z
    · rw [z, if_neg (by decide), if_neg (by decide), a5 _ (by omega), a4 _ (by omega), a3 _ (by omega), a2 _ (by omega), e1]
      exact fa_u_s _ _ _ _
    · rw [z, if_neg (by decide), if_neg (by decide), a5 _ (by omega), a4 _ (by omega), a3 _ (by omega), e2, fa_u_s, a1 _ (by omega)]
    · rw [z, if_neg (by decide), if_neg (by decide), a5 _ (by omega), a4 _ (by omega), e3, fa_u_s, a2 _ (by omega), a1 _ (by omega)]
    · rw [z, if_pos rfl, a5 _ (by omega), e4, fa_u_s, a3 _ (by omega), a2 _ (by omega), a1 _ (by omega)]
    · rw [z, if_neg (by decide), if_pos rfl, e5, fa_u_s, a4 _ (by omega), a3 _ (by omega), a2 _ (by omega), a1 _ (by omega)]
def fb_mLV (f f1 : Nat → Int32) (u : Nat) : Prop := (∀ i, i < 393 → ¬ i = 16 → f1 i = f i) ∧ ∀ m T, fb_mT f m T → fb_mT f1 (fb_lv (f 7) (fun i => f (17 + 15 * u + i)) (m, T)).1 (fb_lv (f 7) (fun i => f (17 + 15 * u + i)) (m, T)).2
theorem fb_m_lv1 {w v1 v2 v3 v4 v5 v6 : fa_V} {u d : Nat} (hu : u < 24) (hd : d < 12) (g6 : w 398 16 = nI d) (e1 : v1 = fa_u w 398 (393 + 5 * d) (w 398 (17 + 15 * u))) (e2 : v2 = fa_u v1 398 (393 + 5 * d + 1) (v1 398 (17 + 15 * u + 1))) (e3 : v3 = fa_u v2 398 (393 + 5 * d + 2) (v2 398 (17 + 15 * u + 2)))
    (e4 : v4 = fa_u v3 398 (393 + 5 * d + 3) (v3 398 7)) (e5 : v5 = fa_u v4 398 (393 + 5 * d + 4) (v4 398 (17 + 15 * u + 5))) (e6 : v6 = fa_u v5 398 16 (nI (d + 1))) : fb_mLV (w 398) (v6 398) u := by
  obtain ⟨h1, h2, h3⟩ := fb_m_lvw hu hd e1 e2 e3 e4 e5 e6
  refine ⟨fun i hi hne => h1 i hne (by omega), fun m T hT => ?_⟩
  obtain ⟨t1, t2, t3⟩ := hT
  have em : d = m := fa_nIinj (by omega) (by omega) (g6.symm.trans t2)
  subst em
  have e : fb_lv (w 398 7) (fun i => w 398 (17 + 15 * u + i)) (d, T) = (d + 1, fun p i => if p = d then (if i = 3 then w 398 7 else if i = 4 then w 398 (17 + 15 * u + 5) else w 398 (17 + 15 * u + i)) else T p i) := if_neg (show ¬ d = 12 by omega)
  rw [e]
  refine ⟨by show d + 1 ≤ 12; omega, h2, fun p i hp hi => ?_⟩
  have hp' : p < d + 1 := hp
  show _ = if p = d then _ else _
  by_cases z : p = d
  · rw [if_pos z, z]; exact h3 i hi
  · rw [if_neg z, h1 _ (by omega) (by omega)]; exact t3 p i (by omega) hi
theorem fb_m_lv2 {v w v1 v2 v3 v4 v5 v6 w0 : fa_V} {u d n6 : Nat} (hu : u < 24) (hn : n6 = 12) (hd : d = n6 - 1) (g6 : v 398 16 = nI n6) (hw : ∀ i, w0 398 i = if 393 ≤ i ∧ i < 448 then v 398 (i + 5) else v 398 i) (e0 : w = fa_u w0 398 16 (nI d)) (e1 : v1 = fa_u w 398 (393 + 5 * d) (w 398 (17 + 15 * u))) (e2 : v2 = fa_u v1 398 (393 + 5 * d + 1) (v1 398 (17 + 15 * u + 1))) (e3 : v3 = fa_u v2 398 (393 + 5 * d + 2) (v2 398 (17 + 15 * u + 2)))
    (e4 : v4 = fa_u v3 398 (393 + 5 * d + 3) (v3 398 7)) (e5 : v5 = fa_u v4 398 (393 + 5 * d + 4) (v4 398 (17 + 15 * u + 5))) (e6 : v6 = fa_u v5 398 16 (nI (d + 1))) : fb_mLV (v 398) (v6 398) u := by
  subst hn
  have hd : d = 11 := hd
  subst hd
  obtain ⟨h1, h2, h3⟩ := fb_m_lvw hu (by decide) e1 e2 e3 e4 e5 e6
  have lo : ∀ i, i < 393 → ¬ i = 16 → w 398 i = v 398 i := fun i hi hne => by
    rw [e0, fa_u_n _ _ (fun z => hne z.2), hw, if_neg (by omega)]
  refine ⟨fun i hi hne => by rw [h1 i hne (by omega), lo i hi hne], fun m T hT => ?_⟩
  obtain ⟨t1, t2, t3⟩ := hT
  have em : 12 = m := fa_nIinj (by omega) (by omega) (g6.symm.trans t2)
  subst em
  have e : fb_lv (v 398 7) (fun i => v 398 (17 + 15 * u + i)) (12, T) = (12, fun p i => if p = 11 then (if i = 3 then v 398 7 else if i = 4 then v 398 (17 + 15 * u + 5) else v 398 (17 + 15 * u + i)) else T (p + 1) i) := if_pos rfl
  rw [e]
  refine ⟨Nat.le_refl _, h2, fun p i hp hi => ?_⟩
  have hp' : p < 12 := hp
  show _ = if p = 11 then _ else _
  by_cases z : p = 11
  · rw [if_pos z, z, h3 i hi, lo 7 (by decide) (by decide), lo (17 + 15 * u + 5) (by omega) (by omega), lo (17 + 15 * u + i) (by omega) (by omega)]
  · rw [if_neg z, h1 _ (by omega) (by omega), e0, fa_u_n _ _ (by omega), hw, if_pos (by omega), ← t3 (p + 1) i (by omega) hi]
    congr 1
    omega
theorem fb_m_sh {v w w1 : fa_V} {k : Nat} (h3 : 393 ≤ k) (h : ∀ i, w 398 i = if 393 ≤ i ∧ i < k then v 398 (i + 5) else v 398 i) (e : w1 = fa_u w 398 k (w 398 (k + 5))) : ∀ i, w1 398 i = if 393 ≤ i ∧ i < k + 1 then v 398 (i + 5) else v 398 i := fun i => by
  by_cases z : i = k
  · rw [if_pos (by omega), z, e, fa_u_s, h (k + 5), if_neg (by omega)]
  · rw [e, fa_u_n _ _ (fun y => z y.2), h i]
    by_cases y : 393 ≤ i ∧ i < k
    · rw [if_pos y, if_pos (by omega)]
    · rw [if_neg y, if_neg (by omega)]
