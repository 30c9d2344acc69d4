/-! WHAT THE CLASS'S STATE AT b HOLDS -/
def fb_e6 (x : Int32) : Int32 := if x = (-6 : Int32) then (-1 : Int32) else if x = (-1 : Int32) then (-6 : Int32) else x
def fb_cw (v : fa_V) (r : fa_R) (b p i : Nat) : Int32 := if i = 4 ∨ i = 6 then fb_e6 (v (fa_pf r b p) i) else if i < 7 then v (fa_pf r b p) i else v (fa_pf r b p + 1) (i - 7) + 1
def fb_inj (r : fa_R) (b : Nat) : Prop := ∀ p k, p < 24 → k < 24 → fa_pf r b p = fa_pf r b k → p = k
def fb_cG (v : fa_V) (b : Nat) (g : Nat → Int32) : Prop := (∀ k, k < 7 → v (b + 7) k = g k) ∧ v b 0 = g 7 ∧ ∀ k, 8 ≤ k → k < 14 → v b (k - 6) = g k
def fb_cF (v : fa_V) (r : fa_R) (b n : Nat) (F : Nat → Nat → Int32) : Prop := n ≤ 24 ∧ v b 1 = nI n ∧ ∀ p i, p < n → i < 15 → fb_cw v r b p i = F p i
def fb_bef (x y : Int32 × Int32) : Prop := x.2 < y.2 ∨ (x.2 = y.2 ∧ x.1 < y.1)
/-- the class's row of reservations is L -/
def fb_cL (v : fa_V) (b : Nat) (L : List (Int32 × Int32)) : Prop := v (b + 2) 0 = nI L.length ∧ L.length ≤ 8 ∧ ∀ p y, L[p]? = some y → v (b + 3) p = y.1 ∧ v (b + 4) p = y.2
def fb_cQ (v : fa_V) (b : Nat) (q : List (Int32 × Int32)) : Prop := ∃ L, fb_cL v b L ∧ L.Perm q ∧ L.Pairwise fb_bef
def fb_cT (v : fa_V) (b m : Nat) (T : Nat → Nat → Int32) : Prop := m ≤ 12 ∧ v (b + 5) 0 = nI m ∧ ∀ p i, p < m → i < 5 → v (b + 6) (5 * p + i) = T p i
def fb_cA (v : fa_V) (r : fa_R) (b : Nat) (A : fb_At) : Prop := fa_RS r b ∧ fb_inj r b ∧ fb_cG v b A.g ∧ fb_cF v r b A.n A.F ∧ fb_cQ v b A.q ∧ fb_cT v b A.m A.T
theorem fb_pf_at2 {r : fa_R} {b p : Nat} (hr : fa_RS r b) (hp : p < 24) : ∃ j, j < 24 ∧ fa_pf r b p = b + 8 + 2 * j := by
  obtain ⟨j, hj, e⟩ := fa_pf_isF hr hp
  exact ⟨j, hj, e⟩
theorem fb_cG.congr {v v1 : fa_V} {b : Nat} {g : Nat → Int32} (h : fb_cG v b g) (h0 : v1 b = v b) (h7 : v1 (b + 7) = v (b + 7)) : fb_cG v1 b g :=
  ⟨fun k hk => by rw [h7]; exact h.1 k hk, by rw [h0]; exact h.2.1, fun k h1 h2 => by rw [h0]; exact h.2.2 k h1 h2⟩
theorem fb_cw_congr {v v1 : fa_V} {r r1 : fa_R} {b p : Nat} (hp : fa_pf r1 b p = fa_pf r b p) (h0 : ∀ i, i < 7 → v1 (fa_pf r b p) i = v (fa_pf r b p) i) (h1 : ∀ h, h < 8 → v1 (fa_pf r b p + 1) h = v (fa_pf r b p + 1) h) {i : Nat} (hi : i < 15) : fb_cw v1 r1 b p i = fb_cw v r b p i := by
  unfold fb_cw
  rw [hp]
  split
  · rename_i z
    rw [h0 i (by omega)]
  · split
    · rename_i z
      rw [h0 i z]
    · rw [h1 (i - 7) (by omega)]
theorem fb_cL.congr {v v1 : fa_V} {b : Nat} {L : List (Int32 × Int32)} (h : fb_cL v b L) (h2 : v1 (b + 2) 0 = v (b + 2) 0) (h3 : v1 (b + 3) = v (b + 3)) (h4 : v1 (b + 4) = v (b + 4)) : fb_cL v1 b L :=
  ⟨by rw [h2]; exact h.1, h.2.1, fun p y e => by rw [h3, h4]; exact h.2.2 p y e⟩
theorem fb_cT.congr {v v1 : fa_V} {b m : Nat} {T : Nat → Nat → Int32} (h : fb_cT v b m T) (h5 : v1 (b + 5) 0 = v (b + 5) 0) (h6 : v1 (b + 6) = v (b + 6)) : fb_cT v1 b m T :=
  ⟨h.1, by rw [h5]; exact h.2.1, fun p i hp hi => by rw [h6]; exact h.2.2 p i hp hi⟩
theorem fb_pf_congr {r r1 : fa_R} {b p : Nat} (h : r1 (b + 1) = r (b + 1)) : fa_pf r1 b p = fa_pf r b p := by unfold fa_pf; rw [h]
theorem fb_inj.congr {r r1 : fa_R} {b : Nat} (h : fb_inj r b) (e : r1 (b + 1) = r (b + 1)) : fb_inj r1 b := fun p k hp hk q => by
  rw [fb_pf_congr e, fb_pf_congr e] at q
  exact h p k hp hk q
/-- rows of the State that stay, reasons apart -/
theorem fb_cA.rsn {v v1 : fa_V} {r : fa_R} {b : Nat} {A : fb_At} (h : fb_cA v r b A) (hf : fa_rsn b v v1) : fb_cA v1 r b A := by
  obtain ⟨h1, h2, h3, h4, ⟨L, h5, h5b⟩, h6⟩ := h
  have row : ∀ k, (k < b + 8) → v1 k = v k := fun k hk => by
    funext i
    exact hf k i (fun z => by have := fa_isF_in z.1; omega)
  refine ⟨h1, h2, h3.congr (row _ (by omega)) (row _ (by omega)), ⟨h4.1, by rw [row b (by omega)]; exact h4.2.1, fun p i hp hi => ?_⟩, ⟨L, h5.congr (by rw [row _ (by omega)]) (row _ (by omega)) (row _ (by omega)), h5b⟩, h6.congr (by rw [row _ (by omega)]) (row _ (by omega))⟩
  have hp24 : p < 24 := Nat.lt_of_lt_of_le hp h4.1
  obtain ⟨j, hj, e⟩ := fb_pf_at2 h1 hp24
  rw [fb_cw_congr rfl (fun i hi => hf _ i (fun z => by omega)) (fun i hi => hf _ i (fun z => by obtain ⟨j2, hj2, e2⟩ := z.1; omega)) hi]
  exact h4.2.2 p i hp hi
theorem fb_cA.congr {v v1 : fa_V} {r r1 : fa_R} {b : Nat} {A : fb_At} (h : fb_cA v r b A) (hv : ∀ k, b ≤ k → k < b + 56 → v1 k = v k) (hr : fa_RS r1 b) (hr1 : r1 (b + 1) = r (b + 1)) : fb_cA v1 r1 b A := by
  obtain ⟨h1, h2, h3, h4, ⟨L, h5, h5b⟩, h6⟩ := h
  refine ⟨hr, h2.congr hr1, h3.congr (hv _ (by omega) (by omega)) (hv _ (by omega) (by omega)), ⟨h4.1, by rw [hv b (by omega) (by omega)]; exact h4.2.1, fun p i hp hi => ?_⟩, ⟨L, h5.congr (by rw [hv _ (by omega) (by omega)]) (hv _ (by omega) (by omega)) (hv _ (by omega) (by omega)), h5b⟩, h6.congr (by rw [hv _ (by omega) (by omega)]) (hv _ (by omega) (by omega))⟩
  have hp24 : p < 24 := Nat.lt_of_lt_of_le hp h4.1
  obtain ⟨j, hj, e⟩ := fb_pf_at2 h1 hp24
  rw [fb_cw_congr (fb_pf_congr hr1) (fun i hi => by rw [hv _ (by omega) (by omega)]) (fun i hi => by rw [hv _ (by omega) (by omega)]) hi]
  exact h4.2.2 p i hp hi
/-- a number of the State is written -/
theorem fb_cA.ub {v : fa_V} {r : fa_R} {b k : Nat} {A : fb_At} {x : Int32} (h : fb_cA v r b A) (h8 : 8 ≤ k) (h14 : k < 14) : fb_cA (fa_u v b (k - 6) x) r b (A.sg k x) := by
  obtain ⟨h1, h2, h3, h4, ⟨L, h5, h5b⟩, h6⟩ := h
  have row : ∀ j, ¬ j = b → fa_u v b (k - 6) x j = v j := fun j hj => fa_u_k _ _ hj
  refine ⟨h1, h2, ⟨fun j hj => ?_, ?_, fun j j8 j14 => ?_⟩, ⟨h4.1, ?_, fun p i hp hi => ?_⟩, ⟨L, h5.congr (by rw [row _ (by omega)]) (row _ (by omega)) (row _ (by omega)), h5b⟩, h6.congr (by rw [row _ (by omega)]) (row _ (by omega))⟩
  · rw [row _ (by omega)]
    show _ = fb_s1 A.g k x j
    rw [fb_s1_n (by omega)]
    exact h3.1 j hj
  · rw [fa_u_n _ _ (by omega)]
    show _ = fb_s1 A.g k x 7
    rw [fb_s1_n (by omega)]
    exact h3.2.1
  · show _ = fb_s1 A.g k x j
    by_cases z : j = k
    · rw [z, fa_u_s, fb_s1_s]
    · rw [fa_u_n _ _ (by omega), fb_s1_n z]
      exact h3.2.2 j j8 j14
  · rw [fa_u_n _ _ (by omega)]
    exact h4.2.1
  · have hp24 : p < 24 := Nat.lt_of_lt_of_le hp h4.1
    obtain ⟨j, hj, e⟩ := fb_pf_at2 h1 hp24
    rw [fb_cw_congr rfl (fun i hi => by rw [row _ (by omega)]) (fun i hi => by rw [row _ (by omega)]) hi]
    exact h4.2.2 p i hp hi
theorem fb_cA.unow {v : fa_V} {r : fa_R} {b : Nat} {A : fb_At} {x : Int32} (h : fb_cA v r b A) : fb_cA (fa_u v b 0 x) r b (A.sg 7 x) := by
  obtain ⟨h1, h2, h3, h4, ⟨L, h5, h5b⟩, h6⟩ := h
  have row : ∀ j, ¬ j = b → fa_u v b 0 x j = v j := fun j hj => fa_u_k _ _ hj
  refine ⟨h1, h2, ⟨fun j hj => ?_, ?_, fun j j8 j14 => ?_⟩, ⟨h4.1, ?_, fun p i hp hi => ?_⟩, ⟨L, h5.congr (by rw [row _ (by omega)]) (row _ (by omega)) (row _ (by omega)), h5b⟩, h6.congr (by rw [row _ (by omega)]) (row _ (by omega))⟩
  · rw [row _ (by omega)]
    show _ = fb_s1 A.g 7 x j
    rw [fb_s1_n (by omega)]
    exact h3.1 j hj
  · rw [fa_u_s]
    exact (fb_s1_s A.g 7 x).symm
  · show _ = fb_s1 A.g 7 x j
    rw [fa_u_n _ _ (by omega), fb_s1_n (by omega)]
    exact h3.2.2 j j8 j14
  · rw [fa_u_n _ _ (by omega)]
    exact h4.2.1
  · have hp24 : p < 24 := Nat.lt_of_lt_of_le hp h4.1
    obtain ⟨j, hj, e⟩ := fb_pf_at2 h1 hp24
    rw [fb_cw_congr rfl (fun i hi => by rw [row _ (by omega)]) (fun i hi => by rw [row _ (by omega)]) hi]
    exact h4.2.2 p i hp hi
theorem fb_cA.uset {v : fa_V} {r : fa_R} {b k : Nat} {A : fb_At} {x : Int32} (h : fb_cA v r b A) (hk : k < 7) : fb_cA (fa_u v (b + 7) k x) r b (A.sg k x) := by
  obtain ⟨h1, h2, h3, h4, ⟨L, h5, h5b⟩, h6⟩ := h
  have row : ∀ j, ¬ j = b + 7 → fa_u v (b + 7) k x j = v j := fun j hj => fa_u_k _ _ hj
  refine ⟨h1, h2, ⟨fun j hj => ?_, ?_, fun j j8 j14 => ?_⟩, ⟨h4.1, ?_, fun p i hp hi => ?_⟩, ⟨L, h5.congr (by rw [row _ (by omega)]) (row _ (by omega)) (row _ (by omega)), h5b⟩, h6.congr (by rw [row _ (by omega)]) (row _ (by omega))⟩
  · show _ = fb_s1 A.g k x j
    by_cases z : j = k
    · rw [z, fa_u_s, fb_s1_s]
    · rw [fa_u_n _ _ (by omega), fb_s1_n z]
      exact h3.1 j hj
  · rw [row _ (by omega)]
    show _ = fb_s1 A.g k x 7
    rw [fb_s1_n (by omega)]
    exact h3.2.1
  · rw [row _ (by omega)]
    show _ = fb_s1 A.g k x j
    rw [fb_s1_n (by omega)]
    exact h3.2.2 j j8 j14
  · rw [row _ (by omega)]
    exact h4.2.1
  · have hp24 : p < 24 := Nat.lt_of_lt_of_le hp h4.1
    obtain ⟨j, hj, e⟩ := fb_pf_at2 h1 hp24
    rw [fb_cw_congr rfl (fun i hi => by rw [row _ (by omega)]) (fun i hi => by rw [row _ (by omega)]) hi]
    exact h4.2.2 p i hp hi
/-- a field of the file at p is written -/
theorem fb_cA.uF {v : fa_V} {r : fa_R} {b p i : Nat} {A : fb_At} {x y : Int32} (h : fb_cA v r b A) (hp : p < A.n) (hi : i < 7) (hy : y = if i = 4 ∨ i = 6 then fb_e6 x else x) : fb_cA (fa_u v (fa_pf r b p) i x) r b (A.sF p i y) := by
  obtain ⟨h1, h2, h3, h4, ⟨L, h5, h5b⟩, h6⟩ := h
  have hp24 : p < 24 := Nat.lt_of_lt_of_le hp h4.1
  obtain ⟨j, hj, e⟩ := fb_pf_at2 h1 hp24
  have row : ∀ q, ¬ q = fa_pf r b p → fa_u v (fa_pf r b p) i x q = v q := fun q hq => fa_u_k _ _ hq
  refine ⟨h1, h2, h3.congr (row _ (by omega)) (row _ (by omega)), ⟨h4.1, by rw [row b (by omega)]; exact h4.2.1, fun k c hk hc => ?_⟩, ⟨L, h5.congr (by rw [row _ (by omega)]) (row _ (by omega)) (row _ (by omega)), h5b⟩, h6.congr (by rw [row _ (by omega)]) (row _ (by omega))⟩
  have hk24 : k < 24 := Nat.lt_of_lt_of_le hk h4.1
  obtain ⟨j2, hj2, e2⟩ := fb_pf_at2 h1 hk24
  show _ = fa_u A.F p i y k c
  by_cases z : k = p
  · subst z
    by_cases w : c = i
    · subst w
      rw [fa_u_s, hy]
      unfold fb_cw
      by_cases q : c = 4 ∨ c = 6
      · rw [if_pos q, if_pos q, fa_u_s]
      · rw [if_neg q, if_neg q, if_pos hi, fa_u_s]
    · rw [fa_u_n _ _ (by omega), ← h4.2.2 k c hk hc]
      unfold fb_cw
      split
      · rw [fa_u_n _ _ (by omega)]
      · split
        · rw [fa_u_n _ _ (by omega)]
        · rw [row _ (by omega)]
  · have hne : ¬ fa_pf r b k = fa_pf r b p := fun q => z (h2 k p hk24 hp24 q)
    rw [fa_u_n _ _ (by omega), fb_cw_congr rfl (fun i hi => by rw [row _ hne]) (fun i hi => by rw [row _ (by omega)]) hc]
    exact h4.2.2 k c hk hc
theorem fb_cA.uS {v : fa_V} {r : fa_R} {b p h : Nat} {A : fb_At} {x : Int32} (hA : fb_cA v r b A) (hp : p < A.n) (hh : h < 8) : fb_cA (fa_u v (fa_pf r b p + 1) h x) r b (A.sF p (7 + h) (x + 1)) := by
  obtain ⟨h1, h2, h3, h4, ⟨L, h5, h5b⟩, h6⟩ := hA
  have hp24 : p < 24 := Nat.lt_of_lt_of_le hp h4.1
  obtain ⟨j, hj, e⟩ := fb_pf_at2 h1 hp24
  have row : ∀ q, ¬ q = fa_pf r b p + 1 → fa_u v (fa_pf r b p + 1) h x q = v q := fun q hq => fa_u_k _ _ hq
  refine ⟨h1, h2, h3.congr (row _ (by omega)) (row _ (by omega)), ⟨h4.1, by rw [row b (by omega)]; exact h4.2.1, fun k c hk hc => ?_⟩, ⟨L, h5.congr (by rw [row _ (by omega)]) (row _ (by omega)) (row _ (by omega)), h5b⟩, h6.congr (by rw [row _ (by omega)]) (row _ (by omega))⟩
  have hk24 : k < 24 := Nat.lt_of_lt_of_le hk h4.1
  obtain ⟨j2, hj2, e2⟩ := fb_pf_at2 h1 hk24
  show _ = fa_u A.F p (7 + h) (x + 1) k c
  by_cases z : k = p
  · subst z
    by_cases w : c = 7 + h
    · subst w
      rw [fa_u_s]
      unfold fb_cw
      rw [if_neg (by omega), if_neg (by omega), show 7 + h - 7 = h by omega, fa_u_s]
    · rw [fa_u_n _ _ (by omega), ← h4.2.2 k c hk hc]
      unfold fb_cw
      split
      · rw [row _ (by omega)]
      · split
        · rw [row _ (by omega)]
        · rw [fa_u_n _ _ (by omega)]
  · have hne : ¬ fa_pf r b k = fa_pf r b p := fun q => z (h2 k p hk24 hp24 q)
    rw [fa_u_n _ _ (by omega), fb_cw_congr rfl (fun i hi => by rw [row _ (by omega)]) (fun i hi => by rw [row _ (by omega)]) hc]
    exact h4.2.2 k c hk hc
/-- what is read of the file at p -/
theorem fb_cA.f {v : fa_V} {r : fa_R} {b p i : Nat} {A : fb_At} (h : fb_cA v r b A) (hp : p < A.n) (hi : i < 7) (h4 : ¬ (i = 4 ∨ i = 6)) : v (fa_pf r b p) i = A.F p i := by
  have z := h.2.2.2.1.2.2 p i hp (by omega)
  unfold fb_cw at z
  rw [if_neg h4, if_pos hi] at z
  exact z
theorem fb_cA.f6 {v : fa_V} {r : fa_R} {b p i : Nat} {A : fb_At} (h : fb_cA v r b A) (hp : p < A.n) (h4 : i = 4 ∨ i = 6) : fb_e6 (v (fa_pf r b p) i) = A.F p i := by
  have z := h.2.2.2.1.2.2 p i hp (by omega)
  unfold fb_cw at z
  rw [if_pos h4] at z
  exact z
theorem fb_cA.s {v : fa_V} {r : fa_R} {b p h : Nat} {A : fb_At} (hA : fb_cA v r b A) (hp : p < A.n) (hh : h < 8) : v (fa_pf r b p + 1) h + 1 = A.F p (7 + h) := by
  have z := hA.2.2.2.1.2.2 p (7 + h) hp (by omega)
  unfold fb_cw at z
  rw [if_neg (by omega), if_neg (by omega), show 7 + h - 7 = h by omega] at z
  exact z
theorem fb_cA.n {v : fa_V} {r : fa_R} {b : Nat} {A : fb_At} (h : fb_cA v r b A) : fa_N (v b 1) = A.n := by
  rw [h.2.2.2.1.2.1, fa_N_nI (by have := h.2.2.2.1.1; omega)]
/-- what find found -/
theorem fb_cA.find {v : fa_V} {r : fa_R} {b : Nat} {A : fb_At} {a : Int32} (h : fb_cA v r b A) {x : Option Nat} (hx : (∀ q, x = some q → fa_isF b q ∧ ∃ p, p < fa_N (v b 1) ∧ q = fa_pf r b p ∧ v q 0 = a ∧ ∀ k, k < p → ¬ v (fa_pf r b k) 0 = a) ∧ (x = none → ∀ k, k < fa_N (v b 1) → ¬ v (fa_pf r b k) 0 = a)) :
    (x = none ∧ fb_ix A.F a A.n = none) ∨ ∃ p, p < A.n ∧ x = some (fa_pf r b p) ∧ fb_ix A.F a A.n = some p ∧ A.F p 0 = a := by
  rw [h.n] at hx
  cases e : x with
  | none => exact Or.inl ⟨rfl, fb_ix_none (fun k hk => by rw [← h.f hk (i := 0) (by decide) (by decide)]; exact hx.2 e k hk)⟩
  | some q =>
    obtain ⟨-, p, hp, e1, e2, e3⟩ := hx.1 q e
    rw [e1] at e2
    have e4 : A.F p 0 = a := by rw [← h.f hp (i := 0) (by decide) (by decide)]; exact e2
    exact Or.inr ⟨p, hp, by rw [e1], fb_ix_some hp e4 (fun k hk => by rw [← h.f (Nat.lt_trans hk hp) (i := 0) (by decide) (by decide)]; exact e3 k hk), e4⟩
