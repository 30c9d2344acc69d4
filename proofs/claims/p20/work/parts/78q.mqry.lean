/-! QUERIES of the reference's row -/
theorem fb_m_in2 (a : Int32) : (a < nI 0 ∨ nI 2 < a) ↔ (a < 0 ∨ ¬ a ≤ nI 2) := by
  rw [Int32.not_le]
  exact Iff.rfl
theorem fb_m_in4 (a : Int32) : (a < nI 0 ∨ nI 4 < a) ↔ (a < 0 ∨ ¬ a < nI 5) := by
  rw [fa_ltS (by decide)]
  exact Iff.rfl
theorem fb_m_in1 (a : Int32) : (a < nI 0 ∨ nI 1 < a) ↔ (a < 0 ∨ ¬ a ≤ nI 1) := by
  rw [Int32.not_le]
  exact Iff.rfl
theorem fb_m_slo0 {A : fb_At} {h a : Int32} (c : h < 0 ∨ ¬ h < nI 8) : fb_sloA A h a = (-1 : Int32) := by
  cases e : fb_ix A.F a A.n with
  | none => exact fb_sloA_n e
  | some p => exact fb_sloA_h e c
theorem fb_mA.mt {f : Nat → Int32} {A : fb_At} {n6 : Nat} (h : fb_mA f A) (g6 : f 16 = nI n6) (hn : n6 ≤ 12) : A.m = n6 := fa_nIinj (by have := h.2.2.2.1; omega) (by omega) (h.m6.symm.trans g6)
theorem fb_mA.T {f : Nat → Int32} {A : fb_At} (h : fb_mA f A) {p i : Nat} (hp : p < A.m) (hi : i < 5) : f (393 + 5 * p + i) = A.T p i := h.2.2.2.2.2 p i hp hi
theorem fb_mA.ages {f : Nat → Int32} {A : fb_At} (h : fb_mA f A) : fa_sum (fun p => f 7 - f (17 + 15 * p + 3)) (fa_N (f 14)) = fb_ages A := by
  unfold fb_ages
  rw [h.n]
  exact fa_sum_congr _ (fun k hk => by rw [h.F hk (i := 3) (by decide), h.g (k := 7) (by decide)])
theorem fb_m_m6t {x : Int32} (h : 0 ≤ x) : x = fb_m6 x := (if_neg (Int32.not_lt.mpr h)).symm
theorem fb_m_m6f {x : Int32} (h : ¬ 0 ≤ x) : (-6 : Int32) = fb_m6 x := (if_pos (Int32.not_le.mp h)).symm
theorem fb_m_why0 {A : fb_At} {p : Nat} {x w : Int32} (hx : x = fb_ownA A p) (c : x ≤ 0) (hw : w = if fb_stb A p = true then nI 1 else nI 0) (d : w = 0) : nI 0 = fb_why A p := by
  rw [hx] at c
  unfold fb_why
  rw [if_pos ((fb_own_le A p).mp c)]
  by_cases z : fb_stb A p = true
  · rw [if_pos z] at hw
    rw [hw] at d
    exact absurd d (by decide)
  · rw [if_neg z]; rfl
theorem fb_m_why4 {A : fb_At} {p : Nat} {x w : Int32} (hx : x = fb_ownA A p) (c : x ≤ 0) (hw : w = if fb_stb A p = true then nI 1 else nI 0) (d : ¬ w = 0) : nI 4 = fb_why A p := by
  rw [hx] at c
  unfold fb_why
  rw [if_pos ((fb_own_le A p).mp c)]
  by_cases z : fb_stb A p = true
  · rw [if_pos z]
  · rw [if_neg z] at hw
    rw [hw] at d
    exact absurd rfl d
theorem fb_m_whyo {A : fb_At} {p : Nat} {x : Int32} (hx : x = fb_ownA A p) (c : ¬ x ≤ 0) : x = fb_why A p := by
  rw [hx] at c
  unfold fb_why
  rw [if_neg (fun z => c ((fb_own_le A p).mpr z))]
  exact hx
/-- the keeper, from the last place down to kk -/
def fb_kq (A : fb_At) (a : Int32) (kk : Nat) (x : Int32) : Prop := (x = (-6 : Int32) ∧ ∀ p, kk ≤ p → p < A.n → ¬ (A.F p 6 = a ∧ fb_stb A p = true)) ∨ (∃ p, kk ≤ p ∧ p < A.n ∧ (A.F p 6 = a ∧ fb_stb A p = true) ∧ x = A.F p 0 ∧ ∀ k, kk ≤ k → k < p → ¬ (A.F k 6 = a ∧ fb_stb A k = true))
theorem fb_kq.start {A : fb_At} {a : Int32} {n : Nat} (h : A.n = n) : fb_kq A a n (-6 : Int32) := Or.inl ⟨rfl, fun p h1 h2 => absurd h2 (by omega)⟩
theorem fb_kq.no {A : fb_At} {a x : Int32} {kk : Nat} (h : fb_kq A a (kk + 1) x) (c : ¬ (A.F kk 6 = a ∧ fb_stb A kk = true)) : fb_kq A a kk x := by
  rcases h with ⟨h1, h2⟩ | ⟨p, h1, h2, h3, h4, h5⟩
  · refine Or.inl ⟨h1, fun p hp => ?_⟩
    by_cases z : p = kk
    · rw [z]; exact fun _ => c
    · exact h2 p (by omega)
  · refine Or.inr ⟨p, by omega, h2, h3, h4, fun k hk hkp => ?_⟩
    by_cases z : k = kk
    · rw [z]; exact c
    · exact h5 k (by omega) hkp
theorem fb_kq.yes {A : fb_At} {a x : Int32} {kk : Nat} (hk : kk < A.n) (c : A.F kk 6 = a ∧ fb_stb A kk = true) (hx : x = A.F kk 0) : fb_kq A a kk x := Or.inr ⟨kk, Nat.le_refl _, hk, c, hx, fun k h1 h2 => absurd h2 (by omega)⟩
theorem fb_kq.e {A : fb_At} {a x : Int32} (hok : fb_okA A) (h : fb_kq A a 0 x) : x = fb_kpr A a A.n := by
  rcases h with ⟨h1, h2⟩ | ⟨p, -, h2, h3, h4, h5⟩
  · rw [h1, fb_kpr_no A.n (fun k hk => h2 k (Nat.zero_le _) hk)]
  · rw [h4, fb_kpr_at h3 (hok.1.2.2.2.2.1 p h2).1 (fun k hk => h5 k (Nat.zero_le _) hk) A.n h2]
theorem fb_stb_w {A : fb_At} {p : Nat} {w : Int32} (hw : w = if fb_stb A p = true then nI 1 else nI 0) : fb_stb A p = true ↔ ¬ w = 0 := by
  constructor
  · intro z
    rw [hw, if_pos z]; decide
  · intro d
    refine Decidable.byContradiction (fun z => d ?_)
    rw [hw, if_neg z]; rfl
/-! reservations by their days -/
def fb_bfb (x y : Int32 × Int32) : Bool := decide (x.2 < y.2 ∨ (x.2 = y.2 ∧ x.1 < y.1))
theorem fb_bfb_t {x y : Int32 × Int32} : fb_bfb x y = true ↔ fb_bef x y := decide_eq_true_iff
theorem fb_srt_cnt {L : List (Int32 × Int32)} (h : L.Pairwise fb_bef) {i : Nat} (hi : i < L.length) : L.countP (fun y => fb_bfb y L[i]) = i := by
  have e : L.countP (fun y => fb_bfb y L[i]) = (L.take i).countP (fun y => fb_bfb y L[i]) + (L.drop i).countP (fun y => fb_bfb y L[i]) := by
    rw [← List.countP_append, List.take_append_drop]
  have e1 : (L.take i).countP (fun y => fb_bfb y L[i]) = i := by
    have z : (L.take i).countP (fun y => fb_bfb y L[i]) = (L.take i).length := List.countP_eq_length.mpr (fun y hy => by
      obtain ⟨j, hj, ej⟩ := List.getElem_of_mem hy
      rw [List.length_take] at hj
      rw [List.getElem_take] at ej
      rw [← ej]
      exact fb_bfb_t.mpr (fb_srt_at h (by omega) hi (by omega)))
    rw [z, List.length_take]
    omega
  have e2 : (L.drop i).countP (fun y => fb_bfb y L[i]) = 0 := List.countP_eq_zero.mpr (fun y hy c => by
    obtain ⟨j, hj, ej⟩ := List.getElem_of_mem hy
    rw [List.length_drop] at hj
    rw [List.getElem_drop] at ej
    have b : fb_bef y L[i] := fb_bfb_t.mp c
    by_cases z : j = 0
    · subst z
      rw [← ej] at b
      exact fb_bef_irr b
    · have b2 := fb_srt_at h hi (show i + j < L.length by omega) (by omega)
      rw [ej] at b2
      exact fb_bef_irr (fb_bef_tr b b2))
  rw [e, e1, e2]
  rfl
theorem fb_dif {a b : Int32} (ha : ∃ k, k ≤ 9999 ∧ a = nI k) (hb : ∃ k, k ≤ 9999 ∧ b = nI k) : (a - b < 0 ↔ a < b) ∧ (a - b = 0 ↔ a = b) := by
  obtain ⟨k, hk, ek⟩ := ha
  obtain ⟨m, hm, em⟩ := hb
  rw [ek, em]
  by_cases z : k < m
  · have n := pk_sneg (by omega) z
    exact ⟨⟨fun _ => nI_lt z (by omega), fun _ => n⟩, ⟨fun y => absurd n (by rw [y]; decide), fun y => absurd (fa_nIinj (by omega) (by omega) y) (by omega)⟩⟩
  · rw [pk_sub (by omega)]
    refine ⟨⟨fun y => absurd y (nI_pos (by omega)), fun y => absurd (fa_ltN' (by omega) (by omega) y) z⟩, ⟨fun y => ?_, fun y => ?_⟩⟩
    · have : k - m = 0 := fa_nIinj (by omega) (by decide) y
      rw [show k = m by omega]
    · have : k = m := fa_nIinj (by omega) (by omega) y
      rw [this, Nat.sub_self]
      rfl
theorem fb_okA.day1 {A : fb_At} (hok : fb_okA A) {y : Int32 × Int32} (hy : y ∈ A.q) : ∃ k, k ≤ 9999 ∧ y.2 = nI k := by
  obtain ⟨h1, h2, -⟩ := hok.2.2.2.2 y hy
  have p0 : (0 : Int32) ≤ y.2 := Int32.le_of_lt (Int32.lt_of_le_of_lt hok.nowpos h1)
  obtain ⟨k, hk, ek⟩ := fa_natLe (x := y.2) (N := 9999) (by decide) (Int32.not_lt.mpr p0) (Int32.not_lt.mpr h2)
  exact ⟨k, hk, ek⟩
theorem fb_m_ahd {f : Nat → Int32} {A : fb_At} {L0 L : List (Int32 × Int32)} {j i : Nat} (hok : fb_okA A) (hL : fb_mL f L0) (hP0 : L0.Perm A.q) (hP : L.Perm A.q) (hS : L.Pairwise fb_bef) (hj : j < L0.length) (hi : i < L.length) (e : L[i] = L0[j]) : fb_ahm f j (fa_N (f 15)) = nI i := by
  have h8 := hL.2.1
  unfold fb_ahm
  rw [hL.1, fa_N_nI (by omega), fb_sumP (L := L0) (P := fun y => fb_bfb y L0[j]) (fun k hk => ?_) L0.length (Nat.le_refl _), List.take_length, (hP0.trans hP.symm).countP_eq, ← e, fb_srt_cnt hS hi]
  have a := hL.at hk
  have b := hL.at hj
  have dk := hok.day1 (hP0.mem_iff.mp (List.getElem_mem hk))
  have dj := hok.day1 (hP0.mem_iff.mp (List.getElem_mem hj))
  rw [a] at dk
  rw [b] at dj
  have z := fb_dif dk dj
  have iff : (f (377 + (2 * k) + 1) - f (377 + (2 * j) + 1) < 0 ∨ (f (377 + (2 * k) + 1) - f (377 + (2 * j) + 1) = 0 ∧ ¬ f (377 + (2 * j)) ≤ f (377 + (2 * k)))) ↔ fb_bfb L0[k] L0[j] = true := by
    rw [fb_bfb_t, a, b]
    show _ ↔ f (377 + 2 * k + 1) < f (377 + 2 * j + 1) ∨ (f (377 + 2 * k + 1) = f (377 + 2 * j + 1) ∧ f (377 + 2 * k) < f (377 + 2 * j))
    constructor
    · rintro (y | ⟨y1, y2⟩)
      · exact Or.inl (z.1.mp y)
      · exact Or.inr ⟨z.2.mp y1, Int32.not_le.mp y2⟩
    · rintro (y | ⟨y1, y2⟩)
      · exact Or.inl (z.1.mpr y)
      · exact Or.inr ⟨z.2.mpr y1, Int32.not_le.mpr y2⟩
  by_cases c : fb_bfb L0[k] L0[j] = true
  · rw [if_pos c, if_pos (iff.mpr c)]
  · rw [if_neg c, if_neg (fun y => c (iff.mp y))]
/-- what the search by the place a found of the first j -/
def fb_rq (f : Nat → Int32) (a : Int32) (jb n j : Nat) (x : Int32) : Prop := (x = (-6 : Int32) ∧ ∀ k, k < j → ¬ fb_ahm f k n = a) ∨ ∃ k, k < j ∧ fb_ahm f k n = a ∧ x = f (377 + (2 * k) + jb)
theorem fb_rq.t {f : Nat → Int32} {a : Int32} {jb n j : Nat} (c : fb_ahm f j n = a) : fb_rq f a jb n (j + 1) (f (377 + (2 * j) + jb)) := Or.inr ⟨j, by omega, c, rfl⟩
theorem fb_rq.f {f : Nat → Int32} {a x : Int32} {jb n j : Nat} (h : fb_rq f a jb n j x) (c : ¬ fb_ahm f j n = a) : fb_rq f a jb n (j + 1) x := by
  rcases h with ⟨h1, h2⟩ | ⟨k, h1, h2⟩
  · refine Or.inl ⟨h1, fun k hk => ?_⟩
    by_cases z : k = j
    · rw [z]; exact c
    · exact h2 k (by omega)
  · exact Or.inr ⟨k, by omega, h2⟩
theorem fb_m_rsq {f : Nat → Int32} {A : fb_At} {k w x : Int32} {jb n j : Nat} (hok : fb_okA A) (hc : fb_mA f A) (h0 : ¬ k < 0) (hw : ¬ (w < 0 ∨ ¬ w ≤ nI 1)) (ejb : w = nI jb) (hjb : jb ≤ 1) (hn : n = fa_N (f 15)) (hj : j = n) (h : fb_rq f k jb n j x) : fb_rsvP A k w x := fun L hP hS => by
  obtain ⟨L0, hL, hP0⟩ := hc.2.2.1
  have h8 := hL.2.1
  have en : n = L0.length := by rw [hn, hL.1, fa_N_nI (by omega)]
  rw [if_neg (fun z => z.elim h0 hw)]
  have hw0 : w = 0 ↔ jb = 0 := by
    rw [ejb]
    constructor
    · intro z
      exact fa_nIinj (by omega) (by decide) z
    · intro z
      rw [z]; rfl
  have pk : k = nI (fa_N k) := by
    obtain ⟨m, hm, em⟩ := nI_of (x := k) h0
    rw [em, fa_N_nI hm]
  rcases h with ⟨h1, h2⟩ | ⟨m, h1, h2, h3⟩
  · have none : L[fa_N k]? = none := by
      refine Decidable.byContradiction (fun z => ?_)
      have hi : fa_N k < L.length := Decidable.byContradiction (fun y => z (List.getElem?_eq_none (by omega)))
      obtain ⟨j2, hj2, e2⟩ := List.getElem_of_mem (hP0.mem_iff.mpr (hP.mem_iff.mp (List.getElem_mem hi)))
      have q := fb_m_ahd hok hL hP0 hP hS hj2 hi e2.symm
      rw [← hn, ← pk] at q
      exact h2 j2 (by omega) q
    rw [none]
    exact h1
  · have hm : m < L0.length := by omega
    obtain ⟨i, hi, e2⟩ := List.getElem_of_mem (hP.mem_iff.mpr (hP0.mem_iff.mp (List.getElem_mem hm)))
    have q := fb_m_ahd hok hL hP0 hP hS hm hi e2
    rw [← hn, h2] at q
    have hl := hP.length_eq.trans hP0.length_eq.symm
    have ek : fa_N k = i := by rw [q, fa_N_nI (by omega)]
    rw [ek, List.getElem?_eq_getElem hi, e2, h3, hL.at hm]
    show f (377 + (2 * m) + jb) = if w = 0 then f (377 + 2 * m) else f (377 + 2 * m + 1)
    by_cases z : jb = 0
    · rw [if_pos (hw0.mpr z), z]; rfl
    · rw [if_neg (fun y => z (hw0.mp y)), show jb = 1 by omega]
