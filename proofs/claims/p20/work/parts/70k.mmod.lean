/-! THE REFERENCE'S ROW AS AN ARCHIVE -/
/-- the row of reservations is L -/
def fb_mL (f : Nat → Int32) (L : List (Int32 × Int32)) : Prop := f 15 = nI L.length ∧ L.length ≤ 8 ∧ ∀ p y, L[p]? = some y → f (377 + 2 * p) = y.1 ∧ f (377 + 2 * p + 1) = y.2
def fb_mA (f : Nat → Int32) (A : fb_At) : Prop := (∀ k, k < 14 → f k = A.g k) ∧ (A.n ≤ 24 ∧ f 14 = nI A.n ∧ ∀ p i, p < A.n → i < 15 → f (17 + 15 * p + i) = A.F p i) ∧ (∃ L, fb_mL f L ∧ L.Perm A.q) ∧ (A.m ≤ 12 ∧ f 16 = nI A.m ∧ ∀ p i, p < A.m → i < 5 → f (393 + 5 * p + i) = A.T p i)
theorem fb_mA.g {f : Nat → Int32} {A : fb_At} (h : fb_mA f A) {k : Nat} (hk : k < 14) : f k = A.g k := h.1 k hk
theorem fb_mA.n4 {f : Nat → Int32} {A : fb_At} (h : fb_mA f A) : f 14 = nI A.n := h.2.1.2.1
theorem fb_mA.n {f : Nat → Int32} {A : fb_At} (h : fb_mA f A) : fa_N (f 14) = A.n := by
  rw [h.n4, fa_N_nI (by have := h.2.1.1; omega)]
theorem fb_mA.F {f : Nat → Int32} {A : fb_At} (h : fb_mA f A) {p i : Nat} (hp : p < A.n) (hi : i < 15) : f (17 + 15 * p + i) = A.F p i := h.2.1.2.2 p i hp hi
theorem fb_mA.F0 {f : Nat → Int32} {A : fb_At} (h : fb_mA f A) {p : Nat} (hp : p < A.n) : f (17 + 15 * p) = A.F p 0 := h.F hp (i := 0) (by decide)
theorem fb_mA.m6 {f : Nat → Int32} {A : fb_At} (h : fb_mA f A) : f 16 = nI A.m := h.2.2.2.2.1
theorem fb_mA.n5 {f : Nat → Int32} {A : fb_At} (h : fb_mA f A) : f 15 = nI A.q.length := by
  obtain ⟨L, hL, hp⟩ := h.2.2.1
  rw [hL.1, hp.length_eq]
theorem fb_mA.q8 {f : Nat → Int32} {A : fb_At} (h : fb_mA f A) : A.q.length ≤ 8 := by
  obtain ⟨L, hL, hp⟩ := h.2.2.1
  rw [← hp.length_eq]
  exact hL.2.1
theorem fb_mL.congr {f f1 : Nat → Int32} {L : List (Int32 × Int32)} (h : fb_mL f L) (e : ∀ i, i = 15 ∨ (377 ≤ i ∧ i < 393) → f1 i = f i) : fb_mL f1 L :=
  ⟨by rw [e 15 (Or.inl rfl)]; exact h.1, h.2.1, fun p y z => by
    have hl : p < L.length := (List.getElem?_eq_some_iff.mp z).1
    have h8 := h.2.1
    rw [e (377 + 2 * p) (Or.inr (by omega)), e (377 + 2 * p + 1) (Or.inr (by omega))]
    exact h.2.2 p y z⟩
theorem fb_mA.congr {f f1 : Nat → Int32} {A : fb_At} (h : fb_mA f A) (e : ∀ i, i < 453 → f1 i = f i) : fb_mA f1 A := by
  obtain ⟨h1, ⟨h2, h3, h4⟩, ⟨L, h5, h6⟩, h7, h8, h9⟩ := h
  exact ⟨fun k hk => by rw [e k (by omega)]; exact h1 k hk, ⟨h2, by rw [e 14 (by decide)]; exact h3, fun p i hp hi => by rw [e _ (by omega)]; exact h4 p i hp hi⟩, ⟨L, h5.congr (fun i hi => e i (by omega)), h6⟩, h7, by rw [e 16 (by decide)]; exact h8, fun p i hp hi => by rw [e _ (by omega)]; exact h9 p i hp hi⟩
/-- a number is written; a field of a file is written -/
theorem fb_mA.ug {v : fa_V} {row k : Nat} {A : fb_At} {x : Int32} (h : fb_mA (v row) A) (hk : k < 14) : fb_mA (fa_u v row k x row) (A.sg k x) := by
  obtain ⟨h1, ⟨h2, h3, h4⟩, ⟨L, h5, h6⟩, h7, h8, h9⟩ := h
  refine ⟨fun j hj => ?_, ⟨h2, ?_, fun p i hp hi => ?_⟩, ⟨L, h5.congr (fun i hi => fa_u_n _ _ (by omega)), h6⟩, h7, ?_, fun p i hp hi => ?_⟩
  · show _ = fb_s1 A.g k x j
    by_cases z : j = k
    · rw [z, fa_u_s, fb_s1_s]
    · rw [fa_u_n _ _ (fun y => z y.2), fb_s1_n z]; exact h1 j hj
  · rw [fa_u_n _ _ (by omega)]; exact h3
  · rw [fa_u_n _ _ (by omega)]; exact h4 p i hp hi
  · rw [fa_u_n _ _ (by omega)]; exact h8
  · rw [fa_u_n _ _ (by omega)]; exact h9 p i hp hi
theorem fb_mA.uF {v : fa_V} {row p i : Nat} {A : fb_At} {x : Int32} (h : fb_mA (v row) A) (hp : p < A.n) (hi : i < 15) : fb_mA (fa_u v row (17 + 15 * p + i) x row) (A.sF p i x) := by
  obtain ⟨h1, ⟨h2, h3, h4⟩, ⟨L, h5, h6⟩, h7, h8, h9⟩ := h
  have h2' : A.n ≤ 24 := h2
  refine ⟨fun j hj => ?_, ⟨h2, ?_, fun q c hq hc => ?_⟩, ⟨L, h5.congr (fun i hi => fa_u_n _ _ (by omega)), h6⟩, h7, ?_, fun q c hq hc => ?_⟩
  · rw [fa_u_n _ _ (by omega)]; exact h1 j hj
  · rw [fa_u_n _ _ (by omega)]; exact h3
  · show _ = fa_u A.F p i x q c
    have hq' : q < A.n := hq
    by_cases z : q = p ∧ c = i
    · rw [z.1, z.2, fa_u_s, fa_u_s]
    · rw [fa_u_n _ _ (by omega), fa_u_n _ _ z]; exact h4 q c hq hc
  · rw [fa_u_n _ _ (by omega)]; exact h8
  · rw [fa_u_n _ _ (by omega)]; exact h9 q c hq hc
/-- the last place of a number, or -1 -/
def fb_las (f : Nat → Int32) (a : Int32) : Nat → Int32
  | 0 => (-1 : Int32)
  | j + 1 => if f j = a then nI j else fb_las f a j
theorem fb_las_t {f : Nat → Int32} {a : Int32} {j : Nat} (c : f j = a) : nI j = fb_las f a (j + 1) := (if_pos c).symm
theorem fb_las_f {f : Nat → Int32} {a : Int32} {j : Nat} (c : ¬ f j = a) : fb_las f a j = fb_las f a (j + 1) := (if_neg c).symm
theorem fb_las_elim {f : Nat → Int32} {a : Int32} : ∀ n, (fb_las f a n = (-1 : Int32) ∧ ∀ k, k < n → ¬ f k = a) ∨ ∃ p, p < n ∧ fb_las f a n = nI p ∧ f p = a
  | 0 => Or.inl ⟨rfl, fun k hk => absurd hk (Nat.not_lt_zero _)⟩
  | n + 1 => by
    by_cases z : f n = a
    · exact Or.inr ⟨n, by omega, if_pos z, z⟩
    · rcases fb_las_elim n (f := f) (a := a) with ⟨h1, h2⟩ | ⟨p, h1, h2, h3⟩
      · exact Or.inl ⟨(if_neg z).trans h1, fun k hk => by
          by_cases y : k = n
          · rw [y]; exact z
          · exact h2 k (by omega)⟩
      · exact Or.inr ⟨p, by omega, (if_neg z).trans h2, h3⟩
def fb_plm (f : Nat → Int32) (a : Int32) : Int32 := if a < 0 then (-1 : Int32) else fb_las (fun p => f (17 + 15 * p)) a (fa_N (f 14))
/-- a file's place -/
theorem fb_mA.pl {f : Nat → Int32} {A : fb_At} (h : fb_mA f A) (hok : fb_okA A) (a : Int32) : (fb_plm f a = (-1 : Int32) ∧ fb_ix A.F a A.n = none) ∨ ∃ p, p < A.n ∧ fb_plm f a = nI p ∧ fb_ix A.F a A.n = some p ∧ A.F p 0 = a := by
  obtain ⟨⟨-, -, -, hinc, hnum, -⟩, -⟩ := hok
  unfold fb_plm
  rw [h.n]
  by_cases z : a < 0
  · rw [if_pos z]
    exact Or.inl ⟨rfl, fb_ix_none (fun k hk e => Int32.not_lt.mpr (hnum k hk).1 (by rw [e]; exact z))⟩
  · rw [if_neg z]
    rcases fb_las_elim A.n (f := fun p => f (17 + 15 * p)) (a := a) with ⟨h1, h2⟩ | ⟨p, h1, h2, h3⟩
    · exact Or.inl ⟨h1, fb_ix_none (fun k hk => by rw [← h.F0 hk]; exact h2 k hk)⟩
    · have e : A.F p 0 = a := by rw [← h.F0 h1]; exact h3
      refine Or.inr ⟨p, h1, h2, fb_ix_some h1 e (fun k hk y => ?_), e⟩
      have := hinc k p hk h1
      rw [y, e] at this
      exact Int32.lt_irrefl this
theorem fb_nI_ne1 {p : Nat} (hp : p < 2 ^ 31) : ¬ nI p = (-1 : Int32) := fun z => by
  have h0 : ¬ nI p < 0 := nI_pos hp
  rw [z] at h0
  exact h0 (by decide)
def fb_dum (f : Nat → Int32) (p : Nat) : Int32 := f (fa_N (f (17 + 15 * p + 1))) * (if f (17 + 15 * p + 5) < f 5 then nI 1 else nI 2) + (if f (17 + 15 * p + 4) < 0 then f (17 + 15 * p + 3) else f (17 + 15 * p + 4))
theorem fb_mA.due {f : Nat → Int32} {A : fb_At} (h : fb_mA f A) (hok : fb_okA A) {p : Nat} (hp : p < A.n) : fb_dum f p = fb_dueA A p := by
  obtain ⟨k, hk, ek⟩ := (hok.1.2.2.2.2.2 p hp).1
  unfold fb_dum fb_dueA
  rw [h.F hp (i := 1) (by decide), h.F hp (i := 5) (by decide), h.F hp (i := 4) (by decide), h.F hp (i := 3) (by decide), h.g (k := 5) (by decide), ek, fa_N_nI (by omega), h.g (k := k) (by omega)]
  by_cases z : A.F p 5 < A.g 5
  · rw [if_pos z, if_pos z, Int32.add_comm, show nI 1 = (1 : Int32) from rfl, Int32.mul_one]
  · rw [if_neg z, if_neg z, Int32.add_comm, Int32.mul_comm (A.g k)]
def fb_msm (f : Nat → Int32) (p : Nat) : Int32 := fa_mask (fun h => decide (f 7 < f (17 + 15 * p + 7 + h))) 8
theorem fb_mask_cg7 {c d : Nat → Bool} : ∀ n, (∀ k, k < n → c k = d k) → fa_mask c n = fa_mask d n
  | 0, _ => rfl
  | n + 1, h => by
    rw [fa_mask, fa_mask, fb_mask_cg7 n (fun k hk => h k (by omega)), h n (by omega)]
theorem fb_mA.msk {f : Nat → Int32} {A : fb_At} (h : fb_mA f A) {p : Nat} (hp : p < A.n) : fb_msm f p = fb_maskA A p :=
  fb_mask_cg7 8 (fun k hk => by rw [h.g (k := 7) (by decide), show 17 + 15 * p + 7 + k = 17 + 15 * p + (7 + k) by omega, h.F hp (by omega)])
theorem fb_mask_or0 {c : Nat → Bool} {j : Nat} (h : ¬ c j = true) : fa_mask c j ||| nI 0 = fa_mask c (j + 1) := by
  rw [← fa_mask_f h, show nI 0 = (0 : Int32) from rfl, Int32.or_zero]
def fb_rsm (f : Nat → Int32) (a : Int32) : Int32 := fa_sum (fun k => if f (377 + 2 * k) = a then 1 else 0) (fa_N (f 15))
theorem fb_mL.at {f : Nat → Int32} {L : List (Int32 × Int32)} (h : fb_mL f L) {k : Nat} (hk : k < L.length) : L[k] = (f (377 + 2 * k), f (377 + 2 * k + 1)) := by
  have z := h.2.2 k L[k] (List.getElem?_eq_getElem hk)
  rw [z.1, z.2]
theorem fb_mA.nres {f : Nat → Int32} {A : fb_At} (h : fb_mA f A) (a : Int32) : fb_rsm f a = fb_nres A a := by
  obtain ⟨L, hL, hP⟩ := h.2.2.1
  have h8 := hL.2.1
  unfold fb_rsm fb_nres
  rw [hL.1, fa_N_nI (by omega), fb_sumP (L := L) (P := fun y => decide (y.1 = a)) (fun k hk => ?_) L.length (Nat.le_refl _), List.take_length, hP.countP_eq]
  have e1 : L[k].1 = f (377 + 2 * k) := by rw [hL.at hk]
  rw [← e1]
  by_cases z : L[k].1 = a
  · rw [if_pos z, if_pos (decide_eq_true z)]
  · rw [if_neg z, if_neg (by rw [decide_eq_false z]; decide)]
def fb_pgm (f : Nat → Int32) : Int32 := fa_sum (fun p => f (17 + 15 * p + 2)) (fa_N (f 14))
def fb_rfm (f : Nat → Int32) (a : Int32) : Int32 := fa_sum (fun p => if f (17 + 15 * p + 6) = a then 1 else 0) (fa_N (f 14))
theorem fb_mA.pgs {f : Nat → Int32} {A : fb_At} (h : fb_mA f A) : fb_pgm f = fb_pgs A := by
  unfold fb_pgm fb_pgs
  rw [h.n]
  exact fa_sum_congr _ (fun k hk => h.F hk (i := 2) (by decide))
theorem fb_mA.refs {f : Nat → Int32} {A : fb_At} (h : fb_mA f A) (a : Int32) : fb_rfm f a = fb_refs A a := by
  unfold fb_rfm fb_refs
  rw [h.n]
  exact fa_sum_congr _ (fun k hk => by rw [h.F hk (i := 6) (by decide)])
def fb_owm (f : Nat → Int32) (p : Nat) : Int32 := if fb_dum f p ≤ f 7 then (if fb_msm f p ≤ 0 then (if fb_rsm f (f (17 + 15 * p)) ≤ 0 then 0 else nI 3) else nI 2) else nI 1
theorem fb_mask0 (c : Nat → Bool) : fa_mask c 8 ≤ 0 ↔ fa_mask c 8 = 0 := by
  have h : ∀ b0 b1 b2 b3 b4 b5 b6 b7 : Bool, fa_mask (fun k => if k = 0 then b0 else if k = 1 then b1 else if k = 2 then b2 else if k = 3 then b3 else if k = 4 then b4 else if k = 5 then b5 else if k = 6 then b6 else b7) 8 ≤ 0 ↔ fa_mask (fun k => if k = 0 then b0 else if k = 1 then b1 else if k = 2 then b2 else if k = 3 then b3 else if k = 4 then b4 else if k = 5 then b5 else if k = 6 then b6 else b7) 8 = 0 := by decide +kernel
  have e : fa_mask c 8 = fa_mask (fun k => if k = 0 then c 0 else if k = 1 then c 1 else if k = 2 then c 2 else if k = 3 then c 3 else if k = 4 then c 4 else if k = 5 then c 5 else if k = 6 then c 6 else c 7) 8 := rfl
  rw [e]
  exact h _ _ _ _ _ _ _ _
theorem fb_mA.own {f : Nat → Int32} {A : fb_At} (h : fb_mA f A) (hok : fb_okA A) {p : Nat} (hp : p < A.n) : fb_owm f p = fb_ownA A p := by
  unfold fb_owm fb_ownA
  rw [h.due hok hp, h.g (k := 7) (by decide), h.F0 hp, h.nres, h.msk hp]
  by_cases z : fb_maskA A p = 0
  · rw [if_pos z, if_pos (show fb_maskA A p ≤ 0 from (fb_mask0 _).mpr z)]
  · rw [if_neg z, if_neg (show ¬ fb_maskA A p ≤ 0 from fun y => z ((fb_mask0 _).mp y))]
