/-! WHAT STAYS: the class's marks -/
def fb_cnt (f : Nat → Int32) : Nat → Nat
  | 0 => 0
  | n + 1 => fb_cnt f n + (if f n = 0 then 1 else 0)
theorem fb_cnt_n {f : Nat → Int32} : ∀ n, fb_cnt f n ≤ n
  | 0 => Nat.le_refl _
  | n + 1 => by
    have := fb_cnt_n (f := f) n
    rw [fb_cnt]
    split <;> omega
theorem fb_cnt_p {f : Nat → Int32} {p : Nat} (h : ¬ f p = 0) : ∀ n, p < n → fb_cnt f n < n
  | 0, hp => absurd hp (Nat.not_lt_zero _)
  | n + 1, hp => by
    rw [fb_cnt]
    by_cases e : p = n
    · rw [e] at h
      rw [if_neg h]
      have := fb_cnt_n (f := f) n
      omega
    · have := fb_cnt_p h n (by omega)
      split <;> omega
theorem fb_cnt_le {f g : Nat → Int32} : ∀ n, (∀ k, k < n → g k = 0 → f k = 0) → fb_cnt g n ≤ fb_cnt f n
  | 0, _ => Nat.le_refl _
  | n + 1, h => by
    have h1 := fb_cnt_le n (fun k hk => h k (by omega))
    rw [fb_cnt, fb_cnt]
    by_cases z : g n = 0
    · rw [if_pos z, if_pos (h n (by omega) z)]; omega
    · rw [if_neg z]; omega
theorem fb_cnt_lt {f g : Nat → Int32} {p : Nat} : ∀ n, p < n → f p = 0 → ¬ g p = 0 → (∀ k, k < n → g k = 0 → f k = 0) → fb_cnt g n < fb_cnt f n
  | 0, hp, _, _, _ => absurd hp (Nat.not_lt_zero _)
  | n + 1, hp, hf, hg, h => by
    rw [fb_cnt, fb_cnt]
    by_cases e : p = n
    · rw [e] at hf hg
      rw [if_pos hf, if_neg hg]
      have := fb_cnt_le n (fun k hk => h k (by omega)) (f := f) (g := g)
      omega
    · have h1 := fb_cnt_lt n (by omega) hf hg (fun k hk => h k (by omega))
      by_cases z : g n = 0
      · rw [if_pos z, if_pos (h n (by omega) z)]; omega
      · rw [if_neg z]; omega
/-- numbers tell files apart -/
theorem fb_okA.num {A : fb_At} (h : fb_okA A) {p k : Nat} (hp : p < A.n) (hk : k < A.n) (e : A.F p 0 = A.F k 0) : p = k := by
  rcases Nat.lt_trichotomy p k with z | z | z
  · have := h.1.2.2.2.1 p k z hk
    rw [e] at this
    exact absurd this Int32.lt_irrefl
  · exact z
  · have := h.1.2.2.2.1 k p z hp
    rw [e] at this
    exact absurd this Int32.lt_irrefl
theorem fb_okA.npos {A : fb_At} (h : fb_okA A) {p : Nat} (hp : p < A.n) : 0 ≤ A.F p 0 := (h.1.2.2.2.2.1 p hp).1
theorem fb_pf_ne {v : fa_V} {r : fa_R} {b p k : Nat} {A : fb_At} (h : fb_cA v r b A) (hp : p < A.n) (hk : k < A.n) (hne : ¬ p = k) : ¬ fa_pf r b p = fa_pf r b k := fun e => hne (h.2.1 p k (Nat.lt_of_lt_of_le hp h.2.2.2.1.1) (Nat.lt_of_lt_of_le hk h.2.2.2.1.1) e)
def fb_mrI (A : fb_At) (v w : fa_V) (r : fa_R) (b k c j : Nat) : Prop :=
  (∀ p, p < A.n → ¬ v (fa_pf r b p) 8 = 0 → w (fa_pf r b p) 8 = v (fa_pf r b p) 8) ∧ (∀ p, p < A.n → v (fa_pf r b p) 8 = 0 → w (fa_pf r b p) 8 = 0 ∨ w (fa_pf r b p) 8 = nI 4) ∧ c < A.n ∧ ¬ w (fa_pf r b c) 8 = 0 ∧
  (∀ S : Nat → Prop, (∀ i j, i < A.n → j < A.n → S i → A.F j 0 = A.F i 6 → S j) → S k → S c ∧ ∀ p, p < A.n → v (fa_pf r b p) 8 = 0 → ¬ w (fa_pf r b p) 8 = 0 → S p) ∧
  (∀ p, p < A.n → (p = k ∨ (v (fa_pf r b p) 8 = 0 ∧ ¬ w (fa_pf r b p) 8 = 0)) → ¬ p = c → ∀ i, i < A.n → A.F i 0 = A.F p 6 → ¬ w (fa_pf r b i) 8 = 0) ∧
  fb_cnt (fun p => w (fa_pf r b p) 8) A.n + j ≤ fb_cnt (fun p => v (fa_pf r b p) 8) A.n
def fb_mrP (A : fb_At) (v w : fa_V) (r : fa_R) (b k : Nat) : Prop :=
  (∀ p, p < A.n → ¬ v (fa_pf r b p) 8 = 0 → w (fa_pf r b p) 8 = v (fa_pf r b p) 8) ∧ (∀ p, p < A.n → v (fa_pf r b p) 8 = 0 → w (fa_pf r b p) 8 = 0 ∨ w (fa_pf r b p) 8 = nI 4) ∧
  (∀ S : Nat → Prop, (∀ i j, i < A.n → j < A.n → S i → A.F j 0 = A.F i 6 → S j) → S k → ∀ p, p < A.n → v (fa_pf r b p) 8 = 0 → ¬ w (fa_pf r b p) 8 = 0 → S p) ∧
  ∀ p, p < A.n → (p = k ∨ (v (fa_pf r b p) 8 = 0 ∧ ¬ w (fa_pf r b p) 8 = 0)) → ∀ i, i < A.n → A.F i 0 = A.F p 6 → ¬ w (fa_pf r b i) 8 = 0
theorem fb_mrI.rf {A : fb_At} {v : fa_V} {r : fa_R} {b k : Nat} (hk : k < A.n) (h : ¬ v (fa_pf r b k) 8 = 0) : fb_mrI A v v r b k k 0 :=
  ⟨fun _ _ _ => rfl, fun _ _ z => Or.inl z, hk, h, fun S _ hS => ⟨hS, fun p _ a c => absurd a c⟩, fun p hp z hne => by
    rcases z with z | z
    · exact absurd z hne
    · exact absurd z.1 z.2, Nat.le_refl _⟩
/-- the target of the file at c, as find finds it -/
theorem fb_tgt1 {A : fb_At} {w : fa_V} {r : fa_R} {b c i : Nat} (hok : fb_okA A) (hc : fb_cA w r b A) (hcn : c < A.n) (hi : i < A.n) (e : A.F i 0 = w (fa_pf r b c) 6) : A.F i 0 = A.F c 6 := by
  have z := hc.f6 hcn (i := 6) (Or.inr rfl)
  rw [← e, fb_e6_pos (hok.npos hi)] at z
  exact z
theorem fb_tgt0 {A : fb_At} {w : fa_V} {r : fa_R} {b c i : Nat} (hok : fb_okA A) (hc : fb_cA w r b A) (hcn : c < A.n) (hi : i < A.n) (e : A.F i 0 = A.F c 6) : A.F i 0 = w (fa_pf r b c) 6 := by
  have z := hc.f6 hcn (i := 6) (Or.inr rfl)
  rw [← e] at z
  exact (fb_e6_inv z (hok.npos hi)).symm
theorem fb_mrI.s {A : fb_At} {v w w1 : fa_V} {r : fa_R} {b k c i j : Nat} (hok : fb_okA A) (hc : fb_cA w r b A) (h : fb_mrI A v w r b k c j) (hi : i < A.n) (e : A.F i 0 = w (fa_pf r b c) 6) (h0 : w (fa_pf r b i) 8 = 0) (e1 : w1 = fa_u w (fa_pf r b i) 8 (nI 4)) : fb_mrI A v w1 r b k i (j + 1) := by
  obtain ⟨h1, h2, h3, h4, h5, h6, h7⟩ := h
  have et := fb_tgt1 hok hc h3 hi e
  have s : w1 (fa_pf r b i) 8 = nI 4 := by rw [e1, fa_u_s]
  have o : ∀ p, p < A.n → ¬ p = i → w1 (fa_pf r b p) 8 = w (fa_pf r b p) 8 := fun p hp hne => by
    have := fb_pf_ne hc hp hi hne
    rw [e1, fa_u_n _ _ (fun z => this z.1)]
  have up : ∀ p, p < A.n → ¬ w (fa_pf r b p) 8 = 0 → ¬ w1 (fa_pf r b p) 8 = 0 := fun p hp hw => by
    by_cases z : p = i
    · rw [z, s]; decide
    · rw [o p hp z]; exact hw
  have n4 : ¬ (nI 4 : Int32) = 0 := by decide
  refine ⟨fun p hp hv => ?_, fun p hp hv => ?_, hi, by rw [s]; exact n4, fun S hS hk => ?_, fun p hp hz hne q hq hqe => ?_, ?_⟩
  · have z := h1 p hp hv
    rw [o p hp (fun y => by rw [y] at z; rw [y] at hv; rw [h0] at z; exact hv z.symm)]
    exact z
  · by_cases z : p = i
    · rw [z, s]; exact Or.inr rfl
    · rw [o p hp z]; exact h2 p hp hv
  · have z := h5 S hS hk
    have si := hS c i h3 hi z.1 et
    refine ⟨si, fun p hp a d => ?_⟩
    by_cases y : p = i
    · rw [y]; exact si
    · rw [o p hp y] at d; exact z.2 p hp a d
  · by_cases y : p = c
    · have : q = i := hok.num hq hi (by rw [hqe, y, et])
      rw [this, s]; exact n4
    · refine up q hq (h6 p hp ?_ y q hq hqe)
      rcases hz with hz | hz
      · exact Or.inl hz
      · exact Or.inr ⟨hz.1, by rw [o p hp hne] at hz; exact hz.2⟩
  · have := fb_cnt_lt (f := fun p => w (fa_pf r b p) 8) (g := fun p => w1 (fa_pf r b p) 8) (p := i) A.n hi h0 (by show ¬ w1 (fa_pf r b i) 8 = 0; rw [s]; exact n4) (fun q hq hz => Decidable.byContradiction (fun y => up q hq y hz))
    omega
theorem fb_mrI.e {A : fb_At} {v w : fa_V} {r : fa_R} {b k c j : Nat} (h : fb_mrI A v w r b k c j) (ht : ∀ i, i < A.n → A.F i 0 = A.F c 6 → ¬ w (fa_pf r b i) 8 = 0) : fb_mrP A v w r b k := by
  obtain ⟨h1, h2, h3, h4, h5, h6, h7⟩ := h
  refine ⟨h1, h2, fun S hS hk => (h5 S hS hk).2, fun p hp hz i hi e => ?_⟩
  by_cases y : p = c
  · rw [y] at e; exact ht i hi e
  · exact h6 p hp hz y i hi e
theorem fb_mrI.no {A : fb_At} {v w : fa_V} {r : fa_R} {b k c j : Nat} (hok : fb_okA A) (hk : k < A.n) (hv : ¬ v (fa_pf r b k) 8 = 0) (h : fb_mrI A v w r b k c j) (hj : 24 ≤ j) : False := by
  have h1 := fb_cnt_p (f := fun p => v (fa_pf r b p) 8) hv A.n hk
  have h2 := h.2.2.2.2.2.2
  have h3 := hok.1.1
  omega
/-- why each would stay -/
def fb_mk1 (A : fb_At) (w : fa_V) (r : fa_R) (b j : Nat) : Prop := ∀ p, p < j → w (fa_pf r b p) 8 = fb_ownA A p
def fb_m2 (A : fb_At) (w : fa_V) (r : fa_R) (b j : Nat) : Prop :=
  (∀ p, p < A.n → ¬ fb_ownA A p = 0 → w (fa_pf r b p) 8 = fb_ownA A p) ∧ (∀ p, p < A.n → fb_ownA A p = 0 → w (fa_pf r b p) 8 = 0 ∨ w (fa_pf r b p) 8 = nI 4) ∧
  (∀ S : Nat → Prop, fb_clos A S → ∀ p, p < A.n → ¬ w (fa_pf r b p) 8 = 0 → S p) ∧
  ∀ p, p < A.n → ¬ w (fa_pf r b p) 8 = 0 → (p < j ∨ fb_ownA A p = 0) → ∀ i, i < A.n → A.F i 0 = A.F p 6 → ¬ w (fa_pf r b i) 8 = 0
theorem fb_own4 {A : fb_At} {p : Nat} : ¬ fb_ownA A p = nI 4 := by
  unfold fb_ownA
  split
  · split
    · split <;> decide
    · decide
  · decide
theorem fb_m2.start {A : fb_At} {w : fa_V} {r : fa_R} {b : Nat} (h : fb_mk1 A w r b A.n) : fb_m2 A w r b 0 := by
  refine ⟨fun p hp _ => h p hp, fun p hp z => Or.inl (by rw [h p hp]; exact z), fun S hS p hp hw => hS.1 p hp (by rw [← h p hp]; exact hw), fun p hp hw hz => ?_⟩
  rcases hz with hz | hz
  · exact absurd hz (Nat.not_lt_zero _)
  · rw [h p hp] at hw; exact absurd hz hw
theorem fb_m2.skip {A : fb_At} {w : fa_V} {r : fa_R} {b j : Nat} (h : fb_m2 A w r b j) (hz : w (fa_pf r b j) 8 = 0 ∨ w (fa_pf r b j) 8 = nI 4) : fb_m2 A w r b (j + 1) := by
  refine ⟨h.1, h.2.1, h.2.2.1, fun p hp hw hy i hi e => h.2.2.2 p hp hw ?_ i hi e⟩
  rcases hy with hy | hy
  · by_cases q : p = j
    · refine Or.inr (Decidable.byContradiction (fun y => ?_))
      have z := h.1 p hp y
      rcases hz with hz | hz
      · rw [q] at hw; exact hw hz
      · rw [q, hz] at z; rw [q] at hp; exact fb_own4 z.symm
    · exact Or.inl (by omega)
  · exact Or.inr hy
theorem fb_m2.call {A : fb_At} {w w1 : fa_V} {r : fa_R} {b j : Nat} (h : fb_m2 A w r b j) (hj : j < A.n) (hw : ¬ w (fa_pf r b j) 8 = 0) (hm : fb_mrP A w w1 r b j) : fb_m2 A w1 r b (j + 1) := by
  obtain ⟨m1, m2, m3, m4⟩ := hm
  refine ⟨fun p hp ho => ?_, fun p hp ho => ?_, fun S hS p hp hz => ?_, fun p hp hz hy i hi e => ?_⟩
  · rw [m1 p hp (by rw [h.1 p hp ho]; exact ho)]; exact h.1 p hp ho
  · rcases h.2.1 p hp ho with z | z
    · exact m2 p hp z
    · rw [m1 p hp (by rw [z]; decide)]; exact Or.inr z
  · by_cases z : w (fa_pf r b p) 8 = 0
    · exact m3 S (fun i j hi hj a c => hS.2 i j hi hj a c) (h.2.2.1 S hS j hj hw) p hp z hz
    · exact h.2.2.1 S hS p hp z
  · by_cases q : p = j
    · exact m4 p hp (Or.inl q) i hi e
    · by_cases z : w (fa_pf r b p) 8 = 0
      · exact m4 p hp (Or.inr ⟨z, hz⟩) i hi e
      · have y := h.2.2.2 p hp z (hy.elim (fun a => Or.inl (by omega)) Or.inr) i hi e
        rw [m1 i hi y]; exact y
theorem fb_m2.e {A : fb_At} {w : fa_V} {r : fa_R} {b : Nat} (h : fb_m2 A w r b A.n) {p : Nat} (hp : p < A.n) : w (fa_pf r b p) 8 = fb_why A p := by
  unfold fb_why
  by_cases o : fb_ownA A p = 0
  · rw [if_pos o]
    have st : fb_stay A p ↔ ¬ w (fa_pf r b p) 8 = 0 := by
      constructor
      · intro s
        refine s (fun q => q < A.n → ¬ w (fa_pf r b q) 8 = 0) ⟨fun k hk ho _ => ?_, fun k j hk hj a e _ => ?_⟩ hp
        · rw [h.1 k hk ho]; exact ho
        · exact h.2.2.2 k hk (a hk) (Or.inl hk) j hj e
      · intro z
        exact h.2.2.1 (fb_stay A) fb_stay.clos p hp z
    rcases h.2.1 p hp o with z | z
    · rw [if_neg (fun y => (st.mp (fb_stb_t.mp y)) z), z]
    · rw [if_pos (fb_stb_t.mpr (st.mpr (by rw [z]; decide))), z]
  · rw [if_neg o]; exact h.1 p hp o
/-- own reasons -/
theorem fb_sumP {L : List (Int32 × Int32)} {f : Nat → Int32} {P : Int32 × Int32 → Bool} (hf : ∀ k (hk : k < L.length), f k = if P L[k] = true then 1 else 0) : ∀ n, n ≤ L.length → fa_sum f n = nI ((L.take n).countP P)
  | 0, _ => rfl
  | n + 1, h => by
    rw [fa_sum, fb_sumP hf n (by omega), List.take_succ_eq_append_getElem (by omega), List.countP_append, List.countP_singleton, hf n (by omega)]
    split
    · exact nI_1 _
    · rw [Int32.add_zero]; rfl
theorem fb_cQ.nres {v : fa_V} {b : Nat} {q : List (Int32 × Int32)} (h : fb_cQ v b q) (a : Int32) : fa_resv v b a = nI (q.countP (fun y => decide (y.1 = a))) := by
  obtain ⟨L, hL, hP, -⟩ := h
  unfold fa_resv
  rw [hL.n, fb_sumP (L := L) (P := fun y => decide (y.1 = a)) (fun k hk => ?_) L.length (Nat.le_refl _), List.take_length, hP.countP_eq]
  have e := hL.at hk
  have e1 : L[k].1 = v (b + 3) k := by rw [e]
  rw [← e1]
  by_cases z : L[k].1 = a
  · rw [if_pos z, if_pos (decide_eq_true z)]
  · rw [if_neg z, if_neg (by rw [decide_eq_false z]; decide)]
theorem fb_cA.due {v : fa_V} {r : fa_R} {b p : Nat} {A : fb_At} (hok : fb_okA A) (h : fb_cA v r b A) (hp : p < A.n) : fa_due v b (fa_pf r b p) = fb_dueA A p := by
  have q := hok.1.2.2.2.2.2 p hp
  obtain ⟨k, hk, ek⟩ := q.1
  have e1 : v (fa_pf r b p) 1 = nI k := by rw [h.f hp (by decide) (by decide)]; exact ek
  have st : (if v (fa_pf r b p) 4 = (-6 : Int32) then v (fa_pf r b p) 3 else v (fa_pf r b p) 4) = if A.F p 4 < 0 then A.F p 3 else A.F p 4 := by
    have z := h.f6 hp (i := 4) (Or.inl rfl)
    rcases q.2.1 with w | w
    · rw [w] at z
      rw [if_pos (fb_e6_m1 z), w, if_pos (by decide), h.f hp (by decide) (by decide)]
    · have x := fb_e6_inv z w
      rw [if_neg (fun y => by rw [x] at y; rw [y] at w; exact absurd w (by decide)), if_neg (Int32.not_lt.mpr w), x]
  unfold fa_due fb_dueA
  rw [st, h.f hp (i := 5) (by decide) (by decide), h.set (k := 5) (by decide), e1, fa_N_nI (by omega), h.set (k := k) (by omega), ek, fa_N_nI (by omega)]
theorem fb_cA.own {v : fa_V} {r : fa_R} {b p : Nat} {A : fb_At} (hok : fb_okA A) (h : fb_cA v r b A) (hp : p < A.n) : fa_own v b (fa_pf r b p) = fb_ownA A p := by
  unfold fa_own fb_ownA fb_nres
  rw [h.due hok hp, h.now, ← h.now, h.mask hok hp, h.f hp (i := 0) (by decide) (by decide), h.2.2.2.2.1.nres, h.now]
theorem fb_mk1.s {A : fb_At} {w w1 : fa_V} {r : fa_R} {b j : Nat} {x : Int32} (hok : fb_okA A) (hc : fb_cA w r b A) (h : fb_mk1 A w r b j) (hj : j < A.n) (hx : x = fa_own w b (fa_pf r b j)) (e : w1 = fa_u w (fa_pf r b j) 8 x) : fb_mk1 A w1 r b (j + 1) := fun p hp => by
  by_cases z : p = j
  · rw [z, e, fa_u_s, hx]; exact hc.own hok hj
  · have := fb_pf_ne hc (p := p) (k := j) (by omega) hj z
    rw [e, fa_u_n _ _ (fun y => this y.1)]
    exact h p (by omega)
