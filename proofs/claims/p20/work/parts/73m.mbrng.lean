/-! A BURNING in the reference's row -/
def fb_bS (A : fb_At) (w : Nat → Int32) : Prop := ∀ p, p < A.n → w p = if fb_stb A p = true then nI 1 else nI 0
theorem fb_bS.t {A : fb_At} {w : Nat → Int32} {p : Nat} (h : fb_bS A w) (hp : p < A.n) (c : ¬ w p = 0) : fb_stb A p = true := Decidable.byContradiction (fun z => c (by rw [h p hp, if_neg z]; rfl))
theorem fb_bS.f {A : fb_At} {w : Nat → Int32} {p : Nat} (h : fb_bS A w) (hp : p < A.n) (c : w p = 0) : ¬ fb_stb A p = true := fun z => by
  rw [h p hp, if_pos z] at c
  exact absurd c (by decide)
noncomputable def fb_bj (A : fb_At) (j : Nat) : Int32 × Int32 × Nat × (Nat → Nat → Int32) := fb_bt (fb_stb A) A.F (A.g 7) (A.m, A.T) j
def fb_bg (A : fb_At) (f : Nat → Int32) (j : Nat) : Prop := (∀ i, i < 14 → ¬ i = 9 → ¬ i = 10 → f i = A.g i) ∧ f 9 = A.g 9 + (fb_bj A j).1 ∧ f 10 = A.g 10 + (fb_bj A j).2.1 ∧ (∃ L, fb_mL f L ∧ L.Perm A.q) ∧ fb_mT f (fb_bj A j).2.2.1 (fb_bj A j).2.2.2
def fb_b1 (A : fb_At) (f : Nat → Int32) (x : Int32) (j : Nat) : Prop := x = (fb_bj A j).1 ∧ fb_bg A f j ∧ (∀ p i, p < A.n → i < 15 → ¬ i = 6 → f (17 + 15 * p + i) = A.F p i) ∧ ∀ p, p < A.n → fb_stb A p = true → f (17 + 15 * p + 6) = A.F p 6
def fb_b2 (A : fb_At) (f : Nat → Int32) (lf pl : Nat) : Prop := fb_bg A f A.n ∧ lf = (fb_kp (fb_stb A) A.F pl).1 ∧ (∀ p i, p < lf → i < 15 → f (17 + 15 * p + i) = (fb_kp (fb_stb A) A.F pl).2 p i) ∧ ∀ p i, pl ≤ p → p < A.n → fb_stb A p = true → i < 15 → f (17 + 15 * p + i) = A.F p i
def fb_b3 (A : fb_At) (f : Nat → Int32) (lf pl k : Nat) : Prop := fb_b2 A f lf pl ∧ ∀ i, i < k → i < 15 → f (17 + 15 * lf + i) = A.F pl i
theorem fb_bg.congr {A : fb_At} {f f1 : Nat → Int32} {j : Nat} (h : fb_bg A f j) (e : ∀ i, i < 14 ∨ i = 15 ∨ i = 16 ∨ 377 ≤ i → f1 i = f i) : fb_bg A f1 j := by
  obtain ⟨h1, h2, h3, ⟨L, h4, h5⟩, h6⟩ := h
  exact ⟨fun i a b c => by rw [e i (Or.inl a)]; exact h1 i a b c, by rw [e 9 (by decide)]; exact h2, by rw [e 10 (by decide)]; exact h3, ⟨L, h4.congr (fun i hi => e i (by omega)), h5⟩, h6.congr (fun i hi => e i (by omega))⟩
theorem fb_b1.start {A : fb_At} {f : Nat → Int32} (h : fb_mA f A) : fb_b1 A f (nI 0) 0 :=
  ⟨rfl, ⟨fun i hi _ _ => h.g hi, by rw [h.g (k := 9) (by decide)]; exact (Int32.add_zero _).symm, by rw [h.g (k := 10) (by decide)]; exact (Int32.add_zero _).symm, h.2.2.1, h.2.2.2⟩, fun p i hp hi _ => h.F hp hi, fun p hp _ => h.F hp (by decide)⟩
theorem fb_bj_t {A : fb_At} {j : Nat} (c : fb_stb A j = true) : fb_bj A (j + 1) = fb_bj A j := if_pos c
theorem fb_bj_f {A : fb_At} {j : Nat} (c : ¬ fb_stb A j = true) : fb_bj A (j + 1) = ((fb_bj A j).1 + nI 1, (fb_bj A j).2.1 + A.F j 2, fb_lv (A.g 7) (A.F j) (fb_bj A j).2.2) := if_neg c
theorem fb_b1.skip {A : fb_At} {f : Nat → Int32} {x : Int32} {j : Nat} (h : fb_b1 A f x j) (c : fb_stb A j = true) : fb_b1 A f x (j + 1) := by
  unfold fb_b1 fb_bg
  rw [fb_bj_t c]
  exact h
theorem fb_m_lvc {now : Int32} {x y : Nat → Int32} {f : Nat → Int32} {t : Nat × (Nat → Nat → Int32)} (e : ∀ i, i < 6 → x i = y i) (h : fb_mT f (fb_lv now x t).1 (fb_lv now x t).2) : fb_mT f (fb_lv now y t).1 (fb_lv now y t).2 := by
  unfold fb_lv at h ⊢
  by_cases z : t.1 = 12
  · rw [if_pos z] at h ⊢
    refine ⟨h.1, h.2.1, fun p i hp hi => ?_⟩
    rw [h.2.2 p i hp hi]
    show (if p = 11 then _ else _) = if p = 11 then _ else _
    rw [e 5 (by decide), e i (by omega)]
  · rw [if_neg z] at h ⊢
    refine ⟨h.1, h.2.1, fun p i hp hi => ?_⟩
    rw [h.2.2 p i hp hi]
    show (if p = t.1 then _ else _) = if p = t.1 then _ else _
    rw [e 5 (by decide), e i (by omega)]
theorem fb_b1.burn {A : fb_At} {f f1 : Nat → Int32} {x : Int32} {j : Nat} (hn : A.n ≤ 24) (h : fb_b1 A f x j) (hj : j < A.n) (c : ¬ fb_stb A j = true) (h15 : f1 15 = f 15) (hb : fb_mBU f f1 j) : fb_b1 A f1 (x + nI 1) (j + 1) := by
  obtain ⟨h1, ⟨g1, g2, g3, ⟨L, g4, g5⟩, g6⟩, h2, h3⟩ := h
  obtain ⟨b1, b2, b3, b4, b5, b6, b7⟩ := hb
  have e0 : f (17 + 15 * j) = A.F j 0 := h2 j 0 hj (by decide) (by decide)
  unfold fb_b1 fb_bg
  rw [fb_bj_f c]
  refine ⟨by rw [h1], ⟨fun i a b c => by rw [b1 i a b c]; exact g1 i a b c, ?_, ?_, ⟨L, g4.congr (fun i hi => ?_), g5⟩, ?_⟩, fun p i hp hi h6 => by rw [b5 p i (by omega) hi h6]; exact h2 p i hp hi h6, fun p hp hs => ?_⟩
  · rw [b2, g2, Int32.add_assoc]
  · rw [b3, g3, h2 j 2 hj (by decide) (by decide), Int32.add_assoc]
  · rcases hi with z | z
    · rw [z]; exact h15
    · exact b4 i z.1 z.2
  · have z := b7 _ _ g6
    rw [g1 7 (by decide) (by decide) (by decide)] at z
    exact fb_m_lvc (fun i hi => h2 j i hj (by omega) (by omega)) z
  · rw [b6 p (by omega) (fun z => ?_)]
    · exact h3 p hp hs
    · rw [h3 p hp hs, e0] at z
      exact c (fb_stb_t.mpr (fb_stay.clos.2 p j hp hj (fb_stb_t.mp hs) z.symm))
theorem fb_b1.two {A : fb_At} {f : Nat → Int32} {x : Int32} (h : fb_b1 A f x A.n) : fb_b2 A f 0 0 :=
  ⟨h.2.1, rfl, fun p i hp => absurd hp (Nat.not_lt_zero _), fun p i _ hp hs hi => by
    by_cases z : i = 6
    · rw [z]; exact h.2.2.2 p hp hs
    · exact h.2.2.1 p i hp hi z⟩
theorem fb_b2.skip {A : fb_At} {f : Nat → Int32} {lf pl : Nat} (h : fb_b2 A f lf pl) (c : ¬ fb_stb A pl = true) : fb_b2 A f lf (pl + 1) := by
  have e : fb_kp (fb_stb A) A.F (pl + 1) = fb_kp (fb_stb A) A.F pl := if_neg c
  unfold fb_b2
  rw [e]
  exact ⟨h.1, h.2.1, h.2.2.1, fun p i hp => h.2.2.2 p i (by omega)⟩
theorem fb_b2.three {A : fb_At} {f : Nat → Int32} {lf pl : Nat} (h : fb_b2 A f lf pl) : fb_b3 A f lf pl 0 := ⟨h, fun i hi => absurd hi (Nat.not_lt_zero _)⟩
theorem fb_b3.s {A : fb_At} {w w1 : fa_V} {lf pl k : Nat} (hn : A.n ≤ 24) (hl : lf ≤ pl) (hp : pl < A.n) (c : fb_stb A pl = true) (hk : k < 15) (h : fb_b3 A (w 398) lf pl k) (e : w1 = fa_u w 398 (17 + 15 * lf + k) (w 398 (17 + 15 * pl + k))) : fb_b3 A (w1 398) lf pl (k + 1) := by
  obtain ⟨⟨h1, h2, h3, h4⟩, h5⟩ := h
  have a : ∀ i, ¬ i = 17 + 15 * lf + k → w1 398 i = w 398 i := fun i hi => by rw [e]; exact fa_u_n _ _ (fun z => hi z.2)
  have s : w1 398 (17 + 15 * lf + k) = A.F pl k := by rw [e, fa_u_s]; exact h4 pl k (Nat.le_refl _) hp c hk
  refine ⟨⟨h1.congr (fun i hi => a i (by omega)), h2, fun p i hp hi => by rw [a _ (by omega)]; exact h3 p i hp hi, fun p i h hpn hs hi => ?_⟩, fun i hi h15 => ?_⟩
  · by_cases z : p = lf ∧ i = k
    · have : p = pl := by omega
      rw [z.1, z.2, s, ← this, z.1]
    · rw [a _ (by omega)]; exact h4 p i h hpn hs hi
  · by_cases z : i = k
    · rw [z]; exact s
    · rw [a _ (by omega)]; exact h5 i (by omega) h15
theorem fb_b3.e {A : fb_At} {f : Nat → Int32} {lf pl : Nat} (h : fb_b3 A f lf pl 15) (c : fb_stb A pl = true) : fb_b2 A f (lf + 1) (pl + 1) := by
  obtain ⟨⟨h1, h2, h3, h4⟩, h5⟩ := h
  have e : fb_kp (fb_stb A) A.F (pl + 1) = ((fb_kp (fb_stb A) A.F pl).1 + 1, fun p i => if p = (fb_kp (fb_stb A) A.F pl).1 then A.F pl i else (fb_kp (fb_stb A) A.F pl).2 p i) := if_pos c
  unfold fb_b2
  rw [e, ← h2]
  refine ⟨h1, rfl, fun p i hp hi => ?_, fun p i hp => h4 p i (by omega)⟩
  show _ = if p = lf then _ else _
  by_cases z : p = lf
  · rw [if_pos z, z]; exact h5 i hi hi
  · rw [if_neg z]; exact h3 p i (by omega) hi
theorem fb_kp_n (P : Nat → Bool) (F : Nat → Nat → Int32) : ∀ n, (fb_kp P F n).1 ≤ n
  | 0 => Nat.le_refl _
  | n + 1 => by
    have := fb_kp_n P F n
    rw [fb_kp]
    split
    · show (fb_kp P F n).1 + 1 ≤ n + 1; omega
    · omega
theorem fb_b2.e {A : fb_At} {w w1 w2 : fa_V} {lf : Nat} (hn : A.n ≤ 24) (h : fb_b2 A (w 398) lf A.n) (e1 : w1 = fa_u w 398 14 (nI lf)) (e2 : w2 = fa_u w1 398 13 (w1 398 13 + nI 1)) : fb_mA (w2 398) (fb_burnA A).2 := by
  obtain ⟨⟨g1, g2, g3, ⟨L, g4, g5⟩, g6⟩, h2, h3, -⟩ := h
  have hl := fb_kp_n (fb_stb A) A.F A.n
  have a1 : ∀ i, ¬ i = 14 → w1 398 i = w 398 i := fun i hi => by rw [e1]; exact fa_u_n _ _ (fun z => hi z.2)
  have a2 : ∀ i, ¬ i = 13 → w2 398 i = w1 398 i := fun i hi => by rw [e2]; exact fa_u_n _ _ (fun z => hi z.2)
  have a : ∀ i, ¬ i = 13 → ¬ i = 14 → w2 398 i = w 398 i := fun i x y => by rw [a2 i x, a1 i y]
  refine ⟨fun k hk => ?_, ⟨?_, ?_, fun p i hp hi => ?_⟩, ⟨L, g4.congr (fun i hi => a i (by omega) (by omega)), g5⟩, g6.congr (fun i hi => a i (by omega) (by omega))⟩
  · show _ = fb_s1 (fb_s1 (fb_s1 A.g 9 (A.g 9 + (fb_bj A A.n).1)) 10 (A.g 10 + (fb_bj A A.n).2.1)) 13 (A.g 13 + nI 1) k
    by_cases z13 : k = 13
    · rw [z13, fb_s1_s, e2, fa_u_s, a1 13 (by decide), g1 13 (by decide) (by decide) (by decide)]
    · rw [fb_s1_n z13, a k z13 (by omega)]
      by_cases z10 : k = 10
      · rw [z10, fb_s1_s]; exact g3
      · rw [fb_s1_n z10]
        by_cases z9 : k = 9
        · rw [z9, fb_s1_s]; exact g2
        · rw [fb_s1_n z9]; exact g1 k hk z9 z10
  · show (fb_kp (fb_stb A) A.F A.n).1 ≤ 24; omega
  · rw [a2 14 (by decide), e1, fa_u_s, h2]; rfl
  · have hp' : p < (fb_kp (fb_stb A) A.F A.n).1 := hp
    rw [a _ (by omega) (by omega)]
    exact h3 p i (by rw [h2]; exact hp') hi
