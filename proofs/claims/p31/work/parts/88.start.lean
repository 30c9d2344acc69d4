theorem fa_IS0 {v : fa_V} {b : Nat} (h : ∀ k, b ≤ k → k < b + 56 → ¬ k = b + 7 → ∀ i, v k i = 0) : fa_IS v b :=
  ⟨⟨0, by decide, h b (by omega) (by omega) (by omega) 1⟩, ⟨0, by decide, h (b + 2) (by omega) (by omega) (by omega) 0⟩, ⟨0, by decide, h (b + 5) (by omega) (by omega) (by omega) 0⟩, fun j hj => ⟨0, by decide, h (b + 8 + 2 * j) (by omega) (by omega) (by omega) 1⟩⟩
theorem fa_bs_cases : ∀ b ∈ fa_bs, b = 1 ∨ b = 57 ∨ ∃ j, j < 5 ∧ b = 115 + 56 * j := by
  intro b hb
  simp only [fa_bs, List.mem_cons, List.not_mem_nil, or_false] at hb
  rcases hb with h | h | h | h | h | h | h
  · exact Or.inl h
  · exact Or.inr (Or.inl h)
  · exact Or.inr (Or.inr ⟨0, by decide, h⟩)
  · exact Or.inr (Or.inr ⟨1, by decide, h⟩)
  · exact Or.inr (Or.inr ⟨2, by decide, h⟩)
  · exact Or.inr (Or.inr ⟨3, by decide, h⟩)
  · exact Or.inr (Or.inr ⟨4, by decide, h⟩)
theorem fa_hbH : ∀ j, j < 5 → 115 + 56 * j ∈ fa_hb := by decide
theorem fa_CI_start {v : fa_V} {r : fa_R} (hA : fa_RA r) (hH : ∀ i, i < 5 → r 114 i = some (115 + 56 * i)) (h1 : fa_RS r 1) (h57 : fa_RS r 57) (hrH : ∀ i, i < 5 → fa_RS r (115 + 56 * i)) (hz : ∀ k, 1 ≤ k → k < 397 → ¬ k = 8 → ¬ k = 64 → (∀ p, p < 5 → ¬ k = 115 + 56 * p + 7) → ∀ i, v k i = 0) : fa_CI v r := by
  refine ⟨hA, fun b hb => ?_, fun i hi => ⟨_, fa_hbH i hi, hH i hi⟩, fun i j hi hj e => ?_, ⟨0, by decide, hz 113 (by decide) (by decide) (by decide) (by decide) (fun p hp => by omega) 0⟩, ⟨0, by decide, hz 395 (by decide) (by decide) (by decide) (by decide) (fun p hp => by omega) 1⟩, fun i hi => ?_⟩
  · rcases fa_bs_cases b hb with e | e | ⟨j, hj, e⟩
    · subst e
      exact ⟨h1, fa_IS0 (fun k a b c => hz k (by omega) (by omega) (by omega) (by omega) (fun p hp => by omega))⟩
    · subst e
      exact ⟨h57, fa_IS0 (fun k a b c => hz k (by omega) (by omega) (by omega) (by omega) (fun p hp => by omega))⟩
    · subst e
      exact ⟨hrH j hj, fa_IS0 (fun k a b c => hz k (by omega) (by omega) (by omega) (by omega) (fun p hp => by omega))⟩
  · rw [hH i hi, hH j hj] at e
    have := Option.some.inj e
    omega
  · rw [hz 396 (by decide) (by decide) (by decide) (by decide) (fun p hp => by omega) i]
    exact fa_isC_0
def fb_A0 : fb_At := (fun k => if k < 7 then fa_stV 0 k else 0, (0, fun _ _ => 0), [], (0, fun _ _ => 0))
theorem fb_okA0 : fb_okA fb_A0 :=
  ⟨⟨Nat.zero_le _, ⟨0, by decide, rfl⟩, ⟨0, by decide, rfl⟩, fun p k _ hk => absurd hk (Nat.not_lt_zero _), fun p hp => absurd hp (Nat.not_lt_zero _), fun p hp => absurd hp (Nat.not_lt_zero _)⟩, Nat.zero_le _, Nat.zero_le _, List.nodup_nil, fun y hy => absurd hy (by
    show ¬ y ∈ ([] : List (Int32 × Int32))
    simp)⟩
theorem fb_CV_start {v : fa_V} {r : fa_R} (h1 : fb_RS1 r 1) (hH : ∀ i, i < 5 → fb_RS1 r (115 + 56 * i)) (z1 : ∀ i, i < 8 → v 1 i = 0) (z2 : v (1 + 2) 0 = 0) (z5 : v (1 + 5) 0 = 0) (z7 : ∀ i, i < 7 → v (1 + 7) i = fa_stV 0 i) (z113 : v 113 0 = 0) : fb_CV v r fb_A0 [] := by
  refine ⟨fb_okA0, fun b hb h57 => ?_, ⟨h1.1, h1.inj, ⟨fun k hk => ?_, z1 0 (by decide), fun k k8 k14 => ?_⟩, ⟨Nat.zero_le _, z1 1 (by decide), fun p i hp => absurd hp (Nat.not_lt_zero _)⟩, ⟨[], ⟨z2, Nat.zero_le _, fun p y e => absurd e (by simp)⟩, List.Perm.refl _, List.Pairwise.nil⟩, ⟨Nat.zero_le _, z5, fun p i hp => absurd hp (Nat.not_lt_zero _)⟩⟩, z113, Nat.zero_le _, fun i hi => absurd hi (Nat.not_lt_zero _)⟩
  · rcases fa_bs_cases b hb with e | e | ⟨j, hj, e⟩
    · subst e; exact h1.inj
    · exact absurd e h57
    · subst e; exact (hH j hj).inj
  · show _ = if k < 7 then fa_stV 0 k else 0
    rw [if_pos hk]
    exact z7 k hk
  · show _ = if k < 7 then fa_stV 0 k else 0
    rw [if_neg (by omega)]
    exact z1 (k - 6) (by omega)
/-! THE START -/
theorem fc_ok0 : fc_ok fb_A0 0 0 0 (0 / 90) 0 := by
  refine ⟨rfl, rfl, rfl, rfl, rfl, Nat.le_refl _, ⟨fun i hi => ?_, ⟨3, by decide, by decide, rfl⟩, ⟨300, by decide, by decide, rfl⟩⟩, fun p hp => absurd hp (Nat.not_lt_zero _), ⟨fun p hp => absurd hp (Nat.not_lt_zero _), fun p q _ hq => absurd hq (Nat.not_lt_zero _)⟩⟩
  rcases (show i = 0 ∨ i = 1 ∨ i = 2 ∨ i = 3 ∨ i = 4 by omega) with z | z | z | z | z <;> subst z
  · exact ⟨90, by decide, by decide, rfl⟩
  · exact ⟨180, by decide, by decide, rfl⟩
  · exact ⟨360, by decide, by decide, rfl⟩
  · exact ⟨720, by decide, by decide, rfl⟩
  · exact ⟨1440, by decide, by decide, rfl⟩
/-- no text is no order -/
theorem fc_FR0 {t : Nat → Int32} {n j : Nat} (hn : n = 0) : ¬ fa_FR (fa_sg t n) n j (-6 : Int32) := by
  subst hn
  intro hF
  obtain ⟨hp, h⟩ := hF
  have j0 : j = 0 := Decidable.byContradiction (fun z => Nat.not_lt_zero _ (hp 0 (by omega)).2.1)
  subst j0
  have eo : fa_oa (fa_sg t 0) 0 = (false, 0, (-1 : Int32), (-1 : Int32)) := by
    show fa_ord (fa_sg t 0) 0 = _
    have s0 : fa_sg t 0 0 = 0 := fa_sg_out (Nat.le_refl _)
    unfold fa_ord
    rw [s0]
    rw [if_neg (by decide), if_neg (by decide), if_neg (by decide), if_neg (by decide), if_neg (by decide)]
  rw [eo] at h
  rcases h with ⟨-, h⟩ | ⟨h, -⟩ | ⟨h, -⟩
  · exact absurd h (by decide)
  · exact absurd h (by decide)
  · exact absurd h (by decide)
/-- a comparison with itself -/
theorem fc_cmpI (i : Int) : compare i i = .eq := by
  show compareOfLessAndEq i i = .eq
  unfold compareOfLessAndEq
  rw [if_neg (Int.lt_irrefl _), if_pos rfl]
theorem fc_ord : ∀ x : FP.Core.Datum, ¬ x = .nan → FP.Core.order x x = some .eq
  | .nan, h => absurd rfl h
  | .inf _, _ => congrArg some (fc_cmpI _)
  | .fin _ _ _, _ => congrArg some (fc_cmpI _)
theorem fc_fself {x : UInt32} (h : ¬ FP.Core.decode FP.Core.b32 x.toNat = .nan) : Op.cmpValue (FP.fcmp x x) .l = 0 := by
  have e : FP.fcmp x x = some .eq := fc_ord _ h
  rw [e]
  rfl
theorem fc_nan {x : Int32} {n : Nat} (h1 : 1 ≤ n) (h2 : n ≤ 24) : ¬ FP.Core.decode FP.Core.b32 (FP.fdiv (FP.i2f x) (FP.i2f (nI n))).toNat = .nan := by
  obtain ⟨k, rfl⟩ : ∃ k, n = k + 1 := ⟨n - 1, by omega⟩
  have h := fa_enc32 (fa_quot_good (fa_i2f_ok x) (fa_cnt_pos k (by omega)))
  have h3 := fa_u32 h.1 h.2
  show ¬ FP.Core.decode FP.Core.b32 (UInt32.ofNat (FP.Core.encode FP.Core.b32 (FP.Core.quotient FP.Core.b32 _ _))).toNat = .nan
  rw [h3.2]
  exact fa_dec32 h.2
/-- the first file's last day -/
theorem fc_until {A : fb_At} {d u : Nat} {a : Int32} (hok : fb_okA A) (h7 : A.g 7 = nI d) (hd : d + u ≤ 9999) (h1 : 1 ≤ u) (hj : ∀ j, j < u → ¬ fb_ix (fb_daysA A j).2.F a (fb_daysA A j).2.n = none) (hu : fb_ix (fb_daysA A u).2.F a (fb_daysA A u).2.n = none) :
    (d + u) % 90 = 0 ∧ ∀ B, B = (fb_daysA A (u - 1)).2 → (∃ p, p < B.n ∧ B.F p 0 = a) ∧ fb_ix (fb_daysA B 1).2.F a (fb_daysA B 1).2.n = none ∧ ∃ j, 1 ≤ j ∧ j ≤ 24 ∧ (fb_daysA B 1).1 = nI j := by
  obtain ⟨i, rfl⟩ : ∃ i, u = i + 1 := ⟨u - 1, by omega⟩
  have y := hok.days h7 i (by omega)
  have g := fc_gone y.1 y.2 (by omega) (hj i (by omega)) hu
  refine ⟨by have := g.1; omega, fun B hB => ?_⟩
  have eB : B = (fb_daysA A i).2 := hB
  subst eB
  refine ⟨(fc_split a).resolve_left (hj i (by omega)), hu, ?_⟩
  obtain ⟨j, j1, j2, ej⟩ := g.2
  refine ⟨j, j1, j2, ?_⟩
  show nI 0 + (fb_dayA (fb_daysA A i).2).1 = nI j
  rw [ej, nI_add, Nat.zero_add]
theorem fc_trN {A : fb_At} {d c b t k : Nat} (hk : fc_ok A d c b t k) (ht : 90 * t ≤ d) (hd : d < 2 ^ 31) (hm : A.m ≤ 12) : fb_trcA A (nI A.m - nI 1) (nI 3) ≤ nI d := by
  by_cases z : A.m = 0
  · have e : fb_trcA A (nI A.m - nI 1) (nI 3) = (-2 : Int32) := if_pos (Or.inl (by rw [z]; decide))
    rw [e]
    exact Int32.le_trans (show (-2 : Int32) ≤ 0 by decide) (nI_pos' hd)
  · rw [pk_sub (by omega), fc_trc (k := A.m - 1) (by omega) hm (by decide)]
    obtain ⟨⟨e, he, ee⟩, -⟩ := hk.2.2.2.2.2.2.2.2.1 (A.m - 1 - (A.m - 1)) (by omega)
    rw [ee]
    exact (nI_leI (by omega) hd).mpr (by omega)
theorem fc_undo_rec {A B : fb_At} {H : List fb_At} {y : Int32} (hy : 0 ≤ y) (hl : (fb_rec H B y).length ≤ 4) : ¬ (fb_undoA A (fb_rec H B y)).1 < 0 := by
  have e : fb_rec H B y = fb_push H B := if_pos (Or.inl hy)
  rw [e] at hl ⊢
  have h0 : ¬ (fb_push H B).length = 0 := by
    unfold fb_push
    split <;> simp
  have e2 : (fb_undoA A (fb_push H B)).1 = nI ((fb_push H B).length - 1) := by
    unfold fb_undoA
    rw [if_neg h0]
  rw [e2]
  exact nI_pos (by omega)
theorem fc_ne6 {u : Nat} (h : u < 2 ^ 31) : ¬ nI u = (-6 : Int32) := fun z => by
  have h0 : ¬ nI u < 0 := nI_pos h
  rw [z] at h0
  exact h0 (by decide)
