def fa_is (a b : Nat) : Prop := a = b
theorem fa_is.mk {a b : Nat} (h : a = b) : fa_is a b := h
theorem fa_is.e {a b : Nat} (h : fa_is a b) : a = b := h
/-! THE TEXT, as numbers: S a is the sign at a, 0 behind the text -/
def fa_sg (t : Nat → Int32) (n a : Nat) : Int32 := if a < n then t a else 0
def fa_dg (c : Int32) : Int32 := if c < nI 48 ∨ nI 57 < c then (-1 : Int32) else c - nI 48
def fa_mre (S : Nat → Int32) (hi : Int32) : Nat → Int32 → Nat → Int32 × Nat
  | 0, va, a => (va, a)
  | k + 1, va, a => if fa_dg (S a) < 0 ∨ va = 0 ∨ ¬ va * nI 10 + fa_dg (S a) ≤ hi then (va, a) else fa_mre S hi k (va * nI 10 + fa_dg (S a)) (a + 1)
/-- the number at a, or -1; where the reader stands behind it -/
def fa_num (S : Nat → Int32) (lo hi : Int32) (a : Nat) : Int32 × Nat := if fa_dg (S a) < lo ∨ ¬ fa_dg (S a) ≤ hi then ((-1 : Int32), a) else fa_mre S hi 60 (fa_dg (S a)) (a + 1)
/-- the same behind a comma -/
def fa_sec (S : Nat → Int32) (lo hi : Int32) (a : Nat) : Int32 × Nat := if S a = nI 44 then fa_num S lo hi (a + 1) else ((-1 : Int32), a)
def fa_one (S : Nat → Int32) (lo hi : Int32) (a : Nat) : Bool × Nat × Int32 × Int32 := (decide (0 ≤ (fa_num S lo hi (a + 1)).1), (fa_num S lo hi (a + 1)).2, (fa_num S lo hi (a + 1)).1, (-1 : Int32))
def fa_two (S : Nat → Int32) (l1 h1 l2 h2 : Int32) (a : Nat) : Bool × Nat × Int32 × Int32 :=
  if 0 ≤ (fa_num S l1 h1 (a + 1)).1 then (decide (0 ≤ (fa_sec S l2 h2 (fa_num S l1 h1 (a + 1)).2).1), (fa_sec S l2 h2 (fa_num S l1 h1 (a + 1)).2).2, (fa_num S l1 h1 (a + 1)).1, (fa_sec S l2 h2 (fa_num S l1 h1 (a + 1)).2).1)
  else (false, (fa_num S l1 h1 (a + 1)).2, (fa_num S l1 h1 (a + 1)).1, (-1 : Int32))
/-- an order at a: whether it is one, where the reader stands then, its numbers -/
def fa_ord (S : Nat → Int32) (a : Nat) : Bool × Nat × Int32 × Int32 :=
  if S a = (110 : Int32) then fa_two S (nI 0) (nI 4) (nI 1) (nI 50) a
  else if S a = (97 : Int32) then fa_one S (nI 0) (nI 199) a
  else if S a = (115 : Int32) ∨ S a = (108 : Int32) then fa_two S (nI 0) (nI 7) (nI 0) (nI 199) a
  else if S a = (102 : Int32) then fa_two S (nI 0) (nI 199) (nI 0) (nI 199) a
  else if S a = (100 : Int32) then fa_one S (nI 1) (nI 400) a
  else (false, a, (-1 : Int32), (-1 : Int32))
/-- where the k-th order begins -/
def fa_ps (S : Nat → Int32) : Nat → Nat
  | 0 => 0
  | k + 1 => (fa_ord S (fa_ps S k)).2.1 + 1
abbrev fa_oa (S : Nat → Int32) (k : Nat) : Bool × Nat × Int32 × Int32 := fa_ord S (fa_ps S k)
/-- the orders before the j-th are ones, and a semicolon stands behind each -/
def fa_pre (S : Nat → Int32) (n j : Nat) : Prop := ∀ k, k < j → (fa_oa S k).1 = true ∧ (fa_oa S k).2.1 < n ∧ S (fa_oa S k).2.1 = nI 59
/-- the reading ends at the j-th order with the fault x (-6: none) -/
def fa_FR (S : Nat → Int32) (n j : Nat) (x : Int32) : Prop := fa_pre S n j ∧ (((fa_oa S j).1 = false ∧ x = nI (fa_oa S j).2.1) ∨ ((fa_oa S j).1 = true ∧ n ≤ (fa_oa S j).2.1 ∧ x = (-6 : Int32)) ∨ ((fa_oa S j).1 = true ∧ (fa_oa S j).2.1 < n ∧ ¬ S (fa_oa S j).2.1 = nI 59 ∧ x = nI (fa_oa S j).2.1))
theorem fa_sg_lt {t : Nat → Int32} {n a : Nat} (h : ¬ fa_sg t n a = 0) : a < n := by
  refine Decidable.byContradiction (fun z => h ?_)
  rw [fa_sg, if_neg z]
theorem fa_sg_in {t : Nat → Int32} {n a : Nat} (h : a < n) : fa_sg t n a = t a := if_pos h
theorem fa_sg_out {t : Nat → Int32} {n a : Nat} (h : n ≤ a) : fa_sg t n a = 0 := if_neg (Nat.not_lt.mpr h)
theorem fa_sg_congr {t t2 : Nat → Int32} {n : Nat} (h : ∀ i, i < n → t i = t2 i) : fa_sg t n = fa_sg t2 n := by
  funext a
  unfold fa_sg
  by_cases z : a < n
  · rw [if_pos z, if_pos z, h a z]
  · rw [if_neg z, if_neg z]
theorem fa_n1 : ¬ (0 : Int32) ≤ -1 := by decide
theorem fa_dg_0 : fa_dg 0 = (-1 : Int32) := by decide
theorem fa_dg_lt {t : Nat → Int32} {n a : Nat} (h : ¬ fa_dg (fa_sg t n a) < 0) : a < n := by
  refine Decidable.byContradiction (fun z => h ?_)
  rw [fa_sg, if_neg z]
  decide
theorem fa_dg_ok (c : Int32) (h : ¬ fa_dg c < 0) : ∃ e, e ≤ 9 ∧ fa_dg c = nI e ∧ c = nI (48 + e) := by
  unfold fa_dg at h ⊢
  by_cases z : c < nI 48 ∨ nI 57 < c
  · rw [if_pos z] at h
    exact absurd (by decide) h
  · rw [if_neg z]
    have h1 : ¬ c < nI 48 := fun y => z (Or.inl y)
    have h2 : c ≤ nI 57 := Int32.not_lt.mp (fun y => z (Or.inr y))
    have h0 : ¬ c < 0 := fun y => h1 (Int32.lt_trans y (by decide))
    obtain ⟨k, hk, e⟩ := nI_of h0
    rw [e] at h1 h2 ⊢
    have k1 : 48 ≤ k := Nat.le_of_not_lt (fun y => h1 ((nI_ltI hk (by decide)).mpr y))
    have k2 : k ≤ 57 := (nI_leI hk (by decide)).mp h2
    refine ⟨k - 48, by omega, by rw [pk_sub (by omega)], congrArg nI (by omega)⟩
def fa_okv (m : Nat) (x : Int32) : Prop := ∃ w, w ≤ m ∧ x = nI w
theorem fa_okv.pos {m : Nat} {x : Int32} (h : fa_okv m x) (hm : m < 2 ^ 31) : 0 ≤ x := by
  obtain ⟨w, hw, rfl⟩ := h
  exact nI_pos' (by omega)
theorem fa_okv.npos {m : Nat} {x : Int32} (h : fa_okv m x) (hm : m < 2 ^ 31) : ¬ x < 0 := Int32.not_lt.mpr (h.pos hm)
theorem fa_stepv {va d hi : Int32} (hv : fa_okv 400 va) (hh : fa_okv 400 hi) (hd : ∃ e, e ≤ 9 ∧ d = nI e) (h : va * nI 10 + d ≤ hi) : fa_okv 400 (va * nI 10 + d) := by
  obtain ⟨w, hw, rfl⟩ := hv
  obtain ⟨y, hy, rfl⟩ := hh
  obtain ⟨e, he, rfl⟩ := hd
  rw [pk_mul, nI_add] at h ⊢
  have := (nI_leI (by omega) (by omega)).mp h
  exact ⟨w * 10 + e, by omega, rfl⟩
theorem fa_mre_ok {S : Nat → Int32} {hi : Int32} (hh : fa_okv 400 hi) : ∀ (k : Nat) (va : Int32) (a : Nat), fa_okv 400 va → fa_okv 400 (fa_mre S hi k va a).1
  | 0, _, _, hv => hv
  | k + 1, va, a, hv => by
    rw [fa_mre]
    split
    · exact hv
    · rename_i z
      have z1 : ¬ fa_dg (S a) < 0 := fun y => z (Or.inl y)
      have z2 : va * nI 10 + fa_dg (S a) ≤ hi := Decidable.not_not.mp (fun y => z (Or.inr (Or.inr y)))
      obtain ⟨e, he, e1, -⟩ := fa_dg_ok _ z1
      exact fa_mre_ok hh k _ _ (fa_stepv hv hh ⟨e, he, e1⟩ z2)
theorem fa_mre_le {t : Nat → Int32} {n : Nat} {hi : Int32} : ∀ (k : Nat) (va : Int32) (a : Nat), a ≤ n → a ≤ (fa_mre (fa_sg t n) hi k va a).2 ∧ (fa_mre (fa_sg t n) hi k va a).2 ≤ n
  | 0, _, a, h => ⟨Nat.le_refl a, h⟩
  | k + 1, va, a, h => by
    rw [fa_mre]
    split
    · exact ⟨Nat.le_refl a, h⟩
    · rename_i z
      have z1 : a < n := fa_dg_lt (fun y => z (Or.inl y))
      have := fa_mre_le (t := t) (n := n) (hi := hi) k (va * nI 10 + fa_dg (fa_sg t n a)) (a + 1) z1
      exact ⟨by omega, this.2⟩
theorem fa_num_lo {lo x : Int32} (hl : fa_okv 1 lo) (h : ¬ x < lo) : ¬ x < 0 := by
  obtain ⟨w, hw, rfl⟩ := hl
  exact fun z => h (Int32.lt_of_lt_of_le z (nI_pos' (by omega)))
/-- the number is one: the reader went on -/
theorem fa_num_t {t : Nat → Int32} {n a : Nat} {lo hi : Int32} (hl : fa_okv 1 lo) (hh : fa_okv 400 hi) (h : ¬ (fa_dg (fa_sg t n a) < lo ∨ ¬ fa_dg (fa_sg t n a) ≤ hi)) : fa_num (fa_sg t n) lo hi a = fa_mre (fa_sg t n) hi 60 (fa_dg (fa_sg t n a)) (a + 1) ∧ a < n ∧ fa_okv 400 (fa_num (fa_sg t n) lo hi a).1 ∧ a + 1 ≤ (fa_num (fa_sg t n) lo hi a).2 ∧ (fa_num (fa_sg t n) lo hi a).2 ≤ n := by
  have h0 : ¬ fa_dg (fa_sg t n a) < 0 := fa_num_lo hl (fun y => h (Or.inl y))
  have hn : a < n := fa_dg_lt h0
  obtain ⟨e, he, e1, -⟩ := fa_dg_ok _ h0
  have e2 : fa_num (fa_sg t n) lo hi a = fa_mre (fa_sg t n) hi 60 (fa_dg (fa_sg t n a)) (a + 1) := if_neg h
  rw [e2]
  exact ⟨rfl, hn, fa_mre_ok hh _ _ _ ⟨e, by omega, e1⟩, (fa_mre_le _ _ _ hn).1, (fa_mre_le _ _ _ hn).2⟩
theorem fa_num_f {S : Nat → Int32} {a : Nat} {lo hi : Int32} (h : fa_dg (S a) < lo ∨ ¬ fa_dg (S a) ≤ hi) : fa_num S lo hi a = ((-1 : Int32), a) := if_pos h
theorem fa_num_pos {t : Nat → Int32} {n a : Nat} {lo hi : Int32} (hl : fa_okv 1 lo) (hh : fa_okv 400 hi) (h : 0 ≤ (fa_num (fa_sg t n) lo hi a).1) : a + 1 ≤ (fa_num (fa_sg t n) lo hi a).2 := by
  by_cases z : fa_dg (fa_sg t n a) < lo ∨ ¬ fa_dg (fa_sg t n a) ≤ hi
  · rw [fa_num_f z] at h
    exact absurd h (show ¬ (0 : Int32) ≤ -1 by decide)
  · exact (fa_num_t hl hh z).2.2.2.1
theorem fa_num_le {t : Nat → Int32} {n a : Nat} {lo hi : Int32} (hl : fa_okv 1 lo) (hh : fa_okv 400 hi) (ha : a ≤ n) : a ≤ (fa_num (fa_sg t n) lo hi a).2 ∧ (fa_num (fa_sg t n) lo hi a).2 ≤ n := by
  by_cases z : fa_dg (fa_sg t n a) < lo ∨ ¬ fa_dg (fa_sg t n a) ≤ hi
  · rw [fa_num_f z]
    exact ⟨Nat.le_refl a, ha⟩
  · have := (fa_num_t hl hh z).2.2.2
    exact ⟨by omega, this.2⟩
theorem fa_sec_t {S : Nat → Int32} {a : Nat} {lo hi : Int32} (h : S a = nI 44) : fa_sec S lo hi a = fa_num S lo hi (a + 1) := if_pos h
theorem fa_sec_f {S : Nat → Int32} {a : Nat} {lo hi : Int32} (h : ¬ S a = nI 44) : fa_sec S lo hi a = ((-1 : Int32), a) := if_neg h
theorem fa_sg_nz {t : Nat → Int32} {n a : Nat} {c : Int32} (h : fa_sg t n a = c) (hc : ¬ c = 0) : a < n := fa_sg_lt (by rw [h]; exact hc)
theorem fa_sec_le {t : Nat → Int32} {n a : Nat} {lo hi : Int32} (hl : fa_okv 1 lo) (hh : fa_okv 400 hi) (ha : a ≤ n) : a ≤ (fa_sec (fa_sg t n) lo hi a).2 ∧ (fa_sec (fa_sg t n) lo hi a).2 ≤ n := by
  by_cases z : fa_sg t n a = nI 44
  · rw [fa_sec_t z]
    have h1 : a < n := fa_sg_nz z (by decide)
    have := fa_num_le (t := t) (n := n) (a := a + 1) hl hh h1
    omega
  · rw [fa_sec_f z]
    exact ⟨Nat.le_refl a, ha⟩
theorem fa_one_le {t : Nat → Int32} {n a : Nat} {lo hi : Int32} (hl : fa_okv 1 lo) (hh : fa_okv 400 hi) (ha : a < n) : a + 1 ≤ (fa_one (fa_sg t n) lo hi a).2.1 ∧ (fa_one (fa_sg t n) lo hi a).2.1 ≤ n ∧ ((fa_one (fa_sg t n) lo hi a).1 = true → a + 2 ≤ (fa_one (fa_sg t n) lo hi a).2.1) := by
  have h := fa_num_le (t := t) (n := n) (a := a + 1) hl hh ha
  exact ⟨h.1, h.2, fun z => fa_num_pos hl hh (of_decide_eq_true z)⟩
theorem fa_two_le {t : Nat → Int32} {n a : Nat} {l1 h1 l2 h2 : Int32} (hl : fa_okv 1 l1) (hh : fa_okv 400 h1) (hl2 : fa_okv 1 l2) (hh2 : fa_okv 400 h2) (ha : a < n) : a + 1 ≤ (fa_two (fa_sg t n) l1 h1 l2 h2 a).2.1 ∧ (fa_two (fa_sg t n) l1 h1 l2 h2 a).2.1 ≤ n ∧ ((fa_two (fa_sg t n) l1 h1 l2 h2 a).1 = true → a + 2 ≤ (fa_two (fa_sg t n) l1 h1 l2 h2 a).2.1) := by
  have h := fa_num_le (t := t) (n := n) (a := a + 1) hl hh ha
  unfold fa_two
  split
  · rename_i z
    have p := fa_num_pos hl hh z
    have q := fa_sec_le (t := t) (n := n) (a := (fa_num (fa_sg t n) l1 h1 (a + 1)).2) hl2 hh2 h.2
    show a + 1 ≤ (fa_sec (fa_sg t n) l2 h2 (fa_num (fa_sg t n) l1 h1 (a + 1)).2).2 ∧ _ ≤ n ∧ (_ → a + 2 ≤ (fa_sec (fa_sg t n) l2 h2 (fa_num (fa_sg t n) l1 h1 (a + 1)).2).2)
    exact ⟨by omega, q.2, fun _ => by omega⟩
  · exact ⟨h.1, h.2, fun z => absurd (show false = true from z) (by decide)⟩
theorem fa_ord_le {t : Nat → Int32} {n a : Nat} (ha : a ≤ n) : a ≤ (fa_ord (fa_sg t n) a).2.1 ∧ (fa_ord (fa_sg t n) a).2.1 ≤ n ∧ ((fa_ord (fa_sg t n) a).1 = true → a + 2 ≤ (fa_ord (fa_sg t n) a).2.1) := by
  have o1 : ∀ w : Nat, w ≤ 400 → fa_okv 400 (nI w) := fun w h => ⟨w, h, rfl⟩
  have o0 : ∀ w : Nat, w ≤ 1 → fa_okv 1 (nI w) := fun w h => ⟨w, h, rfl⟩
  unfold fa_ord
  split
  · rename_i z
    have := fa_two_le (t := t) (n := n) (a := a) (o0 0 (by decide)) (o1 4 (by decide)) (o0 1 (by decide)) (o1 50 (by decide)) (fa_sg_nz z (by decide))
    exact ⟨by omega, this.2⟩
  · split
    · rename_i z
      have := fa_one_le (t := t) (n := n) (a := a) (o0 0 (by decide)) (o1 199 (by decide)) (fa_sg_nz z (by decide))
      exact ⟨by omega, this.2⟩
    · split
      · rename_i z
        have ha : a < n := z.elim (fun y => fa_sg_nz y (by decide)) (fun y => fa_sg_nz y (by decide))
        have := fa_two_le (t := t) (n := n) (a := a) (o0 0 (by decide)) (o1 7 (by decide)) (o0 0 (by decide)) (o1 199 (by decide)) ha
        exact ⟨by omega, this.2⟩
      · split
        · rename_i z
          have := fa_two_le (t := t) (n := n) (a := a) (o0 0 (by decide)) (o1 199 (by decide)) (o0 0 (by decide)) (o1 199 (by decide)) (fa_sg_nz z (by decide))
          exact ⟨by omega, this.2⟩
        · split
          · rename_i z
            have := fa_one_le (t := t) (n := n) (a := a) (o0 1 (by decide)) (o1 400 (by decide)) (fa_sg_nz z (by decide))
            exact ⟨by omega, this.2⟩
          · exact ⟨Nat.le_refl a, ha, fun z => absurd (show false = true from z) (by decide)⟩
theorem fa_pre.s {S : Nat → Int32} {n j : Nat} (h : fa_pre S n j) (h1 : (fa_oa S j).1 = true) (h2 : (fa_oa S j).2.1 < n) (h3 : S (fa_oa S j).2.1 = nI 59) : fa_pre S n (j + 1) := fun k hk => by
  by_cases z : k = j
  · rw [z]; exact ⟨h1, h2, h3⟩
  · exact h k (by omega)
theorem fa_pre.ps {t : Nat → Int32} {n : Nat} : ∀ {j : Nat}, fa_pre (fa_sg t n) n j → 3 * j ≤ fa_ps (fa_sg t n) j ∧ fa_ps (fa_sg t n) j ≤ n
  | 0, _ => ⟨Nat.le_refl 0, Nat.zero_le _⟩
  | j + 1, h => by
    have h0 := fa_pre.ps (j := j) (fun k hk => h k (by omega))
    have h1 := h j (by omega)
    have h2 := fa_ord_le (t := t) (n := n) h0.2
    have h3 := h2.2.2 h1.1
    have h4 : (fa_ord (fa_sg t n) (fa_ps (fa_sg t n) j)).2.1 < n := h1.2.1
    show 3 * (j + 1) ≤ (fa_ord (fa_sg t n) (fa_ps (fa_sg t n) j)).2.1 + 1 ∧ (fa_ord (fa_sg t n) (fa_ps (fa_sg t n) j)).2.1 + 1 ≤ n
    exact ⟨by omega, by omega⟩
/-- the reading's end is one -/
theorem fa_FR.uniq {S : Nat → Int32} {n j k : Nat} {x y : Int32} (h1 : fa_FR S n j x) (h2 : fa_FR S n k y) : j = k ∧ x = y := by
  have no : ∀ {j k : Nat} {x y : Int32}, fa_FR S n j x → fa_FR S n k y → ¬ j < k := fun {j k x y} h1 h2 hlt => by
    obtain ⟨a, b, c⟩ := h2.1 j hlt
    rcases h1.2 with z | z | z
    · rw [z.1] at a; exact absurd a (by decide)
    · omega
    · exact z.2.2.1 c
  have e : j = k := by
    have p := no h1 h2
    have q := no h2 h1
    omega
  subst e
  refine ⟨rfl, ?_⟩
  rcases h1.2 with z | z | z <;> rcases h2.2 with w | w | w
  · rw [z.2, w.2]
  · rw [z.1] at w; exact absurd w.1 (by decide)
  · rw [z.1] at w; exact absurd w.1 (by decide)
  · rw [w.1] at z; exact absurd z.1 (by decide)
  · rw [z.2.2, w.2.2]
  · omega
  · rw [w.1] at z; exact absurd z.1 (by decide)
  · omega
  · rw [z.2.2.2, w.2.2.2]
/-- the memory holds the text t of n signs -/
def fa_TX (v : fa_V) (n : Nat) (t : Nat → Int32) : Prop := n ≤ 60 ∧ v 395 1 = nI n ∧ v 396 = t
theorem fa_TX.rows {v v1 : fa_V} {n : Nat} {t : Nat → Int32} (h : fa_TX v n t) (h1 : v1 395 1 = v 395 1) (h2 : v1 396 = v 396) : fa_TX v1 n t := ⟨h.1, h1.trans h.2.1, h2.trans h.2.2⟩
theorem fa_posb {z : Int32} {P : Prop} {d : Decidable P} (h : z = @ite _ P d (nI 1) (nI 0)) (c : ¬ z = 0) : P := fa_ift h c
theorem fa_num_bo {x : Int32} : (0 ≤ x) ↔ ¬ x < 0 := Int32.not_lt.symm
theorem fa_mre_e {S : Nat → Int32} {hi va : Int32} {a : Nat} (h : fa_dg (S a) < 0 ∨ va = 0 ∨ ¬ va * nI 10 + fa_dg (S a) ≤ hi) : ∀ k, fa_mre S hi k va a = (va, a)
  | 0 => rfl
  | _ + 1 => if_pos h
theorem fa_mre_0 {S : Nat → Int32} {hi va : Int32} {a j : Nat} (h : 60 ≤ j) : fa_mre S hi (60 - j) va a = (va, a) := by
  rw [show 60 - j = 0 by omega]
  rfl
theorem fa_mre_s {S : Nat → Int32} {hi va : Int32} {a j : Nat} (hj : j < 60) (h1 : ¬ fa_dg (S a) < 0) (h2 : ¬ va = 0) (h3 : va * nI 10 + fa_dg (S a) ≤ hi) : fa_mre S hi (60 - (j + 1)) (va * nI 10 + fa_dg (S a)) (a + 1) = fa_mre S hi (60 - j) va a := by
  rw [show 60 - j = 60 - (j + 1) + 1 by omega]
  exact (if_neg (fun z => z.elim h1 (fun z => z.elim h2 (fun z => z h3)))).symm
theorem fa_ord_n {S : Nat → Int32} {a : Nat} (h : S a = (110 : Int32)) : fa_ord S a = fa_two S (nI 0) (nI 4) (nI 1) (nI 50) a := if_pos h
theorem fa_ord_a {S : Nat → Int32} {a : Nat} (h : S a = (97 : Int32)) : fa_ord S a = fa_one S (nI 0) (nI 199) a := by
  rw [fa_ord, h, if_neg (by decide), if_pos rfl]
theorem fa_ord_s {S : Nat → Int32} {a : Nat} (h : S a = (115 : Int32) ∨ S a = (108 : Int32)) : fa_ord S a = fa_two S (nI 0) (nI 7) (nI 0) (nI 199) a := by
  rw [fa_ord, if_neg (fun z => by rcases h with h | h <;> rw [z] at h <;> exact absurd h (by decide)), if_neg (fun z => by rcases h with h | h <;> rw [z] at h <;> exact absurd h (by decide)), if_pos h]
theorem fa_ord_f {S : Nat → Int32} {a : Nat} (h : S a = (102 : Int32)) : fa_ord S a = fa_two S (nI 0) (nI 199) (nI 0) (nI 199) a := by
  rw [fa_ord, h, if_neg (by decide), if_neg (by decide), if_neg (by decide), if_pos rfl]
theorem fa_ord_d {S : Nat → Int32} {a : Nat} (h : S a = (100 : Int32)) : fa_ord S a = fa_one S (nI 1) (nI 400) a := by
  rw [fa_ord, h, if_neg (by decide), if_neg (by decide), if_neg (by decide), if_neg (by decide), if_pos rfl]
theorem fa_ord_no {S : Nat → Int32} {a : Nat} (h1 : ¬ S a = (110 : Int32)) (h2 : ¬ S a = (97 : Int32)) (h3 : ¬ S a = (115 : Int32)) (h4 : ¬ S a = (108 : Int32)) (h5 : ¬ S a = (102 : Int32)) (h6 : ¬ S a = (100 : Int32)) : fa_ord S a = (false, a, (-1 : Int32), (-1 : Int32)) := by
  rw [fa_ord, if_neg h1, if_neg h2, if_neg (fun z => z.elim h3 h4), if_neg h5, if_neg h6]
theorem fa_two_f {S : Nat → Int32} {l1 h1 l2 h2 : Int32} {a : Nat} (h : ¬ 0 ≤ (fa_num S l1 h1 (a + 1)).1) : fa_two S l1 h1 l2 h2 a = (false, (fa_num S l1 h1 (a + 1)).2, (fa_num S l1 h1 (a + 1)).1, (-1 : Int32)) := if_neg h
theorem fa_two_t {S : Nat → Int32} {l1 h1 l2 h2 : Int32} {a : Nat} (h : 0 ≤ (fa_num S l1 h1 (a + 1)).1) : fa_two S l1 h1 l2 h2 a = (decide (0 ≤ (fa_sec S l2 h2 (fa_num S l1 h1 (a + 1)).2).1), (fa_sec S l2 h2 (fa_num S l1 h1 (a + 1)).2).2, (fa_num S l1 h1 (a + 1)).1, (fa_sec S l2 h2 (fa_num S l1 h1 (a + 1)).2).1) := if_pos h
theorem fa_oe {S : Nat → Int32} {a m nt : Nat} {b : Bool} {x p q : Int32} {w : fa_V} (ho : fa_ord S a = (b, m, p, q)) (hx : x = if b = true then nI 1 else nI 0) (hm : m ≤ nt) (hg : w 395 2 = nI m) (hl : w 395 3 = S a) (h4 : b = true → w 395 4 = p ∧ (¬ S a = (97 : Int32) → ¬ S a = (100 : Int32) → w 395 5 = q)) : x = (if (fa_ord S a).1 = true then nI 1 else nI 0) ∧ ∃ k, k = (fa_ord S a).2.1 ∧ k ≤ nt ∧ w 395 2 = nI k ∧ w 395 3 = S a ∧ ((fa_ord S a).1 = true → w 395 4 = (fa_ord S a).2.2.1 ∧ (¬ S a = (97 : Int32) → ¬ S a = (100 : Int32) → w 395 5 = (fa_ord S a).2.2.2)) := by
  rw [ho]
  exact ⟨hx, m, rfl, hm, hg, hl, h4⟩
theorem fa_ite_b {x : Int32} {P : Prop} {d : Decidable P} (h : x = @ite _ P d (nI 1) (nI 0)) : x = if decide P = true then nI 1 else nI 0 := by
  rw [h]
  by_cases z : P
  · rw [if_pos z, if_pos (decide_eq_true z)]
  · rw [if_neg z, if_neg (fun y => z (of_decide_eq_true y))]
theorem fa_and3 {A C : Prop} {B : Nat → Prop} (h : A ∧ ∃ k, B k) (c : C) : A ∧ (∃ k, B k) ∧ C := ⟨h.1, h.2, c⟩
theorem fa_ite_t {P : Prop} {d : Decidable P} (h : P) : (nI 1 : Int32) = if decide P = true then nI 1 else nI 0 := by rw [if_pos (decide_eq_true h)]
theorem fa_ite_f {P : Prop} {d : Decidable P} (h : ¬ P) : (nI 0 : Int32) = if decide P = true then nI 1 else nI 0 := by rw [if_neg (fun y => h (of_decide_eq_true y))]
theorem fa_if_nar {P : Prop} {d : Decidable P} {x : Int32} (h : x = @ite _ P d (nI 1) (nI 0)) : narrow .boolean (.int x) = .int x := by
  rw [h]
  by_cases z : P
  · rw [if_pos z]; decide
  · rw [if_neg z]; decide
theorem fa_isS {t : Nat → Int32} {n a : Nat} {c : Int32} (hc : ¬ c = 0) : (a < n ∧ c ≤ t a ∧ t a ≤ c) ↔ fa_sg t n a = c := by
  constructor
  · intro h
    rw [fa_sg_in h.1]
    exact Int32.le_antisymm h.2.2 h.2.1
  · intro h
    have h1 := fa_sg_nz h hc
    rw [fa_sg_in h1] at h
    rw [h]
    exact ⟨h1, Int32.le_refl c, Int32.le_refl c⟩
def fa_dd (lo d : Int32) : Prop := (lo = 0 ∧ d = nI 48) ∨ (¬ lo = 0 ∧ d = nI 49)
theorem fa_dg_rng {c : Int32} (h1 : nI 48 ≤ c) (h2 : c ≤ nI 57) : ∃ k, 48 ≤ k ∧ k ≤ 57 ∧ c = nI k ∧ fa_dg c = nI (k - 48) := by
  have h0 : ¬ c < 0 := fun y => absurd (Int32.lt_of_le_of_lt h1 y) (by decide)
  obtain ⟨k, hk, e⟩ := nI_of h0
  have k1 : 48 ≤ k := (nI_leI (by decide) hk).mp (by rw [← e]; exact h1)
  have k2 : k ≤ 57 := (nI_leI hk (by decide)).mp (by rw [← e]; exact h2)
  refine ⟨k, k1, k2, e, ?_⟩
  unfold fa_dg
  rw [if_neg (fun z => z.elim (Int32.not_lt.mpr h1) (Int32.not_lt.mpr h2)), e, pk_sub k1]
theorem fa_num_dig {t : Nat → Int32} {n a : Nat} {lo d : Int32} (hl : fa_okv 1 lo) (hd : fa_dd lo d) : (a < n ∧ d ≤ t a ∧ t a ≤ nI 57) ↔ ¬ fa_dg (fa_sg t n a) < lo := by
  obtain ⟨w, hw, rfl⟩ := hl
  have ed : d = nI (48 + w) := by
    rcases hd with ⟨e1, e2⟩ | ⟨e1, e2⟩
    · have : w = 0 := Decidable.byContradiction (fun z => nI_ne0 (Nat.pos_of_ne_zero z) (by omega) e1)
      rw [this]; exact e2
    · have : w = 1 := by
        rcases Nat.eq_zero_or_pos w with z | z
        · rw [z] at e1; exact absurd (by decide) e1
        · omega
      rw [this]; exact e2
  subst ed
  constructor
  · intro h
    rw [fa_sg_in h.1]
    have h1 : nI 48 ≤ t a := Int32.le_trans ((nI_leI (by decide) (by omega)).mpr (by omega)) h.2.1
    obtain ⟨k, k1, k2, e, f⟩ := fa_dg_rng h1 h.2.2
    rw [f]
    have h2 := h.2.1
    rw [e] at h2
    have h3 := (nI_leI (by omega) (by omega)).mp h2
    exact fun z => absurd ((nI_ltI (by omega) (by omega)).mp z) (by omega)
  · intro h
    have h0 : ¬ fa_dg (fa_sg t n a) < 0 := fun z => h (Int32.lt_of_lt_of_le z (nI_pos' (by omega)))
    have h1 := fa_dg_lt h0
    rw [fa_sg_in h1] at h h0
    obtain ⟨e, he, f, g⟩ := fa_dg_ok _ h0
    rw [f] at h
    rw [g]
    have h3 : w ≤ e := Nat.le_of_not_lt (fun z => h ((nI_ltI (by omega) (by omega)).mpr z))
    exact ⟨h1, (nI_leI (by omega) (by omega)).mpr (by omega), (nI_leI (by omega) (by omega)).mpr (by omega)⟩
theorem fa_dgeq {t : Nat → Int32} {n a : Nat} (h : ¬ fa_dg (fa_sg t n a) < 0) : fa_dg (fa_sg t n a) = t a - nI 48 := by
  have h1 := fa_dg_lt h
  rw [fa_sg_in h1] at h ⊢
  unfold fa_dg at h ⊢
  by_cases z : t a < nI 48 ∨ nI 57 < t a
  · rw [if_pos z] at h; exact absurd (by decide) h
  · rw [if_neg z]
theorem fa_dig2 {t : Nat → Int32} {n a : Nat} : (a < n ∧ nI 48 ≤ t a ∧ t a ≤ nI 57) ↔ ¬ fa_dg (fa_sg t n a) < 0 := fa_num_dig (lo := nI 0) ⟨0, by decide, rfl⟩ (Or.inl ⟨by decide, rfl⟩)
theorem fa_tens (va c : Int32) : nI 10 * va + c - nI 48 = va * nI 10 + (c - nI 48) := by
  rw [Int32.mul_comm (nI 10) va, Int32.sub_eq_add_neg, Int32.sub_eq_add_neg, Int32.add_assoc]
theorem fa_one_t {S : Nat → Int32} {l h : Int32} {a : Nat} (c : 0 ≤ (fa_num S l h (a + 1)).1) : fa_one S l h a = (true, (fa_num S l h (a + 1)).2, (fa_num S l h (a + 1)).1, (-1 : Int32)) := by rw [fa_one, decide_eq_true c]
theorem fa_one_f {S : Nat → Int32} {l h : Int32} {a : Nat} (c : ¬ 0 ≤ (fa_num S l h (a + 1)).1) : fa_one S l h a = (false, (fa_num S l h (a + 1)).2, (fa_num S l h (a + 1)).1, (-1 : Int32)) := by rw [fa_one, decide_eq_false c]
theorem fa_two_c {S : Nat → Int32} {l1 h1 l2 h2 : Int32} {a m : Nat} (c : 0 ≤ (fa_num S l1 h1 (a + 1)).1) (e : m = (fa_num S l1 h1 (a + 1)).2) (d : ¬ S m = nI 44) : fa_two S l1 h1 l2 h2 a = (false, m, (fa_num S l1 h1 (a + 1)).1, (-1 : Int32)) := by
  subst e
  rw [fa_two_t c, fa_sec_f d]
  rfl
theorem fa_two_n {S : Nat → Int32} {l1 h1 l2 h2 : Int32} {a m : Nat} (c : 0 ≤ (fa_num S l1 h1 (a + 1)).1) (e : m = (fa_num S l1 h1 (a + 1)).2) (d : S m = nI 44) (f : ¬ 0 ≤ (fa_num S l2 h2 (m + 1)).1) : fa_two S l1 h1 l2 h2 a = (false, (fa_num S l2 h2 (m + 1)).2, (fa_num S l1 h1 (a + 1)).1, (fa_num S l2 h2 (m + 1)).1) := by
  subst e
  rw [fa_two_t c, fa_sec_t d, decide_eq_false f]
theorem fa_two_y {S : Nat → Int32} {l1 h1 l2 h2 : Int32} {a m : Nat} (c : 0 ≤ (fa_num S l1 h1 (a + 1)).1) (e : m = (fa_num S l1 h1 (a + 1)).2) (d : S m = nI 44) (f : 0 ≤ (fa_num S l2 h2 (m + 1)).1) : fa_two S l1 h1 l2 h2 a = (true, (fa_num S l2 h2 (m + 1)).2, (fa_num S l1 h1 (a + 1)).1, (fa_num S l2 h2 (m + 1)).1) := by
  subst e
  rw [fa_two_t c, fa_sec_t d, decide_eq_true f]
/-- what the reference's row holds of the k-th order -/
def fa_rd (R : Nat → Int32) (S : Nat → Int32) (k : Nat) : Prop := R (4 * k) = nI (fa_ps S k) ∧ R (4 * k + 1) = S (fa_ps S k) ∧ R (4 * k + 2) = (fa_oa S k).2.2.1 ∧ (¬ S (fa_ps S k) = (97 : Int32) → ¬ S (fa_ps S k) = (100 : Int32) → R (4 * k + 3) = (fa_oa S k).2.2.2)
theorem fa_rd.congr {R R2 : Nat → Int32} {S : Nat → Int32} {k n : Nat} (h : ∀ i, i < 4 * n → R2 i = R i) (hk : k < n) (hr : fa_rd R S k) : fa_rd R2 S k := by
  obtain ⟨a, b, c, d⟩ := hr
  exact ⟨(h _ (by omega)).trans a, (h _ (by omega)).trans b, (h _ (by omega)).trans c, fun x y => (h _ (by omega)).trans (d x y)⟩
def fa_acc (S : Nat → Int32) (c : Int32) (a : Nat) : Nat := if S a = c then a + 1 else a
theorem fa_acc_t {S : Nat → Int32} {c : Int32} {a : Nat} (h : S a = c) : fa_acc S c a = a + 1 := if_pos h
theorem fa_acc_f {S : Nat → Int32} {c : Int32} {a : Nat} (h : ¬ S a = c) : fa_acc S c a = a := if_neg h
def fa_o1 (b : Bool) (o : Nat) : Nat := cond b (o + 1) o
/-- the reference's loop over the orders: at mt behind the jj-th, ot of them read -/
def fa_fo (S : Nat → Int32) (n mt ot jj : Nat) (ok : Int32) (R : Nat → Int32) : Prop := (ok = nI 1 ∧ (fa_oa S jj).1 = true ∧ fa_is mt (fa_oa S jj).2.1 ∧ ot = jj + 1 ∧ ∀ k, k < jj + 1 → fa_rd R S k) ∨ (ok = nI 0 ∧ (((fa_oa S jj).1 = false ∧ fa_is mt (fa_oa S jj).2.1) ∨ ((fa_oa S jj).1 = true ∧ (fa_oa S jj).2.1 < n ∧ ¬ S (fa_oa S jj).2.1 = nI 59 ∧ fa_is mt (fa_oa S jj).2.1)))
theorem fa_fo_s {S : Nat → Int32} {n na no m o jj : Nat} {x : Int32} {R R2 : Nat → Int32} (hna : na = fa_ps S jj) (hno : no = jj) (hx : x = if (fa_ord S na).1 = true then nI 1 else nI 0) (hm : m = (fa_ord S na).2.1) (ho : o = fa_o1 (fa_ord S na).1 no)
    (hr : (∀ i, i < 4 * no → R2 i = R i) ∧ R2 (4 * no) = nI na ∧ R2 (4 * no + 1) = S na ∧ ((fa_ord S na).1 = true → R2 (4 * no + 2) = (fa_ord S na).2.2.1 ∧ (¬ S na = (97 : Int32) → ¬ S na = (100 : Int32) → R2 (4 * no + 3) = (fa_ord S na).2.2.2))) (hp : ∀ k, k < jj → fa_rd R S k) : fa_fo S n m o jj x R2 := by
  subst hna
  subst hno
  by_cases z : (fa_oa S no).1 = true
  · refine Or.inl ⟨hx.trans (if_pos z), z, hm, ho.trans (by rw [show (fa_ord S (fa_ps S no)).1 = true from z]; rfl), fun k hk => ?_⟩
    by_cases y : k = no
    · rw [y]
      have w := hr.2.2.2 z
      exact ⟨hr.2.1, hr.2.2.1, w.1, w.2⟩
    · exact fa_rd.congr hr.1 (by omega) (hp k (by omega))
  · exact Or.inr ⟨hx.trans (if_neg z), Or.inl ⟨Bool.eq_false_iff.mpr z, hm⟩⟩
theorem fa_nI6 {m : Nat} (h : m < 2 ^ 31) : ¬ nI m = (-6 : Int32) := fun z => absurd (nI_pos' h) (by rw [z]; decide)
theorem fa_FR.pos {t : Nat → Int32} {n j : Nat} {y : Int32} (hn : n < 2 ^ 31) (h : fa_FR (fa_sg t n) n j y) : y = (-6 : Int32) ∨ 0 ≤ y := by
  have hp := fa_pre.ps h.1
  have hm := (fa_ord_le (t := t) hp.2).2.1
  rcases h.2 with z | z | z
  · exact Or.inr (by rw [z.2]; exact nI_pos' (Nat.lt_of_le_of_lt hm hn))
  · exact Or.inl z.2.2
  · exact Or.inr (by rw [z.2.2.2]; exact nI_pos' (Nat.lt_of_le_of_lt hm hn))
theorem fa_fy0 {t : Nat → Int32} {n j : Nat} {x y : Int32} (hn : n < 2 ^ 31) (hx : x = if y = (-6 : Int32) then (-1 : Int32) else y) (hF : fa_FR (fa_sg t n) n j y) (c : x < 0) : (-6 : Int32) = y := by
  rcases hF.pos hn with z | z
  · exact z.symm
  · by_cases w : y = (-6 : Int32)
    · exact w.symm
    · rw [if_neg w] at hx
      rw [hx] at c
      exact absurd c (Int32.not_lt.mpr z)
theorem fa_fy1 {t : Nat → Int32} {n j : Nat} {x y : Int32} (hn : n < 2 ^ 31) (hx : x = if y = (-6 : Int32) then (-1 : Int32) else y) (hF : fa_FR (fa_sg t n) n j y) (c : ¬ x < 0) : x = y := by
  by_cases w : y = (-6 : Int32)
  · rw [if_pos w] at hx
    rw [hx] at c
    exact absurd (by decide) c
  · exact hx.trans (if_neg w)
theorem fa_dg_okv {c : Int32} (h : ¬ fa_dg c < 0) {m : Nat} (hm : 9 ≤ m) : fa_okv m (fa_dg c) := by
  obtain ⟨e, he, e1, -⟩ := fa_dg_ok _ h
  exact ⟨e, by omega, e1⟩
theorem fa_le0 {m : Nat} {x : Int32} (h : fa_okv m x) (hm : m < 2 ^ 31) (c : x ≤ 0) : x = 0 := Int32.le_antisymm c (h.pos hm)
theorem fa_ifc {P Q : Prop} {d : Decidable P} {d2 : Decidable Q} (h : P ↔ Q) : (@ite Int32 P d (nI 1) (nI 0)) = @ite Int32 Q d2 (nI 1) (nI 0) := by
  by_cases z : P
  · rw [if_pos z, if_pos (h.mp z)]
  · rw [if_neg z, if_neg (fun y => z (h.mpr y))]
