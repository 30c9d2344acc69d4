/-! THE ARCHIVE, as numbers: (what is one number: settings 0 to 6, 7 now, 8 came, 9 burnt, 10 burnt pages, 11 askings, 12 regrets, 13 burnings; (files, each a row of 15: 0 number, 1 kind, 2 pages, 3 came, 4 asked or -1, 5 times, 6 target or -1, 7 + h the end of h's seal and 1, or 0); reservations; traces, each a row of 5) -/
abbrev fb_At : Type := (Nat → Int32) × (Nat × (Nat → Nat → Int32)) × List (Int32 × Int32) × (Nat × (Nat → Nat → Int32))
abbrev fb_At.g (A : fb_At) : Nat → Int32 := A.1
abbrev fb_At.n (A : fb_At) : Nat := A.2.1.1
abbrev fb_At.F (A : fb_At) : Nat → Nat → Int32 := A.2.1.2
abbrev fb_At.q (A : fb_At) : List (Int32 × Int32) := A.2.2.1
abbrev fb_At.m (A : fb_At) : Nat := A.2.2.2.1
abbrev fb_At.T (A : fb_At) : Nat → Nat → Int32 := A.2.2.2.2
def fb_s1 (f : Nat → Int32) (k : Nat) (x : Int32) : Nat → Int32 := fun j => if j = k then x else f j
theorem fb_s1_s (f : Nat → Int32) (k : Nat) (x : Int32) : fb_s1 f k x k = x := if_pos rfl
theorem fb_s1_n {f : Nat → Int32} {k j : Nat} {x : Int32} (h : ¬ j = k) : fb_s1 f k x j = f j := if_neg h
/-- one number changes; one field of a file changes -/
def fb_At.sg (A : fb_At) (k : Nat) (x : Int32) : fb_At := (fb_s1 A.g k x, (A.n, A.F), A.q, (A.m, A.T))
def fb_At.sF (A : fb_At) (p i : Nat) (x : Int32) : fb_At := (A.g, (A.n, fa_u A.F p i x), A.q, (A.m, A.T))
def fb_At.sq (A : fb_At) (q : List (Int32 × Int32)) : fb_At := (A.g, (A.n, A.F), q, (A.m, A.T))
/-- the place of the file a -/
def fb_ix (F : Nat → Nat → Int32) (a : Int32) : Nat → Option Nat
  | 0 => none
  | n + 1 => match fb_ix F a n with
    | some p => some p
    | none => if F n 0 = a then some n else none
theorem fb_ix_none {F : Nat → Nat → Int32} {a : Int32} : ∀ {n : Nat}, (∀ k, k < n → ¬ F k 0 = a) → fb_ix F a n = none
  | 0, _ => rfl
  | n + 1, h => by
    rw [fb_ix, fb_ix_none (n := n) (fun k hk => h k (by omega))]
    exact if_neg (h n (by omega))
theorem fb_ix_some {F : Nat → Nat → Int32} {a : Int32} {p : Nat} : ∀ {n : Nat}, p < n → F p 0 = a → (∀ k, k < p → ¬ F k 0 = a) → fb_ix F a n = some p
  | 0, h, _, _ => absurd h (Nat.not_lt_zero _)
  | n + 1, h, e, l => by
    by_cases z : p = n
    · rw [fb_ix, fb_ix_none (n := n) (fun k hk => l k (by omega)), ← z]
      exact if_pos e
    · rw [fb_ix, fb_ix_some (n := n) (by omega) e l]
theorem fb_ix_elim {F : Nat → Nat → Int32} {a : Int32} : ∀ (n : Nat), (fb_ix F a n = none ∧ ∀ k, k < n → ¬ F k 0 = a) ∨ ∃ p, fb_ix F a n = some p ∧ p < n ∧ F p 0 = a ∧ ∀ k, k < p → ¬ F k 0 = a
  | 0 => Or.inl ⟨rfl, fun k hk => absurd hk (Nat.not_lt_zero _)⟩
  | n + 1 => by
    rcases fb_ix_elim n (F := F) (a := a) with h | ⟨p, h1, h2, h3, h4⟩
    · by_cases z : F n 0 = a
      · exact Or.inr ⟨n, fb_ix_some (by omega) z h.2, by omega, z, h.2⟩
      · refine Or.inl ⟨fb_ix_none (fun k hk => ?_), fun k hk => ?_⟩
        · by_cases y : k = n
          · rw [y]; exact z
          · exact h.2 k (by omega)
        · by_cases y : k = n
          · rw [y]; exact z
          · exact h.2 k (by omega)
    · exact Or.inr ⟨p, fb_ix_some (by omega) h3 h4, by omega, h3, h4⟩
/-- what holds of every archive -/
def fb_okF (g : Nat → Int32) (n : Nat) (F : Nat → Nat → Int32) : Prop :=
  n ≤ 24 ∧ (∃ d, d ≤ 9999 ∧ g 7 = nI d) ∧ (∃ c, c ≤ 200 ∧ g 8 = nI c) ∧ (∀ p k, p < k → k < n → F p 0 < F k 0) ∧ (∀ p, p < n → 0 ≤ F p 0 ∧ F p 0 < g 8) ∧
  (∀ p, p < n → (∃ k, k ≤ 4 ∧ F p 1 = nI k) ∧ (F p 4 = (-1 : Int32) ∨ 0 ≤ F p 4) ∧ (F p 6 = (-1 : Int32) ∨ ∃ k, k < n ∧ F k 0 = F p 6) ∧ ∀ h, h < 8 → ∃ e, e ≤ 10001 ∧ F p (7 + h) = nI e)
def fb_okA (A : fb_At) : Prop := fb_okF A.g A.n A.F ∧ A.m ≤ 12 ∧ A.q.length ≤ 8 ∧ A.q.Nodup ∧ ∀ y ∈ A.q, A.g 7 < y.2 ∧ y.2 ≤ nI 9999 ∧ ∃ k, k < A.n ∧ A.F k 0 = y.1
/-! THE ACTIONS, as numbers -/
def fb_pgs (A : fb_At) : Int32 := fa_sum (fun p => A.F p 2) A.n
def fb_newF (A : fb_At) (k p : Int32) : Nat → Nat → Int32 := fun j i => if j = A.n then (if i = 0 then A.g 8 else if i = 1 then k else if i = 2 then p else if i = 3 then A.g 7 else if i = 4 ∨ i = 6 then (-1 : Int32) else 0) else A.F j i
def fb_addA (A : fb_At) (k p : Int32) : Int32 × fb_At :=
  if k < 0 ∨ nI 4 < k ∨ p < nI 1 ∨ ¬ p ≤ nI 50 then ((-2 : Int32), A)
  else if 24 ≤ A.n ∨ nI 200 ≤ A.g 8 ∨ ¬ fb_pgs A + p ≤ A.g 6 then ((-4 : Int32), A)
  else (A.g 8, (fb_s1 A.g 8 (A.g 8 + nI 1), (A.n + 1, fb_newF A k p), A.q, (A.m, A.T)))
/-- the file at p is asked -/
def fb_askp (A : fb_At) (p : Nat) : fb_At := ((A.sF p 4 (A.g 7)).sF p 5 (A.F p 5 + nI 1)).sg 11 (A.g 11 + nI 1)
def fb_askA (A : fb_At) (a : Int32) : Int32 × fb_At :=
  if a < 0 ∨ ¬ a < A.g 8 then ((-1 : Int32), A) else match fb_ix A.F a A.n with
  | none => ((-6 : Int32), A.sg 12 (A.g 12 + nI 1))
  | some p => (A.F p 5 + nI 1, fb_askp A p)
/-- the holders whose seals on the file at p hold now, and how many -/
def fb_maskA (A : fb_At) (p : Nat) : Int32 := fa_mask (fun h => decide (A.g 7 < A.F p (7 + h))) 8
def fb_bits (x : Int32) : Int32 := fa_sum (fun k => (x >>> (nI k &&& 31)) &&& nI 1) 8
def fb_sealA (A : fb_At) (h a last : Int32) : Int32 × fb_At := match fb_ix A.F a A.n with
  | none => ((-1 : Int32), A)
  | some p => if h < 0 ∨ ¬ h < nI 8 then ((-1 : Int32), A) else if ¬ last = (-1 : Int32) ∧ (last < A.g 7 ∨ nI 9999 < last) then ((-2 : Int32), A)
    else (fb_bits (fb_maskA (A.sF p (7 + fa_N h) (if last = (-1 : Int32) then nI 10001 else last + 1)) p), A.sF p (7 + fa_N h) (if last = (-1 : Int32) then nI 10001 else last + 1))
def fb_liftA (A : fb_At) (h a : Int32) : Int32 × fb_At := match fb_ix A.F a A.n with
  | none => ((-1 : Int32), A)
  | some p => if h < 0 ∨ ¬ h < nI 8 then ((-1 : Int32), A) else if A.F p (7 + fa_N h) = 0 then ((-1 : Int32), A)
    else (fb_bits (fb_maskA (A.sF p (7 + fa_N h) 0) p), A.sF p (7 + fa_N h) 0)
def fb_refs (A : fb_At) (t : Int32) : Int32 := fa_sum (fun k => if A.F k 6 = t then 1 else 0) A.n
def fb_refA (A : fb_At) (a t : Int32) : Int32 × fb_At := match fb_ix A.F a A.n with
  | none => ((-1 : Int32), A)
  | some p => if fb_ix A.F t A.n = none then ((-1 : Int32), A) else (fb_refs (A.sF p 6 t) t, A.sF p 6 t)
def fb_resA (A : fb_At) (a d : Int32) : Int32 × fb_At :=
  if fb_ix A.F a A.n = none then ((-1 : Int32), A) else if d ≤ A.g 7 ∨ ¬ d ≤ nI 9999 then ((-2 : Int32), A) else if (a, d) ∈ A.q then ((-5 : Int32), A) else if 8 ≤ A.q.length then ((-4 : Int32), A)
  else (nI (A.q.length + 1), A.sq ((a, d) :: A.q))
def fb_canA (A : fb_At) (a d : Int32) : Int32 × fb_At := if (a, d) ∈ A.q then (nI (A.q.length - 1), A.sq (A.q.erase (a, d))) else ((-1 : Int32), A)
def fb_setA (A : fb_At) (s x : Int32) : Int32 × fb_At :=
  if s < 0 ∨ ¬ s < nI 7 then ((-1 : Int32), A) else if x < fa_stV 1 (fa_N s) ∨ ¬ x ≤ fa_stV 2 (fa_N s) then ((-2 : Int32), A) else (A.g (fa_N s), A.sg (fa_N s) x)
/-! a day -/
def fb_dueA (A : fb_At) (p : Nat) : Int32 := if A.F p 5 < A.g 5 then (if A.F p 4 < 0 then A.F p 3 else A.F p 4) + A.g (fa_N (A.F p 1)) else (if A.F p 4 < 0 then A.F p 3 else A.F p 4) + nI 2 * A.g (fa_N (A.F p 1))
def fb_nres (A : fb_At) (a : Int32) : Int32 := nI (A.q.countP (fun y => decide (y.1 = a)))
def fb_ownA (A : fb_At) (p : Nat) : Int32 := if fb_dueA A p ≤ A.g 7 then (if fb_maskA A p = 0 then (if fb_nres A (A.F p 0) ≤ 0 then 0 else nI 3) else nI 2) else nI 1
/-- a set of places that holds those which stay by themselves, and with each the one to which it refers -/
def fb_clos (A : fb_At) (S : Nat → Prop) : Prop := (∀ k, k < A.n → ¬ fb_ownA A k = 0 → S k) ∧ ∀ k j, k < A.n → j < A.n → S k → A.F j 0 = A.F k 6 → S j
def fb_stay (A : fb_At) (p : Nat) : Prop := ∀ S : Nat → Prop, fb_clos A S → S p
theorem fb_stay.own {A : fb_At} {p : Nat} (hp : p < A.n) (h : ¬ fb_ownA A p = 0) : fb_stay A p := fun _ hS => hS.1 p hp h
theorem fb_stay.clos {A : fb_At} : fb_clos A (fb_stay A) := ⟨fun _ hk h => fb_stay.own hk h, fun k j hk hj h e S hS => hS.2 k j hk hj (h S hS) e⟩
noncomputable def fb_stb (A : fb_At) (p : Nat) : Bool := @decide (fb_stay A p) (Classical.propDecidable _)
theorem fb_stb_t {A : fb_At} {p : Nat} : fb_stb A p = true ↔ fb_stay A p := by
  unfold fb_stb
  exact @decide_eq_true_iff _ (Classical.propDecidable _)
/-- the reason for which the file at p would stay -/
noncomputable def fb_why (A : fb_At) (p : Nat) : Int32 := if fb_ownA A p = 0 then (if fb_stb A p = true then nI 4 else 0) else fb_ownA A p
/-- the kept ones of the first k files -/
def fb_kp (P : Nat → Bool) (F : Nat → Nat → Int32) : Nat → Nat × (Nat → Nat → Int32)
  | 0 => (0, F)
  | k + 1 => if P k = true then ((fb_kp P F k).1 + 1, fun p i => if p = (fb_kp P F k).1 then F k i else (fb_kp P F k).2 p i) else fb_kp P F k
/-- a trace is left -/
def fb_lv (now : Int32) (x : Nat → Int32) (t : Nat × (Nat → Nat → Int32)) : Nat × (Nat → Nat → Int32) :=
  if t.1 = 12 then (12, fun p i => if p = 11 then (if i = 3 then now else if i = 4 then x 5 else x i) else t.2 (p + 1) i) else (t.1 + 1, fun p i => if p = t.1 then (if i = 3 then now else if i = 4 then x 5 else x i) else t.2 p i)
/-- what burning the others of the first k files leaves: how many, their pages, the traces -/
def fb_bt (P : Nat → Bool) (F : Nat → Nat → Int32) (now : Int32) (t : Nat × (Nat → Nat → Int32)) : Nat → Int32 × Int32 × Nat × (Nat → Nat → Int32)
  | 0 => (0, 0, t)
  | k + 1 => if P k = true then fb_bt P F now t k else ((fb_bt P F now t k).1 + nI 1, (fb_bt P F now t k).2.1 + F k 2, fb_lv now (F k) (fb_bt P F now t k).2.2)
noncomputable def fb_burnA (A : fb_At) : Int32 × fb_At :=
  ((fb_bt (fb_stb A) A.F (A.g 7) (A.m, A.T) A.n).1, (fb_s1 (fb_s1 (fb_s1 A.g 9 (A.g 9 + (fb_bt (fb_stb A) A.F (A.g 7) (A.m, A.T) A.n).1)) 10 (A.g 10 + (fb_bt (fb_stb A) A.F (A.g 7) (A.m, A.T) A.n).2.1)) 13 (A.g 13 + nI 1), fb_kp (fb_stb A) A.F A.n, A.q, (fb_bt (fb_stb A) A.F (A.g 7) (A.m, A.T) A.n).2.2))
/-- the reservations of the day d are treated -/
def fb_rsvA (A : fb_At) (d : Int32) : fb_At :=
  (fb_s1 A.g 11 (A.g 11 + nI (A.q.countP (fun y => decide (y.2 = d)))), (A.n, fun p i => if (A.F p 0, d) ∈ A.q then (if i = 4 then d else if i = 5 then A.F p 5 + nI 1 else A.F p i) else A.F p i), A.q.filter (fun y => decide (¬ y.2 = d)), (A.m, A.T))
noncomputable def fb_dayA (A : fb_At) : Int32 × fb_At :=
  if (A.g 7 + nI 1) - (A.g 7 + nI 1) / nI 90 * nI 90 = 0 then fb_burnA (fb_rsvA (A.sg 7 (A.g 7 + nI 1)) (A.g 7 + nI 1)) else (nI 0, fb_rsvA (A.sg 7 (A.g 7 + nI 1)) (A.g 7 + nI 1))
noncomputable def fb_daysA (A : fb_At) : Nat → Int32 × fb_At
  | 0 => (nI 0, A)
  | k + 1 => ((fb_daysA A k).1 + (fb_dayA (fb_daysA A k).2).1, (fb_dayA (fb_daysA A k).2).2)
noncomputable def fb_passA (A : fb_At) (d : Int32) : Int32 × fb_At :=
  if d < nI 1 ∨ ¬ d ≤ nI 400 then ((-2 : Int32), A) else if ¬ A.g 7 + d ≤ nI 9999 then ((-5 : Int32), A) else fb_daysA A (fa_N d)
