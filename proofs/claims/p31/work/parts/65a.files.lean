/-! THE PROPERTY: files -/
theorem fc_ixF {A : fb_At} (hok : fb_okA A) {p : Nat} (hp : p < A.n) : fb_ix A.F (A.F p 0) A.n = some p := by
  rcases fb_ix_elim A.n (F := A.F) (a := A.F p 0) with q | ⟨k, q, hk, ek, -⟩
  · exact absurd rfl (q.2 p hp)
  · rw [q, hok.num hk hp ek]
theorem fc_fil1 {A : fb_At} (hok : fb_okA A) {p : Nat} (hp : p < A.n) (w : Int32) : fb_filA A (A.F p 0) w = fb_filP A p w := fb_filA_s (fc_ixF hok hp)
theorem fc_fil0 {A : fb_At} (hok : fb_okA A) {a w : Int32} (h : a < 0 ∨ ¬ a < A.g 8) : fb_filA A a w = (-1 : Int32) := by
  refine fb_filA_n (fb_ix_none (fun k hk e => ?_))
  have z := hok.1.2.2.2.2.1 k hk
  rw [e] at z
  rcases h with y | y
  · exact Int32.not_lt.mpr z.1 y
  · exact y z.2
theorem fc_fat1 {A : fb_At} {p : Nat} (hp : p < A.n) (hn : A.n ≤ 24) : fb_fatA A (nI p) = A.F p 0 := by
  rw [fb_fatA, if_neg (nI_pos (by omega)), if_neg (fun z => z (nI_lt hp (by omega))), fa_N_nI (by omega)]
theorem fc_fat0 {A : fb_At} {p : Nat} (hp : A.n ≤ p) (h : p < 2 ^ 31) : fb_fatA A (nI p) = (-6 : Int32) := by
  rw [fb_fatA, if_neg (nI_pos h), if_pos (nI_nlt hp h)]
theorem fc_seal {A : fb_At} (hok : fb_okA A) {p h d : Nat} (hp : p < A.n) (hh : h < 8) (h7 : A.g 7 = nI d) (hd : d ≤ 9999) : (nI d ≤ fb_sloA A (nI h) (A.F p 0)) ↔ A.g 7 < A.F p (7 + h) := by
  obtain ⟨e, he, ee⟩ := (hok.1.2.2.2.2.2 p hp).2.2.2 h hh
  rw [fb_sloA_s (fc_ixF hok hp) (fun z => z.elim (nI_pos (by omega)) (fun y => y (nI_lt hh (by decide)))) rfl hh, ee, h7]
  by_cases z : nI e = 0
  · rw [if_pos z]
    have e0 : e = 0 := fa_nIinj (by omega) (by decide) z
    rw [e0]
    constructor
    · intro y
      exact absurd (Int32.le_trans (nI_pos' (n := d) (by omega)) y) (by decide)
    · intro y
      exact absurd y (nI_pos (by omega))
  · rw [if_neg z]
    have e0 : 1 ≤ e := Nat.pos_of_ne_zero (fun y => z (by rw [y]; rfl))
    rw [show (nI e - 1 : Int32) = nI (e - 1) from pk_sub e0]
    constructor
    · intro y
      have := (nI_leI (by omega) (by omega)).mp y
      exact nI_lt (by omega) (by omega)
    · intro y
      have := fa_ltN' (by omega) (by omega) y
      exact nI_le (by omega) (by omega)
theorem fc_own4 (A : fb_At) (p : Nat) : fb_ownA A p = 0 ∨ fb_ownA A p = nI 1 ∨ fb_ownA A p = nI 2 ∨ fb_ownA A p = nI 3 := by
  unfold fb_ownA
  split
  · split
    · split
      · exact Or.inl rfl
      · exact Or.inr (Or.inr (Or.inr rfl))
    · exact Or.inr (Or.inr (Or.inl rfl))
  · exact Or.inr (Or.inl rfl)
theorem fc_why_o {A : fb_At} {p : Nat} (h : ¬ fb_ownA A p = 0) : fb_why A p = fb_ownA A p := by
  unfold fb_why
  rw [if_neg h]
theorem fc_why_4 {A : fb_At} {p : Nat} (h : fb_ownA A p = 0) (hs : fb_stb A p = true) : fb_why A p = nI 4 := by
  unfold fb_why
  rw [if_pos h, if_pos hs]
theorem fc_why_0 {A : fb_At} {p : Nat} (h : fb_ownA A p = 0) (hs : ¬ fb_stb A p = true) : fb_why A p = 0 := by
  unfold fb_why
  rw [if_pos h, if_neg hs]
theorem fc_stay {A : fb_At} {p : Nat} (hp : p < A.n) : (0 : Int32) < fb_why A p ↔ fb_stb A p = true := by
  by_cases o : fb_ownA A p = 0
  · by_cases s : fb_stb A p = true
    · rw [fc_why_4 o s]
      exact ⟨fun _ => s, fun _ => by decide⟩
    · rw [fc_why_0 o s]
      exact ⟨fun y => absurd y (by decide), fun y => absurd y s⟩
  · rw [fc_why_o o]
    refine ⟨fun _ => fb_stb_t.mpr (fb_stay.own hp o), fun _ => ?_⟩
    rcases fc_own4 A p with z | z | z | z
    · exact absurd z o
    all_goals (rw [z]; decide)
/-- a file that stays by another one has one that refers to it and stays -/
theorem fc_kept {A : fb_At} {p : Nat} (o : fb_ownA A p = 0) (s : fb_stb A p = true) : ∃ j, j < A.n ∧ A.F j 6 = A.F p 0 ∧ fb_stb A j = true := by
  refine Decidable.byContradiction (fun z => ?_)
  have cl : fb_clos A (fun k => fb_stay A k ∧ ¬ k = p ∧ k < A.n ∨ A.n ≤ k) := by
    refine ⟨fun k hk h => Or.inl ⟨fb_stay.own hk h, fun e => h (by rw [e]; exact o), hk⟩, fun k j hk hj h e => Or.inl ⟨?_, fun e2 => ?_, hj⟩⟩
    · rcases h with h | h
      · exact fb_stay.clos.2 k j hk hj h.1 e
      · omega
    · rcases h with h | h
      · exact z ⟨k, hk, by rw [← e, e2], fb_stb_t.mpr h.1⟩
      · omega
  rcases fb_stb_t.mp s _ cl with h | h
  · exact h.2.1 rfl
  · rcases fb_stb_t.mp s (fun k => k < A.n) ⟨fun k hk _ => hk, fun k j _ hj _ _ => hj⟩ with w
    omega
/-- the keeper, from the last place down to kk -/
def fc_kq (A : fb_At) (a : Int32) (kk : Nat) (x : Int32) : Prop := (x = (-6 : Int32) ∧ ∀ p, kk ≤ p → p < A.n → ¬ (A.F p 6 = a ∧ fb_stb A p = true)) ∨ (∃ p, kk ≤ p ∧ p < A.n ∧ (A.F p 6 = a ∧ fb_stb A p = true) ∧ x = A.F p 0 ∧ ∀ k, kk ≤ k → k < p → ¬ (A.F k 6 = a ∧ fb_stb A k = true))
theorem fc_kq.start {A : fb_At} {a : Int32} {n : Nat} (h : A.n = n) : fc_kq A a n (-6 : Int32) := Or.inl ⟨rfl, fun p h1 h2 => absurd h2 (by omega)⟩
theorem fc_kq.no {A : fb_At} {a x : Int32} {kk : Nat} (h : fc_kq A a (kk + 1) x) (c : ¬ (A.F kk 6 = a ∧ fb_stb A kk = true)) : fc_kq A a kk x := by
  rcases h with ⟨h1, h2⟩ | ⟨p, h1, h2, h3, h4, h5⟩
  · refine Or.inl ⟨h1, fun p hp => ?_⟩
    by_cases z : p = kk
    · rw [z]; exact fun _ => c
    · exact h2 p (by omega)
  · refine Or.inr ⟨p, by omega, h2, h3, h4, fun k hk hkp => ?_⟩
    by_cases z : k = kk
    · rw [z]; exact c
    · exact h5 k (by omega) hkp
theorem fc_kq.yes {A : fb_At} {a x : Int32} {kk : Nat} (hk : kk < A.n) (c : A.F kk 6 = a ∧ fb_stb A kk = true) (hx : x = A.F kk 0) : fc_kq A a kk x := Or.inr ⟨kk, Nat.le_refl _, hk, c, hx, fun k h1 h2 => absurd h2 (by omega)⟩
theorem fc_kq.e {A : fb_At} {a x : Int32} (hok : fb_okA A) (h : fc_kq A a 0 x) : x = fb_kpr A a A.n := by
  rcases h with ⟨h1, h2⟩ | ⟨p, -, h2, h3, h4, h5⟩
  · rw [h1, fb_kpr_no A.n (fun k hk => h2 k (Nat.zero_le _) hk)]
  · rw [h4, fb_kpr_at h3 (hok.1.2.2.2.2.1 p h2).1 (fun k hk => h5 k (Nat.zero_le _) hk) A.n h2]
theorem fc_kq1 {A : fb_At} {p : Nat} {x : Int32} (hok : fb_okA A) (hp : p < A.n) (h : fc_kq A (A.F p 0) 0 x) :
    (¬ fb_ownA A p = 0 → fb_styA A (A.F p 0) = fb_ownA A p ∧ fb_kprA A (A.F p 0) = (-6 : Int32)) ∧
    (fb_ownA A p = 0 → (fb_styA A (A.F p 0) = 0 ∧ x = (-6 : Int32) ∧ fb_kprA A (A.F p 0) = (-6 : Int32)) ∨ (fb_styA A (A.F p 0) = nI 4 ∧ fb_kprA A (A.F p 0) = x ∧ 0 ≤ x)) := by
  have sy : fb_styA A (A.F p 0) = fb_why A p := fb_styA_s (fc_ixF hok hp)
  refine ⟨fun o => ?_, fun o => ?_⟩
  · rw [sy, fc_why_o o]
    refine ⟨rfl, ?_⟩
    unfold fb_kprA
    rw [sy, fc_why_o o]
    rcases fc_own4 A p with z | z | z | z
    · exact absurd z o
    all_goals (rw [z, if_neg (by decide), if_neg (by decide)])
  · by_cases s : fb_stb A p = true
    · refine Or.inr ⟨by rw [sy, fc_why_4 o s], ?_, ?_⟩
      · unfold fb_kprA
        rw [sy, fc_why_4 o s, if_neg (by decide), if_pos rfl]
        exact (h.e hok).symm
      · rcases h with ⟨-, h2⟩ | ⟨j, -, hj, -, e, -⟩
        · obtain ⟨j, hj, h6, hs⟩ := fc_kept o s
          exact absurd ⟨h6, hs⟩ (h2 j (Nat.zero_le _) hj)
        · rw [e]; exact hok.npos hj
    · refine Or.inl ⟨by rw [sy, fc_why_0 o s], ?_, ?_⟩
      · rcases h with ⟨h1, -⟩ | ⟨j, -, hj, hs, -, -⟩
        · exact h1
        · exact absurd (fb_stb_t.mpr (fb_stay.clos.2 j p hj hp (fb_stb_t.mp hs.2) hs.1.symm)) s
      · unfold fb_kprA
        rw [sy, fc_why_0 o s, if_neg (by decide), if_neg (by decide)]
/-! sums -/
theorem fc_sum_add (f g : Nat → Int32) : ∀ n, fa_sum (fun p => f p + g p) n = fa_sum f n + fa_sum g n
  | 0 => rfl
  | n + 1 => by
    rw [fa_sum, fa_sum, fa_sum, fc_sum_add f g n, Int32.add_assoc, Int32.add_assoc]
    congr 1
    rw [← Int32.add_assoc, ← Int32.add_assoc, Int32.add_comm (f n)]
theorem fc_sum_0 {f : Nat → Int32} : ∀ n, (∀ k, k < n → f k = 0) → fa_sum f n = 0
  | 0, _ => rfl
  | n + 1, h => by rw [fa_sum, fc_sum_0 n (fun k hk => h k (by omega)), h n (by omega)]; rfl
theorem fc_sum_1 {f : Nat → Int32} {q : Nat} : ∀ n, q < n → f q = nI 1 → (∀ k, k < n → ¬ k = q → f k = 0) → fa_sum f n = nI 1
  | 0, h, _, _ => absurd h (Nat.not_lt_zero _)
  | n + 1, hq, h1, h0 => by
    by_cases z : q = n
    · rw [fa_sum, fc_sum_0 n (fun k hk => h0 k (by omega) (by omega)), ← z, h1]; rfl
    · rw [fa_sum, fc_sum_1 n (by omega) h1 (fun k hk => h0 k (by omega)), h0 n (by omega) (fun y => z y.symm)]; rfl
theorem fc_sum_q {F : Nat → Nat → Int32} {n : Nat} (hnum : ∀ p k, p < n → k < n → F p 0 = F k 0 → p = k) : ∀ L : List (Int32 × Int32), (∀ y ∈ L, ∃ k, k < n ∧ F k 0 = y.1) → fa_sum (fun p => nI (L.countP (fun y => decide (y.1 = F p 0)))) n = nI L.length
  | [], _ => fc_sum_0 n (fun k _ => rfl)
  | y :: L, h => by
    obtain ⟨q, hq, eq⟩ := h y List.mem_cons_self
    have e : ∀ p, p < n → nI ((y :: L).countP (fun y => decide (y.1 = F p 0))) = nI (L.countP (fun y => decide (y.1 = F p 0))) + (if p = q then nI 1 else 0) := fun p hp => by
      by_cases z : y.1 = F p 0
      · rw [List.countP_cons_of_pos (p := fun (y : Int32 × Int32) => decide (y.1 = F p 0)) (decide_eq_true z), if_pos (hnum p q hp hq (z.symm.trans eq.symm)), nI_add]
      · rw [List.countP_cons_of_neg (p := fun (y : Int32 × Int32) => decide (y.1 = F p 0)) (by rw [decide_eq_true_eq]; exact z), if_neg (fun w => z (by rw [w]; exact eq.symm))]
        exact (Int32.add_zero _).symm
    rw [fa_sum_congr n e, fc_sum_add, fc_sum_q hnum L (fun y hy => h y (List.mem_cons_of_mem _ hy)), fc_sum_1 (q := q) n hq (if_pos rfl) (fun k _ z => if_neg z), nI_add, List.length_cons]
theorem fc_res {A : fb_At} (hok : fb_okA A) : fa_sum (fun p => fb_nres A (A.F p 0)) A.n = nI A.q.length :=
  fc_sum_q (fun p k hp hk e => hok.num hp hk e) A.q (fun y hy => (hok.2.2.2.2 y hy).2.2)
/-- a sum taken from its end -/
theorem fc_sum_dn {f : Nat → Int32} {k : Nat} {x t : Int32} (h : fa_sum f (k + 1) + x = t) : fa_sum f k + (x + f k) = t := by
  rw [← h, fa_sum, Int32.add_assoc, Int32.add_comm x]
theorem fc_due_t {A : fb_At} {p kd : Nat} {pe : Int32} (hok : fb_okA A) (hp : p < A.n) (ek : A.F p 1 = nI kd) (hkd : kd ≤ 4) (hpe : pe = if A.F p 5 < A.g 5 then (A.g kd) * (nI (1)) else (A.g kd) * (nI (2))) (c : 0 ≤ fb_m6 (A.F p 4)) : (pe) + (fb_m6 (A.F p 4)) = fb_dueA A p := by
  have h4 : ¬ A.F p 4 < 0 := fun z => by
    unfold fb_m6 at c
    rw [if_pos z] at c
    exact absurd c (by decide)
  have e4 : fb_m6 (A.F p 4) = A.F p 4 := if_neg h4
  rw [e4, hpe]
  unfold fb_dueA
  rw [ek, fa_N_nI (by omega), if_neg h4]
  by_cases z : A.F p 5 < A.g 5
  · rw [if_pos z, if_pos z, Int32.add_comm, show nI 1 = (1 : Int32) from rfl, Int32.mul_one]
  · rw [if_neg z, if_neg z, Int32.add_comm, Int32.mul_comm (A.g kd)]
theorem fc_due_f {A : fb_At} {p kd : Nat} {pe : Int32} (hok : fb_okA A) (hp : p < A.n) (ek : A.F p 1 = nI kd) (hkd : kd ≤ 4) (hpe : pe = if A.F p 5 < A.g 5 then (A.g kd) * (nI (1)) else (A.g kd) * (nI (2))) (c : ¬ 0 ≤ fb_m6 (A.F p 4)) : (pe) + (A.F p 3) = fb_dueA A p := by
  have h4 : A.F p 4 < 0 := Decidable.byContradiction (fun z => c (by
    unfold fb_m6
    rw [if_neg z]
    exact Int32.not_lt.mp z))
  rw [hpe]
  unfold fb_dueA
  rw [ek, fa_N_nI (by omega), if_pos h4]
  by_cases z : A.F p 5 < A.g 5
  · rw [if_pos z, if_pos z, Int32.add_comm, show nI 1 = (1 : Int32) from rfl, Int32.mul_one]
  · rw [if_neg z, if_neg z, Int32.add_comm, Int32.mul_comm (A.g kd)]
theorem fc_mask_f {c : Nat → Bool} {j : Nat} (h : ¬ c j = true) : (fa_mask c j) ||| (nI (0)) = fa_mask c (j + 1) := by
  rw [← fa_mask_f h, show nI 0 = (0 : Int32) from rfl, Int32.or_zero]
theorem fc_mask0 (c : Nat → Bool) : fa_mask c 8 ≤ 0 ↔ fa_mask c 8 = 0 := by
  have h : ∀ b0 b1 b2 b3 b4 b5 b6 b7 : Bool, fa_mask (fb_b8 b0 b1 b2 b3 b4 b5 b6 b7) 8 ≤ 0 ↔ fa_mask (fb_b8 b0 b1 b2 b3 b4 b5 b6 b7) 8 = 0 := by decide +kernel
  rw [fb_mask8 c]
  exact h _ _ _ _ _ _ _ _
def fc_last (A : fb_At) (p : Nat) : Int32 := if p = 0 then (-1 : Int32) else A.F (p - 1) 0
theorem fc_last_lt {A : fb_At} {p : Nat} (hok : fb_okA A) (hp : p < A.n) : ¬ A.F p 0 ≤ fc_last A p := by
  unfold fc_last
  split
  · rename_i z
    have h0 := hok.npos hp
    exact fun y => absurd (Int32.le_trans h0 y) (by decide)
  · exact Int32.not_le.mpr (hok.1.2.2.2.1 (p - 1) p (by omega) hp)
theorem fc_at_f {d k : Nat} {x : Nat → Int32} (h : fc_fil d k x) (c : fb_m6 (x 4) = (-6 : Int32)) (h2 : d < 2 ^ 31) : x 5 = 0 := by
  obtain ⟨-, -, t, ht, et, q⟩ := h
  rcases q with z | ⟨y, hy, e, hp⟩
  · rw [et, z.2]; rfl
  · rw [e] at c
    unfold fb_m6 at c
    rw [if_neg (nI_pos (by omega))] at c
    exact absurd (nI_pos' (n := y) (by omega)) (by rw [c]; decide)
theorem fc_at_t {d k : Nat} {x : Nat → Int32} (h : fc_fil d k x) (c : ¬ fb_m6 (x 4) = (-6 : Int32)) (h2 : d + k < 2 ^ 31) : ¬ x 5 = 0 := by
  obtain ⟨-, -, t, ht, et, q⟩ := h
  rcases q with z | ⟨y, hy, e, hp⟩
  · refine absurd ?_ c
    rw [z.1]
    decide
  · rw [et]; exact nI_ne0 hp (by omega)
theorem fc_asked {d k : Nat} {x : Nat → Int32} (h : fc_fil d k x) (h2 : d < 2 ^ 31) : ¬ nI d < fb_m6 (x 4) := by
  obtain ⟨-, -, t, ht, et, q⟩ := h
  rcases q with z | ⟨y, hy, e, hp⟩
  · rw [z.1]
    exact fun u => absurd (Int32.lt_of_le_of_lt (nI_pos' h2) u) (by decide)
  · rw [e]
    unfold fb_m6
    rw [if_neg (nI_pos (by omega))]
    exact nI_nlt hy (by omega)
theorem fc_camed {d k : Nat} {x : Nat → Int32} (h : fc_fil d k x) (h2 : d < 2 ^ 31) : ¬ nI d < x 3 := by
  obtain ⟨-, ⟨y, hy, e⟩, -⟩ := h
  rw [e]; exact nI_nlt hy (by omega)
theorem fc_m6_iff {x t : Int32} (ht : 0 ≤ t) : fb_m6 x = t ↔ x = t := by
  unfold fb_m6
  by_cases z : x < 0
  · rw [if_pos z]
    exact ⟨fun e => absurd ht (by rw [← e]; decide), fun e => absurd z (by rw [e]; exact Int32.not_lt.mpr ht)⟩
  · rw [if_neg z]
theorem fc_own_t {A : fb_At} {p : Nat} (h : ¬ fb_dueA A p ≤ A.g 7) : nI 1 = fb_ownA A p := by
  unfold fb_ownA
  rw [if_neg h]
theorem fc_own_2 {A : fb_At} {p : Nat} (h : fb_dueA A p ≤ A.g 7) (h2 : ¬ fb_maskA A p = 0) : nI 2 = fb_ownA A p := by
  unfold fb_ownA
  rw [if_pos h, if_neg h2]
theorem fc_own_3 {A : fb_At} {p : Nat} (h : fb_dueA A p ≤ A.g 7) (h2 : fb_maskA A p = 0) (h3 : ¬ fb_nres A (A.F p 0) ≤ 0) : nI 3 = fb_ownA A p := by
  unfold fb_ownA
  rw [if_pos h, if_pos h2, if_neg h3]
theorem fc_own_0 {A : fb_At} {p : Nat} (h : fb_dueA A p ≤ A.g 7) (h2 : fb_maskA A p = 0) (h3 : fb_nres A (A.F p 0) ≤ 0) : nI 0 = fb_ownA A p := by
  unfold fb_ownA
  rw [if_pos h, if_pos h2, if_pos h3]
  rfl
theorem fc_own_le {A : fb_At} {p : Nat} (h : fb_ownA A p ≤ 0) : fb_ownA A p = 0 := by
  rcases fc_own4 A p with z | z | z | z
  · exact z
  all_goals (rw [z] at h; exact absurd h (by decide))
theorem fc_own_pos {A : fb_At} {p : Nat} (h : ¬ fb_ownA A p ≤ 0) : ¬ fb_ownA A p = 0 := fun z => h (by rw [z]; decide)
theorem fc_kk0 {k : Nat} {x : Int32} (hk : k < 2 ^ 31) (e : x = nI k - nI 1) (c : x < 0) : k = 0 := by
  cases k with
  | zero => rfl
  | succ j => exact absurd c (by rw [e, pk_sub (by omega)]; exact nI_pos (by omega))
theorem fc_predS (j : Nat) : nI j + (-1 : Int32) = nI j - nI 1 := by
  rw [Int32.sub_eq_add_neg]
  rfl
theorem fc_pred {k : Nat} (hk : k < 2 ^ 31) (c : ¬ (nI k - nI 1 : Int32) < 0) : ∃ j, k = j + 1 ∧ (nI k - nI 1 : Int32) = nI j := by
  cases k with
  | zero => exact absurd (by decide) c
  | succ j => exact ⟨j, rfl, by rw [pk_sub (by omega)]; rfl⟩
theorem fc_stg {A : fb_At} {k : Nat} (hk : k < 7) : fb_stgA A (nI k) = A.g k := by
  rw [fb_stgA, if_neg (fun z => z.elim (nI_pos (by omega)) (fun y => y (nI_lt hk (by decide)))), fa_N_nI (by omega)]
theorem fc_sty {A : fb_At} (hok : fb_okA A) {p : Nat} (hp : p < A.n) : fb_styA A (A.F p 0) = fb_why A p := fb_styA_s (fc_ixF hok hp)
theorem fb_CV.rsn {v v1 : fa_V} {r : fa_R} {A : fb_At} {H : List fb_At} (h : fb_CV v r A H) (hf : fa_rsn 1 v v1) (f : fa_fr 9 57 v v1) : fb_CV v1 r A H :=
  ⟨h.1, h.2.1, h.2.2.1.rsn hf, h.2.2.2.cong (by rw [f 113 (by omega)]) (fun k k1 k2 => f k (by omega)) (fun _ _ _ => rfl)⟩
theorem fb_CV.fut {v v1 : fa_V} {r r1 : fa_R} {A : fb_At} {H : List fb_At} (h : fb_CV v r A H) (f : fa_fr 57 113 v v1) (g : ∀ k, ¬ k = 58 → r1 k = r k) : fb_CV v1 r1 A H :=
  ⟨h.1, fun b hb h57 => (h.2.1 b hb h57).congr (g _ (by omega)), h.2.2.1.congr (fun k k1 k2 => f k (by omega)) (fa_RS_cong2 (fun q q1 q2 => g q (by omega)) h.2.2.1.1) (g _ (by omega)), h.2.2.2.cong (by rw [f 113 (by omega)]) (fun k k1 k2 => f k (by omega)) (fun k k1 k2 => g k (by omega))⟩
