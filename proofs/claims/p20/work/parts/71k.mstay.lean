/-! WHAT STAYS: the reference's marks -/
theorem fb_mA.tgt {f : Nat → Int32} {A : fb_At} (h : fb_mA f A) (hok : fb_okA A) {j : Nat} (hj : j < A.n) : (fb_plm f (f (17 + 15 * j + 6)) = (-1 : Int32) ∧ ∀ i, i < A.n → ¬ A.F i 0 = A.F j 6) ∨ ∃ p, p < A.n ∧ fb_plm f (f (17 + 15 * j + 6)) = nI p ∧ A.F p 0 = A.F j 6 := by
  rw [h.F hj (i := 6) (by decide)]
  rcases h.pl hok (A.F j 6) with ⟨h1, h2⟩ | ⟨p, h1, h2, -, h4⟩
  · rcases fb_ix_elim A.n (F := A.F) (a := A.F j 6) with ⟨-, z⟩ | ⟨p, z, -⟩
    · exact Or.inl ⟨h1, z⟩
    · rw [h2] at z
      cases z
  · exact Or.inr ⟨p, h1, h2, h4⟩
def fb_t1 (A : fb_At) (w : Nat → Int32) (j : Nat) : Prop := ∀ p, p < j → w p = if fb_ownA A p = 0 then nI 0 else nI 1
def fb_t2 (A : fb_At) (w : Nat → Int32) : Prop := (∀ p, p < A.n → w p = nI 0 ∨ w p = nI 1) ∧ (∀ p, p < A.n → ¬ fb_ownA A p = 0 → ¬ w p = 0) ∧ ∀ S : Nat → Prop, fb_clos A S → ∀ p, p < A.n → ¬ w p = 0 → S p
def fb_t3 (A : fb_At) (w : Nat → Int32) (mi : Int32) (j : Nat) : Prop := fb_t2 A w ∧ (mi = 0 → ∀ k, k < j → k < A.n → ∀ i, i < A.n → A.F i 0 = A.F k 6 → ¬ w k = 0 → ¬ w i = 0)
theorem fb_own_le (A : fb_At) (p : Nat) : fb_ownA A p ≤ 0 ↔ fb_ownA A p = 0 := by
  unfold fb_ownA
  split
  · split
    · split <;> decide
    · decide
  · decide
theorem fb_t1.s {A : fb_At} {v : fa_V} {j : Nat} {x y : Int32} (h : fb_t1 A (v 402) j) (hx : x = fb_ownA A j) (hy : y = if x ≤ 0 then nI 0 else nI 1) : fb_t1 A (fa_u v 402 j y 402) (j + 1) := fun p hp => by
  by_cases z : p = j
  · rw [z, fa_u_s, hy, hx]
    by_cases o : fb_ownA A j = 0
    · rw [if_pos o, if_pos ((fb_own_le A j).mpr o)]
    · rw [if_neg o, if_neg (fun q => o ((fb_own_le A j).mp q))]
  · rw [fa_u_n _ _ (fun q => z q.2)]
    exact h p (by omega)
theorem fb_t1.e {A : fb_At} {w : Nat → Int32} {mo : Int32} (h : fb_t1 A w A.n) (hm : ¬ mo = 0) : fb_t3 A w mo A.n := by
  refine ⟨⟨fun p hp => ?_, fun p hp ho => ?_, fun S hS p hp hw => ?_⟩, fun z => absurd z hm⟩
  · rw [h p hp]
    by_cases o : fb_ownA A p = 0
    · exact Or.inl (if_pos o)
    · exact Or.inr (if_neg o)
  · rw [h p hp, if_neg ho]; decide
  · refine hS.1 p hp (fun o => hw ?_)
    rw [h p hp, if_pos o]; rfl
theorem fb_t3.z {A : fb_At} {w : Nat → Int32} {mi mo : Int32} {j : Nat} (h : fb_t3 A w mi j) : fb_t3 A w mo 0 := ⟨h.1, fun _ k hk => absurd hk (Nat.not_lt_zero _)⟩
theorem fb_t3.at {A : fb_At} {w : Nat → Int32} {mi : Int32} {j : Nat} (h : fb_t3 A w mi j) (hj : ∀ i, i < A.n → A.F i 0 = A.F j 6 → ¬ w j = 0 → ¬ w i = 0) : fb_t3 A w mi (j + 1) := ⟨h.1, fun m k hk hn i hi e hk0 => by
  by_cases z : k = j
  · rw [z] at e hk0; exact hj i hi e hk0
  · exact h.2 m k (by omega) hn i hi e hk0⟩
theorem fb_t3.no {A : fb_At} {f w : Nat → Int32} {mi x : Int32} {j : Nat} (hok : fb_okA A) (hc : fb_mA f A) (h : fb_t3 A w mi j) (hj : j < A.n) (hx : x = fb_plm f (f (17 + 15 * j + 6))) (c : x = (-1 : Int32)) : fb_t3 A w mi (j + 1) := h.at (fun i hi e _ => by
  rcases hc.tgt hok hj with ⟨-, z⟩ | ⟨p, hp, z, -⟩
  · exact absurd e (z i hi)
  · rw [← hx, c] at z
    exact absurd z.symm (fb_nI_ne1 (by have := hc.2.1.1; omega)))
theorem fb_mA.tp {f : Nat → Int32} {A : fb_At} {j tp : Nat} {x : Int32} (hc : fb_mA f A) (hok : fb_okA A) (hj : j < A.n) (hx : x = fb_plm f (f (17 + 15 * j + 6))) (ht : tp < 24) (et : x = nI tp) : tp < A.n ∧ A.F tp 0 = A.F j 6 := by
  rcases hc.tgt hok hj with ⟨z, -⟩ | ⟨p, hp, z, e⟩
  · rw [← hx, et] at z
    exact absurd z (fb_nI_ne1 (by omega))
  · rw [← hx, et] at z
    have : tp = p := fa_nIinj (by omega) (by have := hc.2.1.1; omega) z
    rw [this]
    exact ⟨hp, e⟩
theorem fb_t3.ne {A : fb_At} {f w : Nat → Int32} {mi x : Int32} {j tp : Nat} (hok : fb_okA A) (hc : fb_mA f A) (h : fb_t3 A w mi j) (hj : j < A.n) (hx : x = fb_plm f (f (17 + 15 * j + 6))) (ht : tp < 24) (et : x = nI tp) (c : ¬ w tp = 0) : fb_t3 A w mi (j + 1) := h.at (fun i hi e _ => by
  obtain ⟨h1, h2⟩ := hc.tp hok hj hx ht et
  have : i = tp := hok.num hi h1 (by rw [e, h2])
  rw [this]
  exact c)
theorem fb_t3.wr {A : fb_At} {f : Nat → Int32} {v : fa_V} {mi x : Int32} {j tp : Nat} (hok : fb_okA A) (hc : fb_mA f A) (h : fb_t3 A (v 402) mi j) (hj : j < A.n) (hx : x = fb_plm f (f (17 + 15 * j + 6))) (ht : tp < 24) (et : x = nI tp) (c : ¬ v 402 j = 0) : fb_t3 A (fa_u v 402 tp (nI 1) 402) (nI 1) (j + 1) := by
  obtain ⟨h1, h2⟩ := hc.tp hok hj hx ht et
  refine ⟨⟨fun p hp => ?_, fun p hp ho => ?_, fun S hS p hp hw => ?_⟩, fun z => absurd z (by decide)⟩
  · by_cases z : p = tp
    · rw [z, fa_u_s]; exact Or.inr rfl
    · rw [fa_u_n _ _ (fun q => z q.2)]; exact h.1.1 p hp
  · by_cases z : p = tp
    · rw [z, fa_u_s]; decide
    · rw [fa_u_n _ _ (fun q => z q.2)]; exact h.1.2.1 p hp ho
  · by_cases z : p = tp
    · rw [z]; exact hS.2 j tp hj h1 (h.1.2.2 S hS j hj c) h2
    · rw [fa_u_n _ _ (fun q => z q.2)] at hw; exact h.1.2.2 S hS p hp hw
theorem fb_t3.e {A : fb_At} {w : Nat → Int32} (h : fb_t3 A w 0 A.n) {p : Nat} (hp : p < A.n) : w p = if fb_stb A p = true then nI 1 else nI 0 := by
  have st : fb_stay A p ↔ ¬ w p = 0 := by
    constructor
    · intro s
      exact s (fun q => q < A.n → ¬ w q = 0) ⟨fun k hk ho _ => h.1.2.1 k hk ho, fun k j hk hj a e _ => h.2 rfl k hk hk j hj e (a hk)⟩ hp
    · intro z
      exact h.1.2.2 (fb_stay A) fb_stay.clos p hp z
  rcases h.1.1 p hp with z | z
  · rw [z, if_neg (fun y => (st.mp (fb_stb_t.mp y)) (by rw [z]; rfl))]
  · rw [z, if_pos (fb_stb_t.mpr (st.mpr (by rw [z]; decide)))]
