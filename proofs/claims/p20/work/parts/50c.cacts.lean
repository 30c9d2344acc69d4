/-! THE CLASS'S ACTIONS ON WHAT ITS STATE HOLDS -/
theorem fb_rs {v : fa_V} {r : fa_R} {b : Nat} {op : Int32 × fb_At} {x y : Int32} {B : fb_At} (e : op = (y, B)) (hx : x = y) (hc : fb_cA v r b B) : x = op.1 ∧ fb_cA v r b op.2 := by
  rw [e]
  exact ⟨hx, hc⟩
theorem fb_cA.find0 {v : fa_V} {r : fa_R} {b : Nat} {A : fb_At} {a : Int32} (h : fb_cA v r b A) (hx : ∀ k, k < fa_N (v b 1) → ¬ v (fa_pf r b k) 0 = a) : fb_ix A.F a A.n = none := by
  rw [h.n] at hx
  exact fb_ix_none (fun k hk => by rw [← h.f hk (i := 0) (by decide) (by decide)]; exact hx k hk)
theorem fb_cA.find1 {v : fa_V} {r : fa_R} {b q : Nat} {A : fb_At} {a : Int32} (h : fb_cA v r b A) (hx : fa_isF b q ∧ ∃ p, p < fa_N (v b 1) ∧ q = fa_pf r b p ∧ v q 0 = a ∧ ∀ k, k < p → ¬ v (fa_pf r b k) 0 = a) : ∃ p, p < A.n ∧ q = fa_pf r b p ∧ fb_ix A.F a A.n = some p ∧ A.F p 0 = a := by
  rw [h.n] at hx
  obtain ⟨-, p, hp, e1, e2, e3⟩ := hx
  rw [e1] at e2
  have e4 : A.F p 0 = a := by rw [← h.f hp (i := 0) (by decide) (by decide)]; exact e2
  exact ⟨p, hp, e1, fb_ix_some hp e4 (fun k hk => by rw [← h.f (Nat.lt_trans hk hp) (i := 0) (by decide) (by decide)]; exact e3 k hk), e4⟩
theorem fb_cA.gk {v : fa_V} {r : fa_R} {b : Nat} {A : fb_At} (h : fb_cA v r b A) (k : Nat) (h8 : 8 ≤ k) (h14 : k < 14) : v b (k - 6) = A.g k := h.2.2.1.2.2 k h8 h14
theorem fb_cA.now {v : fa_V} {r : fa_R} {b : Nat} {A : fb_At} (h : fb_cA v r b A) : v b 0 = A.g 7 := h.2.2.1.2.1
theorem fb_cA.set {v : fa_V} {r : fa_R} {b k : Nat} {A : fb_At} (h : fb_cA v r b A) (hk : k < 7) : v (b + 7) k = A.g k := h.2.2.1.1 k hk
theorem fb_cA.pgs {v : fa_V} {r : fa_R} {b : Nat} {A : fb_At} (h : fb_cA v r b A) : fa_sum (fun p => v (fa_pf r b p) 2) (fa_N (v b 1)) = fb_pgs A := by
  rw [h.n]
  exact fa_sum_congr _ (fun k hk => h.f hk (by decide) (by decide))
/-- a file that has come -/
def fb_cm (a k p d : Int32) (i : Nat) : Int32 := if i = 0 then a else if i = 1 then k else if i = 2 then p else if i = 3 then d else if i = 4 ∨ i = 6 then (-6 : Int32) else 0
theorem fb_cm_eq {v v1 v2 v3 v4 v5 v6 v7 : fa_V} {q : Nat} {a k p d : Int32} (e1 : v1 = fa_u v q 0 a) (e2 : v2 = fa_u v1 q 1 k) (e3 : v3 = fa_u v2 q 2 p) (e4 : v4 = fa_u v3 q 3 d) (e5 : v5 = fa_u v4 q 4 (-6 : Int32)) (e6 : v6 = fa_u v5 q 5 (nI 0)) (e7 : v7 = fa_u v6 q 6 (-6 : Int32)) {i : Nat} (hi : i < 7) : v7 q i = fb_cm a k p d i := by
  have : i = 0 ∨ i = 1 ∨ i = 2 ∨ i = 3 ∨ i = 4 ∨ i = 5 ∨ i = 6 := by omega
  subst e1 e2 e3 e4 e5 e6 e7
  rcases this with rfl | rfl | rfl | rfl | rfl | rfl | rfl <;> simp [fa_u, fb_cm] <;> rfl
theorem fb_addA_1 {A : fb_At} {k p : Int32} (h : k < 0 ∨ nI 4 < k ∨ p < nI 1 ∨ ¬ p ≤ nI 50) : fb_addA A k p = ((-2 : Int32), A) := if_pos h
theorem fb_addA_2 {A : fb_At} {k p : Int32} (h : ¬ (k < 0 ∨ nI 4 < k ∨ p < nI 1 ∨ ¬ p ≤ nI 50)) (h2 : 24 ≤ A.n ∨ nI 200 ≤ A.g 8 ∨ ¬ fb_pgs A + p ≤ A.g 6) : fb_addA A k p = ((-4 : Int32), A) := by rw [fb_addA, if_neg h, if_pos h2]
theorem fb_addA_3 {A : fb_At} {k p : Int32} (h : ¬ (k < 0 ∨ nI 4 < k ∨ p < nI 1 ∨ ¬ p ≤ nI 50)) (h2 : ¬ (24 ≤ A.n ∨ nI 200 ≤ A.g 8 ∨ ¬ fb_pgs A + p ≤ A.g 6)) : fb_addA A k p = (A.g 8, (fb_s1 A.g 8 (A.g 8 + nI 1), (A.n + 1, fb_newF A k p), A.q, (A.m, A.T))) := by rw [fb_addA, if_neg h, if_neg h2]
theorem fb_c_new {v v1 v2 v3 : fa_V} {r : fa_R} {b n0 : Nat} {A : fb_At} {k p : Int32} (hc : fb_cA v r b A) (hn : A.n < 24) (e0 : n0 = A.n) (h1 : (∀ i, i < 7 → v1 (fa_pf r b n0) i = fb_cm (v b 2) k p (v b 0) i) ∧ (∀ h, h < 8 → v1 (fa_pf r b n0 + 1) h = (-1 : Int32)) ∧ ∀ j, ¬ j = fa_pf r b n0 → ¬ j = fa_pf r b n0 + 1 → v1 j = v j) (e2 : v2 = fa_u v1 b 1 (nI (n0 + 1))) (e3 : v3 = fa_u v2 b 2 (v2 b 2 + nI 1)) :
    fb_cA v3 r b (fb_s1 A.g 8 (A.g 8 + nI 1), (A.n + 1, fb_newF A k p), A.q, (A.m, A.T)) := by
  subst e0
  obtain ⟨g1, g2, g3, g4, ⟨L, g5, g5b⟩, g6⟩ := id hc
  obtain ⟨j, hj, e⟩ := fb_pf_at2 g1 hn
  have r1 : ∀ i, i < b + 8 → v1 i = v i := fun i hi => h1.2.2 i (by omega) (by omega)
  have r3 : ∀ i, ¬ i = b → v3 i = v1 i := fun i hi => by rw [e3, fa_u_k _ _ hi, e2, fa_u_k _ _ hi]
  have came : v b 2 = A.g 8 := hc.gk 8 (by decide) (by decide)
  have row : ∀ i, i < b + 8 → ¬ i = b → v3 i = v i := fun i a c => (r3 i c).trans (r1 i a)
  refine ⟨g1, g2, ⟨fun i hi => ?_, ?_, fun i i8 i14 => ?_⟩, ⟨hn, ?_, fun x i hx hi => ?_⟩, ⟨L, g5.congr (by rw [row _ (by omega) (by omega)]) (row _ (by omega) (by omega)) (row _ (by omega) (by omega)), g5b⟩, g6.congr (by rw [row _ (by omega) (by omega)]) (row _ (by omega) (by omega))⟩
  · rw [row _ (by omega) (by omega)]
    show _ = fb_s1 A.g 8 (A.g 8 + nI 1) i
    rw [fb_s1_n (by omega)]
    exact g3.1 i hi
  · show _ = fb_s1 A.g 8 (A.g 8 + nI 1) 7
    rw [fb_s1_n (by omega), e3, fa_u_n _ _ (by omega), e2, fa_u_n _ _ (by omega), r1 b (by omega)]
    exact g3.2.1
  · show _ = fb_s1 A.g 8 (A.g 8 + nI 1) i
    by_cases z : i = 8
    · subst z
      rw [fb_s1_s, e3, show 8 - 6 = 2 from rfl, fa_u_s, e2, fa_u_n _ _ (by omega), r1 b (by omega), came]
    · rw [fb_s1_n z, e3, fa_u_n _ _ (by omega), e2, fa_u_n _ _ (by omega), r1 b (by omega)]
      exact g3.2.2 i i8 i14
  · rw [e3, fa_u_n _ _ (by omega), e2, fa_u_s]
  · show _ = fb_newF A k p x i
    have hx24 : x < 24 := Nat.lt_of_lt_of_le hx hn
    obtain ⟨j2, hj2, e4⟩ := fb_pf_at2 g1 hx24
    rw [fb_cw_congr (v := v1) rfl (fun i _ => by rw [r3 _ (by omega)]) (fun i _ => by rw [r3 _ (by omega)]) hi]
    unfold fb_newF
    by_cases z : x = A.n
    · rw [if_pos z]
      subst z
      unfold fb_cw
      by_cases w : i = 4 ∨ i = 6
      · rw [if_pos w, h1.1 i (by omega), fb_cm, if_neg (by omega), if_neg (by omega), if_neg (by omega), if_neg (by omega), if_pos w, if_neg (by omega), if_neg (by omega), if_neg (by omega), if_neg (by omega), if_pos w]
        rfl
      · rw [if_neg w]
        by_cases w2 : i < 7
        · rw [if_pos w2, h1.1 i w2, fb_cm, came, hc.now, if_neg w, if_neg w]
        · rw [if_neg w2, h1.2.1 (i - 7) (by omega), if_neg (by omega), if_neg (by omega), if_neg (by omega), if_neg (by omega), if_neg w]
          decide
    · rw [if_neg z]
      have hne : ¬ fa_pf r b x = fa_pf r b A.n := fun y => z (g2 x A.n hx24 hn y)
      rw [fb_cw_congr (v := v) rfl (fun i _ => by rw [h1.2.2 _ hne (by omega)]) (fun i _ => by rw [h1.2.2 _ (by omega) (by omega)]) hi]
      have hx' : x < A.n + 1 := hx
      exact g4.2.2 x i (by omega) hi
theorem fb_c_newx {v v1 v2 v3 : fa_V} {r : fa_R} {b n0 : Nat} {A : fb_At} {k p : Int32} (hc : fb_cA v r b A) (hn : A.n < 24) (e0 : n0 = A.n) (h1 : (∀ i, i < 7 → v1 (fa_pf r b n0) i = fb_cm (v b 2) k p (v b 0) i) ∧ (∀ h, h < 8 → v1 (fa_pf r b n0 + 1) h = (-1 : Int32)) ∧ ∀ j, ¬ j = fa_pf r b n0 → ¬ j = fa_pf r b n0 + 1 → v1 j = v j) (e2 : v2 = fa_u v1 b 1 (nI (n0 + 1))) (e3 : v3 = fa_u v2 b 2 (v2 b 2 + nI 1)) : v3 b 2 - nI 1 = A.g 8 := by
  subst e0
  obtain ⟨j, hj, e⟩ := fb_pf_at2 hc.1 hn
  rw [e3, fa_u_s, e2, fa_u_n _ _ (by omega), h1.2.2 b (by omega) (by omega), show v b 2 = A.g 8 from hc.gk 8 (by decide) (by decide), Int32.add_sub_cancel]
theorem fb_askA_0 {A : fb_At} {a : Int32} (h : a < 0 ∨ ¬ a < A.g 8) : fb_askA A a = ((-1 : Int32), A) := if_pos h
theorem fb_askA_n {A : fb_At} {a : Int32} (h : ¬ (a < 0 ∨ ¬ a < A.g 8)) (e : fb_ix A.F a A.n = none) : fb_askA A a = ((-6 : Int32), A.sg 12 (A.g 12 + nI 1)) := by rw [fb_askA, if_neg h, e]
theorem fb_askA_s {A : fb_At} {a : Int32} {p : Nat} (h : ¬ (a < 0 ∨ ¬ a < A.g 8)) (e : fb_ix A.F a A.n = some p) : fb_askA A a = (A.F p 5 + nI 1, fb_askp A p) := by rw [fb_askA, if_neg h, e]
theorem fb_c_regret {v v1 : fa_V} {r : fa_R} {b : Nat} {A : fb_At} (hc : fb_cA v r b A) (e : v1 = fa_u v b 6 (v b 6 + nI 1)) : fb_cA v1 r b (A.sg 12 (A.g 12 + nI 1)) := by
  rw [e, show v b 6 = A.g 12 from hc.gk 12 (by decide) (by decide)]
  exact hc.ub (k := 12) (by decide) (by decide)
theorem fb_e6_pos {x : Int32} (h : 0 ≤ x) : fb_e6 x = x := by
  rw [fb_e6, if_neg (fun z => by rw [z] at h; exact absurd h (by decide)), if_neg (fun z => by rw [z] at h; exact absurd h (by decide))]
theorem fb_e6_inv {x y : Int32} (h : fb_e6 x = y) (hy : 0 ≤ y) : x = y := by
  unfold fb_e6 at h
  by_cases z : x = (-6 : Int32)
  · rw [if_pos z] at h; rw [← h] at hy; exact absurd hy (by decide)
  · rw [if_neg z] at h
    by_cases w : x = (-1 : Int32)
    · rw [if_pos w] at h; rw [← h] at hy; exact absurd hy (by decide)
    · rw [if_neg w] at h; exact h
theorem fb_e6_m1 {x : Int32} (h : fb_e6 x = (-1 : Int32)) : x = (-6 : Int32) := by
  unfold fb_e6 at h
  by_cases z : x = (-6 : Int32)
  · exact z
  · rw [if_neg z] at h
    by_cases w : x = (-1 : Int32)
    · rw [if_pos w] at h; exact absurd h (by decide)
    · rw [if_neg w] at h; exact absurd h w
theorem fb_okA.nowpos {A : fb_At} (h : fb_okA A) : 0 ≤ A.g 7 := by
  obtain ⟨d, hd, e⟩ := h.1.2.1
  rw [e]
  exact nI_pos' (by omega)
theorem fb_c_ask {v v1 : fa_V} {r : fa_R} {b p : Nat} {A : fb_At} (hk : 0 ≤ A.g 7) (hc : fb_cA v r b A) (hp : p < A.n) (e : v1 = fa_ask v b (fa_pf r b p)) : fb_cA v1 r b (fb_askp A p) ∧ v1 (fa_pf r b p) 5 = A.F p 5 + nI 1 := by
  have hp24 : p < 24 := Nat.lt_of_lt_of_le hp hc.2.2.2.1.1
  obtain ⟨j, hj, ej⟩ := fb_pf_at2 hc.1 hp24
  have h1 := hc.uF (i := 4) (x := v b 0) (y := A.g 7) hp (by decide) (by rw [if_pos (Or.inl rfl), hc.now]; exact (fb_e6_pos hk).symm)
  have h2 := h1.uF (i := 5) (x := v (fa_pf r b p) 5 + nI 1) (y := A.F p 5 + nI 1) hp (by decide) (by rw [if_neg (by decide), hc.f hp (by decide) (by decide)])
  have h3 := h2.ub (k := 11) (x := v b 5 + nI 1) (by decide) (by decide)
  subst e
  have g : v b 5 = A.g 11 := hc.gk 11 (by decide) (by decide)
  rw [g] at h3
  constructor
  · unfold fa_ask
    rw [g]
    exact h3
  · unfold fa_ask
    rw [fa_u_n _ _ (by omega), fa_u_s, hc.f hp (by decide) (by decide)]
theorem fb_refA_n {A : fb_At} {a t : Int32} (e : fb_ix A.F a A.n = none) : fb_refA A a t = ((-1 : Int32), A) := by rw [fb_refA, e]
theorem fb_refA_m {A : fb_At} {a t : Int32} {p : Nat} (e : fb_ix A.F a A.n = some p) (e2 : fb_ix A.F t A.n = none) : fb_refA A a t = ((-1 : Int32), A) := by
  rw [fb_refA, e]
  exact if_pos e2
theorem fb_refA_s {A : fb_At} {a t : Int32} {p k : Nat} (e : fb_ix A.F a A.n = some p) (e2 : fb_ix A.F t A.n = some k) : fb_refA A a t = (fb_refs (A.sF p 6 t) t, A.sF p 6 t) := by
  rw [fb_refA, e]
  exact if_neg (by rw [e2]; exact fun z => by cases z)
theorem fb_e6_eq {x t : Int32} (ht : 0 ≤ t) : x = t ↔ fb_e6 x = t := ⟨fun h => by rw [h]; exact fb_e6_pos ht, fun h => fb_e6_inv h ht⟩
theorem fb_cA.refs {v : fa_V} {r : fa_R} {b : Nat} {A : fb_At} {t : Int32} (h : fb_cA v r b A) (ht : 0 ≤ t) : fa_sum (fun p => if v (fa_pf r b p) 6 = t then 1 else 0) (fa_N (v b 1)) = fb_refs A t := by
  rw [h.n]
  refine fa_sum_congr _ (fun k hk => ?_)
  rw [← h.f6 hk (i := 6) (Or.inr rfl)]
  by_cases z : v (fa_pf r b k) 6 = t
  · rw [if_pos z, if_pos ((fb_e6_eq ht).mp z)]
  · rw [if_neg z, if_neg (fun y => z ((fb_e6_eq ht).mpr y))]
theorem fb_c_ref {v v1 : fa_V} {r : fa_R} {b p k : Nat} {A : fb_At} {t : Int32} (hok : fb_okA A) (hc : fb_cA v r b A) (hp : p < A.n) (hk : k < A.n) (ek : A.F k 0 = t) (e : v1 = fa_u v (fa_pf r b p) 6 t) : fb_cA v1 r b (A.sF p 6 t) ∧ 0 ≤ t := by
  have ht : 0 ≤ t := by rw [← ek]; exact (hok.1.2.2.2.2.1 k hk).1
  rw [e]
  exact ⟨hc.uF (i := 6) hp (by decide) (by rw [if_pos (Or.inr rfl)]; exact (fb_e6_pos ht).symm), ht⟩
theorem fb_setA_1 {A : fb_At} {s x : Int32} (h : s < 0 ∨ ¬ s < nI 7) : fb_setA A s x = ((-1 : Int32), A) := if_pos h
theorem fb_setA_2 {A : fb_At} {s x : Int32} {j : Nat} (h : ¬ (s < 0 ∨ ¬ s < nI 7)) (ej : s = nI j) (hj : j < 7) (h2 : x < fa_stV 1 j ∨ ¬ x ≤ fa_stV 2 j) : fb_setA A s x = ((-2 : Int32), A) := by
  rw [fb_setA, if_neg h, ej, fa_N_nI (by omega), if_pos h2]
theorem fb_setA_3 {A : fb_At} {s x : Int32} {j : Nat} (h : ¬ (s < 0 ∨ ¬ s < nI 7)) (ej : s = nI j) (hj : j < 7) (h2 : ¬ (x < fa_stV 1 j ∨ ¬ x ≤ fa_stV 2 j)) : fb_setA A s x = (A.g j, A.sg j x) := by
  rw [fb_setA, if_neg h, ej, fa_N_nI (by omega), if_neg h2]
