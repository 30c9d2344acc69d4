/-! DAYS: the class -/
theorem fb_cA.eqv {v : fa_V} {r : fa_R} {b : Nat} {A B : fb_At} (h : fb_cA v r b A) (hg : ∀ k, k < 14 → B.g k = A.g k) (hn : B.n = A.n) (hF : ∀ p i, p < A.n → i < 15 → B.F p i = A.F p i) (hq : A.q.Perm B.q) (hm : B.m = A.m) (hT : ∀ p i, p < A.m → i < 5 → B.T p i = A.T p i) : fb_cA v r b B := by
  obtain ⟨h1, h2, h3, h4, ⟨L, h5, h6, h7⟩, h8⟩ := h
  refine ⟨h1, h2, ⟨fun k hk => ?_, ?_, fun k a c => ?_⟩, ⟨by rw [hn]; exact h4.1, by rw [hn]; exact h4.2.1, fun p i hp hi => ?_⟩, ⟨L, h5, h6.trans hq, h7⟩, ⟨by rw [hm]; exact h8.1, by rw [hm]; exact h8.2.1, fun p i hp hi => ?_⟩⟩
  · rw [hg k (by omega)]; exact h3.1 k hk
  · rw [hg 7 (by omega)]; exact h3.2.1
  · rw [hg k c]; exact h3.2.2 k a c
  · rw [hn] at hp; rw [hF p i hp hi]; exact h4.2.2 p i hp hi
  · rw [hm] at hp; rw [hT p i hp hi]; exact h8.2.2 p i hp hi
/-- a trace is left -/
theorem fb_c_lv1 {v v1 v2 v3 v4 v5 v6 : fa_V} {b m q n5 : Nat} {T : Nat → Nat → Int32} {a1 : Int32} (hq : ¬ q = b + 6) (hT : fb_cT v b m T) (hn : n5 = m) (h12 : n5 < 12) (e1 : v1 = fa_u v (b + 6) (n5 * 5) (v q 0)) (e2 : v2 = fa_u v1 (b + 6) (n5 * 5 + 1) (v1 q 1)) (e3 : v3 = fa_u v2 (b + 6) (n5 * 5 + 2) (v2 q 2)) (e4 : v4 = fa_u v3 (b + 6) (n5 * 5 + 3) a1) (e5 : v5 = fa_u v4 (b + 6) (n5 * 5 + 4) (v4 q 5)) (e6 : v6 = fa_u v5 (b + 5) 0 (nI (n5 + 1))) :
    fb_cT v6 b (fb_lv a1 (v q) (m, T)).1 (fb_lv a1 (v q) (m, T)).2 := by
  subst hn
  obtain ⟨t1, t2, t3⟩ := hT
  have eL : fb_lv a1 (v q) (n5, T) = (n5 + 1, fun p i => if p = n5 then (if i = 3 then a1 else if i = 4 then v q 5 else v q i) else T p i) := by
    unfold fb_lv
    rw [if_neg (show ¬ n5 = 12 by omega)]
  rw [eL]
  have r1 : v1 q = v q := by rw [e1, fa_u_k _ _ hq]
  have r2 : v2 q = v q := by rw [e2, fa_u_k _ _ hq, r1]
  have r4 : v4 q = v q := by rw [e4, fa_u_k _ _ hq, e3, fa_u_k _ _ hq, r2]
  rw [r1] at e2
  rw [r2] at e3
  rw [r4] at e5
  have w : v6 (b + 6) = v5 (b + 6) := by rw [e6, fa_u_k _ _ (by omega)]
  refine ⟨h12, by rw [e6, fa_u_s], fun p i hp hi => ?_⟩
  show v6 (b + 6) (5 * p + i) = if p = n5 then (if i = 3 then a1 else if i = 4 then v q 5 else v q i) else T p i
  rw [w]
  by_cases z : p = n5
  · subst z
    rw [if_pos rfl]
    have : i = 0 ∨ i = 1 ∨ i = 2 ∨ i = 3 ∨ i = 4 := by omega
    rcases this with rfl | rfl | rfl | rfl | rfl
    · rw [e5, fa_u_n _ _ (by omega), e4, fa_u_n _ _ (by omega), e3, fa_u_n _ _ (by omega), e2, fa_u_n _ _ (by omega), e1, show 5 * p + 0 = p * 5 by omega, fa_u_s]; rfl
    · rw [e5, fa_u_n _ _ (by omega), e4, fa_u_n _ _ (by omega), e3, fa_u_n _ _ (by omega), e2, show 5 * p + 1 = p * 5 + 1 by omega, fa_u_s]; rfl
    · rw [e5, fa_u_n _ _ (by omega), e4, fa_u_n _ _ (by omega), e3, show 5 * p + 2 = p * 5 + 2 by omega, fa_u_s]; rfl
    · rw [e5, fa_u_n _ _ (by omega), e4, show 5 * p + 3 = p * 5 + 3 by omega, fa_u_s]; rfl
    · rw [e5, show 5 * p + 4 = p * 5 + 4 by omega, fa_u_s]; rfl
  · rw [if_neg z]
    have hp' : p < n5 + 1 := hp
    rw [e5, fa_u_n _ _ (by omega), e4, fa_u_n _ _ (by omega), e3, fa_u_n _ _ (by omega), e2, fa_u_n _ _ (by omega), e1, fa_u_n _ _ (by omega)]
    exact t3 p i (by omega) hi
theorem fb_c_lv2 {v v0 v00 v1 v2 v3 v4 v5 v6 : fa_V} {b m q n5 : Nat} {T : Nat → Nat → Int32} {a1 : Int32} (hq : ¬ q = b + 6) (hq5 : ¬ q = b + 5) (hT : fb_cT v b m T) (hn : n5 = m) (h12 : 12 ≤ n5) (e0 : v0 = fa_u v (b + 5) 0 (nI 11)) (e00 : v00 = fun k i => if k = b + 6 then va_cpy (v0 (b + 6)) (v0 (b + 6)) 5 0 (11 * 5) i else v0 k i) (e1 : v1 = fa_u v00 (b + 6) (11 * 5) (v00 q 0)) (e2 : v2 = fa_u v1 (b + 6) (11 * 5 + 1) (v1 q 1)) (e3 : v3 = fa_u v2 (b + 6) (11 * 5 + 2) (v2 q 2)) (e4 : v4 = fa_u v3 (b + 6) (11 * 5 + 3) a1) (e5 : v5 = fa_u v4 (b + 6) (11 * 5 + 4) (v4 q 5)) (e6 : v6 = fa_u v5 (b + 5) 0 (nI (11 + 1))) :
    fb_cT v6 b (fb_lv a1 (v q) (m, T)).1 (fb_lv a1 (v q) (m, T)).2 := by
  subst hn
  obtain ⟨t1, t2, t3⟩ := hT
  have e12 : n5 = 12 := by omega
  subst e12
  have eL : fb_lv a1 (v q) (12, T) = (12, fun p i => if p = 11 then (if i = 3 then a1 else if i = 4 then v q 5 else v q i) else T (p + 1) i) := by
    unfold fb_lv
    rw [if_pos rfl]
  rw [eL]
  have r0 : v00 q = v q := by
    rw [e00]
    funext i
    show (if q = b + 6 then _ else v0 q i) = v q i
    rw [if_neg hq, e0, fa_u_k _ _ hq5]
  have r1 : v1 q = v q := by rw [e1, fa_u_k _ _ hq, r0]
  have r2 : v2 q = v q := by rw [e2, fa_u_k _ _ hq, r1]
  have r4 : v4 q = v q := by rw [e4, fa_u_k _ _ hq, e3, fa_u_k _ _ hq, r2]
  rw [r0] at e1
  rw [r1] at e2
  rw [r2] at e3
  rw [r4] at e5
  have w : v6 (b + 6) = v5 (b + 6) := by rw [e6, fa_u_k _ _ (by omega)]
  refine ⟨Nat.le_refl 12, by rw [e6, fa_u_s], fun p i hp hi => ?_⟩
  show v6 (b + 6) (5 * p + i) = if p = 11 then (if i = 3 then a1 else if i = 4 then v q 5 else v q i) else T (p + 1) i
  rw [w]
  by_cases z : p = 11
  · subst z
    rw [if_pos rfl]
    have : i = 0 ∨ i = 1 ∨ i = 2 ∨ i = 3 ∨ i = 4 := by omega
    rcases this with rfl | rfl | rfl | rfl | rfl
    · rw [e5, fa_u_n _ _ (by omega), e4, fa_u_n _ _ (by omega), e3, fa_u_n _ _ (by omega), e2, fa_u_n _ _ (by omega), e1, show 5 * 11 + 0 = 11 * 5 by omega, fa_u_s]; rfl
    · rw [e5, fa_u_n _ _ (by omega), e4, fa_u_n _ _ (by omega), e3, fa_u_n _ _ (by omega), e2, show 5 * 11 + 1 = 11 * 5 + 1 by omega, fa_u_s]; rfl
    · rw [e5, fa_u_n _ _ (by omega), e4, fa_u_n _ _ (by omega), e3, show 5 * 11 + 2 = 11 * 5 + 2 by omega, fa_u_s]; rfl
    · rw [e5, fa_u_n _ _ (by omega), e4, show 5 * 11 + 3 = 11 * 5 + 3 by omega, fa_u_s]; rfl
    · rw [e5, show 5 * 11 + 4 = 11 * 5 + 4 by omega, fa_u_s]; rfl
  · rw [if_neg z]
    have hp' : p < 12 := hp
    rw [e5, fa_u_n _ _ (by omega), e4, fa_u_n _ _ (by omega), e3, fa_u_n _ _ (by omega), e2, fa_u_n _ _ (by omega), e1, fa_u_n _ _ (by omega), e00]
    show (if b + 6 = b + 6 then va_cpy (v0 (b + 6)) (v0 (b + 6)) 5 0 (11 * 5) (5 * p + i) else v0 (b + 6) (5 * p + i)) = T (p + 1) i
    rw [if_pos rfl, pk_cpy_in (by omega) (by omega), e0, fa_u_k _ _ (by omega), show 5 + (5 * p + i - 0) = 5 * (p + 1) + i by omega]
    exact t3 (p + 1) i (by omega) hi
/-! a burning -/
theorem fb_kp_le {P : Nat → Bool} {F : Nat → Nat → Int32} : ∀ k, (fb_kp P F k).1 ≤ k
  | 0 => Nat.le_refl _
  | k + 1 => by
    have := fb_kp_le (P := P) (F := F) k
    rw [fb_kp]
    split
    · show (fb_kp P F k).1 + 1 ≤ k + 1
      omega
    · omega
theorem fb_kp_t {P : Nat → Bool} {F : Nat → Nat → Int32} {k : Nat} (h : P k = true) : fb_kp P F (k + 1) = ((fb_kp P F k).1 + 1, fun p i => if p = (fb_kp P F k).1 then F k i else (fb_kp P F k).2 p i) := by rw [fb_kp, if_pos h]
theorem fb_kp_f {P : Nat → Bool} {F : Nat → Nat → Int32} {k : Nat} (h : ¬ P k = true) : fb_kp P F (k + 1) = fb_kp P F k := by rw [fb_kp, if_neg h]
theorem fb_bt_t {P : Nat → Bool} {F : Nat → Nat → Int32} {now : Int32} {t : Nat × (Nat → Nat → Int32)} {k : Nat} (h : P k = true) : fb_bt P F now t (k + 1) = fb_bt P F now t k := by rw [fb_bt, if_pos h]
theorem fb_bt_f {P : Nat → Bool} {F : Nat → Nat → Int32} {now : Int32} {t : Nat × (Nat → Nat → Int32)} {k : Nat} (h : ¬ P k = true) : fb_bt P F now t (k + 1) = ((fb_bt P F now t k).1 + nI 1, (fb_bt P F now t k).2.1 + F k 2, fb_lv now (F k) (fb_bt P F now t k).2.2) := by rw [fb_bt, if_neg h]
theorem fb_bt_n {P : Nat → Bool} {F : Nat → Nat → Int32} {now : Int32} {t : Nat × (Nat → Nat → Int32)} : ∀ k, (fb_bt P F now t k).1 = nI (k - (fb_kp P F k).1)
  | 0 => rfl
  | k + 1 => by
    have := fb_kp_le (P := P) (F := F) k
    by_cases h : P k = true
    · rw [fb_bt_t h, fb_kp_t h, fb_bt_n k]
      exact congrArg nI (show k - (fb_kp P F k).1 = k + 1 - ((fb_kp P F k).1 + 1) by omega)
    · rw [fb_bt_f h, fb_kp_f h]
      show (fb_bt P F now t k).1 + nI 1 = _
      rw [fb_bt_n k, nI_add]
      exact congrArg nI (by omega)
theorem fb_why0 {A : fb_At} {p : Nat} (hp : p < A.n) : fb_why A p = 0 ↔ ¬ fb_stb A p = true := by
  unfold fb_why
  by_cases o : fb_ownA A p = 0
  · rw [if_pos o]
    by_cases s : fb_stb A p = true
    · rw [if_pos s]
      exact ⟨fun z => absurd z (by decide), fun z => absurd s z⟩
    · rw [if_neg s]
      exact ⟨fun _ => s, fun _ => rfl⟩
  · rw [if_neg o]
    exact ⟨fun z => absurd z o, fun z => absurd (fb_stb_t.mpr (fb_stay.own hp o)) z⟩
def fb_buI (A : fb_At) (v w : fa_V) (r rr : fa_R) (b j kp : Nat) : Prop :=
  kp = (fb_kp (fb_stb A) A.F j).1 ∧ fb_inj rr b ∧ (∀ p, p < kp → ∃ s, s < j ∧ fa_pf rr b p = fa_pf r b s ∧ (fb_kp (fb_stb A) A.F j).2 p = A.F s) ∧ (∀ p, j ≤ p → p < 24 → fa_pf rr b p = fa_pf r b p) ∧
  (∀ k, b + 7 ≤ k → k < b + 56 → w k = v k) ∧ (∀ k, b + 1 ≤ k → k < b + 5 → w k = v k) ∧ (w b 0 = v b 0 ∧ w b 1 = v b 1 ∧ w b 2 = v b 2 ∧ w b 5 = v b 5 ∧ w b 6 = v b 6 ∧ w b 7 = v b 7 + nI 1) ∧
  w b 3 = v b 3 + (fb_bt (fb_stb A) A.F (A.g 7) (A.m, A.T) j).1 ∧ w b 4 = v b 4 + (fb_bt (fb_stb A) A.F (A.g 7) (A.m, A.T) j).2.1 ∧ fb_cT w b (fb_bt (fb_stb A) A.F (A.g 7) (A.m, A.T) j).2.2.1 (fb_bt (fb_stb A) A.F (A.g 7) (A.m, A.T) j).2.2.2
theorem fb_buI.start {A : fb_At} {v w : fa_V} {r : fa_R} {b : Nat} (hc : fb_cA v r b A) (e : w = fa_u v b 7 (v b 7 + nI 1)) : fb_buI A v w r r b 0 0 := by
  have o : ∀ i, ¬ i = 7 → w b i = v b i := fun i hi => by rw [e, fa_u_n _ _ (by omega)]
  have k : ∀ j, ¬ j = b → w j = v j := fun j hj => by rw [e, fa_u_k _ _ hj]
  refine ⟨rfl, hc.2.1, fun p hp => absurd hp (Nat.not_lt_zero _), fun _ _ _ => rfl, fun j h1 h2 => k j (by omega), fun j h1 h2 => k j (by omega), ⟨o 0 (by decide), o 1 (by decide), o 2 (by decide), o 5 (by decide), o 6 (by decide), by rw [e, fa_u_s]⟩, ?_, ?_, hc.2.2.2.2.2.congr (by rw [k _ (by omega)]) (k _ (by omega))⟩
  · rw [o 3 (by decide)]; exact (Int32.add_zero _).symm
  · rw [o 4 (by decide)]; exact (Int32.add_zero _).symm
theorem fb_swap {r r1 r2 : fa_R} {b j k : Nat} (e1 : r1 = fa_u r (b + 1) j (some (fa_pf r b k))) (e2 : r2 = fa_u r1 (b + 1) k (some (fa_pf r b j))) (p : Nat) : fa_pf r2 b p = if p = k then fa_pf r b j else if p = j then fa_pf r b k else fa_pf r b p := by
  unfold fa_pf at *
  by_cases z : p = k
  · rw [if_pos z, e2, z, fa_u_s]; rfl
  · rw [if_neg z, e2, fa_u_n _ _ (by omega), e1]
    by_cases y : p = j
    · rw [if_pos y, y, fa_u_s]; rfl
    · rw [if_neg y, fa_u_n _ _ (by omega)]
theorem fb_inj.swap {r r2 : fa_R} {b j k : Nat} (h : fb_inj r b) (hj : j < 24) (hk : k < 24) (e : ∀ p, fa_pf r2 b p = if p = k then fa_pf r b j else if p = j then fa_pf r b k else fa_pf r b p) : fb_inj r2 b := by
  have key : ∀ p, p < 24 → ∃ q, q < 24 ∧ fa_pf r2 b p = fa_pf r b q ∧ q = (if p = k then j else if p = j then k else p) := fun p hp => by
    rw [e p]
    by_cases z : p = k
    · exact ⟨j, hj, by rw [if_pos z], by rw [if_pos z]⟩
    · by_cases y : p = j
      · exact ⟨k, hk, by rw [if_neg z, if_pos y], by rw [if_neg z, if_pos y]⟩
      · exact ⟨p, hp, by rw [if_neg z, if_neg y], by rw [if_neg z, if_neg y]⟩
  intro p q hp hq he
  obtain ⟨p1, a1, a2, a3⟩ := key p hp
  obtain ⟨q1, b1, b2, b3⟩ := key q hq
  rw [a2, b2] at he
  have z := h p1 q1 a1 b1 he
  split at a3 <;> split at b3 <;> first | omega | (split at a3 <;> first | omega | (split at b3 <;> omega)) | (split at b3 <;> omega)
theorem fb_buI.keep {A : fb_At} {v w : fa_V} {r rr r1 r2 : fa_R} {b j kp : Nat} (hc : fb_cA v r b A) (h : fb_buI A v w r rr b j kp) (hj : j < A.n) (hw : ∀ p, p < A.n → v (fa_pf r b p) 8 = fb_why A p) (c : ¬ w (fa_pf rr b j) 8 = 0) (e1 : r1 = fa_u rr (b + 1) j (some (fa_pf rr b kp))) (e2 : r2 = fa_u r1 (b + 1) kp (some (fa_pf rr b j))) : fb_buI A v w r r2 b (j + 1) (kp + 1) := by
  obtain ⟨h1, h2, h3, h4, h5, h6⟩ := h
  have hn := hc.2.2.2.1.1
  have hj24 : j < 24 := by omega
  have hkj : kp ≤ j := by rw [h1]; exact fb_kp_le j
  have ej := h4 j (Nat.le_refl j) hj24
  have er := fb_swap e1 e2
  have st : fb_stb A j = true := by
    obtain ⟨jj, hjj, e⟩ := fb_pf_at2 hc.1 hj24
    rw [ej, h5 _ (by omega) (by omega), hw j hj] at c
    exact Decidable.byContradiction (fun z => c ((fb_why0 hj).mpr z))
  refine ⟨by rw [fb_kp_t st, h1], h2.swap hj24 (by omega) er, fun p hp => ?_, fun p hp hp2 => ?_, h5, by rw [fb_bt_t st]; exact h6⟩
  · rw [er p, fb_kp_t st]
    by_cases z : p = kp
    · refine ⟨j, by omega, by rw [if_pos z]; exact ej, ?_⟩
      funext i
      show (if p = (fb_kp (fb_stb A) A.F j).1 then A.F j i else (fb_kp (fb_stb A) A.F j).2 p i) = A.F j i
      rw [if_pos (by rw [z]; exact h1)]
    · obtain ⟨s, hs, a, d⟩ := h3 p (by omega)
      refine ⟨s, by omega, by rw [if_neg z, if_neg (by omega)]; exact a, ?_⟩
      funext i
      show (if p = (fb_kp (fb_stb A) A.F j).1 then A.F j i else (fb_kp (fb_stb A) A.F j).2 p i) = A.F s i
      rw [if_neg (by rw [← h1]; exact z), d]
  · rw [er p, if_neg (by omega), if_neg (by omega)]
    exact h4 p (by omega) hp2
theorem fb_lv_congr {a : Int32} {x y : Nat → Int32} {t : Nat × (Nat → Nat → Int32)} (h0 : x 0 = y 0) (h1 : x 1 = y 1) (h2 : x 2 = y 2) (h5 : x 5 = y 5) : (fb_lv a x t).1 = (fb_lv a y t).1 ∧ ∀ p i, i < 5 → (fb_lv a x t).2 p i = (fb_lv a y t).2 p i := by
  have key : ∀ i, i < 5 → (if i = 3 then a else if i = 4 then x 5 else x i) = (if i = 3 then a else if i = 4 then y 5 else y i) := fun i hi => by
    have : i = 0 ∨ i = 1 ∨ i = 2 ∨ i = 3 ∨ i = 4 := by omega
    rcases this with rfl | rfl | rfl | rfl | rfl
    · exact h0
    · exact h1
    · exact h2
    · rfl
    · exact h5
  unfold fb_lv
  by_cases z : t.1 = 12
  · rw [if_pos z, if_pos z]
    refine ⟨rfl, fun p i hi => ?_⟩
    show (if p = 11 then _ else _) = (if p = 11 then _ else _)
    by_cases y2 : p = 11
    · rw [if_pos y2, if_pos y2]; exact key i hi
    · rw [if_neg y2, if_neg y2]
  · rw [if_neg z, if_neg z]
    refine ⟨rfl, fun p i hi => ?_⟩
    show (if p = t.1 then _ else _) = (if p = t.1 then _ else _)
    by_cases y2 : p = t.1
    · rw [if_pos y2, if_pos y2]; exact key i hi
    · rw [if_neg y2, if_neg y2]
theorem fb_buI.burn {A : fb_At} {v w w1 w2 w3 : fa_V} {r rr : fa_R} {b j kp : Nat} (hc : fb_cA v r b A) (h : fb_buI A v w r rr b j kp) (hj : j < A.n) (hw : ∀ p, p < A.n → v (fa_pf r b p) 8 = fb_why A p) (c : w (fa_pf rr b j) 8 = 0) (e1 : w1 = fa_u w b 3 (w b 3 + nI 1)) (e2 : w2 = fa_u w1 b 4 (w1 b 4 + w1 (fa_pf rr b j) 2)) (hf : fa_fr (b + 5) (b + 7) w2 w3) (hl : ∀ m T, fb_cT w2 b m T → fb_cT w3 b (fb_lv (w2 b 0) (w2 (fa_pf rr b j)) (m, T)).1 (fb_lv (w2 b 0) (w2 (fa_pf rr b j)) (m, T)).2) : fb_buI A v w3 r rr b (j + 1) kp := by
  obtain ⟨h1, h2, h3, h4, h5, h6, ⟨g0, g1, g2, g5, g6, g7⟩, h8, h9, h10⟩ := h
  have hn := hc.2.2.2.1.1
  have hj24 : j < 24 := by omega
  have ej := h4 j (Nat.le_refl j) hj24
  obtain ⟨jj, hjj, e⟩ := fb_pf_at2 hc.1 hj24
  have st : ¬ fb_stb A j = true := by
    rw [ej, h5 _ (by omega) (by omega), hw j hj] at c
    exact (fb_why0 hj).mp c
  have k2 : ∀ i, ¬ i = b → w2 i = w i := fun i hi => by rw [e2, fa_u_k _ _ hi, e1, fa_u_k _ _ hi]
  have row : w2 (fa_pf rr b j) = v (fa_pf r b j) := by rw [ej, k2 _ (by omega), h5 _ (by omega) (by omega)]
  have b3 : ∀ i, w3 b i = w2 b i := fun i => by rw [hf b (by omega)]
  have o : ∀ i, ¬ i = 3 → ¬ i = 4 → w3 b i = w b i := fun i h3 h4 => by rw [b3, e2, fa_u_n _ _ (by omega), e1, fa_u_n _ _ (by omega)]
  refine ⟨by rw [fb_kp_f st]; exact h1, h2, fun p hp => ?_, fun p hp hp2 => h4 p (by omega) hp2, fun k a d => by rw [hf k (by omega), k2 k (by omega)]; exact h5 k a d, fun k a d => by rw [hf k (by omega), k2 k (by omega)]; exact h6 k a d, ⟨by rw [o 0 (by decide) (by decide)]; exact g0, by rw [o 1 (by decide) (by decide)]; exact g1, by rw [o 2 (by decide) (by decide)]; exact g2, by rw [o 5 (by decide) (by decide)]; exact g5, by rw [o 6 (by decide) (by decide)]; exact g6, by rw [o 7 (by decide) (by decide)]; exact g7⟩, ?_, ?_, ?_⟩
  · obtain ⟨s, hs, a, d⟩ := h3 p hp
    exact ⟨s, by omega, a, by rw [fb_kp_f st]; exact d⟩
  · rw [fb_bt_f st, b3, e2, fa_u_n _ _ (by omega), e1, fa_u_s, h8, Int32.add_assoc]
  · have p2 : w1 (fa_pf rr b j) 2 = A.F j 2 := by rw [e1, ej, fa_u_k _ _ (by omega), h5 _ (by omega) (by omega)]; exact hc.f hj (by decide) (by decide)
    rw [fb_bt_f st, b3, e2, fa_u_s, p2, e1, fa_u_n _ _ (by omega), h9, Int32.add_assoc]
  · have z := hl _ _ (h10.congr (v1 := w2) (by rw [k2 _ (by omega)]) (k2 _ (by omega)))
    have now : w2 b 0 = A.g 7 := by rw [← b3, o 0 (by decide) (by decide), g0]; exact hc.now
    rw [now, row] at z
    rw [fb_bt_f st]
    have cg := fb_lv_congr (a := A.g 7) (x := v (fa_pf r b j)) (y := A.F j) (t := (fb_bt (fb_stb A) A.F (A.g 7) (A.m, A.T) j).2.2) (hc.f hj (by decide) (by decide)) (hc.f hj (by decide) (by decide)) (hc.f hj (by decide) (by decide)) (hc.f hj (by decide) (by decide))
    obtain ⟨z1, z2, z3⟩ := z
    refine ⟨?_, ?_, fun p i hp hi => ?_⟩
    · show (fb_lv (A.g 7) (A.F j) (fb_bt (fb_stb A) A.F (A.g 7) (A.m, A.T) j).2.2).1 ≤ 12
      rw [← cg.1]; exact z1
    · show w3 (b + 5) 0 = nI (fb_lv (A.g 7) (A.F j) (fb_bt (fb_stb A) A.F (A.g 7) (A.m, A.T) j).2.2).1
      rw [← cg.1]; exact z2
    · show w3 (b + 6) (5 * p + i) = (fb_lv (A.g 7) (A.F j) (fb_bt (fb_stb A) A.F (A.g 7) (A.m, A.T) j).2.2).2 p i
      have hp' : p < (fb_lv (A.g 7) (A.F j) (fb_bt (fb_stb A) A.F (A.g 7) (A.m, A.T) j).2.2).1 := hp
      rw [← cg.1] at hp'
      rw [← cg.2 p i hi]
      exact z3 p i hp' hi
theorem fb_buI.e {A : fb_At} {v w w1 : fa_V} {r rr : fa_R} {b kp : Nat} (hc : fb_cA v r b A) (h : fb_buI A v w r rr b A.n kp) (hrr : fa_RS rr b) (e : w1 = fa_u w b 1 (nI kp)) : fb_cA w1 rr b (fb_burnA A).2 ∧ nI A.n - nI kp = (fb_burnA A).1 := by
  obtain ⟨h1, h2, h3, h4, h5, h6, ⟨g0, g1, g2, g5, g6, g7⟩, h8, h9, h10⟩ := h
  have hn := hc.2.2.2.1.1
  have hk := fb_kp_le (P := fb_stb A) (F := A.F) A.n
  have o : ∀ i, ¬ i = 1 → w1 b i = w b i := fun i hi => by rw [e, fa_u_n _ _ (by omega)]
  have k : ∀ j, ¬ j = b → w1 j = w j := fun j hj => by rw [e, fa_u_k _ _ hj]
  obtain ⟨L, hL, hP, hS⟩ := hc.2.2.2.2.1
  have gg : (fb_burnA A).2.g = fb_s1 (fb_s1 (fb_s1 A.g 9 (A.g 9 + (fb_bt (fb_stb A) A.F (A.g 7) (A.m, A.T) A.n).1)) 10 (A.g 10 + (fb_bt (fb_stb A) A.F (A.g 7) (A.m, A.T) A.n).2.1)) 13 (A.g 13 + nI 1) := rfl
  constructor
  · refine ⟨hrr, h2, ⟨fun i hi => ?_, ?_, fun i i8 i14 => ?_⟩, ⟨by show (fb_kp (fb_stb A) A.F A.n).1 ≤ 24; omega, by rw [e, fa_u_s, h1]; rfl, fun p i hp hi => ?_⟩, ⟨L, hL.congr (by rw [k _ (by omega), h6 _ (by omega) (by omega)]) (by rw [k _ (by omega), h6 _ (by omega) (by omega)]) (by rw [k _ (by omega), h6 _ (by omega) (by omega)]), hP, hS⟩, h10.congr (by rw [k _ (by omega)]) (k _ (by omega))⟩
    · rw [gg, fb_s1_n (by omega), fb_s1_n (by omega), fb_s1_n (by omega), k _ (by omega), h5 _ (by omega) (by omega)]
      exact hc.set hi
    · rw [gg, fb_s1_n (by omega), fb_s1_n (by omega), fb_s1_n (by omega), o 0 (by decide), g0]
      exact hc.now
    · rw [gg]
      have : i = 8 ∨ i = 9 ∨ i = 10 ∨ i = 11 ∨ i = 12 ∨ i = 13 := by omega
      rcases this with rfl | rfl | rfl | rfl | rfl | rfl
      · rw [fb_s1_n (by omega), fb_s1_n (by omega), fb_s1_n (by omega), ← hc.gk 8 (by decide) (by decide), o _ (by decide)]; exact g2
      · rw [fb_s1_n (by omega), fb_s1_n (by omega), fb_s1_s, ← hc.gk 9 (by decide) (by decide), o _ (by decide)]; exact h8
      · rw [fb_s1_n (by omega), fb_s1_s, ← hc.gk 10 (by decide) (by decide), o _ (by decide)]; exact h9
      · rw [fb_s1_n (by omega), fb_s1_n (by omega), fb_s1_n (by omega), ← hc.gk 11 (by decide) (by decide), o _ (by decide)]; exact g5
      · rw [fb_s1_n (by omega), fb_s1_n (by omega), fb_s1_n (by omega), ← hc.gk 12 (by decide) (by decide), o _ (by decide)]; exact g6
      · rw [fb_s1_s, ← hc.gk 13 (by decide) (by decide), o _ (by decide)]; exact g7
    · have hp' : p < kp := by rw [h1]; exact hp
      obtain ⟨s, hs, a, d⟩ := h3 p hp'
      show fb_cw w1 rr b p i = (fb_kp (fb_stb A) A.F A.n).2 p i
      rw [d, ← hc.2.2.2.1.2.2 s i hs hi]
      obtain ⟨jj, hjj, ee⟩ := fb_pf_at2 hc.1 (p := s) (by omega)
      unfold fb_cw
      rw [a, k _ (by omega), k _ (by omega), h5 _ (by omega) (by omega), h5 _ (by omega) (by omega)]
  · show _ = (fb_bt (fb_stb A) A.F (A.g 7) (A.m, A.T) A.n).1
    rw [fb_bt_n, h1, pk_sub hk]
