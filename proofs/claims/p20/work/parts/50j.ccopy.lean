/-! COPYING A STATE -/
theorem fb_cpF {v v1 v2 v3 v4 v5 v6 v7 v8 : fa_V} {q y : Nat} {x1 : Int32} (h1 : ¬ y = q) (h2 : ¬ y = q + 1) (h3 : ¬ y + 1 = q) (hx : v y 1 = x1) (e1 : v1 = fa_u v q 0 (v y 0)) (e2 : v2 = fa_u v1 q 1 x1) (e3 : v3 = fa_u v2 q 2 (v2 y 2)) (e4 : v4 = fa_u v3 q 3 (v3 y 3)) (e5 : v5 = fa_u v4 q 4 (v4 y 4)) (e6 : v6 = fa_u v5 q 5 (v5 y 5)) (e7 : v7 = fa_u v6 q 6 (v6 y 6)) (e8 : v8 = fun k i => if k = q + 1 then va_cpy (v7 (y + 1)) (v7 (q + 1)) 0 0 8 i else v7 k i) : (∀ i, i < 7 → v8 q i = v y i) ∧ (∀ h, h < 8 → v8 (q + 1) h = v (y + 1) h) ∧ ∀ j, ¬ j = q → ¬ j = q + 1 → v8 j = v j := by
  have o : ∀ k, ¬ k = q → v7 k = v k := fun k hk => by rw [e7, fa_u_k _ _ hk, e6, fa_u_k _ _ hk, e5, fa_u_k _ _ hk, e4, fa_u_k _ _ hk, e3, fa_u_k _ _ hk, e2, fa_u_k _ _ hk, e1, fa_u_k _ _ hk]
  have r2 : v2 y = v y := by rw [e2, fa_u_k _ _ h1, e1, fa_u_k _ _ h1]
  have r3 : v3 y = v y := by rw [e3, fa_u_k _ _ h1, r2]
  have r4 : v4 y = v y := by rw [e4, fa_u_k _ _ h1, r3]
  have r5 : v5 y = v y := by rw [e5, fa_u_k _ _ h1, r4]
  have r6 : v6 y = v y := by rw [e6, fa_u_k _ _ h1, r5]
  rw [r2] at e3
  rw [r3] at e4
  rw [r4] at e5
  rw [r5] at e6
  rw [r6] at e7
  have o8 : ∀ k, ¬ k = q + 1 → v8 k = v7 k := fun k hk => by
    rw [e8]
    funext i
    exact if_neg hk
  refine ⟨fun i hi => ?_, fun h hh => ?_, fun j a c => by rw [o8 j c, o j a]⟩
  · rw [o8 q (by omega)]
    have : i = 0 ∨ i = 1 ∨ i = 2 ∨ i = 3 ∨ i = 4 ∨ i = 5 ∨ i = 6 := by omega
    rcases this with rfl | rfl | rfl | rfl | rfl | rfl | rfl
    · rw [e7, fa_u_n _ _ (by omega), e6, fa_u_n _ _ (by omega), e5, fa_u_n _ _ (by omega), e4, fa_u_n _ _ (by omega), e3, fa_u_n _ _ (by omega), e2, fa_u_n _ _ (by omega), e1, fa_u_s]
    · rw [e7, fa_u_n _ _ (by omega), e6, fa_u_n _ _ (by omega), e5, fa_u_n _ _ (by omega), e4, fa_u_n _ _ (by omega), e3, fa_u_n _ _ (by omega), e2, fa_u_s, hx]
    · rw [e7, fa_u_n _ _ (by omega), e6, fa_u_n _ _ (by omega), e5, fa_u_n _ _ (by omega), e4, fa_u_n _ _ (by omega), e3, fa_u_s]
    · rw [e7, fa_u_n _ _ (by omega), e6, fa_u_n _ _ (by omega), e5, fa_u_n _ _ (by omega), e4, fa_u_s]
    · rw [e7, fa_u_n _ _ (by omega), e6, fa_u_n _ _ (by omega), e5, fa_u_s]
    · rw [e7, fa_u_n _ _ (by omega), e6, fa_u_s]
    · rw [e7, fa_u_s]
  · rw [e8]
    show (if q + 1 = q + 1 then va_cpy (v7 (y + 1)) (v7 (q + 1)) 0 0 8 h else v7 (q + 1) h) = v (y + 1) h
    rw [if_pos rfl, pk_cpy_in (by omega) (by omega), o _ h3]
    exact congrArg (v (y + 1)) (by omega)
theorem fb_cpR {v v1 v2 v3 : fa_V} {b b2 : Nat} {x : Int32} (hd : b2 + 56 ≤ b ∨ b + 56 ≤ b2) (hx : v (b2 + 2) 0 = x) (e1 : v1 = fa_u v (b + 2) 0 x) (e2 : v2 = fun k i => if k = b + 3 then va_cpy (v1 (b2 + 3)) (v1 (b + 3)) 0 0 8 i else v1 k i) (e3 : v3 = fun k i => if k = b + 4 then va_cpy (v2 (b2 + 4)) (v2 (b + 4)) 0 0 8 i else v2 k i) : v3 (b + 2) 0 = v (b2 + 2) 0 ∧ ∀ k, k < 8 → v3 (b + 3) k = v (b2 + 3) k ∧ v3 (b + 4) k = v (b2 + 4) k := by
  have o1 : ∀ k, ¬ k = b + 2 → v1 k = v k := fun k hk => by rw [e1, fa_u_k _ _ hk]
  have o2 : ∀ k, ¬ k = b + 3 → v2 k = v1 k := fun k hk => by rw [e2]; funext i; exact if_neg hk
  have o3 : ∀ k, ¬ k = b + 4 → v3 k = v2 k := fun k hk => by rw [e3]; funext i; exact if_neg hk
  refine ⟨by rw [o3 _ (by omega), o2 _ (by omega), e1, fa_u_s, hx], fun k hk => ⟨?_, ?_⟩⟩
  · rw [o3 _ (by omega), e2]
    show (if b + 3 = b + 3 then va_cpy (v1 (b2 + 3)) (v1 (b + 3)) 0 0 8 k else v1 (b + 3) k) = _
    rw [if_pos rfl, pk_cpy_in (by omega) (by omega), o1 _ (by omega)]
    exact congrArg (v (b2 + 3)) (by omega)
  · rw [e3]
    show (if b + 4 = b + 4 then va_cpy (v2 (b2 + 4)) (v2 (b + 4)) 0 0 8 k else v2 (b + 4) k) = _
    rw [if_pos rfl, pk_cpy_in (by omega) (by omega), o2 _ (by omega), o1 _ (by omega)]
    exact congrArg (v (b2 + 4)) (by omega)
theorem fb_cpT {v v1 v2 : fa_V} {b b2 : Nat} {x : Int32} (hd : b2 + 56 ≤ b ∨ b + 56 ≤ b2) (hx : v (b2 + 5) 0 = x) (e1 : v1 = fa_u v (b + 5) 0 x) (e2 : v2 = fun k i => if k = b + 6 then va_cpy (v1 (b2 + 6)) (v1 (b + 6)) 0 0 60 i else v1 k i) : v2 (b + 5) 0 = v (b2 + 5) 0 ∧ ∀ k, k < 60 → v2 (b + 6) k = v (b2 + 6) k := by
  have o1 : ∀ k, ¬ k = b + 5 → v1 k = v k := fun k hk => by rw [e1, fa_u_k _ _ hk]
  have o2 : ∀ k, ¬ k = b + 6 → v2 k = v1 k := fun k hk => by rw [e2]; funext i; exact if_neg hk
  refine ⟨by rw [o2 _ (by omega), e1, fa_u_s, hx], fun k hk => ?_⟩
  rw [e2]
  show (if b + 6 = b + 6 then va_cpy (v1 (b2 + 6)) (v1 (b + 6)) 0 0 60 k else v1 (b + 6) k) = _
  rw [if_pos rfl, pk_cpy_in (by omega) (by omega), o1 _ (by omega)]
  exact congrArg (v (b2 + 6)) (by omega)
theorem fb_cp8 {v v1 v2 v3 v4 v5 v6 v7 v8 : fa_V} {b b2 : Nat} {x1 : Int32} (hne : ¬ b2 = b) (hx : v b2 1 = x1) (e1 : v1 = fa_u v b 0 (v b2 0)) (e2 : v2 = fa_u v1 b 1 x1) (e3 : v3 = fa_u v2 b 2 (v2 b2 2)) (e4 : v4 = fa_u v3 b 3 (v3 b2 3)) (e5 : v5 = fa_u v4 b 4 (v4 b2 4)) (e6 : v6 = fa_u v5 b 5 (v5 b2 5)) (e7 : v7 = fa_u v6 b 6 (v6 b2 6)) (e8 : v8 = fa_u v7 b 7 (v7 b2 7)) : ∀ i, i < 8 → v8 b i = v b2 i := by
  have r2 : v2 b2 = v b2 := by rw [e2, fa_u_k _ _ hne, e1, fa_u_k _ _ hne]
  have r3 : v3 b2 = v b2 := by rw [e3, fa_u_k _ _ hne, r2]
  have r4 : v4 b2 = v b2 := by rw [e4, fa_u_k _ _ hne, r3]
  have r5 : v5 b2 = v b2 := by rw [e5, fa_u_k _ _ hne, r4]
  have r6 : v6 b2 = v b2 := by rw [e6, fa_u_k _ _ hne, r5]
  have r7 : v7 b2 = v b2 := by rw [e7, fa_u_k _ _ hne, r6]
  rw [r2] at e3
  rw [r3] at e4
  rw [r4] at e5
  rw [r5] at e6
  rw [r6] at e7
  rw [r7] at e8
  intro i hi
  have : i = 0 ∨ i = 1 ∨ i = 2 ∨ i = 3 ∨ i = 4 ∨ i = 5 ∨ i = 6 ∨ i = 7 := by omega
  rcases this with rfl | rfl | rfl | rfl | rfl | rfl | rfl | rfl
  · rw [e8, fa_u_n _ _ (by omega), e7, fa_u_n _ _ (by omega), e6, fa_u_n _ _ (by omega), e5, fa_u_n _ _ (by omega), e4, fa_u_n _ _ (by omega), e3, fa_u_n _ _ (by omega), e2, fa_u_n _ _ (by omega), e1, fa_u_s]
  · rw [e8, fa_u_n _ _ (by omega), e7, fa_u_n _ _ (by omega), e6, fa_u_n _ _ (by omega), e5, fa_u_n _ _ (by omega), e4, fa_u_n _ _ (by omega), e3, fa_u_n _ _ (by omega), e2, fa_u_s, hx]
  · rw [e8, fa_u_n _ _ (by omega), e7, fa_u_n _ _ (by omega), e6, fa_u_n _ _ (by omega), e5, fa_u_n _ _ (by omega), e4, fa_u_n _ _ (by omega), e3, fa_u_s]
  · rw [e8, fa_u_n _ _ (by omega), e7, fa_u_n _ _ (by omega), e6, fa_u_n _ _ (by omega), e5, fa_u_n _ _ (by omega), e4, fa_u_s]
  · rw [e8, fa_u_n _ _ (by omega), e7, fa_u_n _ _ (by omega), e6, fa_u_n _ _ (by omega), e5, fa_u_s]
  · rw [e8, fa_u_n _ _ (by omega), e7, fa_u_n _ _ (by omega), e6, fa_u_s]
  · rw [e8, fa_u_n _ _ (by omega), e7, fa_u_s]
  · rw [e8, fa_u_s]
/-- the first j files are copied -/
def fb_cpI (v w : fa_V) (r : fa_R) (b b2 j : Nat) : Prop := (∀ i, i < 8 → w b i = v b2 i) ∧ (fb_inj r b → ∀ p, p < j → (∀ i, i < 7 → w (fa_pf r b p) i = v (fa_pf r b2 p) i) ∧ ∀ h, h < 8 → w (fa_pf r b p + 1) h = v (fa_pf r b2 p + 1) h)
theorem fb_cpI.s {v w w1 : fa_V} {r : fa_R} {b b2 j : Nat} (hr : fa_RS r b) (hr2 : fa_RS r b2) (hd : b2 + 56 ≤ b ∨ b + 56 ≤ b2) (hj : j < 24) (hf : fa_fr b (b + 56) v w) (h : fb_cpI v w r b b2 j) (hc : (∀ i, i < 7 → w1 (fa_pf r b j) i = w (fa_pf r b2 j) i) ∧ (∀ h, h < 8 → w1 (fa_pf r b j + 1) h = w (fa_pf r b2 j + 1) h) ∧ ∀ k, ¬ k = fa_pf r b j → ¬ k = fa_pf r b j + 1 → w1 k = w k) : fb_cpI v w1 r b b2 (j + 1) := by
  obtain ⟨x, hx, ex⟩ := fb_pf_at2 hr hj
  obtain ⟨y, hy, ey⟩ := fb_pf_at2 hr2 hj
  refine ⟨fun i hi => by rw [hc.2.2 b (by omega) (by omega)]; exact h.1 i hi, fun hi p hp => ?_⟩
  by_cases z : p = j
  · subst z
    exact ⟨fun i a => by rw [hc.1 i a, hf _ (by omega)], fun k a => by rw [hc.2.1 k a, hf _ (by omega)]⟩
  · have hp24 : p < 24 := by omega
    obtain ⟨x2, hx2, ex2⟩ := fb_pf_at2 hr hp24
    have ne : ¬ fa_pf r b p = fa_pf r b j := fun e => z (hi p j hp24 hj e)
    have q := h.2 hi p (by omega)
    exact ⟨fun i a => by rw [hc.2.2 _ ne (by omega)]; exact q.1 i a, fun k a => by rw [hc.2.2 _ (by omega) (by omega)]; exact q.2 k a⟩
theorem fb_c_copy {v w w1 w2 w3 : fa_V} {r : fa_R} {b b2 j : Nat} {A : fb_At} (hc : fb_cA v r b2 A) (hr : fa_RS r b) (hi : fb_inj r b) (hd : b2 + 56 ≤ b ∨ b + 56 ≤ b2) (hj : j = A.n) (hf : fa_fr b (b + 56) v w) (h : fb_cpI v w r b b2 j) (fR : fa_fr (b + 2) (b + 5) w w1) (hR : w1 (b + 2) 0 = w (b2 + 2) 0 ∧ ∀ k, k < 8 → w1 (b + 3) k = w (b2 + 3) k ∧ w1 (b + 4) k = w (b2 + 4) k) (fT : fa_fr (b + 5) (b + 7) w1 w2) (hT : w2 (b + 5) 0 = w1 (b2 + 5) 0 ∧ ∀ k, k < 60 → w2 (b + 6) k = w1 (b2 + 6) k) (e : w3 = fun k i => if k = b + 7 then va_cpy (w2 (b2 + 7)) (w2 (b + 7)) 0 0 7 i else w2 k i) : fb_cA w3 r b A := by
  subst hj
  have o3 : ∀ k, ¬ k = b + 7 → w3 k = w2 k := fun k hk => by rw [e]; funext i; exact if_neg hk
  have lo : ∀ k, ¬ (b + 2 ≤ k ∧ k < b + 8) → w3 k = w k := fun k hk => by rw [o3 k (by omega), fT k (by omega), fR k (by omega)]
  obtain ⟨h1, h2, h3, h4, ⟨L, h5, h6, h7⟩, h8⟩ := hc
  have l8 := h5.2.1
  refine ⟨hr, hi, ⟨fun k hk => ?_, ?_, fun k k8 k14 => ?_⟩, ⟨h4.1, ?_, fun p i hp hi2 => ?_⟩, ⟨L, ⟨?_, h5.2.1, fun p y ey => ?_⟩, h6, h7⟩, ⟨h8.1, ?_, fun p i hp hi2 => ?_⟩⟩
  · rw [e]
    show (if b + 7 = b + 7 then va_cpy (w2 (b2 + 7)) (w2 (b + 7)) 0 0 7 k else w2 (b + 7) k) = _
    rw [if_pos rfl, pk_cpy_in (by omega) (by omega), fT _ (by omega), fR _ (by omega), hf _ (by omega), show 0 + (k - 0) = k by omega]
    exact h3.1 k hk
  · rw [lo b (by omega), h.1 0 (by decide)]; exact h3.2.1
  · rw [lo b (by omega), h.1 (k - 6) (by omega)]; exact h3.2.2 k k8 k14
  · rw [lo b (by omega), h.1 1 (by decide)]; exact h4.2.1
  · have hp24 : p < 24 := Nat.lt_of_lt_of_le hp h4.1
    obtain ⟨x, hx, ex⟩ := fb_pf_at2 hr hp24
    have q := h.2 hi p hp
    rw [← h4.2.2 p i hp hi2]
    unfold fb_cw
    rw [lo _ (by omega), lo _ (by omega)]
    by_cases z : i = 4 ∨ i = 6
    · rw [if_pos z, if_pos z, q.1 i (by omega)]
    · rw [if_neg z, if_neg z]
      by_cases y : i < 7
      · rw [if_pos y, if_pos y, q.1 i y]
      · rw [if_neg y, if_neg y, q.2 (i - 7) (by omega)]
  · rw [o3 _ (by omega), fT _ (by omega), hR.1, hf _ (by omega)]; exact h5.1
  · obtain ⟨hp, -⟩ := List.getElem?_eq_some_iff.mp ey
    have q := hR.2 p (by omega)
    rw [o3 _ (by omega), o3 _ (by omega), fT _ (by omega), fT _ (by omega), q.1, q.2, hf _ (by omega), hf _ (by omega)]
    exact h5.2.2 p y ey
  · rw [o3 _ (by omega), hT.1, fR _ (by omega), hf _ (by omega)]; exact h8.2.1
  · have hm := h8.1
    rw [o3 _ (by omega), hT.2 _ (by omega), fR _ (by omega), hf _ (by omega)]
    exact h8.2.2 p i hp hi2
