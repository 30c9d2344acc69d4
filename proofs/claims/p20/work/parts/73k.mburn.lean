/-! A FILE IS BURNT in the reference's row -/
def fb_mBU (f f1 : Nat → Int32) (u : Nat) : Prop := (∀ i, i < 14 → ¬ i = 9 → ¬ i = 10 → f1 i = f i) ∧ f1 9 = f 9 + nI 1 ∧ f1 10 = f 10 + f (17 + 15 * u + 2) ∧ (∀ i, 377 ≤ i → i < 393 → f1 i = f i) ∧ (∀ p i, p < 24 → i < 15 → ¬ i = 6 → f1 (17 + 15 * p + i) = f (17 + 15 * p + i)) ∧
  (∀ p, p < 24 → ¬ f (17 + 15 * p + 6) = f (17 + 15 * u) → f1 (17 + 15 * p + 6) = f (17 + 15 * p + 6)) ∧ ∀ m T, fb_mT f m T → fb_mT f1 (fb_lv (f 7) (fun i => f (17 + 15 * u + i)) (m, T)).1 (fb_lv (f 7) (fun i => f (17 + 15 * u + i)) (m, T)).2
theorem fb_mT.congr {f f1 : Nat → Int32} {m : Nat} {T : Nat → Nat → Int32} (h : fb_mT f m T) (e : ∀ i, i = 16 ∨ 393 ≤ i → f1 i = f i) : fb_mT f1 m T :=
  ⟨h.1, by rw [e 16 (Or.inl rfl)]; exact h.2.1, fun p i hp hi => by rw [e _ (Or.inr (by omega))]; exact h.2.2 p i hp hi⟩
theorem fb_mBU.start {f : Nat → Int32} {w v1 v2 : fa_V} {u : Nat} (hu : u < 24) (h : fb_mLV f (w 398) u) (e1 : v1 = fa_u w 398 9 (w 398 9 + nI 1)) (e2 : v2 = fa_u v1 398 10 (v1 398 10 + v1 398 (17 + 15 * u + 2))) : fb_mBU f (v2 398) u := by
  have a1 : ∀ i, ¬ i = 9 → v1 398 i = w 398 i := fun i hi => by rw [e1]; exact fa_u_n _ _ (fun z => hi z.2)
  have a2 : ∀ i, ¬ i = 10 → v2 398 i = v1 398 i := fun i hi => by rw [e2]; exact fa_u_n _ _ (fun z => hi z.2)
  refine ⟨fun i h1 h2 h3 => by rw [a2 i h3, a1 i h2, h.1 i (by omega) (by omega)], ?_, ?_, fun i h1 h2 => by rw [a2 i (by omega), a1 i (by omega), h.1 i h2 (by omega)], fun p i hp hi _ => by rw [a2 _ (by omega), a1 _ (by omega), h.1 _ (by omega) (by omega)],
    fun p hp _ => by rw [a2 _ (by omega), a1 _ (by omega), h.1 _ (by omega) (by omega)], fun m T hT => (h.2 m T hT).congr (fun i hi => by rw [a2 i (by omega), a1 i (by omega)])⟩
  · rw [a2 9 (by decide), e1, fa_u_s, h.1 9 (by decide) (by decide)]
  · rw [e2, fa_u_s, a1 10 (by decide), a1 _ (by omega), h.1 10 (by decide) (by decide), h.1 (17 + 15 * u + 2) (by omega) (by omega)]
theorem fb_mBU.same {f : Nat → Int32} {w w1 : fa_V} {u i : Nat} {y : Int32} (h : fb_mBU f (w 398) u) (e : w1 = fa_u w 398 i y) (hy : y = w 398 i) : fb_mBU f (w1 398) u := by
  have : w1 398 = w 398 := by
    funext j
    rw [e]
    by_cases z : j = i
    · rw [z, fa_u_s, hy]
    · exact fa_u_n _ _ (fun q => z q.2)
  rw [this]
  exact h
theorem fb_mBU.w {f : Nat → Int32} {w w1 : fa_V} {u j : Nat} {y : Int32} (h : fb_mBU f (w 398) u) (hj : j < 24) (e : w1 = fa_u w 398 (17 + 15 * j + 6) y) (c : w 398 (17 + 15 * j + 6) = f (17 + 15 * u)) : fb_mBU f (w1 398) u := by
  obtain ⟨h1, h2, h3, h4, h5, h6, h7⟩ := h
  have a : ∀ i, ¬ i = 17 + 15 * j + 6 → w1 398 i = w 398 i := fun i hi => by rw [e]; exact fa_u_n _ _ (fun z => hi z.2)
  refine ⟨fun i q1 q2 q3 => by rw [a i (by omega)]; exact h1 i q1 q2 q3, by rw [a 9 (by omega)]; exact h2, by rw [a 10 (by omega)]; exact h3, fun i q1 q2 => by rw [a i (by omega)]; exact h4 i q1 q2, fun p i hp hi h => by rw [a _ (by omega)]; exact h5 p i hp hi h,
    fun p hp q => ?_, fun m T hT => (h7 m T hT).congr (fun i hi => a i (by omega))⟩
  by_cases z : p = j
  · have := h6 p hp q
    rw [z, c] at this
    rw [z] at q
    exact absurd this.symm q
  · rw [a _ (by omega)]; exact h6 p hp q
