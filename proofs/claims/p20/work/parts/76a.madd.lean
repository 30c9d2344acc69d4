/-! A FILE COMES, in the reference's row -/
theorem fb_m_zr {v w w1 : fa_V} {q k : Nat} (h : ∀ i, w 398 i = if q ≤ i ∧ i < q + k then nI 0 else v 398 i) (e : w1 = fa_u w 398 (q + k) (nI 0)) : ∀ i, w1 398 i = if q ≤ i ∧ i < q + (k + 1) then nI 0 else v 398 i := fun i => by
  by_cases z : i = q + k
  · rw [if_pos (by omega), z, e, fa_u_s]
  · rw [e, fa_u_n _ _ (fun y => z y.2), h i]
    by_cases y : q ≤ i ∧ i < q + k
    · rw [if_pos y, if_pos (by omega)]
    · rw [if_neg y, if_neg (by omega)]
theorem fb_m_new {v w v1 v2 v3 v4 v5 v6 v7 v8 : fa_V} {A : fb_At} {a1 a2 : Int32} {n4 ka kk : Nat} (hc : fb_mA (v 398) A) (hn : A.n < 24) (e0 : n4 = A.n) (ek : a1 = nI ka) (hkk : kk = 15)
    (hw : ∀ i, w 398 i = if 17 + 15 * n4 ≤ i ∧ i < 17 + 15 * n4 + kk then nI 0 else v 398 i)
    (e1 : v1 = fa_u w 398 (17 + 15 * n4) (w 398 8)) (e2 : v2 = fa_u v1 398 (17 + 15 * n4 + 1) (nI ka)) (e3 : v3 = fa_u v2 398 (17 + 15 * n4 + 2) a2) (e4 : v4 = fa_u v3 398 (17 + 15 * n4 + 3) (v3 398 7))
    (e5 : v5 = fa_u v4 398 (17 + 15 * n4 + 4) (-1 : Int32)) (e6 : v6 = fa_u v5 398 (17 + 15 * n4 + 6) (-1 : Int32)) (e7 : v7 = fa_u v6 398 14 (nI (n4 + 1))) (e8 : v8 = fa_u v7 398 8 (v7 398 8 + nI 1)) :
    v8 398 8 - nI 1 = A.g 8 ∧ fb_mA (v8 398) (fb_s1 A.g 8 (A.g 8 + nI 1), (A.n + 1, fb_newF A a1 a2), A.q, (A.m, A.T)) := by
  subst e0
  subst hkk
  obtain ⟨m, em⟩ : ∃ m, m = A.n := ⟨_, rfl⟩
  rw [← em] at hw e1 e2 e3 e4 e5 e6 e7 hn
  have b1 : ∀ i, ¬ i = 17 + 15 * m → v1 398 i = w 398 i := fun i h => by rw [e1]; exact fa_u_n _ _ (fun z => h z.2)
  have b2 : ∀ i, ¬ i = 17 + 15 * m + 1 → v2 398 i = v1 398 i := fun i h => by rw [e2]; exact fa_u_n _ _ (fun z => h z.2)
  have b3 : ∀ i, ¬ i = 17 + 15 * m + 2 → v3 398 i = v2 398 i := fun i h => by rw [e3]; exact fa_u_n _ _ (fun z => h z.2)
  have b4 : ∀ i, ¬ i = 17 + 15 * m + 3 → v4 398 i = v3 398 i := fun i h => by rw [e4]; exact fa_u_n _ _ (fun z => h z.2)
  have b5 : ∀ i, ¬ i = 17 + 15 * m + 4 → v5 398 i = v4 398 i := fun i h => by rw [e5]; exact fa_u_n _ _ (fun z => h z.2)
  have b6 : ∀ i, ¬ i = 17 + 15 * m + 6 → v6 398 i = v5 398 i := fun i h => by rw [e6]; exact fa_u_n _ _ (fun z => h z.2)
  have b7 : ∀ i, ¬ i = 14 → v7 398 i = v6 398 i := fun i h => by rw [e7]; exact fa_u_n _ _ (fun z => h z.2)
  have b8 : ∀ i, ¬ i = 8 → v8 398 i = v7 398 i := fun i h => by rw [e8]; exact fa_u_n _ _ (fun z => h z.2)
  have lo7 : ∀ i, ¬ (17 + 15 * m ≤ i ∧ i < 17 + 15 * m + 15) → ¬ i = 14 → v7 398 i = v 398 i := fun i h h14 => by
    rw [b7 i h14, b6 i (by omega), b5 i (by omega), b4 i (by omega), b3 i (by omega), b2 i (by omega), b1 i (by omega), hw, if_neg h]
  have lo : ∀ i, ¬ (17 + 15 * m ≤ i ∧ i < 17 + 15 * m + 15) → ¬ i = 14 → ¬ i = 8 → v8 398 i = v 398 i := fun i h h14 h8 => by
    rw [b8 i h8]; exact lo7 i h h14
  have g8 : v8 398 8 = A.g 8 + nI 1 := by
    rw [e8, fa_u_s, lo7 8 (by omega) (by decide), hc.g (k := 8) (by decide)]
  obtain ⟨h1, ⟨h2, h3, h4⟩, ⟨L, h5, h6⟩, h7, h8, h9⟩ := hc
  have h7' : A.m ≤ 12 := h7
  refine ⟨by rw [g8]; exact Int32.add_sub_cancel _ _, fun k hk => ?_, ⟨by show A.n + 1 ≤ 24; omega, ?_, fun p i hp hi => ?_⟩, ⟨L, h5.congr (fun i hi => lo i (by omega) (by omega) (by omega)), h6⟩, h7, ?_, fun p i hp hi => ?_⟩
  · show _ = fb_s1 A.g 8 (A.g 8 + nI 1) k
    by_cases z : k = 8
    · rw [z, fb_s1_s]; exact g8
    · rw [fb_s1_n z, lo k (by omega) (by omega) z]; exact h1 k hk
  · rw [b8 14 (by decide), e7, fa_u_s, em]
  · have hp' : p < A.n + 1 := hp
    show _ = fb_newF A a1 a2 p i
    unfold fb_newF
    by_cases z : p = A.n
    · rw [if_pos z, z, ← em, b8 _ (by omega), b7 _ (by omega)]
      have : i = 0 ∨ i = 1 ∨ i = 2 ∨ i = 3 ∨ i = 4 ∨ i = 6 ∨ (i = 5 ∨ 7 ≤ i) := by omega
      rcases this with y | y | y | y | y | y | y
      · rw [y, if_pos rfl, b6 _ (by omega), b5 _ (by omega), b4 _ (by omega), b3 _ (by omega), b2 _ (by omega), e1]
        refine (fa_u_s _ _ _ _).trans ?_
        rw [hw, if_neg (by omega)]; exact h1 8 (by decide)
      · rw [y, if_neg (by decide), if_pos rfl, b6 _ (by omega), b5 _ (by omega), b4 _ (by omega), b3 _ (by omega), e2, fa_u_s, ek]
      · rw [y, if_neg (by decide), if_neg (by decide), if_pos rfl, b6 _ (by omega), b5 _ (by omega), b4 _ (by omega), e3, fa_u_s]
      · rw [y, if_neg (by decide), if_neg (by decide), if_neg (by decide), if_pos rfl, b6 _ (by omega), b5 _ (by omega), e4, fa_u_s, b3 _ (by omega), b2 _ (by omega), b1 _ (by omega), hw, if_neg (by omega)]
        exact h1 7 (by decide)
      · rw [y, if_neg (by decide), if_neg (by decide), if_neg (by decide), if_neg (by decide), if_pos (Or.inl rfl), b6 _ (by omega), e5, fa_u_s]
      · rw [y, if_neg (by decide), if_neg (by decide), if_neg (by decide), if_neg (by decide), if_pos (Or.inr rfl), e6, fa_u_s]
      · rw [if_neg (by omega), if_neg (by omega), if_neg (by omega), if_neg (by omega), if_neg (by omega), b6 _ (by omega), b5 _ (by omega), b4 _ (by omega), b3 _ (by omega), b2 _ (by omega), b1 _ (by omega), hw, if_pos (by omega)]
        rfl
    · rw [if_neg z, lo _ (by omega) (by omega) (by omega)]
      exact h4 p i (by omega) hi
  · rw [lo 16 (by omega) (by decide) (by decide)]; exact h8
  · have hp' : p < A.m := hp
    rw [lo _ (by omega) (by omega) (by omega)]; exact h9 p i hp hi
