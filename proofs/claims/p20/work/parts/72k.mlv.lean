/-! TRACES in the reference's row -/
def fb_mT (f : Nat → Int32) (m : Nat) (T : Nat → Nat → Int32) : Prop := m ≤ 12 ∧ f 16 = nI m ∧ ∀ p i, p < m → i < 5 → f (393 + 5 * p + i) = T p i
theorem fb_m_lvw {w v1 v2 v3 v4 v5 v6 : fa_V} {u d : Nat} (hu : u < 24) (hd : d < 12) (e1 : v1 = fa_u w 398 (393 + 5 * d) (w 398 (17 + 15 * u))) (e2 : v2 = fa_u v1 398 (393 + 5 * d + 1) (v1 398 (17 + 15 * u + 1))) (e3 : v3 = fa_u v2 398 (393 + 5 * d + 2) (v2 398 (17 + 15 * u + 2)))
    (e4 : v4 = fa_u v3 398 (393 + 5 * d + 3) (v3 398 7)) (e5 : v5 = fa_u v4 398 (393 + 5 * d + 4) (v4 398 (17 + 15 * u + 5))) (e6 : v6 = fa_u v5 398 16 (nI (d + 1))) :
    (∀ i, ¬ i = 16 → ¬ (393 + 5 * d ≤ i ∧ i < 393 + 5 * d + 5) → v6 398 i = w 398 i) ∧ v6 398 16 = nI (d + 1) ∧ ∀ i, i < 5 → v6 398 (393 + 5 * d + i) = if i = 3 then w 398 7 else if i = 4 then w 398 (17 + 15 * u + 5) else w 398 (17 + 15 * u + i) := by
  have a1 : ∀ i, ¬ i = 393 + 5 * d → v1 398 i = w 398 i := fun i h => by rw [e1]; exact fa_u_n _ _ (fun z => h z.2)
  have a2 : ∀ i, ¬ i = 393 + 5 * d + 1 → v2 398 i = v1 398 i := fun i h => by rw [e2]; exact fa_u_n _ _ (fun z => h z.2)
  have a3 : ∀ i, ¬ i = 393 + 5 * d + 2 → v3 398 i = v2 398 i := fun i h => by rw [e3]; exact fa_u_n _ _ (fun z => h z.2)
  have a4 : ∀ i, ¬ i = 393 + 5 * d + 3 → v4 398 i = v3 398 i := fun i h => by rw [e4]; exact fa_u_n _ _ (fun z => h z.2)
  have a5 : ∀ i, ¬ i = 393 + 5 * d + 4 → v5 398 i = v4 398 i := fun i h => by rw [e5]; exact fa_u_n _ _ (fun z => h z.2)
  have a6 : ∀ i, ¬ i = 16 → v6 398 i = v5 398 i := fun i h => by rw [e6]; exact fa_u_n _ _ (fun z => h z.2)
  refine ⟨fun i h1 h2 => ?_, by rw [e6, fa_u_s], fun i hi => ?_⟩
  · rw [a6 i h1, a5 i (by omega), a4 i (by omega), a3 i (by omega), a2 i (by omega), a1 i (by omega)]
  · rw [a6 _ (by omega)]
    have : i = 0 ∨ i = 1 ∨ i = 2 ∨ i = 3 ∨ i = 4 := by omega
    rcases this with z | z | z | z | z
    · rw [z, if_neg (by decide), if_neg (by decide), a5 _ (by omega), a4 _ (by omega), a3 _ (by omega), a2 _ (by omega), e1]
      exact fa_u_s _ _ _ _
    · rw [z, if_neg (by decide), if_neg (by decide), a5 _ (by omega), a4 _ (by omega), a3 _ (by omega), e2, fa_u_s, a1 _ (by omega)]
    · rw [z, if_neg (by decide), if_neg (by decide), a5 _ (by omega), a4 _ (by omega), e3, fa_u_s, a2 _ (by omega), a1 _ (by omega)]
    · rw [z, if_pos rfl, a5 _ (by omega), e4, fa_u_s, a3 _ (by omega), a2 _ (by omega), a1 _ (by omega)]
    · rw [z, if_neg (by decide), if_pos rfl, e5, fa_u_s, a4 _ (by omega), a3 _ (by omega), a2 _ (by omega), a1 _ (by omega)]
def fb_mLV (f f1 : Nat → Int32) (u : Nat) : Prop := (∀ i, i < 393 → ¬ i = 16 → f1 i = f i) ∧ ∀ m T, fb_mT f m T → fb_mT f1 (fb_lv (f 7) (fun i => f (17 + 15 * u + i)) (m, T)).1 (fb_lv (f 7) (fun i => f (17 + 15 * u + i)) (m, T)).2
theorem fb_m_lv1 {w v1 v2 v3 v4 v5 v6 : fa_V} {u d : Nat} (hu : u < 24) (hd : d < 12) (g6 : w 398 16 = nI d) (e1 : v1 = fa_u w 398 (393 + 5 * d) (w 398 (17 + 15 * u))) (e2 : v2 = fa_u v1 398 (393 + 5 * d + 1) (v1 398 (17 + 15 * u + 1))) (e3 : v3 = fa_u v2 398 (393 + 5 * d + 2) (v2 398 (17 + 15 * u + 2)))
    (e4 : v4 = fa_u v3 398 (393 + 5 * d + 3) (v3 398 7)) (e5 : v5 = fa_u v4 398 (393 + 5 * d + 4) (v4 398 (17 + 15 * u + 5))) (e6 : v6 = fa_u v5 398 16 (nI (d + 1))) : fb_mLV (w 398) (v6 398) u := by
  obtain ⟨h1, h2, h3⟩ := fb_m_lvw hu hd e1 e2 e3 e4 e5 e6
  refine ⟨fun i hi hne => h1 i hne (by omega), fun m T hT => ?_⟩
  obtain ⟨t1, t2, t3⟩ := hT
  have em : d = m := fa_nIinj (by omega) (by omega) (g6.symm.trans t2)
  subst em
  have e : fb_lv (w 398 7) (fun i => w 398 (17 + 15 * u + i)) (d, T) = (d + 1, fun p i => if p = d then (if i = 3 then w 398 7 else if i = 4 then w 398 (17 + 15 * u + 5) else w 398 (17 + 15 * u + i)) else T p i) := if_neg (show ¬ d = 12 by omega)
  rw [e]
  refine ⟨by show d + 1 ≤ 12; omega, h2, fun p i hp hi => ?_⟩
  have hp' : p < d + 1 := hp
  show _ = if p = d then _ else _
  by_cases z : p = d
  · rw [if_pos z, z]; exact h3 i hi
  · rw [if_neg z, h1 _ (by omega) (by omega)]; exact t3 p i (by omega) hi
theorem fb_m_lv2 {v w v1 v2 v3 v4 v5 v6 w0 : fa_V} {u d n6 : Nat} (hu : u < 24) (hn : n6 = 12) (hd : d = n6 - 1) (g6 : v 398 16 = nI n6) (hw : ∀ i, w0 398 i = if 393 ≤ i ∧ i < 448 then v 398 (i + 5) else v 398 i) (e0 : w = fa_u w0 398 16 (nI d)) (e1 : v1 = fa_u w 398 (393 + 5 * d) (w 398 (17 + 15 * u))) (e2 : v2 = fa_u v1 398 (393 + 5 * d + 1) (v1 398 (17 + 15 * u + 1))) (e3 : v3 = fa_u v2 398 (393 + 5 * d + 2) (v2 398 (17 + 15 * u + 2)))
    (e4 : v4 = fa_u v3 398 (393 + 5 * d + 3) (v3 398 7)) (e5 : v5 = fa_u v4 398 (393 + 5 * d + 4) (v4 398 (17 + 15 * u + 5))) (e6 : v6 = fa_u v5 398 16 (nI (d + 1))) : fb_mLV (v 398) (v6 398) u := by
  subst hn
  have hd : d = 11 := hd
  subst hd
  obtain ⟨h1, h2, h3⟩ := fb_m_lvw hu (by decide) e1 e2 e3 e4 e5 e6
  have lo : ∀ i, i < 393 → ¬ i = 16 → w 398 i = v 398 i := fun i hi hne => by
    rw [e0, fa_u_n _ _ (fun z => hne z.2), hw, if_neg (by omega)]
  refine ⟨fun i hi hne => by rw [h1 i hne (by omega), lo i hi hne], fun m T hT => ?_⟩
  obtain ⟨t1, t2, t3⟩ := hT
  have em : 12 = m := fa_nIinj (by omega) (by omega) (g6.symm.trans t2)
  subst em
  have e : fb_lv (v 398 7) (fun i => v 398 (17 + 15 * u + i)) (12, T) = (12, fun p i => if p = 11 then (if i = 3 then v 398 7 else if i = 4 then v 398 (17 + 15 * u + 5) else v 398 (17 + 15 * u + i)) else T (p + 1) i) := if_pos rfl
  rw [e]
  refine ⟨Nat.le_refl _, h2, fun p i hp hi => ?_⟩
  have hp' : p < 12 := hp
  show _ = if p = 11 then _ else _
  by_cases z : p = 11
  · rw [if_pos z, z, h3 i hi, lo 7 (by decide) (by decide), lo (17 + 15 * u + 5) (by omega) (by omega), lo (17 + 15 * u + i) (by omega) (by omega)]
  · rw [if_neg z, h1 _ (by omega) (by omega), e0, fa_u_n _ _ (by omega), hw, if_pos (by omega), ← t3 (p + 1) i (by omega) hi]
    congr 1
    omega
theorem fb_m_sh {v w w1 : fa_V} {k : Nat} (h3 : 393 ≤ k) (h : ∀ i, w 398 i = if 393 ≤ i ∧ i < k then v 398 (i + 5) else v 398 i) (e : w1 = fa_u w 398 k (w 398 (k + 5))) : ∀ i, w1 398 i = if 393 ≤ i ∧ i < k + 1 then v 398 (i + 5) else v 398 i := fun i => by
  by_cases z : i = k
  · rw [if_pos (by omega), z, e, fa_u_s, h (k + 5), if_neg (by omega)]
  · rw [e, fa_u_n _ _ (fun y => z y.2), h i]
    by_cases y : 393 ≤ i ∧ i < k
    · rw [if_pos y, if_pos (by omega)]
    · rw [if_neg y, if_neg (by omega)]
