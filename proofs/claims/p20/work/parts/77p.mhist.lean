/-! THE REFERENCE'S HISTORY -/
def fb_mH (v : fa_V) (H : List fb_At) : Prop := v 397 10 = nI H.length ∧ H.length ≤ 4 ∧ ∀ i (hi : i < H.length), fb_okA H[i] ∧ fb_mA (fun c => v 401 (453 * i + c)) H[i]
def fb_MV (v : fa_V) (A : fb_At) (H : List fb_At) : Prop := fb_okA A ∧ fb_mA (v 398) A ∧ fb_mH v H
theorem fb_mH.cong {v v1 : fa_V} {H : List fb_At} (h : fb_mH v H) (h0 : v1 397 10 = v 397 10) (h1 : v1 401 = v 401) : fb_mH v1 H :=
  ⟨h0.trans h.1, h.2.1, fun i hi => by rw [h1]; exact h.2.2 i hi⟩
theorem fb_MV.cong {v v1 : fa_V} {A : fb_At} {H : List fb_At} (h : fb_MV v A H) (h8 : ∀ i, i < 453 → v1 398 i = v 398 i) (h0 : v1 397 10 = v 397 10) (h1 : v1 401 = v 401) : fb_MV v1 A H :=
  ⟨h.1, h.2.1.congr h8, h.2.2.cong h0 h1⟩
theorem fb_m_cpy {w w1 : fa_V} {f g : Nat → Int32} {q k : Nat} {y : Int32} (h : ∀ i, w 401 i = if q ≤ i ∧ i < q + k then f (i - q) else g i) (e : w1 = fa_u w 401 (q + k) y) (ey : y = f k) : ∀ i, w1 401 i = if q ≤ i ∧ i < q + (k + 1) then f (i - q) else g i := fun i => by
  by_cases z : i = q + k
  · rw [if_pos (by omega), z, e, fa_u_s, ey, Nat.add_sub_cancel_left]
  · rw [e, fa_u_n _ _ (fun y => z y.2), h i]
    by_cases y : q ≤ i ∧ i < q + k
    · rw [if_pos y, if_pos (by omega)]
    · rw [if_neg y, if_neg (by omega)]
theorem fb_m_dwn {v w w1 : fa_V} {k : Nat} (h : ∀ i, w 401 i = if i < k then v 401 (453 + i) else v 401 i) (e : w1 = fa_u w 401 k (w 401 (453 + k))) : ∀ i, w1 401 i = if i < k + 1 then v 401 (453 + i) else v 401 i := fun i => by
  by_cases z : i = k
  · rw [if_pos (by omega), z, e, fa_u_s, h (453 + k), if_neg (by omega)]
  · rw [e, fa_u_n _ _ (fun y => z y.2), h i]
    by_cases y : i < k
    · rw [if_pos y, if_pos (by omega)]
    · rw [if_neg y, if_neg (by omega)]
theorem fb_m_bck {u w w1 : fa_V} {q k : Nat} {y : Int32} (h : ∀ i, w 398 i = if i < k then u 401 (q + i) else u 398 i) (e : w1 = fa_u w 398 k y) (ey : y = u 401 (q + k)) : ∀ i, w1 398 i = if i < k + 1 then u 401 (q + i) else u 398 i := fun i => by
  by_cases z : i = k
  · rw [if_pos (by omega), z, e, fa_u_s, ey]
  · rw [e, fa_u_n _ _ (fun y => z y.2), h i]
    by_cases y : i < k
    · rw [if_pos y, if_pos (by omega)]
    · rw [if_neg y, if_neg (by omega)]
/-- the latest state of n, behind m others -/
theorem fb_m_rec1 {v w v1 : fa_V} {A : fb_At} {H : List fb_At} {n10 k : Nat} (ok : fb_okA A) (hA : fb_mA (v 399) A) (hH : fb_mH v H) (g10 : v 397 10 = nI n10) (hn : n10 ≤ 4) (hne : ¬ n10 = 4) (hk : 453 ≤ k) (hk2 : k ≤ 453)
    (hw : ∀ i, w 401 i = if 453 * n10 ≤ i ∧ i < 453 * n10 + k then v 399 (i - 453 * n10) else v 401 i) (e : v1 = fa_u w 397 10 (nI (n10 + 1))) : fb_mH v1 (fb_push H A) := by
  have ek : k = 453 := by omega
  subst ek
  obtain ⟨h1, h2, h3⟩ := hH
  have el : H.length = n10 := fa_nIinj (by omega) (by omega) (h1.symm.trans g10)
  have w1 : v1 401 = w 401 := by rw [e]; exact fa_u_k _ _ (by decide)
  unfold fb_push
  rw [if_pos (by omega)]
  refine ⟨by rw [e, fa_u_s, List.length_append, el]; rfl, by rw [List.length_append]; show H.length + 1 ≤ 4; omega, fun i hi => ?_⟩
  rw [List.length_append] at hi
  have hi' : i < H.length + 1 := hi
  by_cases z : i = H.length
  · subst z
    rw [List.getElem_concat_length rfl]
    refine ⟨ok, hA.congr (fun c hc => ?_)⟩
    show v1 401 (453 * H.length + c) = _
    rw [w1, hw, el, if_pos (by omega), Nat.add_sub_cancel_left]
  · rw [List.getElem_append_left (by omega)]
    obtain ⟨a, b⟩ := h3 i (by omega)
    refine ⟨a, b.congr (fun c hc => ?_)⟩
    show v1 401 (453 * i + c) = v 401 (453 * i + c)
    rw [w1, hw, if_neg (by omega)]
theorem fb_m_rec2 {v w0 u w v1 : fa_V} {A : fb_At} {H : List fb_At} {n10 k0 k : Nat} (ok : fb_okA A) (hA : fb_mA (v 399) A) (hH : fb_mH v H) (g10 : v 397 10 = nI n10) (he : n10 = 4) (hk0 : 1359 ≤ k0) (hk02 : k0 ≤ 1359) (f0 : fa_fr 401 402 v w0)
    (h0 : ∀ i, w0 401 i = if i < k0 then v 401 (453 + i) else v 401 i) (e1 : u = fa_u w0 397 10 (nI (n10 - 1))) (hk : 453 ≤ k) (hk2 : k ≤ 453)
    (hw : ∀ i, w 401 i = if 453 * (n10 - 1) ≤ i ∧ i < 453 * (n10 - 1) + k then u 399 (i - 453 * (n10 - 1)) else u 401 i) (e : v1 = fa_u w 397 10 (nI (n10 - 1 + 1))) : fb_mH v1 (fb_push H A) := by
  have ek : k = 453 := by omega
  subst ek
  have ek0 : k0 = 1359 := by omega
  subst ek0
  subst he
  obtain ⟨h1, h2, h3⟩ := hH
  have el : H.length = 4 := fa_nIinj (by omega) (by omega) (h1.symm.trans g10)
  have w1 : v1 401 = w 401 := by rw [e]; exact fa_u_k _ _ (by decide)
  have u1 : u 401 = w0 401 := by rw [e1]; exact fa_u_k _ _ (by decide)
  have u9 : u 399 = v 399 := by rw [e1, fa_u_k _ _ (by decide)]; exact f0 399 (by omega)
  have hw' : ∀ i, w 401 i = if 1359 ≤ i ∧ i < 1812 then u 399 (i - 1359) else u 401 i := hw
  have lt : H.tail.length = 3 := by rw [List.length_tail, el]
  unfold fb_push
  rw [if_neg (by omega)]
  refine ⟨by rw [e, fa_u_s, List.length_append, lt]; rfl, by rw [List.length_append, lt]; exact Nat.le_refl 4, fun i hi => ?_⟩
  rw [List.length_append, lt] at hi
  have hi' : i < 3 + 1 := hi
  by_cases z : i = 3
  · subst z
    rw [List.getElem_append_right (by omega)]
    have e0 : ∀ (k : Nat) (hk : k < [A].length), [A][k] = A := fun k hk => by
      have : k = 0 := by
        have : k < 1 := hk
        omega
      subst this
      rfl
    rw [e0]
    refine ⟨ok, hA.congr (fun c hc => ?_)⟩
    show v1 401 (453 * 3 + c) = _
    rw [w1, hw', if_pos (by omega), u9]
    exact congrArg (v 399) (by omega)
  · rw [List.getElem_append_left (by omega), List.getElem_tail]
    obtain ⟨a, b⟩ := h3 (i + 1) (by omega)
    refine ⟨a, b.congr (fun c hc => ?_)⟩
    show v1 401 (453 * i + c) = v 401 (453 * (i + 1) + c)
    rw [w1, hw', if_neg (by omega), u1, h0, if_pos (by omega)]
    exact congrArg (v 401) (by omega)
theorem fb_rec_y {H : List fb_At} {A : fb_At} {y : Int32} (h : 0 ≤ y ∨ y = (-6 : Int32)) : fb_rec H A y = fb_push H A := if_pos h
theorem fb_rec_n {H : List fb_At} {A : fb_At} {y : Int32} (h : ¬ (0 ≤ y ∨ y = (-6 : Int32))) : fb_rec H A y = H := if_neg h
/-- an action that is refused ahead of everything -/
theorem fb_m_err {v : fa_V} {A : fb_At} {H : List fb_At} {op : Int32 × fb_At} {y : Int32} (hV : fb_MV v A H) (e : op = (y, A)) (h : ¬ (0 ≤ y ∨ y = (-6 : Int32))) : y = op.1 ∧ fb_MV v op.2 (fb_rec H A op.1) := by
  rw [e]
  exact ⟨rfl, by rw [fb_rec_n h]; exact hV⟩
theorem fb_m_face {v v1 v2 v3 : fa_V} {A : fb_At} {H : List fb_At} {op : Int32 × fb_At} {x xr : Int32} (hV : fb_MV v A H) (f1 : fa_fr 399 400 v v1) (hh : ∀ i, i < 453 → v1 399 i = v 398 i) (k7 : v2 397 = v1 397) (k9 : v2 399 = v1 399) (k1 : v2 401 = v1 401)
    (ha : fb_mA (v1 398) A → x = op.1 ∧ fb_mA (v2 398) op.2) (ok : fb_okA op.2) (hr : xr = x ∧ v3 398 = v2 398 ∧ ∀ A H, fb_okA A → fb_mA (v2 399) A → fb_mH v2 H → fb_mH v3 (fb_rec H A x)) : xr = op.1 ∧ fb_MV v3 op.2 (fb_rec H A op.1) := by
  obtain ⟨o, m, h⟩ := hV
  obtain ⟨a1, a2⟩ := ha (by rw [f1 398 (by omega)]; exact m)
  obtain ⟨r1, r2, r3⟩ := hr
  refine ⟨r1.trans a1, ok, by rw [r2]; exact a2, ?_⟩
  rw [← a1]
  exact r3 A H o (by rw [k9]; exact m.congr hh) (h.cong (by rw [k7, f1 397 (by omega)]) (by rw [k1, f1 401 (by omega)]))
theorem fb_m_undo0 {v : fa_V} {A : fb_At} {H : List fb_At} {n10 : Nat} (hV : fb_MV v A H) (g10 : v 397 10 = nI n10) (hn : n10 ≤ 4) (h : nI n10 = 0) : (-6 : Int32) = (fb_undoA A H).1 ∧ fb_MV v (fb_undoA A H).2.1 (fb_undoA A H).2.2 := by
  have l4 := hV.2.2.2.1
  have e : H.length = 0 := fb_nIinj2 (by omega) (by omega) (hV.2.2.1.symm.trans (g10.trans h))
  have u : fb_undoA A H = ((-6 : Int32), A, H) := if_pos e
  rw [u]
  exact ⟨rfl, hV⟩
theorem fb_m_undo1 {v u w : fa_V} {A : fb_At} {H : List fb_At} {n10 k : Nat} (hV : fb_MV v A H) (g10 : v 397 10 = nI n10) (hn : n10 ≤ 4) (hp : 0 < n10) (e : u = fa_u v 397 10 (nI (n10 - 1))) (fr : fa_fr 398 399 u w) (hk : 453 ≤ k)
    (hw : ∀ i, w 398 i = if i < k then u 401 (453 * (n10 - 1) + i) else u 398 i) : nI (n10 - 1) = (fb_undoA A H).1 ∧ fb_MV w (fb_undoA A H).2.1 (fb_undoA A H).2.2 := by
  obtain ⟨o, m, z1, z2, z3⟩ := hV
  have el : H.length = n10 := fb_nIinj2 (by omega) (by omega) (z1.symm.trans g10)
  subst el
  have ue : fb_undoA A H = (nI (H.length - 1), (H[H.length - 1]'(by omega)), H.take (H.length - 1)) := by
    unfold fb_undoA
    rw [if_neg (by omega), List.getElem?_eq_getElem (by omega)]
    rfl
  rw [ue]
  have w1 : w 401 = v 401 := by rw [fr 401 (by omega), e]; exact fa_u_k _ _ (by decide)
  have u1 : u 401 = v 401 := by rw [e]; exact fa_u_k _ _ (by decide)
  obtain ⟨ok, b⟩ := z3 (H.length - 1) (by omega)
  have lt : (H.take (H.length - 1)).length = H.length - 1 := by rw [List.length_take]; omega
  refine ⟨rfl, ok, b.congr (fun i hi => ?_), by rw [fr 397 (by omega), e, fa_u_s, lt], by rw [lt]; omega, fun i hi => ?_⟩
  · show _ = v 401 (453 * (H.length - 1) + i)
    rw [hw, if_pos (by omega), u1]
  · rw [lt] at hi
    rw [List.getElem_take, w1]
    exact z3 i (by omega)
