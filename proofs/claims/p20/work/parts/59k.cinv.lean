theorem fb_cH.push {v v1 : fa_V} {r r1 : fa_R} {A : fb_At} {H : List fb_At} {bd : Nat} (h : fb_cH v r H) (ok : fb_okA A) (hbd : bd ∈ fa_hb) (e : r 114 H.length = some bd) (c : fb_cA v r bd A) (hk : fa_kd v r v1 r1) : fb_cH v1 r1 (fb_push H A) := by
  obtain ⟨h1, h4, h5⟩ := h
  rcases hk with ⟨m, hm, a1, a2, a3⟩ | ⟨a1, a2, a3, a4, a5⟩
  · have em : m = H.length := by
      rw [h1] at a1
      exact (fb_nIinj2 (by omega) (by omega) a1).symm
    subst em
    have f : ∀ k, ¬ k = 113 → v1 k = v k := fun k hk => by rw [a2, fa_u_k _ _ hk]
    rw [a3]
    unfold fb_push
    rw [if_pos hm]
    refine ⟨by rw [a2, fa_u_s, List.length_append]; rfl, by rw [List.length_append]; show H.length + 1 ≤ 4; omega, fun i hi => ?_⟩
    rw [List.length_append] at hi
    have hi' : i < H.length + 1 := hi
    by_cases z : i = H.length
    · subst z
      have lo := fa_hb_lo bd hbd
      rw [List.getElem_concat_length rfl]
      exact ⟨ok, bd, hbd, e, c.congr (fun k k1 k2 => f k (by omega)) c.1 rfl⟩
    · rw [List.getElem_append_left (by omega)]
      obtain ⟨x1, b, hb, x2, x3⟩ := h5 i (by omega)
      have lo := fa_hb_lo b hb
      exact ⟨x1, b, hb, x2, x3.congr (fun k k1 k2 => f k (by omega)) x3.1 rfl⟩
  · have e4 : H.length = 4 := by
      rw [h1] at a1
      exact fb_nIinj2 (by omega) (by omega) a1
    rw [a2]
    have rs : ∀ b, b ∈ fa_hb → ∀ B, fb_cA v r b B → fb_cA v r1 b B := fun b hb B x => by
      have lo := fa_hb_lo b hb
      exact x.congr (fun _ _ _ => rfl) (fa_RS_cong2 (fun q q1 q2 => a5 q (by omega)) x.1) (a5 _ (by omega))
    unfold fb_push
    rw [if_neg (by omega)]
    have lt : H.tail.length = 3 := by rw [List.length_tail]; omega
    refine ⟨by rw [a1, List.length_append, lt]; rfl, by rw [List.length_append, lt]; exact Nat.le_refl 4, fun i hi => ?_⟩
    rw [List.length_append, lt] at hi
    have hi' : i < 3 + 1 := hi
    by_cases z : i = 3
    · subst z
      rw [List.getElem_append_right (by omega)]
      have e0 : ∀ (k : Nat) (hk : k < [A].length), [A][k] = A := fun k hk => by
        have : k = 0 := by
          have : k < 1 := hk
          omega
        subst this
        rfl
      rw [e0]
      exact ⟨ok, bd, hbd, by rw [a3 3 (by decide)]; rw [e4] at e; exact e, rs bd hbd A c⟩
    · rw [List.getElem_append_left (by omega), List.getElem_tail]
      obtain ⟨x1, b, hb, x2, x3⟩ := h5 (i + 1) (by omega)
      exact ⟨x1, b, hb, by rw [a3 i (by omega)]; exact x2, rs b hb _ x3⟩
theorem fb_J.of {r r1 : fa_R} (h : fb_J r) (h1 : fb_inj r1 1) (hr : ∀ k, ¬ k = 2 → ¬ k = 114 → r1 k = r k) : fb_J r1 := fun b hb h57 => by
  have lo := fa_bs_in b hb
  by_cases z : b = 1
  · rw [z]; exact h1
  · refine fb_inj.congr (h b hb h57) (hr _ (by omega) (fun y => ?_))
    have : b = 113 := by omega
    rw [this] at hb
    exact absurd hb (by decide)
/-- an action: its State is copied, changed, and recorded -/
theorem fb_face {v v1 v2 v3 : fa_V} {r r2 r3 : fa_R} {A B : fb_At} {H : List fb_At} {x xr y : Int32} (hC : fa_CI v r) (hV : fb_CV v r A H) (hd : fb_dr v v1 r) (f2 : fa_fr 1 57 v1 v2) (rr : ∀ k, ¬ k = 2 → r2 k = r k) (ha : fb_cA v1 r 1 A → x = y ∧ fb_cA v2 r2 1 B) (ok : fb_okA B)  (hr : xr = x ∧ ((¬ (0 ≤ x ∨ x = (-6 : Int32)) ∧ v3 = v2 ∧ r3 = r2) ∨ ((0 ≤ x ∨ x = (-6 : Int32)) ∧ fa_kd v2 r2 v3 r3))) : xr = y ∧ fb_CV v3 r3 B (fb_rec H A y) := by
  obtain ⟨⟨d1, d2, d3, d4⟩, bd, hbd, e, c⟩ := hV.draft hC hd
  obtain ⟨a1, a2⟩ := ha d3
  have lo := fa_hb_lo bd hbd
  have h4 : fb_cH v2 r2 H := d4.cong (by rw [f2 113 (by omega)]) (fun k k1 k2 => f2 k (by omega)) (fun k k1 k2 => rr k (by omega))
  have c2 : fb_cA v2 r2 bd A := c.congr (fun k k1 k2 => f2 k (by omega)) (fa_RS_cong2 (fun q q1 q2 => rr q (by omega)) c.1) (rr _ (by omega))
  have j2 : fb_J r2 := d2.of a2.2.1 (fun k k1 _ => rr k k1)
  obtain ⟨h1, h2⟩ := hr
  refine ⟨h1.trans a1, ?_⟩
  unfold fb_rec
  rcases h2 with ⟨n, z1, z2⟩ | ⟨n, z⟩
  · rw [a1] at n
    rw [if_neg n, z1, z2]
    exact ⟨ok, j2, a2, h4⟩
  · rw [a1] at n
    rw [if_pos n]
    have p := h4.push d1 hbd (by rw [rr 114 (by decide)]; exact e) c2 z
    have q : (∀ k, ¬ k = 113 → v3 k = v2 k) ∧ ∀ k, ¬ k = 114 → r3 k = r2 k := by
      rcases z with ⟨m, -, -, b2, b3⟩ | ⟨-, b2, -, -, b5⟩
      · exact ⟨fun k hk => by rw [b2, fa_u_k _ _ hk], fun k _ => by rw [b3]⟩
      · exact ⟨fun k _ => by rw [b2], b5⟩
    have s1 : fb_cA v3 r3 1 B := a2.congr (fun k k1 k2 => q.1 k (by omega)) (fa_RS_cong2 (fun w w1 w2 => q.2 w (by omega)) a2.1) (q.2 _ (by omega))
    exact ⟨ok, j2.of s1.2.1 (fun k _ k2 => q.2 k k2), s1, p⟩
/-- the latest state comes back -/
def fb_undoA (A : fb_At) (H : List fb_At) : Int32 × fb_At × List fb_At := if H.length = 0 then ((-6 : Int32), A, H) else (nI (H.length - 1), (H[H.length - 1]?).getD A, H.take (H.length - 1))
theorem fb_undo0 {v : fa_V} {r : fa_R} {A : fb_At} {H : List fb_At} (hV : fb_CV v r A H) (h : v 113 0 = nI 0) : (-6 : Int32) = (fb_undoA A H).1 ∧ fb_CV v r (fb_undoA A H).2.1 (fb_undoA A H).2.2 := by
  have l4 := hV.2.2.2.2.1
  have e : H.length = 0 := fb_nIinj2 (by omega) (by omega) (hV.2.2.2.1.symm.trans h)
  have u : fb_undoA A H = ((-6 : Int32), A, H) := if_pos e
  rw [u]
  exact ⟨rfl, hV⟩
theorem fb_undo1 {v v1 v2 : fa_V} {r : fa_R} {A : fb_At} {H : List fb_At} {q k : Nat} (hV : fb_CV v r A H) (h1 : v 113 0 = nI (k + 1)) (h2 : v1 113 0 = nI k) (hk : k < 4) (e : r 114 k = some q) (f1 : fa_fr 113 114 v v1) (f2 : fa_fr 1 57 v1 v2) (hc : ∀ A, fb_inj r 1 → fb_cA v1 r q A → fb_cA v2 r 1 A) : v2 113 0 = (fb_undoA A H).1 ∧ fb_CV v2 r (fb_undoA A H).2.1 (fb_undoA A H).2.2 := by
  obtain ⟨o, j, s, z1, z2, z3⟩ := hV
  have el : H.length = k + 1 := fb_nIinj2 (by omega) (by omega) (z1.symm.trans h1)
  have u : fb_undoA A H = (nI k, (H[k]'(by omega)), H.take k) := by
    unfold fb_undoA
    rw [if_neg (by omega), show H.length - 1 = k by omega, List.getElem?_eq_getElem (by omega)]
    rfl
  rw [u]
  obtain ⟨ok, b, hb, e2, c⟩ := z3 k (by omega)
  have eb : b = q := by rw [e2] at e; exact Option.some.inj e
  subst eb
  have lo := fa_hb_lo b hb
  have c1 : fb_cA v1 r b (H[k]'(by omega)) := c.congr (fun i i1 i2 => f1 i (by omega)) c.1 rfl
  have lt : (H.take k).length = k := by rw [List.length_take]; omega
  refine ⟨by rw [f2 113 (by omega)]; exact h2, ok, j, hc _ s.2.1 c1, by rw [f2 113 (by omega), lt]; exact h2, by rw [lt]; omega, fun i hi => ?_⟩
  rw [lt] at hi
  rw [List.getElem_take]
  obtain ⟨y1, b2, hb2, y2, y3⟩ := z3 i (by omega)
  have lo2 := fa_hb_lo b2 hb2
  exact ⟨y1, b2, hb2, y2, y3.congr (fun w w1 w2 => by rw [f2 w (by omega), f1 w (by omega)]) y3.1 rfl⟩
