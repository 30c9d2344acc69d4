/-! THE REFERENCE'S RUN -/
/-- the reference's report -/
def fb_rpm (A : fb_At) (S : Nat → Int32) (o e : Nat) (i d s k : Int32) : Prop := (e < o → i = nI 1 ∧ d = nI e ∧ s = nI (fa_ps S e) ∧ k = -(fb_ry A S e)) ∧ (e = o → i = nI 0)
def fb_mzI (A : fb_At) (H : List fb_At) (S : Nat → Int32) (o : Nat) (w : fa_V) (dn : Nat) : Prop :=
  fb_mA (w 399) A ∧ fb_mH w H ∧ (∀ k, k < o → fa_rd (w 403) S k) ∧
  ((w 397 8 = nI 0 ∧ dn ≤ o ∧ (∀ k, k < dn → ¬ fb_er (fb_ry A S k)) ∧ fb_mA (w 398) (fb_ra A S dn)) ∨
   (w 397 8 = nI 1 ∧ dn < o ∧ (∀ k, k < dn → ¬ fb_er (fb_ry A S k)) ∧ fb_er (fb_ry A S dn) ∧ fb_mA (w 398) (fb_ra A S (dn + 1)) ∧ w 404 0 = nI dn ∧ w 404 1 = nI (fa_ps S dn) ∧ w 404 2 = -(fb_ry A S dn)))
theorem fb_mzI.start {A : fb_At} {H : List fb_At} {S : Nat → Int32} {o : Nat} {v v1 v2 v3 : fa_V} (hV : fb_MV v A H) (hfx : fa_f3 v v1) (f2 : fa_fr 399 400 v1 v2) (hh : ∀ i, i < 453 → v2 399 i = v1 398 i) (e : v3 = fa_u v2 397 8 (nI 0)) (hrd : ∀ k, k < o → fa_rd (v1 403) S k) : fb_mzI A H S o v3 0 := by
  obtain ⟨ok, m, h⟩ := hV
  have r : ∀ k, ¬ k = 397 → v3 k = v2 k := fun k hk => by rw [e, fa_u_k _ _ hk]
  have m1 : fb_mA (v1 398) A := by rw [hfx.1 398 (by decide) (by decide)]; exact m
  refine ⟨?_, h.cong ?_ ?_, ?_, Or.inl ⟨by rw [e, fa_u_s], Nat.zero_le _, fun k hk => absurd hk (Nat.not_lt_zero _), ?_⟩⟩
  · rw [r 399 (by decide)]; exact m1.congr hh
  · rw [e, fa_u_n _ _ (by decide), f2 397 (by omega)]; exact hfx.2 10 (by decide) (by decide)
  · rw [r 401 (by decide), f2 401 (by omega)]; exact hfx.1 401 (by decide) (by decide)
  · rw [r 403 (by decide), f2 403 (by omega)]; exact hrd
  · rw [r 398 (by decide), f2 398 (by omega)]; exact m1
theorem fb_mzI.s {A : fb_At} {H : List fb_At} {S : Nat → Int32} {o : Nat} {w w2 : fa_V} {dn : Nat} {x : Int32} (hA : fb_okA A) (h : fb_mzI A H S o w dn) (c : w 397 8 = 0) (hd : dn < o) (f2 : fa_f2 w w2)
    (hx : ∀ B, fb_okA B → fb_mA (w 398) B → x = (fb_doA B (w 403 (4 * dn + 1)) (w 403 (4 * dn + 2)) (w 403 (4 * dn + 3))).1 ∧ fb_mA (w2 398) (fb_doA B (w 403 (4 * dn + 1)) (w 403 (4 * dn + 2)) (w 403 (4 * dn + 3))).2) :
    x = fb_ry A S dn ∧ dn < o ∧ (∀ k, k < dn → ¬ fb_er (fb_ry A S k)) ∧ fb_mA (w2 398) (fb_ra A S (dn + 1)) ∧ fb_mA (w2 399) A ∧ fb_mH w2 H ∧ (∀ k, k < o → fa_rd (w2 403) S k) ∧ w2 397 8 = nI 0 := by
  obtain ⟨h1, h2, h3, h4⟩ := h
  have k7 : w2 397 = w 397 := f2 397 (by decide) (by decide)
  rcases h4 with ⟨a1, a2, a3, a4⟩ | ⟨a1, -⟩
  · have z := hx _ (hA.ra dn) a4
    obtain ⟨-, r1, r2, r3⟩ := h3 dn hd
    rw [r1, r2, fb_doA_q r3] at z
    exact ⟨z.1, hd, a3, z.2, by rw [f2 399 (by decide) (by decide)]; exact h1, h2.cong (by rw [k7]) (f2 401 (by decide) (by decide)), by rw [f2 403 (by decide) (by decide)]; exact h3, by rw [k7]; exact a1⟩
  · rw [a1] at c
    exact absurd c (by decide)
theorem fb_mzI.ok {A : fb_At} {H : List fb_At} {S : Nat → Int32} {o : Nat} {w2 : fa_V} {dn : Nat} {x : Int32} (h : x = fb_ry A S dn ∧ dn < o ∧ (∀ k, k < dn → ¬ fb_er (fb_ry A S k)) ∧ fb_mA (w2 398) (fb_ra A S (dn + 1)) ∧ fb_mA (w2 399) A ∧ fb_mH w2 H ∧ (∀ k, k < o → fa_rd (w2 403) S k) ∧ w2 397 8 = nI 0)
    (he : 0 ≤ x ∨ x = (-6 : Int32)) : fb_mzI A H S o w2 (dn + 1) := by
  obtain ⟨h1, h2, h3, h4, h5, h6, h7, h8⟩ := h
  refine ⟨h5, h6, h7, Or.inl ⟨h8, by omega, fun k hk => ?_, h4⟩⟩
  by_cases z : k = dn
  · rw [z, ← h1]; exact fun y => y he
  · exact h3 k (by omega)
theorem fb_mzI.er {A : fb_At} {H : List fb_At} {S : Nat → Int32} {o : Nat} {w2 w3 w4 w5 w6 : fa_V} {dn : Nat} {x : Int32} (h : x = fb_ry A S dn ∧ dn < o ∧ (∀ k, k < dn → ¬ fb_er (fb_ry A S k)) ∧ fb_mA (w2 398) (fb_ra A S (dn + 1)) ∧ fb_mA (w2 399) A ∧ fb_mH w2 H ∧ (∀ k, k < o → fa_rd (w2 403) S k) ∧ w2 397 8 = nI 0)
    (he : ¬ (0 ≤ x ∨ x = (-6 : Int32))) (e1 : w3 = fa_u w2 397 8 (nI 1)) (e2 : w4 = fa_u w3 404 0 (nI dn)) (e3 : w5 = fa_u w4 404 1 (w4 403 (4 * dn))) (e4 : w6 = fa_u w5 404 2 (-(x))) : fb_mzI A H S o w6 dn := by
  obtain ⟨h1, h2, h3, h4, h5, h6, h7, h8⟩ := h
  have r : ∀ k, ¬ k = 397 → ¬ k = 404 → w6 k = w2 k := fun k a b => by rw [e4, fa_u_k _ _ b, e3, fa_u_k _ _ b, e2, fa_u_k _ _ b, e1, fa_u_k _ _ a]
  have r7 : ∀ i, ¬ i = 8 → w6 397 i = w2 397 i := fun i a => by rw [e4, fa_u_k _ _ (by decide), e3, fa_u_k _ _ (by decide), e2, fa_u_k _ _ (by decide), e1, fa_u_n _ _ (fun z => a z.2)]
  have r4 : w4 403 (4 * dn) = nI (fa_ps S dn) := by rw [e2, fa_u_k _ _ (by decide), e1, fa_u_k _ _ (by decide)]; exact (h7 dn h2).1
  refine ⟨by rw [r 399 (by decide) (by decide)]; exact h5, h6.cong (r7 10 (by decide)) (r 401 (by decide) (by decide)), by rw [r 403 (by decide) (by decide)]; exact h7, Or.inr ⟨?_, h2, h3, by rw [← h1]; exact he, by rw [r 398 (by decide) (by decide)]; exact h4, ?_, ?_, ?_⟩⟩
  · rw [e4, fa_u_k _ _ (by decide), e3, fa_u_k _ _ (by decide), e2, fa_u_k _ _ (by decide), e1, fa_u_s]
  · rw [e4, fa_u_n _ _ (by decide), e3, fa_u_n _ _ (by decide), e2, fa_u_s]
  · rw [e4, fa_u_n _ _ (by decide), e3, fa_u_s]; exact r4
  · rw [e4, fa_u_s, h1]
theorem fb_mzI.e {A : fb_At} {H : List fb_At} {S : Nat → Int32} {o : Nat} {w w1 : fa_V} {dn : Nat} {x : Int32} (hA : fb_okA A) (h : fb_mzI A H S o w dn) (c : ¬ w 397 8 = 0 ∨ o ≤ dn) (hr : x = nI dn ∧ w1 398 = w 398 ∧ ∀ A H, fb_okA A → fb_mA (w 399) A → fb_mH w H → fb_mH w1 (fb_rec H A (nI dn))) (hdn : dn < 2 ^ 31) (k8 : w1 397 8 = w 397 8) (k4 : w1 404 = w 404) :
    ∃ e, fb_runP A S o e ∧ x = nI e ∧ fb_MV w1 (fb_fin A S o e) (fb_push H A) ∧ fb_rpm A S o e (w1 397 8) (w1 404 0) (w1 404 1) (w1 404 2) := by
  obtain ⟨h1, h2, -, h4⟩ := h
  obtain ⟨r1, r2, r3⟩ := hr
  have hH := r3 A H hA h1 h2
  rw [fb_rec_y (Or.inl (Int32.not_lt.mp (nI_pos hdn)))] at hH
  rw [k8, k4]
  rcases h4 with ⟨a1, a2, a3, a4⟩ | ⟨a1, a2, a3, a4, a5, a6⟩
  · have ho : dn = o := by
      rcases c with z | z
      · exact absurd a1 z
      · omega
    subst ho
    refine ⟨dn, ⟨Nat.le_refl _, a3, fun z => absurd z (Nat.lt_irrefl _)⟩, r1, ⟨?_, ?_, hH⟩, fun z => absurd z (Nat.lt_irrefl _), fun _ => a1⟩
    · rw [fb_fin_o]; exact hA.ra _
    · rw [fb_fin_o, r2]; exact a4
  · refine ⟨dn, ⟨by omega, a3, fun _ => a4⟩, r1, ⟨?_, ?_, hH⟩, fun _ => ⟨a1, a6⟩, fun z => absurd a2 (by omega)⟩
    · rw [fb_fin_t a2]; exact hA.ra _
    · rw [fb_fin_t a2, r2]; exact a5
def fb_whm (i : Int32) (f : Nat → Int32) (w : Int32) : Int32 := if w < 0 ∨ ¬ w ≤ nI 2 then (-2 : Int32) else if i = 0 then (-6 : Int32) else f (fa_N w)
