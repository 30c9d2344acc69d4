/-! ORDERS AND THE REPORT, as numbers -/
def fb_whyA (k o s w : Int32) : Int32 := if w < 0 ∨ ¬ w ≤ nI 2 then (-2 : Int32) else if k = 0 then (-6 : Int32) else if w = (0 : Int32) then o else if w = (1 : Int32) then s else k
noncomputable def fb_doA (A : fb_At) (c p q : Int32) : Int32 × fb_At := if c = (110 : Int32) then fb_addA A p q else if c = (97 : Int32) then fb_askA A p else if c = (115 : Int32) then fb_sealA A p q (-1 : Int32) else if c = (108 : Int32) then fb_liftA A p q else if c = (102 : Int32) then fb_refA A p q else fb_passA A p
theorem fb_doA_n {A : fb_At} {c p q : Int32} (h : c = (110 : Int32)) : fb_doA A c p q = fb_addA A p q := if_pos h
theorem fb_doA_a {A : fb_At} {c p q : Int32} (h : c = (97 : Int32)) : fb_doA A c p q = fb_askA A p := by rw [fb_doA, h, if_neg (by decide), if_pos rfl]
theorem fb_doA_s {A : fb_At} {c p q : Int32} (h : c = (115 : Int32)) : fb_doA A c p q = fb_sealA A p q (-1 : Int32) := by rw [fb_doA, h, if_neg (by decide), if_neg (by decide), if_pos rfl]
theorem fb_doA_l {A : fb_At} {c p q : Int32} (h : c = (108 : Int32)) : fb_doA A c p q = fb_liftA A p q := by rw [fb_doA, h, if_neg (by decide), if_neg (by decide), if_neg (by decide), if_pos rfl]
theorem fb_doA_f {A : fb_At} {c p q : Int32} (h : c = (102 : Int32)) : fb_doA A c p q = fb_refA A p q := by rw [fb_doA, h, if_neg (by decide), if_neg (by decide), if_neg (by decide), if_neg (by decide), if_pos rfl]
theorem fb_doA_o {A : fb_At} {c p q : Int32} (h1 : ¬ c = (110 : Int32)) (h2 : ¬ c = (97 : Int32)) (h3 : ¬ c = (115 : Int32)) (h4 : ¬ c = (108 : Int32)) (h5 : ¬ c = (102 : Int32)) : fb_doA A c p q = fb_passA A p := by rw [fb_doA, if_neg h1, if_neg h2, if_neg h3, if_neg h4, if_neg h5]
theorem fb_doA_q {A : fb_At} {c p q q2 : Int32} (h : ¬ c = (97 : Int32) → ¬ c = (100 : Int32) → q = q2) : fb_doA A c p q = fb_doA A c p q2 := by
  by_cases a : c = (97 : Int32)
  · rw [fb_doA_a a, fb_doA_a a]
  · by_cases d : c = (100 : Int32)
    · have o : ∀ q, fb_doA A c p q = fb_passA A p := fun q => fb_doA_o (by rw [d]; decide) (by rw [d]; decide) (by rw [d]; decide) (by rw [d]; decide) (by rw [d]; decide)
      rw [o, o]
    · rw [h a d]
theorem fb_okA.doA {A : fb_At} (h : fb_okA A) (c p q : Int32) : fb_okA (fb_doA A c p q).2 := by
  unfold fb_doA
  split
  · exact h.add p q
  · split
    · exact h.ask p
    · split
      · exact h.sealA p q _
      · split
        · exact h.liftA p q
        · split
          · exact h.refA p q
          · exact h.passA p
/-- the archive when the first k orders are executed; the answer of the k-th -/
noncomputable def fb_ra (A : fb_At) (S : Nat → Int32) : Nat → fb_At
  | 0 => A
  | k + 1 => (fb_doA (fb_ra A S k) (S (fa_ps S k)) (fa_oa S k).2.2.1 (fa_oa S k).2.2.2).2
noncomputable def fb_ry (A : fb_At) (S : Nat → Int32) (k : Nat) : Int32 := (fb_doA (fb_ra A S k) (S (fa_ps S k)) (fa_oa S k).2.2.1 (fa_oa S k).2.2.2).1
def fb_er (y : Int32) : Prop := ¬ (0 ≤ y ∨ y = (-6 : Int32))
theorem fb_okA.ra {A : fb_At} {S : Nat → Int32} (h : fb_okA A) : ∀ k, fb_okA (fb_ra A S k)
  | 0 => h
  | k + 1 => (h.ra k).doA _ _ _
/-- of o orders the run ends at e -/
def fb_runP (A : fb_At) (S : Nat → Int32) (o e : Nat) : Prop := e ≤ o ∧ (∀ k, k < e → ¬ fb_er (fb_ry A S k)) ∧ (e < o → fb_er (fb_ry A S e))
noncomputable def fb_fin (A : fb_At) (S : Nat → Int32) (o e : Nat) : fb_At := if e < o then fb_ra A S (e + 1) else fb_ra A S o
theorem fb_runP.uniq {A : fb_At} {S : Nat → Int32} {o e f : Nat} (h : fb_runP A S o e) (h2 : fb_runP A S o f) : e = f := by
  rcases Nat.lt_trichotomy e f with z | z | z
  · have a := h2.1
    exact absurd (h.2.2 (by omega)) (h2.2.1 e z)
  · exact z
  · have a := h.1
    exact absurd (h2.2.2 (by omega)) (h.2.1 f z)
/-- the text holds o orders -/
def fb_txo (S : Nat → Int32) (n o : Nat) : Prop := ∃ j, o = j + 1 ∧ fa_pre S n j ∧ (fa_oa S j).1 = true ∧ n ≤ (fa_oa S j).2.1
theorem fb_txo.ok {S : Nat → Int32} {n o k : Nat} (h : fb_txo S n o) (hk : k < o) : (fa_oa S k).1 = true ∧ ((k + 1 < o ∧ (fa_oa S k).2.1 < n ∧ S (fa_oa S k).2.1 = nI 59) ∨ (k + 1 = o ∧ n ≤ (fa_oa S k).2.1)) := by
  obtain ⟨j, e, h1, h2, h3⟩ := h
  by_cases z : k = j
  · subst z
    exact ⟨h2, Or.inr ⟨e.symm, h3⟩⟩
  · have := h1 k (by omega)
    exact ⟨this.1, Or.inl ⟨by omega, this.2⟩⟩
theorem fb_txo.le {t : Nat → Int32} {n o : Nat} (h : fb_txo (fa_sg t n) n o) (hn : n ≤ 60) : o ≤ 21 := by
  obtain ⟨j, e, h1, h2, h3⟩ := h
  have := fa_pre.ps h1
  omega
theorem fb_txo_of {t : Nat → Int32} {n j : Nat} {y : Int32} (hn : n < 2 ^ 31) (h : fa_FR (fa_sg t n) n j y) (e : y = (-6 : Int32)) : fb_txo (fa_sg t n) n (j + 1) := by
  refine ⟨j, rfl, h.1, ?_⟩
  have hp := fa_pre.ps h.1
  have hm := (fa_ord_le (t := t) hp.2).2.1
  rcases h.2 with z | z | z
  · exact absurd (z.2.symm.trans e) (fa_nI6 (Nat.lt_of_le_of_lt hm hn))
  · exact ⟨z.1, z.2.1⟩
  · exact absurd (z.2.2.2.symm.trans e) (fa_nI6 (Nat.lt_of_le_of_lt hm hn))
/-- the report -/
def fb_rpt (A : fb_At) (S : Nat → Int32) (o e : Nat) (k d s : Int32) : Prop := (e < o → k = -(fb_ry A S e) ∧ d = nI e ∧ s = nI (fa_ps S e)) ∧ (e = o → k = 0)
/-- the class's run, at its loop's head -/
def fb_rnI (A : fb_At) (H : List fb_At) (S : Nat → Int32) (o : Nat) (w : fa_V) (rr : fa_R) (j mt : Nat) (ex mo : Int32) : Prop :=
  (∃ bd, bd ∈ fa_hb ∧ rr 114 H.length = some bd ∧ fb_cA w rr bd A) ∧ fb_J rr ∧ fb_cH w rr H ∧
  ((¬ mo = 0 ∧ ex = nI j ∧ j < o ∧ mt = fa_ps S j ∧ (∀ k, k < j → ¬ fb_er (fb_ry A S k)) ∧ fb_cA w rr 1 (fb_ra A S j) ∧ w 0 6 = 0) ∨
   (mo = 0 ∧ ∃ e, fb_runP A S o e ∧ ex = nI e ∧ fb_cA w rr 1 (fb_fin A S o e) ∧ fb_rpt A S o e (w 0 6) (w 0 4) (w 0 5)))
theorem fb_rnI.cong {A : fb_At} {H : List fb_At} {w w1 : fa_V} {rr r1 : fa_R} (h : (∃ bd, bd ∈ fa_hb ∧ rr 114 H.length = some bd ∧ fb_cA w rr bd A) ∧ fb_J rr ∧ fb_cH w rr H) (hi : fb_inj r1 1) (f : ∀ k, 57 ≤ k → k < 395 → w1 k = w k) (g : ∀ k, ¬ k = 2 → r1 k = rr k) : (∃ bd, bd ∈ fa_hb ∧ r1 114 H.length = some bd ∧ fb_cA w1 r1 bd A) ∧ fb_J r1 ∧ fb_cH w1 r1 H := by
  obtain ⟨⟨bd, hbd, e, c⟩, j, ch⟩ := h
  have lo := fa_hb_lo bd hbd
  exact ⟨⟨bd, hbd, by rw [g 114 (by decide)]; exact e, c.congr (fun k k1 k2 => f k (by omega) (by omega)) (fa_RS_cong2 (fun q q1 q2 => g q (by omega)) c.1) (g _ (by omega))⟩, j.of hi (fun k a _ => g k a), ch.cong (by rw [f 113 (by decide) (by decide)]) (fun k k1 k2 => f k (by omega) k2) (fun k k1 k2 => g k (by omega))⟩
/-- one order more -/
theorem fb_rnI.s {A : fb_At} {H : List fb_At} {t : Nat → Int32} {n o : Nat} {w w1 w2 : fa_V} {rr r2 : fa_R} {j mt m : Nat} {ex mo x : Int32} (hA : fb_okA A) (hO : fb_txo (fa_sg t n) n o) (h : fb_rnI A H (fa_sg t n) o w rr j mt ex mo) (hmo : ¬ mo = 0) (f1 : fa_fr 395 396 w w1) (hm : m = (fa_ord (fa_sg t n) mt).2.1) (h3 : w1 395 3 = fa_sg t n mt) (h4 : (fa_ord (fa_sg t n) mt).1 = true → w1 395 4 = (fa_ord (fa_sg t n) mt).2.2.1 ∧ (¬ fa_sg t n mt = (97 : Int32) → ¬ fa_sg t n mt = (100 : Int32) → w1 395 5 = (fa_ord (fa_sg t n) mt).2.2.2))
    (f2 : fa_fr 1 57 w1 w2) (g2 : ∀ k, ¬ k = 2 → r2 k = rr k) (hd : ∀ B, fb_okA B → fb_cA w1 rr 1 B → x = (fb_doA B (w1 395 3) (w1 395 4) (w1 395 5)).1 ∧ fb_cA w2 r2 1 (fb_doA B (w1 395 3) (w1 395 4) (w1 395 5)).2) :
    ex = nI j ∧ j < o ∧ mt = fa_ps (fa_sg t n) j ∧ m = (fa_oa (fa_sg t n) j).2.1 ∧ x = fb_ry A (fa_sg t n) j ∧ (∀ k, k < j → ¬ fb_er (fb_ry A (fa_sg t n) k)) ∧ fb_cA w2 r2 1 (fb_ra A (fa_sg t n) (j + 1)) ∧ w2 0 6 = 0 ∧ ((∃ bd, bd ∈ fa_hb ∧ r2 114 H.length = some bd ∧ fb_cA w2 r2 bd A) ∧ fb_J r2 ∧ fb_cH w2 r2 H) := by
  obtain ⟨a1, a2, a3, a4⟩ := h
  rcases a4 with ⟨-, b1, b2, b3, b4, b5, b6⟩ | ⟨b1, -⟩
  · subst b3
    have q := (hO.ok b2).1
    have c1 : fb_cA w1 rr 1 (fb_ra A (fa_sg t n) j) := b5.congr (fun k k1 k2 => f1 k (by omega)) b5.1 rfl
    have z := hd _ (hA.ra j) c1
    rw [h3, (h4 q).1, fb_doA_q (fun y1 y2 => (h4 q).2 y1 y2)] at z
    have fr : ∀ k, 57 ≤ k → k < 395 → w2 k = w k := fun k k1 k2 => by rw [f2 k (by omega), f1 k (by omega)]
    exact ⟨b1, b2, rfl, hm, z.1, b4, z.2, by rw [f2 0 (by omega), f1 0 (by omega)]; exact b6, fb_rnI.cong ⟨a1, a2, a3⟩ z.2.2.1 fr g2⟩
  · exact absurd b1 hmo
theorem fb_fin_t {A : fb_At} {S : Nat → Int32} {o e : Nat} (h : e < o) : fb_fin A S o e = fb_ra A S (e + 1) := if_pos h
theorem fb_fin_o {A : fb_At} {S : Nat → Int32} {o : Nat} : fb_fin A S o o = fb_ra A S o := if_neg (Nat.lt_irrefl o)
theorem fb_CV.cong {v v1 : fa_V} {r : fa_R} {A : fb_At} {H : List fb_At} (h : fb_CV v r A H) (f : ∀ k, 1 ≤ k → k < 395 → v1 k = v k) : fb_CV v1 r A H :=
  ⟨h.1, h.2.1, h.2.2.1.congr (fun k k1 k2 => f k (by omega) (by omega)) h.2.2.1.1 rfl, h.2.2.2.cong (by rw [f 113 (by decide) (by decide)]) (fun k k1 k2 => f k (by omega) k2) (fun _ _ _ => rfl)⟩
theorem fb_rnI.start {A : fb_At} {H : List fb_At} {S : Nat → Int32} {n o : Nat} {v v1 v2 v3 v4 : fa_V} {r : fa_R} (hV : fb_CV v r A H) (hC : fa_CI v1 r) (f1 : fa_fr 395 396 v v1) (hd : fb_dr v1 v2 r) (e3 : v3 = fa_u v2 0 6 (nI 0)) (e4 : v4 = fa_u v3 395 2 (nI 0)) (hO : fb_txo S n o) : fb_rnI A H S o v4 r 0 0 (nI 0) (nI 1) := by
  have h1 := hV.cong (v1 := v1) (fun k k1 k2 => f1 k (by omega))
  obtain ⟨h2, bd, hbd, e, c⟩ := h1.draft hC hd
  have f : ∀ k, 1 ≤ k → k < 395 → v4 k = v2 k := fun k k1 k2 => by rw [e4, fa_u_k _ _ (by omega), e3, fa_u_k _ _ (by omega)]
  have lo := fa_hb_lo bd hbd
  have h4 := h2.cong f
  have ho : 0 < o := by
    obtain ⟨j, ej, -⟩ := hO
    omega
  exact ⟨⟨bd, hbd, e, c.congr (fun k k1 k2 => f k (by omega) (by omega)) c.1 rfl⟩, h4.2.1, h4.2.2.2, Or.inl ⟨by decide, rfl, ho, rfl, fun k hk => absurd hk (Nat.not_lt_zero _), h4.2.2.1, by rw [e4, fa_u_k _ _ (by decide), e3, fa_u_s]; rfl⟩⟩
theorem fb_rnI.ok {A : fb_At} {H : List fb_At} {t : Nat → Int32} {n o : Nat} {w2 w3 : fa_V} {r2 : fa_R} {j mt m m2 : Nat} {ex x mo : Int32} (hO : fb_txo (fa_sg t n) n o)
    (h : ex = nI j ∧ j < o ∧ mt = fa_ps (fa_sg t n) j ∧ m = (fa_oa (fa_sg t n) j).2.1 ∧ x = fb_ry A (fa_sg t n) j ∧ (∀ k, k < j → ¬ fb_er (fb_ry A (fa_sg t n) k)) ∧ fb_cA w2 r2 1 (fb_ra A (fa_sg t n) (j + 1)) ∧ w2 0 6 = 0 ∧ ((∃ bd, bd ∈ fa_hb ∧ r2 114 H.length = some bd ∧ fb_cA w2 r2 bd A) ∧ fb_J r2 ∧ fb_cH w2 r2 H))
    (he : 0 ≤ x ∨ x = (-6 : Int32)) (f3 : fa_fr 395 396 w2 w3) (hmo : mo = if fa_sg t n m = nI 59 then nI 1 else nI 0) (hm2 : m2 = if fa_sg t n m = nI 59 then m + 1 else m) : fb_rnI A H (fa_sg t n) o w3 r2 (j + 1) m2 (ex + (1)) mo := by
  obtain ⟨h1, h2, h3, h4, h5, h6, h7, h8, h9⟩ := h
  have d := fb_rnI.cong (w1 := w3) (r1 := r2) h9 h7.2.1 (fun k k1 k2 => f3 k (by omega)) (fun _ _ => rfl)
  have c3 : fb_cA w3 r2 1 (fb_ra A (fa_sg t n) (j + 1)) := h7.congr (fun k k1 k2 => f3 k (by omega)) h7.1 rfl
  have w0 : w3 0 6 = 0 := by rw [f3 0 (by omega)]; exact h8
  have all : ∀ k, k < j + 1 → ¬ fb_er (fb_ry A (fa_sg t n) k) := fun k hk => by
    by_cases z : k = j
    · rw [z, ← h5]; exact fun y => y he
    · exact h6 k (by omega)
  have ex1 : ex + (1) = nI (j + 1) := by rw [h1]; exact nI_1 j
  refine ⟨d.1, d.2.1, d.2.2, ?_⟩
  rcases (hO.ok h2).2 with ⟨a1, a2, a3⟩ | ⟨a1, a2⟩
  · rw [← h4] at a3
    rw [if_pos a3] at hmo hm2
    exact Or.inl ⟨by rw [hmo]; decide, ex1, a1, by rw [hm2, h4]; rfl, all, c3, w0⟩
  · rw [← h4] at a2
    have ne : ¬ fa_sg t n m = nI 59 := by rw [fa_sg_out a2]; decide
    rw [if_neg ne] at hmo
    refine Or.inr ⟨by rw [hmo]; rfl, j + 1, ⟨by omega, all, fun z => absurd z (by omega)⟩, ex1, ?_, fun z => absurd z (by omega), fun _ => w0⟩
    rw [← a1, fb_fin_o]
    exact c3
theorem fb_rnI.er {A : fb_At} {H : List fb_At} {t : Nat → Int32} {n o : Nat} {w2 w3 : fa_V} {r2 : fa_R} {j mt m : Nat} {ex x : Int32}
    (h : ex = nI j ∧ j < o ∧ mt = fa_ps (fa_sg t n) j ∧ m = (fa_oa (fa_sg t n) j).2.1 ∧ x = fb_ry A (fa_sg t n) j ∧ (∀ k, k < j → ¬ fb_er (fb_ry A (fa_sg t n) k)) ∧ fb_cA w2 r2 1 (fb_ra A (fa_sg t n) (j + 1)) ∧ w2 0 6 = 0 ∧ ((∃ bd, bd ∈ fa_hb ∧ r2 114 H.length = some bd ∧ fb_cA w2 r2 bd A) ∧ fb_J r2 ∧ fb_cH w2 r2 H))
    (he : ¬ (0 ≤ x ∨ x = (-6 : Int32))) (f3 : fa_fr 0 1 w2 w3) (hr : w3 0 4 = ex ∧ w3 0 5 = nI mt ∧ w3 0 6 = -(x)) : fb_rnI A H (fa_sg t n) o w3 r2 (j + 1) m ex (nI 0) := by
  obtain ⟨h1, h2, h3, h4, h5, h6, h7, h8, h9⟩ := h
  have d := fb_rnI.cong (w1 := w3) (r1 := r2) h9 h7.2.1 (fun k k1 k2 => f3 k (by omega)) (fun _ _ => rfl)
  have c3 : fb_cA w3 r2 1 (fb_ra A (fa_sg t n) (j + 1)) := h7.congr (fun k k1 k2 => f3 k (by omega)) h7.1 rfl
  refine ⟨d.1, d.2.1, d.2.2, Or.inr ⟨rfl, j, ⟨by omega, h6, fun _ => by rw [← h5]; exact he⟩, h1, by rw [fb_fin_t h2]; exact c3, fun _ => ⟨by rw [hr.2.2, h5], by rw [hr.1, h1], by rw [hr.2.1, h3]⟩, fun z => absurd h2 (by omega)⟩⟩
/-- the end of a run -/
theorem fb_rnI.e {A : fb_At} {H : List fb_At} {t : Nat → Int32} {n o : Nat} {w w1 : fa_V} {rr r1 : fa_R} {j mt : Nat} {ex mo : Int32} (hn : n ≤ 60) (hA : fb_okA A) (hO : fb_txo (fa_sg t n) n o) (h : fb_rnI A H (fa_sg t n) o w rr j mt ex mo) (c : mo = 0 ∨ 60 ≤ j) (hk : fa_kd w rr w1 r1) : ∃ e, fb_runP A (fa_sg t n) o e ∧ ex = nI e ∧ fb_CV w1 r1 (fb_fin A (fa_sg t n) o e) (fb_push H A) ∧ fb_rpt A (fa_sg t n) o e (w1 0 6) (w1 0 4) (w1 0 5) := by
  obtain ⟨⟨bd, hbd, e0, cd⟩, a2, a3, a4⟩ := h
  have ho := hO.le hn
  rcases a4 with ⟨b1, -, b2, -⟩ | ⟨-, e, b2, b3, b4, b5⟩
  · rcases c with c | c
    · exact absurd c b1
    · omega
  · have ok : fb_okA (fb_fin A (fa_sg t n) o e) := by
      unfold fb_fin
      split
      · exact hA.ra _
      · exact hA.ra _
    have q : (∀ k, ¬ k = 113 → w1 k = w k) ∧ ∀ k, ¬ k = 114 → r1 k = rr k := by
      rcases hk with ⟨m, -, -, z2, z3⟩ | ⟨-, z2, -, -, z5⟩
      · exact ⟨fun k hk => by rw [z2, fa_u_k _ _ hk], fun k _ => by rw [z3]⟩
      · exact ⟨fun k _ => by rw [z2], z5⟩
    have s1 : fb_cA w1 r1 1 (fb_fin A (fa_sg t n) o e) := b4.congr (fun k k1 k2 => q.1 k (by omega)) (fa_RS_cong2 (fun w w1 w2 => q.2 w (by omega)) b4.1) (q.2 _ (by omega))
    exact ⟨e, b2, b3, ⟨ok, a2.of s1.2.1 (fun k _ k2 => q.2 k k2), s1, a3.push hA hbd e0 cd hk⟩, by rw [q.1 0 (by decide)]; exact b5⟩
