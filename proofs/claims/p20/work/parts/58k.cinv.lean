/-! THE WHOLE ARCHIVE, as numbers: its State is A, its history H, the oldest first -/
def fb_J (r : fa_R) : Prop := ∀ b ∈ fa_bs, ¬ b = 57 → fb_inj r b
def fb_push (H : List fb_At) (A : fb_At) : List fb_At := if H.length < 4 then H ++ [A] else H.tail ++ [A]
def fb_rec (H : List fb_At) (A : fb_At) (y : Int32) : List fb_At := if 0 ≤ y ∨ y = (-6 : Int32) then fb_push H A else H
def fb_cH (v : fa_V) (r : fa_R) (H : List fb_At) : Prop := v 113 0 = nI H.length ∧ H.length ≤ 4 ∧ ∀ i (hi : i < H.length), fb_okA H[i] ∧ ∃ b, b ∈ fa_hb ∧ r 114 i = some b ∧ fb_cA v r b H[i]
def fb_CV (v : fa_V) (r : fa_R) (A : fb_At) (H : List fb_At) : Prop := fb_okA A ∧ fb_J r ∧ fb_cA v r 1 A ∧ fb_cH v r H
theorem fb_cH.cong {v v1 : fa_V} {r r1 : fa_R} {H : List fb_At} (h : fb_cH v r H) (h0 : v1 113 0 = v 113 0) (h1 : ∀ k, 115 ≤ k → k < 395 → v1 k = v k) (h2 : ∀ k, 114 ≤ k → k < 395 → r1 k = r k) : fb_cH v1 r1 H := by
  refine ⟨h0.trans h.1, h.2.1, fun i hi => ?_⟩
  obtain ⟨a, b, hb, e, c⟩ := h.2.2 i hi
  have lo := fa_hb_lo b hb
  exact ⟨a, b, hb, by rw [h2 114 (by omega) (by omega)]; exact e, c.congr (fun k k1 k2 => h1 k (by omega) (by omega)) (fa_RS_cong2 (fun q q1 q2 => h2 q (by omega) (by omega)) c.1) (h2 _ (by omega) (by omega))⟩
/-- a copy of the State stands behind the history -/
def fb_dr (v v1 : fa_V) (r : fa_R) : Prop := ∃ bd, bd ∈ fa_hb ∧ r 114 (fa_N (v 113 0)) = some bd ∧ fa_fr bd (bd + 56) v v1 ∧ ∀ A, fb_inj r bd → fb_cA v r 1 A → fb_cA v1 r bd A
theorem fb_CV.draft {v v1 : fa_V} {r : fa_R} {A : fb_At} {H : List fb_At} (hC : fa_CI v r) (h : fb_CV v r A H) (hd : fb_dr v v1 r) : fb_CV v1 r A H ∧ ∃ bd, bd ∈ fa_hb ∧ r 114 H.length = some bd ∧ fb_cA v1 r bd A := by
  obtain ⟨h1, h2, h3, h4⟩ := h
  obtain ⟨bd, hbd, e, f, c⟩ := hd
  have lo := fa_hb_lo bd hbd
  have l4 := h4.2.1
  rw [h4.1, fa_N_nI (by omega)] at e
  refine ⟨⟨h1, h2, h3.congr (fun k k1 k2 => f k (by omega)) h3.1 rfl, ⟨by rw [f 113 (by omega)]; exact h4.1, l4, fun i hi => ?_⟩⟩, bd, hbd, e, c A (h2 bd (fa_hb_bs bd hbd) (by omega)) h3⟩
  obtain ⟨a, b, hb, e2, c2⟩ := h4.2.2 i hi
  have ne : ¬ b = bd := fun z => by
    rw [z] at e2
    have := fa_CI.J hC i H.length (by omega) (by omega) (by rw [e2, e])
    omega
  have d := fa_bs_d b (fa_hb_bs b hb) bd (fa_hb_bs bd hbd)
  exact ⟨a, b, hb, e2, c2.congr (fun k k1 k2 => f k (by omega)) c2.1 rfl⟩
