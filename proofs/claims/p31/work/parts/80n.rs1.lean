/-- a State as it is made: its files at their places -/
def fb_RS1 (r : fa_R) (b : Nat) : Prop := fa_RS r b ∧ ∀ p, p < 24 → r (b + 1) p = some (b + 8 + 2 * p)
theorem fb_RS1_cong {r r1 : fa_R} {b : Nat} (h : ∀ q, b ≤ q → q < b + 56 → r1 q = r q) (hR : fb_RS1 r b) : fb_RS1 r1 b :=
  ⟨fa_RS_cong h hR.1, fun p hp => by rw [h (b + 1) (by omega) (by omega)]; exact hR.2 p hp⟩
theorem fb_RS1.inj {r : fa_R} {b : Nat} (h : fb_RS1 r b) : fb_inj r b := fun p k hp hk e => by
  unfold fa_pf at e
  rw [h.2 p hp, h.2 k hk] at e
  have e' : b + 8 + 2 * p = b + 8 + 2 * k := e
  omega
