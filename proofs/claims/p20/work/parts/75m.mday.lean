/-! A DAY in the reference's row -/
theorem fb_m_morn {v v1 : fa_V} {w2 : Nat → Int32} {A : fb_At} (hok : fb_okA A) (hl : A.g 7 < nI 9999) (hc : fb_mA (v 398) A) (e : v1 = fa_u v 398 7 (v 398 7 + nI 1)) (ha : ∀ B, fb_okR B → fb_mA (v1 398) B → fb_mA w2 (fb_rsvA B (B.g 7))) : fb_mA w2 (fb_morn A) ∧ fb_okA (fb_morn A) ∧ w2 7 = A.g 7 + nI 1 := by
  have h1 : fb_mA (v1 398) (A.sg 7 (A.g 7 + nI 1)) := by rw [e, hc.g (k := 7) (by decide)]; exact hc.ug (by decide)
  have h2 := ha _ (hok.next hl) h1
  rw [← fb_morn_eq] at h2
  exact ⟨h2, hok.morn hl, (h2.g (k := 7) (by decide)).trans fb_morn7⟩
