theorem fb_m_in7 (a : Int32) : (a < nI 0 ∨ nI 7 < a) ↔ (a < 0 ∨ ¬ a < nI 8) := by
  rw [fa_ltS (by decide)]
  exact Iff.rfl
theorem fb_m_lift0 {A : fb_At} {h a : Int32} (c : h < 0 ∨ ¬ h < nI 8) : fb_liftA A h a = ((-1 : Int32), A) := by
  cases e : fb_ix A.F a A.n with
  | none => exact fb_liftA_n e
  | some p => exact fb_liftA_h e c
theorem fb_m_seal0 {A : fb_At} {h a l : Int32} (c : h < 0 ∨ ¬ h < nI 8) : fb_sealA A h a l = ((-1 : Int32), A) := by
  cases e : fb_ix A.F a A.n with
  | none => exact fb_sealA_n e
  | some p => exact fb_sealA_h e c
