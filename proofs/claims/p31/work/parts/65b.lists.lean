/-! THE PROPERTY: lists -/
def fc_el (L : List (Int32 × Int32)) (k : Nat) : Int32 × Int32 := L.getD k ((0 : Int32), (0 : Int32))
theorem fc_el_at {L : List (Int32 × Int32)} {k : Nat} (hk : k < L.length) : fc_el L k = L[k] := by
  unfold fc_el
  rw [List.getD_eq_getElem?_getD, List.getElem?_eq_getElem hk]
  rfl
theorem fc_rs_0 {A : fb_At} {L : List (Int32 × Int32)} {x : Int32} (hP : L.Perm A.q) (hS : L.Pairwise fb_bef) (h8 : A.q.length ≤ 8) (h : fb_rsvP A (nI A.q.length) (nI 0) x) : x = (-6 : Int32) := by
  have z := h L hP hS
  rw [if_neg (fun y => y.elim (nI_pos (by omega)) (fun y => absurd y (by decide))), fa_N_nI (by omega), List.getElem?_eq_none (by rw [hP.length_eq]; exact Nat.le_refl _)] at z
  exact z
theorem fc_rs_1 {A : fb_At} {L : List (Int32 × Int32)} {x : Int32} {k : Nat} (hP : L.Perm A.q) (hS : L.Pairwise fb_bef) (h8 : A.q.length ≤ 8) (hk : k < A.q.length) (h : fb_rsvP A (nI k) (nI 0) x) : x = (fc_el L k).1 := by
  have hl := hP.length_eq
  have z := h L hP hS
  rw [if_neg (fun y => y.elim (nI_pos (by omega)) (fun y => absurd y (by decide))), fa_N_nI (by omega), List.getElem?_eq_getElem (by omega)] at z
  rw [fc_el_at (by omega)]
  exact z
theorem fc_rs_2 {A : fb_At} {L : List (Int32 × Int32)} {x : Int32} {k : Nat} (hP : L.Perm A.q) (hS : L.Pairwise fb_bef) (h8 : A.q.length ≤ 8) (hk : k < A.q.length) (h : fb_rsvP A (nI k) (nI 1) x) : x = (fc_el L k).2 := by
  have hl := hP.length_eq
  have z := h L hP hS
  rw [if_neg (fun y => y.elim (nI_pos (by omega)) (fun y => absurd y (by decide))), fa_N_nI (by omega), List.getElem?_eq_getElem (by omega)] at z
  rw [fc_el_at (by omega)]
  exact z
theorem fc_rs_q {A : fb_At} {L : List (Int32 × Int32)} {k : Nat} (hP : L.Perm A.q) (hk : k < A.q.length) : fc_el L k ∈ A.q := by
  have hl := hP.length_eq
  rw [fc_el_at (by omega)]
  exact hP.mem_iff.mp (List.getElem_mem (by omega))
theorem fc_rs_f {A : fb_At} {L : List (Int32 × Int32)} {k : Nat} (hok : fb_okA A) (hP : L.Perm A.q) (hk : k < A.q.length) : ¬ fb_filA A (fc_el L k).1 (nI 0) < 0 := by
  obtain ⟨-, -, p, hp, ep⟩ := hok.2.2.2.2 _ (fc_rs_q hP hk)
  rw [← ep, fc_fil1 hok hp, fb_filP_0 (by decide)]
  obtain ⟨kd, hkd, e⟩ := (hok.1.2.2.2.2.2 p hp).1
  rw [e]
  exact nI_pos (by omega)
theorem fc_rs_b {A : fb_At} {L : List (Int32 × Int32)} {k : Nat} (hP : L.Perm A.q) (hS : L.Pairwise fb_bef) (hk : k < A.q.length) (h0 : 0 < k) : fb_bef (fc_el L (k - 1)) (fc_el L k) := by
  have hl := hP.length_eq
  rw [fc_el_at (by omega), fc_el_at (by omega)]
  exact fb_srt_at hS (by omega) (by omega) (by omega)
theorem fc_trc {A : fb_At} {k w : Nat} (hk : k < A.m) (hm : A.m ≤ 12) (hw : w < 5) : fb_trcA A (nI k) (nI w) = A.T (A.m - 1 - k) w :=
  fb_trc2 (fun y => y.elim (nI_pos (by omega)) (fun y => y.elim (nI_pos (by omega)) (fun y => y (nI_lt hw (by decide))))) rfl rfl hk hm hw
theorem fc_trc0 {A : fb_At} {w : Nat} (hm : A.m ≤ 12) (hw : w < 5) : fb_trcA A (nI A.m) (nI w) = (-6 : Int32) :=
  fb_trc1 (fun y => y.elim (nI_pos (by omega)) (fun y => y.elim (nI_pos (by omega)) (fun y => y (nI_lt hw (by decide))))) (nI_nlt (Nat.le_refl _) (by omega))
