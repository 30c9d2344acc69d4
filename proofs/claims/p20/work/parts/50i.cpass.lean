/-! WHAT HOLDS OF EVERY ARCHIVE STAYS, over days -/
theorem fb_okF.cong {g g2 : Nat → Int32} {n : Nat} {F F2 : Nat → Nat → Int32} (h : fb_okF g n F) (h7 : ∃ d, d ≤ 9999 ∧ g2 7 = nI d) (h8 : g2 8 = g 8) (hF : ∀ p i, p < n → ¬ i = 4 → ¬ i = 5 → F2 p i = F p i) (h4 : ∀ p, p < n → F2 p 4 = F p 4 ∨ 0 ≤ F2 p 4) : fb_okF g2 n F2 := by
  obtain ⟨h1, h2, h3, k4, h5, h6⟩ := h
  refine ⟨h1, h7, by rw [h8]; exact h3, fun p k hpk hk => ?_, fun p hp => ?_, fun p hp => ?_⟩
  · rw [hF p 0 (by omega) (by decide) (by decide), hF k 0 hk (by decide) (by decide)]; exact k4 p k hpk hk
  · rw [hF p 0 hp (by decide) (by decide), h8]; exact h5 p hp
  · obtain ⟨q1, q2, q3, q4⟩ := h6 p hp
    refine ⟨by rw [hF p 1 hp (by decide) (by decide)]; exact q1, ?_, ?_, fun h hh => by rw [hF p (7 + h) hp (by omega) (by omega)]; exact q4 h hh⟩
    · rcases h4 p hp with z | z
      · rw [z]; exact q2
      · exact Or.inr z
    · rw [hF p 6 hp (by decide) (by decide)]
      rcases q3 with z | ⟨k, hk, z⟩
      · exact Or.inl z
      · exact Or.inr ⟨k, hk, by rw [hF k 0 hk (by decide) (by decide)]; exact z⟩
theorem fb_sg_n {A : fb_At} {k j : Nat} {x : Int32} (h : ¬ j = k) : (A.sg k x).g j = A.g j := by
  show fb_s1 A.g k x j = A.g j
  exact fb_s1_n h
theorem fb_rsv_g {A : fb_At} {d : Int32} {j : Nat} (h : ¬ j = 11) : (fb_rsvA A d).g j = A.g j := by
  show fb_s1 A.g 11 (A.g 11 + nI (A.q.countP (fun y => decide (y.2 = d)))) j = A.g j
  exact fb_s1_n h
theorem fb_okA.next {A : fb_At} (h : fb_okA A) (hl : A.g 7 < nI 9999) : fb_okR (A.sg 7 (A.g 7 + nI 1)) := by
  obtain ⟨h1, h2, h3, h4, h5⟩ := h
  obtain ⟨d, hd, e⟩ := h1.2.1
  have hl2 : d < 9999 := by rw [e] at hl; exact fa_ltN' (by omega) (by omega) hl
  have g7 : (A.sg 7 (A.g 7 + nI 1)).g 7 = nI (d + 1) := by
    show fb_s1 A.g 7 (A.g 7 + nI 1) 7 = _
    rw [fb_s1_s, e, nI_add]
  refine ⟨h1.cong ⟨d + 1, by omega, g7⟩ (fb_sg_n (by decide)) (fun _ _ _ _ _ => rfl) (fun _ _ => Or.inl rfl), h2, h3, h4, fun y hy => ?_⟩
  obtain ⟨a, c, k, hk, ek⟩ := h5 y hy
  refine ⟨?_, c, k, hk, ek⟩
  rw [g7]
  rw [e] at a
  obtain ⟨m, hm, em⟩ := nI_of (x := y.2) (fun z => absurd (Int32.lt_trans a z) (Int32.not_lt.mpr (nI_pos' (by omega))))
  rw [em] at a ⊢
  exact (nI_leI (by omega) hm).mpr (fa_ltN' (by omega) hm a)
theorem fb_rsvF {A : fb_At} {d : Int32} {p i : Nat} (h4 : ¬ i = 4) (h5 : ¬ i = 5) : (fb_rsvA A d).F p i = A.F p i := by
  show (if (A.F p 0, d) ∈ A.q then (if i = 4 then d else if i = 5 then A.F p 5 + nI 1 else A.F p i) else A.F p i) = A.F p i
  by_cases z : (A.F p 0, d) ∈ A.q
  · rw [if_pos z, if_neg h4, if_neg h5]
  · rw [if_neg z]
theorem fb_okR.rsv {A : fb_At} (h : fb_okR A) : fb_okA (fb_rsvA A (A.g 7)) := by
  obtain ⟨h1, h2, h3, h4, h5⟩ := h
  obtain ⟨d, hd, e⟩ := h1.2.1
  have g7 : (fb_rsvA A (A.g 7)).g 7 = A.g 7 := fb_rsv_g (by decide)
  refine ⟨h1.cong ⟨d, hd, g7.trans e⟩ (fb_rsv_g (by decide)) (fun p i _ a c => fb_rsvF a c) (fun p _ => ?_), h2, Nat.le_trans (List.length_filter_le _ _) h3, h4.sublist List.filter_sublist, fun y hy => ?_⟩
  · show (if (A.F p 0, A.g 7) ∈ A.q then A.g 7 else A.F p 4) = A.F p 4 ∨ 0 ≤ (if (A.F p 0, A.g 7) ∈ A.q then A.g 7 else A.F p 4)
    by_cases z : (A.F p 0, A.g 7) ∈ A.q
    · rw [if_pos z, e]; exact Or.inr (nI_pos' (by omega))
    · rw [if_neg z]; exact Or.inl rfl
  · have hm := List.mem_filter.mp hy
    obtain ⟨a, c, k, hk, ek⟩ := h5 y hm.1
    rw [g7]
    refine ⟨Int32.lt_of_le_of_ne a (fun z => (of_decide_eq_true hm.2) z.symm), c, k, hk, ?_⟩
    rw [fb_rsvF (by decide) (by decide)]; exact ek
theorem fb_kp_t1 {P : Nat → Bool} {F : Nat → Nat → Int32} {k : Nat} (h : P k = true) : (fb_kp P F (k + 1)).1 = (fb_kp P F k).1 + 1 := by rw [fb_kp_t h]
theorem fb_kp_new {P : Nat → Bool} {F : Nat → Nat → Int32} {k : Nat} (h : P k = true) : (fb_kp P F (k + 1)).2 (fb_kp P F k).1 = F k := by
  rw [fb_kp_t h]
  funext i
  exact if_pos rfl
theorem fb_kp_old {P : Nat → Bool} {F : Nat → Nat → Int32} {k p : Nat} (h : P k = true) (hp : ¬ p = (fb_kp P F k).1) : (fb_kp P F (k + 1)).2 p = (fb_kp P F k).2 p := by
  rw [fb_kp_t h]
  funext i
  exact if_neg hp
theorem fb_kp_spec {P : Nat → Bool} {F : Nat → Nat → Int32} : ∀ k, (∀ i j, i < j → j < (fb_kp P F k).1 → ∃ s t, s < t ∧ t < k ∧ (fb_kp P F k).2 i = F s ∧ (fb_kp P F k).2 j = F t) ∧ (∀ j, j < (fb_kp P F k).1 → ∃ s, s < k ∧ P s = true ∧ (fb_kp P F k).2 j = F s) ∧ ∀ s, s < k → P s = true → ∃ j, j < (fb_kp P F k).1 ∧ (fb_kp P F k).2 j = F s
  | 0 => ⟨fun i j _ hj => absurd hj (Nat.not_lt_zero _), fun j hj => absurd hj (Nat.not_lt_zero _), fun s hs => absurd hs (Nat.not_lt_zero _)⟩
  | k + 1 => by
    obtain ⟨h1, h2, h3⟩ := fb_kp_spec (P := P) (F := F) k
    by_cases h : P k = true
    · have e1 := fb_kp_t1 (F := F) h
      refine ⟨fun i j hij hj => ?_, fun j hj => ?_, fun s hs hp => ?_⟩
      · by_cases z : j = (fb_kp P F k).1
        · obtain ⟨s, hs, -, es⟩ := h2 i (by omega)
          exact ⟨s, k, hs, by omega, (fb_kp_old h (by omega)).trans es, by rw [z]; exact fb_kp_new h⟩
        · obtain ⟨s, t, a, c, d, e⟩ := h1 i j hij (by omega)
          exact ⟨s, t, a, by omega, (fb_kp_old h (by omega)).trans d, (fb_kp_old h z).trans e⟩
      · by_cases z : j = (fb_kp P F k).1
        · exact ⟨k, by omega, h, by rw [z]; exact fb_kp_new h⟩
        · obtain ⟨s, a, c, d⟩ := h2 j (by omega)
          exact ⟨s, by omega, c, (fb_kp_old h z).trans d⟩
      · by_cases z : s = k
        · exact ⟨(fb_kp P F k).1, by omega, by rw [z]; exact fb_kp_new h⟩
        · obtain ⟨j, a, c⟩ := h3 s (by omega) hp
          exact ⟨j, by omega, (fb_kp_old h (by omega)).trans c⟩
    · rw [fb_kp_f h]
      refine ⟨fun i j hij hj => ?_, fun j hj => ?_, fun s hs hp => ?_⟩
      · obtain ⟨s, t, a, c, d, e⟩ := h1 i j hij hj
        exact ⟨s, t, a, by omega, d, e⟩
      · obtain ⟨s, a, c⟩ := h2 j hj
        exact ⟨s, by omega, c⟩
      · exact h3 s (by
          have : ¬ s = k := fun e => h (by rw [← e]; exact hp)
          omega) hp
theorem fb_bt_m {P : Nat → Bool} {F : Nat → Nat → Int32} {now : Int32} {t : Nat × (Nat → Nat → Int32)} (h : t.1 ≤ 12) : ∀ k, (fb_bt P F now t k).2.2.1 ≤ 12
  | 0 => h
  | k + 1 => by
    have z := fb_bt_m h (P := P) (F := F) (now := now) k
    by_cases c : P k = true
    · rw [fb_bt_t c]; exact z
    · rw [fb_bt_f c]
      show (fb_lv now (F k) (fb_bt P F now t k).2.2).1 ≤ 12
      unfold fb_lv
      split
      · exact Nat.le_refl 12
      · show _ + 1 ≤ 12
        omega
theorem fb_own_res {A : fb_At} {p : Nat} {y : Int32 × Int32} (h8 : A.q.length ≤ 8) (hy : y ∈ A.q) (e : A.F p 0 = y.1) : ¬ fb_ownA A p = 0 := by
  have c : 0 < A.q.countP (fun z => decide (z.1 = A.F p 0)) := List.countP_pos_iff.mpr ⟨y, hy, decide_eq_true e.symm⟩
  have c2 := List.countP_le_length (p := fun z : Int32 × Int32 => decide (z.1 = A.F p 0)) (l := A.q)
  unfold fb_ownA fb_nres
  split
  · split
    · rw [if_neg (nI_nle c (by omega))]; decide
    · decide
  · decide
theorem fb_okA.burn {A : fb_At} (h : fb_okA A) : fb_okA (fb_burnA A).2 := by
  obtain ⟨⟨h1, h2, h3, h4, h5, h6⟩, h7, h8, h9, h10⟩ := id h
  obtain ⟨s1, s2, s3⟩ := fb_kp_spec (P := fb_stb A) (F := A.F) A.n
  have hk := fb_kp_le (P := fb_stb A) (F := A.F) A.n
  have g7 : (fb_burnA A).2.g 7 = A.g 7 := by
    show fb_s1 (fb_s1 (fb_s1 A.g 9 (A.g 9 + (fb_bt (fb_stb A) A.F (A.g 7) (A.m, A.T) A.n).1)) 10 (A.g 10 + (fb_bt (fb_stb A) A.F (A.g 7) (A.m, A.T) A.n).2.1)) 13 (A.g 13 + nI 1) 7 = _
    rw [fb_s1_n (by decide), fb_s1_n (by decide), fb_s1_n (by decide)]
  have g8 : (fb_burnA A).2.g 8 = A.g 8 := by
    show fb_s1 (fb_s1 (fb_s1 A.g 9 (A.g 9 + (fb_bt (fb_stb A) A.F (A.g 7) (A.m, A.T) A.n).1)) 10 (A.g 10 + (fb_bt (fb_stb A) A.F (A.g 7) (A.m, A.T) A.n).2.1)) 13 (A.g 13 + nI 1) 8 = _
    rw [fb_s1_n (by decide), fb_s1_n (by decide), fb_s1_n (by decide)]
  have keep : ∀ t, t < A.n → fb_stay A t → ∃ j, j < (fb_burnA A).2.n ∧ (fb_burnA A).2.F j = A.F t := fun t ht hs => s3 t ht (fb_stb_t.mpr hs)
  refine ⟨⟨Nat.le_trans hk h1, by rw [g7]; exact h2, by rw [g8]; exact h3, fun i j hij hj => ?_, fun j hj => ?_, fun j hj => ?_⟩, fb_bt_m h7 A.n, h8, h9, fun y hy => ?_⟩
  · obtain ⟨s, t, a, c, d, e⟩ := s1 i j hij hj
    show (fb_kp (fb_stb A) A.F A.n).2 i 0 < (fb_kp (fb_stb A) A.F A.n).2 j 0
    rw [d, e]; exact h4 s t a c
  · obtain ⟨s, a, c, d⟩ := s2 j hj
    rw [g8]
    show 0 ≤ (fb_kp (fb_stb A) A.F A.n).2 j 0 ∧ (fb_kp (fb_stb A) A.F A.n).2 j 0 < A.g 8
    rw [d]; exact h5 s a
  · obtain ⟨s, a, c, d⟩ := s2 j hj
    have e : (fb_burnA A).2.F j = A.F s := d
    obtain ⟨q1, q2, q3, q4⟩ := h6 s a
    refine ⟨by rw [e]; exact q1, by rw [e]; exact q2, ?_, fun k hk => by rw [e]; exact q4 k hk⟩
    rw [e]
    rcases q3 with z | ⟨t, ht, z⟩
    · exact Or.inl z
    · obtain ⟨j2, hj2, e2⟩ := keep t ht (fb_stay.clos.2 s t a ht (fb_stb_t.mp c) z)
      exact Or.inr ⟨j2, hj2, by rw [e2]; exact z⟩
  · obtain ⟨a, c, k, hk2, ek⟩ := h10 y hy
    obtain ⟨j, hj, ej⟩ := keep k hk2 (fb_stay.own hk2 (fb_own_res h8 hy ek))
    rw [g7]
    exact ⟨a, c, j, hj, by rw [ej]; exact ek⟩
theorem fb_burn7 {A : fb_At} : (fb_burnA A).2.g 7 = A.g 7 := by
  show fb_s1 (fb_s1 (fb_s1 A.g 9 (A.g 9 + (fb_bt (fb_stb A) A.F (A.g 7) (A.m, A.T) A.n).1)) 10 (A.g 10 + (fb_bt (fb_stb A) A.F (A.g 7) (A.m, A.T) A.n).2.1)) 13 (A.g 13 + nI 1) 7 = _
  rw [fb_s1_n (by decide), fb_s1_n (by decide), fb_s1_n (by decide)]
/-- the state of the new day, its reservations treated -/
def fb_morn (A : fb_At) : fb_At := fb_rsvA (A.sg 7 (A.g 7 + nI 1)) (A.g 7 + nI 1)
theorem fb_morn7 {A : fb_At} : (fb_morn A).g 7 = A.g 7 + nI 1 := by
  rw [show fb_morn A = fb_rsvA (A.sg 7 (A.g 7 + nI 1)) (A.g 7 + nI 1) from rfl, fb_rsv_g (by decide)]
  exact fb_s1_s A.g 7 (A.g 7 + nI 1)
theorem fb_morn_eq {A : fb_At} : fb_morn A = fb_rsvA (A.sg 7 (A.g 7 + nI 1)) ((A.sg 7 (A.g 7 + nI 1)).g 7) := by
  rw [show (A.sg 7 (A.g 7 + nI 1)).g 7 = A.g 7 + nI 1 from fb_s1_s A.g 7 (A.g 7 + nI 1)]
  rfl
theorem fb_okA.morn {A : fb_At} (h : fb_okA A) (hl : A.g 7 < nI 9999) : fb_okA (fb_morn A) := by
  rw [fb_morn_eq]
  exact (h.next hl).rsv
theorem fb_dayA_0 {A : fb_At} (c : ¬ (A.g 7 + nI 1) - (A.g 7 + nI 1) / nI 90 * nI 90 = 0) : fb_dayA A = (nI 0, fb_morn A) := if_neg c
theorem fb_dayA_1 {A : fb_At} (c : (A.g 7 + nI 1) - (A.g 7 + nI 1) / nI 90 * nI 90 = 0) : fb_dayA A = fb_burnA (fb_morn A) := if_pos c
theorem fb_okA.day {A : fb_At} (h : fb_okA A) (hl : A.g 7 < nI 9999) : fb_okA (fb_dayA A).2 ∧ (fb_dayA A).2.g 7 = A.g 7 + nI 1 := by
  by_cases c : (A.g 7 + nI 1) - (A.g 7 + nI 1) / nI 90 * nI 90 = 0
  · rw [fb_dayA_1 c]
    exact ⟨(h.morn hl).burn, fb_burn7.trans fb_morn7⟩
  · rw [fb_dayA_0 c]
    exact ⟨h.morn hl, fb_morn7⟩
theorem fb_okA.days {A : fb_At} {d : Nat} (h : fb_okA A) (e : A.g 7 = nI d) : ∀ k, d + k ≤ 9999 → fb_okA (fb_daysA A k).2 ∧ (fb_daysA A k).2.g 7 = nI (d + k)
  | 0, _ => ⟨h, e⟩
  | k + 1, hk => by
    have z := h.days e k (by omega)
    have y := z.1.day (by rw [z.2]; exact nI_lt (by omega) (by omega))
    exact ⟨y.1, by show (fb_dayA (fb_daysA A k).2).2.g 7 = _; rw [y.2, z.2, nI_add]; rfl⟩
/-- the new day, as the class's State holds it -/
theorem fb_c_morn {v v1 v2 : fa_V} {r : fa_R} {b : Nat} {A : fb_At} (hok : fb_okA A) (hl : A.g 7 < nI 9999) (hc : fb_cA v r b A) (e : v1 = fa_u v b 0 (v b 0 + nI 1)) (ha : ∀ B, fb_okR B → fb_cA v1 r b B → fb_cA v2 r b (fb_rsvA B (B.g 7))) : fb_cA v2 r b (fb_morn A) ∧ fb_okA (fb_morn A) ∧ v2 b 0 = A.g 7 + nI 1 := by
  have h1 : fb_cA v1 r b (A.sg 7 (A.g 7 + nI 1)) := by rw [e, hc.now]; exact hc.unow
  have h2 := ha _ (hok.next hl) h1
  rw [← fb_morn_eq] at h2
  exact ⟨h2, hok.morn hl, h2.now.trans fb_morn7⟩
theorem fb_passA_1 {A : fb_At} {d : Int32} (h : d < nI 1 ∨ ¬ d ≤ nI 400) : fb_passA A d = ((-2 : Int32), A) := if_pos h
theorem fb_passA_2 {A : fb_At} {d : Int32} (h : ¬ (d < nI 1 ∨ ¬ d ≤ nI 400)) (h2 : ¬ A.g 7 + d ≤ nI 9999) : fb_passA A d = ((-5 : Int32), A) := by rw [fb_passA, if_neg h, if_pos h2]
theorem fb_passA_3 {A : fb_At} {d : Int32} {k : Nat} (h : ¬ (d < nI 1 ∨ ¬ d ≤ nI 400)) (h2 : A.g 7 + d ≤ nI 9999) (e : d = nI k) (hk : k < 2 ^ 31) : fb_passA A d = fb_daysA A k := by rw [fb_passA, if_neg h, if_neg (fun z => z h2), e, fa_N_nI hk]
