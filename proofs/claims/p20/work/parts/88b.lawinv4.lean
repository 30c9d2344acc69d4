/-! BOTH ARCHIVES ALIKE -/
def fb_RE (v : fa_V) : Prop := (v 0 6 = 0 ∧ v 397 8 = nI 0) ∨ (¬ v 0 6 = 0 ∧ v 397 8 = nI 1 ∧ v 404 0 = v 0 4 ∧ v 404 1 = v 0 5 ∧ v 404 2 = v 0 6)
theorem fb_RE.cong {v v1 : fa_V} (h : fb_RE v) (h0 : v1 0 = v 0) (h8 : v1 397 8 = v 397 8) (h4 : v1 404 = v 404) : fb_RE v1 := by
  unfold fb_RE at h ⊢
  rw [h0, h8, h4]
  exact h
theorem fb_CV.rsn {v v1 : fa_V} {r : fa_R} {A : fb_At} {H : List fb_At} (h : fb_CV v r A H) (hf : fa_rsn 1 v v1) (f : fa_fr 9 57 v v1) : fb_CV v1 r A H :=
  ⟨h.1, h.2.1, h.2.2.1.rsn hf, h.2.2.2.cong (by rw [f 113 (by omega)]) (fun k k1 k2 => f k (by omega)) (fun _ _ _ => rfl)⟩
theorem fb_CV.fut {v v1 : fa_V} {r r1 : fa_R} {A : fb_At} {H : List fb_At} (h : fb_CV v r A H) (f : fa_fr 57 113 v v1) (g : ∀ k, ¬ k = 58 → r1 k = r k) : fb_CV v1 r1 A H :=
  ⟨h.1, fun b hb h57 => (h.2.1 b hb h57).congr (g _ (by omega)), h.2.2.1.congr (fun k k1 k2 => f k (by omega)) (fa_RS_cong2 (fun q q1 q2 => g q (by omega)) h.2.2.1.1) (g _ (by omega)), h.2.2.2.cong (by rw [f 113 (by omega)]) (fun k k1 k2 => f k (by omega)) (fun k k1 k2 => g k (by omega))⟩
def fb_A0 : fb_At := (fun k => if k < 7 then fa_stV 0 k else 0, (0, fun _ _ => 0), [], (0, fun _ _ => 0))
theorem fb_okA0 : fb_okA fb_A0 :=
  ⟨⟨Nat.zero_le _, ⟨0, by decide, rfl⟩, ⟨0, by decide, rfl⟩, fun p k _ hk => absurd hk (Nat.not_lt_zero _), fun p hp => absurd hp (Nat.not_lt_zero _), fun p hp => absurd hp (Nat.not_lt_zero _)⟩, Nat.zero_le _, Nat.zero_le _, List.nodup_nil, fun y hy => absurd hy (by
    show ¬ y ∈ ([] : List (Int32 × Int32))
    simp)⟩
theorem fb_CV_start {v : fa_V} {r : fa_R} (h1 : fb_RS1 r 1) (hH : ∀ i, i < 5 → fb_RS1 r (115 + 56 * i)) (z1 : ∀ i, i < 8 → v 1 i = 0) (z2 : v (1 + 2) 0 = 0) (z5 : v (1 + 5) 0 = 0) (z7 : ∀ i, i < 7 → v (1 + 7) i = fa_stV 0 i) (z113 : v 113 0 = 0) : fb_CV v r fb_A0 [] := by
  refine ⟨fb_okA0, fun b hb h57 => ?_, ⟨h1.1, h1.inj, ⟨fun k hk => ?_, z1 0 (by decide), fun k k8 k14 => ?_⟩, ⟨Nat.zero_le _, z1 1 (by decide), fun p i hp => absurd hp (Nat.not_lt_zero _)⟩, ⟨[], ⟨z2, Nat.zero_le _, fun p y e => absurd e (by simp)⟩, List.Perm.refl _, List.Pairwise.nil⟩, ⟨Nat.zero_le _, z5, fun p i hp => absurd hp (Nat.not_lt_zero _)⟩⟩, z113, Nat.zero_le _, fun i hi => absurd hi (Nat.not_lt_zero _)⟩
  · rcases fa_bs_cases b hb with e | e | ⟨j, hj, e⟩
    · subst e; exact h1.inj
    · exact absurd e h57
    · subst e; exact (hH j hj).inj
  · show _ = if k < 7 then fa_stV 0 k else 0
    rw [if_pos hk]
    exact z7 k hk
  · show _ = if k < 7 then fa_stV 0 k else 0
    rw [if_neg (by omega)]
    exact z1 (k - 6) (by omega)
theorem fb_MV_start {v : fa_V} (hs7 : ∀ i, 7 ≤ i → v 398 i = 0) (hs0 : ∀ i, i < 7 → v 398 i = fa_stV 0 i) (h10 : v 397 10 = 0) : fb_MV v fb_A0 [] := by
  refine ⟨fb_okA0, ⟨fun k hk => ?_, ⟨Nat.zero_le _, hs7 14 (by decide), fun p i hp => absurd hp (Nat.not_lt_zero _)⟩, ⟨[], ⟨hs7 15 (by decide), Nat.zero_le _, fun p y e => absurd e (by simp)⟩, List.Perm.refl _⟩, ⟨Nat.zero_le _, hs7 16 (by decide), fun p i hp => absurd hp (Nat.not_lt_zero _)⟩⟩, h10, Nat.zero_le _, fun i hi => absurd hi (Nat.not_lt_zero _)⟩
  show _ = if k < 7 then fa_stV 0 k else 0
  by_cases z : k < 7
  · rw [if_pos z]; exact hs0 k z
  · rw [if_neg z]; exact hs7 k (by omega)
theorem fb_why_eq {v : fa_V} {a x y : Int32} (h : fb_RE v) (hx : x = fb_whyA (v 0 6) (v 0 4) (v 0 5) a) (hy : y = fb_whm (v 397 8) (v 404) a) : x = y := by
  rw [hx, hy]
  unfold fb_whyA fb_whm
  by_cases c : a < 0 ∨ ¬ a ≤ nI 2
  · rw [if_pos c, if_pos c]
  · rw [if_neg c, if_neg c]
    obtain ⟨j, hj, ej⟩ := fa_natLe (x := a) (N := 2) (by decide) (fun z => c (Or.inl z)) (fun z => c (Or.inr (Int32.not_le.mpr z)))
    rcases h with ⟨h1, h2⟩ | ⟨h1, h2, h3, h4, h5⟩
    · rw [if_pos h1, if_pos (show v 397 8 = 0 from h2)]
    · have n8 : ¬ v 397 8 = 0 := by rw [h2]; decide
      rw [if_neg h1, if_neg n8, ej, fa_N_nI (by omega)]
      have : j = 0 ∨ j = 1 ∨ j = 2 := by omega
      rcases this with z | z | z
      · rw [z, if_pos (by decide), h3]
      · rw [z, if_neg (by decide), if_pos (by decide), h4]
      · rw [z, if_neg (by decide), if_neg (by decide), h5]
theorem fb_er_ne {y : Int32} (h : fb_er y) : ¬ -(y) = 0 := fun z => by
  have e : y = 0 := by
    have q := congrArg (fun x : Int32 => -x) z
    have q' : -(-y) = -(0 : Int32) := q
    rw [Int32.neg_neg] at q'
    rw [q']
    decide
  exact h (Or.inl (by rw [e]; decide))
theorem fb_rsv_eq {v : fa_V} {r : fa_R} {A : fb_At} {k w x y : Int32} (hc : fb_cA v r 1 A) (hx : fb_rsvP A k w x) (hy : fb_rsvP A k w y) : x = y := by
  obtain ⟨L, -, hP, hS⟩ := hc.2.2.2.2.1
  rw [hx L hP hS, hy L hP hS]
theorem fb_app_k {v v1 : fa_V} {R X1 X2 X3 Y1 Y2 Y3 : Prop} {q : Int32} (h : (R ∧ X1 ∧ v1 = v) ∨ (Y1 ∧ ((X2 ∧ Y2 ∧ v1 = v) ∨ (X3 ∧ Y3 ∧ v1 = fa_put7 v q)))) : v1 404 = v 404 ∧ v1 398 = v 398 ∧ v1 401 = v 401 ∧ v1 397 10 = v 397 10 := by
  rcases h with ⟨-, -, e⟩ | ⟨-, ⟨-, -, e⟩ | ⟨-, -, e⟩⟩
  · rw [e]; exact ⟨rfl, rfl, rfl, rfl⟩
  · rw [e]; exact ⟨rfl, rfl, rfl, rfl⟩
  · rw [e, fa_put7]
    refine ⟨?_, ?_, ?_, ?_⟩
    · rw [fa_u_k _ _ (by decide), fa_u_k _ _ (by decide)]
    · rw [fa_u_k _ _ (by decide), fa_u_k _ _ (by decide)]
    · rw [fa_u_k _ _ (by decide), fa_u_k _ _ (by decide)]
    · rw [fa_u_n _ _ (by omega), fa_u_n _ _ (by omega)]
theorem fb_clr_k {v v1 : fa_V} (e : v1 = fa_u v 397 9 (nI 0)) : v1 404 = v 404 ∧ v1 398 = v 398 ∧ v1 401 = v 401 ∧ v1 397 10 = v 397 10 := by
  rw [e]
  refine ⟨?_, ?_, ?_, ?_⟩
  · rw [fa_u_k _ _ (by decide)]
  · rw [fa_u_k _ _ (by decide)]
  · rw [fa_u_k _ _ (by decide)]
  · rw [fa_u_n _ _ (by decide)]
/-- both runs -/
theorem fb_run_both {v v1 v2 : fa_V} {r r1 : fa_R} {A : fb_At} {H : List fb_At} {x y : Int32} (hE : fa_TE v1) (hl : v1 395 1 = v 395 1) (ht : v1 396 = v 396) (hV : fb_CV v r A H) (hW : fb_MV v A H) (hR : fb_RE v) (f1 : fa_fr 0 396 v v1) (f2 : fa_fr 397 405 v1 v2)
    (hx : ∀ A H, fb_CV v r A H → (∃ j y, j ≤ 20 ∧ fa_FR (fa_sg (v 396) (fa_N (v 395 1))) (fa_N (v 395 1)) j y ∧ ¬ y = (-6 : Int32) ∧ x = (-3 : Int32) ∧ fb_CV v1 r1 A H ∧ v1 0 = v 0) ∨ (∃ j e, j ≤ 20 ∧ fa_FR (fa_sg (v 396) (fa_N (v 395 1))) (fa_N (v 395 1)) j (-6 : Int32) ∧ fb_runP A (fa_sg (v 396) (fa_N (v 395 1))) (j + 1) e ∧ x = nI e ∧ fb_CV v1 r1 (fb_fin A (fa_sg (v 396) (fa_N (v 395 1))) (j + 1) e) (fb_push H A) ∧ fb_rpt A (fa_sg (v 396) (fa_N (v 395 1))) (j + 1) e (v1 0 6) (v1 0 4) (v1 0 5))) (hy : ∀ A H, fb_MV v1 A H → (∃ j z, j ≤ 20 ∧ fa_FR (fa_sg (v1 405) (fa_N (v1 397 9))) (fa_N (v1 397 9)) j z ∧ ¬ z = (-6 : Int32) ∧ y = (-3 : Int32) ∧ fb_MV v2 A H ∧ v2 397 8 = v1 397 8 ∧ v2 404 = v1 404) ∨ (∃ j e, j ≤ 20 ∧ fa_FR (fa_sg (v1 405) (fa_N (v1 397 9))) (fa_N (v1 397 9)) j (-6 : Int32) ∧ fb_runP A (fa_sg (v1 405) (fa_N (v1 397 9))) (j + 1) e ∧ y = nI e ∧ fb_MV v2 (fb_fin A (fa_sg (v1 405) (fa_N (v1 397 9))) (j + 1) e) (fb_push H A) ∧ fb_rpm A (fa_sg (v1 405) (fa_N (v1 397 9))) (j + 1) e (v2 397 8) (v2 404 0) (v2 404 1) (v2 404 2))) : x = y ∧ ∃ A2 H2, fb_CV v2 r1 A2 H2 ∧ fb_MV v2 A2 H2 ∧ fb_RE v2 := by
  have hx' := hx A H hV
  have hy' := hy A H (hW.cong (fun i _ => congrFun (f1 398 (by omega)) i) (congrFun (f1 397 (by omega)) 10) (f1 401 (by omega)))
  rw [show fa_N (v1 397 9) = fa_N (v 395 1) by rw [← hE.1, hl], show fa_sg (v1 405) (fa_N (v 395 1)) = fa_sg (v 396) (fa_N (v 395 1)) by (have z := hE.sg; rw [← hE.1, hl, ht] at z; exact z.symm)] at hy'
  rcases hx' with ⟨j, y1, hj, hF, hn, ex, c1, c2⟩ | ⟨j, e, hj, hF, hr, ex, c1, c2⟩
  · rcases hy' with ⟨k, y2, hk, hG, gn, ey, m1, m2, m3⟩ | ⟨k, e2, hk, hG, hr2, ey, m1, m2⟩
    · exact ⟨ex.trans ey.symm, A, H, c1.cong (fun k k1 k2 => f2 k (by omega)), m1, hR.cong (by rw [f2 0 (by omega)]; exact c2) (m2.trans (congrFun (f1 397 (by omega)) 8)) (m3.trans (f1 404 (by omega)))⟩
    · exact absurd (hF.uniq hG).2 hn
  · rcases hy' with ⟨k, y2, hk, hG, gn, ey, m1, m2, m3⟩ | ⟨k, e2, hk, hG, hr2, ey, m1, m2⟩
    · exact absurd (hF.uniq hG).2.symm gn
    · obtain ⟨ejk, -⟩ := hF.uniq hG
      subst ejk
      have ee := hr.uniq hr2
      subst ee
      refine ⟨ex.trans ey.symm, _, _, c1.cong (fun k k1 k2 => f2 k (by omega)), m1, ?_⟩
      unfold fb_RE
      rw [f2 0 (by omega)]
      by_cases z : e < j + 1
      · obtain ⟨q1, q2, q3⟩ := c2.1 z
        obtain ⟨p1, p2, p3, p4⟩ := m2.1 z
        refine Or.inr ⟨?_, p1, by rw [p2, q2], by rw [p3, q3], by rw [p4, q1]⟩
        rw [q1]
        exact fb_er_ne (hr.2.2 z)
      · have z2 : e = j + 1 := by have := hr.1; omega
        exact Or.inl ⟨c2.2 z2, m2.2 z2⟩
