/-! WHAT HOLDS OF EVERY ARCHIVE STAYS, over the other actions -/
theorem fb_okA.sgo {A : fb_At} {k : Nat} {x : Int32} (h : fb_okA A) (h7 : ¬ k = 7) (h8 : ¬ k = 8) : fb_okA (A.sg k x) := by
  obtain ⟨h1, h2, h3, h4, h5⟩ := h
  have g7 : (A.sg k x).g 7 = A.g 7 := fb_sg_n (fun z => h7 z.symm)
  exact ⟨h1.cong (by rw [g7]; exact h1.2.1) (fb_sg_n (fun z => h8 z.symm)) (fun _ _ _ _ _ => rfl) (fun _ _ => Or.inl rfl), h2, h3, h4, fun y hy => by rw [g7]; exact h5 y hy⟩
theorem fb_sF_n {A : fb_At} {p i k j : Nat} {x : Int32} (h : ¬ (k = p ∧ j = i)) : (A.sF p i x).F k j = A.F k j := fa_u_n _ _ h
theorem fb_okA.sF45 {A : fb_At} {p i : Nat} {x : Int32} (h : fb_okA A) (hi : i = 5 ∨ (i = 4 ∧ 0 ≤ x)) : fb_okA (A.sF p i x) := by
  obtain ⟨h1, h2, h3, h4, h5⟩ := h
  refine ⟨h1.cong h1.2.1 rfl (fun q j _ a c => fb_sF_n (by omega)) (fun q _ => ?_), h2, h3, h4, fun y hy => ?_⟩
  · rcases hi with z | ⟨z, z2⟩
    · exact Or.inl (fb_sF_n (by omega))
    · by_cases w : q = p
      · refine Or.inr ?_
        show 0 ≤ fa_u A.F p i x q 4
        rw [w, z, fa_u_s]; exact z2
      · exact Or.inl (fb_sF_n (by omega))
  · obtain ⟨a, c, k, hk, ek⟩ := h5 y hy
    exact ⟨a, c, k, hk, by rw [fb_sF_n (by omega)]; exact ek⟩
theorem fb_okA.askp {A : fb_At} {p : Nat} (h : fb_okA A) : fb_okA (fb_askp A p) :=
  ((h.sF45 (p := p) (i := 4) (Or.inr ⟨rfl, h.nowpos⟩)).sF45 (p := p) (i := 5) (Or.inl rfl)).sgo (by decide) (by decide)
theorem fb_okA.ask {A : fb_At} (h : fb_okA A) (a : Int32) : fb_okA (fb_askA A a).2 := by
  by_cases c : a < 0 ∨ ¬ a < A.g 8
  · rw [fb_askA_0 c]; exact h
  · rcases fb_ix_elim A.n (F := A.F) (a := a) with z | ⟨p, z, -⟩
    · rw [fb_askA_n c z.1]; exact h.sgo (by decide) (by decide)
    · rw [fb_askA_s c z]; exact h.askp
theorem fb_okA.add {A : fb_At} (h : fb_okA A) (k p : Int32) : fb_okA (fb_addA A k p).2 := by
  by_cases c : k < 0 ∨ nI 4 < k ∨ p < nI 1 ∨ ¬ p ≤ nI 50
  · rw [fb_addA_1 c]; exact h
  · by_cases d : 24 ≤ A.n ∨ nI 200 ≤ A.g 8 ∨ ¬ fb_pgs A + p ≤ A.g 6
    · rw [fb_addA_2 c d]; exact h
    · rw [fb_addA_3 c d]
      obtain ⟨⟨h1, h2, ⟨m, hm, em⟩, h4, h5, h6⟩, h7, h8, h9, h10⟩ := h
      have hm2 : m < 200 := Nat.lt_of_not_le (fun z => d (Or.inr (Or.inl (by rw [em]; exact (nI_leI (by omega) (by omega)).mpr z))))
      have hn : A.n < 24 := Nat.lt_of_not_le (fun z => d (Or.inl z))
      obtain ⟨x, hx, ex⟩ := fa_natLe (N := 4) (by decide) (fun z => c (Or.inl z)) (fun z => c (Or.inr (Or.inl z)))
      have g8 : fb_s1 A.g 8 (A.g 8 + nI 1) 8 = nI (m + 1) := by rw [fb_s1_s, em, nI_add]
      have new : ∀ i, fb_newF A k p A.n i = if i = 0 then A.g 8 else if i = 1 then k else if i = 2 then p else if i = 3 then A.g 7 else if i = 4 ∨ i = 6 then (-1 : Int32) else 0 := fun i => if_pos rfl
      have old : ∀ j i, j < A.n → fb_newF A k p j i = A.F j i := fun j i hj => if_neg (by omega)
      refine ⟨⟨hn, by show ∃ d, d ≤ 9999 ∧ fb_s1 A.g 8 (A.g 8 + nI 1) 7 = nI d; rw [show (fb_s1 A.g 8 (A.g 8 + nI 1)) 7 = A.g 7 from fb_s1_n (by decide)]; exact h2, ⟨m + 1, hm2, g8⟩, fun i j hij hj => ?_, fun j hj => ?_, fun j hj => ?_⟩, h7, h8, h9, fun y hy => ?_⟩
      · have hj' : j < A.n + 1 := hj
        show fb_newF A k p i 0 < fb_newF A k p j 0
        rw [old i 0 (by omega)]
        by_cases z : j = A.n
        · rw [z, new 0]; exact (h5 i (by omega)).2
        · rw [old j 0 (by omega)]; exact h4 i j hij (by omega)
      · have hj' : j < A.n + 1 := hj
        show 0 ≤ fb_newF A k p j 0 ∧ fb_newF A k p j 0 < fb_s1 A.g 8 (A.g 8 + nI 1) 8
        rw [g8]
        have lt : A.g 8 < nI (m + 1) := by rw [em]; exact nI_lt (by omega) (by omega)
        by_cases z : j = A.n
        · rw [z, new 0]
          exact ⟨by show 0 ≤ A.g 8; rw [em]; exact nI_pos' (by omega), lt⟩
        · rw [old j 0 (by omega)]
          exact ⟨(h5 j (by omega)).1, Int32.lt_trans (h5 j (by omega)).2 lt⟩
      · have hj' : j < A.n + 1 := hj
        by_cases z : j = A.n
        · subst z
          refine ⟨⟨x, hx, by show fb_newF A k p A.n 1 = nI x; rw [new 1]; exact ex⟩, Or.inl (new 4), Or.inl (new 6), fun e he => ⟨0, by omega, ?_⟩⟩
          show fb_newF A k p A.n (7 + e) = nI 0
          rw [new (7 + e), if_neg (by omega), if_neg (by omega), if_neg (by omega), if_neg (by omega), if_neg (by omega)]
          rfl
        · obtain ⟨q1, q2, q3, q4⟩ := h6 j (by omega)
          refine ⟨by show ∃ k', k' ≤ 4 ∧ fb_newF A k p j 1 = nI k'; rw [old j 1 (by omega)]; exact q1, by show fb_newF A k p j 4 = (-1 : Int32) ∨ 0 ≤ fb_newF A k p j 4; rw [old j 4 (by omega)]; exact q2, ?_, fun e he => by show ∃ w, w ≤ 10001 ∧ fb_newF A k p j (7 + e) = nI w; rw [old j _ (by omega)]; exact q4 e he⟩
          show fb_newF A k p j 6 = (-1 : Int32) ∨ ∃ t, t < A.n + 1 ∧ fb_newF A k p t 0 = fb_newF A k p j 6
          rw [old j 6 (by omega)]
          rcases q3 with q | ⟨t, ht, q⟩
          · exact Or.inl q
          · exact Or.inr ⟨t, by omega, by rw [old t 0 ht]; exact q⟩
      · obtain ⟨a, c2, t, ht, et⟩ := h10 y hy
        exact ⟨by show fb_s1 A.g 8 (A.g 8 + nI 1) 7 < y.2; rw [show (fb_s1 A.g 8 (A.g 8 + nI 1)) 7 = A.g 7 from fb_s1_n (by decide)]; exact a, c2, t, Nat.lt_succ_of_lt ht, by show fb_newF A k p t 0 = y.1; rw [old t 0 ht]; exact et⟩
theorem fb_okA.sealA {A : fb_At} (h : fb_okA A) (x a l : Int32) : fb_okA (fb_sealA A x a l).2 := by
  rcases fb_ix_elim A.n (F := A.F) (a := a) with z | ⟨p, z, hp, -⟩
  · rw [fb_sealA_n z.1]; exact h
  · by_cases c : x < 0 ∨ ¬ x < nI 8
    · rw [fb_sealA_h z c]; exact h
    · by_cases d : ¬ l = (-1 : Int32) ∧ (l < A.g 7 ∨ nI 9999 < l)
      · rw [fb_sealA_b z c d]; exact h
      · obtain ⟨j, hj, ej⟩ := fa_ix7 (by decide) c
        rw [fb_sealA_s z c d ej hj rfl]
        by_cases w : l = (-1 : Int32)
        · rw [if_pos w]; exact h.sS (e := 10001) hp hj rfl (by omega)
        · rw [if_neg w]
          obtain ⟨e, he, ee⟩ := fb_last_ok h.1.2.1 (fun y => d ⟨w, Or.inl y⟩) (Int32.not_lt.mp (fun y => d ⟨w, Or.inr y⟩))
          exact h.sS (e := e) hp hj ee (by omega)
theorem fb_okA.liftA {A : fb_At} (h : fb_okA A) (x a : Int32) : fb_okA (fb_liftA A x a).2 := by
  rcases fb_ix_elim A.n (F := A.F) (a := a) with z | ⟨p, z, hp, -⟩
  · rw [fb_liftA_n z.1]; exact h
  · by_cases c : x < 0 ∨ ¬ x < nI 8
    · rw [fb_liftA_h z c]; exact h
    · obtain ⟨j, hj, ej⟩ := fa_ix7 (by decide) c
      by_cases d : A.F p (7 + j) = 0
      · rw [fb_liftA_0 z c ej hj d]; exact h
      · rw [fb_liftA_s z c ej hj d]; exact h.sS (e := 0) hp hj rfl (by omega)
theorem fb_okA.refA {A : fb_At} (h : fb_okA A) (a t : Int32) : fb_okA (fb_refA A a t).2 := by
  rcases fb_ix_elim A.n (F := A.F) (a := a) with z | ⟨p, z, hp, -⟩
  · rw [fb_refA_n z.1]; exact h
  · rcases fb_ix_elim A.n (F := A.F) (a := t) with y | ⟨k, y, hk, ek, -⟩
    · rw [fb_refA_m z y.1]; exact h
    · rw [fb_refA_s z y]
      obtain ⟨⟨h1, h2, h3, h4, h5, h6⟩, h7, h8, h9, h10⟩ := h
      have o : ∀ j i, ¬ i = 6 → (A.sF p 6 t).F j i = A.F j i := fun j i hi => fb_sF_n (by omega)
      refine ⟨⟨h1, h2, h3, fun i j hij hj => by rw [o i 0 (by decide), o j 0 (by decide)]; exact h4 i j hij hj, fun j hj => by rw [o j 0 (by decide)]; exact h5 j hj, fun j hj => ?_⟩, h7, h8, h9, fun w hw => ?_⟩
      · obtain ⟨q1, q2, q3, q4⟩ := h6 j hj
        refine ⟨by rw [o j 1 (by decide)]; exact q1, by rw [o j 4 (by decide)]; exact q2, ?_, fun e he => by rw [o j (7 + e) (by omega)]; exact q4 e he⟩
        by_cases w : j = p
        · refine Or.inr ⟨k, hk, ?_⟩
          rw [o k 0 (by decide)]
          show A.F k 0 = fa_u A.F p 6 t j 6
          rw [w, fa_u_s]; exact ek
        · rw [fb_sF_n (A := A) (p := p) (i := 6) (k := j) (j := 6) (x := t) (by omega)]
          rcases q3 with q | ⟨m, hm, q⟩
          · exact Or.inl q
          · exact Or.inr ⟨m, hm, by rw [o m 0 (by decide)]; exact q⟩
      · obtain ⟨a1, c, m, hm, em⟩ := h10 w hw
        exact ⟨a1, c, m, hm, by rw [o m 0 (by decide)]; exact em⟩
theorem fb_okA.resA {A : fb_At} (h : fb_okA A) (a d : Int32) : fb_okA (fb_resA A a d).2 := by
  rcases fb_ix_elim A.n (F := A.F) (a := a) with z | ⟨p, z, hp, ep, -⟩
  · rw [fb_resA_n z.1]; exact h
  · by_cases c : d ≤ A.g 7 ∨ ¬ d ≤ nI 9999
    · rw [fb_resA_b z c]; exact h
    · by_cases m : (a, d) ∈ A.q
      · rw [fb_resA_p z c m]; exact h
      · by_cases h8 : 8 ≤ A.q.length
        · rw [fb_resA_m z c m h8]; exact h
        · rw [fb_resA_s z c m h8]
          obtain ⟨h1, h2, h3, h4, h5⟩ := h
          refine ⟨h1, h2, by show ((a, d) :: A.q).length ≤ 8; rw [List.length_cons]; omega, List.nodup_cons.mpr ⟨m, h4⟩, fun y hy => ?_⟩
          rcases List.mem_cons.mp hy with e | e
          · rw [e]
            exact ⟨Int32.not_le.mp (fun w => c (Or.inl w)), Decidable.not_not.mp (fun w => c (Or.inr w)), p, hp, ep⟩
          · exact h5 y e
theorem fb_okA.canA {A : fb_At} (h : fb_okA A) (a d : Int32) : fb_okA (fb_canA A a d).2 := by
  by_cases m : (a, d) ∈ A.q
  · rw [fb_canA_s m]
    obtain ⟨h1, h2, h3, h4, h5⟩ := h
    exact ⟨h1, h2, Nat.le_trans List.length_erase_le h3, h4.sublist List.erase_sublist, fun y hy => h5 y (List.mem_of_mem_erase hy)⟩
  · rw [fb_canA_n m]; exact h
theorem fb_okA.setA {A : fb_At} (h : fb_okA A) (s x : Int32) : fb_okA (fb_setA A s x).2 := by
  by_cases c : s < 0 ∨ ¬ s < nI 7
  · rw [fb_setA_1 c]; exact h
  · obtain ⟨j, hj, ej⟩ := fa_ix7 (by decide) c
    by_cases d : x < fa_stV 1 j ∨ ¬ x ≤ fa_stV 2 j
    · rw [fb_setA_2 c ej hj d]; exact h
    · rw [fb_setA_3 c ej hj d]; exact h.sgo (by omega) (by omega)
theorem fb_okA.passA {A : fb_At} (h : fb_okA A) (d : Int32) : fb_okA (fb_passA A d).2 := by
  by_cases c : d < nI 1 ∨ ¬ d ≤ nI 400
  · rw [fb_passA_1 c]; exact h
  · by_cases e : A.g 7 + d ≤ nI 9999
    · obtain ⟨k, hk1, hk2, ek⟩ := fa_natIn (N := 400) (by decide) (fun z => c (Or.inl z)) (Decidable.not_not.mp (fun z => c (Or.inr z)))
      rw [fb_passA_3 c e ek (by omega)]
      obtain ⟨m, hm, em⟩ := h.1.2.1
      rw [em, ek, nI_add] at e
      exact (h.days em k ((nI_leI (by omega) (by decide)).mp e)).1
    · rw [fb_passA_2 c e]; exact h
