/-! THE RESERVATIONS OF TODAY, in the reference's row -/
/-- the archive when all but the first kk of the row L are treated -/
def fb_rvB (A : fb_At) (L : List (Int32 × Int32)) (kk : Nat) : fb_At :=
  (fb_s1 A.g 11 (A.g 11 + nI ((L.drop kk).countP (fun y => decide (y.2 = A.g 7)))), (A.n, fun p i => if (A.F p 0, A.g 7) ∈ L.drop kk then (if i = 4 then A.g 7 else if i = 5 then A.F p 5 + nI 1 else A.F p i) else A.F p i), L.take kk ++ (L.drop kk).filter (fun y => decide (¬ y.2 = A.g 7)), (A.m, A.T))
theorem fb_rv_o {A : fb_At} {L : List (Int32 × Int32)} {kk p i : Nat} (h4 : ¬ i = 4) (h5 : ¬ i = 5) : (fb_rvB A L kk).F p i = A.F p i := by
  show (if (A.F p 0, A.g 7) ∈ L.drop kk then (if i = 4 then A.g 7 else if i = 5 then A.F p 5 + nI 1 else A.F p i) else A.F p i) = _
  rw [if_neg h4, if_neg h5]
  split <;> rfl
theorem fb_rv_g {A : fb_At} {L : List (Int32 × Int32)} {kk k : Nat} (h : ¬ k = 11) : (fb_rvB A L kk).g k = A.g k := fb_s1_n h
theorem fb_rv_ok {A : fb_At} {L : List (Int32 × Int32)} {kk : Nat} (hok : fb_okF A.g A.n A.F) : fb_okF (fb_rvB A L kk).g (fb_rvB A L kk).n (fb_rvB A L kk).F := by
  obtain ⟨h1, h2, h3, h4, h5, h6⟩ := hok
  refine ⟨h1, by rw [fb_rv_g (by decide)]; exact h2, by rw [fb_rv_g (by decide)]; exact h3, fun p k hp hk => by rw [fb_rv_o (by decide) (by decide), fb_rv_o (by decide) (by decide)]; exact h4 p k hp hk, fun p hp => by rw [fb_rv_o (by decide) (by decide), fb_rv_g (by decide)]; exact h5 p hp, fun p hp => ?_⟩
  obtain ⟨a1, a2, a3, a4⟩ := h6 p hp
  refine ⟨by rw [fb_rv_o (by decide) (by decide)]; exact a1, ?_, ?_, fun h hh => by rw [fb_rv_o (by omega) (by omega)]; exact a4 h hh⟩
  · obtain ⟨d, hd, ed⟩ := h2
    show (if (A.F p 0, A.g 7) ∈ L.drop kk then (if (4 : Nat) = 4 then A.g 7 else if (4 : Nat) = 5 then A.F p 5 + nI 1 else A.F p 4) else A.F p 4) = _ ∨ 0 ≤ (if (A.F p 0, A.g 7) ∈ L.drop kk then (if (4 : Nat) = 4 then A.g 7 else if (4 : Nat) = 5 then A.F p 5 + nI 1 else A.F p 4) else A.F p 4)
    split
    · rw [if_pos rfl, ed]; exact Or.inr (Int32.not_lt.mp (nI_pos (by omega)))
    · exact a2
  · rw [fb_rv_o (by decide) (by decide)]
    rcases a3 with z | ⟨k, hk, e⟩
    · exact Or.inl z
    · exact Or.inr ⟨k, hk, by rw [fb_rv_o (by decide) (by decide)]; exact e⟩
def fb_rvI (A : fb_At) (w : Nat → Int32) (kk : Nat) : Prop := ∃ L, L.Perm A.q ∧ kk ≤ L.length ∧ fb_mL w (fb_rvB A L kk).q ∧ fb_mA w (fb_rvB A L kk)
theorem fb_mA.ext {f : Nat → Int32} {A B : fb_At} (h : fb_mA f A) (hn : B.n = A.n) (hg : ∀ k, k < 14 → B.g k = A.g k) (hF : ∀ p i, p < A.n → i < 15 → B.F p i = A.F p i) (hq : A.q.Perm B.q) (hm : B.m = A.m) (hT : B.T = A.T) : fb_mA f B := by
  obtain ⟨h1, ⟨h2, h3, h4⟩, ⟨L, h5, h6⟩, h7, h8, h9⟩ := h
  exact ⟨fun k hk => by rw [hg k hk]; exact h1 k hk, ⟨by rw [hn]; exact h2, by rw [hn]; exact h3, fun p i hp hi => by rw [hn] at hp; rw [hF p i hp hi]; exact h4 p i hp hi⟩, ⟨L, h5, h6.trans hq⟩, by rw [hm]; exact h7, by rw [hm]; exact h8, fun p i hp hi => by rw [hm] at hp; rw [hT]; exact h9 p i hp hi⟩
theorem fb_rvI.start {A : fb_At} {w : Nat → Int32} {n5 : Nat} (h : fb_mA w A) (g5 : w 15 = nI n5) (hn : n5 ≤ 8) : fb_rvI A w n5 := by
  obtain ⟨L, hL, hP⟩ := h.2.2.1
  have en : L.length = n5 := fa_nIinj (by have := hL.2.1; omega) (by omega) (hL.1.symm.trans g5)
  have eq : (fb_rvB A L n5).q = L := by
    show L.take n5 ++ (L.drop n5).filter _ = L
    rw [← en, List.take_length, List.drop_length]
    exact List.append_nil _
  refine ⟨L, hP, by omega, by rw [eq]; exact hL, h.ext rfl (fun k _ => ?_) (fun p i _ _ => ?_) (by rw [eq]; exact hP.symm) rfl rfl⟩
  · by_cases z : k = 11
    · rw [z]
      show fb_s1 A.g 11 (A.g 11 + nI ((L.drop n5).countP _)) 11 = _
      rw [fb_s1_s, ← en, List.drop_length]
      exact Int32.add_zero _
    · exact fb_rv_g z
  · show (if (A.F p 0, A.g 7) ∈ L.drop n5 then _ else _) = _
    rw [← en, List.drop_length]
    exact if_neg (fun z => absurd z (by simp))
theorem fb_rvI.e {A : fb_At} {w : Nat → Int32} (h : fb_rvI A w 0) : fb_mA w (fb_rsvA A (A.g 7)) := by
  obtain ⟨L, hP, -, -, h⟩ := h
  refine h.ext rfl (fun k _ => ?_) (fun p i _ _ => ?_) ?_ rfl rfl
  · show fb_s1 A.g 11 (A.g 11 + nI (A.q.countP _)) k = fb_s1 A.g 11 (A.g 11 + nI (L.countP _)) k
    rw [hP.countP_eq]
  · show (if (A.F p 0, A.g 7) ∈ A.q then _ else _) = if (A.F p 0, A.g 7) ∈ L then _ else _
    by_cases z : (A.F p 0, A.g 7) ∈ L
    · rw [if_pos z, if_pos (hP.mem_iff.mp z)]
    · rw [if_neg z, if_neg (fun y => z (hP.mem_iff.mpr y))]
  · show (([] : List (Int32 × Int32)) ++ L.filter _).Perm (A.q.filter _)
    exact hP.filter _
theorem fb_rv_eq {A : fb_At} {L : List (Int32 × Int32)} {kk : Nat} (hk : kk < L.length) (h : ¬ (L[kk]).2 = A.g 7) : fb_rvB A L kk = fb_rvB A L (kk + 1) := by
  have ed : L.drop kk = L[kk] :: L.drop (kk + 1) := List.drop_eq_getElem_cons hk
  unfold fb_rvB
  rw [ed, List.countP_cons_of_neg (by rw [decide_eq_true_eq]; exact h), List.filter_cons_of_pos (p := fun (y : Int32 × Int32) => decide (¬ y.2 = A.g 7)) (decide_eq_true h), List.take_succ_eq_append_getElem hk, List.append_assoc]
  refine Prod.ext rfl (Prod.ext (Prod.ext rfl ?_) rfl)
  funext p i
  show (if (A.F p 0, A.g 7) ∈ L[kk] :: L.drop (kk + 1) then _ else _) = if (A.F p 0, A.g 7) ∈ L.drop (kk + 1) then _ else _
  by_cases z : (A.F p 0, A.g 7) ∈ L.drop (kk + 1)
  · rw [if_pos z, if_pos (List.mem_cons_of_mem _ z)]
  · rw [if_neg z, if_neg (fun y => by
      rcases List.mem_cons.mp y with y | y
      · exact h (by rw [← y])
      · exact z y)]
theorem fb_rv_at {A : fb_At} {w : Nat → Int32} {L : List (Int32 × Int32)} {kk : Nat} (hk : kk < L.length) (h : fb_mL w (fb_rvB A L (kk + 1)).q) : w (377 + 2 * kk) = (L[kk]).1 ∧ w (377 + 2 * kk + 1) = (L[kk]).2 := by
  refine h.2.2 kk L[kk] ?_
  show (L.take (kk + 1) ++ _)[kk]? = _
  rw [List.getElem?_append_left (by rw [List.length_take]; omega), List.getElem?_take_of_lt (by omega), List.getElem?_eq_getElem hk]
theorem fb_rvI.no {A : fb_At} {w : Nat → Int32} {kk : Nat} (h : fb_rvI A w (kk + 1)) (c : ¬ w (377 + 2 * kk + 1) = w 7) : fb_rvI A w kk := by
  obtain ⟨L, hP, hk, hL, hm⟩ := h
  have a := fb_rv_at (by omega) hL
  have e := fb_rv_eq (A := A) (L := L) (kk := kk) (by omega) (fun z => c (by rw [a.2, z, hm.g (k := 7) (by decide), fb_rv_g (by decide)]))
  exact ⟨L, hP, by omega, by rw [e]; exact hL, by rw [e]; exact hm⟩
theorem fb_mA.plF {f : Nat → Int32} {A : fb_At} (h : fb_mA f A) (hok : fb_okF A.g A.n A.F) {p : Nat} (hp : p < A.n) : fb_plm f (A.F p 0) = nI p := by
  obtain ⟨-, -, -, hinc, hnum, -⟩ := hok
  unfold fb_plm
  rw [h.n, if_neg (Int32.not_lt.mpr (hnum p hp).1)]
  rcases fb_las_elim A.n (f := fun p => f (17 + 15 * p)) (a := A.F p 0) with ⟨h1, h2⟩ | ⟨k, h1, h2, h3⟩
  · exact absurd (h.F0 hp) (h2 p hp)
  · have e : A.F k 0 = A.F p 0 := by rw [← h.F0 h1]; exact h3
    rw [h2]
    rcases Nat.lt_trichotomy p k with z | z | z
    · have := hinc p k z h1
      rw [e] at this
      exact absurd this Int32.lt_irrefl
    · rw [z]
    · have := hinc k p z hp
      rw [e] at this
      exact absurd this Int32.lt_irrefl
theorem fb_rvI.yes {A : fb_At} {w w1 w2 : Nat → Int32} {kk : Nat} {x : Int32} (hok : fb_okR A) (h : fb_rvI A w (kk + 1)) (c : w (377 + 2 * kk + 1) = w 7) (hx : x = fb_plm w (w (377 + 2 * kk)))
    (ha : ∀ B, fb_okF B.g B.n B.F → fb_mA w B → ∀ p, p < B.n → x = nI p → fb_mA w1 (fb_askp B p) ∧ ∀ i, i = 15 ∨ 377 ≤ i → w1 i = w i) (hr : fb_mRM w1 w2 kk) : fb_rvI A w2 kk := by
  obtain ⟨L, hP, hk, hL, hm⟩ := h
  have hk' : kk < L.length := by omega
  have a := fb_rv_at hk' hL
  have yd : (L[kk]).2 = A.g 7 := by rw [← a.2, c, hm.g (k := 7) (by decide), fb_rv_g (by decide)]
  have ym : L[kk] ∈ A.q := hP.mem_iff.mp (List.getElem_mem hk')
  obtain ⟨p, hp, ep⟩ := (hok.2.2.2.2 _ ym).2.2
  have ed : L.drop kk = L[kk] :: L.drop (kk + 1) := List.drop_eq_getElem_cons hk'
  have nd : (L[kk] :: L.drop (kk + 1)).Nodup := by
    rw [← ed]
    exact (hP.nodup_iff.mpr hok.2.2.2.1).sublist (List.drop_sublist _ _)
  have yn : L[kk] ∉ L.drop (kk + 1) := (List.nodup_cons.mp nd).1
  have ye : L[kk] = (A.F p 0, A.g 7) := Prod.ext ep.symm yd
  have bok := fb_rv_ok (L := L) (kk := kk + 1) hok.1
  have x1 : x = nI p := by
    rw [hx, a.1, ← ep, ← fb_rv_o (A := A) (L := L) (kk := kk + 1) (p := p) (i := 0) (by decide) (by decide)]
    exact hm.plF bok hp
  obtain ⟨m1, fr⟩ := ha _ bok hm p hp x1
  have l1 : fb_mL w1 (fb_rvB A L (kk + 1)).q := hL.congr (fun i hi => fr i (by omega))
  have ql : kk < (fb_rvB A L (kk + 1)).q.length := by
    show kk < (L.take (kk + 1) ++ _).length
    rw [List.length_append, List.length_take]
    omega
  have l2 := hr.2 _ l1 ql
  have qe : (fb_rvB A L (kk + 1)).q.eraseIdx kk = (fb_rvB A L kk).q := by
    show (L.take (kk + 1) ++ (L.drop (kk + 1)).filter _).eraseIdx kk = L.take kk ++ (L.drop kk).filter _
    rw [ed, List.filter_cons_of_neg (p := fun (y : Int32 × Int32) => decide (¬ y.2 = A.g 7)) (by rw [decide_eq_true_eq]; exact fun z => z yd), List.take_succ_eq_append_getElem hk', List.append_assoc, List.eraseIdx_append_of_length_le (by rw [List.length_take]; omega), List.length_take, show kk - min kk L.length = 0 by omega]
    rfl
  rw [qe] at l2
  have ro : ∀ i, ¬ i = 15 → ¬ (377 ≤ i ∧ i < 393) → w2 i = w1 i := hr.1
  obtain ⟨h1, ⟨h2, h3, h4⟩, -, h7, h8, h9⟩ := m1
  have hn24 := hok.1.1
  refine ⟨L, hP, by omega, l2, ⟨fun k hk => ?_, ⟨h2, by rw [ro 14 (by decide) (by decide)]; exact h3, fun q i hq hi => ?_⟩, ⟨_, l2, List.Perm.refl _⟩, h7, by rw [ro 16 (by decide) (by decide)]; exact h8, fun q i hq hi => by rw [ro _ (by omega) (by omega)]; exact h9 q i hq hi⟩⟩
  · rw [ro k (by omega) (by omega), h1 k hk]
    by_cases z : k = 11
    · rw [z]
      show fb_s1 (fb_rvB A L (kk + 1)).g 11 ((fb_s1 A.g 11 (A.g 11 + nI ((L.drop (kk + 1)).countP (fun y => decide (y.2 = A.g 7))))) 11 + nI 1) 11 = fb_s1 A.g 11 (A.g 11 + nI ((L.drop kk).countP (fun y => decide (y.2 = A.g 7)))) 11
      rw [fb_s1_s, fb_s1_s, fb_s1_s, ed, List.countP_cons_of_pos (p := fun (y : Int32 × Int32) => decide (y.2 = A.g 7)) (decide_eq_true yd), Int32.add_assoc]
      exact congrArg (A.g 11 + ·) (nI_1 _)
    · show fb_s1 (fb_rvB A L (kk + 1)).g 11 ((fb_rvB A L (kk + 1)).g 11 + nI 1) k = _
      rw [fb_s1_n z, fb_rv_g z]
      exact (fb_rv_g z).symm
  · have hq' : q < A.n := hq
    rw [ro _ (by omega) (by omega), h4 q i hq hi]
    show fa_u (fa_u (fb_rvB A L (kk + 1)).F p 4 ((fb_rvB A L (kk + 1)).g 7)) p 5 ((fb_rvB A L (kk + 1)).F p 5 + nI 1) q i = if (A.F q 0, A.g 7) ∈ L.drop kk then (if i = 4 then A.g 7 else if i = 5 then A.F q 5 + nI 1 else A.F q i) else A.F q i
    have b5 : (fb_rvB A L (kk + 1)).F p 5 = A.F p 5 := by
      show (if (A.F p 0, A.g 7) ∈ L.drop (kk + 1) then _ else _) = _
      rw [← ye]
      exact if_neg yn
    by_cases z : q = p
    · rw [z, if_pos (by rw [ed, ye]; exact List.mem_cons_self), b5, fb_rv_g (by decide)]
      by_cases z4 : i = 4
      · rw [z4, if_pos rfl, fa_u_n _ _ (by omega), fa_u_s]
      · by_cases z5 : i = 5
        · rw [z5, if_neg (by decide), if_pos rfl, fa_u_s]
        · rw [if_neg z4, if_neg z5, fa_u_n _ _ (by omega), fa_u_n _ _ (by omega), fb_rv_o z4 z5]
    · rw [fa_u_n _ _ (by omega), fa_u_n _ _ (by omega)]
      show (if (A.F q 0, A.g 7) ∈ L.drop (kk + 1) then _ else _) = _
      have ne : ¬ (A.F q 0, A.g 7) = L[kk] := fun y => z (hok.num hq' hp (by rw [ye] at y; exact congrArg Prod.fst y))
      rw [ed]
      by_cases y : (A.F q 0, A.g 7) ∈ L.drop (kk + 1)
      · rw [if_pos y, if_pos (List.mem_cons_of_mem _ y)]
      · rw [if_neg y, if_neg (fun u => (List.mem_cons.mp u).elim ne y)]
theorem fb_kk0 {k : Nat} {x : Int32} (hk : k < 2 ^ 31) (e : x = nI k - nI 1) (c : x < 0) : k = 0 := by
  cases k with
  | zero => rfl
  | succ j => exact absurd c (by rw [e, pk_sub (by omega)]; exact nI_pos (by omega))
