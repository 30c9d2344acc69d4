/-! RESERVATIONS OF A DAY -/
def fb_okR (A : fb_At) : Prop := fb_okF A.g A.n A.F ∧ A.m ≤ 12 ∧ A.q.length ≤ 8 ∧ A.q.Nodup ∧ ∀ y ∈ A.q, A.g 7 ≤ y.2 ∧ y.2 ≤ nI 9999 ∧ ∃ k, k < A.n ∧ A.F k 0 = y.1
theorem fb_okR.num {A : fb_At} (h : fb_okR A) {p k : Nat} (hp : p < A.n) (hk : k < A.n) (e : A.F p 0 = A.F k 0) : p = k := by
  rcases Nat.lt_trichotomy p k with z | z | z
  · have := h.1.2.2.2.1 p k z hk
    rw [e] at this
    exact absurd this Int32.lt_irrefl
  · exact z
  · have := h.1.2.2.2.1 k p z hp
    rw [e] at this
    exact absurd this Int32.lt_irrefl
/-- the first j of the sorted reservations L are treated -/
def fb_arA (A : fb_At) (L : List (Int32 × Int32)) (d : Int32) (j : Nat) : fb_At :=
  (fb_s1 A.g 11 (A.g 11 + nI j), (A.n, fun p i => if (A.F p 0, d) ∈ L.take j then (if i = 4 then d else if i = 5 then A.F p 5 + nI 1 else A.F p i) else A.F p i), L.drop j, (A.m, A.T))
def fb_arI (A : fb_At) (L : List (Int32 × Int32)) (w : fa_V) (r : fa_R) (b j : Nat) : Prop := j ≤ L.length ∧ (∀ k (hk : k < L.length), k < j → L[k].2 = A.g 7) ∧ fb_cL w b (L.drop j) ∧ fb_cA w r b (fb_arA A L (A.g 7) j)
theorem fb_srt_nodup {L : List (Int32 × Int32)} (h : L.Pairwise fb_bef) : L.Nodup := List.Pairwise.imp (fun {a b} z e => by rw [e] at z; exact fb_bef_irr z) h
theorem fb_arI.start {A : fb_At} {L : List (Int32 × Int32)} {v : fa_V} {r : fa_R} {b : Nat} (hc : fb_cA v r b A) (hL : fb_cL v b L) (hP : L.Perm A.q) : fb_arI A L v r b 0 := by
  refine ⟨Nat.zero_le _, fun k _ hk => absurd hk (Nat.not_lt_zero _), by rw [List.drop_zero]; exact hL, hc.eqv (fun k hk => ?_) rfl (fun p i _ _ => ?_) (by show A.q.Perm (L.drop 0); rw [List.drop_zero]; exact hP.symm) rfl (fun _ _ _ _ => rfl)⟩
  · show fb_s1 A.g 11 (A.g 11 + nI 0) k = A.g k
    by_cases z : k = 11
    · rw [z, fb_s1_s]; exact Int32.add_zero _
    · rw [fb_s1_n z]
  · show (if (A.F p 0, A.g 7) ∈ L.take 0 then (if i = 4 then A.g 7 else if i = 5 then A.F p 5 + nI 1 else A.F p i) else A.F p i) = A.F p i
    rw [if_neg (by rw [List.take_zero]; exact List.not_mem_nil)]
theorem fb_arA_F {A : fb_At} {L : List (Int32 × Int32)} {d : Int32} {j p i : Nat} (h4 : ¬ i = 4) (h5 : ¬ i = 5) : (fb_arA A L d j).F p i = A.F p i := by
  show (if (A.F p 0, d) ∈ L.take j then (if i = 4 then d else if i = 5 then A.F p 5 + nI 1 else A.F p i) else A.F p i) = A.F p i
  by_cases z : (A.F p 0, d) ∈ L.take j
  · rw [if_pos z, if_neg h4, if_neg h5]
  · rw [if_neg z]
theorem fb_arA_g {A : fb_At} {L : List (Int32 × Int32)} {d : Int32} {j k : Nat} (h : ¬ k = 11) : (fb_arA A L d j).g k = A.g k := by
  show fb_s1 A.g 11 (A.g 11 + nI j) k = A.g k
  exact fb_s1_n h
theorem fb_arI.s {A : fb_At} {L : List (Int32 × Int32)} {w w1 w2 : fa_V} {r : fa_R} {b j q : Nat} (hok : fb_okR A) (hP : L.Perm A.q) (hS : L.Pairwise fb_bef) (h : fb_arI A L w r b j) (hs : ¬ w (b + 2) 0 = 0) (hd : w (b + 4) 0 = w b 0) (hf : fa_isF b q ∧ ∃ p, p < fa_N (w b 1) ∧ q = fa_pf r b p ∧ w q 0 = w (b + 3) 0 ∧ ∀ k, k < p → ¬ w (fa_pf r b k) 0 = w (b + 3) 0) (hr : ∀ ja, nI 0 = nI ja → ja < fa_N (w (b + 2) 0) → fb_remP w w1 b (fa_N (w (b + 2) 0)) ja) (hfr : fa_fr (b + 2) (b + 5) w w1) (e : w2 = fa_ask w1 b q) : fb_arI A L w2 r b (j + 1) := by
  obtain ⟨h1, h2, h3, h4⟩ := h
  have hl : (L.drop j).length = L.length - j := List.length_drop
  have hjl : j < L.length := by
    refine Decidable.byContradiction (fun z => hs ?_)
    rw [h3.1, hl, show L.length - j = 0 by omega]
    rfl
  have hd0 : 0 < (L.drop j).length := by omega
  have e0 : (L.drop j)[0] = L[j] := by rw [List.getElem_drop]; rfl
  have x0 : L[j] = (w (b + 3) 0, w (b + 4) 0) := by rw [← e0]; exact h3.at hd0
  have now : w b 0 = A.g 7 := by
    have z := h4.now
    rw [z]
    exact fb_arA_g (by decide)
  have lj2 : L[j].2 = A.g 7 := by rw [x0]; exact hd.trans now
  -- the file
  obtain ⟨p, hp, eq, -, ep⟩ := h4.find1 hf
  have ep0 : A.F p 0 = L[j].1 := by rw [x0, ← ep]; exact (fb_arA_F (by decide) (by decide)).symm
  have lj : L[j] = (A.F p 0, A.g 7) := Prod.ext ep0.symm lj2
  -- the row of reservations
  have hr0 := hr 0 rfl (by rw [h3.n]; omega)
  rw [h3.n] at hr0
  have srt : (L.drop j).Pairwise fb_bef := hS.sublist (List.drop_sublist j L)
  have rem := (fb_c_remL h3 srt rfl hd0 hr0)
  have et : (L.drop j).eraseIdx 0 = L.drop (j + 1) := by rw [List.eraseIdx_zero, List.tail_drop]
  rw [et] at rem
  have c1 : fb_cA w1 r b ((fb_arA A L (A.g 7) j).sq (L.drop (j + 1))) := h4.res hfr ⟨_, rem.1, List.Perm.refl _, rem.2⟩
  have hk : (0 : Int32) ≤ A.g 7 := by
    obtain ⟨c, hc, e⟩ := hok.1.2.1
    rw [e]; exact nI_pos' (by omega)
  have g7 : ((fb_arA A L (A.g 7) j).sq (L.drop (j + 1))).g 7 = A.g 7 := fb_arA_g (A := A) (L := L) (d := A.g 7) (j := j) (k := 7) (by decide)
  have c2 := fb_c_ask (v1 := w2) (p := p) (by rw [g7]; exact hk) c1 hp (by rw [← eq]; exact e)
  have nd := fb_srt_nodup hS
  have nin : ¬ (A.F p 0, A.g 7) ∈ L.take j := fun m => by
    obtain ⟨k, hk, ek⟩ := List.mem_iff_getElem.mp m
    rw [List.length_take] at hk
    rw [List.getElem_take, ← lj] at ek
    exact (List.pairwise_iff_getElem.mp nd) k j (by omega) hjl (by omega) ek
  have tk : L.take (j + 1) = L.take j ++ [L[j]] := List.take_succ_eq_append_getElem hjl
  have wr : ∀ k, b + 2 ≤ k → k < b + 5 → w2 k = w1 k := fun k a c => by
    obtain ⟨jj, hjj, e2⟩ := fb_pf_at2 h4.1 (p := p) (Nat.lt_of_lt_of_le hp h4.2.2.2.1.1)
    rw [e, eq]
    unfold fa_ask
    rw [fa_u_k _ _ (by omega), fa_u_k _ _ (by omega), fa_u_k _ _ (by omega)]
  refine ⟨hjl, fun k hk hkj => ?_, rem.1.congr (by rw [wr _ (by omega) (by omega)]) (wr _ (by omega) (by omega)) (wr _ (by omega) (by omega)), c2.1.eqv (fun k hk => ?_) rfl (fun k i hk hi => ?_) (List.Perm.refl _) rfl (fun _ _ _ _ => rfl)⟩
  · by_cases z : k = j
    · subst z; exact lj2
    · exact h2 k hk (by omega)
  · show fb_s1 A.g 11 (A.g 11 + nI (j + 1)) k = fb_s1 (fb_s1 A.g 11 (A.g 11 + nI j)) 11 (fb_s1 A.g 11 (A.g 11 + nI j) 11 + nI 1) k
    by_cases z : k = 11
    · rw [z, fb_s1_s, fb_s1_s, fb_s1_s, Int32.add_assoc, nI_add]
    · rw [fb_s1_n z, fb_s1_n z, fb_s1_n z]
  · have fj : (fb_arA A L (A.g 7) j).F p 5 = A.F p 5 := if_neg nin
    show (if (A.F k 0, A.g 7) ∈ L.take (j + 1) then (if i = 4 then A.g 7 else if i = 5 then A.F k 5 + nI 1 else A.F k i) else A.F k i) = fa_u (fa_u (fb_arA A L (A.g 7) j).F p 4 (((fb_arA A L (A.g 7) j).sq (L.drop (j + 1))).g 7)) p 5 ((fb_arA A L (A.g 7) j).F p 5 + nI 1) k i
    rw [g7, fj]
    by_cases z : k = p
    · subst z
      rw [if_pos (by rw [tk, lj]; exact List.mem_append_right _ (List.mem_singleton.mpr rfl))]
      by_cases y5 : i = 5
      · rw [y5, fa_u_s]; rfl
      · rw [fa_u_n _ _ (by omega)]
        by_cases y4 : i = 4
        · rw [y4, fa_u_s]; rfl
        · rw [fa_u_n _ _ (by omega), if_neg y4, if_neg y5]
          exact (fb_arA_F y4 y5).symm
    · rw [fa_u_n _ _ (by omega), fa_u_n _ _ (by omega)]
      show _ = (if (A.F k 0, A.g 7) ∈ L.take j then (if i = 4 then A.g 7 else if i = 5 then A.F k 5 + nI 1 else A.F k i) else A.F k i)
      have iff : (A.F k 0, A.g 7) ∈ L.take (j + 1) ↔ (A.F k 0, A.g 7) ∈ L.take j := by
        rw [tk, List.mem_append, List.mem_singleton, lj]
        constructor
        · intro m
          rcases m with m | m
          · exact m
          · exact absurd (hok.num hk hp (Prod.mk.inj m).1) z
        · exact Or.inl
      by_cases y : (A.F k 0, A.g 7) ∈ L.take j
      · rw [if_pos y, if_pos (iff.mpr y)]
      · rw [if_neg y, if_neg (fun a => y (iff.mp a))]
/-- no more of today -/
theorem fb_arI.e {A : fb_At} {L : List (Int32 × Int32)} {w : fa_V} {r : fa_R} {b j : Nat} (hok : fb_okR A) (hP : L.Perm A.q) (hS : L.Pairwise fb_bef) (h : fb_arI A L w r b j) (hs : w (b + 2) 0 = 0 ∨ ¬ w (b + 4) 0 = w b 0 ∨ 8 ≤ j) : fb_cA w r b (fb_rsvA A (A.g 7)) := by
  obtain ⟨h1, h2, h3, h4⟩ := h
  have hl : (L.drop j).length = L.length - j := List.length_drop
  have now : w b 0 = A.g 7 := by
    have z := h4.now
    rw [z]
    exact fb_arA_g (by decide)
  have h8 : L.length ≤ 8 := by rw [hP.length_eq]; exact hok.2.2.1
  -- the rest is of other days
  have rest : ∀ k (hk : k < L.length), j ≤ k → ¬ L[k].2 = A.g 7 := fun k hk hjk ek => by
    have hjl : j < L.length := by omega
    have e0 : (L.drop j)[0]'(by omega) = L[j] := by rw [List.getElem_drop]; rfl
    have x0 : L[j] = (w (b + 3) 0, w (b + 4) 0) := by rw [← e0]; exact h3.at (by omega)
    have lo := (hok.2.2.2.2 L[j] (hP.mem_iff.mp (List.getElem_mem hjl))).1
    rcases hs with z | z | z
    · rw [h3.1, hl] at z
      exact nI_ne0 (by omega) (by omega) z
    · have ne : ¬ L[j].2 = A.g 7 := by rw [x0, ← now]; exact z
      by_cases y : k = j
      · subst y; exact ne ek
      · have bf := fb_srt_at hS hjl hk (by omega)
        have le : L[j].2 ≤ L[k].2 := bf.elim Int32.le_of_lt (fun q => by rw [q.1]; exact Int32.le_refl _)
        rw [ek] at le
        exact ne (Int32.le_antisymm le lo)
    · omega
  have eT : ∀ y, y ∈ L → (y.2 = A.g 7 ↔ y ∈ L.take j) := fun y hy => by
    obtain ⟨k, hk, ek⟩ := List.mem_iff_getElem.mp hy
    constructor
    · intro e
      have : k < j := Nat.lt_of_not_le (fun z => rest k hk z (by rw [ek]; exact e))
      exact List.mem_iff_getElem.mpr ⟨k, by rw [List.length_take]; omega, by rw [List.getElem_take]; exact ek⟩
    · intro m
      obtain ⟨i, hi, ei⟩ := List.mem_iff_getElem.mp m
      rw [List.length_take] at hi
      rw [List.getElem_take] at ei
      rw [← ei]
      exact h2 i (by omega) (by omega)
  have split : L.filter (fun y => decide (¬ y.2 = A.g 7)) = L.drop j ∧ L.countP (fun y => decide (y.2 = A.g 7)) = j := by
    have e1 : L = L.take j ++ L.drop j := (List.take_append_drop j L).symm
    have a1 : ∀ y, y ∈ L.take j → y.2 = A.g 7 := fun y hy => (eT y (List.mem_of_mem_take hy)).mpr hy
    have a2 : ∀ y, y ∈ L.drop j → ¬ y.2 = A.g 7 := fun y hy => by
      obtain ⟨k, hk, ek⟩ := List.mem_iff_getElem.mp hy
      rw [hl] at hk
      rw [List.getElem_drop] at ek
      rw [← ek]
      exact rest (j + k) (by omega) (by omega)
    constructor
    · conv => lhs; rw [e1]
      rw [List.filter_append, List.filter_eq_nil_iff.mpr (fun y hy => by simp [a1 y hy]), List.filter_eq_self.mpr (fun y hy => by simp [a2 y hy]), List.nil_append]
    · conv => lhs; rw [e1]
      rw [List.countP_append, List.countP_eq_length.mpr (fun y hy => by simp [a1 y hy]), List.countP_eq_zero.mpr (fun y hy => by simp [a2 y hy]), List.length_take]
      omega
  have cq : A.q.countP (fun y => decide (y.2 = A.g 7)) = j := by rw [← hP.countP_eq]; exact split.2
  refine h4.eqv (fun k hk => ?_) rfl (fun p i hp hi => ?_) ?_ rfl (fun _ _ _ _ => rfl)
  · show fb_s1 A.g 11 (A.g 11 + nI (A.q.countP (fun y => decide (y.2 = A.g 7)))) k = fb_s1 A.g 11 (A.g 11 + nI j) k
    rw [cq]
  · show (if (A.F p 0, A.g 7) ∈ A.q then (if i = 4 then A.g 7 else if i = 5 then A.F p 5 + nI 1 else A.F p i) else A.F p i) = (if (A.F p 0, A.g 7) ∈ L.take j then (if i = 4 then A.g 7 else if i = 5 then A.F p 5 + nI 1 else A.F p i) else A.F p i)
    have iff : (A.F p 0, A.g 7) ∈ A.q ↔ (A.F p 0, A.g 7) ∈ L.take j := ⟨fun m => (eT _ (hP.mem_iff.mpr m)).mp rfl, fun m => hP.mem_iff.mp (List.mem_of_mem_take m)⟩
    by_cases y : (A.F p 0, A.g 7) ∈ L.take j
    · rw [if_pos y, if_pos (iff.mpr y)]
    · rw [if_neg y, if_neg (fun a => y (iff.mp a))]
  · show (L.drop j).Perm (A.q.filter (fun y => decide (¬ y.2 = A.g 7)))
    rw [← split.1]
    exact hP.filter _
/-- a reserved file is there -/
theorem fb_arI.has {A : fb_At} {L : List (Int32 × Int32)} {w : fa_V} {r : fa_R} {b j : Nat} (hok : fb_okR A) (hP : L.Perm A.q) (h : fb_arI A L w r b j) (hs : ¬ w (b + 2) 0 = 0) (hf : ∀ k, k < fa_N (w b 1) → ¬ w (fa_pf r b k) 0 = w (b + 3) 0) : False := by
  obtain ⟨h1, h2, h3, h4⟩ := h
  have hl : (L.drop j).length = L.length - j := List.length_drop
  have hjl : j < L.length := by
    refine Decidable.byContradiction (fun z => hs ?_)
    rw [h3.1, hl, show L.length - j = 0 by omega]
    rfl
  have e0 : (L.drop j)[0]'(by omega) = L[j] := by rw [List.getElem_drop]; rfl
  have x0 : L[j] = (w (b + 3) 0, w (b + 4) 0) := by rw [← e0]; exact h3.at (by omega)
  obtain ⟨-, -, k, hk, ek⟩ := hok.2.2.2.2 L[j] (hP.mem_iff.mp (List.getElem_mem hjl))
  rw [h4.n] at hf
  refine hf k hk ?_
  have z := h4.f (p := k) (i := 0) hk (by decide) (by decide)
  rw [z, fb_arA_F (by decide) (by decide), ek, x0]
