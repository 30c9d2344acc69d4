/-! THE PROPERTY: acts -/
def fc_nx (v : fa_V) (r : fa_R) (dy cm kn : Nat) : Prop := ∃ A2 H2 dy2 cm2 bu2, fb_CV v r A2 H2 ∧ fc_ok A2 dy2 cm2 bu2 (dy2 / 90) (kn + 1) ∧ (dy ≤ dy2 ∧ dy2 ≤ dy + 120 ∧ cm ≤ cm2 ∧ cm2 ≤ cm + 1) ∧ fb_inj r 57
theorem fc_shr {a k : Nat} (ha : a < 2 ^ 31) (hk : ((nI k &&& 31 : Int32).toBitVec.smod 32).toNat = k) : (nI a) >>> ((nI k) &&& 31) = nI (a / 2 ^ k) := by
  have e := pk_shr (nI a) (nI k &&& 31) k hk
  have h2 : a / 2 ^ k < 2 ^ 31 := Nat.lt_of_le_of_lt (Nat.div_le_self _ _) ha
  rw [nI_toInt ha] at e
  refine Int32.toInt_inj.mp ?_
  rw [e, nI_toInt h2, Int.shiftRight_eq_div_pow]
  norm_cast
theorem fc_ixE {A : fb_At} (hok : fb_okA A) {p : Nat} {a : Int32} (hp : p < A.n) (e : A.F p 0 = a) : fb_ix A.F a A.n = some p := by
  rw [← e]; exact fc_ixF hok hp
theorem fc_filE {A : fb_At} (hok : fb_okA A) {p : Nat} {a w : Int32} (hp : p < A.n) (e : A.F p 0 = a) : fb_filA A a w = fb_filP A p w := fb_filA_s (fc_ixE hok hp e)
theorem fc_split {A : fb_At} (a : Int32) : (fb_ix A.F a A.n = none) ∨ ∃ p, p < A.n ∧ A.F p 0 = a := by
  rcases fb_ix_elim A.n (F := A.F) (a := a) with q | ⟨p, -, hp, ep, -⟩
  · exact Or.inl q.1
  · exact Or.inr ⟨p, hp, ep⟩
/-! add -/
def fc_addX (A : fb_At) (k p : Int32) : fb_At := (fb_s1 A.g 8 (A.g 8 + nI 1), (A.n + 1, fb_newF A k p), A.q, (A.m, A.T))
theorem fc_addR {k p : Nat} (hk : k ≤ 4) (h1 : 1 ≤ p) (h50 : p ≤ 50) : ¬ (nI k < 0 ∨ nI 4 < nI k ∨ nI p < nI 1 ∨ ¬ nI p ≤ nI 50) := fun z => by
  rcases z with z | z | z | z
  · exact nI_pos (by omega) z
  · exact nI_nlt hk (by decide) z
  · exact nI_nlt h1 (by omega) z
  · exact z (nI_le h50 (by decide))
theorem fc_add1 {A : fb_At} {k p cm : Nat} (hk : k ≤ 4) (h1 : 1 ≤ p) (h50 : p ≤ 50) (h8 : A.g 8 = nI cm) (hn : A.n < 24) (hc : cm < 200) (hs : fb_pgs A + nI p ≤ A.g 6) : fb_addA A (nI k) (nI p) = (nI cm, fc_addX A (nI k) (nI p)) := by
  rw [fb_addA_3 (fc_addR hk h1 h50) (fun z => by
    rcases z with z | z | z
    · omega
    · rw [h8] at z
      have := (nI_leI (by decide) (by omega)).mp z
      omega
    · exact z hs), h8]
  unfold fc_addX
  rw [h8]
theorem fc_add0 {A : fb_At} {k p : Nat} (hk : k ≤ 4) (h1 : 1 ≤ p) (h50 : p ≤ 50) (h : 24 ≤ A.n ∨ ¬ fb_pgs A + nI p ≤ A.g 6) : fb_addA A (nI k) (nI p) = ((-4 : Int32), A) :=
  fb_addA_2 (fc_addR hk h1 h50) (h.elim Or.inl (fun z => Or.inr (Or.inr z)))
theorem fc_addF {A : fb_At} {k p : Int32} {i : Nat} : (fc_addX A k p).F A.n i = if i = 0 then A.g 8 else if i = 1 then k else if i = 2 then p else if i = 3 then A.g 7 else if i = 4 ∨ i = 6 then (-1 : Int32) else 0 := if_pos rfl
theorem fc_addQ {A : fb_At} {k p w : Int32} {cm : Nat} (hok : fb_okA (fc_addX A k p)) (h8 : A.g 8 = nI cm) : fb_filA (fc_addX A k p) (nI cm) w = fb_filP (fc_addX A k p) A.n w :=
  fc_filE hok (show A.n < A.n + 1 by omega) (fc_addF.trans ((if_pos rfl).trans h8))
/-! ask -/
theorem fc_ask0 {A : fb_At} (h8 : A.g 8 = nI 0) : fb_askA A (nI 0) = ((-1 : Int32), A) := fb_askA_0 (Or.inr (by rw [h8]; exact Int32.lt_irrefl))
theorem fc_askC {A : fb_At} {f cm : Nat} (h8 : A.g 8 = nI cm) (hf : f < cm) (hc : cm ≤ 1000) : ¬ (nI f < 0 ∨ ¬ nI f < A.g 8) := fun z => z.elim (nI_pos (by omega)) (fun y => y (by rw [h8]; exact nI_lt hf (by omega)))
/-! seals -/
theorem fc_bits1 {c : Nat → Bool} {h : Nat} (hh : h < 8) (hc : c h = true) : ¬ fb_bits (fa_mask c 8) < nI 1 := by
  have all : ∀ b0 b1 b2 b3 b4 b5 b6 b7 : Bool, (b0 || b1 || b2 || b3 || b4 || b5 || b6 || b7) = true → ¬ fb_bits (fa_mask (fb_b8 b0 b1 b2 b3 b4 b5 b6 b7) 8) < nI 1 := by decide +kernel
  rw [fb_mask8 c]
  refine all _ _ _ _ _ _ _ _ ?_
  have : h = 0 ∨ h = 1 ∨ h = 2 ∨ h = 3 ∨ h = 4 ∨ h = 5 ∨ h = 6 ∨ h = 7 := by omega
  rcases this with z | z | z | z | z | z | z | z <;> (rw [z] at hc; simp [hc])
theorem fc_bits8 (c : Nat → Bool) : ¬ nI 8 < fb_bits (fa_mask c 8) := by
  have all : ∀ b0 b1 b2 b3 b4 b5 b6 b7 : Bool, ¬ nI 8 < fb_bits (fa_mask (fb_b8 b0 b1 b2 b3 b4 b5 b6 b7) 8) := by decide +kernel
  rw [fb_mask8 c]
  exact all _ _ _ _ _ _ _ _
theorem fc_bits0 (c : Nat → Bool) : ¬ fb_bits (fa_mask c 8) < 0 := by
  have all : ∀ b0 b1 b2 b3 b4 b5 b6 b7 : Bool, ¬ fb_bits (fa_mask (fb_b8 b0 b1 b2 b3 b4 b5 b6 b7) 8) < 0 := by decide +kernel
  rw [fb_mask8 c]
  exact all _ _ _ _ _ _ _ _
theorem fc_bitk {c : Nat → Bool} {h : Nat} (hh : h < 8) (hc : c h = true) : ((fa_mask c 8) >>> ((nI (h)) &&& 31)) &&& (nI (1)) = nI 1 := by
  have a0 : ∀ b0 b1 b2 b3 b4 b5 b6 b7 : Bool, b0 = true → ((fa_mask (fb_b8 b0 b1 b2 b3 b4 b5 b6 b7) 8) >>> ((nI (0)) &&& 31)) &&& (nI (1)) = nI 1 := by decide +kernel
  have a1 : ∀ b0 b1 b2 b3 b4 b5 b6 b7 : Bool, b1 = true → ((fa_mask (fb_b8 b0 b1 b2 b3 b4 b5 b6 b7) 8) >>> ((nI (1)) &&& 31)) &&& (nI (1)) = nI 1 := by decide +kernel
  have a2 : ∀ b0 b1 b2 b3 b4 b5 b6 b7 : Bool, b2 = true → ((fa_mask (fb_b8 b0 b1 b2 b3 b4 b5 b6 b7) 8) >>> ((nI (2)) &&& 31)) &&& (nI (1)) = nI 1 := by decide +kernel
  have a3 : ∀ b0 b1 b2 b3 b4 b5 b6 b7 : Bool, b3 = true → ((fa_mask (fb_b8 b0 b1 b2 b3 b4 b5 b6 b7) 8) >>> ((nI (3)) &&& 31)) &&& (nI (1)) = nI 1 := by decide +kernel
  have a4 : ∀ b0 b1 b2 b3 b4 b5 b6 b7 : Bool, b4 = true → ((fa_mask (fb_b8 b0 b1 b2 b3 b4 b5 b6 b7) 8) >>> ((nI (4)) &&& 31)) &&& (nI (1)) = nI 1 := by decide +kernel
  have a5 : ∀ b0 b1 b2 b3 b4 b5 b6 b7 : Bool, b5 = true → ((fa_mask (fb_b8 b0 b1 b2 b3 b4 b5 b6 b7) 8) >>> ((nI (5)) &&& 31)) &&& (nI (1)) = nI 1 := by decide +kernel
  have a6 : ∀ b0 b1 b2 b3 b4 b5 b6 b7 : Bool, b6 = true → ((fa_mask (fb_b8 b0 b1 b2 b3 b4 b5 b6 b7) 8) >>> ((nI (6)) &&& 31)) &&& (nI (1)) = nI 1 := by decide +kernel
  have a7 : ∀ b0 b1 b2 b3 b4 b5 b6 b7 : Bool, b7 = true → ((fa_mask (fb_b8 b0 b1 b2 b3 b4 b5 b6 b7) 8) >>> ((nI (7)) &&& 31)) &&& (nI (1)) = nI 1 := by decide +kernel
  rw [fb_mask8 c]
  have : h = 0 ∨ h = 1 ∨ h = 2 ∨ h = 3 ∨ h = 4 ∨ h = 5 ∨ h = 6 ∨ h = 7 := by omega
  rcases this with z | z | z | z | z | z | z | z <;> rw [z] at hc <;> rw [z]
  · exact a0 _ _ _ _ _ _ _ _ hc
  · exact a1 _ _ _ _ _ _ _ _ hc
  · exact a2 _ _ _ _ _ _ _ _ hc
  · exact a3 _ _ _ _ _ _ _ _ hc
  · exact a4 _ _ _ _ _ _ _ _ hc
  · exact a5 _ _ _ _ _ _ _ _ hc
  · exact a6 _ _ _ _ _ _ _ _ hc
  · exact a7 _ _ _ _ _ _ _ _ hc
/-- a seal that is put: its last day, and what is kept of it -/
def fc_la (dy : Nat) (la y : Int32) (e : Nat) : Prop := y = nI (e + 1) ∧ ((la = (-1 : Int32) ∧ e = 10000) ∨ (la = nI e ∧ dy ≤ e ∧ e ≤ 9999))
theorem fc_seal1 {A : fb_At} {p ho dy e : Nat} {a la y : Int32} (ei : fb_ix A.F a A.n = some p) (hh : ho < 8) (h7 : A.g 7 = nI dy) (hd : dy ≤ 9999) (hl : fc_la dy la y e) : fb_sealA A (nI ho) a la = (fb_bits (fb_maskA (A.sF p (7 + ho) y) p), A.sF p (7 + ho) y) := by
  refine fb_sealA_s (y := y) ei (fun z => z.elim (nI_pos (by omega)) (fun y => y (nI_lt hh (by decide)))) (fun z => ?_) rfl hh ?_
  · rcases hl.2 with ⟨q, -⟩ | ⟨q, q1, q2⟩
    · exact z.1 q
    · rw [q, h7] at z
      exact z.2.elim (nI_nlt q1 (by omega)) (nI_nlt q2 (by decide))
  · rcases hl.2 with ⟨q, q1⟩ | ⟨q, q1, q2⟩
    · rw [if_pos q, hl.1, q1]
    · have hn : ¬ la = (-1 : Int32) := fun w => by
        have h0 : ¬ nI e < 0 := nI_pos (by omega)
        rw [← q, w] at h0
        exact h0 (by decide)
      rw [if_neg hn, hl.1, q]
      exact (nI_1 e).symm
theorem fc_sealF {A : fb_At} {p ho : Nat} {y : Int32} : (A.sF p (7 + ho) y).F p (7 + ho) = y := fa_u_s _ _ _ _
theorem fc_sealH {A : fb_At} {p ho dy e : Nat} {la y : Int32} (h7 : A.g 7 = nI dy) (hd : dy ≤ 9999) (hl : fc_la dy la y e) : decide ((A.sF p (7 + ho) y).g 7 < (A.sF p (7 + ho) y).F p (7 + ho)) = true := by
  refine decide_eq_true ?_
  rw [fc_sealF]
  show A.g 7 < y
  rw [h7, hl.1]
  rcases hl.2 with ⟨-, q1⟩ | ⟨-, q1, q2⟩
  · exact nI_lt (by omega) (by omega)
  · exact nI_lt (by omega) (by omega)
theorem fc_ixS {A : fb_At} {p i k : Nat} {x a : Int32} (hok : fb_okA (A.sF k i x)) (hp : p < A.n) (e : A.F p 0 = a) (hi : ¬ i = 0) : fb_ix (A.sF k i x).F a (A.sF k i x).n = some p :=
  fc_ixE hok hp ((fa_u_n _ _ (by omega)).trans e)
theorem fc_slo1 {A : fb_At} {p ho : Nat} {a : Int32} (ei : fb_ix A.F a A.n = some p) (hh : ho < 8) : fb_sloA A (nI ho) a = if A.F p (7 + ho) = 0 then (-6 : Int32) else A.F p (7 + ho) - 1 :=
  fb_sloA_s ei (fun z => z.elim (nI_pos (by omega)) (fun y => y (nI_lt hh (by decide)))) rfl hh
theorem fc_slo2 {A : fb_At} {p ho dy e : Nat} {a la y : Int32} (hok : fb_okA (A.sF p (7 + ho) y)) (hp : p < A.n) (ep : A.F p 0 = a) (hh : ho < 8) (hl : fc_la dy la y e) : fb_sloA (A.sF p (7 + ho) y) (nI ho) a = nI e := by
  have he : e ≤ 10000 := by
    rcases hl.2 with ⟨-, q⟩ | ⟨-, -, q⟩ <;> omega
  rw [fc_slo1 (fc_ixS hok hp ep (by omega)) hh, fc_sealF, hl.1, if_neg (nI_ne0 (by omega) (by omega))]
  exact nI_pred e
theorem fc_lift1 {A : fb_At} {p ho : Nat} {a : Int32} (ei : fb_ix A.F a A.n = some p) (hh : ho < 8) (h0 : ¬ A.F p (7 + ho) = 0) : fb_liftA A (nI ho) a = (fb_bits (fb_maskA (A.sF p (7 + ho) 0) p), A.sF p (7 + ho) 0) :=
  fb_liftA_s ei (fun z => z.elim (nI_pos (by omega)) (fun y => y (nI_lt hh (by decide)))) rfl hh h0
theorem fc_lift0 {A : fb_At} {p ho : Nat} {a : Int32} (ei : fb_ix A.F a A.n = some p) (hh : ho < 8) (h0 : A.F p (7 + ho) = 0) : fb_liftA A (nI ho) a = ((-1 : Int32), A) :=
  fb_liftA_0 ei (fun z => z.elim (nI_pos (by omega)) (fun y => y (nI_lt hh (by decide)))) rfl hh h0
theorem fc_slo_pos {A : fb_At} (hok : fb_okA A) {p ho : Nat} (hp : p < A.n) (hh : ho < 8) (h0 : ¬ A.F p (7 + ho) = 0) : ¬ A.F p (7 + ho) - 1 < 0 := by
  obtain ⟨e, he, ee⟩ := (hok.1.2.2.2.2.2 p hp).2.2.2 ho hh
  rw [ee] at h0 ⊢
  have e0 : 1 ≤ e := Nat.pos_of_ne_zero (fun y => h0 (by rw [y]; rfl))
  rw [show (nI e - 1 : Int32) = nI (e - 1) from pk_sub e0]
  exact nI_pos (by omega)
/-! set -/
def fc_va (w va : Nat) : Prop := (w < 5 ∧ 30 ≤ va ∧ va ≤ 329) ∨ (w = 5 ∧ 1 ≤ va ∧ va ≤ 20) ∨ (w = 6 ∧ 50 ≤ va ∧ va ≤ 600)
theorem fc_set1 {A : fb_At} {w va : Nat} (h : fc_va w va) : fb_setA A (nI w) (nI va) = (A.g w, A.sg w (nI va)) := by
  have hw : w < 7 := by
    rcases h with h | h | h <;> omega
  refine fb_setA_3 (fun z => z.elim (nI_pos (by omega)) (fun y => y (nI_lt hw (by decide)))) rfl hw (fun z => ?_)
  have q : ∃ lo hi, fa_stV 1 w = nI lo ∧ fa_stV 2 w = nI hi ∧ lo ≤ va ∧ va ≤ hi ∧ hi ≤ 2000 := by
    rcases h with ⟨h1, h2, h3⟩ | ⟨h1, h2, h3⟩ | ⟨h1, h2, h3⟩
    · have : w = 0 ∨ w = 1 ∨ w = 2 ∨ w = 3 ∨ w = 4 := by omega
      refine ⟨30, 2000, ?_, ?_, by omega, by omega, by omega⟩
      · rcases this with z | z | z | z | z <;> (rw [z]; decide)
      · rcases this with z | z | z | z | z <;> (rw [z]; decide)
    · exact ⟨1, 20, by rw [h1]; decide, by rw [h1]; decide, h2, h3, by omega⟩
    · exact ⟨50, 600, by rw [h1]; decide, by rw [h1]; decide, h2, h3, by omega⟩
  obtain ⟨lo, hi, e1, e2, l1, l2, l3⟩ := q
  rw [e1, e2] at z
  exact z.elim (nI_nlt l1 (by omega)) (fun y => y (nI_le l2 (by omega)))
theorem fc_setS {g : Nat → Int32} {w va : Nat} (hs : fc_set g) (h : fc_va w va) : fc_set (fb_s1 g w (nI va)) := by
  obtain ⟨h1, h5, h6⟩ := hs
  refine ⟨fun i hi => ?_, ?_, ?_⟩
  · by_cases z : i = w
    · rw [z, fb_s1_s]
      rcases h with q | q | q
      · exact ⟨va, by omega, by omega, rfl⟩
      · omega
      · omega
    · rw [fb_s1_n z]; exact h1 i hi
  · by_cases z : 5 = w
    · rw [← z, fb_s1_s]
      rcases h with q | q | q
      · omega
      · exact ⟨va, by omega, by omega, rfl⟩
      · omega
    · rw [fb_s1_n z]; exact h5
  · by_cases z : 6 = w
    · rw [← z, fb_s1_s]
      rcases h with q | q | q
      · omega
      · omega
      · exact ⟨va, by omega, by omega, rfl⟩
    · rw [fb_s1_n z]; exact h6
/-! reserve, cancel, pass -/
theorem fc_res1 {A : fb_At} {p dy x : Nat} {a : Int32} (ei : fb_ix A.F a A.n = some p) (h7 : A.g 7 = nI dy) (hx : dy < x) (hx2 : x ≤ 9999) : ¬ (nI x ≤ A.g 7 ∨ ¬ nI x ≤ nI 9999) := fun z => by
  rw [h7] at z
  rcases z with z | z
  · have := (nI_leI (by omega) (by omega)).mp z
    omega
  · exact z (nI_le hx2 (by decide))
theorem fc_pass1 {A : fb_At} {dy x : Nat} (h7 : A.g 7 = nI dy) (h1 : 1 ≤ x) (h400 : x ≤ 400) (hd : dy + x ≤ 9999) : fb_passA A (nI x) = fb_daysA A x :=
  fb_passA_3 (fun z => z.elim (nI_nlt h1 (by omega)) (fun y => y (nI_le h400 (by decide)))) (by rw [h7, nI_add]; exact nI_le hd (by decide)) rfl (by omega)
theorem fc_diff (x y : Int32) : y + (x - y) = x := by
  rw [Int32.add_comm]
  exact Int32.sub_add_cancel x y
theorem fc_la_n {dy e : Nat} {la y : Int32} (h : fc_la dy la y e) (c : ¬ 0 ≤ la) : e = 10000 := by
  rcases h.2 with ⟨-, q⟩ | ⟨q, -, q2⟩
  · exact q
  · exact absurd (by rw [q]; exact nI_pos' (by omega)) c
theorem fc_la_p {dy e : Nat} {la y : Int32} (h : fc_la dy la y e) (c : 0 ≤ la) : la = nI e := by
  rcases h.2 with ⟨q, -⟩ | ⟨q, -⟩
  · rw [q] at c
    exact absurd c (by decide)
  · exact q
theorem fc_askF4 {A : fb_At} {p : Nat} : (fb_askp A p).F p 4 = A.g 7 := (fa_u_n _ _ (by omega)).trans (fa_u_s _ _ _ _)
theorem fc_askF0 {A : fb_At} {p k : Nat} : (fb_askp A p).F k 0 = A.F k 0 := (fa_u_n _ _ (by omega)).trans (fa_u_n _ _ (by omega))
theorem fc_sF0 {A : fb_At} {p k i : Nat} {x : Int32} (hi : ¬ i = 0) : (A.sF p i x).F k 0 = A.F k 0 := fa_u_n _ _ (by omega)
theorem fc_m6N {n : Nat} (h : n < 2 ^ 31) : fb_m6 (nI n) = nI n := if_neg (nI_pos h)
theorem fc_ne5 {n : Nat} (h : n < 2 ^ 31) : ¬ nI n = (-5 : Int32) := fun z => by
  have h0 : ¬ nI n < 0 := nI_pos h
  rw [z] at h0
  exact h0 (by decide)
