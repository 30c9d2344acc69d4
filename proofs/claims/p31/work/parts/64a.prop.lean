theorem fa_nIinj {a b : Nat} (ha : a < 2 ^ 31) (hb : b < 2 ^ 31) (h : nI a = nI b) : a = b := (nI_eq ha hb).mp h
/-! A PROPERTY OF ITS OWN: what holds of the archives of its runs -/
def fc_lt (a3 a0 b3 b0 : Int32) : Prop := a3 < b3 ∨ (a3 = b3 ∧ a0 < b0)
def fc_T (Q : Int32 → Int32 → Prop) (m : Nat) (T : Nat → Nat → Int32) : Prop := (∀ p, p < m → Q (T p 3) (T p 0)) ∧ ∀ p q, p < q → q < m → fc_lt (T p 3) (T p 0) (T q 3) (T q 0)
theorem fc_T.mono {Q Q2 : Int32 → Int32 → Prop} {m : Nat} {T : Nat → Nat → Int32} (h : fc_T Q m T) (hQ : ∀ a b, Q a b → Q2 a b) : fc_T Q2 m T := ⟨fun p hp => hQ _ _ (h.1 p hp), h.2⟩
theorem fc_lv {Q : Int32 → Int32 → Prop} {m : Nat} {T : Nat → Nat → Int32} {now : Int32} {x : Nat → Int32} (h : fc_T Q m T) (hq : Q now (x 0)) (hl : ∀ p, p < m → fc_lt (T p 3) (T p 0) now (x 0)) : fc_T Q (fb_lv now x (m, T)).1 (fb_lv now x (m, T)).2 := by
  by_cases z : m = 12
  · have e : fb_lv now x (m, T) = (12, fun p i => if p = 11 then (if i = 3 then now else if i = 4 then x 5 else x i) else T (p + 1) i) := if_pos z
    rw [e]
    refine ⟨fun p hp => ?_, fun p q hpq hq2 => ?_⟩
    · have hp' : p < 12 := hp
      show Q (if p = 11 then now else T (p + 1) 3) (if p = 11 then x 0 else T (p + 1) 0)
      by_cases w : p = 11
      · rw [if_pos w, if_pos w]; exact hq
      · rw [if_neg w, if_neg w]; exact h.1 (p + 1) (by omega)
    · have hq' : q < 12 := hq2
      show fc_lt (if p = 11 then now else T (p + 1) 3) (if p = 11 then x 0 else T (p + 1) 0) (if q = 11 then now else T (q + 1) 3) (if q = 11 then x 0 else T (q + 1) 0)
      have w : ¬ p = 11 := by omega
      rw [if_neg w, if_neg w]
      by_cases u : q = 11
      · rw [if_pos u, if_pos u]; exact hl (p + 1) (by omega)
      · rw [if_neg u, if_neg u]; exact h.2 (p + 1) (q + 1) (by omega) (by omega)
  · have e : fb_lv now x (m, T) = (m + 1, fun p i => if p = m then (if i = 3 then now else if i = 4 then x 5 else x i) else T p i) := if_neg z
    rw [e]
    refine ⟨fun p hp => ?_, fun p q hpq hq2 => ?_⟩
    · have hp' : p < m + 1 := hp
      show Q (if p = m then now else T p 3) (if p = m then x 0 else T p 0)
      by_cases w : p = m
      · rw [if_pos w, if_pos w]; exact hq
      · rw [if_neg w, if_neg w]; exact h.1 p (by omega)
    · have hq' : q < m + 1 := hq2
      show fc_lt (if p = m then now else T p 3) (if p = m then x 0 else T p 0) (if q = m then now else T q 3) (if q = m then x 0 else T q 0)
      have w : ¬ p = m := by omega
      rw [if_neg w, if_neg w]
      by_cases u : q = m
      · rw [if_pos u, if_pos u]; exact hl p (by omega)
      · rw [if_neg u, if_neg u]; exact h.2 p q hpq (by omega)
/-- a trace, when the first k files of a burning are treated -/
def fc_Q (F : Nat → Nat → Int32) (P : Nat → Bool) (n d c k : Nat) (a3 a0 : Int32) : Prop := (∃ e, 90 * e ≤ d ∧ a3 = nI (90 * e)) ∧ (∃ x, x < c ∧ a0 = nI x) ∧ (∀ j, j < n → (P j = true ∨ k ≤ j) → ¬ F j 0 = a0) ∧ (a3 < nI d ∨ (a3 = nI d ∧ ∃ s, s < k ∧ a0 = F s 0))
theorem fc_Q.s {F : Nat → Nat → Int32} {P : Nat → Bool} {n d c k : Nat} {a3 a0 : Int32} (h : fc_Q F P n d c k a3 a0) : fc_Q F P n d c (k + 1) a3 a0 := by
  obtain ⟨h1, h2, h3, h4⟩ := h
  refine ⟨h1, h2, fun j hj hp => h3 j hj (hp.imp id (fun z => by omega)), ?_⟩
  rcases h4 with z | ⟨z, s, hs, es⟩
  · exact Or.inl z
  · exact Or.inr ⟨z, s, by omega, es⟩
theorem fc_bt {P : Nat → Bool} {F : Nat → Nat → Int32} {t : Nat × (Nat → Nat → Int32)} {d c n : Nat} (hnum : ∀ p k, p < k → k < n → F p 0 < F k 0) (hpos : ∀ p, p < n → 0 ≤ F p 0 ∧ F p 0 < nI c) (hc : c < 2 ^ 31) (hd : ∃ e, 90 * e = d) (h : fc_T (fc_Q F P n d c 0) t.1 t.2) :
    ∀ k, k ≤ n → fc_T (fc_Q F P n d c k) (fb_bt P F (nI d) t k).2.2.1 (fb_bt P F (nI d) t k).2.2.2
  | 0, _ => h
  | k + 1, hk => by
    have ih := fc_bt hnum hpos hc hd h k (by omega)
    have ih2 := ih.mono (fun _ _ => fc_Q.s)
    by_cases z : P k = true
    · rw [fb_bt_t z]; exact ih2
    · rw [fb_bt_f z]
      refine fc_lv (m := (fb_bt P F (nI d) t k).2.2.1) (T := (fb_bt P F (nI d) t k).2.2.2) ih2 ?_ (fun p hp => ?_)
      · obtain ⟨e, he⟩ := hd
        obtain ⟨x, hx, ex⟩ := fa_ixN hc (Int32.not_lt.mpr (hpos k (by omega)).1) (hpos k (by omega)).2
        refine ⟨⟨e, by omega, by rw [he]⟩, ⟨x, hx, ex⟩, fun j hj hp y => ?_, Or.inr ⟨rfl, k, by omega, rfl⟩⟩
        have hjk : ¬ j = k := fun w => by
          rw [w] at hp
          rcases hp with u | u
          · exact z u
          · omega
        rcases Nat.lt_or_gt_of_ne hjk with q | q
        · have := hnum j k q (by omega)
          rw [y] at this
          exact Int32.lt_irrefl this
        · have := hnum k j q hj
          rw [y] at this
          exact Int32.lt_irrefl this
      · rcases (ih.1 p hp).2.2.2 with y | ⟨y, s, hs, es⟩
        · exact Or.inl y
        · exact Or.inr ⟨y, by rw [es]; exact hnum s k hs (by omega)⟩
theorem fc_bt_m {P : Nat → Bool} {F : Nat → Nat → Int32} {now : Int32} {t : Nat × (Nat → Nat → Int32)} : ∀ k, (fb_bt P F now t k).2.2.1 ≤ t.1 + (k - (fb_kp P F k).1)
  | 0 => Nat.le_add_right _ _
  | k + 1 => by
    have ih := fc_bt_m (P := P) (F := F) (now := now) (t := t) k
    have hl := fb_kp_le (P := P) (F := F) k
    by_cases z : P k = true
    · rw [fb_bt_t z, fb_kp_t1 z]; omega
    · rw [fb_bt_f z, fb_kp_f z]
      show (fb_lv now (F k) (fb_bt P F now t k).2.2).1 ≤ _
      unfold fb_lv
      split
      · rename_i w
        show 12 ≤ _
        omega
      · show _ + 1 ≤ _
        omega
def fc_set (g : Nat → Int32) : Prop := (∀ i, i < 5 → ∃ x, 30 ≤ x ∧ x ≤ 2000 ∧ g i = nI x) ∧ (∃ x, 1 ≤ x ∧ x ≤ 20 ∧ g 5 = nI x) ∧ ∃ x, 50 ≤ x ∧ x ≤ 600 ∧ g 6 = nI x
theorem fc_set.cong {g f : Nat → Int32} (h : fc_set g) (e : ∀ i, i < 7 → f i = g i) : fc_set f := by
  refine ⟨fun i hi => ?_, ?_, ?_⟩
  · rw [e i (by omega)]; exact h.1 i hi
  · rw [e 5 (by decide)]; exact h.2.1
  · rw [e 6 (by decide)]; exact h.2.2
def fc_fil (d k : Nat) (x : Nat → Int32) : Prop := (∃ y, 1 ≤ y ∧ y ≤ 50 ∧ x 2 = nI y) ∧ (∃ y, y ≤ d ∧ x 3 = nI y) ∧ ∃ t, t ≤ d + k ∧ x 5 = nI t ∧ ((x 4 = (-1 : Int32) ∧ t = 0) ∨ ∃ y, y ≤ d ∧ x 4 = nI y ∧ 0 < t)
theorem fc_fil.up {d k d2 k2 : Nat} {x y : Nat → Int32} (h : fc_fil d k x) (hd : d ≤ d2) (hk : k ≤ k2) (h2 : y 2 = x 2) (h3 : y 3 = x 3) (h4 : y 4 = x 4) (h5 : y 5 = x 5) : fc_fil d2 k2 y := by
  obtain ⟨a, ⟨b, hb, eb⟩, t, ht, et, q⟩ := h
  refine ⟨by rw [h2]; exact a, ⟨b, by omega, by rw [h3]; exact eb⟩, t, by omega, by rw [h5]; exact et, ?_⟩
  rw [h4]
  rcases q with z | ⟨y, hy, e, hp⟩
  · exact Or.inl z
  · exact Or.inr ⟨y, by omega, e, hp⟩
theorem fc_fil.ask {d k d2 k2 : Nat} {x y : Nat → Int32} (h : fc_fil d k x) (hd : d ≤ d2) (hk : d + k + 1 ≤ d2 + k2) (h2 : y 2 = x 2) (h3 : y 3 = x 3) (h4 : y 4 = nI d2) (h5 : y 5 = x 5 + nI 1) : fc_fil d2 k2 y := by
  obtain ⟨a, ⟨b, hb, eb⟩, t, ht, et, q⟩ := h
  exact ⟨by rw [h2]; exact a, ⟨b, by omega, by rw [h3]; exact eb⟩, t + 1, by omega, by rw [h5, et, nI_add], Or.inr ⟨d2, Nat.le_refl _, h4, by omega⟩⟩
/-- the day d, c came, b were burnt, t burnings, k acts -/
def fc_ok (A : fb_At) (d c b t k : Nat) : Prop := A.g 7 = nI d ∧ A.g 8 = nI c ∧ A.g 9 = nI b ∧ A.g 13 = nI t ∧ c = A.n + b ∧ A.m ≤ b ∧ fc_set A.g ∧ (∀ p, p < A.n → fc_fil d k (A.F p)) ∧
  fc_T (fun a3 a0 => (∃ e, e ≤ t ∧ a3 = nI (90 * e)) ∧ (∃ x, x < c ∧ a0 = nI x) ∧ ∀ j, j < A.n → ¬ A.F j 0 = a0) A.m A.T
theorem fc_ok.cong {A B : fb_At} {d c b t k d2 k2 : Nat} (h : fc_ok A d c b t k) (h7 : B.g 7 = nI d2) (h8 : B.g 8 = A.g 8) (h9 : B.g 9 = A.g 9) (h13 : B.g 13 = A.g 13) (hn : B.n = A.n) (hm : B.m = A.m) (hT : B.T = A.T) (hs : fc_set B.g)
    (h0 : ∀ p, p < A.n → B.F p 0 = A.F p 0) (hF : ∀ p, p < A.n → fc_fil d k (A.F p) → fc_fil d2 k2 (B.F p)) : fc_ok B d2 c b t k2 := by
  obtain ⟨a1, a2, a3, a4, a5, a6, a7, a8, a9⟩ := h
  refine ⟨h7, h8.trans a2, h9.trans a3, h13.trans a4, by rw [hn]; exact a5, by rw [hm]; exact a6, hs, fun p hp => ?_, ?_⟩
  · rw [hn] at hp
    exact hF p hp (a8 p hp)
  · rw [hm, hT]
    refine a9.mono (fun x y q => ⟨q.1, q.2.1, fun j hj => ?_⟩)
    rw [hn] at hj
    rw [h0 j hj]
    exact q.2.2 j hj
theorem fc_ok.more {A : fb_At} {d c b t k k2 : Nat} (h : fc_ok A d c b t k) (hk : k ≤ k2) : fc_ok A d c b t k2 := h.cong h.1 rfl rfl rfl rfl rfl rfl h.2.2.2.2.2.2.1 (fun _ _ => rfl) (fun p _ q => q.up (Nat.le_refl _) hk rfl rfl rfl rfl)
/-- one number changes, one field of a file -/
theorem fc_ok.sgo {A : fb_At} {d c b t k j : Nat} {x : Int32} (h : fc_ok A d c b t k) (hj : 10 ≤ j) (h13 : ¬ j = 13) : fc_ok (A.sg j x) d c b t k :=
  h.cong ((fb_sg_n (by omega)).trans h.1) (fb_sg_n (by omega)) (fb_sg_n (by omega)) (fb_sg_n (by omega)) rfl rfl rfl (h.2.2.2.2.2.2.1.cong (fun i hi => fb_sg_n (by omega))) (fun _ _ => rfl) (fun p _ q => q)
theorem fc_ok.sFo {A : fb_At} {d c b t k p i : Nat} {x : Int32} (h : fc_ok A d c b t k) (hi : 6 ≤ i) : fc_ok (A.sF p i x) d c b t k :=
  h.cong h.1 rfl rfl rfl rfl rfl rfl h.2.2.2.2.2.2.1 (fun j _ => fa_u_n _ _ (by omega)) (fun j _ q => q.up (Nat.le_refl _) (Nat.le_refl _) (fa_u_n _ _ (by omega)) (fa_u_n _ _ (by omega)) (fa_u_n _ _ (by omega)) (fa_u_n _ _ (by omega)))
theorem fc_ok.sqo {A : fb_At} {d c b t k : Nat} {q : List (Int32 × Int32)} (h : fc_ok A d c b t k) : fc_ok (A.sq q) d c b t k := h
theorem fc_ok.set1 {A : fb_At} {d c b t k j : Nat} {x : Int32} (h : fc_ok A d c b t k) (hj : j < 7) (hs : fc_set (A.sg j x).g) : fc_ok (A.sg j x) d c b t k :=
  h.cong ((fb_sg_n (by omega)).trans h.1) (fb_sg_n (by omega)) (fb_sg_n (by omega)) (fb_sg_n (by omega)) rfl rfl rfl hs (fun _ _ => rfl) (fun p _ q => q)
theorem fc_ok.askp {A : fb_At} {d c b t k p : Nat} (h : fc_ok A d c b t k) : fc_ok (fb_askp A p) d c b t (k + 1) := by
  have h1 : fc_ok ((A.sF p 4 (A.g 7)).sF p 5 (A.F p 5 + nI 1)) d c b t (k + 1) :=
    h.cong h.1 rfl rfl rfl rfl rfl rfl h.2.2.2.2.2.2.1 (fun j _ => (fa_u_n _ _ (by omega)).trans (fa_u_n _ _ (by omega))) (fun j _ q => by
      by_cases z : j = p
      · rw [z] at q ⊢
        refine q.ask (Nat.le_refl _) (by omega) ((fa_u_n _ _ (by omega)).trans (fa_u_n _ _ (by omega))) ((fa_u_n _ _ (by omega)).trans (fa_u_n _ _ (by omega))) ?_ ?_
        · refine (fa_u_n _ _ (by omega)).trans ((fa_u_s _ _ _ _).trans h.1)
        · exact fa_u_s _ _ _ _
      · exact q.up (Nat.le_refl _) (by omega) ((fa_u_n _ _ (by omega)).trans (fa_u_n _ _ (by omega))) ((fa_u_n _ _ (by omega)).trans (fa_u_n _ _ (by omega))) ((fa_u_n _ _ (by omega)).trans (fa_u_n _ _ (by omega))) ((fa_u_n _ _ (by omega)).trans (fa_u_n _ _ (by omega))))
  exact h1.sgo (by decide) (by decide)
theorem fc_ok.new {A : fb_At} {d c b t k : Nat} {kd pg : Int32} (h : fc_ok A d c b t k) (hp : ∃ y, 1 ≤ y ∧ y ≤ 50 ∧ pg = nI y) (hc : c < 2 ^ 31) : fc_ok (fb_s1 A.g 8 (A.g 8 + nI 1), (A.n + 1, fb_newF A kd pg), A.q, (A.m, A.T)) d (c + 1) b t k := by
  obtain ⟨a1, a2, a3, a4, a5, a6, a7, a8, a9⟩ := h
  have gn : ∀ j, ¬ j = 8 → fb_s1 A.g 8 (A.g 8 + nI 1) j = A.g j := fun j hj => fb_s1_n hj
  refine ⟨(gn 7 (by decide)).trans a1, ?_, (gn 9 (by decide)).trans a3, (gn 13 (by decide)).trans a4, by show c + 1 = A.n + 1 + b; omega, a6, a7.cong (fun i hi => gn i (by omega)), fun p hp2 => ?_, ?_⟩
  · show fb_s1 A.g 8 (A.g 8 + nI 1) 8 = _
    rw [fb_s1_s, a2, nI_add]
  · have hp' : p < A.n + 1 := hp2
    show fc_fil d k (fb_newF A kd pg p)
    by_cases z : p = A.n
    · have e : fb_newF A kd pg p = fun i => if i = 0 then A.g 8 else if i = 1 then kd else if i = 2 then pg else if i = 3 then A.g 7 else if i = 4 ∨ i = 6 then (-1 : Int32) else 0 := by
        funext i
        exact if_pos z
      rw [e]
      exact ⟨hp, ⟨d, Nat.le_refl _, a1⟩, 0, Nat.zero_le _, rfl, Or.inl ⟨rfl, rfl⟩⟩
    · have e : fb_newF A kd pg p = A.F p := by
        funext i
        exact if_neg z
      rw [e]
      exact a8 p (by omega)
  · refine a9.mono (fun x y q => ⟨q.1, ?_, fun j hj => ?_⟩)
    · obtain ⟨w, hw, ew⟩ := q.2.1
      exact ⟨w, by omega, ew⟩
    · have hj' : j < A.n + 1 := hj
      show ¬ fb_newF A kd pg j 0 = y
      by_cases z : j = A.n
      · rw [show fb_newF A kd pg j 0 = A.g 8 from if_pos z, a2]
        obtain ⟨w, hw, ew⟩ := q.2.1
        rw [ew]
        exact fun u => by have := fa_nIinj hc (by omega) u; omega
      · rw [show fb_newF A kd pg j 0 = A.F j 0 from if_neg z]
        exact q.2.2 j (by omega)
/-! a day -/
/-- a burning's numbers -/
theorem fc_burn_g {A : fb_At} {j : Nat} (h9 : ¬ j = 9) (h10 : ¬ j = 10) (h13 : ¬ j = 13) : (fb_burnA A).2.g j = A.g j := by
  show fb_s1 (fb_s1 (fb_s1 A.g 9 (A.g 9 + (fb_bt (fb_stb A) A.F (A.g 7) (A.m, A.T) A.n).1)) 10 (A.g 10 + (fb_bt (fb_stb A) A.F (A.g 7) (A.m, A.T) A.n).2.1)) 13 (A.g 13 + nI 1) j = _
  rw [fb_s1_n h13, fb_s1_n h10, fb_s1_n h9]
theorem fc_burn_9 {A : fb_At} : (fb_burnA A).2.g 9 = A.g 9 + (fb_burnA A).1 := by
  show fb_s1 (fb_s1 (fb_s1 A.g 9 (A.g 9 + (fb_bt (fb_stb A) A.F (A.g 7) (A.m, A.T) A.n).1)) 10 (A.g 10 + (fb_bt (fb_stb A) A.F (A.g 7) (A.m, A.T) A.n).2.1)) 13 (A.g 13 + nI 1) 9 = _
  rw [fb_s1_n (by decide), fb_s1_n (by decide), fb_s1_s]
  rfl
theorem fc_burn_13 {A : fb_At} : (fb_burnA A).2.g 13 = A.g 13 + nI 1 := by
  show fb_s1 (fb_s1 (fb_s1 A.g 9 (A.g 9 + (fb_bt (fb_stb A) A.F (A.g 7) (A.m, A.T) A.n).1)) 10 (A.g 10 + (fb_bt (fb_stb A) A.F (A.g 7) (A.m, A.T) A.n).2.1)) 13 (A.g 13 + nI 1) 13 = _
  rw [fb_s1_s]
theorem fc_ok.burn {A : fb_At} {d c b t k : Nat} (hok : fb_okA A) (h : fc_ok A d c b t k) (hd : d = 90 * (t + 1)) (hd2 : d < 2 ^ 31) (hc : c < 2 ^ 31) : ∃ b2, b ≤ b2 ∧ fc_ok (fb_burnA A).2 d c b2 (t + 1) k ∧ (fb_burnA A).1 = nI (b2 - b) := by
  obtain ⟨a1, a2, a3, a4, a5, a6, a7, a8, a9⟩ := id h
  obtain ⟨s1, s2, s3⟩ := fb_kp_spec (P := fb_stb A) (F := A.F) A.n
  have hk := fb_kp_le (P := fb_stb A) (F := A.F) A.n
  have hx : (fb_burnA A).1 = nI (A.n - (fb_kp (fb_stb A) A.F A.n).1) := fb_bt_n A.n
  have hm := fc_bt_m (P := fb_stb A) (F := A.F) (now := A.g 7) (t := (A.m, A.T)) A.n
  refine ⟨b + (A.n - (fb_kp (fb_stb A) A.F A.n).1), Nat.le_add_right _ _, ⟨?_, ?_, ?_, ?_, ?_, ?_, ?_, fun p hp => ?_, ?_⟩, by rw [hx, Nat.add_sub_cancel_left]⟩
  · exact fb_burn7.trans a1
  · exact (fc_burn_g (by decide) (by decide) (by decide)).trans a2
  · rw [fc_burn_9, a3, hx, nI_add]
  · rw [fc_burn_13, a4, nI_add]
  · show c = (fb_kp (fb_stb A) A.F A.n).1 + (b + (A.n - (fb_kp (fb_stb A) A.F A.n).1))
    omega
  · show (fb_bt (fb_stb A) A.F (A.g 7) (A.m, A.T) A.n).2.2.1 ≤ _
    have hm' : (fb_bt (fb_stb A) A.F (A.g 7) (A.m, A.T) A.n).2.2.1 ≤ A.m + (A.n - (fb_kp (fb_stb A) A.F A.n).1) := hm
    omega
  · refine a7.cong (fun i hi => ?_)
    exact fc_burn_g (by omega) (by omega) (by omega)
  · obtain ⟨s, hs, -, es⟩ := s2 p hp
    have e : (fb_burnA A).2.F p = A.F s := es
    rw [e]
    exact a8 s hs
  · have q0 : fc_T (fc_Q A.F (fb_stb A) A.n d c 0) A.m A.T := a9.mono (fun x y q => by
      obtain ⟨⟨e, he, ee⟩, q2, q3⟩ := q
      exact ⟨⟨e, by omega, ee⟩, q2, fun j hj _ => q3 j hj, Or.inl (by rw [ee]; exact nI_lt (by omega) hd2)⟩)
    have q1 := fc_bt (t := (A.m, A.T)) hok.1.2.2.2.1 (fun p hp => by have z := hok.1.2.2.2.2.1 p hp; rw [a2] at z; exact z) hc ⟨t + 1, hd.symm⟩ q0 A.n (Nat.le_refl _)
    rw [← a1] at q1
    refine fc_T.mono (m := (fb_burnA A).2.m) (T := (fb_burnA A).2.T) q1 (fun x y q => ?_)
    obtain ⟨⟨e, he, ee⟩, q2, q3, -⟩ := q
    refine ⟨⟨e, by omega, ee⟩, q2, fun j hj => ?_⟩
    obtain ⟨s, hs, hP, es⟩ := s2 j hj
    have e2 : (fb_burnA A).2.F j = A.F s := es
    rw [e2]
    exact q3 s hs (Or.inl hP)
theorem fc_ok.morn {A : fb_At} {d c b t k : Nat} (h : fc_ok A d c b t k) : fc_ok (fb_morn A) (d + 1) c b t k := by
  have g7 : A.g 7 + nI 1 = nI (d + 1) := by rw [h.1, nI_add]
  have gn : ∀ j, ¬ j = 7 → ¬ j = 11 → (fb_morn A).g j = A.g j := fun j h7 h11 => (fb_rsv_g h11).trans (fb_sg_n h7)
  have hF : ∀ p i, ¬ i = 4 → ¬ i = 5 → (fb_morn A).F p i = A.F p i := fun p i h4 h5 => fb_rsvF h4 h5
  refine h.cong (fb_morn7.trans g7) (gn 8 (by decide) (by decide)) (gn 9 (by decide) (by decide)) (gn 13 (by decide) (by decide)) rfl rfl rfl (h.2.2.2.2.2.2.1.cong (fun i hi => gn i (by omega) (by omega))) (fun p _ => hF p 0 (by decide) (by decide)) (fun p _ q => ?_)
  by_cases z : (A.F p 0, A.g 7 + nI 1) ∈ A.q
  · refine q.ask (by omega) (by omega) (hF p 2 (by decide) (by decide)) (hF p 3 (by decide) (by decide)) ?_ ?_
    · show (if (A.F p 0, A.g 7 + nI 1) ∈ A.q then (if (4 : Nat) = 4 then A.g 7 + nI 1 else if (4 : Nat) = 5 then A.F p 5 + nI 1 else A.F p 4) else A.F p 4) = _
      rw [if_pos z]
      exact g7
    · show (if (A.F p 0, A.g 7 + nI 1) ∈ A.q then (if (5 : Nat) = 4 then A.g 7 + nI 1 else if (5 : Nat) = 5 then A.F p 5 + nI 1 else A.F p 5) else A.F p 5) = _
      rw [if_pos z]
      rfl
  · refine q.up (by omega) (Nat.le_refl _) (hF p 2 (by decide) (by decide)) (hF p 3 (by decide) (by decide)) ?_ ?_
    · show (if (A.F p 0, A.g 7 + nI 1) ∈ A.q then (if (4 : Nat) = 4 then A.g 7 + nI 1 else if (4 : Nat) = 5 then A.F p 5 + nI 1 else A.F p 4) else A.F p 4) = _
      rw [if_neg z]
    · show (if (A.F p 0, A.g 7 + nI 1) ∈ A.q then (if (5 : Nat) = 4 then A.g 7 + nI 1 else if (5 : Nat) = 5 then A.F p 5 + nI 1 else A.F p 5) else A.F p 5) = _
      rw [if_neg z]
theorem fc_rem {d : Nat} (hd : d < 2 ^ 31) : nI d - nI d / nI 90 * nI 90 = 0 ↔ d % 90 = 0 := by
  rw [pk_rem hd (by decide) (by decide)]
  constructor
  · intro h
    exact fa_nIinj (by omega) (by decide) h
  · intro h
    rw [h]; rfl
theorem fc_ok.day {A : fb_At} {d c b k : Nat} (hok : fb_okA A) (h : fc_ok A d c b (d / 90) k) (hd : d < 9999) (hc : c < 2 ^ 31) : ∃ b2, b ≤ b2 ∧ fc_ok (fb_dayA A).2 (d + 1) c b2 ((d + 1) / 90) k ∧ (fb_dayA A).1 = nI (b2 - b) ∧ (¬ (d + 1) % 90 = 0 → (fb_dayA A).2 = fb_morn A) := by
  have g7 : A.g 7 + nI 1 = nI (d + 1) := by rw [h.1, nI_add]
  have hl : A.g 7 < nI 9999 := by rw [h.1]; exact nI_lt hd (by decide)
  by_cases z : (d + 1) % 90 = 0
  · have e := fb_dayA_1 (A := A) (by rw [g7]; exact (fc_rem (by omega)).mpr z)
    rw [e]
    have t1 : (d + 1) / 90 = d / 90 + 1 := by omega
    obtain ⟨b2, h1, h2, h3⟩ := (h.morn).burn (hok.morn hl) (by omega) (by omega) hc
    exact ⟨b2, h1, by rw [t1]; exact h2, h3, fun y => absurd z y⟩
  · have e := fb_dayA_0 (A := A) (by rw [g7]; exact fun y => z ((fc_rem (by omega)).mp y))
    rw [e]
    have t1 : (d + 1) / 90 = d / 90 := by omega
    exact ⟨b, Nat.le_refl _, by rw [t1]; exact h.morn, by rw [Nat.sub_self], fun _ => rfl⟩
theorem fc_ok.days {A : fb_At} {d c b k : Nat} (hok : fb_okA A) (h : fc_ok A d c b (d / 90) k) (hc : c < 2 ^ 31) : ∀ j, d + j ≤ 9999 → ∃ b2, b ≤ b2 ∧ fc_ok (fb_daysA A j).2 (d + j) c b2 ((d + j) / 90) k ∧ (fb_daysA A j).1 = nI (b2 - b)
  | 0, _ => ⟨b, Nat.le_refl _, h, by rw [Nat.sub_self]; rfl⟩
  | j + 1, hj => by
    obtain ⟨b2, h1, h2, h3⟩ := h.days hok hc j (by omega)
    obtain ⟨b3, q1, q2, q3, -⟩ := h2.day (hok.days h.1 j (by omega)).1 (by omega) hc
    refine ⟨b3, by omega, q2, ?_⟩
    show (fb_daysA A j).1 + (fb_dayA (fb_daysA A j).2).1 = _
    rw [h3, q3, nI_add, show b2 - b + (b3 - b2) = b3 - b by omega]
/-- what days burn is the burnt files' difference -/
theorem fc_days9 (A : fb_At) : ∀ j, (fb_daysA A j).1 = (fb_daysA A j).2.g 9 - A.g 9
  | 0 => by
    show nI 0 = A.g 9 - A.g 9
    rw [Int32.sub_self]; rfl
  | j + 1 => by
    have e : ∀ B : fb_At, (fb_dayA B).1 = (fb_dayA B).2.g 9 - B.g 9 := fun B => by
      by_cases z : (B.g 7 + nI 1) - (B.g 7 + nI 1) / nI 90 * nI 90 = 0
      · rw [fb_dayA_1 z]
        have m9 : (fb_morn B).g 9 = B.g 9 := (fb_rsv_g (by decide)).trans (fb_sg_n (by decide))
        rw [← m9]
        rw [fc_burn_9, Int32.add_comm]
        exact (Int32.add_sub_cancel _ _).symm
      · rw [fb_dayA_0 z]
        show nI 0 = (fb_morn B).g 9 - B.g 9
        rw [show (fb_morn B).g 9 = B.g 9 from (fb_rsv_g (by decide)).trans (fb_sg_n (by decide)), Int32.sub_self]
        rfl
    show (fb_daysA A j).1 + (fb_dayA (fb_daysA A j).2).1 = (fb_dayA (fb_daysA A j).2).2.g 9 - A.g 9
    rw [fc_days9 A j, e]
    generalize (fb_daysA A j).2.g 9 = x
    generalize (fb_dayA (fb_daysA A j).2).2.g 9 = y
    rw [Int32.sub_eq_add_neg, Int32.sub_eq_add_neg, Int32.sub_eq_add_neg, Int32.add_comm, Int32.add_assoc, ← Int32.add_assoc (-x), Int32.add_left_neg, Int32.zero_add]
/-- a file goes in a burning alone -/
theorem fc_gone {A : fb_At} {d : Nat} {a : Int32} (hok : fb_okA A) (h7 : A.g 7 = nI d) (hd : d < 9999) (h1 : ¬ fb_ix A.F a A.n = none) (h2 : fb_ix (fb_dayA A).2.F a (fb_dayA A).2.n = none) : (d + 1) % 90 = 0 ∧ ∃ j, 1 ≤ j ∧ j ≤ 24 ∧ (fb_dayA A).1 = nI j := by
  have g7 : A.g 7 + nI 1 = nI (d + 1) := by rw [h7, nI_add]
  have z : (d + 1) % 90 = 0 := Decidable.byContradiction (fun z => by
    rw [fb_dayA_0 (A := A) (by rw [g7]; exact fun y => z ((fc_rem (by omega)).mp y))] at h2
    rcases fb_ix_elim A.n (F := A.F) (a := a) with q | ⟨p, -, hp, ep, -⟩
    · exact h1 q.1
    · rcases fb_ix_elim (fb_morn A).n (F := (fb_morn A).F) (a := a) with q | ⟨p2, q, -⟩
      · exact q.2 p hp ((fb_rsvF (by decide) (by decide)).trans ep)
      · rw [q] at h2
        exact absurd h2 (by simp))
  refine ⟨z, ?_⟩
  have e := fb_dayA_1 (A := A) (by rw [g7]; exact (fc_rem (by omega)).mpr z)
  rw [e] at h2 ⊢
  have hx : (fb_burnA (fb_morn A)).1 = nI ((fb_morn A).n - (fb_kp (fb_stb (fb_morn A)) (fb_morn A).F (fb_morn A).n).1) := fb_bt_n _
  have hn : (fb_morn A).n = A.n := rfl
  have hn24 := hok.1.1
  have hk := fb_kp_le (P := fb_stb (fb_morn A)) (F := (fb_morn A).F) (fb_morn A).n
  refine ⟨_, ?_, ?_, hx⟩
  · refine Decidable.byContradiction (fun w => ?_)
    have all : (fb_kp (fb_stb (fb_morn A)) (fb_morn A).F (fb_morn A).n).1 = (fb_morn A).n := by omega
    have keep : ∀ P : Nat → Bool, ∀ F : Nat → Nat → Int32, ∀ n, (fb_kp P F n).1 = n → ∀ p, p < n → P p = true := fun P F n => by
      induction n with
      | zero => exact fun _ p hp => absurd hp (Nat.not_lt_zero _)
      | succ n ih =>
        intro q p hp
        by_cases y : P n = true
        · rw [fb_kp_t1 y] at q
          by_cases u : p = n
          · rw [u]; exact y
          · exact ih (by omega) p (by omega)
        · rw [fb_kp_f y] at q
          have := fb_kp_le (P := P) (F := F) n
          omega
    rcases fb_ix_elim A.n (F := A.F) (a := a) with q | ⟨p, -, hp, ep, -⟩
    · exact h1 q.1
    · obtain ⟨j, hj, ej⟩ := (fb_kp_spec (P := fb_stb (fb_morn A)) (F := (fb_morn A).F) (fb_morn A).n).2.2 p hp (keep _ _ _ all p hp)
      rcases fb_ix_elim (fb_burnA (fb_morn A)).2.n (F := (fb_burnA (fb_morn A)).2.F) (a := a) with q | ⟨p2, q, -⟩
      · refine q.2 j hj ?_
        have e2 : (fb_burnA (fb_morn A)).2.F j = (fb_morn A).F p := ej
        rw [e2]
        exact (fb_rsvF (by decide) (by decide)).trans ep
      · rw [q] at h2
        exact absurd h2 (by simp)
  · have : A.n ≤ 24 := hn24
    omega
/-- in how many days a file would be burnt -/
def fc_bnP (A : fb_At) (a x : Int32) : Prop := (fb_ix A.F a A.n = none ∧ x = (-1 : Int32)) ∨ (¬ fb_ix A.F a A.n = none ∧ ((∃ u, 1 ≤ u ∧ u ≤ 3000 ∧ x = nI u ∧ (∀ j, j < u → ¬ fb_ix (fb_daysA A j).2.F a (fb_daysA A j).2.n = none) ∧ fb_ix (fb_daysA A u).2.F a (fb_daysA A u).2.n = none) ∨ x = (-6 : Int32)))
