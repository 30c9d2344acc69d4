/-! WHERE THINGS STAND: the States' bases, shapes, the references that never change -/
def fa_bs : List Nat := [1, 57, 115, 171, 227, 283, 339]
theorem fa_shb : ∀ b ∈ fa_bs, ∀ o, o < 56 → fa_sh (b + o) = fa_shS o := by decide +kernel
theorem fa_bsle : ∀ b ∈ fa_bs, b + 56 ≤ 395 := by decide
theorem fa_lt {b n : Nat} (hb : b ∈ fa_bs) (o : Nat) (ho : o < 56) (hn : 397 ≤ n) : b + o < n := by
  have := fa_bsle b hb
  omega
theorem fa_s0 {b : Nat} (hb : b ∈ fa_bs) : fa_sh b = .inr 3 := fa_shb b hb 0 (by decide)
theorem fa_s1 {b : Nat} (hb : b ∈ fa_bs) : fa_sh (b + 1) = .inl (3, 24) := fa_shb b hb 1 (by decide)
theorem fa_s2 {b : Nat} (hb : b ∈ fa_bs) : fa_sh (b + 2) = .inr 2 := fa_shb b hb 2 (by decide)
theorem fa_s3 {b : Nat} (hb : b ∈ fa_bs) : fa_sh (b + 3) = .inl (0, 8) := fa_shb b hb 3 (by decide)
theorem fa_s4 {b : Nat} (hb : b ∈ fa_bs) : fa_sh (b + 4) = .inl (0, 8) := fa_shb b hb 4 (by decide)
theorem fa_s5 {b : Nat} (hb : b ∈ fa_bs) : fa_sh (b + 5) = .inr 5 := fa_shb b hb 5 (by decide)
theorem fa_s6 {b : Nat} (hb : b ∈ fa_bs) : fa_sh (b + 6) = .inl (0, 60) := fa_shb b hb 6 (by decide)
theorem fa_s7 {b : Nat} (hb : b ∈ fa_bs) : fa_sh (b + 7) = .inl (0, 7) := fa_shb b hb 7 (by decide)
theorem fa_shO : ∀ j, j < 24 → fa_shS (8 + 2 * j) = .inr 4 ∧ fa_shS (9 + 2 * j) = .inl (0, 8) := by decide +kernel
theorem fa_sf {b j : Nat} (hb : b ∈ fa_bs) (hj : j < 24) : fa_sh (b + 8 + 2 * j) = .inr 4 := by
  have h := fa_shb b hb (8 + 2 * j) (by omega)
  rw [(fa_shO j hj).1] at h
  rw [← h]
  congr 1
  omega
theorem fa_se {b j : Nat} (hb : b ∈ fa_bs) (hj : j < 24) : fa_sh (b + 9 + 2 * j) = .inl (0, 8) := by
  have h := fa_shb b hb (9 + 2 * j) (by omega)
  rw [(fa_shO j hj).2] at h
  rw [← h]
  congr 1
  omega
theorem fa_ltf {b j n : Nat} (hb : b ∈ fa_bs) (hj : j < 24) (hn : 397 ≤ n) : b + 8 + 2 * j < n := by
  have := fa_bsle b hb
  omega
theorem fa_lte {b j n : Nat} (hb : b ∈ fa_bs) (hj : j < 24) (hn : 397 ≤ n) : b + 9 + 2 * j < n := by
  have := fa_bsle b hb
  omega
/-- the references of the State at b -/
def fa_RS (r : fa_R) (b : Nat) : Prop := r b 8 = some (b + 1) ∧ r b 9 = some (b + 2) ∧ r b 10 = some (b + 5) ∧ r b 11 = some (b + 7) ∧ r (b + 2) 1 = some (b + 3) ∧ r (b + 2) 2 = some (b + 4) ∧ r (b + 5) 1 = some (b + 6) ∧ (∀ p, p < 24 → ∃ j, j < 24 ∧ r (b + 1) p = some (b + 8 + 2 * j)) ∧ ∀ j, j < 24 → r (b + 8 + 2 * j) 7 = some (b + 9 + 2 * j)
/-- the references of the archive -/
def fa_RA (r : fa_R) : Prop := r 0 0 = some 1 ∧ r 0 1 = some 57 ∧ r 0 2 = some 113 ∧ r 0 3 = some 395 ∧ r 113 1 = some 114 ∧ r 395 0 = some 396
/-- the references of the reference -/
def fa_RM (r : fa_R) : Prop := r 397 0 = some 398 ∧ r 397 1 = some 399 ∧ r 397 2 = some 400 ∧ r 397 3 = some 401 ∧ r 397 4 = some 402 ∧ r 397 5 = some 403 ∧ r 397 6 = some 404 ∧ r 397 7 = some 405
/-- rows outside lo .. hi-1 stay -/
def fa_fr (lo hi : Nat) (v v1 : fa_V) : Prop := ∀ k, ¬ (lo ≤ k ∧ k < hi) → v1 k = v k
theorem fa_fr.rf {lo hi : Nat} {v : fa_V} : fa_fr lo hi v v := fun _ _ => rfl
theorem fa_fr.u {lo hi k i : Nat} {x : Int32} {v v1 : fa_V} (h : fa_fr lo hi v v1) (hk : lo ≤ k ∧ k < hi) : fa_fr lo hi v (fa_u v1 k i x) := fun j hj => by
  have hne : j ≠ k := fun e => hj (by rw [e]; exact hk)
  rw [fa_u_k _ _ hne]
  exact h j hj
theorem fa_fr.tr {lo hi : Nat} {v v1 v2 : fa_V} (h : fa_fr lo hi v v1) (h2 : fa_fr lo hi v1 v2) : fa_fr lo hi v v2 := fun k hk => (h2 k hk).trans (h k hk)
theorem fa_fr.wide {lo hi lo1 hi1 : Nat} {v v1 : fa_V} (h : fa_fr lo hi v v1) (h1 : lo1 ≤ lo) (h2 : hi ≤ hi1) : fa_fr lo1 hi1 v v1 := fun k hk => h k (fun q => hk ⟨by omega, by omega⟩)
theorem fa_fr.cp {lo hi k1 : Nat} {f : Nat → Int32} {v v1 : fa_V} (h : fa_fr lo hi v v1) (hk : lo ≤ k1 ∧ k1 < hi) : fa_fr lo hi v (fun k i => if k = k1 then f i else v1 k i) := fun j hj => by
  have hne : j ≠ k1 := fun e => hj (by rw [e]; exact hk)
  funext i
  show (if j = k1 then f i else v1 j i) = v j i
  rw [if_neg hne, h j hj]
theorem fa_cpn : Cond.native arraycopyName ∈ fa_tbl := fa_in 123 (by decide +kernel) (by decide +kernel)
