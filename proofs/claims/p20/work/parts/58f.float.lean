/-! FLOATS: a whole number over a count is no NaN -/
def fa_fgood (p : Nat) (q0 : Int) : FP.Core.Datum → Prop
  | .nan => False
  | .inf _ => True
  | .fin _ c q => c < 2 ^ p ∧ q ≤ q0
def fa_pos : FP.Core.Datum → Bool
  | .fin _ c _ => c != 0
  | _ => false
theorem fa_bound_good {f : FP.Core.Fmt} {s : Bool} {c : Nat} {q : Int} (h : c < 2 ^ f.p) : fa_fgood f.p f.qmax (FP.Core.bound f s c q) := by
  unfold FP.Core.bound
  split
  · rename_i h2
    exact ⟨h, h2⟩
  · exact True.intro
theorem fa_ratio_good {f : FP.Core.Fmt} (hp : f.tails < 2 ^ f.p) (hq : f.qmin ≤ f.qmax) (s : Bool) (a b : Nat) (e : Int) : fa_fgood f.p f.qmax (FP.Core.roundRatio f s a b e) := by
  unfold FP.Core.roundRatio
  split
  · exact ⟨Nat.two_pow_pos _, hq⟩
  · unfold FP.Core.roundAt FP.Core.settle
    split
    · rename_i h
      exact fa_bound_good h
    · exact fa_bound_good hp
theorem fa_enc32 {d : FP.Core.Datum} (h : fa_fgood 24 104 d) : FP.Core.encode FP.Core.b32 d < 4294967296 ∧ FP.Core.encode FP.Core.b32 d % 2147483648 ≤ 2139095040 := by
  cases d with
  | nan => exact h.elim
  | inf s => cases s <;> decide
  | fin s c q =>
    obtain ⟨h1, h2⟩ := h
    have h1 : c < 16777216 := h1
    show (if c < 8388608 then (s.toNat * 256 + 0) * 8388608 + c else (s.toNat * 256 + ((q - (-149)).toNat + 1)) * 8388608 + (c - 8388608)) < 4294967296 ∧ (if c < 8388608 then (s.toNat * 256 + 0) * 8388608 + c else (s.toNat * 256 + ((q - (-149)).toNat + 1)) * 8388608 + (c - 8388608)) % 2147483648 ≤ 2139095040
    have hs : s.toNat ≤ 1 := by cases s <;> decide
    split <;> omega
theorem fa_enc64 {d : FP.Core.Datum} (h : fa_fgood 53 971 d) : FP.Core.encode FP.Core.b64 d < 18446744073709551616 ∧ FP.Core.encode FP.Core.b64 d % 9223372036854775808 ≤ 9218868437227405312 := by
  cases d with
  | nan => exact h.elim
  | inf s => cases s <;> decide
  | fin s c q =>
    obtain ⟨h1, h2⟩ := h
    have h1 : c < 9007199254740992 := h1
    show (if c < 4503599627370496 then (s.toNat * 2048 + 0) * 4503599627370496 + c else (s.toNat * 2048 + ((q - (-1074)).toNat + 1)) * 4503599627370496 + (c - 4503599627370496)) < 18446744073709551616 ∧ (if c < 4503599627370496 then (s.toNat * 2048 + 0) * 4503599627370496 + c else (s.toNat * 2048 + ((q - (-1074)).toNat + 1)) * 4503599627370496 + (c - 4503599627370496)) % 9223372036854775808 ≤ 9218868437227405312
    have hs : s.toNat ≤ 1 := by cases s <;> decide
    split <;> omega
theorem fa_dec32 {n : Nat} (h : n % 2147483648 ≤ 2139095040) : ¬ FP.Core.decode FP.Core.b32 n = .nan := by
  show ¬ (if n / 8388608 % 256 = 255 then (if n % 8388608 = 0 then FP.Core.Datum.inf (FP.Core.fieldS FP.Core.b32 n) else .nan) else if n / 8388608 % 256 = 0 then .fin (FP.Core.fieldS FP.Core.b32 n) (n % 8388608) (FP.Core.b32.qmin) else .fin (FP.Core.fieldS FP.Core.b32 n) (8388608 + n % 8388608) (FP.Core.b32.qmin + ((n / 8388608 % 256 : Nat) - 1))) = _
  split
  · split
    · intro z; cases z
    · omega
  · split <;> (intro z; cases z)
theorem fa_quot_good {x y : FP.Core.Datum} (hx : ¬ x = .nan) (hy : fa_pos y = true) : fa_fgood 24 104 (FP.Core.quotient FP.Core.b32 x y) := by
  cases y with
  | nan => cases hy
  | inf s => cases hy
  | fin t d r =>
    cases x with
    | nan => exact absurd rfl hx
    | inf s => exact True.intro
    | fin s c q =>
      have hd : ¬ d = 0 := fun z => by rw [z] at hy; cases hy
      show fa_fgood 24 104 (if d = 0 then _ else _)
      rw [if_neg hd]
      exact fa_ratio_good (f := FP.Core.b32) (by decide) (by decide) _ _ _ _
theorem fa_u32 {n : Nat} (h1 : n < 4294967296) (h2 : n % 2147483648 ≤ 2139095040) : vf_n32 (UInt32.ofNat n) ∧ (UInt32.ofNat n).toNat = n := by
  have e : (UInt32.ofNat n).toNat = n := by
    show n % 4294967296 = n
    omega
  refine ⟨?_, e⟩
  unfold vf_n32
  show ((UInt32.ofNat n) &&& 0x7fffffff).toNat ≤ _
  rw [UInt32.toNat_and, e]
  show n &&& 2 ^ 31 - 1 ≤ _
  rw [Nat.and_two_pow_sub_one_eq_mod]
  exact h2
theorem fa_u64 {n : Nat} (h1 : n < 18446744073709551616) (h2 : n % 9223372036854775808 ≤ 9218868437227405312) : vf_n64 (UInt64.ofNat n) := by
  have e : (UInt64.ofNat n).toNat = n := by
    show n % 18446744073709551616 = n
    omega
  unfold vf_n64
  show ((UInt64.ofNat n) &&& 0x7fffffffffffffff).toNat ≤ _
  rw [UInt64.toNat_and, e]
  show n &&& 2 ^ 63 - 1 ≤ _
  rw [Nat.and_two_pow_sub_one_eq_mod]
  exact h2
theorem fa_i2f_ok (x : Int32) : ¬ FP.Core.decode FP.Core.b32 (FP.i2f x).toNat = .nan := by
  have h := fa_enc32 (fa_ratio_good (f := FP.Core.b32) (by decide) (by decide) (decide (x.toInt < 0)) x.toInt.natAbs 1 0)
  have h2 := fa_u32 h.1 h.2
  show ¬ FP.Core.decode FP.Core.b32 (UInt32.ofNat (FP.Core.encode FP.Core.b32 (FP.Core.roundRatio FP.Core.b32 (decide (x.toInt < 0)) x.toInt.natAbs 1 0))).toNat = .nan
  rw [h2.2]
  exact fa_dec32 h.2
theorem fa_cnt_pos : ∀ k, k < 24 → fa_pos (FP.Core.decode FP.Core.b32 (FP.i2f (nI (k + 1))).toNat) = true := by decide +kernel
theorem fa_fdiv_ok {x : Int32} {n : Nat} (h1 : 1 ≤ n) (h2 : n ≤ 24) : vf_n32 (FP.fdiv (FP.i2f x) (FP.i2f (nI n))) ∧ vf_n64 (FP.f2d (FP.fdiv (FP.i2f x) (FP.i2f (nI n)))) := by
  obtain ⟨k, rfl⟩ : ∃ k, n = k + 1 := ⟨n - 1, by omega⟩
  have h := fa_enc32 (fa_quot_good (fa_i2f_ok x) (fa_cnt_pos k (by omega)))
  have h3 := fa_u32 h.1 h.2
  refine ⟨h3.1, ?_⟩
  have hd : ¬ FP.Core.decode FP.Core.b32 (FP.fdiv (FP.i2f x) (FP.i2f (nI (k + 1)))).toNat = .nan := by
    show ¬ FP.Core.decode FP.Core.b32 (UInt32.ofNat (FP.Core.encode FP.Core.b32 (FP.Core.quotient FP.Core.b32 _ _))).toNat = .nan
    rw [h3.2]
    exact fa_dec32 h.2
  generalize FP.fdiv (FP.i2f x) (FP.i2f (nI (k + 1))) = y at hd
  unfold FP.f2d
  have hn : FP.Core.fIsNaN y = false := decide_eq_false hd
  rw [hn]
  show vf_n64 (UInt64.ofNat (FP.Core.encode FP.Core.b64 (FP.Core.round FP.Core.b64 (FP.Core.decode FP.Core.b32 y.toNat))))
  have hg : fa_fgood 53 971 (FP.Core.round FP.Core.b64 (FP.Core.decode FP.Core.b32 y.toNat)) := by
    cases e : FP.Core.decode FP.Core.b32 y.toNat with
    | nan => exact absurd e hd
    | inf s => exact True.intro
    | fin s c q => exact fa_ratio_good (f := FP.Core.b64) (by decide) (by decide) _ _ _ _
  have h5 := fa_enc64 hg
  exact fa_u64 h5.1 h5.2
theorem fa_f0_ok : vf_n64 (FP.f2d FP.fconst0) := by
  unfold vf_n64
  decide +kernel
