/-- nothing stands at n and behind it -/
def fa_Z0 (n : Nat) (v : fa_V) (r : fa_R) : Prop := ∀ q, n ≤ q → (∀ i, v q i = 0) ∧ ∀ i, r q i = none
theorem own_0 : ∀ (C : String) (T : u_T) (N : Nat), vwCl[0]? = some (C, T, N) → C = RX0 := fun C T N h => by cases h; rfl
theorem own_1 : ∀ (C : String) (T : u_T) (N : Nat), vwCl[1]? = some (C, T, N) → C = RX1 := fun C T N h => by cases h; rfl
theorem own_2 : ∀ (C : String) (T : u_T) (N : Nat), vwCl[2]? = some (C, T, N) → C = RX2 := fun C T N h => by cases h; rfl
theorem own_3 : ∀ (C : String) (T : u_T) (N : Nat), vwCl[3]? = some (C, T, N) → C = RX3 := fun C T N h => by cases h; rfl
theorem own_4 : ∀ (C : String) (T : u_T) (N : Nat), vwCl[4]? = some (C, T, N) → C = RX4 := fun C T N h => by cases h; rfl
theorem own_5 : ∀ (C : String) (T : u_T) (N : Nat), vwCl[5]? = some (C, T, N) → C = RX5 := fun C T N h => by cases h; rfl
theorem own_6 : ∀ (C : String) (T : u_T) (N : Nat), vwCl[6]? = some (C, T, N) → C = RX6 := fun C T N h => by cases h; rfl
theorem cl_L_10 : Cond.classLink RL 10 RX6 ∈ fa_tbl := fa_in 11 (by decide +kernel) (by decide +kernel)
theorem mk_L_10 : fa_mk RL 10 6 7 := ⟨RX6, TX6, tyX6, rfl, fa_ly_X6, tyX6_ok, rfl, cl_L_10, fa_in 12 (by decide +kernel) (by decide +kernel), fa_in 1 (by decide +kernel) (by decide +kernel), by decide +kernel⟩
theorem oi_X6_1 : Cond.methodLink RX6 1 Lib.objectInit ∈ fa_tbl ∧ Cond.instanceMethod Lib.objectInit ∈ fa_tbl ∧ Cond.code Lib.objectInit ⟨#[0xb1]⟩ 1 none ∈ fa_tbl := ⟨fa_in 16 (by decide +kernel) (by decide +kernel), fa_in 17 (by decide +kernel) (by decide +kernel), fa_in 18 (by decide +kernel) (by decide +kernel)⟩
theorem cl_X6_7 : Cond.classLink RX6 7 RX3 ∈ fa_tbl := fa_in 19 (by decide +kernel) (by decide +kernel)
theorem mk_X6_7 : fa_mk RX6 7 3 12 := ⟨RX3, TX3, tyX3, rfl, fa_ly_X3, tyX3_ok, rfl, cl_X6_7, fa_in 20 (by decide +kernel) (by decide +kernel), fa_in 2 (by decide +kernel) (by decide +kernel), by decide +kernel⟩
theorem oi_X3_3 : Cond.methodLink RX3 3 Lib.objectInit ∈ fa_tbl ∧ Cond.instanceMethod Lib.objectInit ∈ fa_tbl ∧ Cond.code Lib.objectInit ⟨#[0xb1]⟩ 1 none ∈ fa_tbl := ⟨fa_in 24 (by decide +kernel) (by decide +kernel), fa_in 17 (by decide +kernel) (by decide +kernel), fa_in 18 (by decide +kernel) (by decide +kernel)⟩
theorem cl_X3_9 : Cond.classLink RX3 9 RX4 ∈ fa_tbl := fa_in 25 (by decide +kernel) (by decide +kernel)
theorem mk_X3_9 : fa_mk RX3 9 4 9 := ⟨RX4, TX4, tyX4, rfl, fa_ly_X4, tyX4_ok, rfl, cl_X3_9, fa_in 64 (by decide +kernel) (by decide +kernel), fa_in 5 (by decide +kernel) (by decide +kernel), by decide +kernel⟩
theorem cl_X3_17 : Cond.classLink RX3 17 RX2 ∈ fa_tbl := fa_in 27 (by decide +kernel) (by decide +kernel)
theorem mk_X3_17 : fa_mk RX3 17 2 3 := ⟨RX2, TX2, tyX2, rfl, fa_ly_X2, tyX2_ok, rfl, cl_X3_17, fa_in 28 (by decide +kernel) (by decide +kernel), fa_in 3 (by decide +kernel) (by decide +kernel), by decide +kernel⟩
theorem oi_X2_3 : Cond.methodLink RX2 3 Lib.objectInit ∈ fa_tbl ∧ Cond.instanceMethod Lib.objectInit ∈ fa_tbl ∧ Cond.code Lib.objectInit ⟨#[0xb1]⟩ 1 none ∈ fa_tbl := ⟨fa_in 32 (by decide +kernel) (by decide +kernel), fa_in 17 (by decide +kernel) (by decide +kernel), fa_in 18 (by decide +kernel) (by decide +kernel)⟩
theorem cl_X3_24 : Cond.classLink RX3 24 RX5 ∈ fa_tbl := fa_in 50 (by decide +kernel) (by decide +kernel)
theorem mk_X3_24 : fa_mk RX3 24 5 2 := ⟨RX5, TX5, tyX5, rfl, fa_ly_X5, tyX5_ok, rfl, cl_X3_24, fa_in 51 (by decide +kernel) (by decide +kernel), fa_in 4 (by decide +kernel) (by decide +kernel), by decide +kernel⟩
theorem oi_X5_3 : Cond.methodLink RX5 3 Lib.objectInit ∈ fa_tbl ∧ Cond.instanceMethod Lib.objectInit ∈ fa_tbl ∧ Cond.code Lib.objectInit ⟨#[0xb1]⟩ 1 none ∈ fa_tbl := ⟨fa_in 55 (by decide +kernel) (by decide +kernel), fa_in 17 (by decide +kernel) (by decide +kernel), fa_in 18 (by decide +kernel) (by decide +kernel)⟩
theorem oi_X4_3 : Cond.methodLink RX4 3 Lib.objectInit ∈ fa_tbl ∧ Cond.instanceMethod Lib.objectInit ∈ fa_tbl ∧ Cond.code Lib.objectInit ⟨#[0xb1]⟩ 1 none ∈ fa_tbl := ⟨fa_in 68 (by decide +kernel) (by decide +kernel), fa_in 17 (by decide +kernel) (by decide +kernel), fa_in 18 (by decide +kernel) (by decide +kernel)⟩
theorem cl_X6_19 : Cond.classLink RX6 19 RX0 ∈ fa_tbl := fa_in 172 (by decide +kernel) (by decide +kernel)
theorem mk_X6_19 : fa_mk RX6 19 0 2 := ⟨RX0, TX0, tyX0, rfl, fa_ly_X0, tyX0_ok, rfl, cl_X6_19, fa_in 173 (by decide +kernel) (by decide +kernel), fa_in 7 (by decide +kernel) (by decide +kernel), by decide +kernel⟩
theorem oi_X0_3 : Cond.methodLink RX0 3 Lib.objectInit ∈ fa_tbl ∧ Cond.instanceMethod Lib.objectInit ∈ fa_tbl ∧ Cond.code Lib.objectInit ⟨#[0xb1]⟩ 1 none ∈ fa_tbl := ⟨fa_in 177 (by decide +kernel) (by decide +kernel), fa_in 17 (by decide +kernel) (by decide +kernel), fa_in 18 (by decide +kernel) (by decide +kernel)⟩
theorem cl_X0_9 : Cond.classLink RX0 9 RX3 ∈ fa_tbl := fa_in 178 (by decide +kernel) (by decide +kernel)
theorem mk_X0_9 : fa_mk RX0 9 3 12 := ⟨RX3, TX3, tyX3, rfl, fa_ly_X3, tyX3_ok, rfl, cl_X0_9, fa_in 20 (by decide +kernel) (by decide +kernel), fa_in 2 (by decide +kernel) (by decide +kernel), by decide +kernel⟩
theorem cl_X6_26 : Cond.classLink RX6 26 RX1 ∈ fa_tbl := fa_in 189 (by decide +kernel) (by decide +kernel)
theorem mk_X6_26 : fa_mk RX6 26 1 6 := ⟨RX1, TX1, tyX1, rfl, fa_ly_X1, tyX1_ok, rfl, cl_X6_26, fa_in 190 (by decide +kernel) (by decide +kernel), fa_in 8 (by decide +kernel) (by decide +kernel), by decide +kernel⟩
theorem oi_X1_3 : Cond.methodLink RX1 3 Lib.objectInit ∈ fa_tbl ∧ Cond.instanceMethod Lib.objectInit ∈ fa_tbl ∧ Cond.code Lib.objectInit ⟨#[0xb1]⟩ 1 none ∈ fa_tbl := ⟨fa_in 194 (by decide +kernel) (by decide +kernel), fa_in 17 (by decide +kernel) (by decide +kernel), fa_in 18 (by decide +kernel) (by decide +kernel)⟩
theorem aw_int : Cond.arrayClass (newarray.typeOf .int) ∈ fa_tbl := fa_in 49 (by decide +kernel) (by decide +kernel)
theorem aw_char : Cond.arrayClass (newarray.typeOf .char) ∈ fa_tbl := fa_in 218 (by decide +kernel) (by decide +kernel)
