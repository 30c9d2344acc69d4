-- ===== PART A: goes FIRST, ahead of the names: the tables' words, and 'selects' of the private methods out of them =====
/-- a private method of a class that the tables say can be made, by its rows of tables_1 -/
def lw_okq (q : MethodName × Nat) : Prop := (q.1.cls ≠ "java/lang/invoke/MethodHandle" ∧ q.1.cls ≠ "java/lang/invoke/VarHandle") ∧ Cond.instantiable q.1.cls q.2 ∈ tables_1 ∧ Cond.privateMethod q.1 ∈ tables_1 ∧ Cond.instanceMethod q.1 ∈ tables_1
theorem lw_p0 : lw_okq (⟨"ForgettingArchive", "recorded", "(I)I"⟩, 7) := ⟨⟨by decide +kernel, by decide +kernel⟩, List.mem_of_getElem? (i := 12) (by decide +kernel), List.mem_of_getElem? (i := 325) (by decide +kernel), List.mem_of_getElem? (i := 326) (by decide +kernel)⟩
theorem lw_p1 : lw_okq (⟨"ForgettingArchive", "obey", "()I"⟩, 7) := ⟨⟨by decide +kernel, by decide +kernel⟩, List.mem_of_getElem? (i := 12) (by decide +kernel), List.mem_of_getElem? (i := 373) (by decide +kernel), List.mem_of_getElem? (i := 374) (by decide +kernel)⟩
theorem lw_p2 : lw_okq (⟨"ForgettingArchive", "report", "(III)V"⟩, 7) := ⟨⟨by decide +kernel, by decide +kernel⟩, List.mem_of_getElem? (i := 12) (by decide +kernel), List.mem_of_getElem? (i := 421) (by decide +kernel), List.mem_of_getElem? (i := 422) (by decide +kernel)⟩
def lw_privs_1 : List (MethodName × Nat) := [(⟨"ForgettingArchive", "recorded", "(I)I"⟩, 7), (⟨"ForgettingArchive", "obey", "()I"⟩, 7), (⟨"ForgettingArchive", "report", "(III)V"⟩, 7)]
theorem lw_r1 : ∀ q ∈ lw_privs_1, lw_okq q := List.forall_mem_cons.mpr ⟨lw_p0, List.forall_mem_cons.mpr ⟨lw_p1, List.forall_mem_cons.mpr ⟨lw_p2, fun _ h => absurd h List.not_mem_nil⟩⟩⟩
def lw_privs : List (MethodName × Nat) := lw_privs_1
def lw_tbl : List Cond := k2_sels lw_privs ++ tables_1
theorem lw_privs_ok : ∀ q ∈ lw_privs, lw_okq q := lw_r1
/-- the streams that the claim lets the run draw from -/
abbrev lw_cs : List Choice := [Jvm.Choice.named "NaN.bits"]
theorem lw_bits : nanBits ∈ lw_cs := by first | decide | exact List.mem_cons_self | simp [lw_cs, nanBits]
-- ===== end of PART A; then your names; then what follows =====
def RX0 : String := "ForgettingArchive$History"
def TX0 : u_T := fun k => match k with
  | 0 => ("ForgettingArchive$History", "size", "I", false)
  | _ => ("ForgettingArchive$History", "states", "[LForgettingArchive$State;", true)
def tyX0 : Nat → FieldType := fun k => match k with
  | 0 => .int
  | _ => .array (.object "ForgettingArchive$State")
theorem nmX0 : ∀ a, a < 2 → ∀ b, b < 2 → a ≠ b → (TX0 a).2.1 ≠ (TX0 b).2.1 := by decide +kernel
theorem tyX0_ok : ∀ k, k < 2 → parseFieldDescriptor (TX0 k).2.2.1 = some (tyX0 k) := by decide +kernel
abbrev cX0_init : ByteArray := prog_2_method_1_code
def yX0_init : MethodName := ⟨RX0, "<init>", "()V"⟩
abbrev cX0_draft : ByteArray := prog_2_method_2_code
def yX0_draft : MethodName := ⟨RX0, "draft", "(LForgettingArchive$State;)V"⟩
abbrev cX0_keepDraft : ByteArray := prog_2_method_3_code
def yX0_keepDraft : MethodName := ⟨RX0, "keepDraft", "()V"⟩
abbrev cX0_takeLatest : ByteArray := prog_2_method_4_code
def yX0_takeLatest : MethodName := ⟨RX0, "takeLatest", "()LForgettingArchive$State;"⟩
def RX1 : String := "ForgettingArchive$OrderText"
def TX1 : u_T := fun k => match k with
  | 0 => ("ForgettingArchive$OrderText", "signs", "[C", true)
  | 1 => ("ForgettingArchive$OrderText", "length", "I", false)
  | 2 => ("ForgettingArchive$OrderText", "at", "I", false)
  | 3 => ("ForgettingArchive$OrderText", "letter", "C", false)
  | 4 => ("ForgettingArchive$OrderText", "first", "I", false)
  | _ => ("ForgettingArchive$OrderText", "second", "I", false)
def tyX1 : Nat → FieldType := fun k => match k with
  | 0 => .array .char
  | 1 => .int
  | 2 => .int
  | 3 => .char
  | 4 => .int
  | _ => .int
theorem nmX1 : ∀ a, a < 6 → ∀ b, b < 6 → a ≠ b → (TX1 a).2.1 ≠ (TX1 b).2.1 := by decide +kernel
theorem tyX1_ok : ∀ k, k < 6 → parseFieldDescriptor (TX1 k).2.2.1 = some (tyX1 k) := by decide +kernel
abbrev cX1_init : ByteArray := prog_3_method_1_code
def yX1_init : MethodName := ⟨RX1, "<init>", "()V"⟩
abbrev cX1_findFault : ByteArray := prog_3_method_3_code
def yX1_findFault : MethodName := ⟨RX1, "findFault", "()I"⟩
abbrev cX1_readOrder : ByteArray := prog_3_method_4_code
def yX1_readOrder : MethodName := ⟨RX1, "readOrder", "()Z"⟩
abbrev cX1_readFirst : ByteArray := prog_3_method_5_code
def yX1_readFirst : MethodName := ⟨RX1, "readFirst", "(II)Z"⟩
abbrev cX1_readSecond : ByteArray := prog_3_method_6_code
def yX1_readSecond : MethodName := ⟨RX1, "readSecond", "(II)Z"⟩
abbrev cX1_readSign : ByteArray := prog_3_method_7_code
def yX1_readSign : MethodName := ⟨RX1, "readSign", "(C)Z"⟩
abbrev cX1_readNumber : ByteArray := prog_3_method_8_code
def yX1_readNumber : MethodName := ⟨RX1, "readNumber", "(II)I"⟩
abbrev cX1_digitHere : ByteArray := prog_3_method_9_code
def yX1_digitHere : MethodName := ⟨RX1, "digitHere", "()I"⟩
abbrev cX1_signHere : ByteArray := prog_3_method_10_code
def yX1_signHere : MethodName := ⟨RX1, "signHere", "()C"⟩
def RX2 : String := "ForgettingArchive$Reservations"
def TX2 : u_T := fun k => match k with
  | 0 => ("ForgettingArchive$Reservations", "size", "I", false)
  | 1 => ("ForgettingArchive$Reservations", "files", "[I", true)
  | _ => ("ForgettingArchive$Reservations", "days", "[I", true)
def tyX2 : Nat → FieldType := fun k => match k with
  | 0 => .int
  | 1 => .array .int
  | _ => .array .int
theorem nmX2 : ∀ a, a < 3 → ∀ b, b < 3 → a ≠ b → (TX2 a).2.1 ≠ (TX2 b).2.1 := by decide +kernel
theorem tyX2_ok : ∀ k, k < 3 → parseFieldDescriptor (TX2 k).2.2.1 = some (tyX2 k) := by decide +kernel
abbrev cX2_init : ByteArray := prog_4_method_1_code
def yX2_init : MethodName := ⟨RX2, "<init>", "()V"⟩
abbrev cX2_copyFrom : ByteArray := prog_4_method_2_code
def yX2_copyFrom : MethodName := ⟨RX2, "copyFrom", "(LForgettingArchive$Reservations;)V"⟩
abbrev cX2_placeOf : ByteArray := prog_4_method_3_code
def yX2_placeOf : MethodName := ⟨RX2, "placeOf", "(II)I"⟩
abbrev cX2_numberFor : ByteArray := prog_4_method_4_code
def yX2_numberFor : MethodName := ⟨RX2, "numberFor", "(I)I"⟩
abbrev cX2_insert : ByteArray := prog_4_method_5_code
def yX2_insert : MethodName := ⟨RX2, "insert", "(II)V"⟩
abbrev cX2_comesBefore : ByteArray := prog_4_method_6_code
def yX2_comesBefore : MethodName := ⟨RX2, "comesBefore", "(III)Z"⟩
abbrev cX2_removeAt : ByteArray := prog_4_method_7_code
def yX2_removeAt : MethodName := ⟨RX2, "removeAt", "(I)V"⟩
def RX3 : String := "ForgettingArchive$State"
def TX3 : u_T := fun k => match k with
  | 0 => ("ForgettingArchive$State", "now", "I", false)
  | 1 => ("ForgettingArchive$State", "stored", "I", false)
  | 2 => ("ForgettingArchive$State", "came", "I", false)
  | 3 => ("ForgettingArchive$State", "burntFiles", "I", false)
  | 4 => ("ForgettingArchive$State", "burntPages", "I", false)
  | 5 => ("ForgettingArchive$State", "askings", "I", false)
  | 6 => ("ForgettingArchive$State", "regrets", "I", false)
  | 7 => ("ForgettingArchive$State", "burnings", "I", false)
  | 8 => ("ForgettingArchive$State", "files", "[LForgettingArchive$StoredFile;", true)
  | 9 => ("ForgettingArchive$State", "reservations", "LForgettingArchive$Reservations;", true)
  | 10 => ("ForgettingArchive$State", "traces", "LForgettingArchive$Traces;", true)
  | _ => ("ForgettingArchive$State", "settings", "[I", true)
def tyX3 : Nat → FieldType := fun k => match k with
  | 0 => .int
  | 1 => .int
  | 2 => .int
  | 3 => .int
  | 4 => .int
  | 5 => .int
  | 6 => .int
  | 7 => .int
  | 8 => .array (.object "ForgettingArchive$StoredFile")
  | 9 => .object "ForgettingArchive$Reservations"
  | 10 => .object "ForgettingArchive$Traces"
  | _ => .array .int
theorem nmX3 : ∀ a, a < 12 → ∀ b, b < 12 → a ≠ b → (TX3 a).2.1 ≠ (TX3 b).2.1 := by decide +kernel
theorem tyX3_ok : ∀ k, k < 12 → parseFieldDescriptor (TX3 k).2.2.1 = some (tyX3 k) := by decide +kernel
abbrev cX3_init : ByteArray := prog_5_method_1_code
def yX3_init : MethodName := ⟨RX3, "<init>", "()V"⟩
abbrev cX3_copyFrom : ByteArray := prog_5_method_2_code
def yX3_copyFrom : MethodName := ⟨RX3, "copyFrom", "(LForgettingArchive$State;)V"⟩
abbrev cX3_addFile : ByteArray := prog_5_method_3_code
def yX3_addFile : MethodName := ⟨RX3, "addFile", "(II)I"⟩
abbrev cX3_askFor : ByteArray := prog_5_method_4_code
def yX3_askFor : MethodName := ⟨RX3, "askFor", "(I)I"⟩
abbrev cX3_putSeal : ByteArray := prog_5_method_5_code
def yX3_putSeal : MethodName := ⟨RX3, "putSeal", "(III)I"⟩
abbrev cX3_takeSeal : ByteArray := prog_5_method_6_code
def yX3_takeSeal : MethodName := ⟨RX3, "takeSeal", "(II)I"⟩
abbrev cX3_putReference : ByteArray := prog_5_method_7_code
def yX3_putReference : MethodName := ⟨RX3, "putReference", "(II)I"⟩
abbrev cX3_putReservation : ByteArray := prog_5_method_8_code
def yX3_putReservation : MethodName := ⟨RX3, "putReservation", "(II)I"⟩
abbrev cX3_takeReservation : ByteArray := prog_5_method_9_code
def yX3_takeReservation : MethodName := ⟨RX3, "takeReservation", "(II)I"⟩
abbrev cX3_passDays : ByteArray := prog_5_method_10_code
def yX3_passDays : MethodName := ⟨RX3, "passDays", "(I)I"⟩
abbrev cX3_changeSetting : ByteArray := prog_5_method_11_code
def yX3_changeSetting : MethodName := ⟨RX3, "changeSetting", "(II)I"⟩
abbrev cX3_passDay : ByteArray := prog_5_method_12_code
def yX3_passDay : MethodName := ⟨RX3, "passDay", "()I"⟩
abbrev cX3_askReserved : ByteArray := prog_5_method_13_code
def yX3_askReserved : MethodName := ⟨RX3, "askReserved", "()V"⟩
abbrev cX3_askStored : ByteArray := prog_5_method_14_code
def yX3_askStored : MethodName := ⟨RX3, "askStored", "(LForgettingArchive$StoredFile;)V"⟩
abbrev cX3_markReasons : ByteArray := prog_5_method_15_code
def yX3_markReasons : MethodName := ⟨RX3, "markReasons", "()V"⟩
abbrev cX3_ownReason : ByteArray := prog_5_method_16_code
def yX3_ownReason : MethodName := ⟨RX3, "ownReason", "(LForgettingArchive$StoredFile;)I"⟩
abbrev cX3_markReferredFrom : ByteArray := prog_5_method_17_code
def yX3_markReferredFrom : MethodName := ⟨RX3, "markReferredFrom", "(LForgettingArchive$StoredFile;)V"⟩
abbrev cX3_burnUnmarked : ByteArray := prog_5_method_18_code
def yX3_burnUnmarked : MethodName := ⟨RX3, "burnUnmarked", "()I"⟩
abbrev cX3_find : ByteArray := prog_5_method_19_code
def yX3_find : MethodName := ⟨RX3, "find", "(I)LForgettingArchive$StoredFile;"⟩
abbrev cX3_storedPages : ByteArray := prog_5_method_20_code
def yX3_storedPages : MethodName := ⟨RX3, "storedPages", "()I"⟩
abbrev cX3_sumOfAges : ByteArray := prog_5_method_21_code
def yX3_sumOfAges : MethodName := ⟨RX3, "sumOfAges", "()I"⟩
abbrev cX3_dueDay : ByteArray := prog_5_method_22_code
def yX3_dueDay : MethodName := ⟨RX3, "dueDay", "(LForgettingArchive$StoredFile;)I"⟩
abbrev cX3_referrersOf : ByteArray := prog_5_method_23_code
def yX3_referrersOf : MethodName := ⟨RX3, "referrersOf", "(I)I"⟩
abbrev cX3_lowestKeeperOf : ByteArray := prog_5_method_24_code
def yX3_lowestKeeperOf : MethodName := ⟨RX3, "lowestKeeperOf", "(I)I"⟩
def RX4 : String := "ForgettingArchive$StoredFile"
def TX4 : u_T := fun k => match k with
  | 0 => ("ForgettingArchive$StoredFile", "number", "I", false)
  | 1 => ("ForgettingArchive$StoredFile", "kind", "I", false)
  | 2 => ("ForgettingArchive$StoredFile", "pages", "I", false)
  | 3 => ("ForgettingArchive$StoredFile", "cameOn", "I", false)
  | 4 => ("ForgettingArchive$StoredFile", "askedOn", "I", false)
  | 5 => ("ForgettingArchive$StoredFile", "timesAsked", "I", false)
  | 6 => ("ForgettingArchive$StoredFile", "target", "I", false)
  | 7 => ("ForgettingArchive$StoredFile", "sealEnds", "[I", true)
  | _ => ("ForgettingArchive$StoredFile", "reason", "I", false)
def tyX4 : Nat → FieldType := fun k => match k with
  | 0 => .int
  | 1 => .int
  | 2 => .int
  | 3 => .int
  | 4 => .int
  | 5 => .int
  | 6 => .int
  | 7 => .array .int
  | _ => .int
theorem nmX4 : ∀ a, a < 9 → ∀ b, b < 9 → a ≠ b → (TX4 a).2.1 ≠ (TX4 b).2.1 := by decide +kernel
theorem tyX4_ok : ∀ k, k < 9 → parseFieldDescriptor (TX4 k).2.2.1 = some (tyX4 k) := by decide +kernel
abbrev cX4_init : ByteArray := prog_6_method_1_code
def yX4_init : MethodName := ⟨RX4, "<init>", "()V"⟩
abbrev cX4_comeAs : ByteArray := prog_6_method_2_code
def yX4_comeAs : MethodName := ⟨RX4, "comeAs", "(IIII)V"⟩
abbrev cX4_copyFrom : ByteArray := prog_6_method_3_code
def yX4_copyFrom : MethodName := ⟨RX4, "copyFrom", "(LForgettingArchive$StoredFile;)V"⟩
abbrev cX4_holdersOn : ByteArray := prog_6_method_4_code
def yX4_holdersOn : MethodName := ⟨RX4, "holdersOn", "(I)I"⟩
def RX5 : String := "ForgettingArchive$Traces"
def TX5 : u_T := fun k => match k with
  | 0 => ("ForgettingArchive$Traces", "size", "I", false)
  | _ => ("ForgettingArchive$Traces", "cells", "[I", true)
def tyX5 : Nat → FieldType := fun k => match k with
  | 0 => .int
  | _ => .array .int
theorem nmX5 : ∀ a, a < 2 → ∀ b, b < 2 → a ≠ b → (TX5 a).2.1 ≠ (TX5 b).2.1 := by decide +kernel
theorem tyX5_ok : ∀ k, k < 2 → parseFieldDescriptor (TX5 k).2.2.1 = some (tyX5 k) := by decide +kernel
abbrev cX5_init : ByteArray := prog_7_method_1_code
def yX5_init : MethodName := ⟨RX5, "<init>", "()V"⟩
abbrev cX5_copyFrom : ByteArray := prog_7_method_2_code
def yX5_copyFrom : MethodName := ⟨RX5, "copyFrom", "(LForgettingArchive$Traces;)V"⟩
abbrev cX5_leave : ByteArray := prog_7_method_3_code
def yX5_leave : MethodName := ⟨RX5, "leave", "(LForgettingArchive$StoredFile;I)V"⟩
abbrev cX5_cellOf : ByteArray := prog_7_method_4_code
def yX5_cellOf : MethodName := ⟨RX5, "cellOf", "(II)I"⟩
def RX6 : String := "ForgettingArchive"
def TX6 : u_T := fun k => match k with
  | 0 => ("ForgettingArchive", "state", "LForgettingArchive$State;", true)
  | 1 => ("ForgettingArchive", "future", "LForgettingArchive$State;", true)
  | 2 => ("ForgettingArchive", "history", "LForgettingArchive$History;", true)
  | 3 => ("ForgettingArchive", "text", "LForgettingArchive$OrderText;", true)
  | 4 => ("ForgettingArchive", "stoppedOrder", "I", false)
  | 5 => ("ForgettingArchive", "stoppedStart", "I", false)
  | _ => ("ForgettingArchive", "stoppedBy", "I", false)
def tyX6 : Nat → FieldType := fun k => match k with
  | 0 => .object "ForgettingArchive$State"
  | 1 => .object "ForgettingArchive$State"
  | 2 => .object "ForgettingArchive$History"
  | 3 => .object "ForgettingArchive$OrderText"
  | 4 => .int
  | 5 => .int
  | _ => .int
theorem nmX6 : ∀ a, a < 7 → ∀ b, b < 7 → a ≠ b → (TX6 a).2.1 ≠ (TX6 b).2.1 := by decide +kernel
theorem tyX6_ok : ∀ k, k < 7 → parseFieldDescriptor (TX6 k).2.2.1 = some (tyX6 k) := by decide +kernel
abbrev cX6_init : ByteArray := prog_1_method_1_code
def yX6_init : MethodName := ⟨RX6, "<init>", "()V"⟩
abbrev cX6_add : ByteArray := prog_1_method_2_code
def yX6_add : MethodName := ⟨RX6, "add", "(II)I"⟩
abbrev cX6_ask : ByteArray := prog_1_method_3_code
def yX6_ask : MethodName := ⟨RX6, "ask", "(I)I"⟩
abbrev cX6_seal : ByteArray := prog_1_method_4_code
def yX6_seal : MethodName := ⟨RX6, "seal", "(III)I"⟩
abbrev cX6_lift : ByteArray := prog_1_method_5_code
def yX6_lift : MethodName := ⟨RX6, "lift", "(II)I"⟩
abbrev cX6_refer : ByteArray := prog_1_method_6_code
def yX6_refer : MethodName := ⟨RX6, "refer", "(II)I"⟩
abbrev cX6_reserve : ByteArray := prog_1_method_7_code
def yX6_reserve : MethodName := ⟨RX6, "reserve", "(II)I"⟩
abbrev cX6_cancel : ByteArray := prog_1_method_8_code
def yX6_cancel : MethodName := ⟨RX6, "cancel", "(II)I"⟩
abbrev cX6_pass : ByteArray := prog_1_method_9_code
def yX6_pass : MethodName := ⟨RX6, "pass", "(I)I"⟩
abbrev cX6_set : ByteArray := prog_1_method_10_code
def yX6_set : MethodName := ⟨RX6, "set", "(II)I"⟩
abbrev cX6_run : ByteArray := prog_1_method_14_code
def yX6_run : MethodName := ⟨RX6, "run", "()I"⟩
abbrev cX6_why : ByteArray := prog_1_method_15_code
def yX6_why : MethodName := ⟨RX6, "why", "(I)I"⟩
abbrev cX6_undo : ByteArray := prog_1_method_16_code
def yX6_undo : MethodName := ⟨RX6, "undo", "()I"⟩
abbrev cX6_now : ByteArray := prog_1_method_17_code
def yX6_now : MethodName := ⟨RX6, "now", "()I"⟩
abbrev cX6_count : ByteArray := prog_1_method_18_code
def yX6_count : MethodName := ⟨RX6, "count", "(I)I"⟩
abbrev cX6_fileAt : ByteArray := prog_1_method_19_code
def yX6_fileAt : MethodName := ⟨RX6, "fileAt", "(I)I"⟩
abbrev cX6_file : ByteArray := prog_1_method_20_code
def yX6_file : MethodName := ⟨RX6, "file", "(II)I"⟩
abbrev cX6_sealOf : ByteArray := prog_1_method_21_code
def yX6_sealOf : MethodName := ⟨RX6, "sealOf", "(II)I"⟩
abbrev cX6_trace : ByteArray := prog_1_method_22_code
def yX6_trace : MethodName := ⟨RX6, "trace", "(II)I"⟩
abbrev cX6_reservation : ByteArray := prog_1_method_23_code
def yX6_reservation : MethodName := ⟨RX6, "reservation", "(II)I"⟩
abbrev cX6_setting : ByteArray := prog_1_method_24_code
def yX6_setting : MethodName := ⟨RX6, "setting", "(I)I"⟩
abbrev cX6_meanAge : ByteArray := prog_1_method_25_code
def yX6_meanAge : MethodName := ⟨RX6, "meanAge", "()F"⟩
abbrev cX6_stays : ByteArray := prog_1_method_26_code
def yX6_stays : MethodName := ⟨RX6, "stays", "(I)I"⟩
abbrev cX6_keeper : ByteArray := prog_1_method_27_code
def yX6_keeper : MethodName := ⟨RX6, "keeper", "(I)I"⟩
abbrev cX6_burntIn : ByteArray := prog_1_method_28_code
def yX6_burntIn : MethodName := ⟨RX6, "burntIn", "(I)I"⟩
abbrev cX6_ifPassed : ByteArray := prog_1_method_29_code
def yX6_ifPassed : MethodName := ⟨RX6, "ifPassed", "(II)I"⟩
abbrev cX6_isError : ByteArray := prog_1_method_30_code
def yX6_isError : MethodName := ⟨RX6, "isError", "(I)Z"⟩
abbrev cX6_isNoHolder : ByteArray := prog_1_method_31_code
def yX6_isNoHolder : MethodName := ⟨RX6, "isNoHolder", "(I)Z"⟩
abbrev cX6_isNoSetting : ByteArray := prog_1_method_32_code
def yX6_isNoSetting : MethodName := ⟨RX6, "isNoSetting", "(I)Z"⟩
abbrev cX6_recorded : ByteArray := prog_1_method_33_code
def yX6_recorded : MethodName := ⟨RX6, "recorded", "(I)I"⟩
abbrev cX6_report : ByteArray := prog_1_method_34_code
def yX6_report : MethodName := ⟨RX6, "report", "(III)V"⟩
abbrev cX6_obey : ByteArray := prog_1_method_35_code
def yX6_obey : MethodName := ⟨RX6, "obey", "()I"⟩
def RX7 : String := "ForgettingArchiveModel"
def TX7 : u_T := fun k => match k with
  | _ => ("", "", "", false)
def tyX7 : Nat → FieldType := fun k => match k with
  | _ => .int
theorem nmX7 : ∀ a, a < 0 → ∀ b, b < 0 → a ≠ b → (TX7 a).2.1 ≠ (TX7 b).2.1 := by decide +kernel
theorem tyX7_ok : ∀ k, k < 0 → parseFieldDescriptor (TX7 k).2.2.1 = some (tyX7 k) := by decide +kernel
def RJ6 : String := "java/lang/Integer"
def TJ6 : u_T := fun k => match k with
  | _ => ("", "", "", false)
def tyJ6 : Nat → FieldType := fun k => match k with
  | _ => .int
theorem nmJ6 : ∀ a, a < 0 → ∀ b, b < 0 → a ≠ b → (TJ6 a).2.1 ≠ (TJ6 b).2.1 := by decide +kernel
theorem tyJ6_ok : ∀ k, k < 0 → parseFieldDescriptor (TJ6 k).2.2.1 = some (tyJ6 k) := by decide +kernel
abbrev cJ6_bitCount_0f7a4 : ByteArray := prog_10_method_49_code
def yJ6_bitCount_0f7a4 : MethodName := ⟨RJ6, "bitCount", "(I)I"⟩
def RJ10 : String := "java/lang/System"
def TJ10 : u_T := fun k => match k with
  | _ => ("", "", "", false)
def tyJ10 : Nat → FieldType := fun k => match k with
  | _ => .int
theorem nmJ10 : ∀ a, a < 0 → ∀ b, b < 0 → a ≠ b → (TJ10 a).2.1 ≠ (TJ10 b).2.1 := by decide +kernel
theorem tyJ10_ok : ∀ k, k < 0 → parseFieldDescriptor (TJ10 k).2.2.1 = some (tyJ10 k) := by decide +kernel
def RJ7 : String := "java/util/Arrays"
def TJ7 : u_T := fun k => match k with
  | _ => ("", "", "", false)
def tyJ7 : Nat → FieldType := fun k => match k with
  | _ => .int
theorem nmJ7 : ∀ a, a < 0 → ∀ b, b < 0 → a ≠ b → (TJ7 a).2.1 ≠ (TJ7 b).2.1 := by decide +kernel
theorem tyJ7_ok : ∀ k, k < 0 → parseFieldDescriptor (TJ7 k).2.2.1 = some (tyJ7 k) := by decide +kernel
abbrev cJ7_fill_53178 : ByteArray := prog_12_method_103_code
def yJ7_fill_53178 : MethodName := ⟨RJ7, "fill", "([II)V"⟩
def RL : String := "ForgettingArchiveLaw"
abbrev cL_cell : ByteArray := method_2_code
def yL_cell : MethodName := ⟨RL, "cell", "([II)I"⟩
abbrev cL_areFiles : ByteArray := method_3_code
def yL_areFiles : MethodName := ⟨RL, "areFiles", "(LForgettingArchive;)Z"⟩
abbrev cL_areLists : ByteArray := method_4_code
def yL_areLists : MethodName := ⟨RL, "areLists", "(LForgettingArchive;)Z"⟩
abbrev cL_acts : ByteArray := method_5_code
def yL_acts : MethodName := ⟨RL, "acts", "(LForgettingArchive;I)Z"⟩
abbrev cL_law : ByteArray := code
def yL_law : MethodName := ⟨RL, "law", "([I)Z"⟩
abbrev vwCl : List vw_C := [(RX0, TX0, 2), (RX1, TX1, 6), (RX2, TX2, 3), (RX3, TX3, 12), (RX4, TX4, 9), (RX5, TX5, 2), (RX6, TX6, 7)]
