section
-- ===== PART A: goes FIRST, ahead of the names: the tables' words, and 'selects' of the private methods out of them =====
/-- a private method of a class that the tables say can be made, by its rows of tables_1 -/
def lw_okq (q : MethodName × Nat) : Prop := (q.1.cls ≠ "java/lang/invoke/MethodHandle" ∧ q.1.cls ≠ "java/lang/invoke/VarHandle") ∧ Cond.instantiable q.1.cls q.2 ∈ tables_1 ∧ Cond.privateMethod q.1 ∈ tables_1 ∧ Cond.instanceMethod q.1 ∈ tables_1
theorem lw_p0 : lw_okq (⟨"ForgettingArchive", "recorded", "(I)I"⟩, 7) := ⟨⟨by decide +kernel, by decide +kernel⟩, List.mem_of_getElem? (i := 13) (by decide +kernel), List.mem_of_getElem? (i := 286) (by decide +kernel), List.mem_of_getElem? (i := 287) (by decide +kernel)⟩
theorem lw_p1 : lw_okq (⟨"ForgettingArchive", "obey", "()I"⟩, 7) := ⟨⟨by decide +kernel, by decide +kernel⟩, List.mem_of_getElem? (i := 13) (by decide +kernel), List.mem_of_getElem? (i := 498) (by decide +kernel), List.mem_of_getElem? (i := 499) (by decide +kernel)⟩
theorem lw_p2 : lw_okq (⟨"ForgettingArchive", "report", "(III)V"⟩, 7) := ⟨⟨by decide +kernel, by decide +kernel⟩, List.mem_of_getElem? (i := 13) (by decide +kernel), List.mem_of_getElem? (i := 502) (by decide +kernel), List.mem_of_getElem? (i := 503) (by decide +kernel)⟩
theorem lw_p3 : lw_okq (⟨"ForgettingArchiveModel", "hold", "()V"⟩, 13) := ⟨⟨by decide +kernel, by decide +kernel⟩, List.mem_of_getElem? (i := 595) (by decide +kernel), List.mem_of_getElem? (i := 646) (by decide +kernel), List.mem_of_getElem? (i := 647) (by decide +kernel)⟩
theorem lw_p4 : lw_okq (⟨"ForgettingArchiveModel", "adds", "(II)I"⟩, 13) := ⟨⟨by decide +kernel, by decide +kernel⟩, List.mem_of_getElem? (i := 595) (by decide +kernel), List.mem_of_getElem? (i := 650) (by decide +kernel), List.mem_of_getElem? (i := 651) (by decide +kernel)⟩
theorem lw_p5 : lw_okq (⟨"ForgettingArchiveModel", "pages", "()I"⟩, 13) := ⟨⟨by decide +kernel, by decide +kernel⟩, List.mem_of_getElem? (i := 595) (by decide +kernel), List.mem_of_getElem? (i := 657) (by decide +kernel), List.mem_of_getElem? (i := 658) (by decide +kernel)⟩
theorem lw_p6 : lw_okq (⟨"ForgettingArchiveModel", "recorded", "(I)I"⟩, 13) := ⟨⟨by decide +kernel, by decide +kernel⟩, List.mem_of_getElem? (i := 595) (by decide +kernel), List.mem_of_getElem? (i := 664) (by decide +kernel), List.mem_of_getElem? (i := 665) (by decide +kernel)⟩
theorem lw_p7 : lw_okq (⟨"ForgettingArchiveModel", "asksFor", "(I)I"⟩, 13) := ⟨⟨by decide +kernel, by decide +kernel⟩, List.mem_of_getElem? (i := 595) (by decide +kernel), List.mem_of_getElem? (i := 672) (by decide +kernel), List.mem_of_getElem? (i := 673) (by decide +kernel)⟩
theorem lw_p8 : lw_okq (⟨"ForgettingArchiveModel", "placeOf", "(I)I"⟩, 13) := ⟨⟨by decide +kernel, by decide +kernel⟩, List.mem_of_getElem? (i := 595) (by decide +kernel), List.mem_of_getElem? (i := 676) (by decide +kernel), List.mem_of_getElem? (i := 677) (by decide +kernel)⟩
theorem lw_p9 : lw_okq (⟨"ForgettingArchiveModel", "asks", "(I)I"⟩, 13) := ⟨⟨by decide +kernel, by decide +kernel⟩, List.mem_of_getElem? (i := 595) (by decide +kernel), List.mem_of_getElem? (i := 680) (by decide +kernel), List.mem_of_getElem? (i := 681) (by decide +kernel)⟩
theorem lw_p10 : lw_okq (⟨"ForgettingArchiveModel", "seals", "(III)I"⟩, 13) := ⟨⟨by decide +kernel, by decide +kernel⟩, List.mem_of_getElem? (i := 595) (by decide +kernel), List.mem_of_getElem? (i := 688) (by decide +kernel), List.mem_of_getElem? (i := 689) (by decide +kernel)⟩
theorem lw_p11 : lw_okq (⟨"ForgettingArchiveModel", "sealing", "(I)I"⟩, 13) := ⟨⟨by decide +kernel, by decide +kernel⟩, List.mem_of_getElem? (i := 595) (by decide +kernel), List.mem_of_getElem? (i := 692) (by decide +kernel), List.mem_of_getElem? (i := 693) (by decide +kernel)⟩
theorem lw_p12 : lw_okq (⟨"ForgettingArchiveModel", "holds", "(II)Z"⟩, 13) := ⟨⟨by decide +kernel, by decide +kernel⟩, List.mem_of_getElem? (i := 595) (by decide +kernel), List.mem_of_getElem? (i := 696) (by decide +kernel), List.mem_of_getElem? (i := 697) (by decide +kernel)⟩
theorem lw_p13 : lw_okq (⟨"ForgettingArchiveModel", "lifts", "(II)I"⟩, 13) := ⟨⟨by decide +kernel, by decide +kernel⟩, List.mem_of_getElem? (i := 595) (by decide +kernel), List.mem_of_getElem? (i := 707) (by decide +kernel), List.mem_of_getElem? (i := 708) (by decide +kernel)⟩
theorem lw_p14 : lw_okq (⟨"ForgettingArchiveModel", "refers", "(II)I"⟩, 13) := ⟨⟨by decide +kernel, by decide +kernel⟩, List.mem_of_getElem? (i := 595) (by decide +kernel), List.mem_of_getElem? (i := 715) (by decide +kernel), List.mem_of_getElem? (i := 716) (by decide +kernel)⟩
theorem lw_p15 : lw_okq (⟨"ForgettingArchiveModel", "referring", "(I)I"⟩, 13) := ⟨⟨by decide +kernel, by decide +kernel⟩, List.mem_of_getElem? (i := 595) (by decide +kernel), List.mem_of_getElem? (i := 719) (by decide +kernel), List.mem_of_getElem? (i := 720) (by decide +kernel)⟩
def lw_privs_1 : List (MethodName × Nat) := [(⟨"ForgettingArchive", "recorded", "(I)I"⟩, 7), (⟨"ForgettingArchive", "obey", "()I"⟩, 7), (⟨"ForgettingArchive", "report", "(III)V"⟩, 7), (⟨"ForgettingArchiveModel", "hold", "()V"⟩, 13), (⟨"ForgettingArchiveModel", "adds", "(II)I"⟩, 13), (⟨"ForgettingArchiveModel", "pages", "()I"⟩, 13), (⟨"ForgettingArchiveModel", "recorded", "(I)I"⟩, 13), (⟨"ForgettingArchiveModel", "asksFor", "(I)I"⟩, 13), (⟨"ForgettingArchiveModel", "placeOf", "(I)I"⟩, 13), (⟨"ForgettingArchiveModel", "asks", "(I)I"⟩, 13), (⟨"ForgettingArchiveModel", "seals", "(III)I"⟩, 13), (⟨"ForgettingArchiveModel", "sealing", "(I)I"⟩, 13), (⟨"ForgettingArchiveModel", "holds", "(II)Z"⟩, 13), (⟨"ForgettingArchiveModel", "lifts", "(II)I"⟩, 13), (⟨"ForgettingArchiveModel", "refers", "(II)I"⟩, 13), (⟨"ForgettingArchiveModel", "referring", "(I)I"⟩, 13)]
theorem lw_r1 : ∀ q ∈ lw_privs_1, lw_okq q := List.forall_mem_cons.mpr ⟨lw_p0, List.forall_mem_cons.mpr ⟨lw_p1, List.forall_mem_cons.mpr ⟨lw_p2, List.forall_mem_cons.mpr ⟨lw_p3, List.forall_mem_cons.mpr ⟨lw_p4, List.forall_mem_cons.mpr ⟨lw_p5, List.forall_mem_cons.mpr ⟨lw_p6, List.forall_mem_cons.mpr ⟨lw_p7, List.forall_mem_cons.mpr ⟨lw_p8, List.forall_mem_cons.mpr ⟨lw_p9, List.forall_mem_cons.mpr ⟨lw_p10, List.forall_mem_cons.mpr ⟨lw_p11, List.forall_mem_cons.mpr ⟨lw_p12, List.forall_mem_cons.mpr ⟨lw_p13, List.forall_mem_cons.mpr ⟨lw_p14, List.forall_mem_cons.mpr ⟨lw_p15, fun _ h => absurd h List.not_mem_nil⟩⟩⟩⟩⟩⟩⟩⟩⟩⟩⟩⟩⟩⟩⟩⟩
theorem lw_p16 : lw_okq (⟨"ForgettingArchiveModel", "find", "(II)I"⟩, 13) := ⟨⟨by decide +kernel, by decide +kernel⟩, List.mem_of_getElem? (i := 595) (by decide +kernel), List.mem_of_getElem? (i := 727) (by decide +kernel), List.mem_of_getElem? (i := 728) (by decide +kernel)⟩
theorem lw_p17 : lw_okq (⟨"ForgettingArchiveModel", "removeReservation", "(I)V"⟩, 13) := ⟨⟨by decide +kernel, by decide +kernel⟩, List.mem_of_getElem? (i := 595) (by decide +kernel), List.mem_of_getElem? (i := 735) (by decide +kernel), List.mem_of_getElem? (i := 736) (by decide +kernel)⟩
theorem lw_p18 : lw_okq (⟨"ForgettingArchiveModel", "passes", "(I)I"⟩, 13) := ⟨⟨by decide +kernel, by decide +kernel⟩, List.mem_of_getElem? (i := 595) (by decide +kernel), List.mem_of_getElem? (i := 743) (by decide +kernel), List.mem_of_getElem? (i := 744) (by decide +kernel)⟩
theorem lw_p19 : lw_okq (⟨"ForgettingArchiveModel", "day", "()I"⟩, 13) := ⟨⟨by decide +kernel, by decide +kernel⟩, List.mem_of_getElem? (i := 595) (by decide +kernel), List.mem_of_getElem? (i := 747) (by decide +kernel), List.mem_of_getElem? (i := 748) (by decide +kernel)⟩
theorem lw_p20 : lw_okq (⟨"ForgettingArchiveModel", "reserved", "()I"⟩, 13) := ⟨⟨by decide +kernel, by decide +kernel⟩, List.mem_of_getElem? (i := 595) (by decide +kernel), List.mem_of_getElem? (i := 751) (by decide +kernel), List.mem_of_getElem? (i := 752) (by decide +kernel)⟩
theorem lw_p21 : lw_okq (⟨"ForgettingArchiveModel", "burning", "()I"⟩, 13) := ⟨⟨by decide +kernel, by decide +kernel⟩, List.mem_of_getElem? (i := 595) (by decide +kernel), List.mem_of_getElem? (i := 755) (by decide +kernel), List.mem_of_getElem? (i := 756) (by decide +kernel)⟩
theorem lw_p22 : lw_okq (⟨"ForgettingArchiveModel", "tellStaying", "()V"⟩, 13) := ⟨⟨by decide +kernel, by decide +kernel⟩, List.mem_of_getElem? (i := 595) (by decide +kernel), List.mem_of_getElem? (i := 759) (by decide +kernel), List.mem_of_getElem? (i := 760) (by decide +kernel)⟩
theorem lw_p23 : lw_okq (⟨"ForgettingArchiveModel", "ownReason", "(I)I"⟩, 13) := ⟨⟨by decide +kernel, by decide +kernel⟩, List.mem_of_getElem? (i := 595) (by decide +kernel), List.mem_of_getElem? (i := 763) (by decide +kernel), List.mem_of_getElem? (i := 764) (by decide +kernel)⟩
theorem lw_p24 : lw_okq (⟨"ForgettingArchiveModel", "due", "(I)I"⟩, 13) := ⟨⟨by decide +kernel, by decide +kernel⟩, List.mem_of_getElem? (i := 595) (by decide +kernel), List.mem_of_getElem? (i := 767) (by decide +kernel), List.mem_of_getElem? (i := 768) (by decide +kernel)⟩
theorem lw_p25 : lw_okq (⟨"ForgettingArchiveModel", "reservations", "(I)I"⟩, 13) := ⟨⟨by decide +kernel, by decide +kernel⟩, List.mem_of_getElem? (i := 595) (by decide +kernel), List.mem_of_getElem? (i := 771) (by decide +kernel), List.mem_of_getElem? (i := 772) (by decide +kernel)⟩
theorem lw_p26 : lw_okq (⟨"ForgettingArchiveModel", "burn", "(I)V"⟩, 13) := ⟨⟨by decide +kernel, by decide +kernel⟩, List.mem_of_getElem? (i := 595) (by decide +kernel), List.mem_of_getElem? (i := 775) (by decide +kernel), List.mem_of_getElem? (i := 776) (by decide +kernel)⟩
theorem lw_p27 : lw_okq (⟨"ForgettingArchiveModel", "leaveTrace", "(I)V"⟩, 13) := ⟨⟨by decide +kernel, by decide +kernel⟩, List.mem_of_getElem? (i := 595) (by decide +kernel), List.mem_of_getElem? (i := 779) (by decide +kernel), List.mem_of_getElem? (i := 780) (by decide +kernel)⟩
theorem lw_p28 : lw_okq (⟨"ForgettingArchiveModel", "faultOf", "()I"⟩, 13) := ⟨⟨by decide +kernel, by decide +kernel⟩, List.mem_of_getElem? (i := 595) (by decide +kernel), List.mem_of_getElem? (i := 799) (by decide +kernel), List.mem_of_getElem? (i := 800) (by decide +kernel)⟩
theorem lw_p29 : lw_okq (⟨"ForgettingArchiveModel", "readsOrder", "()Z"⟩, 13) := ⟨⟨by decide +kernel, by decide +kernel⟩, List.mem_of_getElem? (i := 595) (by decide +kernel), List.mem_of_getElem? (i := 803) (by decide +kernel), List.mem_of_getElem? (i := 804) (by decide +kernel)⟩
theorem lw_p30 : lw_okq (⟨"ForgettingArchiveModel", "accepts", "(C)Z"⟩, 13) := ⟨⟨by decide +kernel, by decide +kernel⟩, List.mem_of_getElem? (i := 595) (by decide +kernel), List.mem_of_getElem? (i := 807) (by decide +kernel), List.mem_of_getElem? (i := 808) (by decide +kernel)⟩
theorem lw_p31 : lw_okq (⟨"ForgettingArchiveModel", "isSign", "(CC)Z"⟩, 13) := ⟨⟨by decide +kernel, by decide +kernel⟩, List.mem_of_getElem? (i := 595) (by decide +kernel), List.mem_of_getElem? (i := 811) (by decide +kernel), List.mem_of_getElem? (i := 812) (by decide +kernel)⟩
def lw_privs_2 : List (MethodName × Nat) := [(⟨"ForgettingArchiveModel", "find", "(II)I"⟩, 13), (⟨"ForgettingArchiveModel", "removeReservation", "(I)V"⟩, 13), (⟨"ForgettingArchiveModel", "passes", "(I)I"⟩, 13), (⟨"ForgettingArchiveModel", "day", "()I"⟩, 13), (⟨"ForgettingArchiveModel", "reserved", "()I"⟩, 13), (⟨"ForgettingArchiveModel", "burning", "()I"⟩, 13), (⟨"ForgettingArchiveModel", "tellStaying", "()V"⟩, 13), (⟨"ForgettingArchiveModel", "ownReason", "(I)I"⟩, 13), (⟨"ForgettingArchiveModel", "due", "(I)I"⟩, 13), (⟨"ForgettingArchiveModel", "reservations", "(I)I"⟩, 13), (⟨"ForgettingArchiveModel", "burn", "(I)V"⟩, 13), (⟨"ForgettingArchiveModel", "leaveTrace", "(I)V"⟩, 13), (⟨"ForgettingArchiveModel", "faultOf", "()I"⟩, 13), (⟨"ForgettingArchiveModel", "readsOrder", "()Z"⟩, 13), (⟨"ForgettingArchiveModel", "accepts", "(C)Z"⟩, 13), (⟨"ForgettingArchiveModel", "isSign", "(CC)Z"⟩, 13)]
theorem lw_r2 : ∀ q ∈ lw_privs_2, lw_okq q := List.forall_mem_cons.mpr ⟨lw_p16, List.forall_mem_cons.mpr ⟨lw_p17, List.forall_mem_cons.mpr ⟨lw_p18, List.forall_mem_cons.mpr ⟨lw_p19, List.forall_mem_cons.mpr ⟨lw_p20, List.forall_mem_cons.mpr ⟨lw_p21, List.forall_mem_cons.mpr ⟨lw_p22, List.forall_mem_cons.mpr ⟨lw_p23, List.forall_mem_cons.mpr ⟨lw_p24, List.forall_mem_cons.mpr ⟨lw_p25, List.forall_mem_cons.mpr ⟨lw_p26, List.forall_mem_cons.mpr ⟨lw_p27, List.forall_mem_cons.mpr ⟨lw_p28, List.forall_mem_cons.mpr ⟨lw_p29, List.forall_mem_cons.mpr ⟨lw_p30, List.forall_mem_cons.mpr ⟨lw_p31, fun _ h => absurd h List.not_mem_nil⟩⟩⟩⟩⟩⟩⟩⟩⟩⟩⟩⟩⟩⟩⟩⟩
theorem lw_p32 : lw_okq (⟨"ForgettingArchiveModel", "number", "(III)Z"⟩, 13) := ⟨⟨by decide +kernel, by decide +kernel⟩, List.mem_of_getElem? (i := 595) (by decide +kernel), List.mem_of_getElem? (i := 815) (by decide +kernel), List.mem_of_getElem? (i := 816) (by decide +kernel)⟩
theorem lw_p33 : lw_okq (⟨"ForgettingArchiveModel", "does", "(I)I"⟩, 13) := ⟨⟨by decide +kernel, by decide +kernel⟩, List.mem_of_getElem? (i := 595) (by decide +kernel), List.mem_of_getElem? (i := 823) (by decide +kernel), List.mem_of_getElem? (i := 824) (by decide +kernel)⟩
theorem lw_p34 : lw_okq (⟨"ForgettingArchiveModel", "ahead", "(I)I"⟩, 13) := ⟨⟨by decide +kernel, by decide +kernel⟩, List.mem_of_getElem? (i := 595) (by decide +kernel), List.mem_of_getElem? (i := 863) (by decide +kernel), List.mem_of_getElem? (i := 864) (by decide +kernel)⟩
theorem lw_p35 : lw_okq (⟨"ForgettingArchiveModel", "keepTrial", "()V"⟩, 13) := ⟨⟨by decide +kernel, by decide +kernel⟩, List.mem_of_getElem? (i := 595) (by decide +kernel), List.mem_of_getElem? (i := 888) (by decide +kernel), List.mem_of_getElem? (i := 889) (by decide +kernel)⟩
theorem lw_p36 : lw_okq (⟨"ForgettingArchiveModel", "putBack", "()V"⟩, 13) := ⟨⟨by decide +kernel, by decide +kernel⟩, List.mem_of_getElem? (i := 595) (by decide +kernel), List.mem_of_getElem? (i := 892) (by decide +kernel), List.mem_of_getElem? (i := 893) (by decide +kernel)⟩
def lw_privs_3 : List (MethodName × Nat) := [(⟨"ForgettingArchiveModel", "number", "(III)Z"⟩, 13), (⟨"ForgettingArchiveModel", "does", "(I)I"⟩, 13), (⟨"ForgettingArchiveModel", "ahead", "(I)I"⟩, 13), (⟨"ForgettingArchiveModel", "keepTrial", "()V"⟩, 13), (⟨"ForgettingArchiveModel", "putBack", "()V"⟩, 13)]
theorem lw_r3 : ∀ q ∈ lw_privs_3, lw_okq q := List.forall_mem_cons.mpr ⟨lw_p32, List.forall_mem_cons.mpr ⟨lw_p33, List.forall_mem_cons.mpr ⟨lw_p34, List.forall_mem_cons.mpr ⟨lw_p35, List.forall_mem_cons.mpr ⟨lw_p36, fun _ h => absurd h List.not_mem_nil⟩⟩⟩⟩⟩
def lw_privs : List (MethodName × Nat) := lw_privs_1 ++ (lw_privs_2 ++ (lw_privs_3))
def lw_tbl : List Cond := k2_sels lw_privs ++ tables_1
theorem lw_privs_ok : ∀ q ∈ lw_privs, lw_okq q := by
  show ∀ q ∈ lw_privs_1 ++ (lw_privs_2 ++ (lw_privs_3)), lw_okq q
  exact List.forall_mem_append.mpr ⟨lw_r1, List.forall_mem_append.mpr ⟨lw_r2, lw_r3⟩⟩
/-- the streams that the claim lets the run draw from -/
abbrev lw_cs : List Choice := [Jvm.Choice.named "NaN.bits"]
theorem lw_bits : nanBits ∈ lw_cs := by first | decide | exact List.mem_cons_self | simp [lw_cs, nanBits]
-- ===== end of PART A; then your names; then what follows =====
def RX0 : String := "ForgettingArchive$History"
def TX0 : u_T := fun k => match k with
  | 0 => ("ForgettingArchive$History", "size", "I", false)
  | _ => ("ForgettingArchive$History", "states", "[LForgettingArchive$State;", true)
def tyX0 : Nat → FieldType := fun k => match k with
  | 0 => .int
  | _ => .array (.object "ForgettingArchive$State")
theorem nmX0 : ∀ a, a < 2 → ∀ b, b < 2 → a ≠ b → (TX0 a).2.1 ≠ (TX0 b).2.1 := by decide +kernel
theorem tyX0_ok : ∀ k, k < 2 → parseFieldDescriptor (TX0 k).2.2.1 = some (tyX0 k) := by decide +kernel
abbrev cX0_init : ByteArray := prog_2_method_1_code
def yX0_init : MethodName := ⟨RX0, "<init>", "()V"⟩
abbrev cX0_draft : ByteArray := prog_2_method_2_code
def yX0_draft : MethodName := ⟨RX0, "draft", "(LForgettingArchive$State;)V"⟩
abbrev cX0_keepDraft : ByteArray := prog_2_method_3_code
def yX0_keepDraft : MethodName := ⟨RX0, "keepDraft", "()V"⟩
abbrev cX0_takeLatest : ByteArray := prog_2_method_4_code
def yX0_takeLatest : MethodName := ⟨RX0, "takeLatest", "()LForgettingArchive$State;"⟩
def RX1 : String := "ForgettingArchive$OrderText"
def TX1 : u_T := fun k => match k with
  | 0 => ("ForgettingArchive$OrderText", "signs", "[C", true)
  | 1 => ("ForgettingArchive$OrderText", "length", "I", false)
  | 2 => ("ForgettingArchive$OrderText", "at", "I", false)
  | 3 => ("ForgettingArchive$OrderText", "letter", "C", false)
  | 4 => ("ForgettingArchive$OrderText", "first", "I", false)
  | _ => ("ForgettingArchive$OrderText", "second", "I", false)
def tyX1 : Nat → FieldType := fun k => match k with
  | 0 => .array .char
  | 1 => .int
  | 2 => .int
  | 3 => .char
  | 4 => .int
  | _ => .int
theorem nmX1 : ∀ a, a < 6 → ∀ b, b < 6 → a ≠ b → (TX1 a).2.1 ≠ (TX1 b).2.1 := by decide +kernel
theorem tyX1_ok : ∀ k, k < 6 → parseFieldDescriptor (TX1 k).2.2.1 = some (tyX1 k) := by decide +kernel
abbrev cX1_init : ByteArray := prog_3_method_1_code
def yX1_init : MethodName := ⟨RX1, "<init>", "()V"⟩
abbrev cX1_appendSign : ByteArray := prog_3_method_2_code
def yX1_appendSign : MethodName := ⟨RX1, "appendSign", "(C)Z"⟩
abbrev cX1_findFault : ByteArray := prog_3_method_3_code
def yX1_findFault : MethodName := ⟨RX1, "findFault", "()I"⟩
abbrev cX1_readOrder : ByteArray := prog_3_method_4_code
def yX1_readOrder : MethodName := ⟨RX1, "readOrder", "()Z"⟩
abbrev cX1_readFirst : ByteArray := prog_3_method_5_code
def yX1_readFirst : MethodName := ⟨RX1, "readFirst", "(II)Z"⟩
abbrev cX1_readSecond : ByteArray := prog_3_method_6_code
def yX1_readSecond : MethodName := ⟨RX1, "readSecond", "(II)Z"⟩
abbrev cX1_readSign : ByteArray := prog_3_method_7_code
def yX1_readSign : MethodName := ⟨RX1, "readSign", "(C)Z"⟩
abbrev cX1_readNumber : ByteArray := prog_3_method_8_code
def yX1_readNumber : MethodName := ⟨RX1, "readNumber", "(II)I"⟩
abbrev cX1_digitHere : ByteArray := prog_3_method_9_code
def yX1_digitHere : MethodName := ⟨RX1, "digitHere", "()I"⟩
abbrev cX1_signHere : ByteArray := prog_3_method_10_code
def yX1_signHere : MethodName := ⟨RX1, "signHere", "()C"⟩
def RX2 : String := "ForgettingArchive$Reservations"
def TX2 : u_T := fun k => match k with
  | 0 => ("ForgettingArchive$Reservations", "size", "I", false)
  | 1 => ("ForgettingArchive$Reservations", "files", "[I", true)
  | _ => ("ForgettingArchive$Reservations", "days", "[I", true)
def tyX2 : Nat → FieldType := fun k => match k with
  | 0 => .int
  | 1 => .array .int
  | _ => .array .int
theorem nmX2 : ∀ a, a < 3 → ∀ b, b < 3 → a ≠ b → (TX2 a).2.1 ≠ (TX2 b).2.1 := by decide +kernel
theorem tyX2_ok : ∀ k, k < 3 → parseFieldDescriptor (TX2 k).2.2.1 = some (tyX2 k) := by decide +kernel
abbrev cX2_init : ByteArray := prog_4_method_1_code
def yX2_init : MethodName := ⟨RX2, "<init>", "()V"⟩
abbrev cX2_copyFrom : ByteArray := prog_4_method_2_code
def yX2_copyFrom : MethodName := ⟨RX2, "copyFrom", "(LForgettingArchive$Reservations;)V"⟩
abbrev cX2_placeOf : ByteArray := prog_4_method_3_code
def yX2_placeOf : MethodName := ⟨RX2, "placeOf", "(II)I"⟩
abbrev cX2_numberFor : ByteArray := prog_4_method_4_code
def yX2_numberFor : MethodName := ⟨RX2, "numberFor", "(I)I"⟩
abbrev cX2_insert : ByteArray := prog_4_method_5_code
def yX2_insert : MethodName := ⟨RX2, "insert", "(II)V"⟩
abbrev cX2_comesBefore : ByteArray := prog_4_method_6_code
def yX2_comesBefore : MethodName := ⟨RX2, "comesBefore", "(III)Z"⟩
abbrev cX2_removeAt : ByteArray := prog_4_method_7_code
def yX2_removeAt : MethodName := ⟨RX2, "removeAt", "(I)V"⟩
def RX3 : String := "ForgettingArchive$State"
def TX3 : u_T := fun k => match k with
  | 0 => ("ForgettingArchive$State", "now", "I", false)
  | 1 => ("ForgettingArchive$State", "stored", "I", false)
  | 2 => ("ForgettingArchive$State", "came", "I", false)
  | 3 => ("ForgettingArchive$State", "burntFiles", "I", false)
  | 4 => ("ForgettingArchive$State", "burntPages", "I", false)
  | 5 => ("ForgettingArchive$State", "askings", "I", false)
  | 6 => ("ForgettingArchive$State", "regrets", "I", false)
  | 7 => ("ForgettingArchive$State", "burnings", "I", false)
  | 8 => ("ForgettingArchive$State", "files", "[LForgettingArchive$StoredFile;", true)
  | 9 => ("ForgettingArchive$State", "reservations", "LForgettingArchive$Reservations;", true)
  | 10 => ("ForgettingArchive$State", "traces", "LForgettingArchive$Traces;", true)
  | _ => ("ForgettingArchive$State", "settings", "[I", true)
def tyX3 : Nat → FieldType := fun k => match k with
  | 0 => .int
  | 1 => .int
  | 2 => .int
  | 3 => .int
  | 4 => .int
  | 5 => .int
  | 6 => .int
  | 7 => .int
  | 8 => .array (.object "ForgettingArchive$StoredFile")
  | 9 => .object "ForgettingArchive$Reservations"
  | 10 => .object "ForgettingArchive$Traces"
  | _ => .array .int
theorem nmX3 : ∀ a, a < 12 → ∀ b, b < 12 → a ≠ b → (TX3 a).2.1 ≠ (TX3 b).2.1 := by decide +kernel
theorem tyX3_ok : ∀ k, k < 12 → parseFieldDescriptor (TX3 k).2.2.1 = some (tyX3 k) := by decide +kernel
abbrev cX3_init : ByteArray := prog_5_method_1_code
def yX3_init : MethodName := ⟨RX3, "<init>", "()V"⟩
abbrev cX3_copyFrom : ByteArray := prog_5_method_2_code
def yX3_copyFrom : MethodName := ⟨RX3, "copyFrom", "(LForgettingArchive$State;)V"⟩
abbrev cX3_addFile : ByteArray := prog_5_method_3_code
def yX3_addFile : MethodName := ⟨RX3, "addFile", "(II)I"⟩
abbrev cX3_askFor : ByteArray := prog_5_method_4_code
def yX3_askFor : MethodName := ⟨RX3, "askFor", "(I)I"⟩
abbrev cX3_putSeal : ByteArray := prog_5_method_5_code
def yX3_putSeal : MethodName := ⟨RX3, "putSeal", "(III)I"⟩
abbrev cX3_takeSeal : ByteArray := prog_5_method_6_code
def yX3_takeSeal : MethodName := ⟨RX3, "takeSeal", "(II)I"⟩
abbrev cX3_putReference : ByteArray := prog_5_method_7_code
def yX3_putReference : MethodName := ⟨RX3, "putReference", "(II)I"⟩
abbrev cX3_putReservation : ByteArray := prog_5_method_8_code
def yX3_putReservation : MethodName := ⟨RX3, "putReservation", "(II)I"⟩
abbrev cX3_takeReservation : ByteArray := prog_5_method_9_code
def yX3_takeReservation : MethodName := ⟨RX3, "takeReservation", "(II)I"⟩
abbrev cX3_passDays : ByteArray := prog_5_method_10_code
def yX3_passDays : MethodName := ⟨RX3, "passDays", "(I)I"⟩
abbrev cX3_changeSetting : ByteArray := prog_5_method_11_code
def yX3_changeSetting : MethodName := ⟨RX3, "changeSetting", "(II)I"⟩
abbrev cX3_passDay : ByteArray := prog_5_method_12_code
def yX3_passDay : MethodName := ⟨RX3, "passDay", "()I"⟩
abbrev cX3_askReserved : ByteArray := prog_5_method_13_code
def yX3_askReserved : MethodName := ⟨RX3, "askReserved", "()V"⟩
abbrev cX3_askStored : ByteArray := prog_5_method_14_code
def yX3_askStored : MethodName := ⟨RX3, "askStored", "(LForgettingArchive$StoredFile;)V"⟩
abbrev cX3_markReasons : ByteArray := prog_5_method_15_code
def yX3_markReasons : MethodName := ⟨RX3, "markReasons", "()V"⟩
abbrev cX3_ownReason : ByteArray := prog_5_method_16_code
def yX3_ownReason : MethodName := ⟨RX3, "ownReason", "(LForgettingArchive$StoredFile;)I"⟩
abbrev cX3_markReferredFrom : ByteArray := prog_5_method_17_code
def yX3_markReferredFrom : MethodName := ⟨RX3, "markReferredFrom", "(LForgettingArchive$StoredFile;)V"⟩
abbrev cX3_burnUnmarked : ByteArray := prog_5_method_18_code
def yX3_burnUnmarked : MethodName := ⟨RX3, "burnUnmarked", "()I"⟩
abbrev cX3_find : ByteArray := prog_5_method_19_code
def yX3_find : MethodName := ⟨RX3, "find", "(I)LForgettingArchive$StoredFile;"⟩
abbrev cX3_storedPages : ByteArray := prog_5_method_20_code
def yX3_storedPages : MethodName := ⟨RX3, "storedPages", "()I"⟩
abbrev cX3_sumOfAges : ByteArray := prog_5_method_21_code
def yX3_sumOfAges : MethodName := ⟨RX3, "sumOfAges", "()I"⟩
abbrev cX3_dueDay : ByteArray := prog_5_method_22_code
def yX3_dueDay : MethodName := ⟨RX3, "dueDay", "(LForgettingArchive$StoredFile;)I"⟩
abbrev cX3_referrersOf : ByteArray := prog_5_method_23_code
def yX3_referrersOf : MethodName := ⟨RX3, "referrersOf", "(I)I"⟩
abbrev cX3_lowestKeeperOf : ByteArray := prog_5_method_24_code
def yX3_lowestKeeperOf : MethodName := ⟨RX3, "lowestKeeperOf", "(I)I"⟩
def RX4 : String := "ForgettingArchive$StoredFile"
def TX4 : u_T := fun k => match k with
  | 0 => ("ForgettingArchive$StoredFile", "number", "I", false)
  | 1 => ("ForgettingArchive$StoredFile", "kind", "I", false)
  | 2 => ("ForgettingArchive$StoredFile", "pages", "I", false)
  | 3 => ("ForgettingArchive$StoredFile", "cameOn", "I", false)
  | 4 => ("ForgettingArchive$StoredFile", "askedOn", "I", false)
  | 5 => ("ForgettingArchive$StoredFile", "timesAsked", "I", false)
  | 6 => ("ForgettingArchive$StoredFile", "target", "I", false)
  | 7 => ("ForgettingArchive$StoredFile", "sealEnds", "[I", true)
  | _ => ("ForgettingArchive$StoredFile", "reason", "I", false)
def tyX4 : Nat → FieldType := fun k => match k with
  | 0 => .int
  | 1 => .int
  | 2 => .int
  | 3 => .int
  | 4 => .int
  | 5 => .int
  | 6 => .int
  | 7 => .array .int
  | _ => .int
theorem nmX4 : ∀ a, a < 9 → ∀ b, b < 9 → a ≠ b → (TX4 a).2.1 ≠ (TX4 b).2.1 := by decide +kernel
theorem tyX4_ok : ∀ k, k < 9 → parseFieldDescriptor (TX4 k).2.2.1 = some (tyX4 k) := by decide +kernel
abbrev cX4_init : ByteArray := prog_6_method_1_code
def yX4_init : MethodName := ⟨RX4, "<init>", "()V"⟩
abbrev cX4_comeAs : ByteArray := prog_6_method_2_code
def yX4_comeAs : MethodName := ⟨RX4, "comeAs", "(IIII)V"⟩
abbrev cX4_copyFrom : ByteArray := prog_6_method_3_code
def yX4_copyFrom : MethodName := ⟨RX4, "copyFrom", "(LForgettingArchive$StoredFile;)V"⟩
abbrev cX4_holdersOn : ByteArray := prog_6_method_4_code
def yX4_holdersOn : MethodName := ⟨RX4, "holdersOn", "(I)I"⟩
def RX5 : String := "ForgettingArchive$Traces"
def TX5 : u_T := fun k => match k with
  | 0 => ("ForgettingArchive$Traces", "size", "I", false)
  | _ => ("ForgettingArchive$Traces", "cells", "[I", true)
def tyX5 : Nat → FieldType := fun k => match k with
  | 0 => .int
  | _ => .array .int
theorem nmX5 : ∀ a, a < 2 → ∀ b, b < 2 → a ≠ b → (TX5 a).2.1 ≠ (TX5 b).2.1 := by decide +kernel
theorem tyX5_ok : ∀ k, k < 2 → parseFieldDescriptor (TX5 k).2.2.1 = some (tyX5 k) := by decide +kernel
abbrev cX5_init : ByteArray := prog_7_method_1_code
def yX5_init : MethodName := ⟨RX5, "<init>", "()V"⟩
abbrev cX5_copyFrom : ByteArray := prog_7_method_2_code
def yX5_copyFrom : MethodName := ⟨RX5, "copyFrom", "(LForgettingArchive$Traces;)V"⟩
abbrev cX5_leave : ByteArray := prog_7_method_3_code
def yX5_leave : MethodName := ⟨RX5, "leave", "(LForgettingArchive$StoredFile;I)V"⟩
abbrev cX5_cellOf : ByteArray := prog_7_method_4_code
def yX5_cellOf : MethodName := ⟨RX5, "cellOf", "(II)I"⟩
def RX6 : String := "ForgettingArchive"
def TX6 : u_T := fun k => match k with
  | 0 => ("ForgettingArchive", "state", "LForgettingArchive$State;", true)
  | 1 => ("ForgettingArchive", "future", "LForgettingArchive$State;", true)
  | 2 => ("ForgettingArchive", "history", "LForgettingArchive$History;", true)
  | 3 => ("ForgettingArchive", "text", "LForgettingArchive$OrderText;", true)
  | 4 => ("ForgettingArchive", "stoppedOrder", "I", false)
  | 5 => ("ForgettingArchive", "stoppedStart", "I", false)
  | _ => ("ForgettingArchive", "stoppedBy", "I", false)
def tyX6 : Nat → FieldType := fun k => match k with
  | 0 => .object "ForgettingArchive$State"
  | 1 => .object "ForgettingArchive$State"
  | 2 => .object "ForgettingArchive$History"
  | 3 => .object "ForgettingArchive$OrderText"
  | 4 => .int
  | 5 => .int
  | _ => .int
theorem nmX6 : ∀ a, a < 7 → ∀ b, b < 7 → a ≠ b → (TX6 a).2.1 ≠ (TX6 b).2.1 := by decide +kernel
theorem tyX6_ok : ∀ k, k < 7 → parseFieldDescriptor (TX6 k).2.2.1 = some (tyX6 k) := by decide +kernel
abbrev cX6_init : ByteArray := prog_1_method_1_code
def yX6_init : MethodName := ⟨RX6, "<init>", "()V"⟩
abbrev cX6_add : ByteArray := prog_1_method_2_code
def yX6_add : MethodName := ⟨RX6, "add", "(II)I"⟩
abbrev cX6_ask : ByteArray := prog_1_method_3_code
def yX6_ask : MethodName := ⟨RX6, "ask", "(I)I"⟩
abbrev cX6_seal : ByteArray := prog_1_method_4_code
def yX6_seal : MethodName := ⟨RX6, "seal", "(III)I"⟩
abbrev cX6_lift : ByteArray := prog_1_method_5_code
def yX6_lift : MethodName := ⟨RX6, "lift", "(II)I"⟩
abbrev cX6_refer : ByteArray := prog_1_method_6_code
def yX6_refer : MethodName := ⟨RX6, "refer", "(II)I"⟩
abbrev cX6_reserve : ByteArray := prog_1_method_7_code
def yX6_reserve : MethodName := ⟨RX6, "reserve", "(II)I"⟩
abbrev cX6_cancel : ByteArray := prog_1_method_8_code
def yX6_cancel : MethodName := ⟨RX6, "cancel", "(II)I"⟩
abbrev cX6_pass : ByteArray := prog_1_method_9_code
def yX6_pass : MethodName := ⟨RX6, "pass", "(I)I"⟩
abbrev cX6_set : ByteArray := prog_1_method_10_code
def yX6_set : MethodName := ⟨RX6, "set", "(II)I"⟩
abbrev cX6_append : ByteArray := prog_1_method_11_code
def yX6_append : MethodName := ⟨RX6, "append", "(I)I"⟩
abbrev cX6_clearText : ByteArray := prog_1_method_12_code
def yX6_clearText : MethodName := ⟨RX6, "clearText", "()I"⟩
abbrev cX6_fault : ByteArray := prog_1_method_13_code
def yX6_fault : MethodName := ⟨RX6, "fault", "()I"⟩
abbrev cX6_run : ByteArray := prog_1_method_14_code
def yX6_run : MethodName := ⟨RX6, "run", "()I"⟩
abbrev cX6_why : ByteArray := prog_1_method_15_code
def yX6_why : MethodName := ⟨RX6, "why", "(I)I"⟩
abbrev cX6_undo : ByteArray := prog_1_method_16_code
def yX6_undo : MethodName := ⟨RX6, "undo", "()I"⟩
abbrev cX6_now : ByteArray := prog_1_method_17_code
def yX6_now : MethodName := ⟨RX6, "now", "()I"⟩
abbrev cX6_count : ByteArray := prog_1_method_18_code
def yX6_count : MethodName := ⟨RX6, "count", "(I)I"⟩
abbrev cX6_fileAt : ByteArray := prog_1_method_19_code
def yX6_fileAt : MethodName := ⟨RX6, "fileAt", "(I)I"⟩
abbrev cX6_file : ByteArray := prog_1_method_20_code
def yX6_file : MethodName := ⟨RX6, "file", "(II)I"⟩
abbrev cX6_sealOf : ByteArray := prog_1_method_21_code
def yX6_sealOf : MethodName := ⟨RX6, "sealOf", "(II)I"⟩
abbrev cX6_trace : ByteArray := prog_1_method_22_code
def yX6_trace : MethodName := ⟨RX6, "trace", "(II)I"⟩
abbrev cX6_reservation : ByteArray := prog_1_method_23_code
def yX6_reservation : MethodName := ⟨RX6, "reservation", "(II)I"⟩
abbrev cX6_setting : ByteArray := prog_1_method_24_code
def yX6_setting : MethodName := ⟨RX6, "setting", "(I)I"⟩
abbrev cX6_meanAge : ByteArray := prog_1_method_25_code
def yX6_meanAge : MethodName := ⟨RX6, "meanAge", "()F"⟩
abbrev cX6_stays : ByteArray := prog_1_method_26_code
def yX6_stays : MethodName := ⟨RX6, "stays", "(I)I"⟩
abbrev cX6_keeper : ByteArray := prog_1_method_27_code
def yX6_keeper : MethodName := ⟨RX6, "keeper", "(I)I"⟩
abbrev cX6_burntIn : ByteArray := prog_1_method_28_code
def yX6_burntIn : MethodName := ⟨RX6, "burntIn", "(I)I"⟩
abbrev cX6_ifPassed : ByteArray := prog_1_method_29_code
def yX6_ifPassed : MethodName := ⟨RX6, "ifPassed", "(II)I"⟩
abbrev cX6_isError : ByteArray := prog_1_method_30_code
def yX6_isError : MethodName := ⟨RX6, "isError", "(I)Z"⟩
abbrev cX6_isNoHolder : ByteArray := prog_1_method_31_code
def yX6_isNoHolder : MethodName := ⟨RX6, "isNoHolder", "(I)Z"⟩
abbrev cX6_isNoSetting : ByteArray := prog_1_method_32_code
def yX6_isNoSetting : MethodName := ⟨RX6, "isNoSetting", "(I)Z"⟩
abbrev cX6_recorded : ByteArray := prog_1_method_33_code
def yX6_recorded : MethodName := ⟨RX6, "recorded", "(I)I"⟩
abbrev cX6_report : ByteArray := prog_1_method_34_code
def yX6_report : MethodName := ⟨RX6, "report", "(III)V"⟩
abbrev cX6_obey : ByteArray := prog_1_method_35_code
def yX6_obey : MethodName := ⟨RX6, "obey", "()I"⟩
def RX7 : String := "ForgettingArchiveModel"
def TX7 : u_T := fun k => match k with
  | 0 => ("ForgettingArchiveModel", "s", "[I", true)
  | 1 => ("ForgettingArchiveModel", "spare", "[I", true)
  | 2 => ("ForgettingArchiveModel", "trial", "[I", true)
  | 3 => ("ForgettingArchiveModel", "before", "[I", true)
  | 4 => ("ForgettingArchiveModel", "stay", "[Z", true)
  | 5 => ("ForgettingArchiveModel", "read", "[I", true)
  | 6 => ("ForgettingArchiveModel", "report", "[I", true)
  | 7 => ("ForgettingArchiveModel", "text", "[C", true)
  | 8 => ("ForgettingArchiveModel", "isReported", "Z", false)
  | 9 => ("ForgettingArchiveModel", "length", "I", false)
  | 10 => ("ForgettingArchiveModel", "states", "I", false)
  | 11 => ("ForgettingArchiveModel", "orders", "I", false)
  | _ => ("ForgettingArchiveModel", "at", "I", false)
def tyX7 : Nat → FieldType := fun k => match k with
  | 0 => .array .int
  | 1 => .array .int
  | 2 => .array .int
  | 3 => .array .int
  | 4 => .array .boolean
  | 5 => .array .int
  | 6 => .array .int
  | 7 => .array .char
  | 8 => .boolean
  | 9 => .int
  | 10 => .int
  | 11 => .int
  | _ => .int
theorem nmX7 : ∀ a, a < 13 → ∀ b, b < 13 → a ≠ b → (TX7 a).2.1 ≠ (TX7 b).2.1 := by decide +kernel
theorem tyX7_ok : ∀ k, k < 13 → parseFieldDescriptor (TX7 k).2.2.1 = some (tyX7 k) := by decide +kernel
abbrev cX7_init : ByteArray := prog_9_method_1_code
def yX7_init : MethodName := ⟨RX7, "<init>", "()V"⟩
abbrev cX7_in : ByteArray := prog_9_method_2_code
def yX7_in : MethodName := ⟨RX7, "in", "(III)Z"⟩
abbrev cX7_f : ByteArray := prog_9_method_3_code
def yX7_f : MethodName := ⟨RX7, "f", "(I)I"⟩
abbrev cX7_placeOf : ByteArray := prog_9_method_4_code
def yX7_placeOf : MethodName := ⟨RX7, "placeOf", "(I)I"⟩
abbrev cX7_hold : ByteArray := prog_9_method_5_code
def yX7_hold : MethodName := ⟨RX7, "hold", "()V"⟩
abbrev cX7_recorded : ByteArray := prog_9_method_6_code
def yX7_recorded : MethodName := ⟨RX7, "recorded", "(I)I"⟩
abbrev cX7_keepTrial : ByteArray := prog_9_method_7_code
def yX7_keepTrial : MethodName := ⟨RX7, "keepTrial", "()V"⟩
abbrev cX7_putBack : ByteArray := prog_9_method_8_code
def yX7_putBack : MethodName := ⟨RX7, "putBack", "()V"⟩
abbrev cX7_pages : ByteArray := prog_9_method_9_code
def yX7_pages : MethodName := ⟨RX7, "pages", "()I"⟩
abbrev cX7_due : ByteArray := prog_9_method_10_code
def yX7_due : MethodName := ⟨RX7, "due", "(I)I"⟩
abbrev cX7_holds : ByteArray := prog_9_method_11_code
def yX7_holds : MethodName := ⟨RX7, "holds", "(II)Z"⟩
abbrev cX7_sealing : ByteArray := prog_9_method_12_code
def yX7_sealing : MethodName := ⟨RX7, "sealing", "(I)I"⟩
abbrev cX7_bits : ByteArray := prog_9_method_13_code
def yX7_bits : MethodName := ⟨RX7, "bits", "(I)I"⟩
abbrev cX7_reservations : ByteArray := prog_9_method_14_code
def yX7_reservations : MethodName := ⟨RX7, "reservations", "(I)I"⟩
abbrev cX7_referring : ByteArray := prog_9_method_15_code
def yX7_referring : MethodName := ⟨RX7, "referring", "(I)I"⟩
abbrev cX7_ownReason : ByteArray := prog_9_method_16_code
def yX7_ownReason : MethodName := ⟨RX7, "ownReason", "(I)I"⟩
abbrev cX7_tellStaying : ByteArray := prog_9_method_17_code
def yX7_tellStaying : MethodName := ⟨RX7, "tellStaying", "()V"⟩
abbrev cX7_leaveTrace : ByteArray := prog_9_method_18_code
def yX7_leaveTrace : MethodName := ⟨RX7, "leaveTrace", "(I)V"⟩
abbrev cX7_burn : ByteArray := prog_9_method_19_code
def yX7_burn : MethodName := ⟨RX7, "burn", "(I)V"⟩
abbrev cX7_burning : ByteArray := prog_9_method_20_code
def yX7_burning : MethodName := ⟨RX7, "burning", "()I"⟩
abbrev cX7_asks : ByteArray := prog_9_method_21_code
def yX7_asks : MethodName := ⟨RX7, "asks", "(I)I"⟩
abbrev cX7_removeReservation : ByteArray := prog_9_method_22_code
def yX7_removeReservation : MethodName := ⟨RX7, "removeReservation", "(I)V"⟩
abbrev cX7_reserved : ByteArray := prog_9_method_23_code
def yX7_reserved : MethodName := ⟨RX7, "reserved", "()I"⟩
abbrev cX7_day : ByteArray := prog_9_method_24_code
def yX7_day : MethodName := ⟨RX7, "day", "()I"⟩
abbrev cX7_adds : ByteArray := prog_9_method_25_code
def yX7_adds : MethodName := ⟨RX7, "adds", "(II)I"⟩
abbrev cX7_asksFor : ByteArray := prog_9_method_26_code
def yX7_asksFor : MethodName := ⟨RX7, "asksFor", "(I)I"⟩
abbrev cX7_seals : ByteArray := prog_9_method_27_code
def yX7_seals : MethodName := ⟨RX7, "seals", "(III)I"⟩
abbrev cX7_lifts : ByteArray := prog_9_method_28_code
def yX7_lifts : MethodName := ⟨RX7, "lifts", "(II)I"⟩
abbrev cX7_refers : ByteArray := prog_9_method_29_code
def yX7_refers : MethodName := ⟨RX7, "refers", "(II)I"⟩
abbrev cX7_passes : ByteArray := prog_9_method_30_code
def yX7_passes : MethodName := ⟨RX7, "passes", "(I)I"⟩
abbrev cX7_add : ByteArray := prog_9_method_31_code
def yX7_add : MethodName := ⟨RX7, "add", "(II)I"⟩
abbrev cX7_ask : ByteArray := prog_9_method_32_code
def yX7_ask : MethodName := ⟨RX7, "ask", "(I)I"⟩
abbrev cX7_seal : ByteArray := prog_9_method_33_code
def yX7_seal : MethodName := ⟨RX7, "seal", "(III)I"⟩
abbrev cX7_lift : ByteArray := prog_9_method_34_code
def yX7_lift : MethodName := ⟨RX7, "lift", "(II)I"⟩
abbrev cX7_refer : ByteArray := prog_9_method_35_code
def yX7_refer : MethodName := ⟨RX7, "refer", "(II)I"⟩
abbrev cX7_find : ByteArray := prog_9_method_36_code
def yX7_find : MethodName := ⟨RX7, "find", "(II)I"⟩
abbrev cX7_reserve : ByteArray := prog_9_method_37_code
def yX7_reserve : MethodName := ⟨RX7, "reserve", "(II)I"⟩
abbrev cX7_cancel : ByteArray := prog_9_method_38_code
def yX7_cancel : MethodName := ⟨RX7, "cancel", "(II)I"⟩
abbrev cX7_pass : ByteArray := prog_9_method_39_code
def yX7_pass : MethodName := ⟨RX7, "pass", "(I)I"⟩
abbrev cX7_set : ByteArray := prog_9_method_40_code
def yX7_set : MethodName := ⟨RX7, "set", "(II)I"⟩
abbrev cX7_append : ByteArray := prog_9_method_41_code
def yX7_append : MethodName := ⟨RX7, "append", "(I)I"⟩
abbrev cX7_clearText : ByteArray := prog_9_method_42_code
def yX7_clearText : MethodName := ⟨RX7, "clearText", "()I"⟩
abbrev cX7_isSign : ByteArray := prog_9_method_43_code
def yX7_isSign : MethodName := ⟨RX7, "isSign", "(CC)Z"⟩
abbrev cX7_accepts : ByteArray := prog_9_method_44_code
def yX7_accepts : MethodName := ⟨RX7, "accepts", "(C)Z"⟩
abbrev cX7_number : ByteArray := prog_9_method_45_code
def yX7_number : MethodName := ⟨RX7, "number", "(III)Z"⟩
abbrev cX7_readsOrder : ByteArray := prog_9_method_46_code
def yX7_readsOrder : MethodName := ⟨RX7, "readsOrder", "()Z"⟩
abbrev cX7_faultOf : ByteArray := prog_9_method_47_code
def yX7_faultOf : MethodName := ⟨RX7, "faultOf", "()I"⟩
abbrev cX7_fault : ByteArray := prog_9_method_48_code
def yX7_fault : MethodName := ⟨RX7, "fault", "()I"⟩
abbrev cX7_does : ByteArray := prog_9_method_49_code
def yX7_does : MethodName := ⟨RX7, "does", "(I)I"⟩
abbrev cX7_run : ByteArray := prog_9_method_50_code
def yX7_run : MethodName := ⟨RX7, "run", "()I"⟩
abbrev cX7_why : ByteArray := prog_9_method_51_code
def yX7_why : MethodName := ⟨RX7, "why", "(I)I"⟩
abbrev cX7_undo : ByteArray := prog_9_method_52_code
def yX7_undo : MethodName := ⟨RX7, "undo", "()I"⟩
abbrev cX7_now : ByteArray := prog_9_method_53_code
def yX7_now : MethodName := ⟨RX7, "now", "()I"⟩
abbrev cX7_count : ByteArray := prog_9_method_54_code
def yX7_count : MethodName := ⟨RX7, "count", "(I)I"⟩
abbrev cX7_fileAt : ByteArray := prog_9_method_55_code
def yX7_fileAt : MethodName := ⟨RX7, "fileAt", "(I)I"⟩
abbrev cX7_file : ByteArray := prog_9_method_56_code
def yX7_file : MethodName := ⟨RX7, "file", "(II)I"⟩
abbrev cX7_sealOf : ByteArray := prog_9_method_57_code
def yX7_sealOf : MethodName := ⟨RX7, "sealOf", "(II)I"⟩
abbrev cX7_trace : ByteArray := prog_9_method_58_code
def yX7_trace : MethodName := ⟨RX7, "trace", "(II)I"⟩
abbrev cX7_ahead : ByteArray := prog_9_method_59_code
def yX7_ahead : MethodName := ⟨RX7, "ahead", "(I)I"⟩
abbrev cX7_reservation : ByteArray := prog_9_method_60_code
def yX7_reservation : MethodName := ⟨RX7, "reservation", "(II)I"⟩
abbrev cX7_setting : ByteArray := prog_9_method_61_code
def yX7_setting : MethodName := ⟨RX7, "setting", "(I)I"⟩
abbrev cX7_meanAge : ByteArray := prog_9_method_62_code
def yX7_meanAge : MethodName := ⟨RX7, "meanAge", "()F"⟩
abbrev cX7_stays : ByteArray := prog_9_method_63_code
def yX7_stays : MethodName := ⟨RX7, "stays", "(I)I"⟩
abbrev cX7_keeper : ByteArray := prog_9_method_64_code
def yX7_keeper : MethodName := ⟨RX7, "keeper", "(I)I"⟩
abbrev cX7_burntIn : ByteArray := prog_9_method_65_code
def yX7_burntIn : MethodName := ⟨RX7, "burntIn", "(I)I"⟩
abbrev cX7_ifPassed : ByteArray := prog_9_method_66_code
def yX7_ifPassed : MethodName := ⟨RX7, "ifPassed", "(II)I"⟩
def RJ6 : String := "java/lang/Integer"
def TJ6 : u_T := fun k => match k with
  | _ => ("", "", "", false)
def tyJ6 : Nat → FieldType := fun k => match k with
  | _ => .int
theorem nmJ6 : ∀ a, a < 0 → ∀ b, b < 0 → a ≠ b → (TJ6 a).2.1 ≠ (TJ6 b).2.1 := by decide +kernel
theorem tyJ6_ok : ∀ k, k < 0 → parseFieldDescriptor (TJ6 k).2.2.1 = some (tyJ6 k) := by decide +kernel
abbrev cJ6_bitCount_0f7a4 : ByteArray := prog_10_method_49_code
def yJ6_bitCount_0f7a4 : MethodName := ⟨RJ6, "bitCount", "(I)I"⟩
def RJ10 : String := "java/lang/System"
def TJ10 : u_T := fun k => match k with
  | _ => ("", "", "", false)
def tyJ10 : Nat → FieldType := fun k => match k with
  | _ => .int
theorem nmJ10 : ∀ a, a < 0 → ∀ b, b < 0 → a ≠ b → (TJ10 a).2.1 ≠ (TJ10 b).2.1 := by decide +kernel
theorem tyJ10_ok : ∀ k, k < 0 → parseFieldDescriptor (TJ10 k).2.2.1 = some (tyJ10 k) := by decide +kernel
def RJ7 : String := "java/util/Arrays"
def TJ7 : u_T := fun k => match k with
  | _ => ("", "", "", false)
def tyJ7 : Nat → FieldType := fun k => match k with
  | _ => .int
theorem nmJ7 : ∀ a, a < 0 → ∀ b, b < 0 → a ≠ b → (TJ7 a).2.1 ≠ (TJ7 b).2.1 := by decide +kernel
theorem tyJ7_ok : ∀ k, k < 0 → parseFieldDescriptor (TJ7 k).2.2.1 = some (tyJ7 k) := by decide +kernel
abbrev cJ7_fill_53178 : ByteArray := prog_12_method_103_code
def yJ7_fill_53178 : MethodName := ⟨RJ7, "fill", "([II)V"⟩
def RL : String := "ForgettingArchiveLaw"
abbrev cL_law : ByteArray := code
def yL_law : MethodName := ⟨RL, "law", "([I)Z"⟩
abbrev vwCl : List vw_C := [(RX0, TX0, 2), (RX1, TX1, 6), (RX2, TX2, 3), (RX3, TX3, 12), (RX4, TX4, 9), (RX5, TX5, 2), (RX6, TX6, 7), (RX7, TX7, 13)]
end
section
/-! THE FLAT MEMORY. All cells of the run stand at B, B+1, B+2 ..: the class's and the reference's, in the order in which they are made. A cell at the position k has a fixed shape fa_sh k: an array (type's place in fa_tys, length) or an object (class's place in vwCl); v k i: its ints by index, r k i: its references, as positions. -/
abbrev fa_V : Type := Nat → Nat → Int32
abbrev fa_R : Type := Nat → Nat → Option Nat
/-- constants of a run: classes' ids and slots; array classes' ids; B; the static arrays' addresses -/
abbrev fa_G : Type := va_G × (Nat → ClassId) × Nat × (Nat → Nat)
abbrev fa_D (G : fa_G) : va_G := G.1
abbrev fa_dA (G : fa_G) : Nat → ClassId := G.2.1
abbrev fa_B (G : fa_G) : Nat := G.2.2.1
abbrev fa_st (G : fa_G) : Nat → Nat := G.2.2.2
/-- which fields of a class hold references -/
def fa_ks : Nat → List Bool := fun c => match c with
  | 0 => [false, true]
  | 1 => [true, false, false, false, false, false]
  | 2 => [false, true, true]
  | 3 => [false, false, false, false, false, false, false, false, true, true, true, true]
  | 4 => [false, false, false, false, false, false, false, true, false]
  | 5 => [false, true]
  | 6 => [true, true, true, true, false, false, false]
  | _ => [true, true, true, true, true, true, true, true, false, false, false, false, false]
/-- the shape of the State at b by offset: 0 State, 1 files, 2 Reservations, 3 files, 4 days, 5 Traces, 6 cells, 7 settings, 8+2j StoredFile j, 9+2j its sealEnds -/
def fa_shS (o : Nat) : Nat × Nat ⊕ Nat := match o with
  | 0 => .inr 3
  | 1 => .inl (3, 24)
  | 2 => .inr 2
  | 3 => .inl (0, 8)
  | 4 => .inl (0, 8)
  | 5 => .inr 5
  | 6 => .inl (0, 60)
  | 7 => .inl (0, 7)
  | o + 8 => if o % 2 = 0 then .inr 4 else .inl (0, 8)
/-- 0 the archive; 1.. state; 57.. future; 113 History, 114 its states, 115+56i the i-th made; 395 OrderText, 396 its signs; 397 the reference, 398 s, 399 spare, 400 trial, 401 before, 402 stay, 403 read, 404 report, 405 text -/
def fa_sh (k : Nat) : Nat × Nat ⊕ Nat :=
  if k = 0 then .inr 6 else if k < 113 then fa_shS ((k - 1) % 56) else if k = 113 then .inr 0 else if k = 114 then .inl (4, 5)
  else if k < 395 then fa_shS ((k - 115) % 56) else match k with
  | 395 => .inr 1
  | 396 => .inl (1, 60)
  | 397 => .inr 7
  | 398 => .inl (0, 453)
  | 399 => .inl (0, 453)
  | 400 => .inl (0, 453)
  | 401 => .inl (0, 1812)
  | 402 => .inl (2, 24)
  | 403 => .inl (0, 124)
  | 404 => .inl (0, 3)
  | _ => .inl (1, 60)
def fa_tys (dA : Nat → ClassId) : List (ClassId × FieldType) := [(dA 0, .int), (dA 1, .char), (dA 2, .boolean), (dA 3, .object RX4), (dA 4, .object RX3)]
def fa_val (B : Nat) (isRef : Bool) (x : Int32) (q : Option Nat) : Value := if isRef then va_rf (q.map (fun j => B + j)) else .int x
def fa_fs (B : Nat) (ks : List Bool) (v : Nat → Int32) (r : Nat → Option Nat) : List Value := (List.range ks.length).map (fun i => fa_val B (ks.getD i false) (v i) (r i))
def fa_cell (G : fa_G) (sh : Nat × Nat ⊕ Nat) (v : Nat → Int32) (r : Nat → Option Nat) : va_E := match sh with
  | .inl (t, len) => .inl (fa_dA G t, len, if t < 3 then .inl v else .inr (.inr (.inr (.inr (fun i => (r i).map (fun j => fa_B G + j))))))
  | .inr ci => .inr (ci, fa_fs (fa_B G) (fa_ks ci) v r)
def fa_w (G : fa_G) (n : Nat) (v : fa_V) (r : fa_R) : va_W := (List.range n).map (fun k => (fa_B G + k, fa_cell G (fa_sh k) (v k) (r k)))
def fa_A (G : fa_G) : Nat → Prop := fun q => fa_B G ≤ q
/-- writing one place of a two-dimensional table -/
def fa_u {α : Type} (v : Nat → Nat → α) (k i : Nat) (x : α) : Nat → Nat → α := fun k' i' => if k' = k ∧ i' = i then x else v k' i'
theorem fa_u_s {α : Type} (v : Nat → Nat → α) (k i : Nat) (x : α) : fa_u v k i x k i = x := by simp [fa_u]
theorem fa_u_n {α : Type} (v : Nat → Nat → α) {k i k' i' : Nat} (x : α) (h : ¬ (k' = k ∧ i' = i)) : fa_u v k i x k' i' = v k' i' := by simp [fa_u, h]
theorem fa_u_k {α : Type} (v : Nat → Nat → α) {k i k' : Nat} (x : α) (h : k' ≠ k) : fa_u v k i x k' = v k' := by funext j; simp [fa_u, h]
theorem fa_u_row {α : Type} (v : Nat → Nat → α) (k i : Nat) (x : α) : fa_u v k i x k = fun j => if j = i then x else v k j := by funext j; simp [fa_u]
theorem fa_w_get {G : fa_G} {n k : Nat} {v : fa_V} {r : fa_R} (h : k < n) : (fa_w G n v r)[k]? = some (fa_B G + k, fa_cell G (fa_sh k) (v k) (r k)) := by
  simp [fa_w, h]
theorem fa_w_len {G : fa_G} {n : Nat} {v : fa_V} {r : fa_R} : (fa_w G n v r).length = n := by simp [fa_w]
theorem fa_w_set {G : fa_G} {n k : Nat} {v v1 : fa_V} {r r1 : fa_R} {e : va_E} (he : e = fa_cell G (fa_sh k) (v1 k) (r1 k)) (ho : ∀ j, j ≠ k → v1 j = v j ∧ r1 j = r j) : (fa_w G n v r).set k (fa_B G + k, e) = fa_w G n v1 r1 := by
  apply List.ext_getElem?
  intro j
  by_cases hj : j < n
  · by_cases hk : j = k
    · subst hk
      rw [List.getElem?_set_self (by rw [fa_w_len]; exact hj), fa_w_get hj, he]
    · rw [List.getElem?_set_ne (Ne.symm hk), fa_w_get hj, fa_w_get hj, (ho j hk).1, (ho j hk).2]
  · rw [List.getElem?_eq_none (by rw [List.length_set, fa_w_len]; omega), List.getElem?_eq_none (by rw [fa_w_len]; omega)]
theorem fa_w_inv {G : fa_G} {n k : Nat} {v : fa_V} {r : fa_R} {q : Nat × va_E} (h : (fa_w G n v r)[k]? = some q) : k < n ∧ q = (fa_B G + k, fa_cell G (fa_sh k) (v k) (r k)) := by
  have hk : k < n := by
    have := (List.getElem?_eq_some_iff.mp h).1
    rw [fa_w_len] at this
    exact this
  rw [fa_w_get hk] at h
  exact ⟨hk, (Option.some.inj h).symm⟩
theorem fa_w_D {G : fa_G} {n : Nat} {v : fa_V} {r : fa_R} : va_D (fa_A G) (fa_w G n v r) := by
  refine ⟨fun i j x y hx hy hxy => ?_, fun k q hk => ?_⟩
  · obtain ⟨-, rfl⟩ := fa_w_inv hx
    obtain ⟨-, rfl⟩ := fa_w_inv hy
    have : fa_B G + i = fa_B G + j := hxy
    omega
  · obtain ⟨-, rfl⟩ := fa_w_inv hk
    exact Nat.le_add_right _ _
theorem fa_fs_get {B : Nat} {ks : List Bool} {v : Nat → Int32} {r : Nat → Option Nat} {i : Nat} (h : i < ks.length) : (fa_fs B ks v r)[i]? = some (fa_val B (ks.getD i false) (v i) (r i)) := by
  simp [fa_fs, h]
theorem fa_fs_len {B : Nat} {ks : List Bool} {v : Nat → Int32} {r : Nat → Option Nat} : (fa_fs B ks v r).length = ks.length := by simp [fa_fs]
theorem fa_fs_set {B : Nat} {ks : List Bool} {v v1 : Nat → Int32} {r r1 : Nat → Option Nat} {i : Nat} {x : Value} (hx : x = fa_val B (ks.getD i false) (v1 i) (r1 i)) (ho : ∀ j, j ≠ i → v1 j = v j ∧ r1 j = r j) : (fa_fs B ks v r).set i x = fa_fs B ks v1 r1 := by
  apply List.ext_getElem?
  intro j
  by_cases hj : j < ks.length
  · by_cases hk : j = i
    · subst hk
      rw [List.getElem?_set_self (by rw [fa_fs_len]; exact hj), fa_fs_get hj, hx]
    · rw [List.getElem?_set_ne (Ne.symm hk), fa_fs_get hj, fa_fs_get hj, (ho j hk).1, (ho j hk).2]
  · rw [List.getElem?_eq_none (by rw [List.length_set, fa_fs_len]; omega), List.getElem?_eq_none (by rw [fa_fs_len]; omega)]
/-! THE WORDS: one list for all methods. -/
def fa_tbl : List Cond := lw_tbl.filter goodWord
theorem fa_tbl_sub : ∀ w ∈ fa_tbl, w ∈ lw_tbl := fun _ h => (List.mem_filter.mp h).1
theorem fa_in {w : Cond} (i : Nat) (h : tables_1[i]? = some w) (hg : goodWord w = true) : w ∈ fa_tbl := List.mem_filter.mpr ⟨List.mem_append_right _ (List.mem_of_getElem? h), hg⟩
theorem fa_inS {w : Cond} (i : Nat) (h : (k2_sels lw_privs)[i]? = some w) (hg : goodWord w = true) : w ∈ fa_tbl := List.mem_filter.mpr ⟨List.mem_append_left _ (List.mem_of_getElem? h), hg⟩
theorem fa_good {w : Cond} (h : w ∈ fa_tbl) : (w.onTables && w.keeps) = true ∨ ∃ ty, w = .arrayClass ty := good_of_word (List.mem_filter.mp h).2
theorem fa_goodIn {ws : List Cond} (h : ∀ w ∈ ws, w ∈ fa_tbl) : GoodIn fa_tbl ws := fun w hw => ⟨h w hw, fa_good (h w hw)⟩
/-- words of nest mates, and what else a state has that no method changes -/
def fa_nM : List (String × Nat × MethodName × String) := [(RX3, 19, yX2_init, RX6), (RX3, 26, yX5_init, RX6), (RX3, 35, yX4_init, RX6), (RX6, 28, yX1_init, RX6), (RX3, 98, yX6_isNoHolder, RX6), (RX3, 138, yX6_isNoSetting, RX6)]
def fa_nF : List (String × Nat × String × String × String × String) := [(RX3, 36, RX6, "FIRST_VALUES", "[I", RX6), (RX3, 141, RX6, "LOWEST_VALUES", "[I", RX6), (RX3, 144, RX6, "HIGHEST_VALUES", "[I", RX6)]
def fa_stN (j : Nat) : String := match j with
  | 0 => "FIRST_VALUES"
  | 1 => "LOWEST_VALUES"
  | _ => "HIGHEST_VALUES"
def fa_stV (j : Nat) (i : Nat) : Int32 := match j with
  | 0 => (match i with | 0 => 90 | 1 => 180 | 2 => 360 | 3 => 720 | 4 => 1440 | 5 => 3 | _ => 300)
  | 1 => (match i with | 5 => 1 | 6 => 50 | _ => 30)
  | _ => (match i with | 5 => 20 | 6 => 600 | _ => 2000)
def fa_Stat (G : fa_G) (U : State) (H : Heap) (j : Nat) : Prop := va_Z RX6 (fa_stN j) "[I" (.ref (fa_st G j)) (fa_A G) U H ∧ va_X (fa_st G j) 7 (fa_stV j) U H ∧ fa_st G j < fa_B G
def fa_Env (G : fa_G) (U : State) : Prop := va_K (fa_D G) vwCl (fa_tys (fa_dA G)) U ∧ (∀ q ∈ fa_nM, va_Nw (.methodLinkNest q.1 q.2.1 q.2.2.1 q.2.2.2) U) ∧ (∀ q ∈ fa_nF, va_Nw (.fieldLinkNest q.1 q.2.1 q.2.2.1 q.2.2.2.1 q.2.2.2.2.1 q.2.2.2.2.2) U) ∧ va_AO RX4 U ∧ va_AO RX3 U ∧ (∀ j, j < 3 → fa_Stat G U U.heap j) ∧ fa_B G ≤ U.heap.size
theorem fa_Env.moved {G : fa_G} {s U : State} {H : Heap} {locs : List Loc} (h : fa_Env G s) (hW : s.WarmedH U.vm) (hS : va_S (fa_A G) s.heap H locs) (hU : U.heap = H) : fa_Env G U := by
  obtain ⟨h1, h2, h3, h4, h5, h6, h7⟩ := h
  refine ⟨va_K.moved hW.alike h1, fun q hq => va_Nw.warmM hW (h2 q hq), fun q hq => va_Nw.warmF hW (h3 q hq), va_AO.moved hW.alike h4, va_AO.moved hW.alike h5, fun j hj => ?_, by rw [hU]; exact Nat.le_trans h7 hS.1⟩
  obtain ⟨z, x, b⟩ := h6 j hj
  have hk : ∀ a : Nat, a < s.heap.size → ¬ fa_A G a → U.heap[a]? = s.heap[a]? := fun a h1 h2 => by rw [hU]; exact hS.2.1 a h1 h2
  exact ⟨va_Z.moved hW.alike (z.kept hk), va_X.moved hW.alike (x.kept (hk _ (Nat.lt_of_lt_of_le b h7) (Nat.not_le.mpr b))), b⟩
theorem fa_Env.call {G : fa_G} {U : State} (h : fa_Env G U) (g : JFrame) (mk : MethodId) (a : Array Value) : fa_Env G (U.calling g mk a) := by
  obtain ⟨h1, h2, h3, h4, h5, h6, h7⟩ := h
  refine ⟨va_K.moved (u := U) (U := U.calling g mk a) (Vm.Alike.refl U.vm) h1, fun q hq => ?_, fun q hq => ?_, va_AO.moved (u := U) (U := U.calling g mk a) (Vm.Alike.refl U.vm) h4, va_AO.moved (u := U) (U := U.calling g mk a) (Vm.Alike.refl U.vm) h5, fun j hj => ?_, h7⟩
  · exact va_Nw.same rfl (u := U) (U := U.calling g mk a) rfl (h2 q hq)
  · exact va_Nw.same rfl (u := U) (U := U.calling g mk a) rfl (h3 q hq)
  · obtain ⟨z, x, b⟩ := h6 j hj
    exact ⟨va_Z.moved (u := U) (U := U.calling g mk a) (Vm.Alike.refl U.vm) z, va_X.moved (u := U) (U := U.calling g mk a) (Vm.Alike.refl U.vm) x, b⟩
end
section
def fa_Mem (G : fa_G) (n : Nat) (v : fa_V) (r : fa_R) (H : Heap) : Prop := va_P (fa_D G) vwCl (fa_w G n v r) H
def fa_Pre (G : fa_G) (n : Nat) (v : fa_V) (r : fa_R) (U : State) : Prop := fa_Mem G n v r U.heap ∧ fa_Env G U
/-- the memory in a walk -/
def fa_HX (G : fa_G) (n : Nat) (v : fa_V) (r : fa_R) (s : State) (H : Heap) (locs : List Loc) : Prop := fa_Mem G n v r H ∧ va_S (fa_A G) s.heap H locs
abbrev fa_CX (G : fa_G) (p : Program) (s : State) (m : MethodId) (args : Array Value) (c : Code) (cc : ByteArray) (nL : Nat) (own : String) : Prop := CallFix p m c cc nL s args fa_tbl own ∧ fa_Env G s
abbrev fa_rm (d : Nat) : Room := { frames := d, cells := 0, slots := 0, locals := 34 * d }
abbrev fa_ws (y : MethodName) (cc : ByteArray) (maxL : Nat) (ret : Option FieldType) : List Cond := Cond.code y cc maxL ret :: fa_tbl
/-- contracts: int (or boolean), void, reference -/
abbrev fa_MI (l : Launch) (G : fa_G) (n : Nat) (y : MethodName) (cc : ByteArray) (maxL : Nat) (ret : Option FieldType) (d : Nat) (av : List Value) (v : fa_V) (r : fa_R) (post : Int32 → fa_V × fa_R → Prop) : Prop :=
  Met l y (fa_ws y cc maxL ret) (fa_rm d) (va_Pc av (fa_Pre G n v r)) (va_Qi post (fun (w : fa_V × fa_R) t => fa_Mem G n w.1 w.2 t.heap) (fa_A G)) 0 0 (fa_A G)
abbrev fa_MV (l : Launch) (G : fa_G) (n : Nat) (y : MethodName) (cc : ByteArray) (maxL : Nat) (d : Nat) (av : List Value) (v : fa_V) (r : fa_R) (post : fa_V × fa_R → Prop) : Prop :=
  Met l y (fa_ws y cc maxL none) (fa_rm d) (va_Pc av (fa_Pre G n v r)) (va_Qv post (fun (w : fa_V × fa_R) t => fa_Mem G n w.1 w.2 t.heap) (fa_A G)) 0 0 (fa_A G)
abbrev fa_MR (l : Launch) (G : fa_G) (n : Nat) (y : MethodName) (cc : ByteArray) (maxL : Nat) (ret : Option FieldType) (d : Nat) (av : List Value) (v : fa_V) (r : fa_R) (post : Option Nat → fa_V × fa_R → Prop) : Prop :=
  Met l y (fa_ws y cc maxL ret) (fa_rm d) (va_Pc av (fa_Pre G n v r)) (va_Qe (fun j => fa_B G + j) post (fun (w : fa_V × fa_R) t => fa_Mem G n w.1 w.2 t.heap) (fa_A G)) 0 0 (fa_A G)
abbrev fa_MF (l : Launch) (G : fa_G) (n : Nat) (y : MethodName) (cc : ByteArray) (maxL : Nat) (d : Nat) (av : List Value) (v : fa_V) (r : fa_R) (post : UInt32 → fa_V × fa_R → Prop) : Prop :=
  Met l y (fa_ws y cc maxL (some .float)) (fa_rm d) (va_Pc av (fa_Pre G n v r)) (va_Qf post (fun (w : fa_V × fa_R) t => fa_Mem G n w.1 w.2 t.heap) (fa_A G)) 0 0 (fa_A G)
/-- a constructor's: mc cells, ms slots are made -/
abbrev fa_MN (l : Launch) (G : fa_G) (n : Nat) (y : MethodName) (cc : ByteArray) (maxL : Nat) (d mc ms : Nat) (av : List Value) (v : fa_V) (r : fa_R) (post : fa_V × fa_R → Prop) : Prop :=
  Met l y (fa_ws y cc maxL none) ({ frames := d, cells := mc, slots := ms, locals := 34 * d }) (va_Pc av (fun U => fa_Pre G n v r U ∧ U.heap.size = fa_B G + n)) (va_Qv post (fun (w : fa_V × fa_R) t => fa_Mem G (n + mc) w.1 w.2 t.heap) (fa_A G)) mc ms (fa_A G)
/-- what links a field -/
def fa_fld (own : String) (index ci i : Nat) (ty : FieldType) (fin : Bool) : Prop := ∃ (C : String) (T : u_T) (N : Nat) (ty0 : Nat → FieldType), vwCl[ci]? = some (C, T, N) ∧ (∀ w ∈ u_ws C T N, w ∈ fa_tbl) ∧ (∀ k, k < N → parseFieldDescriptor (T k).2.2.1 = some (ty0 k)) ∧ (∀ a, a < N → ∀ b, b < N → a ≠ b → (T a).2.1 ≠ (T b).2.1) ∧ i < N ∧ N = (fa_ks ci).length ∧ Cond.fieldLink own index C (T i).2.1 (T i).2.2.1 ∈ fa_tbl ∧ (T i).1 = C ∧ (T i).2.2.2 = fin ∧ ty0 i = ty
/-- what links a call of an object's method -/
def fa_lnV (own : String) (index : Nat) (C : String) (y : MethodName) (bytes : ByteArray) (maxL : Nat) (ret : Option FieldType) (na : Nat) : Prop :=
  Cond.methodLink own index y ∈ fa_tbl ∧ Cond.instanceMethod y ∈ fa_tbl ∧ Cond.selects C y y ∈ fa_tbl ∧ Cond.initialized C ∈ fa_tbl ∧ Cond.code y bytes maxL ret ∈ fa_tbl ∧ (y.cls = C ∧ y.cls ≠ "java/lang/invoke/MethodHandle" ∧ y.cls ≠ "java/lang/invoke/VarHandle" ∧ (parseMethodDescriptor y.desc).map (fun d => d.parameters.length) = some na)
def fa_lnS (own : String) (index : Nat) (y : MethodName) (bytes : ByteArray) (maxL : Nat) (ret : Option FieldType) (na : Nat) : Prop :=
  Cond.methodLink own index y ∈ fa_tbl ∧ Cond.static y ∈ fa_tbl ∧ Cond.initialized y.cls ∈ fa_tbl ∧ Cond.code y bytes maxL ret ∈ fa_tbl ∧ (y.cls ≠ "java/lang/invoke/MethodHandle" ∧ y.cls ≠ "java/lang/invoke/VarHandle" ∧ (parseMethodDescriptor y.desc).map (fun d => d.parameters.length) = some na)
section FAR
variable {p : Program} {l : Launch} {e : Env} {R : Room} {s : State} {m : MethodId} {args : Array Value} {below : List Frame} {meth : Method} {c : Code} {H : Heap} {locs : List Loc} {cells slots : Nat} {Q : State → Prop}
variable {G : fa_G} {n : Nat} {v : fa_V} {r : fa_R} {cc : ByteArray} {nL : Nat} {own : String} {pc : Nat} {ls : Array Slot} {rest : List Value}
/-- a method's start -/
theorem fa_start {y : MethodName} {cc : ByteArray} {maxL : Nat} {ret : Option FieldType} {rm : Room} {av : List Value} {Pc : State → Prop} {Qc : Array Value → State → Outcome → State → Prop} {mc ms : Nat} {free : Addr → Prop} (hy : plainName y.cls = true) (hlen : (lg_sl av).length ≤ maxL) (hPc : ∀ U, Pc U → fa_Pre G n v r U)
    (body : ∀ (p : Program) (e : Env) (s : State) (m : MethodId) (below : List Frame) (meth : Method) (c : Code) (ls : Array Slot), Pc s → fa_CX G p s m av.toArray c cc maxL y.cls → meth.sig.returnType = ret → meth.locks = false → meth.name = y.name → lv_has ls maxL (lv_args 0 av) → fa_HX G n v r s s.heap [] →
      W p l e rm s m av.toArray below meth c s.heap [] 0 0 (MQ below Qc av.toArray s mc ms free) (F0 m 0 ls [])) : Met l y (fa_ws y cc maxL ret) rm (va_Pc av Pc) Qc mc ms free := by
  refine Met.ofW (cc := cc) (maxL := maxL) (ret := ret) hy rfl ?_
  intro p e s m args below meth c s₁ B hml hv
  obtain ⟨rfl, hP⟩ := hv
  have hts : ∀ w ∈ fa_tbl, w.before av.toArray s = true := fun w hw => atoms_spec (ws := fa_ws y cc maxL ret) B.pre w (List.mem_cons_of_mem _ hw)
  have hl := lv_entry av (n := maxL) hlen
  rw [lg_entry_eq]
  generalize (lg_sl av ++ List.replicate (maxL - (lg_sl av).length) Slot.unset).toArray = ls at hl ⊢
  exact body p e s m below meth c ls hP ⟨⟨B.exec, B.bytes, hml, findClass_of_methodNamed B.named, hts⟩, (hPc s hP).2⟩ B.returns B.notSynchronized (name_of_methodNamed B.named B.method).1 hl ⟨(hPc s hP).1, va_S.rf⟩
theorem fa_blind (av : List Value) : FrameBlind (va_Pc av (fa_Pre G n v r)) := fun a U g mk q => ⟨q.1, q.2.1, q.2.2.call g mk a⟩
theorem fa_blindN (av : List Value) : FrameBlind (va_Pc av (fun U => fa_Pre G n v r U ∧ U.heap.size = fa_B G + n)) := fun a U g mk q => ⟨q.1, ⟨q.2.1.1, q.2.1.2.call g mk a⟩, q.2.2⟩
theorem fa_recv {k ci : Nat} {C : String} {T : u_T} {N : Nat} (E : fa_Env G s) (HX : fa_HX G n v r s H locs) (hk : k < n) (hsh : fa_sh k = .inr ci) (hc : vwCl[ci]? = some (C, T, N)) : ∃ cell : Cell, H[fa_B G + k]? = some cell ∧ cell.vm.isStatics = false ∧ s.vm.findClass C = some cell.cls := by
  have h := fa_w_get (G := G) (n := n) (v := v) (r := r) hk
  rw [hsh] at h
  exact va_recv E.1 HX.1 hc h
/-- reading a field -/
theorem fa_get {index ci i k : Nat} {ty : FieldType} {fin : Bool} (CX : fa_CX G p s m args c cc nL own) (HX : fa_HX G n v r s H locs) (F : fa_fld own index ci i ty fin) (hk : k < n) (hsh : fa_sh k = .inr ci) (hdg : decode cc pc = .ok (.getfield index, 3))
    (kk : W p l e R s m args below meth c H locs cells slots Q (F0 m (pc + 3) ls (fa_val (fa_B G) ((fa_ks ci).getD i false) (v k i) (r k i) :: rest))) : W p l e R s m args below meth c H locs cells slots Q (F0 m pc ls (.ref (fa_B G + k) :: rest)) := by
  obtain ⟨⟨hx, hb, -, hown, hts⟩, hE⟩ := CX
  obtain ⟨C, T, N, ty0, hc, hin, -, -, hi, hN, hl, hC, -, -⟩ := F
  have h := fa_w_get (G := G) (n := n) (v := v) (r := r) hk
  rw [hsh] at h
  exact va_get hx hb hts hin hown hE.1 HX.1 k h hc i hi (hts _ hl) (fun x hx => by rw [hC] at hx; exact hx) (fa_fs_get (by omega)) hdg kk
theorem fa_geti {index ci i k : Nat} {ty : FieldType} {fin : Bool} (CX : fa_CX G p s m args c cc nL own) (HX : fa_HX G n v r s H locs) (F : fa_fld own index ci i ty fin) (hk : k < n) (hsh : fa_sh k = .inr ci) (hks : (fa_ks ci).getD i false = false) (hdg : decode cc pc = .ok (.getfield index, 3))
    (kk : W p l e R s m args below meth c H locs cells slots Q (F0 m (pc + 3) ls (.int (v k i) :: rest))) : W p l e R s m args below meth c H locs cells slots Q (F0 m pc ls (.ref (fa_B G + k) :: rest)) := fa_get CX HX F hk hsh hdg (by rw [hks]; exact kk)
theorem fa_getr {index ci i k j : Nat} {ty : FieldType} {fin : Bool} (CX : fa_CX G p s m args c cc nL own) (HX : fa_HX G n v r s H locs) (F : fa_fld own index ci i ty fin) (hk : k < n) (hsh : fa_sh k = .inr ci) (hks : (fa_ks ci).getD i false = true) (hj : r k i = some j) (hdg : decode cc pc = .ok (.getfield index, 3))
    (kk : W p l e R s m args below meth c H locs cells slots Q (F0 m (pc + 3) ls (.ref (fa_B G + j) :: rest))) : W p l e R s m args below meth c H locs cells slots Q (F0 m pc ls (.ref (fa_B G + k) :: rest)) := fa_get CX HX F hk hsh hdg (by rw [hks, hj]; exact kk)
/-- writing an int field -/
theorem fa_puti {index ci i k : Nat} {ty : FieldType} {x : Int32} (CX : fa_CX G p s m args c cc nL own) (HX : fa_HX G n v r s H locs) (F : fa_fld own index ci i ty false) (hk : k < n) (hsh : fa_sh k = .inr ci) (hks : (fa_ks ci).getD i false = false) (hn : narrow ty (.int x) = .int x) (hfit : fits ty (.int x) = true) (hdg : decode cc pc = .ok (.putfield index, 3))
    (kk : ∀ (H1 : Heap) (locs1 : List Loc) (v1 : fa_V), v1 = fa_u v k i x → fa_HX G n v1 r s H1 locs1 → W p l e R s m args below meth c H1 locs1 cells slots Q (F0 m (pc + 3) ls rest)) : W p l e R s m args below meth c H locs cells slots Q (F0 m pc ls (.int x :: .ref (fa_B G + k) :: rest)) := by
  obtain ⟨⟨hx, hb, -, hown, hts⟩, hE⟩ := CX
  obtain ⟨C, T, N, ty0, hc, hin, hty, hnm, hi, hN, hl, hC, hfin, rfl⟩ := F
  have h := fa_w_get (G := G) (n := n) (v := v) (r := r) hk
  rw [hsh] at h
  refine va_put hx hb hts hin ty0 hty hnm hown hE.1 HX.1 fa_w_D HX.2 k h hc i hi (hts _ hl) (fun x hx => by rw [hC] at hx; exact hx) hfin (hty i hi) hn hfit (by rw [fa_fs_len]; omega) hdg (fun H1 locs1 hP hD hS => ?_)
  have e := fa_w_set (G := G) (n := n) (k := k) (v := v) (v1 := fa_u v k i x) (r := r) (r1 := r) (e := .inr (ci, (fa_fs (fa_B G) (fa_ks ci) (v k) (r k)).set i (.int x)))
    (by rw [hsh]; show _ = Sum.inr _; rw [fa_fs_set (v1 := fa_u v k i x k) (r1 := r k) (by rw [hks]; simp [fa_val, fa_u_s]) (fun j hj => ⟨fa_u_n _ _ (fun q => hj q.2), rfl⟩)]) (fun j hj => ⟨fa_u_k _ _ hj, rfl⟩)
  rw [e] at hP
  exact kk H1 locs1 _ rfl ⟨hP, hS⟩
theorem fa_ix {j len : Nat} (hj : j < len) (hlen : len < 2 ^ 31) : vp_in (nI j) len := vp_in_nI hj hlen
theorem fa_w_arr {k t len : Nat} (hk : k < n) (hsh : fa_sh k = .inl (t, len)) (ht : t < 3) : (fa_w G n v r)[k]? = some (fa_B G + k, .inl (fa_dA G t, len, .inl (v k))) := by
  rw [fa_w_get hk, hsh]
  simp [fa_cell, ht]
theorem fa_w_arrq {k t len : Nat} (hk : k < n) (hsh : fa_sh k = .inl (t, len)) (ht : ¬ t < 3) : (fa_w G n v r)[k]? = some (fa_B G + k, .inl (fa_dA G t, len, .inr (.inr (.inr (.inr (fun i => (r k i).map (fun j => fa_B G + j))))))) := by
  rw [fa_w_get hk, hsh]
  simp [fa_cell, ht]
theorem fa_w_arrset {k t len j : Nat} {x : Int32} (hsh : fa_sh k = .inl (t, len)) (ht : t < 3) : (fa_w G n v r).set k (fa_B G + k, .inl (fa_dA G t, len, .inl (upd (v k) j x))) = fa_w G n (fa_u v k j x) r := by
  refine fa_w_set ?_ (fun i hi => ⟨fa_u_k _ _ hi, rfl⟩)
  rw [hsh]
  simp only [fa_cell, ht, if_true]
  congr 4
  funext i
  by_cases hi : i = j
  · subst hi; simp [upd, fa_u_s]
  · simp [upd, hi, fa_u]
theorem fa_w_arrqset {k t len j q : Nat} (hsh : fa_sh k = .inl (t, len)) (ht : ¬ t < 3) : (fa_w G n v r).set k (fa_B G + k, .inl (fa_dA G t, len, .inr (.inr (.inr (.inr (va_up (fun i => (r k i).map (fun j => fa_B G + j)) j (some (fa_B G + q)))))))) = fa_w G n v (fa_u r k j (some q)) := by
  refine fa_w_set ?_ (fun i hi => ⟨rfl, fa_u_k _ _ hi⟩)
  rw [hsh]
  simp only [fa_cell, ht, if_false]
  congr 7
  funext i
  by_cases hi : i = j
  · subst hi; simp [va_up, fa_u_s]
  · simp [va_up, hi, fa_u]
theorem fa_iald {k len j : Nat} (CX : fa_CX G p s m args c cc nL own) (HX : fa_HX G n v r s H locs) (hk : k < n) (hsh : fa_sh k = .inl (0, len)) (hj : j < len) (hlen : len < 2 ^ 31) (hdg : decode cc pc = .ok (.iaload, 1))
    (kk : W p l e R s m args below meth c H locs cells slots Q (F0 m (pc + 1) ls (.int (v k j) :: rest))) : W p l e R s m args below meth c H locs cells slots Q (F0 m pc ls (.int (nI j) :: .ref (fa_B G + k) :: rest)) :=
  va_iald CX.1.1 CX.1.2.1 CX.2.1 HX.1 k 0 (fa_w_arr hk hsh (by decide)) rfl (fa_ix hj hlen) hdg (by rw [nI_clamp (by omega)]; exact kk)
theorem fa_cald {k len j : Nat} (CX : fa_CX G p s m args c cc nL own) (HX : fa_HX G n v r s H locs) (hk : k < n) (hsh : fa_sh k = .inl (1, len)) (hj : j < len) (hlen : len < 2 ^ 31) (hdg : decode cc pc = .ok (.caload, 1))
    (kk : W p l e R s m args below meth c H locs cells slots Q (F0 m (pc + 1) ls (.int (v k j) :: rest))) : W p l e R s m args below meth c H locs cells slots Q (F0 m pc ls (.int (nI j) :: .ref (fa_B G + k) :: rest)) :=
  va_cald CX.1.1 CX.1.2.1 CX.2.1 HX.1 k 1 (fa_w_arr hk hsh (by decide)) rfl (fa_ix hj hlen) hdg (by rw [nI_clamp (by omega)]; exact kk)
theorem fa_zald {k len j : Nat} (CX : fa_CX G p s m args c cc nL own) (HX : fa_HX G n v r s H locs) (hk : k < n) (hsh : fa_sh k = .inl (2, len)) (hj : j < len) (hlen : len < 2 ^ 31) (hdg : decode cc pc = .ok (.baload, 1))
    (kk : W p l e R s m args below meth c H locs cells slots Q (F0 m (pc + 1) ls (.int (v k j) :: rest))) : W p l e R s m args below meth c H locs cells slots Q (F0 m pc ls (.int (nI j) :: .ref (fa_B G + k) :: rest)) :=
  va_zald CX.1.1 CX.1.2.1 CX.2.1 HX.1 k 2 (fa_w_arr hk hsh (by decide)) rfl (fa_ix hj hlen) hdg (by rw [nI_clamp (by omega)]; exact kk)
theorem fa_iast {k len j : Nat} {x : Int32} (CX : fa_CX G p s m args c cc nL own) (HX : fa_HX G n v r s H locs) (hk : k < n) (hsh : fa_sh k = .inl (0, len)) (hj : j < len) (hlen : len < 2 ^ 31) (hdg : decode cc pc = .ok (.iastore, 1))
    (kk : ∀ (H1 : Heap) (locs1 : List Loc) (v1 : fa_V), v1 = fa_u v k j x → fa_HX G n v1 r s H1 locs1 → W p l e R s m args below meth c H1 locs1 cells slots Q (F0 m (pc + 1) ls rest)) : W p l e R s m args below meth c H locs cells slots Q (F0 m pc ls (.int x :: .int (nI j) :: .ref (fa_B G + k) :: rest)) :=
  va_iast CX.1.1 CX.1.2.1 CX.2.1 HX.1 fa_w_D HX.2 k 0 (fa_w_arr hk hsh (by decide)) rfl (fa_ix hj hlen) hdg (fun H1 locs1 hP _ hS => by
    rw [nI_clamp (by omega), fa_w_arrset hsh (by decide)] at hP
    exact kk H1 locs1 _ rfl ⟨hP, hS⟩)
theorem fa_cast {k len j : Nat} {x : Int32} (CX : fa_CX G p s m args c cc nL own) (HX : fa_HX G n v r s H locs) (hk : k < n) (hsh : fa_sh k = .inl (1, len)) (hj : j < len) (hlen : len < 2 ^ 31) (hdg : decode cc pc = .ok (.castore, 1))
    (kk : ∀ (H1 : Heap) (locs1 : List Loc) (v1 : fa_V), v1 = fa_u v k j (vp_nar .char x) → fa_HX G n v1 r s H1 locs1 → W p l e R s m args below meth c H1 locs1 cells slots Q (F0 m (pc + 1) ls rest)) : W p l e R s m args below meth c H locs cells slots Q (F0 m pc ls (.int x :: .int (nI j) :: .ref (fa_B G + k) :: rest)) :=
  va_cast CX.1.1 CX.1.2.1 CX.2.1 HX.1 fa_w_D HX.2 k 1 (fa_w_arr hk hsh (by decide)) rfl (fa_ix hj hlen) hdg (fun H1 locs1 hP _ hS => by
    rw [nI_clamp (by omega), fa_w_arrset hsh (by decide)] at hP
    exact kk H1 locs1 _ rfl ⟨hP, hS⟩)
theorem fa_zast {k len j : Nat} {x : Int32} (CX : fa_CX G p s m args c cc nL own) (HX : fa_HX G n v r s H locs) (hk : k < n) (hsh : fa_sh k = .inl (2, len)) (hj : j < len) (hlen : len < 2 ^ 31) (hdg : decode cc pc = .ok (.bastore, 1))
    (kk : ∀ (H1 : Heap) (locs1 : List Loc) (v1 : fa_V), v1 = fa_u v k j (vp_nar .boolean x) → fa_HX G n v1 r s H1 locs1 → W p l e R s m args below meth c H1 locs1 cells slots Q (F0 m (pc + 1) ls rest)) : W p l e R s m args below meth c H locs cells slots Q (F0 m pc ls (.int x :: .int (nI j) :: .ref (fa_B G + k) :: rest)) :=
  va_zast CX.1.1 CX.1.2.1 CX.2.1 HX.1 fa_w_D HX.2 k 2 (fa_w_arr hk hsh (by decide)) rfl (fa_ix hj hlen) hdg (fun H1 locs1 hP _ hS => by
    rw [nI_clamp (by omega), fa_w_arrset hsh (by decide)] at hP
    exact kk H1 locs1 _ rfl ⟨hP, hS⟩)
/-- reading a reference out of an array; t0: 3 StoredFile[], 4 State[] -/
theorem fa_aald {t k len j q : Nat} {C : String} (CX : fa_CX G p s m args c cc nL own) (HX : fa_HX G n v r s H locs) (hk : k < n) (hsh : fa_sh k = .inl (t, len)) (ht : (fa_tys (fa_dA G))[t]? = some (fa_dA G t, .object C)) (ht3 : ¬ t < 3) (hj : j < len) (hlen : len < 2 ^ 31) (hq : r k j = some q) (hdg : decode cc pc = .ok (.aaload, 1))
    (kk : W p l e R s m args below meth c H locs cells slots Q (F0 m (pc + 1) ls (.ref (fa_B G + q) :: rest))) : W p l e R s m args below meth c H locs cells slots Q (F0 m pc ls (.int (nI j) :: .ref (fa_B G + k) :: rest)) :=
  va_aldq CX.1.1 CX.1.2.1 CX.2.1 HX.1 k t (fa_w_arrq hk hsh ht3) ht (fa_ix hj hlen) hdg (by rw [nI_clamp (by omega), hq]; exact kk)
theorem fa_aast {t k len j q ci : Nat} {rc : vw_C} (CX : fa_CX G p s m args c cc nL own) (HX : fa_HX G n v r s H locs) (hk : k < n) (hsh : fa_sh k = .inl (t, len)) (ht : (fa_tys (fa_dA G))[t]? = some (fa_dA G t, .object rc.1)) (ht3 : ¬ t < 3) (hj : j < len) (hlen : len < 2 ^ 31) (hq : q < n) (hshq : fa_sh q = .inr ci) (hc : vwCl[ci]? = some rc) (hdg : decode cc pc = .ok (.aastore, 1))
    (kk : ∀ (H1 : Heap) (locs1 : List Loc) (r1 : fa_R), r1 = fa_u r k j (some q) → fa_HX G n v r1 s H1 locs1 → W p l e R s m args below meth c H1 locs1 cells slots Q (F0 m (pc + 1) ls rest)) : W p l e R s m args below meth c H locs cells slots Q (F0 m pc ls (.ref (fa_B G + q) :: .int (nI j) :: .ref (fa_B G + k) :: rest)) :=
  va_astq CX.1.1 CX.1.2.1 CX.2.1 HX.1 fa_w_D HX.2 k t q ci (fa_w_arrq hk hsh ht3) ht (by have h := fa_w_get (G := G) (v := v) (r := r) hq; rw [hshq] at h; exact h) hc (fa_ix hj hlen) hdg (fun H1 locs1 hP _ hS => by
    rw [nI_clamp (by omega), fa_w_arrqset hsh ht3] at hP
    exact kk H1 locs1 _ rfl ⟨hP, hS⟩)
/-- the ends -/
theorem fa_iret {post : Int32 → fa_V × fa_R → Prop} {x : Int32} (CX : fa_CX G p s m args c cc nL own) (HX : fa_HX G n v r s H locs) (hr : meth.sig.returnType = some .int) (hlk : meth.locks = false) (hdg : decode cc pc = .ok (.ireturn, 1)) (h : post x (v, r)) :
    W p l e R s m args below meth c H locs cells slots (MQ below (va_Qi post (fun (w : fa_V × fa_R) t => fa_Mem G n w.1 w.2 t.heap) (fa_A G)) args s cells slots (fa_A G)) (F0 m pc ls [.int x]) :=
  W.iret CX.1.1 CX.1.2.1 hr (fun t ht _ => ⟨⟨x, (v, r), rfl, h, by show fa_Mem G n v r t.heap; rw [ht]; exact HX.1⟩, HX.2.F ht⟩) HX.2.2.2 hdg hlk
theorem fa_zret {post : Int32 → fa_V × fa_R → Prop} {x : Int32} (CX : fa_CX G p s m args c cc nL own) (HX : fa_HX G n v r s H locs) (hr : meth.sig.returnType = some .boolean) (hlk : meth.locks = false) (hdg : decode cc pc = .ok (.ireturn, 1)) (hn : narrow .boolean (.int x) = .int x) (h : post x (v, r)) :
    W p l e R s m args below meth c H locs cells slots (MQ below (va_Qi post (fun (w : fa_V × fa_R) t => fa_Mem G n w.1 w.2 t.heap) (fa_A G)) args s cells slots (fa_A G)) (F0 m pc ls [.int x]) :=
  W.zret CX.1.1 CX.1.2.1 hr hn (fun t ht _ => ⟨⟨x, (v, r), rfl, h, by show fa_Mem G n v r t.heap; rw [ht]; exact HX.1⟩, HX.2.F ht⟩) HX.2.2.2 hdg hlk
theorem fa_cret {post : Int32 → fa_V × fa_R → Prop} {x : Int32} (CX : fa_CX G p s m args c cc nL own) (HX : fa_HX G n v r s H locs) (hr : meth.sig.returnType = some .char) (hlk : meth.locks = false) (hdg : decode cc pc = .ok (.ireturn, 1)) (hn : narrow .char (.int x) = .int x) (h : post x (v, r)) :
    W p l e R s m args below meth c H locs cells slots (MQ below (va_Qi post (fun (w : fa_V × fa_R) t => fa_Mem G n w.1 w.2 t.heap) (fa_A G)) args s cells slots (fa_A G)) (F0 m pc ls [.int x]) :=
  W.zret CX.1.1 CX.1.2.1 hr hn (fun t ht _ => ⟨⟨x, (v, r), rfl, h, by show fa_Mem G n v r t.heap; rw [ht]; exact HX.1⟩, HX.2.F ht⟩) HX.2.2.2 hdg hlk
theorem fa_vret {post : fa_V × fa_R → Prop} (CX : fa_CX G p s m args c cc nL own) (HX : fa_HX G n v r s H locs) (hr : meth.sig.returnType = none) (hlk : meth.locks = false) (hdg : decode cc pc = .ok (.return_, 1)) (h : post (v, r)) :
    W p l e R s m args below meth c H locs cells slots (MQ below (va_Qv post (fun (w : fa_V × fa_R) t => fa_Mem G n w.1 w.2 t.heap) (fa_A G)) args s cells slots (fa_A G)) (F0 m pc ls []) :=
  W.vret CX.1.1 CX.1.2.1 hr (fun t ht _ => ⟨⟨(v, r), rfl, h, by show fa_Mem G n v r t.heap; rw [ht]; exact HX.1⟩, HX.2.F ht⟩) HX.2.2.2 hdg hlk
theorem fa_fret {post : UInt32 → fa_V × fa_R → Prop} {x : UInt32} (CX : fa_CX G p s m args c cc nL own) (HX : fa_HX G n v r s H locs) (hr : meth.sig.returnType = some .float) (hlk : meth.locks = false) (hdg : decode cc pc = .ok (.freturn, 1)) (h : post x (v, r)) :
    W p l e R s m args below meth c H locs cells slots (MQ below (va_Qf post (fun (w : fa_V × fa_R) t => fa_Mem G n w.1 w.2 t.heap) (fa_A G)) args s cells slots (fa_A G)) (F0 m pc ls [.float x]) :=
  W.fret CX.1.1 CX.1.2.1 hr (fun t ht _ => ⟨⟨x, (v, r), rfl, h, by show fa_Mem G n v r t.heap; rw [ht]; exact HX.1⟩, HX.2.F ht⟩) HX.2.2.2 hdg hlk
/-- a reference: none is null, some j the cell at j -/
theorem fa_aret {post : Option Nat → fa_V × fa_R → Prop} {x : Option Nat} {C : String} {y : Value} (CX : fa_CX G p s m args c cc nL own) (HX : fa_HX G n v r s H locs) (hr : meth.sig.returnType = some (.object C)) (hlk : meth.locks = false) (hdg : decode cc pc = .ok (.areturn, 1)) (hy : y = va_re (fun j => fa_B G + j) x) (h : post x (v, r)) :
    W p l e R s m args below meth c H locs cells slots (MQ below (va_Qe (fun j => fa_B G + j) post (fun (w : fa_V × fa_R) t => fa_Mem G n w.1 w.2 t.heap) (fa_A G)) args s cells slots (fa_A G)) (F0 m pc ls [y]) := by
  subst hy
  exact W.aret CX.1.1 CX.1.2.1 hr (Or.inl ⟨C, rfl⟩) (va_re_or _ _) (fun t ht _ => ⟨⟨x, (v, r), rfl, h, by show fa_Mem G n v r t.heap; rw [ht]; exact HX.1⟩, HX.2.F ht⟩) HX.2.2.2 hdg hlk
/-! CALLS -/
section CALLS
variable {index k ci : Nat} {C : String} {T : u_T} {N : Nat} {y : MethodName} {bytes : ByteArray} {maxL na d : Nat} {ret : Option FieldType} {As st0 : List Value}
theorem fa_lnV.good (h : fa_lnV own index C y bytes maxL ret na) : GoodIn fa_tbl (wsV own index C y (fa_ws y bytes maxL ret)) := fa_goodIn (fun w hw => by
  obtain ⟨h1, h2, h3, h4, h5, -⟩ := h
  simp only [wsV, List.cons_append, List.nil_append, List.mem_cons] at hw
  rcases hw with rfl | rfl | rfl | rfl | rfl | hw
  · exact h1
  · exact h2
  · exact h3
  · exact h4
  · exact h5
  · exact hw)
theorem fa_runV {Qc : Array Value → State → Outcome → State → Prop} (CX : fa_CX G p s m args c cc nL own) (HX : fa_HX G n v r s H locs) (hM : Met l y (fa_ws y bytes maxL ret) (fa_rm d) (va_Pc (.ref (fa_B G + k) :: As) (fa_Pre G n v r)) Qc 0 0 (fa_A G)) (hl : fa_lnV own index C y bytes maxL ret na)
    (hk : k < n) (hsh : fa_sh k = .inr ci) (hc : vwCl[ci]? = some (C, T, N)) (hn : As.length = na) (hst : st0 = As.reverse ++ .ref (fa_B G + k) :: rest) (hW : (rest.map fun v => v.category).sum ≤ 8) (hls : ls.size = nL) (hR : d + 1 ≤ R.frames ∧ 8 + (maxL + 11) + 34 * d ≤ R.locals) (hf : cells + 0 ≤ R.cells ∧ slots + 0 ≤ R.slots) (hdg : decode cc pc = .ok (.invokevirtual index, 3)) :
    va_Run p l e R s m args below meth c H locs cells slots 0 0 (F0 m pc ls st0) rest (Qc (Value.ref (fa_B G + k) :: As).toArray) (fa_A G) :=
  va_runV CX.1 hM (cwV na CX.1.2.2.2.2 hl.good rfl rfl rfl hl.2.2.2.2.2 hR) ⟨fa_blind _, fa_recv CX.2 HX hk hsh hc, fun U hU hW => ⟨rfl, by rw [hU]; exact HX.1, CX.2.moved hW HX.2 hU⟩⟩ rfl hn hls hst (lv_room hW) hdg hf
theorem fa_callVi {post : Int32 → fa_V × fa_R → Prop} (CX : fa_CX G p s m args c cc nL own) (HX : fa_HX G n v r s H locs) (hM : fa_MI l G n y bytes maxL ret d (.ref (fa_B G + k) :: As) v r post) (hl : fa_lnV own index C y bytes maxL ret na)
    (hk : k < n) (hsh : fa_sh k = .inr ci) (hc : vwCl[ci]? = some (C, T, N)) (hn : As.length = na) (hst : st0 = As.reverse ++ .ref (fa_B G + k) :: rest) (hW : (rest.map fun v => v.category).sum ≤ 8) (hls : ls.size = nL) (hR : d + 1 ≤ R.frames ∧ 8 + (maxL + 11) + 34 * d ≤ R.locals) (hf : cells + 0 ≤ R.cells ∧ slots + 0 ≤ R.slots) (hdg : decode cc pc = .ok (.invokevirtual index, 3))
    (kk : ∀ (res : Int32) (v1 : fa_V) (r1 : fa_R) (H1 : Heap) (locs1 : List Loc), post res (v1, r1) → fa_HX G n v1 r1 s H1 locs1 → W p l e R s m args below meth c H1 locs1 cells slots Q (F0 m (pc + 3) ls (.int res :: rest))) : W p l e R s m args below meth c H locs cells slots Q (F0 m pc ls st0) :=
  va_calli (fa_runV CX HX hM hl hk hsh hc hn hst hW hls hR hf hdg) HX.2 (fun _ _ h => h) (fun _ h => h) (fun res u t H1 locs1 ht _ hp hB _ _ hS => kk res u.1 u.2 H1 locs1 hp ⟨by rw [← ht]; exact hB, hS⟩)
theorem fa_callVv {post : fa_V × fa_R → Prop} (CX : fa_CX G p s m args c cc nL own) (HX : fa_HX G n v r s H locs) (hM : fa_MV l G n y bytes maxL d (.ref (fa_B G + k) :: As) v r post) (hl : fa_lnV own index C y bytes maxL none na)
    (hk : k < n) (hsh : fa_sh k = .inr ci) (hc : vwCl[ci]? = some (C, T, N)) (hn : As.length = na) (hst : st0 = As.reverse ++ .ref (fa_B G + k) :: rest) (hW : (rest.map fun v => v.category).sum ≤ 8) (hls : ls.size = nL) (hR : d + 1 ≤ R.frames ∧ 8 + (maxL + 11) + 34 * d ≤ R.locals) (hf : cells + 0 ≤ R.cells ∧ slots + 0 ≤ R.slots) (hdg : decode cc pc = .ok (.invokevirtual index, 3))
    (kk : ∀ (v1 : fa_V) (r1 : fa_R) (H1 : Heap) (locs1 : List Loc), post (v1, r1) → fa_HX G n v1 r1 s H1 locs1 → W p l e R s m args below meth c H1 locs1 cells slots Q (F0 m (pc + 3) ls rest)) : W p l e R s m args below meth c H locs cells slots Q (F0 m pc ls st0) :=
  va_callv (fa_runV CX HX hM hl hk hsh hc hn hst hW hls hR hf hdg) HX.2 (fun _ _ h => h) (fun _ h => h) (fun u t H1 locs1 ht _ hp hB _ _ hS => kk u.1 u.2 H1 locs1 hp ⟨by rw [← ht]; exact hB, hS⟩)
theorem fa_callVr {post : Option Nat → fa_V × fa_R → Prop} (CX : fa_CX G p s m args c cc nL own) (HX : fa_HX G n v r s H locs) (hM : fa_MR l G n y bytes maxL ret d (.ref (fa_B G + k) :: As) v r post) (hl : fa_lnV own index C y bytes maxL ret na)
    (hk : k < n) (hsh : fa_sh k = .inr ci) (hc : vwCl[ci]? = some (C, T, N)) (hn : As.length = na) (hst : st0 = As.reverse ++ .ref (fa_B G + k) :: rest) (hW : (rest.map fun v => v.category).sum ≤ 8) (hls : ls.size = nL) (hR : d + 1 ≤ R.frames ∧ 8 + (maxL + 11) + 34 * d ≤ R.locals) (hf : cells + 0 ≤ R.cells ∧ slots + 0 ≤ R.slots) (hdg : decode cc pc = .ok (.invokevirtual index, 3))
    (kk : ∀ (res : Option Nat) (v1 : fa_V) (r1 : fa_R) (H1 : Heap) (locs1 : List Loc), post res (v1, r1) → fa_HX G n v1 r1 s H1 locs1 → W p l e R s m args below meth c H1 locs1 cells slots Q (F0 m (pc + 3) ls (va_re (fun j => fa_B G + j) res :: rest))) : W p l e R s m args below meth c H locs cells slots Q (F0 m pc ls st0) :=
  va_calle (fa_runV CX HX hM hl hk hsh hc hn hst hW hls hR hf hdg) HX.2 (fun _ _ h => h) (fun _ h => h) (fun res u t H1 locs1 ht _ hp hB _ _ hS => kk res u.1 u.2 H1 locs1 hp ⟨by rw [← ht]; exact hB, hS⟩)
theorem fa_callVf {post : UInt32 → fa_V × fa_R → Prop} (CX : fa_CX G p s m args c cc nL own) (HX : fa_HX G n v r s H locs) (hM : fa_MF l G n y bytes maxL d (.ref (fa_B G + k) :: As) v r post) (hl : fa_lnV own index C y bytes maxL (some .float) na)
    (hk : k < n) (hsh : fa_sh k = .inr ci) (hc : vwCl[ci]? = some (C, T, N)) (hn : As.length = na) (hst : st0 = As.reverse ++ .ref (fa_B G + k) :: rest) (hW : (rest.map fun v => v.category).sum ≤ 8) (hls : ls.size = nL) (hR : d + 1 ≤ R.frames ∧ 8 + (maxL + 11) + 34 * d ≤ R.locals) (hf : cells + 0 ≤ R.cells ∧ slots + 0 ≤ R.slots) (hdg : decode cc pc = .ok (.invokevirtual index, 3))
    (kk : ∀ (res : UInt32) (v1 : fa_V) (r1 : fa_R) (H1 : Heap) (locs1 : List Loc), post res (v1, r1) → fa_HX G n v1 r1 s H1 locs1 → W p l e R s m args below meth c H1 locs1 cells slots Q (F0 m (pc + 3) ls (.float res :: rest))) : W p l e R s m args below meth c H locs cells slots Q (F0 m pc ls st0) :=
  va_callf (fa_runV CX HX hM hl hk hsh hc hn hst hW hls hR hf hdg) HX.2 (fun _ _ h => h) (fun _ h => h) (fun res u t H1 locs1 ht _ hp hB _ _ hS => kk res u.1 u.2 H1 locs1 hp ⟨by rw [← ht]; exact hB, hS⟩)
theorem fa_lnS.good (h : fa_lnS own index y bytes maxL ret na) : GoodIn fa_tbl (va_wsS own index y (fa_ws y bytes maxL ret)) := fa_goodIn (fun w hw => by
  obtain ⟨h1, h2, h3, h4, -⟩ := h
  simp only [va_wsS, List.cons_append, List.nil_append, List.mem_cons] at hw
  rcases hw with rfl | rfl | rfl | rfl | hw
  · exact h1
  · exact h2
  · exact h3
  · exact h4
  · exact hw)
theorem fa_callSi {post : Int32 → fa_V × fa_R → Prop} (CX : fa_CX G p s m args c cc nL own) (HX : fa_HX G n v r s H locs) (hM : fa_MI l G n y bytes maxL ret d As v r post) (hl : fa_lnS own index y bytes maxL ret na)
    (hn : As.length = na) (hst : st0 = As.reverse ++ rest) (hW : (rest.map fun v => v.category).sum ≤ 8) (hls : ls.size = nL) (hR : d + 1 ≤ R.frames ∧ 8 + (maxL + 11) + 34 * d ≤ R.locals) (hf : cells + 0 ≤ R.cells ∧ slots + 0 ≤ R.slots) (hdg : decode cc pc = .ok (.invokestatic index, 3))
    (kk : ∀ (res : Int32) (v1 : fa_V) (r1 : fa_R) (H1 : Heap) (locs1 : List Loc), post res (v1, r1) → fa_HX G n v1 r1 s H1 locs1 → W p l e R s m args below meth c H1 locs1 cells slots Q (F0 m (pc + 3) ls (.int res :: rest))) : W p l e R s m args below meth c H locs cells slots Q (F0 m pc ls st0) :=
  va_calli (va_runS CX.1 hM (va_cwS na CX.1.2.2.2.2 hl.good rfl rfl rfl hl.2.2.2.2 hR) ⟨fa_blind _, fun U hU hW => ⟨rfl, by rw [hU]; exact HX.1, CX.2.moved hW HX.2 hU⟩⟩ rfl hn hls hst (lv_room hW) hdg hf) HX.2 (fun _ _ h => h) (fun _ h => h) (fun res u t H1 locs1 ht _ hp hB _ _ hS => kk res u.1 u.2 H1 locs1 hp ⟨by rw [← ht]; exact hB, hS⟩)
/-- a private static method of a nest mate -/
theorem fa_callSNi {post : Int32 → fa_V × fa_R → Prop} (CX : fa_CX G p s m args c cc nL own) (HX : fa_HX G n v r s H locs) (hM : fa_MI l G n y bytes maxL ret d As v r post) (hq : (own, index, y, RX6) ∈ fa_nM) (hl : Cond.static y ∈ fa_tbl ∧ Cond.initialized y.cls ∈ fa_tbl ∧ Cond.code y bytes maxL ret ∈ fa_tbl ∧ (y.cls ≠ "java/lang/invoke/MethodHandle" ∧ y.cls ≠ "java/lang/invoke/VarHandle" ∧ (parseMethodDescriptor y.desc).map (fun d => d.parameters.length) = some na))
    (hn : As.length = na) (hst : st0 = As.reverse ++ rest) (hW : (rest.map fun v => v.category).sum ≤ 8) (hls : ls.size = nL) (hR : d + 1 ≤ R.frames ∧ 8 + (maxL + 11) + 34 * d ≤ R.locals) (hf : cells + 0 ≤ R.cells ∧ slots + 0 ≤ R.slots) (hdg : decode cc pc = .ok (.invokestatic index, 3))
    (kk : ∀ (res : Int32) (v1 : fa_V) (r1 : fa_R) (H1 : Heap) (locs1 : List Loc), post res (v1, r1) → fa_HX G n v1 r1 s H1 locs1 → W p l e R s m args below meth c H1 locs1 cells slots Q (F0 m (pc + 3) ls (.int res :: rest))) : W p l e R s m args below meth c H locs cells slots Q (F0 m pc ls st0) :=
  va_calli (va_runSN CX.1 hM ⟨va_cnB na CX.1.2.2.2.2 (fa_goodIn (fun w hw => by
    rcases List.mem_cons.mp hw with rfl | hw
    · exact hl.2.2.1
    · exact hw)) rfl rfl rfl (CX.2.2.1 _ hq) (CX.1.2.2.2.2 _ hl.2.1) hl.2.2.2 hR, CX.1.2.2.2.2 _ hl.1, trivial⟩ ⟨fa_blind _, fun U hU hW => ⟨rfl, by rw [hU]; exact HX.1, CX.2.moved hW HX.2 hU⟩⟩ rfl hn hls hst (lv_room hW) hdg hf) HX.2 (fun _ _ h => h) (fun _ h => h) (fun res u t H1 locs1 ht _ hp hB _ _ hS => kk res u.1 u.2 H1 locs1 hp ⟨by rw [← ht]; exact hB, hS⟩)
end CALLS
end FAR
end
section
theorem fa_ly_X0 : ∀ w ∈ u_ws RX0 TX0 2, w ∈ fa_tbl := by
  have h : u_ws RX0 TX0 2 = [185, 187].filterMap (fun i => tables_1[i]?) := by decide +kernel
  have g : (u_ws RX0 TX0 2).all goodWord = true := by decide +kernel
  intro w hw
  have hg := List.all_eq_true.mp g w hw
  rw [h] at hw
  obtain ⟨i, -, hi⟩ := List.mem_filterMap.mp hw
  exact fa_in i hi hg
theorem fa_ly_X1 : ∀ w ∈ u_ws RX1 TX1 6, w ∈ fa_tbl := by
  have h : u_ws RX1 TX1 6 = [207, 209, 211, 213, 215, 217].filterMap (fun i => tables_1[i]?) := by decide +kernel
  have g : (u_ws RX1 TX1 6).all goodWord = true := by decide +kernel
  intro w hw
  have hg := List.all_eq_true.mp g w hw
  rw [h] at hw
  obtain ⟨i, -, hi⟩ := List.mem_filterMap.mp hw
  exact fa_in i hi hg
theorem fa_ly_X2 : ∀ w ∈ u_ws RX2 TX2 3, w ∈ fa_tbl := by
  have h : u_ws RX2 TX2 3 = [43, 45, 47].filterMap (fun i => tables_1[i]?) := by decide +kernel
  have g : (u_ws RX2 TX2 3).all goodWord = true := by decide +kernel
  intro w hw
  have hg := List.all_eq_true.mp g w hw
  rw [h] at hw
  obtain ⟨i, -, hi⟩ := List.mem_filterMap.mp hw
  exact fa_in i hi hg
theorem fa_ly_X3 : ∀ w ∈ u_ws RX3 TX3 12, w ∈ fa_tbl := by
  have h : u_ws RX3 TX3 12 = [148, 150, 152, 154, 156, 158, 160, 162, 164, 166, 168, 170].filterMap (fun i => tables_1[i]?) := by decide +kernel
  have g : (u_ws RX3 TX3 12).all goodWord = true := by decide +kernel
  intro w hw
  have hg := List.all_eq_true.mp g w hw
  rw [h] at hw
  obtain ⟨i, -, hi⟩ := List.mem_filterMap.mp hw
  exact fa_in i hi hg
theorem fa_ly_X4 : ∀ w ∈ u_ws RX4 TX4 9, w ∈ fa_tbl := by
  have h : u_ws RX4 TX4 9 = [100, 102, 104, 106, 108, 110, 112, 114, 116].filterMap (fun i => tables_1[i]?) := by decide +kernel
  have g : (u_ws RX4 TX4 9).all goodWord = true := by decide +kernel
  intro w hw
  have hg := List.all_eq_true.mp g w hw
  rw [h] at hw
  obtain ⟨i, -, hi⟩ := List.mem_filterMap.mp hw
  exact fa_in i hi hg
theorem fa_ly_X5 : ∀ w ∈ u_ws RX5 TX5 2, w ∈ fa_tbl := by
  have h : u_ws RX5 TX5 2 = [60, 62].filterMap (fun i => tables_1[i]?) := by decide +kernel
  have g : (u_ws RX5 TX5 2).all goodWord = true := by decide +kernel
  intro w hw
  have hg := List.all_eq_true.mp g w hw
  rw [h] at hw
  obtain ⟨i, -, hi⟩ := List.mem_filterMap.mp hw
  exact fa_in i hi hg
theorem fa_ly_X6 : ∀ w ∈ u_ws RX6 TX6 7, w ∈ fa_tbl := by
  have h : u_ws RX6 TX6 7 = [228, 230, 232, 234, 236, 238, 240].filterMap (fun i => tables_1[i]?) := by decide +kernel
  have g : (u_ws RX6 TX6 7).all goodWord = true := by decide +kernel
  intro w hw
  have hg := List.all_eq_true.mp g w hw
  rw [h] at hw
  obtain ⟨i, -, hi⟩ := List.mem_filterMap.mp hw
  exact fa_in i hi hg
theorem fa_ly_X7 : ∀ w ∈ u_ws RX7 TX7 13, w ∈ fa_tbl := by
  have h : u_ws RX7 TX7 13 = [613, 615, 617, 619, 621, 623, 625, 627, 629, 631, 633, 635, 637].filterMap (fun i => tables_1[i]?) := by decide +kernel
  have g : (u_ws RX7 TX7 13).all goodWord = true := by decide +kernel
  intro w hw
  have hg := List.all_eq_true.mp g w hw
  rw [h] at hw
  obtain ⟨i, -, hi⟩ := List.mem_filterMap.mp hw
  exact fa_in i hi hg
theorem fl_X0_11 : fa_fld RX0 11 0 1 (tyX0 1) true := ⟨RX0, TX0, 2, tyX0, rfl, fa_ly_X0, tyX0_ok, nmX0, by decide, rfl, fa_in 184 (by decide +kernel) (by decide +kernel), rfl, rfl, rfl⟩
theorem ln_X0_17 : Cond.methodLink RX0 17 yX3_init ∈ fa_tbl ∧ Cond.instanceMethod yX3_init ∈ fa_tbl ∧ Cond.initialized yX3_init.cls ∈ fa_tbl ∧ Cond.code yX3_init cX3_init 2 none ∈ fa_tbl := ⟨fa_in 181 (by decide +kernel) (by decide +kernel), fa_in 23 (by decide +kernel) (by decide +kernel), fa_in 2 (by decide +kernel) (by decide +kernel), fa_in 24 (by decide +kernel) (by decide +kernel)⟩
theorem fl_X0_18 : fa_fld RX0 18 0 0 .int false := ⟨RX0, TX0, 2, tyX0, rfl, fa_ly_X0, tyX0_ok, nmX0, by decide, rfl, fa_in 182 (by decide +kernel) (by decide +kernel), rfl, rfl, rfl⟩
theorem ln_X0_22 : fa_lnV RX0 22 RX3 yX3_copyFrom cX3_copyFrom 3 (none : Option FieldType) 1 := ⟨fa_in 251 (by decide +kernel) (by decide +kernel), fa_in 252 (by decide +kernel) (by decide +kernel), fa_in 253 (by decide +kernel) (by decide +kernel), fa_in 2 (by decide +kernel) (by decide +kernel), fa_in 254 (by decide +kernel) (by decide +kernel), by decide +kernel⟩
theorem fl_X1_9 : fa_fld RX1 9 1 0 (tyX1 0) true := ⟨RX1, TX1, 6, tyX1, rfl, fa_ly_X1, tyX1_ok, nmX1, by decide, rfl, fa_in 196 (by decide +kernel) (by decide +kernel), rfl, rfl, rfl⟩
theorem fl_X1_15 : fa_fld RX1 15 1 1 .int false := ⟨RX1, TX1, 6, tyX1, rfl, fa_ly_X1, tyX1_ok, nmX1, by decide, rfl, fa_in 197 (by decide +kernel) (by decide +kernel), rfl, rfl, rfl⟩
theorem fl_X1_19 : fa_fld RX1 19 1 2 .int false := ⟨RX1, TX1, 6, tyX1, rfl, fa_ly_X1, tyX1_ok, nmX1, by decide, rfl, fa_in 199 (by decide +kernel) (by decide +kernel), rfl, rfl, rfl⟩
theorem ln_X1_22 : fa_lnV RX1 22 RX1 yX1_readOrder cX1_readOrder 1 (some FieldType.boolean) 0 := ⟨fa_in 464 (by decide +kernel) (by decide +kernel), fa_in 465 (by decide +kernel) (by decide +kernel), fa_in 466 (by decide +kernel) (by decide +kernel), fa_in 8 (by decide +kernel) (by decide +kernel), fa_in 467 (by decide +kernel) (by decide +kernel), by decide +kernel⟩
theorem ln_X1_26 : fa_lnV RX1 26 RX1 yX1_readSign cX1_readSign 2 (some FieldType.boolean) 1 := ⟨fa_in 488 (by decide +kernel) (by decide +kernel), fa_in 489 (by decide +kernel) (by decide +kernel), fa_in 490 (by decide +kernel) (by decide +kernel), fa_in 8 (by decide +kernel) (by decide +kernel), fa_in 491 (by decide +kernel) (by decide +kernel), by decide +kernel⟩
theorem ln_X1_30 : fa_lnV RX1 30 RX1 yX1_signHere cX1_signHere 1 (some FieldType.char) 0 := ⟨fa_in 468 (by decide +kernel) (by decide +kernel), fa_in 469 (by decide +kernel) (by decide +kernel), fa_in 470 (by decide +kernel) (by decide +kernel), fa_in 8 (by decide +kernel) (by decide +kernel), fa_in 471 (by decide +kernel) (by decide +kernel), by decide +kernel⟩
theorem fl_X1_34 : fa_fld RX1 34 1 3 .char false := ⟨RX1, TX1, 6, tyX1, rfl, fa_ly_X1, tyX1_ok, nmX1, by decide, rfl, fa_in 201 (by decide +kernel) (by decide +kernel), rfl, rfl, rfl⟩
theorem ln_X1_38 : fa_lnV RX1 38 RX1 yX1_readFirst cX1_readFirst 3 (some FieldType.boolean) 2 := ⟨fa_in 472 (by decide +kernel) (by decide +kernel), fa_in 473 (by decide +kernel) (by decide +kernel), fa_in 474 (by decide +kernel) (by decide +kernel), fa_in 8 (by decide +kernel) (by decide +kernel), fa_in 475 (by decide +kernel) (by decide +kernel), by decide +kernel⟩
theorem ln_X1_42 : fa_lnV RX1 42 RX1 yX1_readSecond cX1_readSecond 3 (some FieldType.boolean) 2 := ⟨fa_in 484 (by decide +kernel) (by decide +kernel), fa_in 485 (by decide +kernel) (by decide +kernel), fa_in 486 (by decide +kernel) (by decide +kernel), fa_in 8 (by decide +kernel) (by decide +kernel), fa_in 487 (by decide +kernel) (by decide +kernel), by decide +kernel⟩
theorem ln_X1_45 : fa_lnV RX1 45 RX1 yX1_readNumber cX1_readNumber 6 (some FieldType.int) 2 := ⟨fa_in 476 (by decide +kernel) (by decide +kernel), fa_in 477 (by decide +kernel) (by decide +kernel), fa_in 478 (by decide +kernel) (by decide +kernel), fa_in 8 (by decide +kernel) (by decide +kernel), fa_in 479 (by decide +kernel) (by decide +kernel), by decide +kernel⟩
theorem fl_X1_49 : fa_fld RX1 49 1 4 .int false := ⟨RX1, TX1, 6, tyX1, rfl, fa_ly_X1, tyX1_ok, nmX1, by decide, rfl, fa_in 203 (by decide +kernel) (by decide +kernel), rfl, rfl, rfl⟩
theorem fl_X1_52 : fa_fld RX1 52 1 5 .int false := ⟨RX1, TX1, 6, tyX1, rfl, fa_ly_X1, tyX1_ok, nmX1, by decide, rfl, fa_in 205 (by decide +kernel) (by decide +kernel), rfl, rfl, rfl⟩
theorem ln_X1_55 : fa_lnV RX1 55 RX1 yX1_digitHere cX1_digitHere 2 (some FieldType.int) 0 := ⟨fa_in 480 (by decide +kernel) (by decide +kernel), fa_in 481 (by decide +kernel) (by decide +kernel), fa_in 482 (by decide +kernel) (by decide +kernel), fa_in 8 (by decide +kernel) (by decide +kernel), fa_in 483 (by decide +kernel) (by decide +kernel), by decide +kernel⟩
theorem fl_X2_9 : fa_fld RX2 9 2 1 (tyX2 1) true := ⟨RX2, TX2, 3, tyX2, rfl, fa_ly_X2, tyX2_ok, nmX2, by decide, rfl, fa_in 37 (by decide +kernel) (by decide +kernel), rfl, rfl, rfl⟩
theorem fl_X2_15 : fa_fld RX2 15 2 2 (tyX2 2) true := ⟨RX2, TX2, 3, tyX2, rfl, fa_ly_X2, tyX2_ok, nmX2, by decide, rfl, fa_in 40 (by decide +kernel) (by decide +kernel), rfl, rfl, rfl⟩
theorem fl_X2_18 : fa_fld RX2 18 2 0 .int false := ⟨RX2, TX2, 3, tyX2, rfl, fa_ly_X2, tyX2_ok, nmX2, by decide, rfl, fa_in 34 (by decide +kernel) (by decide +kernel), rfl, rfl, rfl⟩
theorem ln_X2_28 : fa_lnV RX2 28 RX2 yX2_comesBefore cX2_comesBefore 4 (some FieldType.boolean) 3 := ⟨fa_in 369 (by decide +kernel) (by decide +kernel), fa_in 370 (by decide +kernel) (by decide +kernel), fa_in 371 (by decide +kernel) (by decide +kernel), fa_in 3 (by decide +kernel) (by decide +kernel), fa_in 372 (by decide +kernel) (by decide +kernel), by decide +kernel⟩
theorem fl_X3_11 : fa_fld RX3 11 3 8 (tyX3 8) true := ⟨RX3, TX3, 12, tyX3, rfl, fa_ly_X3, tyX3_ok, nmX3, by decide, rfl, fa_in 140 (by decide +kernel) (by decide +kernel), rfl, rfl, rfl⟩
theorem ln_X3_19 : Cond.instanceMethod yX2_init ∈ fa_tbl ∧ Cond.initialized yX2_init.cls ∈ fa_tbl ∧ Cond.code yX2_init cX2_init 1 none ∈ fa_tbl := ⟨fa_in 31 (by decide +kernel) (by decide +kernel), fa_in 3 (by decide +kernel) (by decide +kernel), fa_in 32 (by decide +kernel) (by decide +kernel)⟩
theorem fl_X3_20 : fa_fld RX3 20 3 9 (tyX3 9) true := ⟨RX3, TX3, 12, tyX3, rfl, fa_ly_X3, tyX3_ok, nmX3, by decide, rfl, fa_in 142 (by decide +kernel) (by decide +kernel), rfl, rfl, rfl⟩
theorem ln_X3_26 : Cond.instanceMethod yX5_init ∈ fa_tbl ∧ Cond.initialized yX5_init.cls ∈ fa_tbl ∧ Cond.code yX5_init cX5_init 1 none ∈ fa_tbl := ⟨fa_in 54 (by decide +kernel) (by decide +kernel), fa_in 4 (by decide +kernel) (by decide +kernel), fa_in 55 (by decide +kernel) (by decide +kernel)⟩
theorem fl_X3_27 : fa_fld RX3 27 3 10 (tyX3 10) true := ⟨RX3, TX3, 12, tyX3, rfl, fa_ly_X3, tyX3_ok, nmX3, by decide, rfl, fa_in 144 (by decide +kernel) (by decide +kernel), rfl, rfl, rfl⟩
theorem fl_X3_31 : fa_fld RX3 31 3 11 (tyX3 11) true := ⟨RX3, TX3, 12, tyX3, rfl, fa_ly_X3, tyX3_ok, nmX3, by decide, rfl, fa_in 146 (by decide +kernel) (by decide +kernel), rfl, rfl, rfl⟩
theorem ln_X3_35 : Cond.instanceMethod yX4_init ∈ fa_tbl ∧ Cond.initialized yX4_init.cls ∈ fa_tbl ∧ Cond.code yX4_init cX4_init 1 none ∈ fa_tbl := ⟨fa_in 67 (by decide +kernel) (by decide +kernel), fa_in 5 (by decide +kernel) (by decide +kernel), fa_in 68 (by decide +kernel) (by decide +kernel)⟩
theorem fl_X3_45 : fa_fld RX3 45 3 0 .int false := ⟨RX3, TX3, 12, tyX3, rfl, fa_ly_X3, tyX3_ok, nmX3, by decide, rfl, fa_in 124 (by decide +kernel) (by decide +kernel), rfl, rfl, rfl⟩
theorem fl_X3_49 : fa_fld RX3 49 3 1 .int false := ⟨RX3, TX3, 12, tyX3, rfl, fa_ly_X3, tyX3_ok, nmX3, by decide, rfl, fa_in 126 (by decide +kernel) (by decide +kernel), rfl, rfl, rfl⟩
theorem fl_X3_52 : fa_fld RX3 52 3 2 .int false := ⟨RX3, TX3, 12, tyX3, rfl, fa_ly_X3, tyX3_ok, nmX3, by decide, rfl, fa_in 128 (by decide +kernel) (by decide +kernel), rfl, rfl, rfl⟩
theorem fl_X3_55 : fa_fld RX3 55 3 3 .int false := ⟨RX3, TX3, 12, tyX3, rfl, fa_ly_X3, tyX3_ok, nmX3, by decide, rfl, fa_in 130 (by decide +kernel) (by decide +kernel), rfl, rfl, rfl⟩
theorem fl_X3_58 : fa_fld RX3 58 3 4 .int false := ⟨RX3, TX3, 12, tyX3, rfl, fa_ly_X3, tyX3_ok, nmX3, by decide, rfl, fa_in 132 (by decide +kernel) (by decide +kernel), rfl, rfl, rfl⟩
theorem fl_X3_61 : fa_fld RX3 61 3 5 .int false := ⟨RX3, TX3, 12, tyX3, rfl, fa_ly_X3, tyX3_ok, nmX3, by decide, rfl, fa_in 134 (by decide +kernel) (by decide +kernel), rfl, rfl, rfl⟩
theorem fl_X3_64 : fa_fld RX3 64 3 6 .int false := ⟨RX3, TX3, 12, tyX3, rfl, fa_ly_X3, tyX3_ok, nmX3, by decide, rfl, fa_in 136 (by decide +kernel) (by decide +kernel), rfl, rfl, rfl⟩
theorem fl_X3_67 : fa_fld RX3 67 3 7 .int false := ⟨RX3, TX3, 12, tyX3, rfl, fa_ly_X3, tyX3_ok, nmX3, by decide, rfl, fa_in 138 (by decide +kernel) (by decide +kernel), rfl, rfl, rfl⟩
theorem ln_X3_70 : fa_lnV RX3 70 RX4 yX4_copyFrom cX4_copyFrom 2 (none : Option FieldType) 1 := ⟨fa_in 255 (by decide +kernel) (by decide +kernel), fa_in 256 (by decide +kernel) (by decide +kernel), fa_in 257 (by decide +kernel) (by decide +kernel), fa_in 5 (by decide +kernel) (by decide +kernel), fa_in 258 (by decide +kernel) (by decide +kernel), by decide +kernel⟩
theorem ln_X3_74 : fa_lnV RX3 74 RX2 yX2_copyFrom cX2_copyFrom 2 (none : Option FieldType) 1 := ⟨fa_in 260 (by decide +kernel) (by decide +kernel), fa_in 261 (by decide +kernel) (by decide +kernel), fa_in 262 (by decide +kernel) (by decide +kernel), fa_in 3 (by decide +kernel) (by decide +kernel), fa_in 263 (by decide +kernel) (by decide +kernel), by decide +kernel⟩
theorem ln_X3_77 : fa_lnV RX3 77 RX5 yX5_copyFrom cX5_copyFrom 2 (none : Option FieldType) 1 := ⟨fa_in 265 (by decide +kernel) (by decide +kernel), fa_in 266 (by decide +kernel) (by decide +kernel), fa_in 267 (by decide +kernel) (by decide +kernel), fa_in 4 (by decide +kernel) (by decide +kernel), fa_in 268 (by decide +kernel) (by decide +kernel), by decide +kernel⟩
theorem ln_X3_80 : fa_lnV RX3 80 RX3 yX3_storedPages cX3_storedPages 3 (some FieldType.int) 0 := ⟨fa_in 274 (by decide +kernel) (by decide +kernel), fa_in 275 (by decide +kernel) (by decide +kernel), fa_in 276 (by decide +kernel) (by decide +kernel), fa_in 2 (by decide +kernel) (by decide +kernel), fa_in 277 (by decide +kernel) (by decide +kernel), by decide +kernel⟩
theorem ln_X3_84 : fa_lnV RX3 84 RX4 yX4_comeAs cX4_comeAs 5 (none : Option FieldType) 4 := ⟨fa_in 278 (by decide +kernel) (by decide +kernel), fa_in 279 (by decide +kernel) (by decide +kernel), fa_in 280 (by decide +kernel) (by decide +kernel), fa_in 5 (by decide +kernel) (by decide +kernel), fa_in 281 (by decide +kernel) (by decide +kernel), by decide +kernel⟩
theorem ln_X3_88 : fa_lnV RX3 88 RX3 yX3_find cX3_find 3 (some (FieldType.object "ForgettingArchive$StoredFile")) 1 := ⟨fa_in 304 (by decide +kernel) (by decide +kernel), fa_in 305 (by decide +kernel) (by decide +kernel), fa_in 306 (by decide +kernel) (by decide +kernel), fa_in 2 (by decide +kernel) (by decide +kernel), fa_in 307 (by decide +kernel) (by decide +kernel), by decide +kernel⟩
theorem ln_X3_92 : fa_lnV RX3 92 RX3 yX3_askStored cX3_askStored 2 (none : Option FieldType) 1 := ⟨fa_in 308 (by decide +kernel) (by decide +kernel), fa_in 309 (by decide +kernel) (by decide +kernel), fa_in 310 (by decide +kernel) (by decide +kernel), fa_in 2 (by decide +kernel) (by decide +kernel), fa_in 311 (by decide +kernel) (by decide +kernel), by decide +kernel⟩
theorem fl_X3_95 : fa_fld RX3 95 4 5 .int false := ⟨RX4, TX4, 9, tyX4, rfl, fa_ly_X4, tyX4_ok, nmX4, by decide, rfl, fa_in 90 (by decide +kernel) (by decide +kernel), rfl, rfl, rfl⟩
theorem ln_X3_98 : Cond.static yX6_isNoHolder ∈ fa_tbl ∧ Cond.initialized yX6_isNoHolder.cls ∈ fa_tbl ∧ Cond.code yX6_isNoHolder cX6_isNoHolder 1 (some FieldType.boolean) ∈ fa_tbl ∧ (yX6_isNoHolder.cls ≠ "java/lang/invoke/MethodHandle" ∧ yX6_isNoHolder.cls ≠ "java/lang/invoke/VarHandle" ∧ (parseMethodDescriptor yX6_isNoHolder.desc).map (fun d => d.parameters.length) = some 1) := ⟨fa_in 321 (by decide +kernel) (by decide +kernel), fa_in 1 (by decide +kernel) (by decide +kernel), fa_in 322 (by decide +kernel) (by decide +kernel), by decide +kernel⟩
theorem fl_X3_102 : fa_fld RX3 102 4 7 (tyX4 7) true := ⟨RX4, TX4, 9, tyX4, rfl, fa_ly_X4, tyX4_ok, nmX4, by decide, rfl, fa_in 96 (by decide +kernel) (by decide +kernel), rfl, rfl, rfl⟩
theorem ln_X3_105 : fa_lnV RX3 105 RX4 yX4_holdersOn cX4_holdersOn 5 (some FieldType.int) 1 := ⟨fa_in 323 (by decide +kernel) (by decide +kernel), fa_in 324 (by decide +kernel) (by decide +kernel), fa_in 325 (by decide +kernel) (by decide +kernel), fa_in 5 (by decide +kernel) (by decide +kernel), fa_in 326 (by decide +kernel) (by decide +kernel), by decide +kernel⟩
theorem ln_X3_109 : fa_lnS RX3 109 yJ6_bitCount_0f7a4 cJ6_bitCount_0f7a4 1 (some FieldType.int) 1 := ⟨fa_in 327 (by decide +kernel) (by decide +kernel), fa_in 328 (by decide +kernel) (by decide +kernel), fa_in 11 (by decide +kernel) (by decide +kernel), fa_in 329 (by decide +kernel) (by decide +kernel), by decide +kernel⟩
theorem fl_X3_114 : fa_fld RX3 114 4 6 .int false := ⟨RX4, TX4, 9, tyX4, rfl, fa_ly_X4, tyX4_ok, nmX4, by decide, rfl, fa_in 93 (by decide +kernel) (by decide +kernel), rfl, rfl, rfl⟩
theorem ln_X3_117 : fa_lnV RX3 117 RX3 yX3_referrersOf cX3_referrersOf 4 (some FieldType.int) 1 := ⟨fa_in 349 (by decide +kernel) (by decide +kernel), fa_in 350 (by decide +kernel) (by decide +kernel), fa_in 351 (by decide +kernel) (by decide +kernel), fa_in 2 (by decide +kernel) (by decide +kernel), fa_in 352 (by decide +kernel) (by decide +kernel), by decide +kernel⟩
theorem ln_X3_120 : fa_lnV RX3 120 RX2 yX2_placeOf cX2_placeOf 4 (some FieldType.int) 2 := ⟨fa_in 361 (by decide +kernel) (by decide +kernel), fa_in 362 (by decide +kernel) (by decide +kernel), fa_in 363 (by decide +kernel) (by decide +kernel), fa_in 3 (by decide +kernel) (by decide +kernel), fa_in 364 (by decide +kernel) (by decide +kernel), by decide +kernel⟩
theorem fl_X3_124 : fa_fld RX3 124 2 0 .int false := ⟨RX2, TX2, 3, tyX2, rfl, fa_ly_X2, tyX2_ok, nmX2, by decide, rfl, fa_in 35 (by decide +kernel) (by decide +kernel), rfl, rfl, rfl⟩
theorem ln_X3_127 : fa_lnV RX3 127 RX2 yX2_insert cX2_insert 4 (none : Option FieldType) 2 := ⟨fa_in 365 (by decide +kernel) (by decide +kernel), fa_in 366 (by decide +kernel) (by decide +kernel), fa_in 367 (by decide +kernel) (by decide +kernel), fa_in 3 (by decide +kernel) (by decide +kernel), fa_in 368 (by decide +kernel) (by decide +kernel), by decide +kernel⟩
theorem ln_X3_131 : fa_lnV RX3 131 RX2 yX2_removeAt cX2_removeAt 3 (none : Option FieldType) 1 := ⟨fa_in 381 (by decide +kernel) (by decide +kernel), fa_in 382 (by decide +kernel) (by decide +kernel), fa_in 383 (by decide +kernel) (by decide +kernel), fa_in 3 (by decide +kernel) (by decide +kernel), fa_in 384 (by decide +kernel) (by decide +kernel), by decide +kernel⟩
theorem ln_X3_135 : fa_lnV RX3 135 RX3 yX3_passDay cX3_passDay 1 (some FieldType.int) 0 := ⟨fa_in 393 (by decide +kernel) (by decide +kernel), fa_in 394 (by decide +kernel) (by decide +kernel), fa_in 395 (by decide +kernel) (by decide +kernel), fa_in 2 (by decide +kernel) (by decide +kernel), fa_in 396 (by decide +kernel) (by decide +kernel), by decide +kernel⟩
theorem ln_X3_138 : Cond.static yX6_isNoSetting ∈ fa_tbl ∧ Cond.initialized yX6_isNoSetting.cls ∈ fa_tbl ∧ Cond.code yX6_isNoSetting cX6_isNoSetting 1 (some FieldType.boolean) ∈ fa_tbl ∧ (yX6_isNoSetting.cls ≠ "java/lang/invoke/MethodHandle" ∧ yX6_isNoSetting.cls ≠ "java/lang/invoke/VarHandle" ∧ (parseMethodDescriptor yX6_isNoSetting.desc).map (fun d => d.parameters.length) = some 1) := ⟨fa_in 438 (by decide +kernel) (by decide +kernel), fa_in 1 (by decide +kernel) (by decide +kernel), fa_in 439 (by decide +kernel) (by decide +kernel), by decide +kernel⟩
theorem ln_X3_147 : fa_lnV RX3 147 RX3 yX3_askReserved cX3_askReserved 3 (none : Option FieldType) 0 := ⟨fa_in 397 (by decide +kernel) (by decide +kernel), fa_in 398 (by decide +kernel) (by decide +kernel), fa_in 399 (by decide +kernel) (by decide +kernel), fa_in 2 (by decide +kernel) (by decide +kernel), fa_in 400 (by decide +kernel) (by decide +kernel), by decide +kernel⟩
theorem ln_X3_150 : fa_lnV RX3 150 RX3 yX3_markReasons cX3_markReasons 2 (none : Option FieldType) 0 := ⟨fa_in 401 (by decide +kernel) (by decide +kernel), fa_in 402 (by decide +kernel) (by decide +kernel), fa_in 403 (by decide +kernel) (by decide +kernel), fa_in 2 (by decide +kernel) (by decide +kernel), fa_in 404 (by decide +kernel) (by decide +kernel), by decide +kernel⟩
theorem ln_X3_153 : fa_lnV RX3 153 RX3 yX3_burnUnmarked cX3_burnUnmarked 5 (some FieldType.int) 0 := ⟨fa_in 421 (by decide +kernel) (by decide +kernel), fa_in 422 (by decide +kernel) (by decide +kernel), fa_in 423 (by decide +kernel) (by decide +kernel), fa_in 2 (by decide +kernel) (by decide +kernel), fa_in 424 (by decide +kernel) (by decide +kernel), by decide +kernel⟩
theorem fl_X3_156 : fa_fld RX3 156 2 2 (tyX2 2) true := ⟨RX2, TX2, 3, tyX2, rfl, fa_ly_X2, tyX2_ok, nmX2, by decide, rfl, fa_in 41 (by decide +kernel) (by decide +kernel), rfl, rfl, rfl⟩
theorem fl_X3_159 : fa_fld RX3 159 2 1 (tyX2 1) true := ⟨RX2, TX2, 3, tyX2, rfl, fa_ly_X2, tyX2_ok, nmX2, by decide, rfl, fa_in 38 (by decide +kernel) (by decide +kernel), rfl, rfl, rfl⟩
theorem fl_X3_161 : fa_fld RX3 161 4 4 .int false := ⟨RX4, TX4, 9, tyX4, rfl, fa_ly_X4, tyX4_ok, nmX4, by decide, rfl, fa_in 86 (by decide +kernel) (by decide +kernel), rfl, rfl, rfl⟩
theorem ln_X3_164 : fa_lnV RX3 164 RX3 yX3_ownReason cX3_ownReason 2 (some FieldType.int) 1 := ⟨fa_in 405 (by decide +kernel) (by decide +kernel), fa_in 406 (by decide +kernel) (by decide +kernel), fa_in 407 (by decide +kernel) (by decide +kernel), fa_in 2 (by decide +kernel) (by decide +kernel), fa_in 408 (by decide +kernel) (by decide +kernel), by decide +kernel⟩
theorem fl_X3_168 : fa_fld RX3 168 4 8 .int false := ⟨RX4, TX4, 9, tyX4, rfl, fa_ly_X4, tyX4_ok, nmX4, by decide, rfl, fa_in 98 (by decide +kernel) (by decide +kernel), rfl, rfl, rfl⟩
theorem ln_X3_171 : fa_lnV RX3 171 RX3 yX3_markReferredFrom cX3_markReferredFrom 4 (none : Option FieldType) 1 := ⟨fa_in 417 (by decide +kernel) (by decide +kernel), fa_in 418 (by decide +kernel) (by decide +kernel), fa_in 419 (by decide +kernel) (by decide +kernel), fa_in 2 (by decide +kernel) (by decide +kernel), fa_in 420 (by decide +kernel) (by decide +kernel), by decide +kernel⟩
theorem ln_X3_174 : fa_lnV RX3 174 RX3 yX3_dueDay cX3_dueDay 4 (some FieldType.int) 1 := ⟨fa_in 409 (by decide +kernel) (by decide +kernel), fa_in 410 (by decide +kernel) (by decide +kernel), fa_in 411 (by decide +kernel) (by decide +kernel), fa_in 2 (by decide +kernel) (by decide +kernel), fa_in 412 (by decide +kernel) (by decide +kernel), by decide +kernel⟩
theorem fl_X3_177 : fa_fld RX3 177 4 0 .int false := ⟨RX4, TX4, 9, tyX4, rfl, fa_ly_X4, tyX4_ok, nmX4, by decide, rfl, fa_in 72 (by decide +kernel) (by decide +kernel), rfl, rfl, rfl⟩
theorem ln_X3_180 : fa_lnV RX3 180 RX2 yX2_numberFor cX2_numberFor 4 (some FieldType.int) 1 := ⟨fa_in 413 (by decide +kernel) (by decide +kernel), fa_in 414 (by decide +kernel) (by decide +kernel), fa_in 415 (by decide +kernel) (by decide +kernel), fa_in 3 (by decide +kernel) (by decide +kernel), fa_in 416 (by decide +kernel) (by decide +kernel), by decide +kernel⟩
theorem fl_X3_183 : fa_fld RX3 183 4 2 .int false := ⟨RX4, TX4, 9, tyX4, rfl, fa_ly_X4, tyX4_ok, nmX4, by decide, rfl, fa_in 80 (by decide +kernel) (by decide +kernel), rfl, rfl, rfl⟩
theorem ln_X3_186 : fa_lnV RX3 186 RX5 yX5_leave cX5_leave 4 (none : Option FieldType) 2 := ⟨fa_in 425 (by decide +kernel) (by decide +kernel), fa_in 426 (by decide +kernel) (by decide +kernel), fa_in 427 (by decide +kernel) (by decide +kernel), fa_in 4 (by decide +kernel) (by decide +kernel), fa_in 428 (by decide +kernel) (by decide +kernel), by decide +kernel⟩
theorem fl_X3_190 : fa_fld RX3 190 4 3 .int false := ⟨RX4, TX4, 9, tyX4, rfl, fa_ly_X4, tyX4_ok, nmX4, by decide, rfl, fa_in 84 (by decide +kernel) (by decide +kernel), rfl, rfl, rfl⟩
theorem fl_X3_193 : fa_fld RX3 193 4 1 .int false := ⟨RX4, TX4, 9, tyX4, rfl, fa_ly_X4, tyX4_ok, nmX4, by decide, rfl, fa_in 77 (by decide +kernel) (by decide +kernel), rfl, rfl, rfl⟩
theorem fl_X4_9 : fa_fld RX4 9 4 7 (tyX4 7) true := ⟨RX4, TX4, 9, tyX4, rfl, fa_ly_X4, tyX4_ok, nmX4, by decide, rfl, fa_in 95 (by decide +kernel) (by decide +kernel), rfl, rfl, rfl⟩
theorem fl_X4_15 : fa_fld RX4 15 4 0 .int false := ⟨RX4, TX4, 9, tyX4, rfl, fa_ly_X4, tyX4_ok, nmX4, by decide, rfl, fa_in 70 (by decide +kernel) (by decide +kernel), rfl, rfl, rfl⟩
theorem fl_X4_19 : fa_fld RX4 19 4 1 .int false := ⟨RX4, TX4, 9, tyX4, rfl, fa_ly_X4, tyX4_ok, nmX4, by decide, rfl, fa_in 74 (by decide +kernel) (by decide +kernel), rfl, rfl, rfl⟩
theorem fl_X4_22 : fa_fld RX4 22 4 2 .int false := ⟨RX4, TX4, 9, tyX4, rfl, fa_ly_X4, tyX4_ok, nmX4, by decide, rfl, fa_in 78 (by decide +kernel) (by decide +kernel), rfl, rfl, rfl⟩
theorem fl_X4_25 : fa_fld RX4 25 4 3 .int false := ⟨RX4, TX4, 9, tyX4, rfl, fa_ly_X4, tyX4_ok, nmX4, by decide, rfl, fa_in 82 (by decide +kernel) (by decide +kernel), rfl, rfl, rfl⟩
theorem fl_X4_28 : fa_fld RX4 28 4 4 .int false := ⟨RX4, TX4, 9, tyX4, rfl, fa_ly_X4, tyX4_ok, nmX4, by decide, rfl, fa_in 85 (by decide +kernel) (by decide +kernel), rfl, rfl, rfl⟩
theorem fl_X4_31 : fa_fld RX4 31 4 5 .int false := ⟨RX4, TX4, 9, tyX4, rfl, fa_ly_X4, tyX4_ok, nmX4, by decide, rfl, fa_in 88 (by decide +kernel) (by decide +kernel), rfl, rfl, rfl⟩
theorem fl_X4_34 : fa_fld RX4 34 4 6 .int false := ⟨RX4, TX4, 9, tyX4, rfl, fa_ly_X4, tyX4_ok, nmX4, by decide, rfl, fa_in 92 (by decide +kernel) (by decide +kernel), rfl, rfl, rfl⟩
theorem ln_X4_37 : fa_lnS RX4 37 yJ7_fill_53178 cJ7_fill_53178 4 (none : Option FieldType) 2 := ⟨fa_in 282 (by decide +kernel) (by decide +kernel), fa_in 283 (by decide +kernel) (by decide +kernel), fa_in 10 (by decide +kernel) (by decide +kernel), fa_in 284 (by decide +kernel) (by decide +kernel), by decide +kernel⟩
theorem fl_X5_9 : fa_fld RX5 9 5 1 (tyX5 1) true := ⟨RX5, TX5, 2, tyX5, rfl, fa_ly_X5, tyX5_ok, nmX5, by decide, rfl, fa_in 59 (by decide +kernel) (by decide +kernel), rfl, rfl, rfl⟩
theorem fl_X5_15 : fa_fld RX5 15 5 0 .int false := ⟨RX5, TX5, 2, tyX5, rfl, fa_ly_X5, tyX5_ok, nmX5, by decide, rfl, fa_in 57 (by decide +kernel) (by decide +kernel), rfl, rfl, rfl⟩
theorem fl_X5_25 : fa_fld RX5 25 4 0 .int false := ⟨RX4, TX4, 9, tyX4, rfl, fa_ly_X4, tyX4_ok, nmX4, by decide, rfl, fa_in 71 (by decide +kernel) (by decide +kernel), rfl, rfl, rfl⟩
theorem fl_X5_30 : fa_fld RX5 30 4 1 .int false := ⟨RX4, TX4, 9, tyX4, rfl, fa_ly_X4, tyX4_ok, nmX4, by decide, rfl, fa_in 75 (by decide +kernel) (by decide +kernel), rfl, rfl, rfl⟩
theorem fl_X5_33 : fa_fld RX5 33 4 2 .int false := ⟨RX4, TX4, 9, tyX4, rfl, fa_ly_X4, tyX4_ok, nmX4, by decide, rfl, fa_in 79 (by decide +kernel) (by decide +kernel), rfl, rfl, rfl⟩
theorem fl_X5_36 : fa_fld RX5 36 4 5 .int false := ⟨RX4, TX4, 9, tyX4, rfl, fa_ly_X4, tyX4_ok, nmX4, by decide, rfl, fa_in 89 (by decide +kernel) (by decide +kernel), rfl, rfl, rfl⟩
theorem ln_X6_9 : Cond.methodLink RX6 9 yX3_init ∈ fa_tbl ∧ Cond.instanceMethod yX3_init ∈ fa_tbl ∧ Cond.initialized yX3_init.cls ∈ fa_tbl ∧ Cond.code yX3_init cX3_init 2 none ∈ fa_tbl := ⟨fa_in 22 (by decide +kernel) (by decide +kernel), fa_in 23 (by decide +kernel) (by decide +kernel), fa_in 2 (by decide +kernel) (by decide +kernel), fa_in 24 (by decide +kernel) (by decide +kernel)⟩
theorem fl_X6_10 : fa_fld RX6 10 6 0 (tyX6 0) true := ⟨RX6, TX6, 7, tyX6, rfl, fa_ly_X6, tyX6_ok, nmX6, by decide, rfl, fa_in 221 (by decide +kernel) (by decide +kernel), rfl, rfl, rfl⟩
theorem fl_X6_16 : fa_fld RX6 16 6 1 (tyX6 1) true := ⟨RX6, TX6, 7, tyX6, rfl, fa_ly_X6, tyX6_ok, nmX6, by decide, rfl, fa_in 222 (by decide +kernel) (by decide +kernel), rfl, rfl, rfl⟩
theorem ln_X6_21 : Cond.methodLink RX6 21 yX0_init ∈ fa_tbl ∧ Cond.instanceMethod yX0_init ∈ fa_tbl ∧ Cond.initialized yX0_init.cls ∈ fa_tbl ∧ Cond.code yX0_init cX0_init 2 none ∈ fa_tbl := ⟨fa_in 175 (by decide +kernel) (by decide +kernel), fa_in 176 (by decide +kernel) (by decide +kernel), fa_in 7 (by decide +kernel) (by decide +kernel), fa_in 177 (by decide +kernel) (by decide +kernel)⟩
theorem fl_X6_22 : fa_fld RX6 22 6 2 (tyX6 2) true := ⟨RX6, TX6, 7, tyX6, rfl, fa_ly_X6, tyX6_ok, nmX6, by decide, rfl, fa_in 223 (by decide +kernel) (by decide +kernel), rfl, rfl, rfl⟩
theorem ln_X6_28 : Cond.instanceMethod yX1_init ∈ fa_tbl ∧ Cond.initialized yX1_init.cls ∈ fa_tbl ∧ Cond.code yX1_init cX1_init 1 none ∈ fa_tbl := ⟨fa_in 193 (by decide +kernel) (by decide +kernel), fa_in 8 (by decide +kernel) (by decide +kernel), fa_in 194 (by decide +kernel) (by decide +kernel)⟩
theorem fl_X6_29 : fa_fld RX6 29 6 3 (tyX6 3) true := ⟨RX6, TX6, 7, tyX6, rfl, fa_ly_X6, tyX6_ok, nmX6, by decide, rfl, fa_in 224 (by decide +kernel) (by decide +kernel), rfl, rfl, rfl⟩
theorem ln_X6_33 : fa_lnV RX6 33 RX0 yX0_draft cX0_draft 2 (none : Option FieldType) 1 := ⟨fa_in 247 (by decide +kernel) (by decide +kernel), fa_in 248 (by decide +kernel) (by decide +kernel), fa_in 249 (by decide +kernel) (by decide +kernel), fa_in 7 (by decide +kernel) (by decide +kernel), fa_in 250 (by decide +kernel) (by decide +kernel), by decide +kernel⟩
theorem ln_X6_37 : fa_lnV RX6 37 RX3 yX3_addFile cX3_addFile 3 (some FieldType.int) 2 := ⟨fa_in 270 (by decide +kernel) (by decide +kernel), fa_in 271 (by decide +kernel) (by decide +kernel), fa_in 272 (by decide +kernel) (by decide +kernel), fa_in 2 (by decide +kernel) (by decide +kernel), fa_in 273 (by decide +kernel) (by decide +kernel), by decide +kernel⟩
theorem ln_X6_41 : fa_lnV RX6 41 RX6 yX6_recorded cX6_recorded 2 (some FieldType.int) 1 := ⟨fa_in 285 (by decide +kernel) (by decide +kernel), fa_in 287 (by decide +kernel) (by decide +kernel), fa_inS 0 (by decide +kernel) (by decide +kernel), fa_in 1 (by decide +kernel) (by decide +kernel), fa_in 288 (by decide +kernel) (by decide +kernel), by decide +kernel⟩
theorem ln_X6_45 : fa_lnV RX6 45 RX3 yX3_askFor cX3_askFor 3 (some FieldType.int) 1 := ⟨fa_in 300 (by decide +kernel) (by decide +kernel), fa_in 301 (by decide +kernel) (by decide +kernel), fa_in 302 (by decide +kernel) (by decide +kernel), fa_in 2 (by decide +kernel) (by decide +kernel), fa_in 303 (by decide +kernel) (by decide +kernel), by decide +kernel⟩
theorem ln_X6_48 : fa_lnV RX6 48 RX3 yX3_putSeal cX3_putSeal 5 (some FieldType.int) 3 := ⟨fa_in 316 (by decide +kernel) (by decide +kernel), fa_in 317 (by decide +kernel) (by decide +kernel), fa_in 318 (by decide +kernel) (by decide +kernel), fa_in 2 (by decide +kernel) (by decide +kernel), fa_in 319 (by decide +kernel) (by decide +kernel), by decide +kernel⟩
theorem ln_X6_52 : fa_lnV RX6 52 RX3 yX3_takeSeal cX3_takeSeal 4 (some FieldType.int) 2 := ⟨fa_in 337 (by decide +kernel) (by decide +kernel), fa_in 338 (by decide +kernel) (by decide +kernel), fa_in 339 (by decide +kernel) (by decide +kernel), fa_in 2 (by decide +kernel) (by decide +kernel), fa_in 340 (by decide +kernel) (by decide +kernel), by decide +kernel⟩
theorem ln_X6_55 : fa_lnV RX6 55 RX3 yX3_putReference cX3_putReference 4 (some FieldType.int) 2 := ⟨fa_in 345 (by decide +kernel) (by decide +kernel), fa_in 346 (by decide +kernel) (by decide +kernel), fa_in 347 (by decide +kernel) (by decide +kernel), fa_in 2 (by decide +kernel) (by decide +kernel), fa_in 348 (by decide +kernel) (by decide +kernel), by decide +kernel⟩
theorem ln_X6_58 : fa_lnV RX6 58 RX3 yX3_putReservation cX3_putReservation 3 (some FieldType.int) 2 := ⟨fa_in 357 (by decide +kernel) (by decide +kernel), fa_in 358 (by decide +kernel) (by decide +kernel), fa_in 359 (by decide +kernel) (by decide +kernel), fa_in 2 (by decide +kernel) (by decide +kernel), fa_in 360 (by decide +kernel) (by decide +kernel), by decide +kernel⟩
theorem ln_X6_61 : fa_lnV RX6 61 RX3 yX3_takeReservation cX3_takeReservation 4 (some FieldType.int) 2 := ⟨fa_in 377 (by decide +kernel) (by decide +kernel), fa_in 378 (by decide +kernel) (by decide +kernel), fa_in 379 (by decide +kernel) (by decide +kernel), fa_in 2 (by decide +kernel) (by decide +kernel), fa_in 380 (by decide +kernel) (by decide +kernel), by decide +kernel⟩
theorem ln_X6_64 : fa_lnV RX6 64 RX3 yX3_passDays cX3_passDays 4 (some FieldType.int) 1 := ⟨fa_in 389 (by decide +kernel) (by decide +kernel), fa_in 390 (by decide +kernel) (by decide +kernel), fa_in 391 (by decide +kernel) (by decide +kernel), fa_in 2 (by decide +kernel) (by decide +kernel), fa_in 392 (by decide +kernel) (by decide +kernel), by decide +kernel⟩
theorem ln_X6_67 : fa_lnV RX6 67 RX3 yX3_changeSetting cX3_changeSetting 4 (some FieldType.int) 2 := ⟨fa_in 433 (by decide +kernel) (by decide +kernel), fa_in 434 (by decide +kernel) (by decide +kernel), fa_in 435 (by decide +kernel) (by decide +kernel), fa_in 2 (by decide +kernel) (by decide +kernel), fa_in 436 (by decide +kernel) (by decide +kernel), by decide +kernel⟩
theorem ln_X6_70 : fa_lnV RX6 70 RX1 yX1_appendSign cX1_appendSign 2 (some FieldType.boolean) 1 := ⟨fa_in 448 (by decide +kernel) (by decide +kernel), fa_in 449 (by decide +kernel) (by decide +kernel), fa_in 450 (by decide +kernel) (by decide +kernel), fa_in 8 (by decide +kernel) (by decide +kernel), fa_in 451 (by decide +kernel) (by decide +kernel), by decide +kernel⟩
theorem fl_X6_74 : fa_fld RX6 74 1 1 .int false := ⟨RX1, TX1, 6, tyX1, rfl, fa_ly_X1, tyX1_ok, nmX1, by decide, rfl, fa_in 198 (by decide +kernel) (by decide +kernel), rfl, rfl, rfl⟩
theorem ln_X6_78 : fa_lnV RX6 78 RX1 yX1_findFault cX1_findFault 2 (some FieldType.int) 0 := ⟨fa_in 460 (by decide +kernel) (by decide +kernel), fa_in 461 (by decide +kernel) (by decide +kernel), fa_in 462 (by decide +kernel) (by decide +kernel), fa_in 8 (by decide +kernel) (by decide +kernel), fa_in 463 (by decide +kernel) (by decide +kernel), by decide +kernel⟩
theorem fl_X6_82 : fa_fld RX6 82 6 6 .int false := ⟨RX6, TX6, 7, tyX6, rfl, fa_ly_X6, tyX6_ok, nmX6, by decide, rfl, fa_in 227 (by decide +kernel) (by decide +kernel), rfl, rfl, rfl⟩
theorem fl_X6_85 : fa_fld RX6 85 1 2 .int false := ⟨RX1, TX1, 6, tyX1, rfl, fa_ly_X1, tyX1_ok, nmX1, by decide, rfl, fa_in 200 (by decide +kernel) (by decide +kernel), rfl, rfl, rfl⟩
theorem ln_X6_88 : fa_lnV RX6 88 RX1 yX1_readOrder cX1_readOrder 1 (some FieldType.boolean) 0 := ⟨fa_in 496 (by decide +kernel) (by decide +kernel), fa_in 465 (by decide +kernel) (by decide +kernel), fa_in 466 (by decide +kernel) (by decide +kernel), fa_in 8 (by decide +kernel) (by decide +kernel), fa_in 467 (by decide +kernel) (by decide +kernel), by decide +kernel⟩
theorem ln_X6_92 : fa_lnV RX6 92 RX6 yX6_obey cX6_obey 1 (some FieldType.int) 0 := ⟨fa_in 497 (by decide +kernel) (by decide +kernel), fa_in 499 (by decide +kernel) (by decide +kernel), fa_inS 1 (by decide +kernel) (by decide +kernel), fa_in 1 (by decide +kernel) (by decide +kernel), fa_in 500 (by decide +kernel) (by decide +kernel), by decide +kernel⟩
theorem ln_X6_95 : fa_lnS RX6 95 yX6_isError cX6_isError 1 (some FieldType.boolean) 1 := ⟨fa_in 289 (by decide +kernel) (by decide +kernel), fa_in 290 (by decide +kernel) (by decide +kernel), fa_in 1 (by decide +kernel) (by decide +kernel), fa_in 291 (by decide +kernel) (by decide +kernel), by decide +kernel⟩
theorem ln_X6_99 : fa_lnV RX6 99 RX6 yX6_report cX6_report 4 (none : Option FieldType) 3 := ⟨fa_in 501 (by decide +kernel) (by decide +kernel), fa_in 503 (by decide +kernel) (by decide +kernel), fa_inS 2 (by decide +kernel) (by decide +kernel), fa_in 1 (by decide +kernel) (by decide +kernel), fa_in 504 (by decide +kernel) (by decide +kernel), by decide +kernel⟩
theorem ln_X6_103 : fa_lnV RX6 103 RX1 yX1_readSign cX1_readSign 2 (some FieldType.boolean) 1 := ⟨fa_in 505 (by decide +kernel) (by decide +kernel), fa_in 489 (by decide +kernel) (by decide +kernel), fa_in 490 (by decide +kernel) (by decide +kernel), fa_in 8 (by decide +kernel) (by decide +kernel), fa_in 491 (by decide +kernel) (by decide +kernel), by decide +kernel⟩
theorem ln_X6_106 : fa_lnV RX6 106 RX0 yX0_keepDraft cX0_keepDraft 3 (none : Option FieldType) 0 := ⟨fa_in 292 (by decide +kernel) (by decide +kernel), fa_in 293 (by decide +kernel) (by decide +kernel), fa_in 294 (by decide +kernel) (by decide +kernel), fa_in 7 (by decide +kernel) (by decide +kernel), fa_in 295 (by decide +kernel) (by decide +kernel), by decide +kernel⟩
theorem fl_X6_109 : fa_fld RX6 109 6 4 .int false := ⟨RX6, TX6, 7, tyX6, rfl, fa_ly_X6, tyX6_ok, nmX6, by decide, rfl, fa_in 225 (by decide +kernel) (by decide +kernel), rfl, rfl, rfl⟩
theorem fl_X6_112 : fa_fld RX6 112 6 5 .int false := ⟨RX6, TX6, 7, tyX6, rfl, fa_ly_X6, tyX6_ok, nmX6, by decide, rfl, fa_in 226 (by decide +kernel) (by decide +kernel), rfl, rfl, rfl⟩
theorem ln_X6_115 : fa_lnV RX6 115 RX0 yX0_takeLatest cX0_takeLatest 1 (some (FieldType.object "ForgettingArchive$State")) 0 := ⟨fa_in 514 (by decide +kernel) (by decide +kernel), fa_in 515 (by decide +kernel) (by decide +kernel), fa_in 516 (by decide +kernel) (by decide +kernel), fa_in 7 (by decide +kernel) (by decide +kernel), fa_in 517 (by decide +kernel) (by decide +kernel), by decide +kernel⟩
theorem ln_X6_119 : fa_lnV RX6 119 RX3 yX3_copyFrom cX3_copyFrom 3 (none : Option FieldType) 1 := ⟨fa_in 518 (by decide +kernel) (by decide +kernel), fa_in 252 (by decide +kernel) (by decide +kernel), fa_in 253 (by decide +kernel) (by decide +kernel), fa_in 2 (by decide +kernel) (by decide +kernel), fa_in 254 (by decide +kernel) (by decide +kernel), by decide +kernel⟩
theorem fl_X6_122 : fa_fld RX6 122 0 0 .int false := ⟨RX0, TX0, 2, tyX0, rfl, fa_ly_X0, tyX0_ok, nmX0, by decide, rfl, fa_in 183 (by decide +kernel) (by decide +kernel), rfl, rfl, rfl⟩
theorem fl_X6_125 : fa_fld RX6 125 3 0 .int false := ⟨RX3, TX3, 12, tyX3, rfl, fa_ly_X3, tyX3_ok, nmX3, by decide, rfl, fa_in 125 (by decide +kernel) (by decide +kernel), rfl, rfl, rfl⟩
theorem fl_X6_128 : fa_fld RX6 128 3 1 .int false := ⟨RX3, TX3, 12, tyX3, rfl, fa_ly_X3, tyX3_ok, nmX3, by decide, rfl, fa_in 127 (by decide +kernel) (by decide +kernel), rfl, rfl, rfl⟩
theorem fl_X6_131 : fa_fld RX6 131 3 2 .int false := ⟨RX3, TX3, 12, tyX3, rfl, fa_ly_X3, tyX3_ok, nmX3, by decide, rfl, fa_in 129 (by decide +kernel) (by decide +kernel), rfl, rfl, rfl⟩
theorem ln_X6_134 : fa_lnV RX6 134 RX3 yX3_storedPages cX3_storedPages 3 (some FieldType.int) 0 := ⟨fa_in 527 (by decide +kernel) (by decide +kernel), fa_in 275 (by decide +kernel) (by decide +kernel), fa_in 276 (by decide +kernel) (by decide +kernel), fa_in 2 (by decide +kernel) (by decide +kernel), fa_in 277 (by decide +kernel) (by decide +kernel), by decide +kernel⟩
theorem fl_X6_137 : fa_fld RX6 137 3 3 .int false := ⟨RX3, TX3, 12, tyX3, rfl, fa_ly_X3, tyX3_ok, nmX3, by decide, rfl, fa_in 131 (by decide +kernel) (by decide +kernel), rfl, rfl, rfl⟩
theorem fl_X6_140 : fa_fld RX6 140 3 4 .int false := ⟨RX3, TX3, 12, tyX3, rfl, fa_ly_X3, tyX3_ok, nmX3, by decide, rfl, fa_in 133 (by decide +kernel) (by decide +kernel), rfl, rfl, rfl⟩
theorem fl_X6_143 : fa_fld RX6 143 3 5 .int false := ⟨RX3, TX3, 12, tyX3, rfl, fa_ly_X3, tyX3_ok, nmX3, by decide, rfl, fa_in 135 (by decide +kernel) (by decide +kernel), rfl, rfl, rfl⟩
theorem fl_X6_146 : fa_fld RX6 146 3 6 .int false := ⟨RX3, TX3, 12, tyX3, rfl, fa_ly_X3, tyX3_ok, nmX3, by decide, rfl, fa_in 137 (by decide +kernel) (by decide +kernel), rfl, rfl, rfl⟩
theorem fl_X6_149 : fa_fld RX6 149 3 7 .int false := ⟨RX3, TX3, 12, tyX3, rfl, fa_ly_X3, tyX3_ok, nmX3, by decide, rfl, fa_in 139 (by decide +kernel) (by decide +kernel), rfl, rfl, rfl⟩
theorem fl_X6_152 : fa_fld RX6 152 3 9 (tyX3 9) true := ⟨RX3, TX3, 12, tyX3, rfl, fa_ly_X3, tyX3_ok, nmX3, by decide, rfl, fa_in 143 (by decide +kernel) (by decide +kernel), rfl, rfl, rfl⟩
theorem fl_X6_156 : fa_fld RX6 156 2 0 .int false := ⟨RX2, TX2, 3, tyX2, rfl, fa_ly_X2, tyX2_ok, nmX2, by decide, rfl, fa_in 36 (by decide +kernel) (by decide +kernel), rfl, rfl, rfl⟩
theorem fl_X6_159 : fa_fld RX6 159 3 10 (tyX3 10) true := ⟨RX3, TX3, 12, tyX3, rfl, fa_ly_X3, tyX3_ok, nmX3, by decide, rfl, fa_in 145 (by decide +kernel) (by decide +kernel), rfl, rfl, rfl⟩
theorem fl_X6_163 : fa_fld RX6 163 5 0 .int false := ⟨RX5, TX5, 2, tyX5, rfl, fa_ly_X5, tyX5_ok, nmX5, by decide, rfl, fa_in 58 (by decide +kernel) (by decide +kernel), rfl, rfl, rfl⟩
theorem fl_X6_166 : fa_fld RX6 166 3 8 (tyX3 8) true := ⟨RX3, TX3, 12, tyX3, rfl, fa_ly_X3, tyX3_ok, nmX3, by decide, rfl, fa_in 141 (by decide +kernel) (by decide +kernel), rfl, rfl, rfl⟩
theorem fl_X6_170 : fa_fld RX6 170 4 0 .int false := ⟨RX4, TX4, 9, tyX4, rfl, fa_ly_X4, tyX4_ok, nmX4, by decide, rfl, fa_in 73 (by decide +kernel) (by decide +kernel), rfl, rfl, rfl⟩
theorem ln_X6_175 : fa_lnV RX6 175 RX3 yX3_find cX3_find 3 (some (FieldType.object "ForgettingArchive$StoredFile")) 1 := ⟨fa_in 536 (by decide +kernel) (by decide +kernel), fa_in 305 (by decide +kernel) (by decide +kernel), fa_in 306 (by decide +kernel) (by decide +kernel), fa_in 2 (by decide +kernel) (by decide +kernel), fa_in 307 (by decide +kernel) (by decide +kernel), by decide +kernel⟩
theorem fl_X6_179 : fa_fld RX6 179 4 1 .int false := ⟨RX4, TX4, 9, tyX4, rfl, fa_ly_X4, tyX4_ok, nmX4, by decide, rfl, fa_in 76 (by decide +kernel) (by decide +kernel), rfl, rfl, rfl⟩
theorem fl_X6_182 : fa_fld RX6 182 4 2 .int false := ⟨RX4, TX4, 9, tyX4, rfl, fa_ly_X4, tyX4_ok, nmX4, by decide, rfl, fa_in 81 (by decide +kernel) (by decide +kernel), rfl, rfl, rfl⟩
theorem fl_X6_185 : fa_fld RX6 185 4 3 .int false := ⟨RX4, TX4, 9, tyX4, rfl, fa_ly_X4, tyX4_ok, nmX4, by decide, rfl, fa_in 83 (by decide +kernel) (by decide +kernel), rfl, rfl, rfl⟩
theorem fl_X6_188 : fa_fld RX6 188 4 4 .int false := ⟨RX4, TX4, 9, tyX4, rfl, fa_ly_X4, tyX4_ok, nmX4, by decide, rfl, fa_in 87 (by decide +kernel) (by decide +kernel), rfl, rfl, rfl⟩
theorem fl_X6_191 : fa_fld RX6 191 4 5 .int false := ⟨RX4, TX4, 9, tyX4, rfl, fa_ly_X4, tyX4_ok, nmX4, by decide, rfl, fa_in 91 (by decide +kernel) (by decide +kernel), rfl, rfl, rfl⟩
theorem fl_X6_194 : fa_fld RX6 194 4 6 .int false := ⟨RX4, TX4, 9, tyX4, rfl, fa_ly_X4, tyX4_ok, nmX4, by decide, rfl, fa_in 94 (by decide +kernel) (by decide +kernel), rfl, rfl, rfl⟩
theorem ln_X6_197 : fa_lnV RX6 197 RX3 yX3_dueDay cX3_dueDay 4 (some FieldType.int) 1 := ⟨fa_in 537 (by decide +kernel) (by decide +kernel), fa_in 410 (by decide +kernel) (by decide +kernel), fa_in 411 (by decide +kernel) (by decide +kernel), fa_in 2 (by decide +kernel) (by decide +kernel), fa_in 412 (by decide +kernel) (by decide +kernel), by decide +kernel⟩
theorem ln_X6_201 : fa_lnV RX6 201 RX4 yX4_holdersOn cX4_holdersOn 5 (some FieldType.int) 1 := ⟨fa_in 538 (by decide +kernel) (by decide +kernel), fa_in 324 (by decide +kernel) (by decide +kernel), fa_in 325 (by decide +kernel) (by decide +kernel), fa_in 5 (by decide +kernel) (by decide +kernel), fa_in 326 (by decide +kernel) (by decide +kernel), by decide +kernel⟩
theorem ln_X6_204 : fa_lnV RX6 204 RX3 yX3_referrersOf cX3_referrersOf 4 (some FieldType.int) 1 := ⟨fa_in 539 (by decide +kernel) (by decide +kernel), fa_in 350 (by decide +kernel) (by decide +kernel), fa_in 351 (by decide +kernel) (by decide +kernel), fa_in 2 (by decide +kernel) (by decide +kernel), fa_in 352 (by decide +kernel) (by decide +kernel), by decide +kernel⟩
theorem ln_X6_207 : fa_lnV RX6 207 RX2 yX2_numberFor cX2_numberFor 4 (some FieldType.int) 1 := ⟨fa_in 540 (by decide +kernel) (by decide +kernel), fa_in 414 (by decide +kernel) (by decide +kernel), fa_in 415 (by decide +kernel) (by decide +kernel), fa_in 3 (by decide +kernel) (by decide +kernel), fa_in 416 (by decide +kernel) (by decide +kernel), by decide +kernel⟩
theorem ln_X6_210 : fa_lnS RX6 210 yX6_isNoHolder cX6_isNoHolder 1 (some FieldType.boolean) 1 := ⟨fa_in 545 (by decide +kernel) (by decide +kernel), fa_in 321 (by decide +kernel) (by decide +kernel), fa_in 1 (by decide +kernel) (by decide +kernel), fa_in 322 (by decide +kernel) (by decide +kernel), by decide +kernel⟩
theorem fl_X6_213 : fa_fld RX6 213 4 7 (tyX4 7) true := ⟨RX4, TX4, 9, tyX4, rfl, fa_ly_X4, tyX4_ok, nmX4, by decide, rfl, fa_in 97 (by decide +kernel) (by decide +kernel), rfl, rfl, rfl⟩
theorem ln_X6_217 : fa_lnV RX6 217 RX5 yX5_cellOf cX5_cellOf 3 (some FieldType.int) 2 := ⟨fa_in 550 (by decide +kernel) (by decide +kernel), fa_in 551 (by decide +kernel) (by decide +kernel), fa_in 552 (by decide +kernel) (by decide +kernel), fa_in 4 (by decide +kernel) (by decide +kernel), fa_in 553 (by decide +kernel) (by decide +kernel), by decide +kernel⟩
theorem fl_X6_220 : fa_fld RX6 220 2 1 (tyX2 1) true := ⟨RX2, TX2, 3, tyX2, rfl, fa_ly_X2, tyX2_ok, nmX2, by decide, rfl, fa_in 39 (by decide +kernel) (by decide +kernel), rfl, rfl, rfl⟩
theorem fl_X6_222 : fa_fld RX6 222 2 2 (tyX2 2) true := ⟨RX2, TX2, 3, tyX2, rfl, fa_ly_X2, tyX2_ok, nmX2, by decide, rfl, fa_in 42 (by decide +kernel) (by decide +kernel), rfl, rfl, rfl⟩
theorem ln_X6_225 : fa_lnS RX6 225 yX6_isNoSetting cX6_isNoSetting 1 (some FieldType.boolean) 1 := ⟨fa_in 562 (by decide +kernel) (by decide +kernel), fa_in 438 (by decide +kernel) (by decide +kernel), fa_in 1 (by decide +kernel) (by decide +kernel), fa_in 439 (by decide +kernel) (by decide +kernel), by decide +kernel⟩
theorem fl_X6_228 : fa_fld RX6 228 3 11 (tyX3 11) true := ⟨RX3, TX3, 12, tyX3, rfl, fa_ly_X3, tyX3_ok, nmX3, by decide, rfl, fa_in 147 (by decide +kernel) (by decide +kernel), rfl, rfl, rfl⟩
theorem ln_X6_231 : fa_lnV RX6 231 RX3 yX3_sumOfAges cX3_sumOfAges 3 (some FieldType.int) 0 := ⟨fa_in 567 (by decide +kernel) (by decide +kernel), fa_in 568 (by decide +kernel) (by decide +kernel), fa_in 569 (by decide +kernel) (by decide +kernel), fa_in 2 (by decide +kernel) (by decide +kernel), fa_in 570 (by decide +kernel) (by decide +kernel), by decide +kernel⟩
theorem ln_X6_234 : fa_lnV RX6 234 RX3 yX3_markReasons cX3_markReasons 2 (none : Option FieldType) 0 := ⟨fa_in 575 (by decide +kernel) (by decide +kernel), fa_in 402 (by decide +kernel) (by decide +kernel), fa_in 403 (by decide +kernel) (by decide +kernel), fa_in 2 (by decide +kernel) (by decide +kernel), fa_in 404 (by decide +kernel) (by decide +kernel), by decide +kernel⟩
theorem fl_X6_237 : fa_fld RX6 237 4 8 .int false := ⟨RX4, TX4, 9, tyX4, rfl, fa_ly_X4, tyX4_ok, nmX4, by decide, rfl, fa_in 99 (by decide +kernel) (by decide +kernel), rfl, rfl, rfl⟩
theorem ln_X6_240 : fa_lnV RX6 240 RX6 yX6_stays cX6_stays 3 (some FieldType.int) 1 := ⟨fa_in 580 (by decide +kernel) (by decide +kernel), fa_in 572 (by decide +kernel) (by decide +kernel), fa_in 573 (by decide +kernel) (by decide +kernel), fa_in 1 (by decide +kernel) (by decide +kernel), fa_in 574 (by decide +kernel) (by decide +kernel), by decide +kernel⟩
theorem ln_X6_243 : fa_lnV RX6 243 RX3 yX3_lowestKeeperOf cX3_lowestKeeperOf 3 (some FieldType.int) 1 := ⟨fa_in 581 (by decide +kernel) (by decide +kernel), fa_in 582 (by decide +kernel) (by decide +kernel), fa_in 583 (by decide +kernel) (by decide +kernel), fa_in 2 (by decide +kernel) (by decide +kernel), fa_in 584 (by decide +kernel) (by decide +kernel), by decide +kernel⟩
theorem ln_X6_246 : fa_lnV RX6 246 RX3 yX3_passDay cX3_passDay 1 (some FieldType.int) 0 := ⟨fa_in 589 (by decide +kernel) (by decide +kernel), fa_in 394 (by decide +kernel) (by decide +kernel), fa_in 395 (by decide +kernel) (by decide +kernel), fa_in 2 (by decide +kernel) (by decide +kernel), fa_in 396 (by decide +kernel) (by decide +kernel), by decide +kernel⟩
theorem fl_X6_249 : fa_fld RX6 249 1 3 .char false := ⟨RX1, TX1, 6, tyX1, rfl, fa_ly_X1, tyX1_ok, nmX1, by decide, rfl, fa_in 202 (by decide +kernel) (by decide +kernel), rfl, rfl, rfl⟩
theorem fl_X6_253 : fa_fld RX6 253 1 4 .int false := ⟨RX1, TX1, 6, tyX1, rfl, fa_ly_X1, tyX1_ok, nmX1, by decide, rfl, fa_in 204 (by decide +kernel) (by decide +kernel), rfl, rfl, rfl⟩
theorem fl_X6_256 : fa_fld RX6 256 1 5 .int false := ⟨RX1, TX1, 6, tyX1, rfl, fa_ly_X1, tyX1_ok, nmX1, by decide, rfl, fa_in 206 (by decide +kernel) (by decide +kernel), rfl, rfl, rfl⟩
theorem fl_X7_7 : fa_fld RX7 7 7 0 (tyX7 0) true := ⟨RX7, TX7, 13, tyX7, rfl, fa_ly_X7, tyX7_ok, nmX7, by decide, rfl, fa_in 600 (by decide +kernel) (by decide +kernel), rfl, rfl, rfl⟩
theorem fl_X7_13 : fa_fld RX7 13 7 1 (tyX7 1) true := ⟨RX7, TX7, 13, tyX7, rfl, fa_ly_X7, tyX7_ok, nmX7, by decide, rfl, fa_in 601 (by decide +kernel) (by decide +kernel), rfl, rfl, rfl⟩
theorem fl_X7_16 : fa_fld RX7 16 7 2 (tyX7 2) true := ⟨RX7, TX7, 13, tyX7, rfl, fa_ly_X7, tyX7_ok, nmX7, by decide, rfl, fa_in 602 (by decide +kernel) (by decide +kernel), rfl, rfl, rfl⟩
theorem fl_X7_19 : fa_fld RX7 19 7 3 (tyX7 3) true := ⟨RX7, TX7, 13, tyX7, rfl, fa_ly_X7, tyX7_ok, nmX7, by decide, rfl, fa_in 603 (by decide +kernel) (by decide +kernel), rfl, rfl, rfl⟩
theorem fl_X7_22 : fa_fld RX7 22 7 4 (tyX7 4) true := ⟨RX7, TX7, 13, tyX7, rfl, fa_ly_X7, tyX7_ok, nmX7, by decide, rfl, fa_in 604 (by decide +kernel) (by decide +kernel), rfl, rfl, rfl⟩
theorem fl_X7_26 : fa_fld RX7 26 7 5 (tyX7 5) true := ⟨RX7, TX7, 13, tyX7, rfl, fa_ly_X7, tyX7_ok, nmX7, by decide, rfl, fa_in 605 (by decide +kernel) (by decide +kernel), rfl, rfl, rfl⟩
theorem fl_X7_29 : fa_fld RX7 29 7 6 (tyX7 6) true := ⟨RX7, TX7, 13, tyX7, rfl, fa_ly_X7, tyX7_ok, nmX7, by decide, rfl, fa_in 606 (by decide +kernel) (by decide +kernel), rfl, rfl, rfl⟩
theorem fl_X7_32 : fa_fld RX7 32 7 7 (tyX7 7) true := ⟨RX7, TX7, 13, tyX7, rfl, fa_ly_X7, tyX7_ok, nmX7, by decide, rfl, fa_in 607 (by decide +kernel) (by decide +kernel), rfl, rfl, rfl⟩
theorem ln_X7_36 : fa_lnS RX7 36 yX7_f cX7_f 1 (some FieldType.int) 1 := ⟨fa_in 660 (by decide +kernel) (by decide +kernel), fa_in 661 (by decide +kernel) (by decide +kernel), fa_in 9 (by decide +kernel) (by decide +kernel), fa_in 662 (by decide +kernel) (by decide +kernel), by decide +kernel⟩
theorem fl_X7_40 : fa_fld RX7 40 7 10 .int false := ⟨RX7, TX7, 13, tyX7, rfl, fa_ly_X7, tyX7_ok, nmX7, by decide, rfl, fa_in 610 (by decide +kernel) (by decide +kernel), rfl, rfl, rfl⟩
theorem ln_X7_44 : fa_lnV RX7 44 RX7 yX7_holds cX7_holds 3 (some FieldType.boolean) 2 := ⟨fa_in 695 (by decide +kernel) (by decide +kernel), fa_in 697 (by decide +kernel) (by decide +kernel), fa_inS 12 (by decide +kernel) (by decide +kernel), fa_in 9 (by decide +kernel) (by decide +kernel), fa_in 698 (by decide +kernel) (by decide +kernel), by decide +kernel⟩
theorem ln_X7_48 : fa_lnV RX7 48 RX7 yX7_due cX7_due 4 (some FieldType.int) 1 := ⟨fa_in 766 (by decide +kernel) (by decide +kernel), fa_in 768 (by decide +kernel) (by decide +kernel), fa_inS 24 (by decide +kernel) (by decide +kernel), fa_in 9 (by decide +kernel) (by decide +kernel), fa_in 769 (by decide +kernel) (by decide +kernel), by decide +kernel⟩
theorem ln_X7_51 : fa_lnV RX7 51 RX7 yX7_sealing cX7_sealing 4 (some FieldType.int) 1 := ⟨fa_in 691 (by decide +kernel) (by decide +kernel), fa_in 693 (by decide +kernel) (by decide +kernel), fa_inS 11 (by decide +kernel) (by decide +kernel), fa_in 9 (by decide +kernel) (by decide +kernel), fa_in 694 (by decide +kernel) (by decide +kernel), by decide +kernel⟩
theorem ln_X7_54 : fa_lnV RX7 54 RX7 yX7_reservations cX7_reservations 4 (some FieldType.int) 1 := ⟨fa_in 770 (by decide +kernel) (by decide +kernel), fa_in 772 (by decide +kernel) (by decide +kernel), fa_inS 25 (by decide +kernel) (by decide +kernel), fa_in 9 (by decide +kernel) (by decide +kernel), fa_in 773 (by decide +kernel) (by decide +kernel), by decide +kernel⟩
theorem ln_X7_57 : fa_lnV RX7 57 RX7 yX7_ownReason cX7_ownReason 2 (some FieldType.int) 1 := ⟨fa_in 762 (by decide +kernel) (by decide +kernel), fa_in 764 (by decide +kernel) (by decide +kernel), fa_inS 23 (by decide +kernel) (by decide +kernel), fa_in 9 (by decide +kernel) (by decide +kernel), fa_in 765 (by decide +kernel) (by decide +kernel), by decide +kernel⟩
theorem ln_X7_60 : fa_lnV RX7 60 RX7 yX7_placeOf cX7_placeOf 4 (some FieldType.int) 1 := ⟨fa_in 675 (by decide +kernel) (by decide +kernel), fa_in 677 (by decide +kernel) (by decide +kernel), fa_inS 8 (by decide +kernel) (by decide +kernel), fa_in 9 (by decide +kernel) (by decide +kernel), fa_in 678 (by decide +kernel) (by decide +kernel), by decide +kernel⟩
theorem ln_X7_63 : fa_lnV RX7 63 RX7 yX7_leaveTrace cX7_leaveTrace 3 (none : Option FieldType) 1 := ⟨fa_in 778 (by decide +kernel) (by decide +kernel), fa_in 780 (by decide +kernel) (by decide +kernel), fa_inS 27 (by decide +kernel) (by decide +kernel), fa_in 9 (by decide +kernel) (by decide +kernel), fa_in 781 (by decide +kernel) (by decide +kernel), by decide +kernel⟩
theorem ln_X7_67 : fa_lnV RX7 67 RX7 yX7_tellStaying cX7_tellStaying 4 (none : Option FieldType) 0 := ⟨fa_in 758 (by decide +kernel) (by decide +kernel), fa_in 760 (by decide +kernel) (by decide +kernel), fa_inS 22 (by decide +kernel) (by decide +kernel), fa_in 9 (by decide +kernel) (by decide +kernel), fa_in 761 (by decide +kernel) (by decide +kernel), by decide +kernel⟩
theorem ln_X7_70 : fa_lnV RX7 70 RX7 yX7_burn cX7_burn 4 (none : Option FieldType) 1 := ⟨fa_in 774 (by decide +kernel) (by decide +kernel), fa_in 776 (by decide +kernel) (by decide +kernel), fa_inS 26 (by decide +kernel) (by decide +kernel), fa_in 9 (by decide +kernel) (by decide +kernel), fa_in 777 (by decide +kernel) (by decide +kernel), by decide +kernel⟩
theorem ln_X7_73 : fa_lnV RX7 73 RX7 yX7_asks cX7_asks 2 (some FieldType.int) 1 := ⟨fa_in 679 (by decide +kernel) (by decide +kernel), fa_in 681 (by decide +kernel) (by decide +kernel), fa_inS 9 (by decide +kernel) (by decide +kernel), fa_in 9 (by decide +kernel) (by decide +kernel), fa_in 682 (by decide +kernel) (by decide +kernel), by decide +kernel⟩
theorem ln_X7_76 : fa_lnV RX7 76 RX7 yX7_removeReservation cX7_removeReservation 3 (none : Option FieldType) 1 := ⟨fa_in 734 (by decide +kernel) (by decide +kernel), fa_in 736 (by decide +kernel) (by decide +kernel), fa_inS 17 (by decide +kernel) (by decide +kernel), fa_in 9 (by decide +kernel) (by decide +kernel), fa_in 737 (by decide +kernel) (by decide +kernel), by decide +kernel⟩
theorem ln_X7_79 : fa_lnV RX7 79 RX7 yX7_reserved cX7_reserved 4 (some FieldType.int) 0 := ⟨fa_in 750 (by decide +kernel) (by decide +kernel), fa_in 752 (by decide +kernel) (by decide +kernel), fa_inS 20 (by decide +kernel) (by decide +kernel), fa_in 9 (by decide +kernel) (by decide +kernel), fa_in 753 (by decide +kernel) (by decide +kernel), by decide +kernel⟩
theorem ln_X7_83 : fa_lnV RX7 83 RX7 yX7_burning cX7_burning 5 (some FieldType.int) 0 := ⟨fa_in 754 (by decide +kernel) (by decide +kernel), fa_in 756 (by decide +kernel) (by decide +kernel), fa_inS 21 (by decide +kernel) (by decide +kernel), fa_in 9 (by decide +kernel) (by decide +kernel), fa_in 757 (by decide +kernel) (by decide +kernel), by decide +kernel⟩
theorem ln_X7_86 : fa_lnS RX7 86 yX7_in cX7_in 3 (some FieldType.boolean) 3 := ⟨fa_in 653 (by decide +kernel) (by decide +kernel), fa_in 654 (by decide +kernel) (by decide +kernel), fa_in 9 (by decide +kernel) (by decide +kernel), fa_in 655 (by decide +kernel) (by decide +kernel), by decide +kernel⟩
theorem ln_X7_90 : fa_lnV RX7 90 RX7 yX7_pages cX7_pages 3 (some FieldType.int) 0 := ⟨fa_in 656 (by decide +kernel) (by decide +kernel), fa_in 658 (by decide +kernel) (by decide +kernel), fa_inS 5 (by decide +kernel) (by decide +kernel), fa_in 9 (by decide +kernel) (by decide +kernel), fa_in 659 (by decide +kernel) (by decide +kernel), by decide +kernel⟩
theorem ln_X7_93 : fa_lnS RX7 93 yX7_bits cX7_bits 3 (some FieldType.int) 1 := ⟨fa_in 699 (by decide +kernel) (by decide +kernel), fa_in 700 (by decide +kernel) (by decide +kernel), fa_in 9 (by decide +kernel) (by decide +kernel), fa_in 701 (by decide +kernel) (by decide +kernel), by decide +kernel⟩
theorem ln_X7_96 : fa_lnV RX7 96 RX7 yX7_referring cX7_referring 4 (some FieldType.int) 1 := ⟨fa_in 718 (by decide +kernel) (by decide +kernel), fa_in 720 (by decide +kernel) (by decide +kernel), fa_inS 15 (by decide +kernel) (by decide +kernel), fa_in 9 (by decide +kernel) (by decide +kernel), fa_in 721 (by decide +kernel) (by decide +kernel), by decide +kernel⟩
theorem ln_X7_99 : fa_lnV RX7 99 RX7 yX7_day cX7_day 2 (some FieldType.int) 0 := ⟨fa_in 746 (by decide +kernel) (by decide +kernel), fa_in 748 (by decide +kernel) (by decide +kernel), fa_inS 19 (by decide +kernel) (by decide +kernel), fa_in 9 (by decide +kernel) (by decide +kernel), fa_in 749 (by decide +kernel) (by decide +kernel), by decide +kernel⟩
theorem ln_X7_102 : fa_lnV RX7 102 RX7 yX7_hold cX7_hold 2 (none : Option FieldType) 0 := ⟨fa_in 645 (by decide +kernel) (by decide +kernel), fa_in 647 (by decide +kernel) (by decide +kernel), fa_inS 3 (by decide +kernel) (by decide +kernel), fa_in 9 (by decide +kernel) (by decide +kernel), fa_in 648 (by decide +kernel) (by decide +kernel), by decide +kernel⟩
theorem ln_X7_105 : fa_lnV RX7 105 RX7 yX7_adds cX7_adds 5 (some FieldType.int) 2 := ⟨fa_in 649 (by decide +kernel) (by decide +kernel), fa_in 651 (by decide +kernel) (by decide +kernel), fa_inS 4 (by decide +kernel) (by decide +kernel), fa_in 9 (by decide +kernel) (by decide +kernel), fa_in 652 (by decide +kernel) (by decide +kernel), by decide +kernel⟩
theorem ln_X7_109 : fa_lnV RX7 109 RX7 yX7_recorded cX7_recorded 3 (some FieldType.int) 1 := ⟨fa_in 663 (by decide +kernel) (by decide +kernel), fa_in 665 (by decide +kernel) (by decide +kernel), fa_inS 6 (by decide +kernel) (by decide +kernel), fa_in 9 (by decide +kernel) (by decide +kernel), fa_in 666 (by decide +kernel) (by decide +kernel), by decide +kernel⟩
theorem ln_X7_112 : fa_lnV RX7 112 RX7 yX7_asksFor cX7_asksFor 3 (some FieldType.int) 1 := ⟨fa_in 671 (by decide +kernel) (by decide +kernel), fa_in 673 (by decide +kernel) (by decide +kernel), fa_inS 7 (by decide +kernel) (by decide +kernel), fa_in 9 (by decide +kernel) (by decide +kernel), fa_in 674 (by decide +kernel) (by decide +kernel), by decide +kernel⟩
theorem ln_X7_115 : fa_lnV RX7 115 RX7 yX7_seals cX7_seals 5 (some FieldType.int) 3 := ⟨fa_in 687 (by decide +kernel) (by decide +kernel), fa_in 689 (by decide +kernel) (by decide +kernel), fa_inS 10 (by decide +kernel) (by decide +kernel), fa_in 9 (by decide +kernel) (by decide +kernel), fa_in 690 (by decide +kernel) (by decide +kernel), by decide +kernel⟩
theorem ln_X7_119 : fa_lnV RX7 119 RX7 yX7_lifts cX7_lifts 4 (some FieldType.int) 2 := ⟨fa_in 706 (by decide +kernel) (by decide +kernel), fa_in 708 (by decide +kernel) (by decide +kernel), fa_inS 13 (by decide +kernel) (by decide +kernel), fa_in 9 (by decide +kernel) (by decide +kernel), fa_in 709 (by decide +kernel) (by decide +kernel), by decide +kernel⟩
theorem ln_X7_122 : fa_lnV RX7 122 RX7 yX7_refers cX7_refers 4 (some FieldType.int) 2 := ⟨fa_in 714 (by decide +kernel) (by decide +kernel), fa_in 716 (by decide +kernel) (by decide +kernel), fa_inS 14 (by decide +kernel) (by decide +kernel), fa_in 9 (by decide +kernel) (by decide +kernel), fa_in 717 (by decide +kernel) (by decide +kernel), by decide +kernel⟩
theorem ln_X7_125 : fa_lnV RX7 125 RX7 yX7_find cX7_find 5 (some FieldType.int) 2 := ⟨fa_in 726 (by decide +kernel) (by decide +kernel), fa_in 728 (by decide +kernel) (by decide +kernel), fa_inS 16 (by decide +kernel) (by decide +kernel), fa_in 9 (by decide +kernel) (by decide +kernel), fa_in 729 (by decide +kernel) (by decide +kernel), by decide +kernel⟩
theorem ln_X7_128 : fa_lnV RX7 128 RX7 yX7_passes cX7_passes 4 (some FieldType.int) 1 := ⟨fa_in 742 (by decide +kernel) (by decide +kernel), fa_in 744 (by decide +kernel) (by decide +kernel), fa_inS 18 (by decide +kernel) (by decide +kernel), fa_in 9 (by decide +kernel) (by decide +kernel), fa_in 745 (by decide +kernel) (by decide +kernel), by decide +kernel⟩
theorem fl_X7_131 : fa_fld RX7 131 7 9 .int false := ⟨RX7, TX7, 13, tyX7, rfl, fa_ly_X7, tyX7_ok, nmX7, by decide, rfl, fa_in 609 (by decide +kernel) (by decide +kernel), rfl, rfl, rfl⟩
theorem fl_X7_134 : fa_fld RX7 134 7 12 .int false := ⟨RX7, TX7, 13, tyX7, rfl, fa_ly_X7, tyX7_ok, nmX7, by decide, rfl, fa_in 612 (by decide +kernel) (by decide +kernel), rfl, rfl, rfl⟩
theorem ln_X7_137 : fa_lnV RX7 137 RX7 yX7_isSign cX7_isSign 3 (some FieldType.boolean) 2 := ⟨fa_in 810 (by decide +kernel) (by decide +kernel), fa_in 812 (by decide +kernel) (by decide +kernel), fa_inS 31 (by decide +kernel) (by decide +kernel), fa_in 9 (by decide +kernel) (by decide +kernel), fa_in 813 (by decide +kernel) (by decide +kernel), by decide +kernel⟩
theorem fl_X7_141 : fa_fld RX7 141 7 11 .int false := ⟨RX7, TX7, 13, tyX7, rfl, fa_ly_X7, tyX7_ok, nmX7, by decide, rfl, fa_in 611 (by decide +kernel) (by decide +kernel), rfl, rfl, rfl⟩
theorem ln_X7_144 : fa_lnV RX7 144 RX7 yX7_accepts cX7_accepts 3 (some FieldType.boolean) 1 := ⟨fa_in 806 (by decide +kernel) (by decide +kernel), fa_in 808 (by decide +kernel) (by decide +kernel), fa_inS 30 (by decide +kernel) (by decide +kernel), fa_in 9 (by decide +kernel) (by decide +kernel), fa_in 809 (by decide +kernel) (by decide +kernel), by decide +kernel⟩
theorem ln_X7_148 : fa_lnV RX7 148 RX7 yX7_number cX7_number 6 (some FieldType.boolean) 3 := ⟨fa_in 814 (by decide +kernel) (by decide +kernel), fa_in 816 (by decide +kernel) (by decide +kernel), fa_inS 32 (by decide +kernel) (by decide +kernel), fa_in 9 (by decide +kernel) (by decide +kernel), fa_in 817 (by decide +kernel) (by decide +kernel), by decide +kernel⟩
theorem ln_X7_151 : fa_lnV RX7 151 RX7 yX7_readsOrder cX7_readsOrder 2 (some FieldType.boolean) 0 := ⟨fa_in 802 (by decide +kernel) (by decide +kernel), fa_in 804 (by decide +kernel) (by decide +kernel), fa_inS 29 (by decide +kernel) (by decide +kernel), fa_in 9 (by decide +kernel) (by decide +kernel), fa_in 805 (by decide +kernel) (by decide +kernel), by decide +kernel⟩
theorem ln_X7_155 : fa_lnV RX7 155 RX7 yX7_faultOf cX7_faultOf 2 (some FieldType.int) 0 := ⟨fa_in 798 (by decide +kernel) (by decide +kernel), fa_in 800 (by decide +kernel) (by decide +kernel), fa_inS 28 (by decide +kernel) (by decide +kernel), fa_in 9 (by decide +kernel) (by decide +kernel), fa_in 801 (by decide +kernel) (by decide +kernel), by decide +kernel⟩
theorem fl_X7_158 : fa_fld RX7 158 7 8 .boolean false := ⟨RX7, TX7, 13, tyX7, rfl, fa_ly_X7, tyX7_ok, nmX7, by decide, rfl, fa_in 608 (by decide +kernel) (by decide +kernel), rfl, rfl, rfl⟩
theorem ln_X7_162 : fa_lnV RX7 162 RX7 yX7_does cX7_does 3 (some FieldType.int) 1 := ⟨fa_in 822 (by decide +kernel) (by decide +kernel), fa_in 824 (by decide +kernel) (by decide +kernel), fa_inS 33 (by decide +kernel) (by decide +kernel), fa_in 9 (by decide +kernel) (by decide +kernel), fa_in 825 (by decide +kernel) (by decide +kernel), by decide +kernel⟩
theorem ln_X7_165 : fa_lnV RX7 165 RX7 yX7_ahead cX7_ahead 5 (some FieldType.int) 1 := ⟨fa_in 862 (by decide +kernel) (by decide +kernel), fa_in 864 (by decide +kernel) (by decide +kernel), fa_inS 34 (by decide +kernel) (by decide +kernel), fa_in 9 (by decide +kernel) (by decide +kernel), fa_in 865 (by decide +kernel) (by decide +kernel), by decide +kernel⟩
theorem ln_X7_168 : fa_lnV RX7 168 RX7 yX7_stays cX7_stays 4 (some FieldType.int) 1 := ⟨fa_in 882 (by decide +kernel) (by decide +kernel), fa_in 875 (by decide +kernel) (by decide +kernel), fa_in 876 (by decide +kernel) (by decide +kernel), fa_in 9 (by decide +kernel) (by decide +kernel), fa_in 877 (by decide +kernel) (by decide +kernel), by decide +kernel⟩
theorem ln_X7_171 : fa_lnV RX7 171 RX7 yX7_keepTrial cX7_keepTrial 2 (none : Option FieldType) 0 := ⟨fa_in 887 (by decide +kernel) (by decide +kernel), fa_in 889 (by decide +kernel) (by decide +kernel), fa_inS 35 (by decide +kernel) (by decide +kernel), fa_in 9 (by decide +kernel) (by decide +kernel), fa_in 890 (by decide +kernel) (by decide +kernel), by decide +kernel⟩
theorem ln_X7_174 : fa_lnV RX7 174 RX7 yX7_putBack cX7_putBack 2 (none : Option FieldType) 0 := ⟨fa_in 891 (by decide +kernel) (by decide +kernel), fa_in 893 (by decide +kernel) (by decide +kernel), fa_inS 36 (by decide +kernel) (by decide +kernel), fa_in 9 (by decide +kernel) (by decide +kernel), fa_in 894 (by decide +kernel) (by decide +kernel), by decide +kernel⟩
theorem ln_L_9 : Cond.methodLink RL 9 yX6_init ∈ fa_tbl ∧ Cond.instanceMethod yX6_init ∈ fa_tbl ∧ Cond.initialized yX6_init.cls ∈ fa_tbl ∧ Cond.code yX6_init cX6_init 1 none ∈ fa_tbl := ⟨fa_in 14 (by decide +kernel) (by decide +kernel), fa_in 15 (by decide +kernel) (by decide +kernel), fa_in 1 (by decide +kernel) (by decide +kernel), fa_in 16 (by decide +kernel) (by decide +kernel)⟩
theorem ln_L_12 : Cond.methodLink RL 12 yX7_init ∈ fa_tbl ∧ Cond.instanceMethod yX7_init ∈ fa_tbl ∧ Cond.initialized yX7_init.cls ∈ fa_tbl ∧ Cond.code yX7_init cX7_init 1 none ∈ fa_tbl := ⟨fa_in 596 (by decide +kernel) (by decide +kernel), fa_in 597 (by decide +kernel) (by decide +kernel), fa_in 9 (by decide +kernel) (by decide +kernel), fa_in 598 (by decide +kernel) (by decide +kernel)⟩
theorem ln_L_13 : fa_lnV RL 13 RX6 yX6_add cX6_add 3 (some FieldType.int) 2 := ⟨fa_in 243 (by decide +kernel) (by decide +kernel), fa_in 244 (by decide +kernel) (by decide +kernel), fa_in 245 (by decide +kernel) (by decide +kernel), fa_in 1 (by decide +kernel) (by decide +kernel), fa_in 246 (by decide +kernel) (by decide +kernel), by decide +kernel⟩
theorem ln_L_17 : fa_lnV RL 17 RX7 yX7_add cX7_add 3 (some FieldType.int) 2 := ⟨fa_in 641 (by decide +kernel) (by decide +kernel), fa_in 642 (by decide +kernel) (by decide +kernel), fa_in 643 (by decide +kernel) (by decide +kernel), fa_in 9 (by decide +kernel) (by decide +kernel), fa_in 644 (by decide +kernel) (by decide +kernel), by decide +kernel⟩
theorem ln_L_18 : fa_lnV RL 18 RX6 yX6_ask cX6_ask 2 (some FieldType.int) 1 := ⟨fa_in 296 (by decide +kernel) (by decide +kernel), fa_in 297 (by decide +kernel) (by decide +kernel), fa_in 298 (by decide +kernel) (by decide +kernel), fa_in 1 (by decide +kernel) (by decide +kernel), fa_in 299 (by decide +kernel) (by decide +kernel), by decide +kernel⟩
theorem ln_L_22 : fa_lnV RL 22 RX7 yX7_ask cX7_ask 2 (some FieldType.int) 1 := ⟨fa_in 667 (by decide +kernel) (by decide +kernel), fa_in 668 (by decide +kernel) (by decide +kernel), fa_in 669 (by decide +kernel) (by decide +kernel), fa_in 9 (by decide +kernel) (by decide +kernel), fa_in 670 (by decide +kernel) (by decide +kernel), by decide +kernel⟩
theorem ln_L_23 : fa_lnV RL 23 RX6 yX6_seal cX6_seal 4 (some FieldType.int) 3 := ⟨fa_in 312 (by decide +kernel) (by decide +kernel), fa_in 313 (by decide +kernel) (by decide +kernel), fa_in 314 (by decide +kernel) (by decide +kernel), fa_in 1 (by decide +kernel) (by decide +kernel), fa_in 315 (by decide +kernel) (by decide +kernel), by decide +kernel⟩
theorem ln_L_27 : fa_lnV RL 27 RX7 yX7_seal cX7_seal 4 (some FieldType.int) 3 := ⟨fa_in 683 (by decide +kernel) (by decide +kernel), fa_in 684 (by decide +kernel) (by decide +kernel), fa_in 685 (by decide +kernel) (by decide +kernel), fa_in 9 (by decide +kernel) (by decide +kernel), fa_in 686 (by decide +kernel) (by decide +kernel), by decide +kernel⟩
theorem ln_L_28 : fa_lnV RL 28 RX6 yX6_lift cX6_lift 3 (some FieldType.int) 2 := ⟨fa_in 333 (by decide +kernel) (by decide +kernel), fa_in 334 (by decide +kernel) (by decide +kernel), fa_in 335 (by decide +kernel) (by decide +kernel), fa_in 1 (by decide +kernel) (by decide +kernel), fa_in 336 (by decide +kernel) (by decide +kernel), by decide +kernel⟩
theorem ln_L_31 : fa_lnV RL 31 RX7 yX7_lift cX7_lift 3 (some FieldType.int) 2 := ⟨fa_in 702 (by decide +kernel) (by decide +kernel), fa_in 703 (by decide +kernel) (by decide +kernel), fa_in 704 (by decide +kernel) (by decide +kernel), fa_in 9 (by decide +kernel) (by decide +kernel), fa_in 705 (by decide +kernel) (by decide +kernel), by decide +kernel⟩
theorem ln_L_32 : fa_lnV RL 32 RX6 yX6_refer cX6_refer 3 (some FieldType.int) 2 := ⟨fa_in 341 (by decide +kernel) (by decide +kernel), fa_in 342 (by decide +kernel) (by decide +kernel), fa_in 343 (by decide +kernel) (by decide +kernel), fa_in 1 (by decide +kernel) (by decide +kernel), fa_in 344 (by decide +kernel) (by decide +kernel), by decide +kernel⟩
theorem ln_L_35 : fa_lnV RL 35 RX7 yX7_refer cX7_refer 3 (some FieldType.int) 2 := ⟨fa_in 710 (by decide +kernel) (by decide +kernel), fa_in 711 (by decide +kernel) (by decide +kernel), fa_in 712 (by decide +kernel) (by decide +kernel), fa_in 9 (by decide +kernel) (by decide +kernel), fa_in 713 (by decide +kernel) (by decide +kernel), by decide +kernel⟩
theorem ln_L_36 : fa_lnV RL 36 RX6 yX6_reserve cX6_reserve 3 (some FieldType.int) 2 := ⟨fa_in 353 (by decide +kernel) (by decide +kernel), fa_in 354 (by decide +kernel) (by decide +kernel), fa_in 355 (by decide +kernel) (by decide +kernel), fa_in 1 (by decide +kernel) (by decide +kernel), fa_in 356 (by decide +kernel) (by decide +kernel), by decide +kernel⟩
theorem ln_L_39 : fa_lnV RL 39 RX7 yX7_reserve cX7_reserve 3 (some FieldType.int) 2 := ⟨fa_in 722 (by decide +kernel) (by decide +kernel), fa_in 723 (by decide +kernel) (by decide +kernel), fa_in 724 (by decide +kernel) (by decide +kernel), fa_in 9 (by decide +kernel) (by decide +kernel), fa_in 725 (by decide +kernel) (by decide +kernel), by decide +kernel⟩
theorem ln_L_40 : fa_lnV RL 40 RX6 yX6_cancel cX6_cancel 3 (some FieldType.int) 2 := ⟨fa_in 373 (by decide +kernel) (by decide +kernel), fa_in 374 (by decide +kernel) (by decide +kernel), fa_in 375 (by decide +kernel) (by decide +kernel), fa_in 1 (by decide +kernel) (by decide +kernel), fa_in 376 (by decide +kernel) (by decide +kernel), by decide +kernel⟩
theorem ln_L_43 : fa_lnV RL 43 RX7 yX7_cancel cX7_cancel 4 (some FieldType.int) 2 := ⟨fa_in 730 (by decide +kernel) (by decide +kernel), fa_in 731 (by decide +kernel) (by decide +kernel), fa_in 732 (by decide +kernel) (by decide +kernel), fa_in 9 (by decide +kernel) (by decide +kernel), fa_in 733 (by decide +kernel) (by decide +kernel), by decide +kernel⟩
theorem ln_L_44 : fa_lnV RL 44 RX6 yX6_pass cX6_pass 2 (some FieldType.int) 1 := ⟨fa_in 385 (by decide +kernel) (by decide +kernel), fa_in 386 (by decide +kernel) (by decide +kernel), fa_in 387 (by decide +kernel) (by decide +kernel), fa_in 1 (by decide +kernel) (by decide +kernel), fa_in 388 (by decide +kernel) (by decide +kernel), by decide +kernel⟩
theorem ln_L_47 : fa_lnV RL 47 RX7 yX7_pass cX7_pass 2 (some FieldType.int) 1 := ⟨fa_in 738 (by decide +kernel) (by decide +kernel), fa_in 739 (by decide +kernel) (by decide +kernel), fa_in 740 (by decide +kernel) (by decide +kernel), fa_in 9 (by decide +kernel) (by decide +kernel), fa_in 741 (by decide +kernel) (by decide +kernel), by decide +kernel⟩
theorem ln_L_48 : fa_lnV RL 48 RX6 yX6_set cX6_set 3 (some FieldType.int) 2 := ⟨fa_in 429 (by decide +kernel) (by decide +kernel), fa_in 430 (by decide +kernel) (by decide +kernel), fa_in 431 (by decide +kernel) (by decide +kernel), fa_in 1 (by decide +kernel) (by decide +kernel), fa_in 432 (by decide +kernel) (by decide +kernel), by decide +kernel⟩
theorem ln_L_51 : fa_lnV RL 51 RX7 yX7_set cX7_set 4 (some FieldType.int) 2 := ⟨fa_in 782 (by decide +kernel) (by decide +kernel), fa_in 783 (by decide +kernel) (by decide +kernel), fa_in 784 (by decide +kernel) (by decide +kernel), fa_in 9 (by decide +kernel) (by decide +kernel), fa_in 785 (by decide +kernel) (by decide +kernel), by decide +kernel⟩
theorem ln_L_52 : fa_lnV RL 52 RX6 yX6_append cX6_append 2 (some FieldType.int) 1 := ⟨fa_in 444 (by decide +kernel) (by decide +kernel), fa_in 445 (by decide +kernel) (by decide +kernel), fa_in 446 (by decide +kernel) (by decide +kernel), fa_in 1 (by decide +kernel) (by decide +kernel), fa_in 447 (by decide +kernel) (by decide +kernel), by decide +kernel⟩
theorem ln_L_55 : fa_lnV RL 55 RX7 yX7_append cX7_append 2 (some FieldType.int) 1 := ⟨fa_in 786 (by decide +kernel) (by decide +kernel), fa_in 787 (by decide +kernel) (by decide +kernel), fa_in 788 (by decide +kernel) (by decide +kernel), fa_in 9 (by decide +kernel) (by decide +kernel), fa_in 789 (by decide +kernel) (by decide +kernel), by decide +kernel⟩
theorem ln_L_56 : fa_lnV RL 56 RX6 yX6_clearText cX6_clearText 2 (some FieldType.int) 0 := ⟨fa_in 452 (by decide +kernel) (by decide +kernel), fa_in 453 (by decide +kernel) (by decide +kernel), fa_in 454 (by decide +kernel) (by decide +kernel), fa_in 1 (by decide +kernel) (by decide +kernel), fa_in 455 (by decide +kernel) (by decide +kernel), by decide +kernel⟩
theorem ln_L_60 : fa_lnV RL 60 RX7 yX7_clearText cX7_clearText 2 (some FieldType.int) 0 := ⟨fa_in 790 (by decide +kernel) (by decide +kernel), fa_in 791 (by decide +kernel) (by decide +kernel), fa_in 792 (by decide +kernel) (by decide +kernel), fa_in 9 (by decide +kernel) (by decide +kernel), fa_in 793 (by decide +kernel) (by decide +kernel), by decide +kernel⟩
theorem ln_L_61 : fa_lnV RL 61 RX6 yX6_fault cX6_fault 1 (some FieldType.int) 0 := ⟨fa_in 456 (by decide +kernel) (by decide +kernel), fa_in 457 (by decide +kernel) (by decide +kernel), fa_in 458 (by decide +kernel) (by decide +kernel), fa_in 1 (by decide +kernel) (by decide +kernel), fa_in 459 (by decide +kernel) (by decide +kernel), by decide +kernel⟩
theorem ln_L_64 : fa_lnV RL 64 RX7 yX7_fault cX7_fault 2 (some FieldType.int) 0 := ⟨fa_in 794 (by decide +kernel) (by decide +kernel), fa_in 795 (by decide +kernel) (by decide +kernel), fa_in 796 (by decide +kernel) (by decide +kernel), fa_in 9 (by decide +kernel) (by decide +kernel), fa_in 797 (by decide +kernel) (by decide +kernel), by decide +kernel⟩
theorem ln_L_65 : fa_lnV RL 65 RX6 yX6_run cX6_run 6 (some FieldType.int) 0 := ⟨fa_in 492 (by decide +kernel) (by decide +kernel), fa_in 493 (by decide +kernel) (by decide +kernel), fa_in 494 (by decide +kernel) (by decide +kernel), fa_in 1 (by decide +kernel) (by decide +kernel), fa_in 495 (by decide +kernel) (by decide +kernel), by decide +kernel⟩
theorem ln_L_68 : fa_lnV RL 68 RX7 yX7_run cX7_run 3 (some FieldType.int) 0 := ⟨fa_in 818 (by decide +kernel) (by decide +kernel), fa_in 819 (by decide +kernel) (by decide +kernel), fa_in 820 (by decide +kernel) (by decide +kernel), fa_in 9 (by decide +kernel) (by decide +kernel), fa_in 821 (by decide +kernel) (by decide +kernel), by decide +kernel⟩
theorem ln_L_69 : fa_lnV RL 69 RX6 yX6_why cX6_why 2 (some FieldType.int) 1 := ⟨fa_in 506 (by decide +kernel) (by decide +kernel), fa_in 507 (by decide +kernel) (by decide +kernel), fa_in 508 (by decide +kernel) (by decide +kernel), fa_in 1 (by decide +kernel) (by decide +kernel), fa_in 509 (by decide +kernel) (by decide +kernel), by decide +kernel⟩
theorem ln_L_72 : fa_lnV RL 72 RX7 yX7_why cX7_why 2 (some FieldType.int) 1 := ⟨fa_in 826 (by decide +kernel) (by decide +kernel), fa_in 827 (by decide +kernel) (by decide +kernel), fa_in 828 (by decide +kernel) (by decide +kernel), fa_in 9 (by decide +kernel) (by decide +kernel), fa_in 829 (by decide +kernel) (by decide +kernel), by decide +kernel⟩
theorem ln_L_73 : fa_lnV RL 73 RX6 yX6_undo cX6_undo 2 (some FieldType.int) 0 := ⟨fa_in 510 (by decide +kernel) (by decide +kernel), fa_in 511 (by decide +kernel) (by decide +kernel), fa_in 512 (by decide +kernel) (by decide +kernel), fa_in 1 (by decide +kernel) (by decide +kernel), fa_in 513 (by decide +kernel) (by decide +kernel), by decide +kernel⟩
theorem ln_L_76 : fa_lnV RL 76 RX7 yX7_undo cX7_undo 2 (some FieldType.int) 0 := ⟨fa_in 830 (by decide +kernel) (by decide +kernel), fa_in 831 (by decide +kernel) (by decide +kernel), fa_in 832 (by decide +kernel) (by decide +kernel), fa_in 9 (by decide +kernel) (by decide +kernel), fa_in 833 (by decide +kernel) (by decide +kernel), by decide +kernel⟩
theorem ln_L_77 : fa_lnV RL 77 RX6 yX6_now cX6_now 1 (some FieldType.int) 0 := ⟨fa_in 519 (by decide +kernel) (by decide +kernel), fa_in 520 (by decide +kernel) (by decide +kernel), fa_in 521 (by decide +kernel) (by decide +kernel), fa_in 1 (by decide +kernel) (by decide +kernel), fa_in 522 (by decide +kernel) (by decide +kernel), by decide +kernel⟩
theorem ln_L_80 : fa_lnV RL 80 RX7 yX7_now cX7_now 1 (some FieldType.int) 0 := ⟨fa_in 834 (by decide +kernel) (by decide +kernel), fa_in 835 (by decide +kernel) (by decide +kernel), fa_in 836 (by decide +kernel) (by decide +kernel), fa_in 9 (by decide +kernel) (by decide +kernel), fa_in 837 (by decide +kernel) (by decide +kernel), by decide +kernel⟩
theorem ln_L_81 : fa_lnV RL 81 RX6 yX6_count cX6_count 2 (some FieldType.int) 1 := ⟨fa_in 523 (by decide +kernel) (by decide +kernel), fa_in 524 (by decide +kernel) (by decide +kernel), fa_in 525 (by decide +kernel) (by decide +kernel), fa_in 1 (by decide +kernel) (by decide +kernel), fa_in 526 (by decide +kernel) (by decide +kernel), by decide +kernel⟩
theorem ln_L_84 : fa_lnV RL 84 RX7 yX7_count cX7_count 2 (some FieldType.int) 1 := ⟨fa_in 838 (by decide +kernel) (by decide +kernel), fa_in 839 (by decide +kernel) (by decide +kernel), fa_in 840 (by decide +kernel) (by decide +kernel), fa_in 9 (by decide +kernel) (by decide +kernel), fa_in 841 (by decide +kernel) (by decide +kernel), by decide +kernel⟩
theorem ln_L_85 : fa_lnV RL 85 RX6 yX6_fileAt cX6_fileAt 2 (some FieldType.int) 1 := ⟨fa_in 528 (by decide +kernel) (by decide +kernel), fa_in 529 (by decide +kernel) (by decide +kernel), fa_in 530 (by decide +kernel) (by decide +kernel), fa_in 1 (by decide +kernel) (by decide +kernel), fa_in 531 (by decide +kernel) (by decide +kernel), by decide +kernel⟩
theorem ln_L_88 : fa_lnV RL 88 RX7 yX7_fileAt cX7_fileAt 2 (some FieldType.int) 1 := ⟨fa_in 842 (by decide +kernel) (by decide +kernel), fa_in 843 (by decide +kernel) (by decide +kernel), fa_in 844 (by decide +kernel) (by decide +kernel), fa_in 9 (by decide +kernel) (by decide +kernel), fa_in 845 (by decide +kernel) (by decide +kernel), by decide +kernel⟩
theorem ln_L_89 : fa_lnV RL 89 RX6 yX6_file cX6_file 4 (some FieldType.int) 2 := ⟨fa_in 532 (by decide +kernel) (by decide +kernel), fa_in 533 (by decide +kernel) (by decide +kernel), fa_in 534 (by decide +kernel) (by decide +kernel), fa_in 1 (by decide +kernel) (by decide +kernel), fa_in 535 (by decide +kernel) (by decide +kernel), by decide +kernel⟩
theorem ln_L_92 : fa_lnV RL 92 RX7 yX7_file cX7_file 5 (some FieldType.int) 2 := ⟨fa_in 846 (by decide +kernel) (by decide +kernel), fa_in 847 (by decide +kernel) (by decide +kernel), fa_in 848 (by decide +kernel) (by decide +kernel), fa_in 9 (by decide +kernel) (by decide +kernel), fa_in 849 (by decide +kernel) (by decide +kernel), by decide +kernel⟩
theorem ln_L_93 : fa_lnV RL 93 RX6 yX6_sealOf cX6_sealOf 5 (some FieldType.int) 2 := ⟨fa_in 541 (by decide +kernel) (by decide +kernel), fa_in 542 (by decide +kernel) (by decide +kernel), fa_in 543 (by decide +kernel) (by decide +kernel), fa_in 1 (by decide +kernel) (by decide +kernel), fa_in 544 (by decide +kernel) (by decide +kernel), by decide +kernel⟩
theorem ln_L_96 : fa_lnV RL 96 RX7 yX7_sealOf cX7_sealOf 5 (some FieldType.int) 2 := ⟨fa_in 850 (by decide +kernel) (by decide +kernel), fa_in 851 (by decide +kernel) (by decide +kernel), fa_in 852 (by decide +kernel) (by decide +kernel), fa_in 9 (by decide +kernel) (by decide +kernel), fa_in 853 (by decide +kernel) (by decide +kernel), by decide +kernel⟩
theorem ln_L_97 : fa_lnV RL 97 RX6 yX6_trace cX6_trace 3 (some FieldType.int) 2 := ⟨fa_in 546 (by decide +kernel) (by decide +kernel), fa_in 547 (by decide +kernel) (by decide +kernel), fa_in 548 (by decide +kernel) (by decide +kernel), fa_in 1 (by decide +kernel) (by decide +kernel), fa_in 549 (by decide +kernel) (by decide +kernel), by decide +kernel⟩
theorem ln_L_100 : fa_lnV RL 100 RX7 yX7_trace cX7_trace 3 (some FieldType.int) 2 := ⟨fa_in 854 (by decide +kernel) (by decide +kernel), fa_in 855 (by decide +kernel) (by decide +kernel), fa_in 856 (by decide +kernel) (by decide +kernel), fa_in 9 (by decide +kernel) (by decide +kernel), fa_in 857 (by decide +kernel) (by decide +kernel), by decide +kernel⟩
theorem ln_L_101 : fa_lnV RL 101 RX6 yX6_reservation cX6_reservation 3 (some FieldType.int) 2 := ⟨fa_in 554 (by decide +kernel) (by decide +kernel), fa_in 555 (by decide +kernel) (by decide +kernel), fa_in 556 (by decide +kernel) (by decide +kernel), fa_in 1 (by decide +kernel) (by decide +kernel), fa_in 557 (by decide +kernel) (by decide +kernel), by decide +kernel⟩
theorem ln_L_104 : fa_lnV RL 104 RX7 yX7_reservation cX7_reservation 5 (some FieldType.int) 2 := ⟨fa_in 858 (by decide +kernel) (by decide +kernel), fa_in 859 (by decide +kernel) (by decide +kernel), fa_in 860 (by decide +kernel) (by decide +kernel), fa_in 9 (by decide +kernel) (by decide +kernel), fa_in 861 (by decide +kernel) (by decide +kernel), by decide +kernel⟩
theorem ln_L_105 : fa_lnV RL 105 RX6 yX6_setting cX6_setting 2 (some FieldType.int) 1 := ⟨fa_in 558 (by decide +kernel) (by decide +kernel), fa_in 559 (by decide +kernel) (by decide +kernel), fa_in 560 (by decide +kernel) (by decide +kernel), fa_in 1 (by decide +kernel) (by decide +kernel), fa_in 561 (by decide +kernel) (by decide +kernel), by decide +kernel⟩
theorem ln_L_108 : fa_lnV RL 108 RX7 yX7_setting cX7_setting 2 (some FieldType.int) 1 := ⟨fa_in 866 (by decide +kernel) (by decide +kernel), fa_in 867 (by decide +kernel) (by decide +kernel), fa_in 868 (by decide +kernel) (by decide +kernel), fa_in 9 (by decide +kernel) (by decide +kernel), fa_in 869 (by decide +kernel) (by decide +kernel), by decide +kernel⟩
theorem ln_L_109 : fa_lnV RL 109 RX6 yX6_meanAge cX6_meanAge 1 (some FieldType.float) 0 := ⟨fa_in 563 (by decide +kernel) (by decide +kernel), fa_in 564 (by decide +kernel) (by decide +kernel), fa_in 565 (by decide +kernel) (by decide +kernel), fa_in 1 (by decide +kernel) (by decide +kernel), fa_in 566 (by decide +kernel) (by decide +kernel), by decide +kernel⟩
theorem ln_L_113 : fa_lnV RL 113 RX7 yX7_meanAge cX7_meanAge 3 (some FieldType.float) 0 := ⟨fa_in 870 (by decide +kernel) (by decide +kernel), fa_in 871 (by decide +kernel) (by decide +kernel), fa_in 872 (by decide +kernel) (by decide +kernel), fa_in 9 (by decide +kernel) (by decide +kernel), fa_in 873 (by decide +kernel) (by decide +kernel), by decide +kernel⟩
theorem ln_L_114 : fa_lnV RL 114 RX6 yX6_stays cX6_stays 3 (some FieldType.int) 1 := ⟨fa_in 571 (by decide +kernel) (by decide +kernel), fa_in 572 (by decide +kernel) (by decide +kernel), fa_in 573 (by decide +kernel) (by decide +kernel), fa_in 1 (by decide +kernel) (by decide +kernel), fa_in 574 (by decide +kernel) (by decide +kernel), by decide +kernel⟩
theorem ln_L_117 : fa_lnV RL 117 RX7 yX7_stays cX7_stays 4 (some FieldType.int) 1 := ⟨fa_in 874 (by decide +kernel) (by decide +kernel), fa_in 875 (by decide +kernel) (by decide +kernel), fa_in 876 (by decide +kernel) (by decide +kernel), fa_in 9 (by decide +kernel) (by decide +kernel), fa_in 877 (by decide +kernel) (by decide +kernel), by decide +kernel⟩
theorem ln_L_118 : fa_lnV RL 118 RX6 yX6_keeper cX6_keeper 3 (some FieldType.int) 1 := ⟨fa_in 576 (by decide +kernel) (by decide +kernel), fa_in 577 (by decide +kernel) (by decide +kernel), fa_in 578 (by decide +kernel) (by decide +kernel), fa_in 1 (by decide +kernel) (by decide +kernel), fa_in 579 (by decide +kernel) (by decide +kernel), by decide +kernel⟩
theorem ln_L_121 : fa_lnV RL 121 RX7 yX7_keeper cX7_keeper 5 (some FieldType.int) 1 := ⟨fa_in 878 (by decide +kernel) (by decide +kernel), fa_in 879 (by decide +kernel) (by decide +kernel), fa_in 880 (by decide +kernel) (by decide +kernel), fa_in 9 (by decide +kernel) (by decide +kernel), fa_in 881 (by decide +kernel) (by decide +kernel), by decide +kernel⟩
theorem ln_L_122 : fa_lnV RL 122 RX6 yX6_burntIn cX6_burntIn 3 (some FieldType.int) 1 := ⟨fa_in 585 (by decide +kernel) (by decide +kernel), fa_in 586 (by decide +kernel) (by decide +kernel), fa_in 587 (by decide +kernel) (by decide +kernel), fa_in 1 (by decide +kernel) (by decide +kernel), fa_in 588 (by decide +kernel) (by decide +kernel), by decide +kernel⟩
theorem ln_L_125 : fa_lnV RL 125 RX7 yX7_burntIn cX7_burntIn 4 (some FieldType.int) 1 := ⟨fa_in 883 (by decide +kernel) (by decide +kernel), fa_in 884 (by decide +kernel) (by decide +kernel), fa_in 885 (by decide +kernel) (by decide +kernel), fa_in 9 (by decide +kernel) (by decide +kernel), fa_in 886 (by decide +kernel) (by decide +kernel), by decide +kernel⟩
theorem ln_L_126 : fa_lnV RL 126 RX6 yX6_ifPassed cX6_ifPassed 4 (some FieldType.int) 2 := ⟨fa_in 590 (by decide +kernel) (by decide +kernel), fa_in 591 (by decide +kernel) (by decide +kernel), fa_in 592 (by decide +kernel) (by decide +kernel), fa_in 1 (by decide +kernel) (by decide +kernel), fa_in 593 (by decide +kernel) (by decide +kernel), by decide +kernel⟩
theorem ln_L_129 : fa_lnV RL 129 RX7 yX7_ifPassed cX7_ifPassed 5 (some FieldType.int) 2 := ⟨fa_in 895 (by decide +kernel) (by decide +kernel), fa_in 896 (by decide +kernel) (by decide +kernel), fa_in 897 (by decide +kernel) (by decide +kernel), fa_in 9 (by decide +kernel) (by decide +kernel), fa_in 898 (by decide +kernel) (by decide +kernel), by decide +kernel⟩
end
