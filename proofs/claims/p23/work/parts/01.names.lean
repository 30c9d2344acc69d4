-- ===== PART A: goes FIRST, ahead of the names: the tables' words, and 'selects' of the private methods out of them =====
/-- a private method of a class that the tables say can be made, by its rows of tables_1 -/
def lw_okq (q : MethodName × Nat) : Prop := (q.1.cls ≠ "java/lang/invoke/MethodHandle" ∧ q.1.cls ≠ "java/lang/invoke/VarHandle") ∧ Cond.instantiable q.1.cls q.2 ∈ tables_1 ∧ Cond.privateMethod q.1 ∈ tables_1 ∧ Cond.instanceMethod q.1 ∈ tables_1
theorem lw_p0 : lw_okq (⟨"ForgettingArchive", "recorded", "(I)I"⟩, 7) := ⟨⟨by decide +kernel, by decide +kernel⟩, List.mem_of_getElem? (i := 13) (by decide +kernel), List.mem_of_getElem? (i := 286) (by decide +kernel), List.mem_of_getElem? (i := 287) (by decide +kernel)⟩
theorem lw_p1 : lw_okq (⟨"ForgettingArchive", "obey", "()I"⟩, 7) := ⟨⟨by decide +kernel, by decide +kernel⟩, List.mem_of_getElem? (i := 13) (by decide +kernel), List.mem_of_getElem? (i := 498) (by decide +kernel), List.mem_of_getElem? (i := 499) (by decide +kernel)⟩
theorem lw_p2 : lw_okq (⟨"ForgettingArchive", "report", "(III)V"⟩, 7) := ⟨⟨by decide +kernel, by decide +kernel⟩, List.mem_of_getElem? (i := 13) (by decide +kernel), List.mem_of_getElem? (i := 502) (by decide +kernel), List.mem_of_getElem? (i := 503) (by decide +kernel)⟩
theorem lw_p3 : lw_okq (⟨"ForgettingArchiveModel", "hold", "()V"⟩, 13) := ⟨⟨by decide +kernel, by decide +kernel⟩, List.mem_of_getElem? (i := 595) (by decide +kernel), List.mem_of_getElem? (i := 646) (by decide +kernel), List.mem_of_getElem? (i := 647) (by decide +kernel)⟩
theorem lw_p4 : lw_okq (⟨"ForgettingArchiveModel", "adds", "(II)I"⟩, 13) := ⟨⟨by decide +kernel, by decide +kernel⟩, List.mem_of_getElem? (i := 595) (by decide +kernel), List.mem_of_getElem? (i := 650) (by decide +kernel), List.mem_of_getElem? (i := 651) (by decide +kernel)⟩
theorem lw_p5 : lw_okq (⟨"ForgettingArchiveModel", "pages", "()I"⟩, 13) := ⟨⟨by decide +kernel, by decide +kernel⟩, List.mem_of_getElem? (i := 595) (by decide +kernel), List.mem_of_getElem? (i := 657) (by decide +kernel), List.mem_of_getElem? (i := 658) (by decide +kernel)⟩
theorem lw_p6 : lw_okq (⟨"ForgettingArchiveModel", "recorded", "(I)I"⟩, 13) := ⟨⟨by decide +kernel, by decide +kernel⟩, List.mem_of_getElem? (i := 595) (by decide +kernel), List.mem_of_getElem? (i := 664) (by decide +kernel), List.mem_of_getElem? (i := 665) (by decide +kernel)⟩
theorem lw_p7 : lw_okq (⟨"ForgettingArchiveModel", "asksFor", "(I)I"⟩, 13) := ⟨⟨by decide +kernel, by decide +kernel⟩, List.mem_of_getElem? (i := 595) (by decide +kernel), List.mem_of_getElem? (i := 672) (by decide +kernel), List.mem_of_getElem? (i := 673) (by decide +kernel)⟩
theorem lw_p8 : lw_okq (⟨"ForgettingArchiveModel", "placeOf", "(I)I"⟩, 13) := ⟨⟨by decide +kernel, by decide +kernel⟩, List.mem_of_getElem? (i := 595) (by decide +kernel), List.mem_of_getElem? (i := 676) (by decide +kernel), List.mem_of_getElem? (i := 677) (by decide +kernel)⟩
theorem lw_p9 : lw_okq (⟨"ForgettingArchiveModel", "asks", "(I)I"⟩, 13) := ⟨⟨by decide +kernel, by decide +kernel⟩, List.mem_of_getElem? (i := 595) (by decide +kernel), List.mem_of_getElem? (i := 680) (by decide +kernel), List.mem_of_getElem? (i := 681) (by decide +kernel)⟩
theorem lw_p10 : lw_okq (⟨"ForgettingArchiveModel", "seals", "(III)I"⟩, 13) := ⟨⟨by decide +kernel, by decide +kernel⟩, List.mem_of_getElem? (i := 595) (by decide +kernel), List.mem_of_getElem? (i := 688) (by decide +kernel), List.mem_of_getElem? (i := 689) (by decide +kernel)⟩
theorem lw_p11 : lw_okq (⟨"ForgettingArchiveModel", "sealing", "(I)I"⟩, 13) := ⟨⟨by decide +kernel, by decide +kernel⟩, List.mem_of_getElem? (i := 595) (by decide +kernel), List.mem_of_getElem? (i := 692) (by decide +kernel), List.mem_of_getElem? (i := 693) (by decide +kernel)⟩
theorem lw_p12 : lw_okq (⟨"ForgettingArchiveModel", "holds", "(II)Z"⟩, 13) := ⟨⟨by decide +kernel, by decide +kernel⟩, List.mem_of_getElem? (i := 595) (by decide +kernel), List.mem_of_getElem? (i := 696) (by decide +kernel), List.mem_of_getElem? (i := 697) (by decide +kernel)⟩
theorem lw_p13 : lw_okq (⟨"ForgettingArchiveModel", "lifts", "(II)I"⟩, 13) := ⟨⟨by decide +kernel, by decide +kernel⟩, List.mem_of_getElem? (i := 595) (by decide +kernel), List.mem_of_getElem? (i := 707) (by decide +kernel), List.mem_of_getElem? (i := 708) (by decide +kernel)⟩
theorem lw_p14 : lw_okq (⟨"ForgettingArchiveModel", "refers", "(II)I"⟩, 13) := ⟨⟨by decide +kernel, by decide +kernel⟩, List.mem_of_getElem? (i := 595) (by decide +kernel), List.mem_of_getElem? (i := 715) (by decide +kernel), List.mem_of_getElem? (i := 716) (by decide +kernel)⟩
theorem lw_p15 : lw_okq (⟨"ForgettingArchiveModel", "referring", "(I)I"⟩, 13) := ⟨⟨by decide +kernel, by decide +kernel⟩, List.mem_of_getElem? (i := 595) (by decide +kernel), List.mem_of_getElem? (i := 719) (by decide +kernel), List.mem_of_getElem? (i := 720) (by decide +kernel)⟩
def lw_privs_1 : List (MethodName × Nat) := [(⟨"ForgettingArchive", "recorded", "(I)I"⟩, 7), (⟨"ForgettingArchive", "obey", "()I"⟩, 7), (⟨"ForgettingArchive", "report", "(III)V"⟩, 7), (⟨"ForgettingArchiveModel", "hold", "()V"⟩, 13), (⟨"ForgettingArchiveModel", "adds", "(II)I"⟩, 13), (⟨"ForgettingArchiveModel", "pages", "()I"⟩, 13), (⟨"ForgettingArchiveModel", "recorded", "(I)I"⟩, 13), (⟨"ForgettingArchiveModel", "asksFor", "(I)I"⟩, 13), (⟨"ForgettingArchiveModel", "placeOf", "(I)I"⟩, 13), (⟨"ForgettingArchiveModel", "asks", "(I)I"⟩, 13), (⟨"ForgettingArchiveModel", "seals", "(III)I"⟩, 13), (⟨"ForgettingArchiveModel", "sealing", "(I)I"⟩, 13), (⟨"ForgettingArchiveModel", "holds", "(II)Z"⟩, 13), (⟨"ForgettingArchiveModel", "lifts", "(II)I"⟩, 13), (⟨"ForgettingArchiveModel", "refers", "(II)I"⟩, 13), (⟨"ForgettingArchiveModel", "referring", "(I)I"⟩, 13)]
theorem lw_r1 : ∀ q ∈ lw_privs_1, lw_okq q := List.forall_mem_cons.mpr ⟨lw_p0, List.forall_mem_cons.mpr ⟨lw_p1, List.forall_mem_cons.mpr ⟨lw_p2, List.forall_mem_cons.mpr ⟨lw_p3, List.forall_mem_cons.mpr ⟨lw_p4, List.forall_mem_cons.mpr ⟨lw_p5, List.forall_mem_cons.mpr ⟨lw_p6, List.forall_mem_cons.mpr ⟨lw_p7, List.forall_mem_cons.mpr ⟨lw_p8, List.forall_mem_cons.mpr ⟨lw_p9, List.forall_mem_cons.mpr ⟨lw_p10, List.forall_mem_cons.mpr ⟨lw_p11, List.forall_mem_cons.mpr ⟨lw_p12, List.forall_mem_cons.mpr ⟨lw_p13, List.forall_mem_cons.mpr ⟨lw_p14, List.forall_mem_cons.mpr ⟨lw_p15, fun _ h => absurd h List.not_mem_nil⟩⟩⟩⟩⟩⟩⟩⟩⟩⟩⟩⟩⟩⟩⟩⟩
theorem lw_p16 : lw_okq (⟨"ForgettingArchiveModel", "find", "(II)I"⟩, 13) := ⟨⟨by decide +kernel, by decide +kernel⟩, List.mem_of_getElem? (i := 595) (by decide +kernel), List.mem_of_getElem? (i := 727) (by decide +kernel), List.mem_of_getElem? (i := 728) (by decide +kernel)⟩
theorem lw_p17 : lw_okq (⟨"ForgettingArchiveModel", "removeReservation", "(I)V"⟩, 13) := ⟨⟨by decide +kernel, by decide +kernel⟩, List.mem_of_getElem? (i := 595) (by decide +kernel), List.mem_of_getElem? (i := 735) (by decide +kernel), List.mem_of_getElem? (i := 736) (by decide +kernel)⟩
theorem lw_p18 : lw_okq (⟨"ForgettingArchiveModel", "passes", "(I)I"⟩, 13) := ⟨⟨by decide +kernel, by decide +kernel⟩, List.mem_of_getElem? (i := 595) (by decide +kernel), List.mem_of_getElem? (i := 743) (by decide +kernel), List.mem_of_getElem? (i := 744) (by decide +kernel)⟩
theorem lw_p19 : lw_okq (⟨"ForgettingArchiveModel", "day", "()I"⟩, 13) := ⟨⟨by decide +kernel, by decide +kernel⟩, List.mem_of_getElem? (i := 595) (by decide +kernel), List.mem_of_getElem? (i := 747) (by decide +kernel), List.mem_of_getElem? (i := 748) (by decide +kernel)⟩
theorem lw_p20 : lw_okq (⟨"ForgettingArchiveModel", "reserved", "()I"⟩, 13) := ⟨⟨by decide +kernel, by decide +kernel⟩, List.mem_of_getElem? (i := 595) (by decide +kernel), List.mem_of_getElem? (i := 751) (by decide +kernel), List.mem_of_getElem? (i := 752) (by decide +kernel)⟩
theorem lw_p21 : lw_okq (⟨"ForgettingArchiveModel", "burning", "()I"⟩, 13) := ⟨⟨by decide +kernel, by decide +kernel⟩, List.mem_of_getElem? (i := 595) (by decide +kernel), List.mem_of_getElem? (i := 755) (by decide +kernel), List.mem_of_getElem? (i := 756) (by decide +kernel)⟩
theorem lw_p22 : lw_okq (⟨"ForgettingArchiveModel", "tellStaying", "()V"⟩, 13) := ⟨⟨by decide +kernel, by decide +kernel⟩, List.mem_of_getElem? (i := 595) (by decide +kernel), List.mem_of_getElem? (i := 759) (by decide +kernel), List.mem_of_getElem? (i := 760) (by decide +kernel)⟩
theorem lw_p23 : lw_okq (⟨"ForgettingArchiveModel", "ownReason", "(I)I"⟩, 13) := ⟨⟨by decide +kernel, by decide +kernel⟩, List.mem_of_getElem? (i := 595) (by decide +kernel), List.mem_of_getElem? (i := 763) (by decide +kernel), List.mem_of_getElem? (i := 764) (by decide +kernel)⟩
theorem lw_p24 : lw_okq (⟨"ForgettingArchiveModel", "due", "(I)I"⟩, 13) := ⟨⟨by decide +kernel, by decide +kernel⟩, List.mem_of_getElem? (i := 595) (by decide +kernel), List.mem_of_getElem? (i := 767) (by decide +kernel), List.mem_of_getElem? (i := 768) (by decide +kernel)⟩
theorem lw_p25 : lw_okq (⟨"ForgettingArchiveModel", "reservations", "(I)I"⟩, 13) := ⟨⟨by decide +kernel, by decide +kernel⟩, List.mem_of_getElem? (i := 595) (by decide +kernel), List.mem_of_getElem? (i := 771) (by decide +kernel), List.mem_of_getElem? (i := 772) (by decide +kernel)⟩
theorem lw_p26 : lw_okq (⟨"ForgettingArchiveModel", "burn", "(I)V"⟩, 13) := ⟨⟨by decide +kernel, by decide +kernel⟩, List.mem_of_getElem? (i := 595) (by decide +kernel), List.mem_of_getElem? (i := 775) (by decide +kernel), List.mem_of_getElem? (i := 776) (by decide +kernel)⟩
theorem lw_p27 : lw_okq (⟨"ForgettingArchiveModel", "leaveTrace", "(I)V"⟩, 13) := ⟨⟨by decide +kernel, by decide +kernel⟩, List.mem_of_getElem? (i := 595) (by decide +kernel), List.mem_of_getElem? (i := 779) (by decide +kernel), List.mem_of_getElem? (i := 780) (by decide +kernel)⟩
theorem lw_p28 : lw_okq (⟨"ForgettingArchiveModel", "faultOf", "()I"⟩, 13) := ⟨⟨by decide +kernel, by decide +kernel⟩, List.mem_of_getElem? (i := 595) (by decide +kernel), List.mem_of_getElem? (i := 799) (by decide +kernel), List.mem_of_getElem? (i := 800) (by decide +kernel)⟩
theorem lw_p29 : lw_okq (⟨"ForgettingArchiveModel", "readsOrder", "()Z"⟩, 13) := ⟨⟨by decide +kernel, by decide +kernel⟩, List.mem_of_getElem? (i := 595) (by decide +kernel), List.mem_of_getElem? (i := 803) (by decide +kernel), List.mem_of_getElem? (i := 804) (by decide +kernel)⟩
theorem lw_p30 : lw_okq (⟨"ForgettingArchiveModel", "accepts", "(C)Z"⟩, 13) := ⟨⟨by decide +kernel, by decide +kernel⟩, List.mem_of_getElem? (i := 595) (by decide +kernel), List.mem_of_getElem? (i := 807) (by decide +kernel), List.mem_of_getElem? (i := 808) (by decide +kernel)⟩
theorem lw_p31 : lw_okq (⟨"ForgettingArchiveModel", "isSign", "(CC)Z"⟩, 13) := ⟨⟨by decide +kernel, by decide +kernel⟩, List.mem_of_getElem? (i := 595) (by decide +kernel), List.mem_of_getElem? (i := 811) (by decide +kernel), List.mem_of_getElem? (i := 812) (by decide +kernel)⟩
def lw_privs_2 : List (MethodName × Nat) := [(⟨"ForgettingArchiveModel", "find", "(II)I"⟩, 13), (⟨"ForgettingArchiveModel", "removeReservation", "(I)V"⟩, 13), (⟨"ForgettingArchiveModel", "passes", "(I)I"⟩, 13), (⟨"ForgettingArchiveModel", "day", "()I"⟩, 13), (⟨"ForgettingArchiveModel", "reserved", "()I"⟩, 13), (⟨"ForgettingArchiveModel", "burning", "()I"⟩, 13), (⟨"ForgettingArchiveModel", "tellStaying", "()V"⟩, 13), (⟨"ForgettingArchiveModel", "ownReason", "(I)I"⟩, 13), (⟨"ForgettingArchiveModel", "due", "(I)I"⟩, 13), (⟨"ForgettingArchiveModel", "reservations", "(I)I"⟩, 13), (⟨"ForgettingArchiveModel", "burn", "(I)V"⟩, 13), (⟨"ForgettingArchiveModel", "leaveTrace", "(I)V"⟩, 13), (⟨"ForgettingArchiveModel", "faultOf", "()I"⟩, 13), (⟨"ForgettingArchiveModel", "readsOrder", "()Z"⟩, 13), (⟨"ForgettingArchiveModel", "accepts", "(C)Z"⟩, 13), (⟨"ForgettingArchiveModel", "isSign", "(CC)Z"⟩, 13)]
theorem lw_r2 : ∀ q ∈ lw_privs_2, lw_okq q := List.forall_mem_cons.mpr ⟨lw_p16, List.forall_mem_cons.mpr ⟨lw_p17, List.forall_mem_cons.mpr ⟨lw_p18, List.forall_mem_cons.mpr ⟨lw_p19, List.forall_mem_cons.mpr ⟨lw_p20, List.forall_mem_cons.mpr ⟨lw_p21, List.forall_mem_cons.mpr ⟨lw_p22, List.forall_mem_cons.mpr ⟨lw_p23, List.forall_mem_cons.mpr ⟨lw_p24, List.forall_mem_cons.mpr ⟨lw_p25, List.forall_mem_cons.mpr ⟨lw_p26, List.forall_mem_cons.mpr ⟨lw_p27, List.forall_mem_cons.mpr ⟨lw_p28, List.forall_mem_cons.mpr ⟨lw_p29, List.forall_mem_cons.mpr ⟨lw_p30, List.forall_mem_cons.mpr ⟨lw_p31, fun _ h => absurd h List.not_mem_nil⟩⟩⟩⟩⟩⟩⟩⟩⟩⟩⟩⟩⟩⟩⟩⟩
theorem lw_p32 : lw_okq (⟨"ForgettingArchiveModel", "number", "(III)Z"⟩, 13) := ⟨⟨by decide +kernel, by decide +kernel⟩, List.mem_of_getElem? (i := 595) (by decide +kernel), List.mem_of_getElem? (i := 815) (by decide +kernel), List.mem_of_getElem? (i := 816) (by decide +kernel)⟩
theorem lw_p33 : lw_okq (⟨"ForgettingArchiveModel", "does", "(I)I"⟩, 13) := ⟨⟨by decide +kernel, by decide +kernel⟩, List.mem_of_getElem? (i := 595) (by decide +kernel), List.mem_of_getElem? (i := 823) (by decide +kernel), List.mem_of_getElem? (i := 824) (by decide +kernel)⟩
theorem lw_p34 : lw_okq (⟨"ForgettingArchiveModel", "ahead", "(I)I"⟩, 13) := ⟨⟨by decide +kernel, by decide +kernel⟩, List.mem_of_getElem? (i := 595) (by decide +kernel), List.mem_of_getElem? (i := 863) (by decide +kernel), List.mem_of_getElem? (i := 864) (by decide +kernel)⟩
theorem lw_p35 : lw_okq (⟨"ForgettingArchiveModel", "keepTrial", "()V"⟩, 13) := ⟨⟨by decide +kernel, by decide +kernel⟩, List.mem_of_getElem? (i := 595) (by decide +kernel), List.mem_of_getElem? (i := 888) (by decide +kernel), List.mem_of_getElem? (i := 889) (by decide +kernel)⟩
theorem lw_p36 : lw_okq (⟨"ForgettingArchiveModel", "putBack", "()V"⟩, 13) := ⟨⟨by decide +kernel, by decide +kernel⟩, List.mem_of_getElem? (i := 595) (by decide +kernel), List.mem_of_getElem? (i := 892) (by decide +kernel), List.mem_of_getElem? (i := 893) (by decide +kernel)⟩
def lw_privs_3 : List (MethodName × Nat) := [(⟨"ForgettingArchiveModel", "number", "(III)Z"⟩, 13), (⟨"ForgettingArchiveModel", "does", "(I)I"⟩, 13), (⟨"ForgettingArchiveModel", "ahead", "(I)I"⟩, 13), (⟨"ForgettingArchiveModel", "keepTrial", "()V"⟩, 13), (⟨"ForgettingArchiveModel", "putBack", "()V"⟩, 13)]
theorem lw_r3 : ∀ q ∈ lw_privs_3, lw_okq q := List.forall_mem_cons.mpr ⟨lw_p32, List.forall_mem_cons.mpr ⟨lw_p33, List.forall_mem_cons.mpr ⟨lw_p34, List.forall_mem_cons.mpr ⟨lw_p35, List.forall_mem_cons.mpr ⟨lw_p36, fun _ h => absurd h List.not_mem_nil⟩⟩⟩⟩⟩
def lw_privs : List (MethodName × Nat) := lw_privs_1 ++ (lw_privs_2 ++ (lw_privs_3))
def lw_tbl : List Cond := k2_sels lw_privs ++ tables_1
theorem lw_privs_ok : ∀ q ∈ lw_privs, lw_okq q := by
  show ∀ q ∈ lw_privs_1 ++ (lw_privs_2 ++ (lw_privs_3)), lw_okq q
  exact List.forall_mem_append.mpr ⟨lw_r1, List.forall_mem_append.mpr ⟨lw_r2, lw_r3⟩⟩
/-- the streams that the claim lets the run draw from -/
abbrev lw_cs : List Choice := [Jvm.Choice.named "NaN.bits"]
theorem lw_bits : nanBits ∈ lw_cs := by first | decide | exact List.mem_cons_self | simp [lw_cs, nanBits]
-- ===== end of PART A; then your names; then what follows =====
def RX0 : String := "ForgettingArchive$History"
def TX0 : u_T := fun k => match k with
  | 0 => ("ForgettingArchive$History", "size", "I", false)
  | _ => ("ForgettingArchive$History", "states", "[LForgettingArchive$State;", true)
def tyX0 : Nat → FieldType := fun k => match k with
  | 0 => .int
  | _ => .array (.object "ForgettingArchive$State")
theorem nmX0 : ∀ a, a < 2 → ∀ b, b < 2 → a ≠ b → (TX0 a).2.1 ≠ (TX0 b).2.1 := by decide +kernel
theorem tyX0_ok : ∀ k, k < 2 → parseFieldDescriptor (TX0 k).2.2.1 = some (tyX0 k) := by decide +kernel
abbrev cX0_init : ByteArray := prog_2_method_1_code
def yX0_init : MethodName := ⟨RX0, "<init>", "()V"⟩
abbrev cX0_draft : ByteArray := prog_2_method_2_code
def yX0_draft : MethodName := ⟨RX0, "draft", "(LForgettingArchive$State;)V"⟩
abbrev cX0_keepDraft : ByteArray := prog_2_method_3_code
def yX0_keepDraft : MethodName := ⟨RX0, "keepDraft", "()V"⟩
abbrev cX0_takeLatest : ByteArray := prog_2_method_4_code
def yX0_takeLatest : MethodName := ⟨RX0, "takeLatest", "()LForgettingArchive$State;"⟩
def RX1 : String := "ForgettingArchive$OrderText"
def TX1 : u_T := fun k => match k with
  | 0 => ("ForgettingArchive$OrderText", "signs", "[C", true)
  | 1 => ("ForgettingArchive$OrderText", "length", "I", false)
  | 2 => ("ForgettingArchive$OrderText", "at", "I", false)
  | 3 => ("ForgettingArchive$OrderText", "letter", "C", false)
  | 4 => ("ForgettingArchive$OrderText", "first", "I", false)
  | _ => ("ForgettingArchive$OrderText", "second", "I", false)
def tyX1 : Nat → FieldType := fun k => match k with
  | 0 => .array .char
  | 1 => .int
  | 2 => .int
  | 3 => .char
  | 4 => .int
  | _ => .int
theorem nmX1 : ∀ a, a < 6 → ∀ b, b < 6 → a ≠ b → (TX1 a).2.1 ≠ (TX1 b).2.1 := by decide +kernel
theorem tyX1_ok : ∀ k, k < 6 → parseFieldDescriptor (TX1 k).2.2.1 = some (tyX1 k) := by decide +kernel
abbrev cX1_init : ByteArray := prog_3_method_1_code
def yX1_init : MethodName := ⟨RX1, "<init>", "()V"⟩
abbrev cX1_appendSign : ByteArray := prog_3_method_2_code
def yX1_appendSign : MethodName := ⟨RX1, "appendSign", "(C)Z"⟩
abbrev cX1_findFault : ByteArray := prog_3_method_3_code
def yX1_findFault : MethodName := ⟨RX1, "findFault", "()I"⟩
abbrev cX1_readOrder : ByteArray := prog_3_method_4_code
def yX1_readOrder : MethodName := ⟨RX1, "readOrder", "()Z"⟩
abbrev cX1_readFirst : ByteArray := prog_3_method_5_code
def yX1_readFirst : MethodName := ⟨RX1, "readFirst", "(II)Z"⟩
abbrev cX1_readSecond : ByteArray := prog_3_method_6_code
def yX1_readSecond : MethodName := ⟨RX1, "readSecond", "(II)Z"⟩
abbrev cX1_readSign : ByteArray := prog_3_method_7_code
def yX1_readSign : MethodName := ⟨RX1, "readSign", "(C)Z"⟩
abbrev cX1_readNumber : ByteArray := prog_3_method_8_code
def yX1_readNumber : MethodName := ⟨RX1, "readNumber", "(II)I"⟩
abbrev cX1_digitHere : ByteArray := prog_3_method_9_code
def yX1_digitHere : MethodName := ⟨RX1, "digitHere", "()I"⟩
abbrev cX1_signHere : ByteArray := prog_3_method_10_code
def yX1_signHere : MethodName := ⟨RX1, "signHere", "()C"⟩
def RX2 : String := "ForgettingArchive$Reservations"
def TX2 : u_T := fun k => match k with
  | 0 => ("ForgettingArchive$Reservations", "size", "I", false)
  | 1 => ("ForgettingArchive$Reservations", "files", "[I", true)
  | _ => ("ForgettingArchive$Reservations", "days", "[I", true)
def tyX2 : Nat → FieldType := fun k => match k with
  | 0 => .int
  | 1 => .array .int
  | _ => .array .int
theorem nmX2 : ∀ a, a < 3 → ∀ b, b < 3 → a ≠ b → (TX2 a).2.1 ≠ (TX2 b).2.1 := by decide +kernel
theorem tyX2_ok : ∀ k, k < 3 → parseFieldDescriptor (TX2 k).2.2.1 = some (tyX2 k) := by decide +kernel
abbrev cX2_init : ByteArray := prog_4_method_1_code
def yX2_init : MethodName := ⟨RX2, "<init>", "()V"⟩
abbrev cX2_copyFrom : ByteArray := prog_4_method_2_code
def yX2_copyFrom : MethodName := ⟨RX2, "copyFrom", "(LForgettingArchive$Reservations;)V"⟩
abbrev cX2_placeOf : ByteArray := prog_4_method_3_code
def yX2_placeOf : MethodName := ⟨RX2, "placeOf", "(II)I"⟩
abbrev cX2_numberFor : ByteArray := prog_4_method_4_code
def yX2_numberFor : MethodName := ⟨RX2, "numberFor", "(I)I"⟩
abbrev cX2_insert : ByteArray := prog_4_method_5_code
def yX2_insert : MethodName := ⟨RX2, "insert", "(II)V"⟩
abbrev cX2_comesBefore : ByteArray := prog_4_method_6_code
def yX2_comesBefore : MethodName := ⟨RX2, "comesBefore", "(III)Z"⟩
abbrev cX2_removeAt : ByteArray := prog_4_method_7_code
def yX2_removeAt : MethodName := ⟨RX2, "removeAt", "(I)V"⟩
def RX3 : String := "ForgettingArchive$State"
def TX3 : u_T := fun k => match k with
  | 0 => ("ForgettingArchive$State", "now", "I", false)
  | 1 => ("ForgettingArchive$State", "stored", "I", false)
  | 2 => ("ForgettingArchive$State", "came", "I", false)
  | 3 => ("ForgettingArchive$State", "burntFiles", "I", false)
  | 4 => ("ForgettingArchive$State", "burntPages", "I", false)
  | 5 => ("ForgettingArchive$State", "askings", "I", false)
  | 6 => ("ForgettingArchive$State", "regrets", "I", false)
  | 7 => ("ForgettingArchive$State", "burnings", "I", false)
  | 8 => ("ForgettingArchive$State", "files", "[LForgettingArchive$StoredFile;", true)
  | 9 => ("ForgettingArchive$State", "reservations", "LForgettingArchive$Reservations;", true)
  | 10 => ("ForgettingArchive$State", "traces", "LForgettingArchive$Traces;", true)
  | _ => ("ForgettingArchive$State", "settings", "[I", true)
def tyX3 : Nat → FieldType := fun k => match k with
  | 0 => .int
  | 1 => .int
  | 2 => .int
  | 3 => .int
  | 4 => .int
  | 5 => .int
  | 6 => .int
  | 7 => .int
  | 8 => .array (.object "ForgettingArchive$StoredFile")
  | 9 => .object "ForgettingArchive$Reservations"
  | 10 => .object "ForgettingArchive$Traces"
  | _ => .array .int
theorem nmX3 : ∀ a, a < 12 → ∀ b, b < 12 → a ≠ b → (TX3 a).2.1 ≠ (TX3 b).2.1 := by decide +kernel
theorem tyX3_ok : ∀ k, k < 12 → parseFieldDescriptor (TX3 k).2.2.1 = some (tyX3 k) := by decide +kernel
abbrev cX3_init : ByteArray := prog_5_method_1_code
def yX3_init : MethodName := ⟨RX3, "<init>", "()V"⟩
abbrev cX3_copyFrom : ByteArray := prog_5_method_2_code
def yX3_copyFrom : MethodName := ⟨RX3, "copyFrom", "(LForgettingArchive$State;)V"⟩
abbrev cX3_addFile : ByteArray := prog_5_method_3_code
def yX3_addFile : MethodName := ⟨RX3, "addFile", "(II)I"⟩
abbrev cX3_askFor : ByteArray := prog_5_method_4_code
def yX3_askFor : MethodName := ⟨RX3, "askFor", "(I)I"⟩
abbrev cX3_putSeal : ByteArray := prog_5_method_5_code
def yX3_putSeal : MethodName := ⟨RX3, "putSeal", "(III)I"⟩
abbrev cX3_takeSeal : ByteArray := prog_5_method_6_code
def yX3_takeSeal : MethodName := ⟨RX3, "takeSeal", "(II)I"⟩
abbrev cX3_putReference : ByteArray := prog_5_method_7_code
def yX3_putReference : MethodName := ⟨RX3, "putReference", "(II)I"⟩
abbrev cX3_putReservation : ByteArray := prog_5_method_8_code
def yX3_putReservation : MethodName := ⟨RX3, "putReservation", "(II)I"⟩
abbrev cX3_takeReservation : ByteArray := prog_5_method_9_code
def yX3_takeReservation : MethodName := ⟨RX3, "takeReservation", "(II)I"⟩
abbrev cX3_passDays : ByteArray := prog_5_method_10_code
def yX3_passDays : MethodName := ⟨RX3, "passDays", "(I)I"⟩
abbrev cX3_changeSetting : ByteArray := prog_5_method_11_code
def yX3_changeSetting : MethodName := ⟨RX3, "changeSetting", "(II)I"⟩
abbrev cX3_passDay : ByteArray := prog_5_method_12_code
def yX3_passDay : MethodName := ⟨RX3, "passDay", "()I"⟩
abbrev cX3_askReserved : ByteArray := prog_5_method_13_code
def yX3_askReserved : MethodName := ⟨RX3, "askReserved", "()V"⟩
abbrev cX3_askStored : ByteArray := prog_5_method_14_code
def yX3_askStored : MethodName := ⟨RX3, "askStored", "(LForgettingArchive$StoredFile;)V"⟩
abbrev cX3_markReasons : ByteArray := prog_5_method_15_code
def yX3_markReasons : MethodName := ⟨RX3, "markReasons", "()V"⟩
abbrev cX3_ownReason : ByteArray := prog_5_method_16_code
def yX3_ownReason : MethodName := ⟨RX3, "ownReason", "(LForgettingArchive$StoredFile;)I"⟩
abbrev cX3_markReferredFrom : ByteArray := prog_5_method_17_code
def yX3_markReferredFrom : MethodName := ⟨RX3, "markReferredFrom", "(LForgettingArchive$StoredFile;)V"⟩
abbrev cX3_burnUnmarked : ByteArray := prog_5_method_18_code
def yX3_burnUnmarked : MethodName := ⟨RX3, "burnUnmarked", "()I"⟩
abbrev cX3_find : ByteArray := prog_5_method_19_code
def yX3_find : MethodName := ⟨RX3, "find", "(I)LForgettingArchive$StoredFile;"⟩
abbrev cX3_storedPages : ByteArray := prog_5_method_20_code
def yX3_storedPages : MethodName := ⟨RX3, "storedPages", "()I"⟩
abbrev cX3_sumOfAges : ByteArray := prog_5_method_21_code
def yX3_sumOfAges : MethodName := ⟨RX3, "sumOfAges", "()I"⟩
abbrev cX3_dueDay : ByteArray := prog_5_method_22_code
def yX3_dueDay : MethodName := ⟨RX3, "dueDay", "(LForgettingArchive$StoredFile;)I"⟩
abbrev cX3_referrersOf : ByteArray := prog_5_method_23_code
def yX3_referrersOf : MethodName := ⟨RX3, "referrersOf", "(I)I"⟩
abbrev cX3_lowestKeeperOf : ByteArray := prog_5_method_24_code
def yX3_lowestKeeperOf : MethodName := ⟨RX3, "lowestKeeperOf", "(I)I"⟩
def RX4 : String := "ForgettingArchive$StoredFile"
def TX4 : u_T := fun k => match k with
  | 0 => ("ForgettingArchive$StoredFile", "number", "I", false)
  | 1 => ("ForgettingArchive$StoredFile", "kind", "I", false)
  | 2 => ("ForgettingArchive$StoredFile", "pages", "I", false)
  | 3 => ("ForgettingArchive$StoredFile", "cameOn", "I", false)
  | 4 => ("ForgettingArchive$StoredFile", "askedOn", "I", false)
  | 5 => ("ForgettingArchive$StoredFile", "timesAsked", "I", false)
  | 6 => ("ForgettingArchive$StoredFile", "target", "I", false)
  | 7 => ("ForgettingArchive$StoredFile", "sealEnds", "[I", true)
  | _ => ("ForgettingArchive$StoredFile", "reason", "I", false)
def tyX4 : Nat → FieldType := fun k => match k with
  | 0 => .int
  | 1 => .int
  | 2 => .int
  | 3 => .int
  | 4 => .int
  | 5 => .int
  | 6 => .int
  | 7 => .array .int
  | _ => .int
theorem nmX4 : ∀ a, a < 9 → ∀ b, b < 9 → a ≠ b → (TX4 a).2.1 ≠ (TX4 b).2.1 := by decide +kernel
theorem tyX4_ok : ∀ k, k < 9 → parseFieldDescriptor (TX4 k).2.2.1 = some (tyX4 k) := by decide +kernel
abbrev cX4_init : ByteArray := prog_6_method_1_code
def yX4_init : MethodName := ⟨RX4, "<init>", "()V"⟩
abbrev cX4_comeAs : ByteArray := prog_6_method_2_code
def yX4_comeAs : MethodName := ⟨RX4, "comeAs", "(IIII)V"⟩
abbrev cX4_copyFrom : ByteArray := prog_6_method_3_code
def yX4_copyFrom : MethodName := ⟨RX4, "copyFrom", "(LForgettingArchive$StoredFile;)V"⟩
abbrev cX4_holdersOn : ByteArray := prog_6_method_4_code
def yX4_holdersOn : MethodName := ⟨RX4, "holdersOn", "(I)I"⟩
def RX5 : String := "ForgettingArchive$Traces"
def TX5 : u_T := fun k => match k with
  | 0 => ("ForgettingArchive$Traces", "size", "I", false)
  | _ => ("ForgettingArchive$Traces", "cells", "[I", true)
def tyX5 : Nat → FieldType := fun k => match k with
  | 0 => .int
  | _ => .array .int
theorem nmX5 : ∀ a, a < 2 → ∀ b, b < 2 → a ≠ b → (TX5 a).2.1 ≠ (TX5 b).2.1 := by decide +kernel
theorem tyX5_ok : ∀ k, k < 2 → parseFieldDescriptor (TX5 k).2.2.1 = some (tyX5 k) := by decide +kernel
abbrev cX5_init : ByteArray := prog_7_method_1_code
def yX5_init : MethodName := ⟨RX5, "<init>", "()V"⟩
abbrev cX5_copyFrom : ByteArray := prog_7_method_2_code
def yX5_copyFrom : MethodName := ⟨RX5, "copyFrom", "(LForgettingArchive$Traces;)V"⟩
abbrev cX5_leave : ByteArray := prog_7_method_3_code
def yX5_leave : MethodName := ⟨RX5, "leave", "(LForgettingArchive$StoredFile;I)V"⟩
abbrev cX5_cellOf : ByteArray := prog_7_method_4_code
def yX5_cellOf : MethodName := ⟨RX5, "cellOf", "(II)I"⟩
def RX6 : String := "ForgettingArchive"
def TX6 : u_T := fun k => match k with
  | 0 => ("ForgettingArchive", "state", "LForgettingArchive$State;", true)
  | 1 => ("ForgettingArchive", "future", "LForgettingArchive$State;", true)
  | 2 => ("ForgettingArchive", "history", "LForgettingArchive$History;", true)
  | 3 => ("ForgettingArchive", "text", "LForgettingArchive$OrderText;", true)
  | 4 => ("ForgettingArchive", "stoppedOrder", "I", false)
  | 5 => ("ForgettingArchive", "stoppedStart", "I", false)
  | _ => ("ForgettingArchive", "stoppedBy", "I", false)
def tyX6 : Nat → FieldType := fun k => match k with
  | 0 => .object "ForgettingArchive$State"
  | 1 => .object "ForgettingArchive$State"
  | 2 => .object "ForgettingArchive$History"
  | 3 => .object "ForgettingArchive$OrderText"
  | 4 => .int
  | 5 => .int
  | _ => .int
theorem nmX6 : ∀ a, a < 7 → ∀ b, b < 7 → a ≠ b → (TX6 a).2.1 ≠ (TX6 b).2.1 := by decide +kernel
theorem tyX6_ok : ∀ k, k < 7 → parseFieldDescriptor (TX6 k).2.2.1 = some (tyX6 k) := by decide +kernel
abbrev cX6_init : ByteArray := prog_1_method_1_code
def yX6_init : MethodName := ⟨RX6, "<init>", "()V"⟩
abbrev cX6_add : ByteArray := prog_1_method_2_code
def yX6_add : MethodName := ⟨RX6, "add", "(II)I"⟩
abbrev cX6_ask : ByteArray := prog_1_method_3_code
def yX6_ask : MethodName := ⟨RX6, "ask", "(I)I"⟩
abbrev cX6_seal : ByteArray := prog_1_method_4_code
def yX6_seal : MethodName := ⟨RX6, "seal", "(III)I"⟩
abbrev cX6_lift : ByteArray := prog_1_method_5_code
def yX6_lift : MethodName := ⟨RX6, "lift", "(II)I"⟩
abbrev cX6_refer : ByteArray := prog_1_method_6_code
def yX6_refer : MethodName := ⟨RX6, "refer", "(II)I"⟩
abbrev cX6_reserve : ByteArray := prog_1_method_7_code
def yX6_reserve : MethodName := ⟨RX6, "reserve", "(II)I"⟩
abbrev cX6_cancel : ByteArray := prog_1_method_8_code
def yX6_cancel : MethodName := ⟨RX6, "cancel", "(II)I"⟩
abbrev cX6_pass : ByteArray := prog_1_method_9_code
def yX6_pass : MethodName := ⟨RX6, "pass", "(I)I"⟩
abbrev cX6_set : ByteArray := prog_1_method_10_code
def yX6_set : MethodName := ⟨RX6, "set", "(II)I"⟩
abbrev cX6_append : ByteArray := prog_1_method_11_code
def yX6_append : MethodName := ⟨RX6, "append", "(I)I"⟩
abbrev cX6_clearText : ByteArray := prog_1_method_12_code
def yX6_clearText : MethodName := ⟨RX6, "clearText", "()I"⟩
abbrev cX6_fault : ByteArray := prog_1_method_13_code
def yX6_fault : MethodName := ⟨RX6, "fault", "()I"⟩
abbrev cX6_run : ByteArray := prog_1_method_14_code
def yX6_run : MethodName := ⟨RX6, "run", "()I"⟩
abbrev cX6_why : ByteArray := prog_1_method_15_code
def yX6_why : MethodName := ⟨RX6, "why", "(I)I"⟩
abbrev cX6_undo : ByteArray := prog_1_method_16_code
def yX6_undo : MethodName := ⟨RX6, "undo", "()I"⟩
abbrev cX6_now : ByteArray := prog_1_method_17_code
def yX6_now : MethodName := ⟨RX6, "now", "()I"⟩
abbrev cX6_count : ByteArray := prog_1_method_18_code
def yX6_count : MethodName := ⟨RX6, "count", "(I)I"⟩
abbrev cX6_fileAt : ByteArray := prog_1_method_19_code
def yX6_fileAt : MethodName := ⟨RX6, "fileAt", "(I)I"⟩
abbrev cX6_file : ByteArray := prog_1_method_20_code
def yX6_file : MethodName := ⟨RX6, "file", "(II)I"⟩
abbrev cX6_sealOf : ByteArray := prog_1_method_21_code
def yX6_sealOf : MethodName := ⟨RX6, "sealOf", "(II)I"⟩
abbrev cX6_trace : ByteArray := prog_1_method_22_code
def yX6_trace : MethodName := ⟨RX6, "trace", "(II)I"⟩
abbrev cX6_reservation : ByteArray := prog_1_method_23_code
def yX6_reservation : MethodName := ⟨RX6, "reservation", "(II)I"⟩
abbrev cX6_setting : ByteArray := prog_1_method_24_code
def yX6_setting : MethodName := ⟨RX6, "setting", "(I)I"⟩
abbrev cX6_meanAge : ByteArray := prog_1_method_25_code
def yX6_meanAge : MethodName := ⟨RX6, "meanAge", "()F"⟩
abbrev cX6_stays : ByteArray := prog_1_method_26_code
def yX6_stays : MethodName := ⟨RX6, "stays", "(I)I"⟩
abbrev cX6_keeper : ByteArray := prog_1_method_27_code
def yX6_keeper : MethodName := ⟨RX6, "keeper", "(I)I"⟩
abbrev cX6_burntIn : ByteArray := prog_1_method_28_code
def yX6_burntIn : MethodName := ⟨RX6, "burntIn", "(I)I"⟩
abbrev cX6_ifPassed : ByteArray := prog_1_method_29_code
def yX6_ifPassed : MethodName := ⟨RX6, "ifPassed", "(II)I"⟩
abbrev cX6_isError : ByteArray := prog_1_method_30_code
def yX6_isError : MethodName := ⟨RX6, "isError", "(I)Z"⟩
abbrev cX6_isNoHolder : ByteArray := prog_1_method_31_code
def yX6_isNoHolder : MethodName := ⟨RX6, "isNoHolder", "(I)Z"⟩
abbrev cX6_isNoSetting : ByteArray := prog_1_method_32_code
def yX6_isNoSetting : MethodName := ⟨RX6, "isNoSetting", "(I)Z"⟩
abbrev cX6_recorded : ByteArray := prog_1_method_33_code
def yX6_recorded : MethodName := ⟨RX6, "recorded", "(I)I"⟩
abbrev cX6_report : ByteArray := prog_1_method_34_code
def yX6_report : MethodName := ⟨RX6, "report", "(III)V"⟩
abbrev cX6_obey : ByteArray := prog_1_method_35_code
def yX6_obey : MethodName := ⟨RX6, "obey", "()I"⟩
def RX7 : String := "ForgettingArchiveModel"
def TX7 : u_T := fun k => match k with
  | 0 => ("ForgettingArchiveModel", "s", "[I", true)
  | 1 => ("ForgettingArchiveModel", "spare", "[I", true)
  | 2 => ("ForgettingArchiveModel", "trial", "[I", true)
  | 3 => ("ForgettingArchiveModel", "before", "[I", true)
  | 4 => ("ForgettingArchiveModel", "stay", "[Z", true)
  | 5 => ("ForgettingArchiveModel", "read", "[I", true)
  | 6 => ("ForgettingArchiveModel", "report", "[I", true)
  | 7 => ("ForgettingArchiveModel", "text", "[C", true)
  | 8 => ("ForgettingArchiveModel", "isReported", "Z", false)
  | 9 => ("ForgettingArchiveModel", "length", "I", false)
  | 10 => ("ForgettingArchiveModel", "states", "I", false)
  | 11 => ("ForgettingArchiveModel", "orders", "I", false)
  | _ => ("ForgettingArchiveModel", "at", "I", false)
def tyX7 : Nat → FieldType := fun k => match k with
  | 0 => .array .int
  | 1 => .array .int
  | 2 => .array .int
  | 3 => .array .int
  | 4 => .array .boolean
  | 5 => .array .int
  | 6 => .array .int
  | 7 => .array .char
  | 8 => .boolean
  | 9 => .int
  | 10 => .int
  | 11 => .int
  | _ => .int
theorem nmX7 : ∀ a, a < 13 → ∀ b, b < 13 → a ≠ b → (TX7 a).2.1 ≠ (TX7 b).2.1 := by decide +kernel
theorem tyX7_ok : ∀ k, k < 13 → parseFieldDescriptor (TX7 k).2.2.1 = some (tyX7 k) := by decide +kernel
abbrev cX7_init : ByteArray := prog_9_method_1_code
def yX7_init : MethodName := ⟨RX7, "<init>", "()V"⟩
abbrev cX7_in : ByteArray := prog_9_method_2_code
def yX7_in : MethodName := ⟨RX7, "in", "(III)Z"⟩
abbrev cX7_f : ByteArray := prog_9_method_3_code
def yX7_f : MethodName := ⟨RX7, "f", "(I)I"⟩
abbrev cX7_placeOf : ByteArray := prog_9_method_4_code
def yX7_placeOf : MethodName := ⟨RX7, "placeOf", "(I)I"⟩
abbrev cX7_hold : ByteArray := prog_9_method_5_code
def yX7_hold : MethodName := ⟨RX7, "hold", "()V"⟩
abbrev cX7_recorded : ByteArray := prog_9_method_6_code
def yX7_recorded : MethodName := ⟨RX7, "recorded", "(I)I"⟩
abbrev cX7_keepTrial : ByteArray := prog_9_method_7_code
def yX7_keepTrial : MethodName := ⟨RX7, "keepTrial", "()V"⟩
abbrev cX7_putBack : ByteArray := prog_9_method_8_code
def yX7_putBack : MethodName := ⟨RX7, "putBack", "()V"⟩
abbrev cX7_pages : ByteArray := prog_9_method_9_code
def yX7_pages : MethodName := ⟨RX7, "pages", "()I"⟩
abbrev cX7_due : ByteArray := prog_9_method_10_code
def yX7_due : MethodName := ⟨RX7, "due", "(I)I"⟩
abbrev cX7_holds : ByteArray := prog_9_method_11_code
def yX7_holds : MethodName := ⟨RX7, "holds", "(II)Z"⟩
abbrev cX7_sealing : ByteArray := prog_9_method_12_code
def yX7_sealing : MethodName := ⟨RX7, "sealing", "(I)I"⟩
abbrev cX7_bits : ByteArray := prog_9_method_13_code
def yX7_bits : MethodName := ⟨RX7, "bits", "(I)I"⟩
abbrev cX7_reservations : ByteArray := prog_9_method_14_code
def yX7_reservations : MethodName := ⟨RX7, "reservations", "(I)I"⟩
abbrev cX7_referring : ByteArray := prog_9_method_15_code
def yX7_referring : MethodName := ⟨RX7, "referring", "(I)I"⟩
abbrev cX7_ownReason : ByteArray := prog_9_method_16_code
def yX7_ownReason : MethodName := ⟨RX7, "ownReason", "(I)I"⟩
abbrev cX7_tellStaying : ByteArray := prog_9_method_17_code
def yX7_tellStaying : MethodName := ⟨RX7, "tellStaying", "()V"⟩
abbrev cX7_leaveTrace : ByteArray := prog_9_method_18_code
def yX7_leaveTrace : MethodName := ⟨RX7, "leaveTrace", "(I)V"⟩
abbrev cX7_burn : ByteArray := prog_9_method_19_code
def yX7_burn : MethodName := ⟨RX7, "burn", "(I)V"⟩
abbrev cX7_burning : ByteArray := prog_9_method_20_code
def yX7_burning : MethodName := ⟨RX7, "burning", "()I"⟩
abbrev cX7_asks : ByteArray := prog_9_method_21_code
def yX7_asks : MethodName := ⟨RX7, "asks", "(I)I"⟩
abbrev cX7_removeReservation : ByteArray := prog_9_method_22_code
def yX7_removeReservation : MethodName := ⟨RX7, "removeReservation", "(I)V"⟩
abbrev cX7_reserved : ByteArray := prog_9_method_23_code
def yX7_reserved : MethodName := ⟨RX7, "reserved", "()I"⟩
abbrev cX7_day : ByteArray := prog_9_method_24_code
def yX7_day : MethodName := ⟨RX7, "day", "()I"⟩
abbrev cX7_adds : ByteArray := prog_9_method_25_code
def yX7_adds : MethodName := ⟨RX7, "adds", "(II)I"⟩
abbrev cX7_asksFor : ByteArray := prog_9_method_26_code
def yX7_asksFor : MethodName := ⟨RX7, "asksFor", "(I)I"⟩
abbrev cX7_seals : ByteArray := prog_9_method_27_code
def yX7_seals : MethodName := ⟨RX7, "seals", "(III)I"⟩
abbrev cX7_lifts : ByteArray := prog_9_method_28_code
def yX7_lifts : MethodName := ⟨RX7, "lifts", "(II)I"⟩
abbrev cX7_refers : ByteArray := prog_9_method_29_code
def yX7_refers : MethodName := ⟨RX7, "refers", "(II)I"⟩
abbrev cX7_passes : ByteArray := prog_9_method_30_code
def yX7_passes : MethodName := ⟨RX7, "passes", "(I)I"⟩
abbrev cX7_add : ByteArray := prog_9_method_31_code
def yX7_add : MethodName := ⟨RX7, "add", "(II)I"⟩
abbrev cX7_ask : ByteArray := prog_9_method_32_code
def yX7_ask : MethodName := ⟨RX7, "ask", "(I)I"⟩
abbrev cX7_seal : ByteArray := prog_9_method_33_code
def yX7_seal : MethodName := ⟨RX7, "seal", "(III)I"⟩
abbrev cX7_lift : ByteArray := prog_9_method_34_code
def yX7_lift : MethodName := ⟨RX7, "lift", "(II)I"⟩
abbrev cX7_refer : ByteArray := prog_9_method_35_code
def yX7_refer : MethodName := ⟨RX7, "refer", "(II)I"⟩
abbrev cX7_find : ByteArray := prog_9_method_36_code
def yX7_find : MethodName := ⟨RX7, "find", "(II)I"⟩
abbrev cX7_reserve : ByteArray := prog_9_method_37_code
def yX7_reserve : MethodName := ⟨RX7, "reserve", "(II)I"⟩
abbrev cX7_cancel : ByteArray := prog_9_method_38_code
def yX7_cancel : MethodName := ⟨RX7, "cancel", "(II)I"⟩
abbrev cX7_pass : ByteArray := prog_9_method_39_code
def yX7_pass : MethodName := ⟨RX7, "pass", "(I)I"⟩
abbrev cX7_set : ByteArray := prog_9_method_40_code
def yX7_set : MethodName := ⟨RX7, "set", "(II)I"⟩
abbrev cX7_append : ByteArray := prog_9_method_41_code
def yX7_append : MethodName := ⟨RX7, "append", "(I)I"⟩
abbrev cX7_clearText : ByteArray := prog_9_method_42_code
def yX7_clearText : MethodName := ⟨RX7, "clearText", "()I"⟩
abbrev cX7_isSign : ByteArray := prog_9_method_43_code
def yX7_isSign : MethodName := ⟨RX7, "isSign", "(CC)Z"⟩
abbrev cX7_accepts : ByteArray := prog_9_method_44_code
def yX7_accepts : MethodName := ⟨RX7, "accepts", "(C)Z"⟩
abbrev cX7_number : ByteArray := prog_9_method_45_code
def yX7_number : MethodName := ⟨RX7, "number", "(III)Z"⟩
abbrev cX7_readsOrder : ByteArray := prog_9_method_46_code
def yX7_readsOrder : MethodName := ⟨RX7, "readsOrder", "()Z"⟩
abbrev cX7_faultOf : ByteArray := prog_9_method_47_code
def yX7_faultOf : MethodName := ⟨RX7, "faultOf", "()I"⟩
abbrev cX7_fault : ByteArray := prog_9_method_48_code
def yX7_fault : MethodName := ⟨RX7, "fault", "()I"⟩
abbrev cX7_does : ByteArray := prog_9_method_49_code
def yX7_does : MethodName := ⟨RX7, "does", "(I)I"⟩
abbrev cX7_run : ByteArray := prog_9_method_50_code
def yX7_run : MethodName := ⟨RX7, "run", "()I"⟩
abbrev cX7_why : ByteArray := prog_9_method_51_code
def yX7_why : MethodName := ⟨RX7, "why", "(I)I"⟩
abbrev cX7_undo : ByteArray := prog_9_method_52_code
def yX7_undo : MethodName := ⟨RX7, "undo", "()I"⟩
abbrev cX7_now : ByteArray := prog_9_method_53_code
def yX7_now : MethodName := ⟨RX7, "now", "()I"⟩
abbrev cX7_count : ByteArray := prog_9_method_54_code
def yX7_count : MethodName := ⟨RX7, "count", "(I)I"⟩
abbrev cX7_fileAt : ByteArray := prog_9_method_55_code
def yX7_fileAt : MethodName := ⟨RX7, "fileAt", "(I)I"⟩
abbrev cX7_file : ByteArray := prog_9_method_56_code
def yX7_file : MethodName := ⟨RX7, "file", "(II)I"⟩
abbrev cX7_sealOf : ByteArray := prog_9_method_57_code
def yX7_sealOf : MethodName := ⟨RX7, "sealOf", "(II)I"⟩
abbrev cX7_trace : ByteArray := prog_9_method_58_code
def yX7_trace : MethodName := ⟨RX7, "trace", "(II)I"⟩
abbrev cX7_ahead : ByteArray := prog_9_method_59_code
def yX7_ahead : MethodName := ⟨RX7, "ahead", "(I)I"⟩
abbrev cX7_reservation : ByteArray := prog_9_method_60_code
def yX7_reservation : MethodName := ⟨RX7, "reservation", "(II)I"⟩
abbrev cX7_setting : ByteArray := prog_9_method_61_code
def yX7_setting : MethodName := ⟨RX7, "setting", "(I)I"⟩
abbrev cX7_meanAge : ByteArray := prog_9_method_62_code
def yX7_meanAge : MethodName := ⟨RX7, "meanAge", "()F"⟩
abbrev cX7_stays : ByteArray := prog_9_method_63_code
def yX7_stays : MethodName := ⟨RX7, "stays", "(I)I"⟩
abbrev cX7_keeper : ByteArray := prog_9_method_64_code
def yX7_keeper : MethodName := ⟨RX7, "keeper", "(I)I"⟩
abbrev cX7_burntIn : ByteArray := prog_9_method_65_code
def yX7_burntIn : MethodName := ⟨RX7, "burntIn", "(I)I"⟩
abbrev cX7_ifPassed : ByteArray := prog_9_method_66_code
def yX7_ifPassed : MethodName := ⟨RX7, "ifPassed", "(II)I"⟩
def RJ6 : String := "java/lang/Integer"
def TJ6 : u_T := fun k => match k with
  | _ => ("", "", "", false)
def tyJ6 : Nat → FieldType := fun k => match k with
  | _ => .int
theorem nmJ6 : ∀ a, a < 0 → ∀ b, b < 0 → a ≠ b → (TJ6 a).2.1 ≠ (TJ6 b).2.1 := by decide +kernel
theorem tyJ6_ok : ∀ k, k < 0 → parseFieldDescriptor (TJ6 k).2.2.1 = some (tyJ6 k) := by decide +kernel
abbrev cJ6_bitCount_0f7a4 : ByteArray := prog_10_method_49_code
def yJ6_bitCount_0f7a4 : MethodName := ⟨RJ6, "bitCount", "(I)I"⟩
def RJ10 : String := "java/lang/System"
def TJ10 : u_T := fun k => match k with
  | _ => ("", "", "", false)
def tyJ10 : Nat → FieldType := fun k => match k with
  | _ => .int
theorem nmJ10 : ∀ a, a < 0 → ∀ b, b < 0 → a ≠ b → (TJ10 a).2.1 ≠ (TJ10 b).2.1 := by decide +kernel
theorem tyJ10_ok : ∀ k, k < 0 → parseFieldDescriptor (TJ10 k).2.2.1 = some (tyJ10 k) := by decide +kernel
def RJ7 : String := "java/util/Arrays"
def TJ7 : u_T := fun k => match k with
  | _ => ("", "", "", false)
def tyJ7 : Nat → FieldType := fun k => match k with
  | _ => .int
theorem nmJ7 : ∀ a, a < 0 → ∀ b, b < 0 → a ≠ b → (TJ7 a).2.1 ≠ (TJ7 b).2.1 := by decide +kernel
theorem tyJ7_ok : ∀ k, k < 0 → parseFieldDescriptor (TJ7 k).2.2.1 = some (tyJ7 k) := by decide +kernel
abbrev cJ7_fill_53178 : ByteArray := prog_12_method_103_code
def yJ7_fill_53178 : MethodName := ⟨RJ7, "fill", "([II)V"⟩
def RL : String := "ForgettingArchiveLaw"
abbrev cL_law : ByteArray := code
def yL_law : MethodName := ⟨RL, "law", "([I)Z"⟩
abbrev vwCl : List vw_C := [(RX0, TX0, 2), (RX1, TX1, 6), (RX2, TX2, 3), (RX3, TX3, 12), (RX4, TX4, 9), (RX5, TX5, 2), (RX6, TX6, 7), (RX7, TX7, 13)]
