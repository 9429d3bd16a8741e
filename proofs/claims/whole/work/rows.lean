section
-- ===== PART A: goes FIRST, ahead of the names: the tables' words, and 'selects' of the private methods out of them =====
/-- a private method of a class that the tables say can be made, by its rows of tables_1 -/
def lw_okq (q : MethodName × Nat) : Prop := (q.1.cls ≠ "java/lang/invoke/MethodHandle" ∧ q.1.cls ≠ "java/lang/invoke/VarHandle") ∧ Cond.instantiable q.1.cls q.2 ∈ tables_1 ∧ Cond.privateMethod q.1 ∈ tables_1 ∧ Cond.instanceMethod q.1 ∈ tables_1
theorem lw_p0 : lw_okq (⟨"MeetHouse", "isLost", "(I)Z"⟩, 4) := ⟨⟨by decide +kernel, by decide +kernel⟩, List.mem_of_getElem? (i := 15) (by decide +kernel), List.mem_of_getElem? (i := 256) (by decide +kernel), List.mem_of_getElem? (i := 257) (by decide +kernel)⟩
theorem lw_p1 : lw_okq (⟨"MeetHouse$Pot", "takeOut", "(I)V"⟩, 5) := ⟨⟨by decide +kernel, by decide +kernel⟩, List.mem_of_getElem? (i := 31) (by decide +kernel), List.mem_of_getElem? (i := 314) (by decide +kernel), List.mem_of_getElem? (i := 315) (by decide +kernel)⟩
theorem lw_p2 : lw_okq (⟨"MeetHouse$Algebra", "pourDifference", "(LMeetHouse$Polynomial;II)V"⟩, 3) := ⟨⟨by decide +kernel, by decide +kernel⟩, List.mem_of_getElem? (i := 25) (by decide +kernel), List.mem_of_getElem? (i := 408) (by decide +kernel), List.mem_of_getElem? (i := 409) (by decide +kernel)⟩
theorem lw_p3 : lw_okq (⟨"MeetHouse$Algebra", "partOfLeft", "(II)J"⟩, 3) := ⟨⟨by decide +kernel, by decide +kernel⟩, List.mem_of_getElem? (i := 25) (by decide +kernel), List.mem_of_getElem? (i := 443) (by decide +kernel), List.mem_of_getElem? (i := 444) (by decide +kernel)⟩
theorem lw_p4 : lw_okq (⟨"MeetHouse$Conditions", "putOn", "(II)V"⟩, 8) := ⟨⟨by decide +kernel, by decide +kernel⟩, List.mem_of_getElem? (i := 88) (by decide +kernel), List.mem_of_getElem? (i := 559) (by decide +kernel), List.mem_of_getElem? (i := 560) (by decide +kernel)⟩
theorem lw_p5 : lw_okq (⟨"MeetHouse$Line", "normalize", "(I)Z"⟩, 2) := ⟨⟨by decide +kernel, by decide +kernel⟩, List.mem_of_getElem? (i := 150) (by decide +kernel), List.mem_of_getElem? (i := 608) (by decide +kernel), List.mem_of_getElem? (i := 609) (by decide +kernel)⟩
theorem lw_p6 : lw_okq (⟨"MeetHouse$Space", "linesFrom", "(III)I"⟩, 3) := ⟨⟨by decide +kernel, by decide +kernel⟩, List.mem_of_getElem? (i := 143) (by decide +kernel), List.mem_of_getElem? (i := 662) (by decide +kernel), List.mem_of_getElem? (i := 663) (by decide +kernel)⟩
theorem lw_p7 : lw_okq (⟨"MeetHouse$Space", "pointFrom", "(III)I"⟩, 3) := ⟨⟨by decide +kernel, by decide +kernel⟩, List.mem_of_getElem? (i := 143) (by decide +kernel), List.mem_of_getElem? (i := 666) (by decide +kernel), List.mem_of_getElem? (i := 667) (by decide +kernel)⟩
theorem lw_p8 : lw_okq (⟨"MeetHouse$Space", "crossesAll", "(I)Z"⟩, 3) := ⟨⟨by decide +kernel, by decide +kernel⟩, List.mem_of_getElem? (i := 143) (by decide +kernel), List.mem_of_getElem? (i := 670) (by decide +kernel), List.mem_of_getElem? (i := 671) (by decide +kernel)⟩
theorem lw_p9 : lw_okq (⟨"MeetHouse$Space", "isOnOne", "(II)Z"⟩, 3) := ⟨⟨by decide +kernel, by decide +kernel⟩, List.mem_of_getElem? (i := 143) (by decide +kernel), List.mem_of_getElem? (i := 682) (by decide +kernel), List.mem_of_getElem? (i := 683) (by decide +kernel)⟩
theorem lw_p10 : lw_okq (⟨"MeetHouse$Line", "pair", "(II)I"⟩, 2) := ⟨⟨by decide +kernel, by decide +kernel⟩, List.mem_of_getElem? (i := 150) (by decide +kernel), List.mem_of_getElem? (i := 690) (by decide +kernel), List.mem_of_getElem? (i := 691) (by decide +kernel)⟩
theorem lw_p11 : lw_okq (⟨"MeetHouse", "keptSheets", "()I"⟩, 4) := ⟨⟨by decide +kernel, by decide +kernel⟩, List.mem_of_getElem? (i := 15) (by decide +kernel), List.mem_of_getElem? (i := 698) (by decide +kernel), List.mem_of_getElem? (i := 699) (by decide +kernel)⟩
theorem lw_p12 : lw_okq (⟨"MeetHouseModel", "lookAtPoints", "()V"⟩, 38) := ⟨⟨by decide +kernel, by decide +kernel⟩, List.mem_of_getElem? (i := 731) (by decide +kernel), List.mem_of_getElem? (i := 738) (by decide +kernel), List.mem_of_getElem? (i := 739) (by decide +kernel)⟩
theorem lw_p13 : lw_okq (⟨"MeetHouseModel", "mixed", "(IIII)I"⟩, 38) := ⟨⟨by decide +kernel, by decide +kernel⟩, List.mem_of_getElem? (i := 731) (by decide +kernel), List.mem_of_getElem? (i := 742) (by decide +kernel), List.mem_of_getElem? (i := 743) (by decide +kernel)⟩
theorem lw_p14 : lw_okq (⟨"MeetHouseModel", "reads", "(I)Z"⟩, 38) := ⟨⟨by decide +kernel, by decide +kernel⟩, List.mem_of_getElem? (i := 731) (by decide +kernel), List.mem_of_getElem? (i := 865) (by decide +kernel), List.mem_of_getElem? (i := 866) (by decide +kernel)⟩
theorem lw_p15 : lw_okq (⟨"MeetHouseModel", "lengthNow", "()I"⟩, 38) := ⟨⟨by decide +kernel, by decide +kernel⟩, List.mem_of_getElem? (i := 731) (by decide +kernel), List.mem_of_getElem? (i := 873) (by decide +kernel), List.mem_of_getElem? (i := 874) (by decide +kernel)⟩
def lw_privs_1 : List (MethodName × Nat) := [(⟨"MeetHouse", "isLost", "(I)Z"⟩, 4), (⟨"MeetHouse$Pot", "takeOut", "(I)V"⟩, 5), (⟨"MeetHouse$Algebra", "pourDifference", "(LMeetHouse$Polynomial;II)V"⟩, 3), (⟨"MeetHouse$Algebra", "partOfLeft", "(II)J"⟩, 3), (⟨"MeetHouse$Conditions", "putOn", "(II)V"⟩, 8), (⟨"MeetHouse$Line", "normalize", "(I)Z"⟩, 2), (⟨"MeetHouse$Space", "linesFrom", "(III)I"⟩, 3), (⟨"MeetHouse$Space", "pointFrom", "(III)I"⟩, 3), (⟨"MeetHouse$Space", "crossesAll", "(I)Z"⟩, 3), (⟨"MeetHouse$Space", "isOnOne", "(II)Z"⟩, 3), (⟨"MeetHouse$Line", "pair", "(II)I"⟩, 2), (⟨"MeetHouse", "keptSheets", "()I"⟩, 4), (⟨"MeetHouseModel", "lookAtPoints", "()V"⟩, 38), (⟨"MeetHouseModel", "mixed", "(IIII)I"⟩, 38), (⟨"MeetHouseModel", "reads", "(I)Z"⟩, 38), (⟨"MeetHouseModel", "lengthNow", "()I"⟩, 38)]
theorem lw_r1 : ∀ q ∈ lw_privs_1, lw_okq q := List.forall_mem_cons.mpr ⟨lw_p0, List.forall_mem_cons.mpr ⟨lw_p1, List.forall_mem_cons.mpr ⟨lw_p2, List.forall_mem_cons.mpr ⟨lw_p3, List.forall_mem_cons.mpr ⟨lw_p4, List.forall_mem_cons.mpr ⟨lw_p5, List.forall_mem_cons.mpr ⟨lw_p6, List.forall_mem_cons.mpr ⟨lw_p7, List.forall_mem_cons.mpr ⟨lw_p8, List.forall_mem_cons.mpr ⟨lw_p9, List.forall_mem_cons.mpr ⟨lw_p10, List.forall_mem_cons.mpr ⟨lw_p11, List.forall_mem_cons.mpr ⟨lw_p12, List.forall_mem_cons.mpr ⟨lw_p13, List.forall_mem_cons.mpr ⟨lw_p14, List.forall_mem_cons.mpr ⟨lw_p15, fun _ h => absurd h List.not_mem_nil⟩⟩⟩⟩⟩⟩⟩⟩⟩⟩⟩⟩⟩⟩⟩⟩
theorem lw_p16 : lw_okq (⟨"MeetHouseModel", "change", "(II)V"⟩, 38) := ⟨⟨by decide +kernel, by decide +kernel⟩, List.mem_of_getElem? (i := 731) (by decide +kernel), List.mem_of_getElem? (i := 881) (by decide +kernel), List.mem_of_getElem? (i := 882) (by decide +kernel)⟩
theorem lw_p17 : lw_okq (⟨"MeetHouseModel", "told", "()I"⟩, 38) := ⟨⟨by decide +kernel, by decide +kernel⟩, List.mem_of_getElem? (i := 731) (by decide +kernel), List.mem_of_getElem? (i := 885) (by decide +kernel), List.mem_of_getElem? (i := 886) (by decide +kernel)⟩
theorem lw_p18 : lw_okq (⟨"MeetHouseModel", "wipe", "()V"⟩, 38) := ⟨⟨by decide +kernel, by decide +kernel⟩, List.mem_of_getElem? (i := 731) (by decide +kernel), List.mem_of_getElem? (i := 924) (by decide +kernel), List.mem_of_getElem? (i := 925) (by decide +kernel)⟩
theorem lw_p19 : lw_okq (⟨"MeetHouseModel", "takes", "(IJ)V"⟩, 38) := ⟨⟨by decide +kernel, by decide +kernel⟩, List.mem_of_getElem? (i := 731) (by decide +kernel), List.mem_of_getElem? (i := 928) (by decide +kernel), List.mem_of_getElem? (i := 929) (by decide +kernel)⟩
theorem lw_p20 : lw_okq (⟨"MeetHouseModel", "lays", "(I)I"⟩, 38) := ⟨⟨by decide +kernel, by decide +kernel⟩, List.mem_of_getElem? (i := 731) (by decide +kernel), List.mem_of_getElem? (i := 932) (by decide +kernel), List.mem_of_getElem? (i := 933) (by decide +kernel)⟩
theorem lw_p21 : lw_okq (⟨"MeetHouseModel", "tooMuch", "()I"⟩, 38) := ⟨⟨by decide +kernel, by decide +kernel⟩, List.mem_of_getElem? (i := 731) (by decide +kernel), List.mem_of_getElem? (i := 936) (by decide +kernel), List.mem_of_getElem? (i := 937) (by decide +kernel)⟩
theorem lw_p22 : lw_okq (⟨"MeetHouseModel", "highest", "(II)I"⟩, 38) := ⟨⟨by decide +kernel, by decide +kernel⟩, List.mem_of_getElem? (i := 731) (by decide +kernel), List.mem_of_getElem? (i := 970) (by decide +kernel), List.mem_of_getElem? (i := 971) (by decide +kernel)⟩
theorem lw_p23 : lw_okq (⟨"MeetHouseModel", "differ", "(I)V"⟩, 38) := ⟨⟨by decide +kernel, by decide +kernel⟩, List.mem_of_getElem? (i := 731) (by decide +kernel), List.mem_of_getElem? (i := 986) (by decide +kernel), List.mem_of_getElem? (i := 987) (by decide +kernel)⟩
theorem lw_p24 : lw_okq (⟨"MeetHouseModel", "makes", "(I)V"⟩, 38) := ⟨⟨by decide +kernel, by decide +kernel⟩, List.mem_of_getElem? (i := 731) (by decide +kernel), List.mem_of_getElem? (i := 994) (by decide +kernel), List.mem_of_getElem? (i := 995) (by decide +kernel)⟩
theorem lw_p25 : lw_okq (⟨"MeetHouseModel", "parts", "(IZ)J"⟩, 38) := ⟨⟨by decide +kernel, by decide +kernel⟩, List.mem_of_getElem? (i := 731) (by decide +kernel), List.mem_of_getElem? (i := 1002) (by decide +kernel), List.mem_of_getElem? (i := 1003) (by decide +kernel)⟩
theorem lw_p26 : lw_okq (⟨"MeetHouseModel", "fills", "(I)I"⟩, 38) := ⟨⟨by decide +kernel, by decide +kernel⟩, List.mem_of_getElem? (i := 731) (by decide +kernel), List.mem_of_getElem? (i := 1035) (by decide +kernel), List.mem_of_getElem? (i := 1036) (by decide +kernel)⟩
theorem lw_p27 : lw_okq (⟨"MeetHouseModel", "mayStand", "(III)Z"⟩, 38) := ⟨⟨by decide +kernel, by decide +kernel⟩, List.mem_of_getElem? (i := 731) (by decide +kernel), List.mem_of_getElem? (i := 1039) (by decide +kernel), List.mem_of_getElem? (i := 1040) (by decide +kernel)⟩
theorem lw_p28 : lw_okq (⟨"MeetHouseModel", "drops", "()V"⟩, 38) := ⟨⟨by decide +kernel, by decide +kernel⟩, List.mem_of_getElem? (i := 731) (by decide +kernel), List.mem_of_getElem? (i := 1063) (by decide +kernel), List.mem_of_getElem? (i := 1064) (by decide +kernel)⟩
theorem lw_p29 : lw_okq (⟨"MeetHouseModel", "pointOf", "(I)I"⟩, 38) := ⟨⟨by decide +kernel, by decide +kernel⟩, List.mem_of_getElem? (i := 731) (by decide +kernel), List.mem_of_getElem? (i := 1072) (by decide +kernel), List.mem_of_getElem? (i := 1073) (by decide +kernel)⟩
theorem lw_p30 : lw_okq (⟨"MeetHouseModel", "evened", "(I)I"⟩, 38) := ⟨⟨by decide +kernel, by decide +kernel⟩, List.mem_of_getElem? (i := 731) (by decide +kernel), List.mem_of_getElem? (i := 1077) (by decide +kernel), List.mem_of_getElem? (i := 1078) (by decide +kernel)⟩
theorem lw_p31 : lw_okq (⟨"MeetHouseModel", "wipeMarks", "([Z)V"⟩, 38) := ⟨⟨by decide +kernel, by decide +kernel⟩, List.mem_of_getElem? (i := 731) (by decide +kernel), List.mem_of_getElem? (i := 1089) (by decide +kernel), List.mem_of_getElem? (i := 1090) (by decide +kernel)⟩
def lw_privs_2 : List (MethodName × Nat) := [(⟨"MeetHouseModel", "change", "(II)V"⟩, 38), (⟨"MeetHouseModel", "told", "()I"⟩, 38), (⟨"MeetHouseModel", "wipe", "()V"⟩, 38), (⟨"MeetHouseModel", "takes", "(IJ)V"⟩, 38), (⟨"MeetHouseModel", "lays", "(I)I"⟩, 38), (⟨"MeetHouseModel", "tooMuch", "()I"⟩, 38), (⟨"MeetHouseModel", "highest", "(II)I"⟩, 38), (⟨"MeetHouseModel", "differ", "(I)V"⟩, 38), (⟨"MeetHouseModel", "makes", "(I)V"⟩, 38), (⟨"MeetHouseModel", "parts", "(IZ)J"⟩, 38), (⟨"MeetHouseModel", "fills", "(I)I"⟩, 38), (⟨"MeetHouseModel", "mayStand", "(III)Z"⟩, 38), (⟨"MeetHouseModel", "drops", "()V"⟩, 38), (⟨"MeetHouseModel", "pointOf", "(I)I"⟩, 38), (⟨"MeetHouseModel", "evened", "(I)I"⟩, 38), (⟨"MeetHouseModel", "wipeMarks", "([Z)V"⟩, 38)]
theorem lw_r2 : ∀ q ∈ lw_privs_2, lw_okq q := List.forall_mem_cons.mpr ⟨lw_p16, List.forall_mem_cons.mpr ⟨lw_p17, List.forall_mem_cons.mpr ⟨lw_p18, List.forall_mem_cons.mpr ⟨lw_p19, List.forall_mem_cons.mpr ⟨lw_p20, List.forall_mem_cons.mpr ⟨lw_p21, List.forall_mem_cons.mpr ⟨lw_p22, List.forall_mem_cons.mpr ⟨lw_p23, List.forall_mem_cons.mpr ⟨lw_p24, List.forall_mem_cons.mpr ⟨lw_p25, List.forall_mem_cons.mpr ⟨lw_p26, List.forall_mem_cons.mpr ⟨lw_p27, List.forall_mem_cons.mpr ⟨lw_p28, List.forall_mem_cons.mpr ⟨lw_p29, List.forall_mem_cons.mpr ⟨lw_p30, List.forall_mem_cons.mpr ⟨lw_p31, fun _ h => absurd h List.not_mem_nil⟩⟩⟩⟩⟩⟩⟩⟩⟩⟩⟩⟩⟩⟩⟩⟩
theorem lw_p32 : lw_okq (⟨"MeetHouseModel", "marks", "([ZII)I"⟩, 38) := ⟨⟨by decide +kernel, by decide +kernel⟩, List.mem_of_getElem? (i := 731) (by decide +kernel), List.mem_of_getElem? (i := 1093) (by decide +kernel), List.mem_of_getElem? (i := 1094) (by decide +kernel)⟩
theorem lw_p33 : lw_okq (⟨"MeetHouseModel", "onLine", "(III)I"⟩, 38) := ⟨⟨by decide +kernel, by decide +kernel⟩, List.mem_of_getElem? (i := 731) (by decide +kernel), List.mem_of_getElem? (i := 1097) (by decide +kernel), List.mem_of_getElem? (i := 1098) (by decide +kernel)⟩
theorem lw_p34 : lw_okq (⟨"MeetHouseModel", "areThere", "(I)Z"⟩, 38) := ⟨⟨by decide +kernel, by decide +kernel⟩, List.mem_of_getElem? (i := 731) (by decide +kernel), List.mem_of_getElem? (i := 1106) (by decide +kernel), List.mem_of_getElem? (i := 1107) (by decide +kernel)⟩
theorem lw_p35 : lw_okq (⟨"MeetHouseModel", "lookAtRods", "(I)V"⟩, 38) := ⟨⟨by decide +kernel, by decide +kernel⟩, List.mem_of_getElem? (i := 731) (by decide +kernel), List.mem_of_getElem? (i := 1110) (by decide +kernel), List.mem_of_getElem? (i := 1111) (by decide +kernel)⟩
theorem lw_p36 : lw_okq (⟨"MeetHouseModel", "areLeast", "(II)Z"⟩, 38) := ⟨⟨by decide +kernel, by decide +kernel⟩, List.mem_of_getElem? (i := 731) (by decide +kernel), List.mem_of_getElem? (i := 1114) (by decide +kernel), List.mem_of_getElem? (i := 1115) (by decide +kernel)⟩
def lw_privs_3 : List (MethodName × Nat) := [(⟨"MeetHouseModel", "marks", "([ZII)I"⟩, 38), (⟨"MeetHouseModel", "onLine", "(III)I"⟩, 38), (⟨"MeetHouseModel", "areThere", "(I)Z"⟩, 38), (⟨"MeetHouseModel", "lookAtRods", "(I)V"⟩, 38), (⟨"MeetHouseModel", "areLeast", "(II)Z"⟩, 38)]
theorem lw_r3 : ∀ q ∈ lw_privs_3, lw_okq q := List.forall_mem_cons.mpr ⟨lw_p32, List.forall_mem_cons.mpr ⟨lw_p33, List.forall_mem_cons.mpr ⟨lw_p34, List.forall_mem_cons.mpr ⟨lw_p35, List.forall_mem_cons.mpr ⟨lw_p36, fun _ h => absurd h List.not_mem_nil⟩⟩⟩⟩⟩
def lw_privs : List (MethodName × Nat) := lw_privs_1 ++ (lw_privs_2 ++ (lw_privs_3))
def lw_tbl : List Cond := k2_sels lw_privs ++ tables_1
theorem lw_privs_ok : ∀ q ∈ lw_privs, lw_okq q := by
  show ∀ q ∈ lw_privs_1 ++ (lw_privs_2 ++ (lw_privs_3)), lw_okq q
  exact List.forall_mem_append.mpr ⟨lw_r1, List.forall_mem_append.mpr ⟨lw_r2, lw_r3⟩⟩
-- ===== end of PART A; then your names; then what follows =====
-- printed names
def RX0 : String := "MeetHouse$Algebra"
def TX0 : u_T := fun k => match k with
  | 0 => ("MeetHouse$Algebra", "pot", "LMeetHouse$Pot;", true)
  | 1 => ("MeetHouse$Algebra", "left", "LMeetHouse$Polynomial;", true)
  | _ => ("MeetHouse$Algebra", "right", "LMeetHouse$Polynomial;", true)
def tyX0 : Nat → FieldType := fun k => match k with
  | 0 => .object "MeetHouse$Pot"
  | 1 => .object "MeetHouse$Polynomial"
  | _ => .object "MeetHouse$Polynomial"
abbrev wsX00 : List Cond := u_ws RX0 TX0 3
theorem nmX0 : ∀ a, a < 3 → ∀ b, b < 3 → a ≠ b → (TX0 a).2.1 ≠ (TX0 b).2.1 := by decide +kernel
theorem tyX0_ok : ∀ k, k < 3 → parseFieldDescriptor (TX0 k).2.2.1 = some (tyX0 k) := by decide +kernel
abbrev cX0_init : ByteArray := prog_2_method_1_code
def yX0_init : MethodName := ⟨RX0, "<init>", "()V"⟩
abbrev cX0_join : ByteArray := prog_2_method_2_code
def yX0_join : MethodName := ⟨RX0, "join", "(LMeetHouse$Polynomial;JI)I"⟩
abbrev cX0_combine : ByteArray := prog_2_method_3_code
def yX0_combine : MethodName := ⟨RX0, "combine", "(LMeetHouse$Polynomial;LMeetHouse$Polynomial;LMeetHouse$Polynomial;I)I"⟩
abbrev cX0_multiply : ByteArray := prog_2_method_4_code
def yX0_multiply : MethodName := ⟨RX0, "multiply", "(LMeetHouse$Polynomial;LMeetHouse$Polynomial;LMeetHouse$Polynomial;)I"⟩
abbrev cX0_isTooHigh : ByteArray := prog_2_method_5_code
def yX0_isTooHigh : MethodName := ⟨RX0, "isTooHigh", "(LMeetHouse$Polynomial;LMeetHouse$Polynomial;)Z"⟩
abbrev cX0_swapLetters : ByteArray := prog_2_method_6_code
def yX0_swapLetters : MethodName := ⟨RX0, "swapLetters", "(LMeetHouse$Polynomial;LMeetHouse$Polynomial;I)I"⟩
abbrev cX0_differ : ByteArray := prog_2_method_7_code
def yX0_differ : MethodName := ⟨RX0, "differ", "(LMeetHouse$Polynomial;LMeetHouse$Polynomial;I)I"⟩
abbrev cX0_pourDifference : ByteArray := prog_2_method_8_code
def yX0_pourDifference : MethodName := ⟨RX0, "pourDifference", "(LMeetHouse$Polynomial;II)V"⟩
abbrev cX0_compose : ByteArray := prog_2_method_9_code
def yX0_compose : MethodName := ⟨RX0, "compose", "(LMeetHouse$Polynomial;II)I"⟩
abbrev cX0_staircase : ByteArray := prog_2_method_10_code
def yX0_staircase : MethodName := ⟨RX0, "staircase", "(I)I"⟩
abbrev cX0_partOf : ByteArray := prog_2_method_11_code
def yX0_partOf : MethodName := ⟨RX0, "partOf", "(LMeetHouse$Polynomial;II)J"⟩
abbrev cX0_partOfProduct : ByteArray := prog_2_method_12_code
def yX0_partOfProduct : MethodName := ⟨RX0, "partOfProduct", "(III)J"⟩
abbrev cX0_partOfLeft : ByteArray := prog_2_method_13_code
def yX0_partOfLeft : MethodName := ⟨RX0, "partOfLeft", "(II)J"⟩
def RX1 : String := "MeetHouse$Boxes"
def TX1 : u_T := fun k => match k with
  | _ => ("", "", "", false)
def tyX1 : Nat → FieldType := fun k => match k with
  | _ => .int
abbrev wsX10 : List Cond := u_ws RX1 TX1 0
theorem nmX1 : ∀ a, a < 0 → ∀ b, b < 0 → a ≠ b → (TX1 a).2.1 ≠ (TX1 b).2.1 := by decide +kernel
theorem tyX1_ok : ∀ k, k < 0 → parseFieldDescriptor (TX1 k).2.2.1 = some (tyX1 k) := by decide +kernel
abbrev cX1_isShape : ByteArray := prog_3_method_2_code
def yX1_isShape : MethodName := ⟨RX1, "isShape", "(II)Z"⟩
abbrev cX1_isBox : ByteArray := prog_3_method_3_code
def yX1_isBox : MethodName := ⟨RX1, "isBox", "(III)Z"⟩
abbrev cX1_figure : ByteArray := prog_3_method_4_code
def yX1_figure : MethodName := ⟨RX1, "figure", "(III)I"⟩
abbrev cX1_places : ByteArray := prog_3_method_5_code
def yX1_places : MethodName := ⟨RX1, "places", "(II)I"⟩
abbrev cX1_stripAt : ByteArray := prog_3_method_6_code
def yX1_stripAt : MethodName := ⟨RX1, "stripAt", "(IIIII)I"⟩
abbrev cX1_room : ByteArray := prog_3_method_7_code
def yX1_room : MethodName := ⟨RX1, "room", "(IIII)I"⟩
abbrev cX1_strips : ByteArray := prog_3_method_8_code
def yX1_strips : MethodName := ⟨RX1, "strips", "(IIIII)I"⟩
abbrev cX1_toOrder : ByteArray := prog_3_method_9_code
def yX1_toOrder : MethodName := ⟨RX1, "toOrder", "(III)I"⟩
abbrev cX1_gather : ByteArray := prog_3_method_10_code
def yX1_gather : MethodName := ⟨RX1, "gather", "([IIIII)I"⟩
def RX2 : String := "MeetHouse$Conditions"
def TX2 : u_T := fun k => match k with
  | 0 => ("MeetHouse$Conditions", "filler", "LMeetHouse$Filler;", true)
  | 1 => ("MeetHouse$Conditions", "boxes", "[I", true)
  | 2 => ("MeetHouse$Conditions", "all", "[I", true)
  | 3 => ("MeetHouse$Conditions", "often", "[J", true)
  | 4 => ("MeetHouse$Conditions", "next", "[J", true)
  | 5 => ("MeetHouse$Conditions", "k", "I", false)
  | 6 => ("MeetHouse$Conditions", "m", "I", false)
  | _ => ("MeetHouse$Conditions", "size", "I", false)
def tyX2 : Nat → FieldType := fun k => match k with
  | 0 => .object "MeetHouse$Filler"
  | 1 => .array .int
  | 2 => .array .int
  | 3 => .array .long
  | 4 => .array .long
  | 5 => .int
  | 6 => .int
  | _ => .int
abbrev wsX20 : List Cond := u_ws RX2 TX2 8
theorem nmX2 : ∀ a, a < 8 → ∀ b, b < 8 → a ≠ b → (TX2 a).2.1 ≠ (TX2 b).2.1 := by decide +kernel
theorem tyX2_ok : ∀ k, k < 8 → parseFieldDescriptor (TX2 k).2.2.1 = some (tyX2 k) := by decide +kernel
abbrev cX2_init : ByteArray := prog_4_method_1_code
def yX2_init : MethodName := ⟨RX2, "<init>", "()V"⟩
abbrev cX2_filler : ByteArray := prog_4_method_2_code
def yX2_filler : MethodName := ⟨RX2, "filler", "()LMeetHouse$Filler;"⟩
abbrev cX2_rows : ByteArray := prog_4_method_3_code
def yX2_rows : MethodName := ⟨RX2, "rows", "()I"⟩
abbrev cX2_columns : ByteArray := prog_4_method_4_code
def yX2_columns : MethodName := ⟨RX2, "columns", "()I"⟩
abbrev cX2_size : ByteArray := prog_4_method_5_code
def yX2_size : MethodName := ⟨RX2, "size", "()I"⟩
abbrev cX2_restart : ByteArray := prog_4_method_6_code
def yX2_restart : MethodName := ⟨RX2, "restart", "(II)I"⟩
abbrev cX2_append : ByteArray := prog_4_method_7_code
def yX2_append : MethodName := ⟨RX2, "append", "(I)I"⟩
abbrev cX2_total : ByteArray := prog_4_method_8_code
def yX2_total : MethodName := ⟨RX2, "total", "()J"⟩
abbrev cX2_putOn : ByteArray := prog_4_method_9_code
def yX2_putOn : MethodName := ⟨RX2, "putOn", "(II)V"⟩
abbrev cX2_digestOn : ByteArray := prog_4_method_10_code
def yX2_digestOn : MethodName := ⟨RX2, "digestOn", "(J)J"⟩
def RX3 : String := "MeetHouse$Figures"
def TX3 : u_T := fun k => match k with
  | _ => ("", "", "", false)
def tyX3 : Nat → FieldType := fun k => match k with
  | _ => .int
abbrev wsX30 : List Cond := u_ws RX3 TX3 0
theorem nmX3 : ∀ a, a < 0 → ∀ b, b < 0 → a ≠ b → (TX3 a).2.1 ≠ (TX3 b).2.1 := by decide +kernel
theorem tyX3_ok : ∀ k, k < 0 → parseFieldDescriptor (TX3 k).2.2.1 = some (tyX3 k) := by decide +kernel
abbrev cX3_at : ByteArray := prog_5_method_2_code
def yX3_at : MethodName := ⟨RX3, "at", "(II)I"⟩
abbrev cX3_power : ByteArray := prog_5_method_3_code
def yX3_power : MethodName := ⟨RX3, "power", "(II)I"⟩
def RX4 : String := "MeetHouse$Filler"
def TX4 : u_T := fun k => match k with
  | 0 => ("MeetHouse$Filler", "inner", "[I", true)
  | 1 => ("MeetHouse$Filler", "outer", "[I", true)
  | 2 => ("MeetHouse$Filler", "left", "[I", true)
  | 3 => ("MeetHouse$Filler", "used", "[I", true)
  | _ => ("MeetHouse$Filler", "cells", "[[I", true)
def tyX4 : Nat → FieldType := fun k => match k with
  | 0 => .array .int
  | 1 => .array .int
  | 2 => .array .int
  | 3 => .array .int
  | _ => .array (.array .int)
abbrev wsX40 : List Cond := u_ws RX4 TX4 5
theorem nmX4 : ∀ a, a < 5 → ∀ b, b < 5 → a ≠ b → (TX4 a).2.1 ≠ (TX4 b).2.1 := by decide +kernel
theorem tyX4_ok : ∀ k, k < 5 → parseFieldDescriptor (TX4 k).2.2.1 = some (tyX4 k) := by decide +kernel
abbrev cX4_init : ByteArray := prog_6_method_1_code
def yX4_init : MethodName := ⟨RX4, "<init>", "()V"⟩
abbrev cX4_howMany : ByteArray := prog_6_method_2_code
def yX4_howMany : MethodName := ⟨RX4, "howMany", "(IIII)I"⟩
abbrev cX4_fill : ByteArray := prog_6_method_3_code
def yX4_fill : MethodName := ⟨RX4, "fill", "(LMeetHouse$Filler;III)I"⟩
def RX5 : String := "MeetHouse$Line"
def TX5 : u_T := fun k => match k with
  | 0 => ("MeetHouse$Line", "rests", "[I", true)
  | _ => ("MeetHouse$Line", "there", "Z", false)
def tyX5 : Nat → FieldType := fun k => match k with
  | 0 => .array .int
  | _ => .boolean
abbrev wsX50 : List Cond := u_ws RX5 TX5 2
theorem nmX5 : ∀ a, a < 2 → ∀ b, b < 2 → a ≠ b → (TX5 a).2.1 ≠ (TX5 b).2.1 := by decide +kernel
theorem tyX5_ok : ∀ k, k < 2 → parseFieldDescriptor (TX5 k).2.2.1 = some (tyX5 k) := by decide +kernel
abbrev cX5_init : ByteArray := prog_7_method_1_code
def yX5_init : MethodName := ⟨RX5, "<init>", "()V"⟩
abbrev cX5_isThere : ByteArray := prog_7_method_2_code
def yX5_isThere : MethodName := ⟨RX5, "isThere", "()Z"⟩
abbrev cX5_vanish : ByteArray := prog_7_method_3_code
def yX5_vanish : MethodName := ⟨RX5, "vanish", "()V"⟩
abbrev cX5_span : ByteArray := prog_7_method_4_code
def yX5_span : MethodName := ⟨RX5, "span", "(III)Z"⟩
abbrev cX5_normalize : ByteArray := prog_7_method_5_code
def yX5_normalize : MethodName := ⟨RX5, "normalize", "(I)Z"⟩
abbrev cX5_copy : ByteArray := prog_7_method_6_code
def yX5_copy : MethodName := ⟨RX5, "copy", "(LMeetHouse$Line;)V"⟩
abbrev cX5_isLike : ByteArray := prog_7_method_7_code
def yX5_isLike : MethodName := ⟨RX5, "isLike", "(LMeetHouse$Line;)Z"⟩
abbrev cX5_crosses : ByteArray := prog_7_method_8_code
def yX5_crosses : MethodName := ⟨RX5, "crosses", "(LMeetHouse$Line;I)Z"⟩
abbrev cX5_holds : ByteArray := prog_7_method_9_code
def yX5_holds : MethodName := ⟨RX5, "holds", "(II)Z"⟩
abbrev cX5_pair : ByteArray := prog_7_method_10_code
def yX5_pair : MethodName := ⟨RX5, "pair", "(II)I"⟩
abbrev cX5_rest : ByteArray := prog_7_method_11_code
def yX5_rest : MethodName := ⟨RX5, "rest", "(II)I"⟩
def RX6 : String := "MeetHouse$Orders"
def TX6 : u_T := fun k => match k with
  | _ => ("", "", "", false)
def tyX6 : Nat → FieldType := fun k => match k with
  | _ => .int
abbrev wsX60 : List Cond := u_ws RX6 TX6 0
theorem nmX6 : ∀ a, a < 0 → ∀ b, b < 0 → a ≠ b → (TX6 a).2.1 ≠ (TX6 b).2.1 := by decide +kernel
theorem tyX6_ok : ∀ k, k < 0 → parseFieldDescriptor (TX6 k).2.2.1 = some (tyX6 k) := by decide +kernel
abbrev cX6_figures : ByteArray := prog_8_method_2_code
def yX6_figures : MethodName := ⟨RX6, "figures", "(I)I"⟩
abbrev cX6_figure : ByteArray := prog_8_method_3_code
def yX6_figure : MethodName := ⟨RX6, "figure", "(III)I"⟩
abbrev cX6_falls : ByteArray := prog_8_method_4_code
def yX6_falls : MethodName := ⟨RX6, "falls", "(II)I"⟩
abbrev cX6_swapped : ByteArray := prog_8_method_5_code
def yX6_swapped : MethodName := ⟨RX6, "swapped", "(IIII)I"⟩
abbrev cX6_inverted : ByteArray := prog_8_method_6_code
def yX6_inverted : MethodName := ⟨RX6, "inverted", "(II)I"⟩
abbrev cX6_firstStep : ByteArray := prog_8_method_7_code
def yX6_firstStep : MethodName := ⟨RX6, "firstStep", "(IIZ)I"⟩
abbrev cX6_ofLength : ByteArray := prog_8_method_8_code
def yX6_ofLength : MethodName := ⟨RX6, "ofLength", "(II)I"⟩
abbrev cX6_risen : ByteArray := prog_8_method_9_code
def yX6_risen : MethodName := ⟨RX6, "risen", "(IIII)I"⟩
abbrev cX6_leastRisen : ByteArray := prog_8_method_10_code
def yX6_leastRisen : MethodName := ⟨RX6, "leastRisen", "(IIII)I"⟩
def RX7 : String := "MeetHouse$Polynomial"
def TX7 : u_T := fun k => match k with
  | 0 => ("MeetHouse$Polynomial", "exponents", "[I", true)
  | 1 => ("MeetHouse$Polynomial", "numbers", "[I", true)
  | 2 => ("MeetHouse$Polynomial", "size", "I", false)
  | _ => ("MeetHouse$Polynomial", "there", "Z", false)
def tyX7 : Nat → FieldType := fun k => match k with
  | 0 => .array .int
  | 1 => .array .int
  | 2 => .int
  | _ => .boolean
abbrev wsX70 : List Cond := u_ws RX7 TX7 4
theorem nmX7 : ∀ a, a < 4 → ∀ b, b < 4 → a ≠ b → (TX7 a).2.1 ≠ (TX7 b).2.1 := by decide +kernel
theorem tyX7_ok : ∀ k, k < 4 → parseFieldDescriptor (TX7 k).2.2.1 = some (tyX7 k) := by decide +kernel
abbrev cX7_init : ByteArray := prog_9_method_1_code
def yX7_init : MethodName := ⟨RX7, "<init>", "()V"⟩
abbrev cX7_size : ByteArray := prog_9_method_2_code
def yX7_size : MethodName := ⟨RX7, "size", "()I"⟩
abbrev cX7_isThere : ByteArray := prog_9_method_3_code
def yX7_isThere : MethodName := ⟨RX7, "isThere", "()Z"⟩
abbrev cX7_vanish : ByteArray := prog_9_method_4_code
def yX7_vanish : MethodName := ⟨RX7, "vanish", "()V"⟩
abbrev cX7_clear : ByteArray := prog_9_method_5_code
def yX7_clear : MethodName := ⟨RX7, "clear", "()V"⟩
abbrev cX7_append : ByteArray := prog_9_method_6_code
def yX7_append : MethodName := ⟨RX7, "append", "(II)V"⟩
abbrev cX7_exponentsAt : ByteArray := prog_9_method_7_code
def yX7_exponentsAt : MethodName := ⟨RX7, "exponentsAt", "(I)I"⟩
abbrev cX7_numberAt : ByteArray := prog_9_method_8_code
def yX7_numberAt : MethodName := ⟨RX7, "numberAt", "(I)I"⟩
abbrev cX7_numberOf : ByteArray := prog_9_method_9_code
def yX7_numberOf : MethodName := ⟨RX7, "numberOf", "(I)I"⟩
abbrev cX7_exponentAt : ByteArray := prog_9_method_10_code
def yX7_exponentAt : MethodName := ⟨RX7, "exponentAt", "(II)I"⟩
abbrev cX7_topExponent : ByteArray := prog_9_method_11_code
def yX7_topExponent : MethodName := ⟨RX7, "topExponent", "(I)I"⟩
abbrev cX7_isLike : ByteArray := prog_9_method_12_code
def yX7_isLike : MethodName := ⟨RX7, "isLike", "(LMeetHouse$Polynomial;)Z"⟩
abbrev cX7_copy : ByteArray := prog_9_method_13_code
def yX7_copy : MethodName := ⟨RX7, "copy", "(LMeetHouse$Polynomial;)V"⟩
abbrev cX7_digestOn : ByteArray := prog_9_method_14_code
def yX7_digestOn : MethodName := ⟨RX7, "digestOn", "(J)J"⟩
def RX8 : String := "MeetHouse$Pot"
def TX8 : u_T := fun k => match k with
  | 0 => ("MeetHouse$Pot", "sums", "[J", true)
  | 1 => ("MeetHouse$Pot", "used", "[Z", true)
  | 2 => ("MeetHouse$Pot", "draft", "LMeetHouse$Polynomial;", true)
  | 3 => ("MeetHouse$Pot", "terms", "I", false)
  | _ => ("MeetHouse$Pot", "isGreat", "Z", false)
def tyX8 : Nat → FieldType := fun k => match k with
  | 0 => .array .long
  | 1 => .array .boolean
  | 2 => .object "MeetHouse$Polynomial"
  | 3 => .int
  | _ => .boolean
abbrev wsX80 : List Cond := u_ws RX8 TX8 5
theorem nmX8 : ∀ a, a < 5 → ∀ b, b < 5 → a ≠ b → (TX8 a).2.1 ≠ (TX8 b).2.1 := by decide +kernel
theorem tyX8_ok : ∀ k, k < 5 → parseFieldDescriptor (TX8 k).2.2.1 = some (tyX8 k) := by decide +kernel
abbrev cX8_init : ByteArray := prog_10_method_1_code
def yX8_init : MethodName := ⟨RX8, "<init>", "()V"⟩
abbrev cX8_pour : ByteArray := prog_10_method_2_code
def yX8_pour : MethodName := ⟨RX8, "pour", "(IJ)V"⟩
abbrev cX8_pourAll : ByteArray := prog_10_method_3_code
def yX8_pourAll : MethodName := ⟨RX8, "pourAll", "(LMeetHouse$Polynomial;J)V"⟩
abbrev cX8_settle : ByteArray := prog_10_method_4_code
def yX8_settle : MethodName := ⟨RX8, "settle", "(LMeetHouse$Polynomial;)I"⟩
abbrev cX8_takeOut : ByteArray := prog_10_method_5_code
def yX8_takeOut : MethodName := ⟨RX8, "takeOut", "(I)V"⟩
def RX9 : String := "MeetHouse$Space"
def TX9 : u_T := fun k => match k with
  | 0 => ("MeetHouse$Space", "rods", "[LMeetHouse$Line;", true)
  | 1 => ("MeetHouse$Space", "probe", "LMeetHouse$Line;", true)
  | _ => ("MeetHouse$Space", "q", "I", false)
def tyX9 : Nat → FieldType := fun k => match k with
  | 0 => .array (.object "MeetHouse$Line")
  | 1 => .object "MeetHouse$Line"
  | _ => .int
abbrev wsX90 : List Cond := u_ws RX9 TX9 3
theorem nmX9 : ∀ a, a < 3 → ∀ b, b < 3 → a ≠ b → (TX9 a).2.1 ≠ (TX9 b).2.1 := by decide +kernel
theorem tyX9_ok : ∀ k, k < 3 → parseFieldDescriptor (TX9 k).2.2.1 = some (tyX9 k) := by decide +kernel
abbrev cX9_init : ByteArray := prog_11_method_1_code
def yX9_init : MethodName := ⟨RX9, "<init>", "()V"⟩
abbrev cX9_isRod : ByteArray := prog_11_method_2_code
def yX9_isRod : MethodName := ⟨RX9, "isRod", "(I)Z"⟩
abbrev cX9_areBits : ByteArray := prog_11_method_3_code
def yX9_areBits : MethodName := ⟨RX9, "areBits", "(I)Z"⟩
abbrev cX9_figure : ByteArray := prog_11_method_4_code
def yX9_figure : MethodName := ⟨RX9, "figure", "(II)I"⟩
abbrev cX9_order : ByteArray := prog_11_method_5_code
def yX9_order : MethodName := ⟨RX9, "order", "()I"⟩
abbrev cX9_isPoint : ByteArray := prog_11_method_6_code
def yX9_isPoint : MethodName := ⟨RX9, "isPoint", "(I)Z"⟩
abbrev cX9_change : ByteArray := prog_11_method_7_code
def yX9_change : MethodName := ⟨RX9, "change", "(I)I"⟩
abbrev cX9_lay : ByteArray := prog_11_method_8_code
def yX9_lay : MethodName := ⟨RX9, "lay", "(III)Z"⟩
abbrev cX9_remove : ByteArray := prog_11_method_9_code
def yX9_remove : MethodName := ⟨RX9, "remove", "(I)Z"⟩
abbrev cX9_howMet : ByteArray := prog_11_method_10_code
def yX9_howMet : MethodName := ⟨RX9, "howMet", "(II)I"⟩
abbrev cX9_rodsThere : ByteArray := prog_11_method_11_code
def yX9_rodsThere : MethodName := ⟨RX9, "rodsThere", "()I"⟩
abbrev cX9_areThere : ByteArray := prog_11_method_12_code
def yX9_areThere : MethodName := ⟨RX9, "areThere", "(I)Z"⟩
abbrev cX9_isTold : ByteArray := prog_11_method_13_code
def yX9_isTold : MethodName := ⟨RX9, "isTold", "(II)Z"⟩
abbrev cX9_linesMeeting : ByteArray := prog_11_method_14_code
def yX9_linesMeeting : MethodName := ⟨RX9, "linesMeeting", "(I)I"⟩
abbrev cX9_linesFrom : ByteArray := prog_11_method_15_code
def yX9_linesFrom : MethodName := ⟨RX9, "linesFrom", "(III)I"⟩
abbrev cX9_crossesAll : ByteArray := prog_11_method_16_code
def yX9_crossesAll : MethodName := ⟨RX9, "crossesAll", "(I)Z"⟩
abbrev cX9_pointsOn : ByteArray := prog_11_method_17_code
def yX9_pointsOn : MethodName := ⟨RX9, "pointsOn", "(I)I"⟩
abbrev cX9_isOnOne : ByteArray := prog_11_method_18_code
def yX9_isOnOne : MethodName := ⟨RX9, "isOnOne", "(II)Z"⟩
abbrev cX9_pointFrom : ByteArray := prog_11_method_19_code
def yX9_pointFrom : MethodName := ⟨RX9, "pointFrom", "(III)I"⟩
def RX10 : String := "MeetHouse"
def TX10 : u_T := fun k => match k with
  | 0 => ("MeetHouse", "sheets", "[LMeetHouse$Polynomial;", true)
  | 1 => ("MeetHouse", "algebra", "LMeetHouse$Algebra;", true)
  | 2 => ("MeetHouse", "list", "LMeetHouse$Conditions;", true)
  | _ => ("MeetHouse", "space", "LMeetHouse$Space;", true)
def tyX10 : Nat → FieldType := fun k => match k with
  | 0 => .array (.object "MeetHouse$Polynomial")
  | 1 => .object "MeetHouse$Algebra"
  | 2 => .object "MeetHouse$Conditions"
  | _ => .object "MeetHouse$Space"
abbrev wsX100 : List Cond := u_ws RX10 TX10 4
theorem nmX10 : ∀ a, a < 4 → ∀ b, b < 4 → a ≠ b → (TX10 a).2.1 ≠ (TX10 b).2.1 := by decide +kernel
theorem tyX10_ok : ∀ k, k < 4 → parseFieldDescriptor (TX10 k).2.2.1 = some (tyX10 k) := by decide +kernel
abbrev cX10_init : ByteArray := prog_1_method_1_code
def yX10_init : MethodName := ⟨RX10, "<init>", "()V"⟩
abbrev cX10_length : ByteArray := prog_1_method_2_code
def yX10_length : MethodName := ⟨RX10, "length", "(I)I"⟩
abbrev cX10_exchange : ByteArray := prog_1_method_3_code
def yX10_exchange : MethodName := ⟨RX10, "exchange", "(II)I"⟩
abbrev cX10_inverse : ByteArray := prog_1_method_4_code
def yX10_inverse : MethodName := ⟨RX10, "inverse", "(I)I"⟩
abbrev cX10_orders : ByteArray := prog_1_method_5_code
def yX10_orders : MethodName := ⟨RX10, "orders", "(II)I"⟩
abbrev cX10_step : ByteArray := prog_1_method_6_code
def yX10_step : MethodName := ⟨RX10, "step", "(III)I"⟩
abbrev cX10_blank : ByteArray := prog_1_method_7_code
def yX10_blank : MethodName := ⟨RX10, "blank", "(I)I"⟩
abbrev cX10_lose : ByteArray := prog_1_method_8_code
def yX10_lose : MethodName := ⟨RX10, "lose", "(I)I"⟩
abbrev cX10_add : ByteArray := prog_1_method_9_code
def yX10_add : MethodName := ⟨RX10, "add", "(IJI)I"⟩
abbrev cX10_terms : ByteArray := prog_1_method_10_code
def yX10_terms : MethodName := ⟨RX10, "terms", "(I)I"⟩
abbrev cX10_exponents : ByteArray := prog_1_method_11_code
def yX10_exponents : MethodName := ⟨RX10, "exponents", "(II)I"⟩
abbrev cX10_number : ByteArray := prog_1_method_12_code
def yX10_number : MethodName := ⟨RX10, "number", "(II)J"⟩
abbrev cX10_sum : ByteArray := prog_1_method_13_code
def yX10_sum : MethodName := ⟨RX10, "sum", "(IIII)I"⟩
abbrev cX10_product : ByteArray := prog_1_method_14_code
def yX10_product : MethodName := ⟨RX10, "product", "(III)I"⟩
abbrev cX10_turned : ByteArray := prog_1_method_15_code
def yX10_turned : MethodName := ⟨RX10, "turned", "(III)I"⟩
abbrev cX10_difference : ByteArray := prog_1_method_16_code
def yX10_difference : MethodName := ⟨RX10, "difference", "(III)I"⟩
abbrev cX10_polynomial : ByteArray := prog_1_method_17_code
def yX10_polynomial : MethodName := ⟨RX10, "polynomial", "(II)I"⟩
abbrev cX10_part : ByteArray := prog_1_method_18_code
def yX10_part : MethodName := ⟨RX10, "part", "(II)J"⟩
abbrev cX10_constant : ByteArray := prog_1_method_19_code
def yX10_constant : MethodName := ⟨RX10, "constant", "(III)J"⟩
abbrev cX10_same : ByteArray := prog_1_method_20_code
def yX10_same : MethodName := ⟨RX10, "same", "(II)I"⟩
abbrev cX10_strip : ByteArray := prog_1_method_21_code
def yX10_strip : MethodName := ⟨RX10, "strip", "(IIIII)I"⟩
abbrev cX10_fillings : ByteArray := prog_1_method_22_code
def yX10_fillings : MethodName := ⟨RX10, "fillings", "(IIIII)I"⟩
abbrev cX10_orderOf : ByteArray := prog_1_method_23_code
def yX10_orderOf : MethodName := ⟨RX10, "orderOf", "(III)I"⟩
abbrev cX10_begin : ByteArray := prog_1_method_24_code
def yX10_begin : MethodName := ⟨RX10, "begin", "(II)I"⟩
abbrev cX10_condition : ByteArray := prog_1_method_25_code
def yX10_condition : MethodName := ⟨RX10, "condition", "(I)I"⟩
abbrev cX10_meeting : ByteArray := prog_1_method_26_code
def yX10_meeting : MethodName := ⟨RX10, "meeting", "()J"⟩
abbrev cX10_field : ByteArray := prog_1_method_27_code
def yX10_field : MethodName := ⟨RX10, "field", "(I)I"⟩
abbrev cX10_rod : ByteArray := prog_1_method_28_code
def yX10_rod : MethodName := ⟨RX10, "rod", "(III)I"⟩
abbrev cX10_drop : ByteArray := prog_1_method_29_code
def yX10_drop : MethodName := ⟨RX10, "drop", "(I)I"⟩
abbrev cX10_meet : ByteArray := prog_1_method_30_code
def yX10_meet : MethodName := ⟨RX10, "meet", "(II)I"⟩
abbrev cX10_lines : ByteArray := prog_1_method_31_code
def yX10_lines : MethodName := ⟨RX10, "lines", "(I)I"⟩
abbrev cX10_points : ByteArray := prog_1_method_32_code
def yX10_points : MethodName := ⟨RX10, "points", "(I)I"⟩
abbrev cX10_count : ByteArray := prog_1_method_33_code
def yX10_count : MethodName := ⟨RX10, "count", "(I)I"⟩
abbrev cX10_digest : ByteArray := prog_1_method_34_code
def yX10_digest : MethodName := ⟨RX10, "digest", "()J"⟩
abbrev cX10_isSheet : ByteArray := prog_1_method_35_code
def yX10_isSheet : MethodName := ⟨RX10, "isSheet", "(I)Z"⟩
abbrev cX10_isLost : ByteArray := prog_1_method_36_code
def yX10_isLost : MethodName := ⟨RX10, "isLost", "(I)Z"⟩
abbrev cX10_keptSheets : ByteArray := prog_1_method_37_code
def yX10_keptSheets : MethodName := ⟨RX10, "keptSheets", "()I"⟩
abbrev cX10_isBeyond : ByteArray := prog_1_method_38_code
def yX10_isBeyond : MethodName := ⟨RX10, "isBeyond", "(J)Z"⟩
abbrev cX10_areExponents : ByteArray := prog_1_method_39_code
def yX10_areExponents : MethodName := ⟨RX10, "areExponents", "(I)Z"⟩
abbrev cX10_refusal : ByteArray := prog_1_method_40_code
def yX10_refusal : MethodName := ⟨RX10, "refusal", "(I)J"⟩
def RX11 : String := "MeetHouseModel"
def TX11 : u_T := fun k => match k with
  | 0 => ("MeetHouseModel", "figures", "[I", true)
  | 1 => ("MeetHouseModel", "orderN", "I", false)
  | 2 => ("MeetHouseModel", "found", "[I", true)
  | 3 => ("MeetHouseModel", "isThere", "[Z", true)
  | 4 => ("MeetHouseModel", "many", "[I", true)
  | 5 => ("MeetHouseModel", "exponents", "[I", true)
  | 6 => ("MeetHouseModel", "numbers", "[J", true)
  | 7 => ("MeetHouseModel", "work", "[J", true)
  | 8 => ("MeetHouseModel", "next", "[J", true)
  | 9 => ("MeetHouseModel", "ups", "[I", true)
  | 10 => ("MeetHouseModel", "first", "[J", true)
  | 11 => ("MeetHouseModel", "second", "[J", true)
  | 12 => ("MeetHouseModel", "boxA", "[I", true)
  | 13 => ("MeetHouseModel", "boxB", "[I", true)
  | 14 => ("MeetHouseModel", "boxC", "[I", true)
  | 15 => ("MeetHouseModel", "placeRow", "[I", true)
  | 16 => ("MeetHouseModel", "placeColumn", "[I", true)
  | 17 => ("MeetHouseModel", "stands", "[I", true)
  | 18 => ("MeetHouseModel", "atPlace", "[I", true)
  | 19 => ("MeetHouseModel", "often", "[I", true)
  | 20 => ("MeetHouseModel", "listK", "I", false)
  | 21 => ("MeetHouseModel", "listM", "I", false)
  | 22 => ("MeetHouseModel", "listed", "I", false)
  | 23 => ("MeetHouseModel", "list", "[I", true)
  | 24 => ("MeetHouseModel", "boxes", "[I", true)
  | 25 => ("MeetHouseModel", "times", "[J", true)
  | 26 => ("MeetHouseModel", "nextTimes", "[J", true)
  | 27 => ("MeetHouseModel", "q", "I", false)
  | 28 => ("MeetHouseModel", "isRod", "[Z", true)
  | 29 => ("MeetHouseModel", "rodOne", "[I", true)
  | 30 => ("MeetHouseModel", "rodTwo", "[I", true)
  | 31 => ("MeetHouseModel", "isOn", "[Z", true)
  | 32 => ("MeetHouseModel", "isIn", "[Z", true)
  | 33 => ("MeetHouseModel", "figuresAt", "[I", true)
  | 34 => ("MeetHouseModel", "evenedAt", "[I", true)
  | 35 => ("MeetHouseModel", "rodsAt", "[I", true)
  | 36 => ("MeetHouseModel", "rodsMet", "I", false)
  | _ => ("MeetHouseModel", "points", "[I", true)
def tyX11 : Nat → FieldType := fun k => match k with
  | 0 => .array .int
  | 1 => .int
  | 2 => .array .int
  | 3 => .array .boolean
  | 4 => .array .int
  | 5 => .array .int
  | 6 => .array .long
  | 7 => .array .long
  | 8 => .array .long
  | 9 => .array .int
  | 10 => .array .long
  | 11 => .array .long
  | 12 => .array .int
  | 13 => .array .int
  | 14 => .array .int
  | 15 => .array .int
  | 16 => .array .int
  | 17 => .array .int
  | 18 => .array .int
  | 19 => .array .int
  | 20 => .int
  | 21 => .int
  | 22 => .int
  | 23 => .array .int
  | 24 => .array .int
  | 25 => .array .long
  | 26 => .array .long
  | 27 => .int
  | 28 => .array .boolean
  | 29 => .array .int
  | 30 => .array .int
  | 31 => .array .boolean
  | 32 => .array .boolean
  | 33 => .array .int
  | 34 => .array .int
  | 35 => .array .int
  | 36 => .int
  | _ => .array .int
abbrev wsX110 : List Cond := u_ws RX11 TX11 38
theorem nmX11 : ∀ a, a < 38 → ∀ b, b < 38 → a ≠ b → (TX11 a).2.1 ≠ (TX11 b).2.1 := by decide +kernel
theorem tyX11_ok : ∀ k, k < 38 → parseFieldDescriptor (TX11 k).2.2.1 = some (tyX11 k) := by decide +kernel
abbrev cX11_init : ByteArray := prog_13_method_1_code
def yX11_init : MethodName := ⟨RX11, "<init>", "()V"⟩
abbrev cX11_in : ByteArray := prog_13_method_3_code
def yX11_in : MethodName := ⟨RX11, "in", "(JJJ)Z"⟩
abbrev cX11_no : ByteArray := prog_13_method_4_code
def yX11_no : MethodName := ⟨RX11, "no", "(I)J"⟩
abbrev cX11_reads : ByteArray := prog_13_method_5_code
def yX11_reads : MethodName := ⟨RX11, "reads", "(I)Z"⟩
abbrev cX11_told : ByteArray := prog_13_method_6_code
def yX11_told : MethodName := ⟨RX11, "told", "()I"⟩
abbrev cX11_lengthNow : ByteArray := prog_13_method_7_code
def yX11_lengthNow : MethodName := ⟨RX11, "lengthNow", "()I"⟩
abbrev cX11_change : ByteArray := prog_13_method_8_code
def yX11_change : MethodName := ⟨RX11, "change", "(II)V"⟩
abbrev cX11_length : ByteArray := prog_13_method_9_code
def yX11_length : MethodName := ⟨RX11, "length", "(I)I"⟩
abbrev cX11_exchange : ByteArray := prog_13_method_10_code
def yX11_exchange : MethodName := ⟨RX11, "exchange", "(II)I"⟩
abbrev cX11_inverse : ByteArray := prog_13_method_11_code
def yX11_inverse : MethodName := ⟨RX11, "inverse", "(I)I"⟩
abbrev cX11_orders : ByteArray := prog_13_method_12_code
def yX11_orders : MethodName := ⟨RX11, "orders", "(II)I"⟩
abbrev cX11_step : ByteArray := prog_13_method_13_code
def yX11_step : MethodName := ⟨RX11, "step", "(III)I"⟩
abbrev cX11_isSheet : ByteArray := prog_13_method_14_code
def yX11_isSheet : MethodName := ⟨RX11, "isSheet", "(I)Z"⟩
abbrev cX11_placeOf : ByteArray := prog_13_method_15_code
def yX11_placeOf : MethodName := ⟨RX11, "placeOf", "(I)I"⟩
abbrev cX11_toldOf : ByteArray := prog_13_method_16_code
def yX11_toldOf : MethodName := ⟨RX11, "toldOf", "(I)I"⟩
abbrev cX11_wipe : ByteArray := prog_13_method_17_code
def yX11_wipe : MethodName := ⟨RX11, "wipe", "()V"⟩
abbrev cX11_takes : ByteArray := prog_13_method_18_code
def yX11_takes : MethodName := ⟨RX11, "takes", "(IJ)V"⟩
abbrev cX11_tooMuch : ByteArray := prog_13_method_19_code
def yX11_tooMuch : MethodName := ⟨RX11, "tooMuch", "()I"⟩
abbrev cX11_lays : ByteArray := prog_13_method_20_code
def yX11_lays : MethodName := ⟨RX11, "lays", "(I)I"⟩
abbrev cX11_blank : ByteArray := prog_13_method_21_code
def yX11_blank : MethodName := ⟨RX11, "blank", "(I)I"⟩
abbrev cX11_lose : ByteArray := prog_13_method_22_code
def yX11_lose : MethodName := ⟨RX11, "lose", "(I)I"⟩
abbrev cX11_add : ByteArray := prog_13_method_23_code
def yX11_add : MethodName := ⟨RX11, "add", "(IJI)I"⟩
abbrev cX11_terms : ByteArray := prog_13_method_24_code
def yX11_terms : MethodName := ⟨RX11, "terms", "(I)I"⟩
abbrev cX11_exponents : ByteArray := prog_13_method_25_code
def yX11_exponents : MethodName := ⟨RX11, "exponents", "(II)I"⟩
abbrev cX11_number : ByteArray := prog_13_method_26_code
def yX11_number : MethodName := ⟨RX11, "number", "(II)J"⟩
abbrev cX11_sum : ByteArray := prog_13_method_27_code
def yX11_sum : MethodName := ⟨RX11, "sum", "(IIII)I"⟩
abbrev cX11_highest : ByteArray := prog_13_method_28_code
def yX11_highest : MethodName := ⟨RX11, "highest", "(II)I"⟩
abbrev cX11_product : ByteArray := prog_13_method_29_code
def yX11_product : MethodName := ⟨RX11, "product", "(III)I"⟩
abbrev cX11_nines : ByteArray := prog_13_method_30_code
def yX11_nines : MethodName := ⟨RX11, "nines", "(I)I"⟩
abbrev cX11_turned : ByteArray := prog_13_method_31_code
def yX11_turned : MethodName := ⟨RX11, "turned", "(III)I"⟩
abbrev cX11_differ : ByteArray := prog_13_method_32_code
def yX11_differ : MethodName := ⟨RX11, "differ", "(I)V"⟩
abbrev cX11_difference : ByteArray := prog_13_method_33_code
def yX11_difference : MethodName := ⟨RX11, "difference", "(III)I"⟩
abbrev cX11_makes : ByteArray := prog_13_method_34_code
def yX11_makes : MethodName := ⟨RX11, "makes", "(I)V"⟩
abbrev cX11_polynomial : ByteArray := prog_13_method_35_code
def yX11_polynomial : MethodName := ⟨RX11, "polynomial", "(II)I"⟩
abbrev cX11_parts : ByteArray := prog_13_method_36_code
def yX11_parts : MethodName := ⟨RX11, "parts", "(IZ)J"⟩
abbrev cX11_part : ByteArray := prog_13_method_37_code
def yX11_part : MethodName := ⟨RX11, "part", "(II)J"⟩
abbrev cX11_constant : ByteArray := prog_13_method_38_code
def yX11_constant : MethodName := ⟨RX11, "constant", "(III)J"⟩
abbrev cX11_same : ByteArray := prog_13_method_39_code
def yX11_same : MethodName := ⟨RX11, "same", "(II)I"⟩
abbrev cX11_isBox : ByteArray := prog_13_method_40_code
def yX11_isBox : MethodName := ⟨RX11, "isBox", "(III[I)Z"⟩
abbrev cX11_areSides : ByteArray := prog_13_method_41_code
def yX11_areSides : MethodName := ⟨RX11, "areSides", "(II)Z"⟩
abbrev cX11_tens : ByteArray := prog_13_method_42_code
def yX11_tens : MethodName := ⟨RX11, "tens", "(I)I"⟩
abbrev cX11_sizeOf : ByteArray := prog_13_method_43_code
def yX11_sizeOf : MethodName := ⟨RX11, "sizeOf", "(I[I)I"⟩
abbrev cX11_strip : ByteArray := prog_13_method_44_code
def yX11_strip : MethodName := ⟨RX11, "strip", "(IIIII)I"⟩
abbrev cX11_mayStand : ByteArray := prog_13_method_45_code
def yX11_mayStand : MethodName := ⟨RX11, "mayStand", "(III)Z"⟩
abbrev cX11_fills : ByteArray := prog_13_method_46_code
def yX11_fills : MethodName := ⟨RX11, "fills", "(I)I"⟩
abbrev cX11_fillings : ByteArray := prog_13_method_47_code
def yX11_fillings : MethodName := ⟨RX11, "fillings", "(IIIII)I"⟩
abbrev cX11_orderOf : ByteArray := prog_13_method_48_code
def yX11_orderOf : MethodName := ⟨RX11, "orderOf", "(III)I"⟩
abbrev cX11_begin : ByteArray := prog_13_method_49_code
def yX11_begin : MethodName := ⟨RX11, "begin", "(II)I"⟩
abbrev cX11_condition : ByteArray := prog_13_method_50_code
def yX11_condition : MethodName := ⟨RX11, "condition", "(I)I"⟩
abbrev cX11_meeting : ByteArray := prog_13_method_51_code
def yX11_meeting : MethodName := ⟨RX11, "meeting", "()J"⟩
abbrev cX11_lookAtPoints : ByteArray := prog_13_method_52_code
def yX11_lookAtPoints : MethodName := ⟨RX11, "lookAtPoints", "()V"⟩
abbrev cX11_pointOf : ByteArray := prog_13_method_53_code
def yX11_pointOf : MethodName := ⟨RX11, "pointOf", "(I)I"⟩
abbrev cX11_mixed : ByteArray := prog_13_method_54_code
def yX11_mixed : MethodName := ⟨RX11, "mixed", "(IIII)I"⟩
abbrev cX11_evened : ByteArray := prog_13_method_55_code
def yX11_evened : MethodName := ⟨RX11, "evened", "(I)I"⟩
abbrev cX11_onLine : ByteArray := prog_13_method_56_code
def yX11_onLine : MethodName := ⟨RX11, "onLine", "(III)I"⟩
abbrev cX11_drops : ByteArray := prog_13_method_57_code
def yX11_drops : MethodName := ⟨RX11, "drops", "()V"⟩
abbrev cX11_field : ByteArray := prog_13_method_58_code
def yX11_field : MethodName := ⟨RX11, "field", "(I)I"⟩
abbrev cX11_rod : ByteArray := prog_13_method_59_code
def yX11_rod : MethodName := ⟨RX11, "rod", "(III)I"⟩
abbrev cX11_drop : ByteArray := prog_13_method_60_code
def yX11_drop : MethodName := ⟨RX11, "drop", "(I)I"⟩
abbrev cX11_marks : ByteArray := prog_13_method_61_code
def yX11_marks : MethodName := ⟨RX11, "marks", "([ZII)I"⟩
abbrev cX11_wipeMarks : ByteArray := prog_13_method_62_code
def yX11_wipeMarks : MethodName := ⟨RX11, "wipeMarks", "([Z)V"⟩
abbrev cX11_meet : ByteArray := prog_13_method_63_code
def yX11_meet : MethodName := ⟨RX11, "meet", "(II)I"⟩
abbrev cX11_areThere : ByteArray := prog_13_method_64_code
def yX11_areThere : MethodName := ⟨RX11, "areThere", "(I)Z"⟩
abbrev cX11_lookAtRods : ByteArray := prog_13_method_65_code
def yX11_lookAtRods : MethodName := ⟨RX11, "lookAtRods", "(I)V"⟩
abbrev cX11_areLeast : ByteArray := prog_13_method_66_code
def yX11_areLeast : MethodName := ⟨RX11, "areLeast", "(II)Z"⟩
abbrev cX11_lines : ByteArray := prog_13_method_67_code
def yX11_lines : MethodName := ⟨RX11, "lines", "(I)I"⟩
abbrev cX11_points : ByteArray := prog_13_method_68_code
def yX11_points : MethodName := ⟨RX11, "points", "(I)I"⟩
abbrev cX11_count : ByteArray := prog_13_method_69_code
def yX11_count : MethodName := ⟨RX11, "count", "(I)I"⟩
abbrev cX11_digest : ByteArray := prog_13_method_70_code
def yX11_digest : MethodName := ⟨RX11, "digest", "()J"⟩
def RJ9 : String := "java/lang/Math"
abbrev cJ9_floorMod_7cf53 : ByteArray := prog_14_method_50_code
def yJ9_floorMod_7cf53 : MethodName := ⟨RJ9, "floorMod", "(II)I"⟩
abbrev cJ9_max_7cf53 : ByteArray := prog_14_method_65_code
def yJ9_max_7cf53 : MethodName := ⟨RJ9, "max", "(II)I"⟩
abbrev cJ9_min_7cf53 : ByteArray := prog_14_method_69_code
def yJ9_min_7cf53 : MethodName := ⟨RJ9, "min", "(II)I"⟩
def RL : String := "MeetHouseLaw"
abbrev cL_law : ByteArray := code
def yL_law : MethodName := ⟨RL, "law", "([I)Z"⟩
-- the classes of which there are objects
abbrev fv_cl : List vw_C := [(RX0, TX0, 3), (RX2, TX2, 8), (RX4, TX4, 5), (RX5, TX5, 2), (RX7, TX7, 4), (RX8, TX8, 5), (RX9, TX9, 3), (RX10, TX10, 4), (RX11, TX11, 38)]
/-- the words that may be handed on to a method called -/
def fv_tbl : List Cond := lw_tbl.filter goodWord
theorem fv_in {w : Cond} (h : w ∈ lw_tbl) (g : goodWord w = true) : w ∈ fv_tbl := List.mem_filter.mpr ⟨h, g⟩
theorem fv_good : ∀ w ∈ fv_tbl, goodWord w = true := fun _ h => (List.mem_filter.mp h).2
theorem iX0 : ∀ w ∈ wsX00, w ∈ fv_tbl := by decide +kernel
theorem iX2 : ∀ w ∈ wsX20, w ∈ fv_tbl := by decide +kernel
theorem iX4 : ∀ w ∈ wsX40, w ∈ fv_tbl := by decide +kernel
theorem iX5 : ∀ w ∈ wsX50, w ∈ fv_tbl := by decide +kernel
theorem iX7 : ∀ w ∈ wsX70, w ∈ fv_tbl := by decide +kernel
theorem iX8 : ∀ w ∈ wsX80, w ∈ fv_tbl := by decide +kernel
theorem iX9 : ∀ w ∈ wsX90, w ∈ fv_tbl := by decide +kernel
theorem iX10 : ∀ w ∈ wsX100, w ∈ fv_tbl := by decide +kernel
theorem iX11 : ∀ w ∈ wsX110, w ∈ fv_tbl := by decide +kernel
end
section
/-! ===== the world of one object tree, by places: a cell's address is the base and its place ===== -/
abbrev fv_C : Type := (Nat × vp_A) ⊕ (Nat × List Value)
abbrev fv_F : Type := Nat → Option fv_C
abbrev fv_L : Type := List (Nat × Value)
/-- a method: its name, bytes, locals, type -/
abbrev fv_Y : Type := MethodName × ByteArray × Nat × Option FieldType
def fv_v (N : Nat) : Value → Value
  | .ref a => .ref (N + a)
  | v => v
def fv_r (N : Nat) (f : Nat → Option Nat) : Nat → Option Nat := fun j => (f j).map (N + ·)
def fv_a (N : Nat) (a : vp_A) : vp_A := match a.2 with
  | .inr (.inr (.inr (.inr f))) => (a.1, .inr (.inr (.inr (.inr (fv_r N f)))))
  | _ => a
def fv_e (N : Nat) (dA : Nat → ClassId) : fv_C → va_E
  | .inl x => .inl (dA x.1, fv_a N x.2)
  | .inr x => .inr (x.1, x.2.map (fv_v N))
def fv_set (f : fv_F) (i : Nat) (c : fv_C) : fv_F := fun j => if j = i then some c else f j
theorem fv_set_self (f : fv_F) (i : Nat) (c : fv_C) : fv_set f i c i = some c := if_pos rfl
theorem fv_set_ne (f : fv_F) {i j : Nat} (c : fv_C) (h : j ≠ i) : fv_set f i c j = f j := if_neg h
def fv_tys (dA : Nat → ClassId) : List (ClassId × FieldType) := [(dA 0, .int), (dA 1, .long), (dA 2, .boolean), (dA 3, .object "MeetHouse$Polynomial"), (dA 4, .object "MeetHouse$Line"), (dA 5, .array .int)]
/-- the pools' entries that name private methods of nest mates -/
def fv_nq : List (String × Nat × MethodName) := [("MeetHouse", 17, yX0_init), ("MeetHouse$Algebra", 11, yX8_init), ("MeetHouse$Pot", 22, yX7_init), ("MeetHouse$Algebra", 20, yX7_init), ("MeetHouse", 24, yX2_init), ("MeetHouse$Conditions", 11, yX4_init), ("MeetHouse$Space", 17, yX5_init), ("MeetHouse", 36, yX7_init), ("MeetHouse", 54, yX6_ofLength), ("MeetHouse$Pot", 68, yX10_isBeyond), ("MeetHouse$Algebra", 124, yX10_refusal), ("MeetHouse$Conditions", 42, yX1_gather)]
def fv_K (D : va_G) (dA : Nat → ClassId) (U : State) : Prop := va_K D fv_cl (fv_tys dA) U ∧ ∀ q ∈ fv_nq, va_Nw (.methodLinkNest q.1 q.2.1 q.2.2 "MeetHouse") U
theorem fv_Kw {D : va_G} {dA : Nat → ClassId} {s U : State} (hW : s.WarmedH U.vm) (h : fv_K D dA s) : fv_K D dA U := ⟨va_K.moved hW.alike h.1, fun q hq => va_Nw.warmM hW (h.2 q hq)⟩
def fv_R (D : va_G) (dA : Nat → ClassId) (N : Nat) (A : Nat → Prop) (f : fv_F) (H : Heap) : Prop := ∀ (i : Nat) (c : fv_C), f i = some c → A (N + i) ∧ va_at D fv_cl (N + i, fv_e N dA c) H
/-- cells may be made: the next place -/
def fv_O (N : Nat) (A : Nat → Prop) (al : Option Nat) (H : Heap) : Prop := ∀ n, al = some n → H.size = N + n ∧ ∀ q, N ≤ q → A q
abbrev fv_rm (d mc ms : Nat) : Room := { frames := d, cells := mc, slots := ms, locals := 64 * d }
def fv_ws (y : fv_Y) : List Cond := .code y.1 y.2.1 y.2.2.1 y.2.2.2 :: fv_tbl
def fv_Pc (D : va_G) (dA : Nat → ClassId) (N : Nat) (A : Nat → Prop) (as : List Value) (f : fv_F) (al : Option Nat) : Array Value → State → Prop :=
  va_Pc (as.map (fv_v N)) (fun U => fv_R D dA N A f U.heap ∧ fv_K D dA U ∧ fv_O N A al U.heap)
def fv_Qc (D : va_G) (dA : Nat → ClassId) (N : Nat) (A : Nat → Prop) (Q : Option Value → fv_F → Option Nat → Prop) : Array Value → State → Outcome → State → Prop := fun _ st o t =>
  ∃ (r : Option Value) (f : fv_F) (al : Option Nat), o = .returned (r.map (fv_v N)) ∧ Q r f al ∧ fv_R D dA N A f t.heap ∧ fv_O N A al t.heap ∧ va_F A st t
/-- a method's contract: from args and f it comes to an answer, cells and a next place with Q; depth d; mc cells of ms slots are made -/
def fv_M (y : fv_Y) (d mc ms : Nat) (as : List Value) (f : fv_F) (al : Option Nat) (Q : Option Value → fv_F → Option Nat → Prop) : Prop :=
  ∀ (l : Launch) (D : va_G) (dA : Nat → ClassId) (N : Nat) (A : Nat → Prop), Met l y.1 (fv_ws y) (fv_rm d mc ms) (fv_Pc D dA N A as f al) (fv_Qc D dA N A Q) mc ms A
end
section
/-! ===== a walk: from the frame at pc with these locals, stack and cells the machine comes to the method's end with Q ===== -/
def fv_G (y : fv_Y) (p : Program) (s : State) (m : MethodId) (args : Array Value) (meth : Method) (c : Code) (D : va_G) (dA : Nat → ClassId) : Prop :=
  p.tables.exec = Jvm.exec ∧ c.code = y.2.1 ∧ meth.sig.returnType = y.2.2.2 ∧ meth.locks = false ∧ c.maxLocals = y.2.2.1 ∧ s.vm.findClass y.1.cls = some m.cls ∧ (∀ w ∈ fv_tbl, w.before args s = true) ∧ fv_K D dA s ∧ meth.name = y.1.name
def fv_cN (N : Nat) (q : Nat × Value) : Nat × Value := (q.1, fv_v N q.2)
def fv_At (y : fv_Y) (d mc ms : Nat) (Q : Option Value → fv_F → Option Nat → Prop) (pc : Nat) (lv : fv_L) (st : List Value) (f : fv_F) (al : Option Nat) (k t : Nat) : Prop :=
  ∀ (p : Program) (l : Launch) (e : Env) (s : State) (m : MethodId) (args : Array Value) (below : List Frame) (meth : Method) (c : Code) (D : va_G) (dA : Nat → ClassId) (N : Nat) (A : Nat → Prop), fv_G y p s m args meth c D dA →
    ∀ (H : Heap) (locs : List Loc) (ls : Array Slot), fv_R D dA N A f H → va_S A s.heap H locs → fv_O N A al H → lv_has ls y.2.2.1 (lv.map (fv_cN N)) →
      W p l e (fv_rm d mc ms) s m args below meth c H locs k t (MQ below (fv_Qc D dA N A Q) args s mc ms A) (F0 m pc ls (st.map (fv_v N)))
def fv_g : fv_L → Nat → Option Value
  | [], _ => none
  | q :: r, i => if q.1 = i then some q.2 else fv_g r i
def fv_ins (x : Nat × Value) : fv_L → fv_L
  | [] => [x]
  | q :: r => if x.1 ≤ q.1 then x :: q :: r else q :: fv_ins x r
def fv_p1 (lv : fv_L) (i : Nat) (v : Value) : fv_L := fv_ins (i, v) (lv.filter (fun q => !(q.1 == i) && !(q.1 + 1 == i && q.2.category == 2)))
def fv_p2 (lv : fv_L) (i : Nat) (v : Value) : fv_L := fv_ins (i, v) (lv.filter (fun q => !(q.1 == i) && (!(q.1 == i + 1) && !(q.1 + 1 == i && q.2.category == 2))))
theorem fv_cat (N : Nat) (v : Value) : (fv_v N v).category = v.category := by cases v <;> rfl
theorem fv_g_mem {lv : fv_L} {i : Nat} {v : Value} (h : fv_g lv i = some v) : (i, v) ∈ lv := by
  induction lv with
  | nil => cases h
  | cons q r ih =>
    unfold fv_g at h
    split at h
    · rename_i e
      cases h
      subst e
      exact List.mem_cons_self
    · exact List.mem_cons_of_mem _ (ih h)
theorem fv_lk {ls : Array Slot} {n N : Nat} {lv : fv_L} {i : Nat} {v : Value} (h : lv_has ls n (lv.map (fv_cN N))) (hg : fv_g lv i = some v) : ls[i]? = some (.val (fv_v N v)) :=
  h.2.2 (i, fv_v N v) (List.mem_map.mpr ⟨(i, v), fv_g_mem hg, rfl⟩)
theorem fv_lx {ls : Array Slot} {n N : Nat} {lv : fv_L} {i : Nat} {v : Value} (h : lv_has ls n (lv.map (fv_cN N))) (hg : fv_g lv i = some v) : ∃ k : Nat, (lv.map (fv_cN N))[k]? = some (i, fv_v N v) :=
  List.getElem?_of_mem (List.mem_map.mpr ⟨(i, v), fv_g_mem hg, rfl⟩)
theorem fv_ins_mem {x q : Nat × Value} {lv : fv_L} (h : q ∈ fv_ins x lv) : q = x ∨ q ∈ lv := by
  induction lv with
  | nil => exact Or.inl (List.mem_singleton.mp h)
  | cons a r ih =>
    unfold fv_ins at h
    split at h
    · exact List.mem_cons.mp h
    · rcases List.mem_cons.mp h with h | h
      · exact Or.inr (h ▸ List.mem_cons_self)
      · rcases ih h with h | h
        · exact Or.inl h
        · exact Or.inr (List.mem_cons_of_mem _ h)
theorem fv_has {ls : Array Slot} {n : Nat} {l l' : List (Nat × Value)} (h : lv_has ls n l) (hs : ∀ q ∈ l', q ∈ l) : lv_has ls n l' := ⟨h.1, h.2.1, fun q hq => h.2.2 q (hs q hq)⟩
theorem fv_h1 {ls : Array Slot} {n N i : Nat} {lv : fv_L} {v : Value} (h : lv_has ls n ((i, fv_v N v) :: (lv.map (fv_cN N)).filter (fun q => !(q.1 == i) && !(q.1 + 1 == i && q.2.category == 2)))) : lv_has ls n ((fv_p1 lv i v).map (fv_cN N)) := by
  refine fv_has h fun q hq => ?_
  obtain ⟨q0, h0, rfl⟩ := List.mem_map.mp hq
  rcases fv_ins_mem h0 with rfl | h0
  · exact List.mem_cons_self
  · obtain ⟨h1, h2⟩ := List.mem_filter.mp h0
    refine List.mem_cons_of_mem _ (List.mem_filter.mpr ⟨List.mem_map.mpr ⟨q0, h1, rfl⟩, ?_⟩)
    show (!(q0.1 == i) && !(q0.1 + 1 == i && (fv_v N q0.2).category == 2)) = true
    rw [fv_cat]; exact h2
theorem fv_h2 {ls : Array Slot} {n N i : Nat} {lv : fv_L} {v : Value} (h : lv_has ls n ((i, fv_v N v) :: (lv.map (fv_cN N)).filter (fun q => !(q.1 == i) && (!(q.1 == i + 1) && !(q.1 + 1 == i && q.2.category == 2))))) : lv_has ls n ((fv_p2 lv i v).map (fv_cN N)) := by
  refine fv_has h fun q hq => ?_
  obtain ⟨q0, h0, rfl⟩ := List.mem_map.mp hq
  rcases fv_ins_mem h0 with rfl | h0
  · exact List.mem_cons_self
  · obtain ⟨h1, h2⟩ := List.mem_filter.mp h0
    refine List.mem_cons_of_mem _ (List.mem_filter.mpr ⟨List.mem_map.mpr ⟨q0, h1, rfl⟩, ?_⟩)
    show (!(q0.1 == i) && (!(q0.1 == i + 1) && !(q0.1 + 1 == i && (fv_v N q0.2).category == 2))) = true
    rw [fv_cat]; exact h2
section FVR
variable {y : fv_Y} {d mc ms : Nat} {Q : Option Value → fv_F → Option Nat → Prop} {pc : Nat} {lv : fv_L} {st : List Value} {f : fv_F} {al : Option Nat} {k t : Nat}
/-- fewer locals -/
theorem fx_sub {lv' : fv_L} (hs : ∀ q ∈ lv', q ∈ lv) (kk : fv_At y d mc ms Q pc lv' st f al k t) : fv_At y d mc ms Q pc lv st f al k t := by
  intro p l e s m args below meth c D dA N A G H locs ls hR hS hO hl
  exact kk p l e s m args below meth c D dA N A G H locs ls hR hS hO (fv_has hl fun q hq => by
    obtain ⟨q0, h0, rfl⟩ := List.mem_map.mp hq
    exact List.mem_map.mpr ⟨q0, hs q0 h0, rfl⟩)
theorem fx_iconst {n : Int} {v : Int32} (hd : decode y.2.1 pc = .ok (.iconst n, 1)) (hv : Int32.ofInt n = v) (kk : fv_At y d mc ms Q (pc + 1) lv (.int v :: st) f al k t) : fv_At y d mc ms Q pc lv (st) f al k t := by
  intro p l e s m args below meth c D dA N A G H locs ls hR hS hO hl
  obtain ⟨hx, hb, hr, hlk, hml, hown, hts, ⟨hK, hNq⟩, hnm⟩ := id G
  exact lv_iconst hx hb hd hv (kk p l e s m args below meth c D dA N A G H locs ls hR hS hO hl)
theorem fx_bipush {n : Int} {v : Int32} (hd : decode y.2.1 pc = .ok (.bipush n, 2)) (hv : (Int8.ofInt n).toInt32 = v) (kk : fv_At y d mc ms Q (pc + 2) lv (.int v :: st) f al k t) : fv_At y d mc ms Q pc lv (st) f al k t := by
  intro p l e s m args below meth c D dA N A G H locs ls hR hS hO hl
  obtain ⟨hx, hb, hr, hlk, hml, hown, hts, ⟨hK, hNq⟩, hnm⟩ := id G
  exact lv_bipush hx hb hd hv (kk p l e s m args below meth c D dA N A G H locs ls hR hS hO hl)
theorem fx_sipush {n : Int} {v : Int32} (hd : decode y.2.1 pc = .ok (.sipush n, 3)) (hv : (Int16.ofInt n).toInt32 = v) (kk : fv_At y d mc ms Q (pc + 3) lv (.int v :: st) f al k t) : fv_At y d mc ms Q pc lv (st) f al k t := by
  intro p l e s m args below meth c D dA N A G H locs ls hR hS hO hl
  obtain ⟨hx, hb, hr, hlk, hml, hown, hts, ⟨hK, hNq⟩, hnm⟩ := id G
  exact lv_sipush hx hb hd hv (kk p l e s m args below meth c D dA N A G H locs ls hR hS hO hl)
theorem fx_lconst {n : Fin 2} {v : Int64} (hd : decode y.2.1 pc = .ok (.lconst n, 1)) (hv : Int64.ofNat (n : Nat) = v) (kk : fv_At y d mc ms Q (pc + 1) lv (.long v :: st) f al k t) : fv_At y d mc ms Q pc lv (st) f al k t := by
  intro p l e s m args below meth c D dA N A G H locs ls hR hS hO hl
  obtain ⟨hx, hb, hr, hlk, hml, hown, hts, ⟨hK, hNq⟩, hnm⟩ := id G
  exact lv_lconst hx hb hd hv (kk p l e s m args below meth c D dA N A G H locs ls hR hS hO hl)
theorem fx_ldc {i : Nat} {v : Int32} (hd : decode y.2.1 pc = .ok (.ldc i, 2)) (hw : Jvm.Cond.constant y.1.cls i v ∈ fv_tbl) (kk : fv_At y d mc ms Q (pc + 2) lv (.int v :: st) f al k t) : fv_At y d mc ms Q pc lv (st) f al k t := by
  intro p l e s m args below meth c D dA N A G H locs ls hR hS hO hl
  obtain ⟨hx, hb, hr, hlk, hml, hown, hts, ⟨hK, hNq⟩, hnm⟩ := id G
  exact lv_ldc hx hb hown (hts _ hw) hd (kk p l e s m args below meth c D dA N A G H locs ls hR hS hO hl)
theorem fx_ldc2 {i : Nat} {v : Int64} (hd : decode y.2.1 pc = .ok (.ldc2_w i, 3)) (hw : Jvm.Cond.constantLong y.1.cls i v ∈ fv_tbl) (kk : fv_At y d mc ms Q (pc + 3) lv (.long v :: st) f al k t) : fv_At y d mc ms Q pc lv (st) f al k t := by
  intro p l e s m args below meth c D dA N A G H locs ls hR hS hO hl
  obtain ⟨hx, hb, hr, hlk, hml, hown, hts, ⟨hK, hNq⟩, hnm⟩ := id G
  exact lv_ldc2 hx hb hown (hts _ hw) hd (kk p l e s m args below meth c D dA N A G H locs ls hR hS hO hl)
theorem fx_iload_n {n : Fin 4} {i : Nat} {x : Int32} (hd : decode y.2.1 pc = .ok (.iload_n n, 1)) (hi : (n : Nat) = i) (hg : fv_g lv i = some (.int x)) (kk : fv_At y d mc ms Q (pc + 1) lv (.int x :: st) f al k t) : fv_At y d mc ms Q pc lv (st) f al k t := by
  intro p l e s m args below meth c D dA N A G H locs ls hR hS hO hl
  obtain ⟨hx, hb, hr, hlk, hml, hown, hts, ⟨hK, hNq⟩, hnm⟩ := id G
  exact lv_iload_n hx hb hd hi (fv_lk hl hg) (kk p l e s m args below meth c D dA N A G H locs ls hR hS hO hl)
theorem fx_iload {i : Nat} {x : Int32} (hd : decode y.2.1 pc = .ok (.iload i, 2)) (hg : fv_g lv i = some (.int x)) (kk : fv_At y d mc ms Q (pc + 2) lv (.int x :: st) f al k t) : fv_At y d mc ms Q pc lv (st) f al k t := by
  intro p l e s m args below meth c D dA N A G H locs ls hR hS hO hl
  obtain ⟨hx, hb, hr, hlk, hml, hown, hts, ⟨hK, hNq⟩, hnm⟩ := id G
  exact lv_iload hx hb hd (fv_lk hl hg) (kk p l e s m args below meth c D dA N A G H locs ls hR hS hO hl)
theorem fx_lload_n {n : Fin 4} {i : Nat} {x : Int64} (hd : decode y.2.1 pc = .ok (.lload_n n, 1)) (hi : (n : Nat) = i) (hg : fv_g lv i = some (.long x)) (kk : fv_At y d mc ms Q (pc + 1) lv (.long x :: st) f al k t) : fv_At y d mc ms Q pc lv (st) f al k t := by
  intro p l e s m args below meth c D dA N A G H locs ls hR hS hO hl
  obtain ⟨hx, hb, hr, hlk, hml, hown, hts, ⟨hK, hNq⟩, hnm⟩ := id G
  exact lv_lload_n hx hb hd hi (fv_lk hl hg) (kk p l e s m args below meth c D dA N A G H locs ls hR hS hO hl)
theorem fx_lload {i : Nat} {x : Int64} (hd : decode y.2.1 pc = .ok (.lload i, 2)) (hg : fv_g lv i = some (.long x)) (kk : fv_At y d mc ms Q (pc + 2) lv (.long x :: st) f al k t) : fv_At y d mc ms Q pc lv (st) f al k t := by
  intro p l e s m args below meth c D dA N A G H locs ls hR hS hO hl
  obtain ⟨hx, hb, hr, hlk, hml, hown, hts, ⟨hK, hNq⟩, hnm⟩ := id G
  exact lv_lload hx hb hd (fv_lk hl hg) (kk p l e s m args below meth c D dA N A G H locs ls hR hS hO hl)
theorem fx_aload_n {n : Fin 4} {i a : Nat} (hd : decode y.2.1 pc = .ok (.aload_n n, 1)) (hi : (n : Nat) = i) (hg : fv_g lv i = some (.ref a)) (kk : fv_At y d mc ms Q (pc + 1) lv (.ref a :: st) f al k t) : fv_At y d mc ms Q pc lv (st) f al k t := by
  intro p l e s m args below meth c D dA N A G H locs ls hR hS hO hl
  obtain ⟨hx, hb, hr, hlk, hml, hown, hts, ⟨hK, hNq⟩, hnm⟩ := id G
  exact lv_aload_n hx hb hd hi (fv_lk hl hg) (kk p l e s m args below meth c D dA N A G H locs ls hR hS hO hl)
theorem fx_aload {i a : Nat} (hd : decode y.2.1 pc = .ok (.aload i, 2)) (hg : fv_g lv i = some (.ref a)) (kk : fv_At y d mc ms Q (pc + 2) lv (.ref a :: st) f al k t) : fv_At y d mc ms Q pc lv (st) f al k t := by
  intro p l e s m args below meth c D dA N A G H locs ls hR hS hO hl
  obtain ⟨hx, hb, hr, hlk, hml, hown, hts, ⟨hK, hNq⟩, hnm⟩ := id G
  exact lv_aload hx hb hd (fv_lk hl hg) (kk p l e s m args below meth c D dA N A G H locs ls hR hS hO hl)
theorem fx_istore_n {n : Fin 4} {i : Nat} {x : Int32} {lv2 : fv_L} (hd : decode y.2.1 pc = .ok (.istore_n n, 1)) (hi : (n : Nat) = i) (hn : i < y.2.2.1) (hp : fv_p1 lv i (.int x) = lv2) (kk : fv_At y d mc ms Q (pc + 1) lv2 (st) f al k t) : fv_At y d mc ms Q pc lv (.int x :: st) f al k t := by
  intro p l e s m args below meth c D dA N A G H locs ls hR hS hO hl
  obtain ⟨hx, hb, hr, hlk, hml, hown, hts, ⟨hK, hNq⟩, hnm⟩ := id G
  exact lv_istore_n hx hb hd hi hl hn rfl (fun ls2 hl2 => kk p l e s m args below meth c D dA N A G H locs ls2 hR hS hO (by rw [← hp]; exact fv_h1 hl2))
theorem fx_istore {i : Nat} {x : Int32} {lv2 : fv_L} (hd : decode y.2.1 pc = .ok (.istore i, 2)) (hn : i < y.2.2.1) (hp : fv_p1 lv i (.int x) = lv2) (kk : fv_At y d mc ms Q (pc + 2) lv2 (st) f al k t) : fv_At y d mc ms Q pc lv (.int x :: st) f al k t := by
  intro p l e s m args below meth c D dA N A G H locs ls hR hS hO hl
  obtain ⟨hx, hb, hr, hlk, hml, hown, hts, ⟨hK, hNq⟩, hnm⟩ := id G
  exact lv_istore hx hb hd hl hn rfl (fun ls2 hl2 => kk p l e s m args below meth c D dA N A G H locs ls2 hR hS hO (by rw [← hp]; exact fv_h1 hl2))
theorem fx_lstore_n {n : Fin 4} {i : Nat} {x : Int64} {lv2 : fv_L} (hd : decode y.2.1 pc = .ok (.lstore_n n, 1)) (hi : (n : Nat) = i) (hn : i + 1 < y.2.2.1) (hp : fv_p2 lv i (.long x) = lv2) (kk : fv_At y d mc ms Q (pc + 1) lv2 (st) f al k t) : fv_At y d mc ms Q pc lv (.long x :: st) f al k t := by
  intro p l e s m args below meth c D dA N A G H locs ls hR hS hO hl
  obtain ⟨hx, hb, hr, hlk, hml, hown, hts, ⟨hK, hNq⟩, hnm⟩ := id G
  exact lv_lstore_n hx hb hd hi hl hn rfl (fun ls2 hl2 => kk p l e s m args below meth c D dA N A G H locs ls2 hR hS hO (by rw [← hp]; exact fv_h2 hl2))
theorem fx_lstore {i : Nat} {x : Int64} {lv2 : fv_L} (hd : decode y.2.1 pc = .ok (.lstore i, 2)) (hn : i + 1 < y.2.2.1) (hp : fv_p2 lv i (.long x) = lv2) (kk : fv_At y d mc ms Q (pc + 2) lv2 (st) f al k t) : fv_At y d mc ms Q pc lv (.long x :: st) f al k t := by
  intro p l e s m args below meth c D dA N A G H locs ls hR hS hO hl
  obtain ⟨hx, hb, hr, hlk, hml, hown, hts, ⟨hK, hNq⟩, hnm⟩ := id G
  exact lv_lstore hx hb hd hl hn rfl (fun ls2 hl2 => kk p l e s m args below meth c D dA N A G H locs ls2 hR hS hO (by rw [← hp]; exact fv_h2 hl2))
theorem fx_astore_n {n : Fin 4} {i a : Nat} {lv2 : fv_L} (hd : decode y.2.1 pc = .ok (.astore_n n, 1)) (hi : (n : Nat) = i) (hn : i < y.2.2.1) (hp : fv_p1 lv i (.ref a) = lv2) (kk : fv_At y d mc ms Q (pc + 1) lv2 (st) f al k t) : fv_At y d mc ms Q pc lv (.ref a :: st) f al k t := by
  intro p l e s m args below meth c D dA N A G H locs ls hR hS hO hl
  obtain ⟨hx, hb, hr, hlk, hml, hown, hts, ⟨hK, hNq⟩, hnm⟩ := id G
  exact lv_astore_n hx hb hd hi hl hn rfl (fun ls2 hl2 => kk p l e s m args below meth c D dA N A G H locs ls2 hR hS hO (by rw [← hp]; exact fv_h1 hl2))
theorem fx_astore {i a : Nat} {lv2 : fv_L} (hd : decode y.2.1 pc = .ok (.astore i, 2)) (hn : i < y.2.2.1) (hp : fv_p1 lv i (.ref a) = lv2) (kk : fv_At y d mc ms Q (pc + 2) lv2 (st) f al k t) : fv_At y d mc ms Q pc lv (.ref a :: st) f al k t := by
  intro p l e s m args below meth c D dA N A G H locs ls hR hS hO hl
  obtain ⟨hx, hb, hr, hlk, hml, hown, hts, ⟨hK, hNq⟩, hnm⟩ := id G
  exact lv_astore hx hb hd hl hn rfl (fun ls2 hl2 => kk p l e s m args below meth c D dA N A G H locs ls2 hR hS hO (by rw [← hp]; exact fv_h1 hl2))
theorem fx_iinc {i : Nat} {n : Int} {x v : Int32} {lv2 : fv_L} (hd : decode y.2.1 pc = .ok (.iinc i n, 3)) (hg : fv_g lv i = some (.int x)) (hv : x + Int32.ofInt n = v) (hn : i < y.2.2.1) (hp : fv_p1 lv i (.int v) = lv2) (kk : fv_At y d mc ms Q (pc + 3) lv2 (st) f al k t) : fv_At y d mc ms Q pc lv (st) f al k t := by
  intro p l e s m args below meth c D dA N A G H locs ls hR hS hO hl
  obtain ⟨hx, hb, hr, hlk, hml, hown, hts, ⟨hK, hNq⟩, hnm⟩ := id G
  obtain ⟨j, hj⟩ := fv_lx hl hg
  exact lv_iinc hx hb hd hl hj hv hn rfl (fun ls2 hl2 => kk p l e s m args below meth c D dA N A G H locs ls2 hR hS hO (by rw [← hp]; exact fv_h1 hl2))
theorem fx_iadd {x z : Int32} (hd : decode y.2.1 pc = .ok (.iadd, 1)) (kk : fv_At y d mc ms Q (pc + 1) lv (.int (x + z) :: st) f al k t) : fv_At y d mc ms Q pc lv (.int z :: .int x :: st) f al k t := by
  intro p l e s m args below meth c D dA N A G H locs ls hR hS hO hl
  obtain ⟨hx, hb, hr, hlk, hml, hown, hts, ⟨hK, hNq⟩, hnm⟩ := id G
  exact lv_iadd hx hb hd (kk p l e s m args below meth c D dA N A G H locs ls hR hS hO hl)
theorem fx_isub {x z : Int32} (hd : decode y.2.1 pc = .ok (.isub, 1)) (kk : fv_At y d mc ms Q (pc + 1) lv (.int (x - z) :: st) f al k t) : fv_At y d mc ms Q pc lv (.int z :: .int x :: st) f al k t := by
  intro p l e s m args below meth c D dA N A G H locs ls hR hS hO hl
  obtain ⟨hx, hb, hr, hlk, hml, hown, hts, ⟨hK, hNq⟩, hnm⟩ := id G
  exact lv_isub hx hb hd (kk p l e s m args below meth c D dA N A G H locs ls hR hS hO hl)
theorem fx_imul {x z : Int32} (hd : decode y.2.1 pc = .ok (.imul, 1)) (kk : fv_At y d mc ms Q (pc + 1) lv (.int (x * z) :: st) f al k t) : fv_At y d mc ms Q pc lv (.int z :: .int x :: st) f al k t := by
  intro p l e s m args below meth c D dA N A G H locs ls hR hS hO hl
  obtain ⟨hx, hb, hr, hlk, hml, hown, hts, ⟨hK, hNq⟩, hnm⟩ := id G
  exact lv_imul hx hb hd (kk p l e s m args below meth c D dA N A G H locs ls hR hS hO hl)
theorem fx_iand {x z : Int32} (hd : decode y.2.1 pc = .ok (.iand, 1)) (kk : fv_At y d mc ms Q (pc + 1) lv (.int (x &&& z) :: st) f al k t) : fv_At y d mc ms Q pc lv (.int z :: .int x :: st) f al k t := by
  intro p l e s m args below meth c D dA N A G H locs ls hR hS hO hl
  obtain ⟨hx, hb, hr, hlk, hml, hown, hts, ⟨hK, hNq⟩, hnm⟩ := id G
  exact lv_iand hx hb hd (kk p l e s m args below meth c D dA N A G H locs ls hR hS hO hl)
theorem fx_ior {x z : Int32} (hd : decode y.2.1 pc = .ok (.ior, 1)) (kk : fv_At y d mc ms Q (pc + 1) lv (.int (x ||| z) :: st) f al k t) : fv_At y d mc ms Q pc lv (.int z :: .int x :: st) f al k t := by
  intro p l e s m args below meth c D dA N A G H locs ls hR hS hO hl
  obtain ⟨hx, hb, hr, hlk, hml, hown, hts, ⟨hK, hNq⟩, hnm⟩ := id G
  exact lv_ior hx hb hd (kk p l e s m args below meth c D dA N A G H locs ls hR hS hO hl)
theorem fx_ixor {x z : Int32} (hd : decode y.2.1 pc = .ok (.ixor, 1)) (kk : fv_At y d mc ms Q (pc + 1) lv (.int (x ^^^ z) :: st) f al k t) : fv_At y d mc ms Q pc lv (.int z :: .int x :: st) f al k t := by
  intro p l e s m args below meth c D dA N A G H locs ls hR hS hO hl
  obtain ⟨hx, hb, hr, hlk, hml, hown, hts, ⟨hK, hNq⟩, hnm⟩ := id G
  exact lv_ixor hx hb hd (kk p l e s m args below meth c D dA N A G H locs ls hR hS hO hl)
theorem fx_idiv {x z : Int32} (hd : decode y.2.1 pc = .ok (.idiv, 1)) (h0 : ¬ z = 0) (kk : fv_At y d mc ms Q (pc + 1) lv (.int (x / z) :: st) f al k t) : fv_At y d mc ms Q pc lv (.int z :: .int x :: st) f al k t := by
  intro p l e s m args below meth c D dA N A G H locs ls hR hS hO hl
  obtain ⟨hx, hb, hr, hlk, hml, hown, hts, ⟨hK, hNq⟩, hnm⟩ := id G
  exact lv_idiv hx hb hd h0 (kk p l e s m args below meth c D dA N A G H locs ls hR hS hO hl)
theorem fx_irem {x z : Int32} (hd : decode y.2.1 pc = .ok (.irem, 1)) (h0 : ¬ z = 0) (kk : fv_At y d mc ms Q (pc + 1) lv (.int (x - x / z * z) :: st) f al k t) : fv_At y d mc ms Q pc lv (.int z :: .int x :: st) f al k t := by
  intro p l e s m args below meth c D dA N A G H locs ls hR hS hO hl
  obtain ⟨hx, hb, hr, hlk, hml, hown, hts, ⟨hK, hNq⟩, hnm⟩ := id G
  exact lv_irem hx hb hd h0 (kk p l e s m args below meth c D dA N A G H locs ls hR hS hO hl)
theorem fx_ineg {x : Int32} (hd : decode y.2.1 pc = .ok (.ineg, 1)) (kk : fv_At y d mc ms Q (pc + 1) lv (.int (-x) :: st) f al k t) : fv_At y d mc ms Q pc lv (.int x :: st) f al k t := by
  intro p l e s m args below meth c D dA N A G H locs ls hR hS hO hl
  obtain ⟨hx, hb, hr, hlk, hml, hown, hts, ⟨hK, hNq⟩, hnm⟩ := id G
  exact lv_ineg hx hb hd (kk p l e s m args below meth c D dA N A G H locs ls hR hS hO hl)
theorem fx_ishl {x z : Int32} (hd : decode y.2.1 pc = .ok (.ishl, 1)) (kk : fv_At y d mc ms Q (pc + 1) lv (.int (x <<< (z &&& 31)) :: st) f al k t) : fv_At y d mc ms Q pc lv (.int z :: .int x :: st) f al k t := by
  intro p l e s m args below meth c D dA N A G H locs ls hR hS hO hl
  obtain ⟨hx, hb, hr, hlk, hml, hown, hts, ⟨hK, hNq⟩, hnm⟩ := id G
  exact lv_ishl hx hb hd (kk p l e s m args below meth c D dA N A G H locs ls hR hS hO hl)
theorem fx_ishr {x z : Int32} (hd : decode y.2.1 pc = .ok (.ishr, 1)) (kk : fv_At y d mc ms Q (pc + 1) lv (.int (x >>> (z &&& 31)) :: st) f al k t) : fv_At y d mc ms Q pc lv (.int z :: .int x :: st) f al k t := by
  intro p l e s m args below meth c D dA N A G H locs ls hR hS hO hl
  obtain ⟨hx, hb, hr, hlk, hml, hown, hts, ⟨hK, hNq⟩, hnm⟩ := id G
  exact lv_ishr hx hb hd (kk p l e s m args below meth c D dA N A G H locs ls hR hS hO hl)
theorem fx_ladd {x z : Int64} (hd : decode y.2.1 pc = .ok (.ladd, 1)) (kk : fv_At y d mc ms Q (pc + 1) lv (.long (x + z) :: st) f al k t) : fv_At y d mc ms Q pc lv (.long z :: .long x :: st) f al k t := by
  intro p l e s m args below meth c D dA N A G H locs ls hR hS hO hl
  obtain ⟨hx, hb, hr, hlk, hml, hown, hts, ⟨hK, hNq⟩, hnm⟩ := id G
  exact lv_ladd hx hb hd (kk p l e s m args below meth c D dA N A G H locs ls hR hS hO hl)
theorem fx_lsub {x z : Int64} (hd : decode y.2.1 pc = .ok (.lsub, 1)) (kk : fv_At y d mc ms Q (pc + 1) lv (.long (x - z) :: st) f al k t) : fv_At y d mc ms Q pc lv (.long z :: .long x :: st) f al k t := by
  intro p l e s m args below meth c D dA N A G H locs ls hR hS hO hl
  obtain ⟨hx, hb, hr, hlk, hml, hown, hts, ⟨hK, hNq⟩, hnm⟩ := id G
  exact lv_lsub hx hb hd (kk p l e s m args below meth c D dA N A G H locs ls hR hS hO hl)
theorem fx_lmul {x z : Int64} (hd : decode y.2.1 pc = .ok (.lmul, 1)) (kk : fv_At y d mc ms Q (pc + 1) lv (.long (x * z) :: st) f al k t) : fv_At y d mc ms Q pc lv (.long z :: .long x :: st) f al k t := by
  intro p l e s m args below meth c D dA N A G H locs ls hR hS hO hl
  obtain ⟨hx, hb, hr, hlk, hml, hown, hts, ⟨hK, hNq⟩, hnm⟩ := id G
  exact lv_lmul hx hb hd (kk p l e s m args below meth c D dA N A G H locs ls hR hS hO hl)
theorem fx_land {x z : Int64} (hd : decode y.2.1 pc = .ok (.land, 1)) (kk : fv_At y d mc ms Q (pc + 1) lv (.long (x &&& z) :: st) f al k t) : fv_At y d mc ms Q pc lv (.long z :: .long x :: st) f al k t := by
  intro p l e s m args below meth c D dA N A G H locs ls hR hS hO hl
  obtain ⟨hx, hb, hr, hlk, hml, hown, hts, ⟨hK, hNq⟩, hnm⟩ := id G
  exact lv_land hx hb hd (kk p l e s m args below meth c D dA N A G H locs ls hR hS hO hl)
theorem fx_lor {x z : Int64} (hd : decode y.2.1 pc = .ok (.lor, 1)) (kk : fv_At y d mc ms Q (pc + 1) lv (.long (x ||| z) :: st) f al k t) : fv_At y d mc ms Q pc lv (.long z :: .long x :: st) f al k t := by
  intro p l e s m args below meth c D dA N A G H locs ls hR hS hO hl
  obtain ⟨hx, hb, hr, hlk, hml, hown, hts, ⟨hK, hNq⟩, hnm⟩ := id G
  exact lv_lor hx hb hd (kk p l e s m args below meth c D dA N A G H locs ls hR hS hO hl)
theorem fx_ldiv {x z : Int64} (hd : decode y.2.1 pc = .ok (.ldiv, 1)) (h0 : ¬ z = 0) (kk : fv_At y d mc ms Q (pc + 1) lv (.long (x / z) :: st) f al k t) : fv_At y d mc ms Q pc lv (.long z :: .long x :: st) f al k t := by
  intro p l e s m args below meth c D dA N A G H locs ls hR hS hO hl
  obtain ⟨hx, hb, hr, hlk, hml, hown, hts, ⟨hK, hNq⟩, hnm⟩ := id G
  exact lv_ldiv hx hb hd h0 (kk p l e s m args below meth c D dA N A G H locs ls hR hS hO hl)
theorem fx_lrem {x z : Int64} (hd : decode y.2.1 pc = .ok (.lrem, 1)) (h0 : ¬ z = 0) (kk : fv_At y d mc ms Q (pc + 1) lv (.long (x - x / z * z) :: st) f al k t) : fv_At y d mc ms Q pc lv (.long z :: .long x :: st) f al k t := by
  intro p l e s m args below meth c D dA N A G H locs ls hR hS hO hl
  obtain ⟨hx, hb, hr, hlk, hml, hown, hts, ⟨hK, hNq⟩, hnm⟩ := id G
  exact lv_lrem hx hb hd h0 (kk p l e s m args below meth c D dA N A G H locs ls hR hS hO hl)
theorem fx_lneg {x : Int64} (hd : decode y.2.1 pc = .ok (.lneg, 1)) (kk : fv_At y d mc ms Q (pc + 1) lv (.long (-x) :: st) f al k t) : fv_At y d mc ms Q pc lv (.long x :: st) f al k t := by
  intro p l e s m args below meth c D dA N A G H locs ls hR hS hO hl
  obtain ⟨hx, hb, hr, hlk, hml, hown, hts, ⟨hK, hNq⟩, hnm⟩ := id G
  exact lv_lneg hx hb hd (kk p l e s m args below meth c D dA N A G H locs ls hR hS hO hl)
theorem fx_lshl {x v : Int64} {z : Int32} (hd : decode y.2.1 pc = .ok (.lshl, 1)) (hv : x <<< (z.toInt64 &&& 63) = v) (kk : fv_At y d mc ms Q (pc + 1) lv (.long v :: st) f al k t) : fv_At y d mc ms Q pc lv (.int z :: .long x :: st) f al k t := by
  intro p l e s m args below meth c D dA N A G H locs ls hR hS hO hl
  obtain ⟨hx, hb, hr, hlk, hml, hown, hts, ⟨hK, hNq⟩, hnm⟩ := id G
  exact lv_lshl hx hb hd hv (kk p l e s m args below meth c D dA N A G H locs ls hR hS hO hl)
theorem fx_lcmp {x z : Int64} (hd : decode y.2.1 pc = .ok (.lcmp, 1)) (kk : fv_At y d mc ms Q (pc + 1) lv (.int (lg_cmp x z) :: st) f al k t) : fv_At y d mc ms Q pc lv (.long z :: .long x :: st) f al k t := by
  intro p l e s m args below meth c D dA N A G H locs ls hR hS hO hl
  obtain ⟨hx, hb, hr, hlk, hml, hown, hts, ⟨hK, hNq⟩, hnm⟩ := id G
  exact W.lcmp hx hb hd (kk p l e s m args below meth c D dA N A G H locs ls hR hS hO hl)
theorem fx_i2l {x : Int32} (hd : decode y.2.1 pc = .ok (.i2l, 1)) (kk : fv_At y d mc ms Q (pc + 1) lv (.long x.toInt64 :: st) f al k t) : fv_At y d mc ms Q pc lv (.int x :: st) f al k t := by
  intro p l e s m args below meth c D dA N A G H locs ls hR hS hO hl
  obtain ⟨hx, hb, hr, hlk, hml, hown, hts, ⟨hK, hNq⟩, hnm⟩ := id G
  exact lv_i2l hx hb hd rfl (kk p l e s m args below meth c D dA N A G H locs ls hR hS hO hl)
theorem fx_l2i {x : Int64} (hd : decode y.2.1 pc = .ok (.l2i, 1)) (kk : fv_At y d mc ms Q (pc + 1) lv (.int x.toInt32 :: st) f al k t) : fv_At y d mc ms Q pc lv (.long x :: st) f al k t := by
  intro p l e s m args below meth c D dA N A G H locs ls hR hS hO hl
  obtain ⟨hx, hb, hr, hlk, hml, hown, hts, ⟨hK, hNq⟩, hnm⟩ := id G
  exact lv_l2i hx hb hd rfl (kk p l e s m args below meth c D dA N A G H locs ls hR hS hO hl)
theorem fx_dup {v : Value} (hd : decode y.2.1 pc = .ok (.dup, 1)) (hc : v.category = 1) (kk : fv_At y d mc ms Q (pc + 1) lv (v :: v :: st) f al k t) : fv_At y d mc ms Q pc lv (v :: st) f al k t := by
  intro p l e s m args below meth c D dA N A G H locs ls hR hS hO hl
  obtain ⟨hx, hb, hr, hlk, hml, hown, hts, ⟨hK, hNq⟩, hnm⟩ := id G
  exact lv_dup hx hb hd (by rw [fv_cat]; exact hc) (kk p l e s m args below meth c D dA N A G H locs ls hR hS hO hl)
theorem fx_dup2 {v w : Value} (hd : decode y.2.1 pc = .ok (.dup2, 1)) (hc : v.category = 1) (hc2 : w.category = 1) (kk : fv_At y d mc ms Q (pc + 1) lv (v :: w :: v :: w :: st) f al k t) : fv_At y d mc ms Q pc lv (v :: w :: st) f al k t := by
  intro p l e s m args below meth c D dA N A G H locs ls hR hS hO hl
  obtain ⟨hx, hb, hr, hlk, hml, hown, hts, ⟨hK, hNq⟩, hnm⟩ := id G
  exact lv_dup2_11 hx hb hd (by rw [fv_cat]; exact hc) (by rw [fv_cat]; exact hc2) (kk p l e s m args below meth c D dA N A G H locs ls hR hS hO hl)
theorem fx_pop {v : Value} (hd : decode y.2.1 pc = .ok (.pop, 1)) (hc : v.category = 1) (kk : fv_At y d mc ms Q (pc + 1) lv (st) f al k t) : fv_At y d mc ms Q pc lv (v :: st) f al k t := by
  intro p l e s m args below meth c D dA N A G H locs ls hR hS hO hl
  obtain ⟨hx, hb, hr, hlk, hml, hown, hts, ⟨hK, hNq⟩, hnm⟩ := id G
  exact lv_pop hx hb hd (by rw [fv_cat]; exact hc) (kk p l e s m args below meth c D dA N A G H locs ls hR hS hO hl)
theorem fx_if_eq {x : Int32} {off : Int} {tgt : Nat} (hd : decode y.2.1 pc = .ok (.ifCond .eq off, 3)) (ht : (pc : Int) + off = (tgt : Int)) (kt : (x = 0) → fv_At y d mc ms Q tgt lv st f al k t) (kf : ¬ (x = 0) → fv_At y d mc ms Q (pc + 3) lv st f al k t) : fv_At y d mc ms Q pc lv (.int x :: st) f al k t := by
  intro p l e s m args below meth c D dA N A G H locs ls hR hS hO hl
  obtain ⟨hx, hb, hr, hlk, hml, hown, hts, ⟨hK, hNq⟩, hnm⟩ := id G
  exact lv_if_eq hx hb hd ht (fun h => kt h p l e s m args below meth c D dA N A G H locs ls hR hS hO hl) (fun h => kf h p l e s m args below meth c D dA N A G H locs ls hR hS hO hl)
theorem fx_icmp_eq {x z : Int32} {off : Int} {tgt : Nat} (hd : decode y.2.1 pc = .ok (.if_icmp .eq off, 3)) (ht : (pc : Int) + off = (tgt : Int)) (kt : (x = z) → fv_At y d mc ms Q tgt lv st f al k t) (kf : ¬ (x = z) → fv_At y d mc ms Q (pc + 3) lv st f al k t) : fv_At y d mc ms Q pc lv (.int z :: .int x :: st) f al k t := by
  intro p l e s m args below meth c D dA N A G H locs ls hR hS hO hl
  obtain ⟨hx, hb, hr, hlk, hml, hown, hts, ⟨hK, hNq⟩, hnm⟩ := id G
  exact lv_icmp_eq hx hb hd ht (fun h => kt h p l e s m args below meth c D dA N A G H locs ls hR hS hO hl) (fun h => kf h p l e s m args below meth c D dA N A G H locs ls hR hS hO hl)
theorem fx_if_ne {x : Int32} {off : Int} {tgt : Nat} (hd : decode y.2.1 pc = .ok (.ifCond .ne off, 3)) (ht : (pc : Int) + off = (tgt : Int)) (kt : (x ≠ 0) → fv_At y d mc ms Q tgt lv st f al k t) (kf : (x = 0) → fv_At y d mc ms Q (pc + 3) lv st f al k t) : fv_At y d mc ms Q pc lv (.int x :: st) f al k t := by
  intro p l e s m args below meth c D dA N A G H locs ls hR hS hO hl
  obtain ⟨hx, hb, hr, hlk, hml, hown, hts, ⟨hK, hNq⟩, hnm⟩ := id G
  exact lv_if_ne hx hb hd ht (fun h => kt h p l e s m args below meth c D dA N A G H locs ls hR hS hO hl) (fun h => kf h p l e s m args below meth c D dA N A G H locs ls hR hS hO hl)
theorem fx_icmp_ne {x z : Int32} {off : Int} {tgt : Nat} (hd : decode y.2.1 pc = .ok (.if_icmp .ne off, 3)) (ht : (pc : Int) + off = (tgt : Int)) (kt : (x ≠ z) → fv_At y d mc ms Q tgt lv st f al k t) (kf : (x = z) → fv_At y d mc ms Q (pc + 3) lv st f al k t) : fv_At y d mc ms Q pc lv (.int z :: .int x :: st) f al k t := by
  intro p l e s m args below meth c D dA N A G H locs ls hR hS hO hl
  obtain ⟨hx, hb, hr, hlk, hml, hown, hts, ⟨hK, hNq⟩, hnm⟩ := id G
  exact lv_icmp_ne hx hb hd ht (fun h => kt h p l e s m args below meth c D dA N A G H locs ls hR hS hO hl) (fun h => kf h p l e s m args below meth c D dA N A G H locs ls hR hS hO hl)
theorem fx_if_lt {x : Int32} {off : Int} {tgt : Nat} (hd : decode y.2.1 pc = .ok (.ifCond .lt off, 3)) (ht : (pc : Int) + off = (tgt : Int)) (kt : (x < 0) → fv_At y d mc ms Q tgt lv st f al k t) (kf : ¬ (x < 0) → fv_At y d mc ms Q (pc + 3) lv st f al k t) : fv_At y d mc ms Q pc lv (.int x :: st) f al k t := by
  intro p l e s m args below meth c D dA N A G H locs ls hR hS hO hl
  obtain ⟨hx, hb, hr, hlk, hml, hown, hts, ⟨hK, hNq⟩, hnm⟩ := id G
  exact lv_if_lt hx hb hd ht (fun h => kt h p l e s m args below meth c D dA N A G H locs ls hR hS hO hl) (fun h => kf h p l e s m args below meth c D dA N A G H locs ls hR hS hO hl)
theorem fx_icmp_lt {x z : Int32} {off : Int} {tgt : Nat} (hd : decode y.2.1 pc = .ok (.if_icmp .lt off, 3)) (ht : (pc : Int) + off = (tgt : Int)) (kt : (x < z) → fv_At y d mc ms Q tgt lv st f al k t) (kf : ¬ (x < z) → fv_At y d mc ms Q (pc + 3) lv st f al k t) : fv_At y d mc ms Q pc lv (.int z :: .int x :: st) f al k t := by
  intro p l e s m args below meth c D dA N A G H locs ls hR hS hO hl
  obtain ⟨hx, hb, hr, hlk, hml, hown, hts, ⟨hK, hNq⟩, hnm⟩ := id G
  exact lv_icmp_lt hx hb hd ht (fun h => kt h p l e s m args below meth c D dA N A G H locs ls hR hS hO hl) (fun h => kf h p l e s m args below meth c D dA N A G H locs ls hR hS hO hl)
theorem fx_if_ge {x : Int32} {off : Int} {tgt : Nat} (hd : decode y.2.1 pc = .ok (.ifCond .ge off, 3)) (ht : (pc : Int) + off = (tgt : Int)) (kt : (0 ≤ x) → fv_At y d mc ms Q tgt lv st f al k t) (kf : ¬ (0 ≤ x) → fv_At y d mc ms Q (pc + 3) lv st f al k t) : fv_At y d mc ms Q pc lv (.int x :: st) f al k t := by
  intro p l e s m args below meth c D dA N A G H locs ls hR hS hO hl
  obtain ⟨hx, hb, hr, hlk, hml, hown, hts, ⟨hK, hNq⟩, hnm⟩ := id G
  exact lv_if_ge hx hb hd ht (fun h => kt h p l e s m args below meth c D dA N A G H locs ls hR hS hO hl) (fun h => kf h p l e s m args below meth c D dA N A G H locs ls hR hS hO hl)
theorem fx_icmp_ge {x z : Int32} {off : Int} {tgt : Nat} (hd : decode y.2.1 pc = .ok (.if_icmp .ge off, 3)) (ht : (pc : Int) + off = (tgt : Int)) (kt : (z ≤ x) → fv_At y d mc ms Q tgt lv st f al k t) (kf : ¬ (z ≤ x) → fv_At y d mc ms Q (pc + 3) lv st f al k t) : fv_At y d mc ms Q pc lv (.int z :: .int x :: st) f al k t := by
  intro p l e s m args below meth c D dA N A G H locs ls hR hS hO hl
  obtain ⟨hx, hb, hr, hlk, hml, hown, hts, ⟨hK, hNq⟩, hnm⟩ := id G
  exact lv_icmp_ge hx hb hd ht (fun h => kt h p l e s m args below meth c D dA N A G H locs ls hR hS hO hl) (fun h => kf h p l e s m args below meth c D dA N A G H locs ls hR hS hO hl)
theorem fx_if_gt {x : Int32} {off : Int} {tgt : Nat} (hd : decode y.2.1 pc = .ok (.ifCond .gt off, 3)) (ht : (pc : Int) + off = (tgt : Int)) (kt : (0 < x) → fv_At y d mc ms Q tgt lv st f al k t) (kf : ¬ (0 < x) → fv_At y d mc ms Q (pc + 3) lv st f al k t) : fv_At y d mc ms Q pc lv (.int x :: st) f al k t := by
  intro p l e s m args below meth c D dA N A G H locs ls hR hS hO hl
  obtain ⟨hx, hb, hr, hlk, hml, hown, hts, ⟨hK, hNq⟩, hnm⟩ := id G
  exact lv_if_gt hx hb hd ht (fun h => kt h p l e s m args below meth c D dA N A G H locs ls hR hS hO hl) (fun h => kf h p l e s m args below meth c D dA N A G H locs ls hR hS hO hl)
theorem fx_icmp_gt {x z : Int32} {off : Int} {tgt : Nat} (hd : decode y.2.1 pc = .ok (.if_icmp .gt off, 3)) (ht : (pc : Int) + off = (tgt : Int)) (kt : (z < x) → fv_At y d mc ms Q tgt lv st f al k t) (kf : ¬ (z < x) → fv_At y d mc ms Q (pc + 3) lv st f al k t) : fv_At y d mc ms Q pc lv (.int z :: .int x :: st) f al k t := by
  intro p l e s m args below meth c D dA N A G H locs ls hR hS hO hl
  obtain ⟨hx, hb, hr, hlk, hml, hown, hts, ⟨hK, hNq⟩, hnm⟩ := id G
  exact lv_icmp_gt hx hb hd ht (fun h => kt h p l e s m args below meth c D dA N A G H locs ls hR hS hO hl) (fun h => kf h p l e s m args below meth c D dA N A G H locs ls hR hS hO hl)
theorem fx_if_le {x : Int32} {off : Int} {tgt : Nat} (hd : decode y.2.1 pc = .ok (.ifCond .le off, 3)) (ht : (pc : Int) + off = (tgt : Int)) (kt : (x ≤ 0) → fv_At y d mc ms Q tgt lv st f al k t) (kf : ¬ (x ≤ 0) → fv_At y d mc ms Q (pc + 3) lv st f al k t) : fv_At y d mc ms Q pc lv (.int x :: st) f al k t := by
  intro p l e s m args below meth c D dA N A G H locs ls hR hS hO hl
  obtain ⟨hx, hb, hr, hlk, hml, hown, hts, ⟨hK, hNq⟩, hnm⟩ := id G
  exact lv_if_le hx hb hd ht (fun h => kt h p l e s m args below meth c D dA N A G H locs ls hR hS hO hl) (fun h => kf h p l e s m args below meth c D dA N A G H locs ls hR hS hO hl)
theorem fx_icmp_le {x z : Int32} {off : Int} {tgt : Nat} (hd : decode y.2.1 pc = .ok (.if_icmp .le off, 3)) (ht : (pc : Int) + off = (tgt : Int)) (kt : (x ≤ z) → fv_At y d mc ms Q tgt lv st f al k t) (kf : ¬ (x ≤ z) → fv_At y d mc ms Q (pc + 3) lv st f al k t) : fv_At y d mc ms Q pc lv (.int z :: .int x :: st) f al k t := by
  intro p l e s m args below meth c D dA N A G H locs ls hR hS hO hl
  obtain ⟨hx, hb, hr, hlk, hml, hown, hts, ⟨hK, hNq⟩, hnm⟩ := id G
  exact lv_icmp_le hx hb hd ht (fun h => kt h p l e s m args below meth c D dA N A G H locs ls hR hS hO hl) (fun h => kf h p l e s m args below meth c D dA N A G H locs ls hR hS hO hl)
theorem fx_goto {off : Int} {tgt : Nat} (hd : decode y.2.1 pc = .ok (.goto off, 3)) (ht : (pc : Int) + off = (tgt : Int)) (kk : fv_At y d mc ms Q tgt lv st f al k t) : fv_At y d mc ms Q pc lv st f al k t := by
  intro p l e s m args below meth c D dA N A G H locs ls hR hS hO hl
  obtain ⟨hx, hb, hr, hlk, hml, hown, hts, ⟨hK, hNq⟩, hnm⟩ := id G
  exact lv_goto hx hb hd ht (kk p l e s m args below meth c D dA N A G H locs ls hR hS hO hl)
theorem fx_tableIn {dflt lo hi : Int} {offs : Array Int} {len : Nat} {x : Int32} {off : Int} {tgt : Nat} (hd : decode y.2.1 pc = .ok (.tableswitch dflt lo hi offs, len)) (h1 : ¬ x.toInt < lo) (h2 : ¬ hi < x.toInt) (ho : offs[(x.toInt - lo).toNat]? = some off) (ht : (pc : Int) + off = (tgt : Int)) (kk : fv_At y d mc ms Q tgt lv st f al k t) : fv_At y d mc ms Q pc lv (.int x :: st) f al k t := by
  intro p l e s m args below meth c D dA N A G H locs ls hR hS hO hl
  obtain ⟨hx, hb, hr, hlk, hml, hown, hts, ⟨hK, hNq⟩, hnm⟩ := id G
  exact lv_tableIn hx hb hd h1 h2 ho ht (kk p l e s m args below meth c D dA N A G H locs ls hR hS hO hl)
theorem fx_tableOut {dflt lo hi : Int} {offs : Array Int} {len : Nat} {x : Int32} {tgt : Nat} (hd : decode y.2.1 pc = .ok (.tableswitch dflt lo hi offs, len)) (h : x.toInt < lo ∨ hi < x.toInt) (ht : (pc : Int) + dflt = (tgt : Int)) (kk : fv_At y d mc ms Q tgt lv st f al k t) : fv_At y d mc ms Q pc lv (.int x :: st) f al k t := by
  intro p l e s m args below meth c D dA N A G H locs ls hR hS hO hl
  obtain ⟨hx, hb, hr, hlk, hml, hown, hts, ⟨hK, hNq⟩, hnm⟩ := id G
  exact lv_tableOut hx hb hd h ht (kk p l e s m args below meth c D dA N A G H locs ls hR hS hO hl)
end FVR
end
section
/-! ===== rows that read and write cells ===== -/
/-- a class of which there are objects: its place among fv_cl, name, fields, types -/
def fv_cls (ci : Nat) (C : String) (T : u_T) (n : Nat) (ty0 : Nat → FieldType) : Prop := fv_cl[ci]? = some (C, T, n) ∧ (∀ w ∈ u_ws C T n, w ∈ fv_tbl) ∧ (∀ k, k < n → parseFieldDescriptor (T k).2.2.1 = some (ty0 k)) ∧ ∀ a, a < n → ∀ b, b < n → a ≠ b → (T a).2.1 ≠ (T b).2.1
theorem fv_c0 : fv_cls 0 RX0 TX0 3 tyX0 := ⟨rfl, iX0, tyX0_ok, nmX0⟩
theorem fv_c1 : fv_cls 1 RX2 TX2 8 tyX2 := ⟨rfl, iX2, tyX2_ok, nmX2⟩
theorem fv_c2 : fv_cls 2 RX4 TX4 5 tyX4 := ⟨rfl, iX4, tyX4_ok, nmX4⟩
theorem fv_c3 : fv_cls 3 RX5 TX5 2 tyX5 := ⟨rfl, iX5, tyX5_ok, nmX5⟩
theorem fv_c4 : fv_cls 4 RX7 TX7 4 tyX7 := ⟨rfl, iX7, tyX7_ok, nmX7⟩
theorem fv_c5 : fv_cls 5 RX8 TX8 5 tyX8 := ⟨rfl, iX8, tyX8_ok, nmX8⟩
theorem fv_c6 : fv_cls 6 RX9 TX9 3 tyX9 := ⟨rfl, iX9, tyX9_ok, nmX9⟩
theorem fv_c7 : fv_cls 7 RX10 TX10 4 tyX10 := ⟨rfl, iX10, tyX10_ok, nmX10⟩
theorem fv_c8 : fv_cls 8 RX11 TX11 38 tyX11 := ⟨rfl, iX11, tyX11_ok, nmX11⟩
/-- a field as a class's pool names it: entry idx of own is field k, final or not, of type ty, of class ci -/
def fv_fd (own : String) (idx ci k : Nat) (fin : Bool) (ty : FieldType) : Prop := ∃ (C : String) (T : u_T) (n : Nat) (ty0 : Nat → FieldType), fv_cls ci C T n ty0 ∧ k < n ∧ Cond.fieldLink own idx (T k).1 (T k).2.1 (T k).2.2.1 ∈ fv_tbl ∧ (T k).2.2.2 = fin ∧ ty0 k = ty ∧ (fin = true → (T k).1 = own)
theorem fv_R1 {D : va_G} {dA : Nat → ClassId} {N : Nat} {A : Nat → Prop} {f : fv_F} {H : Heap} {i : Nat} {c : fv_C} (hR : fv_R D dA N A f H) (h : f i = some c) : va_P D fv_cl [(N + i, fv_e N dA c)] H := by
  intro k q hk
  match k, hk with
  | 0, hk => cases hk; exact (hR i c h).2
  | k + 1, hk => simp at hk
theorem fv_Rset {D : va_G} {dA : Nat → ClassId} {N : Nat} {A : Nat → Prop} {f : fv_F} {H H1 : Heap} {i : Nat} {c c' : fv_C} (hR : fv_R D dA N A f H) (h : f i = some c) (h1 : va_at D fv_cl (N + i, fv_e N dA c') H1) (oq : ∀ q : Nat, q ≠ N + i → H1[q]? = H[q]?) : fv_R D dA N A (fv_set f i c') H1 := by
  intro j b hj
  by_cases e : j = i
  · subst e
    rw [fv_set_self] at hj
    cases hj
    exact ⟨(hR j c h).1, h1⟩
  · rw [fv_set_ne f c' e] at hj
    obtain ⟨g1, g2⟩ := hR j b hj
    exact ⟨g1, g2.kept (oq (N + j) (by omega))⟩
theorem fv_Oset {N : Nat} {A : Nat → Prop} {al : Option Nat} {H H1 : Heap} (hO : fv_O N A al H) (z : H1.size = H.size) : fv_O N A al H1 := fun n h => ⟨by rw [z]; exact (hO n h).1, (hO n h).2⟩
theorem fv_rfr (N : Nat) (g : Nat → Option Nat) (j : Nat) : va_rf (fv_r N g j) = fv_v N (va_rf (g j)) := by
  unfold fv_r
  cases g j <;> rfl
theorem fv_Op {N : Nat} {A : Nat → Prop} {al : Option Nat} {H : Heap} (hO : fv_O N A al H) : ∀ n, al = some n → H.size = N + n := fun n h => (hO n h).1
section FVH
variable {y : fv_Y} {d mc ms : Nat} {Q : Option Value → fv_F → Option Nat → Prop} {pc : Nat} {lv : fv_L} {st : List Value} {f : fv_F} {al : Option Nat} {k t : Nat}
theorem fx_getf {a idx ci j : Nat} {fin : Bool} {ty : FieldType} {fs : List Value} {v : Value} (hd : decode y.2.1 pc = .ok (.getfield idx, 3)) (hp : fv_fd y.1.cls idx ci j fin ty) (hf : f a = some (.inr (ci, fs))) (hv : fs[j]? = some v) (kk : fv_At y d mc ms Q (pc + 3) lv (v :: st) f al k t) : fv_At y d mc ms Q pc lv (.ref a :: st) f al k t := by
  intro p l e s m args below meth c D dA N A G H locs ls hR hS hO hl
  obtain ⟨hx, hb, hr, hlk, hml, hown, hts, ⟨hK, hNq⟩, hnm⟩ := id G
  obtain ⟨C, T, n, ty0, ⟨hc, hin, -, -⟩, hk, hlink, -, -⟩ := hp
  exact va_get hx hb hts hin hown hK (fv_R1 hR hf) 0 rfl hc j hk (hts _ hlink) (fun _ h => h) (v := fv_v N v) (by rw [List.getElem?_map, hv]; rfl) hd (kk p l e s m args below meth c D dA N A G H locs ls hR hS hO hl)
theorem fx_putf {a idx ci j : Nat} {ty : FieldType} {fs : List Value} {v : Value} (hd : decode y.2.1 pc = .ok (.putfield idx, 3)) (hp : fv_fd y.1.cls idx ci j false ty) (hf : f a = some (.inr (ci, fs))) (hn : ∀ N, narrow ty (fv_v N v) = fv_v N v) (hfit : ∀ N, fits ty (fv_v N v) = true) (hj : j < fs.length)
    (kk : fv_At y d mc ms Q (pc + 3) lv st (fv_set f a (.inr (ci, fs.set j v))) al k t) : fv_At y d mc ms Q pc lv (v :: .ref a :: st) f al k t := by
  intro p l e s m args below meth c D dA N A G H locs ls hR hS hO hl
  obtain ⟨hx, hb, hr, hlk, hml, hown, hts, ⟨hK, hNq⟩, hnm⟩ := id G
  obtain ⟨C, T, n, ty0, ⟨hc, hin, hty, hnam⟩, hk, hlink, hfin, hty1, -⟩ := hp
  have hap := va_apart (own := y.1.cls) hts hin ty0 hty hnam hK hc
  obtain ⟨hA, r, h1, cell, q1, q2, q3, q4⟩ := hR a _ hf
  have hr2 : r = (C, T, n) := Option.some.inj (h1.symm.trans hc)
  subst hr2
  obtain ⟨hSl, hfc, kC, hkC, hkind⟩ := hK.1 ci _ hc
  obtain ⟨cf, kf, fi, fd, hi, hsl⟩ := hSl j hk
  have hlay := hts _ (hin _ (u_in_lay hk))
  unfold u_lay at hlay
  rw [if_neg (by rw [hfin]; decide)] at hlay
  have hst := (u_facts hfc hkC (u_lays hts hin hk) hi).1
  have h6 := u_store (v := fv_v N v) hfc hkC hkind hlay hi ((hty j hk).trans (by rw [hty1])) (hn N) (hfit N)
  refine W.putK hx hb (f := fd) ⟨hown, hts _ hlink, ⟨_, _, _, hi⟩, hst⟩ (by rw [q2]; exact h6) q1 q3 (by rw [hsl]; exact k2_hasslot (q4 j hk)) rfl rfl hd fun H' e1 e2 e3 => ?_
  rw [hsl] at e1 ⊢
  refine kk p l e s m args below meth c D dA N A G H' _ ls (fv_Rset hR hf ⟨_, hc, t_OB.to (V := updV (vp_V (fs.map (fv_v N))) j (fv_v N v)) ⟨_, e1, q2, q3, t_set q4 hap hk (fv_v N v)⟩ (fun i _ => ?_)⟩ e3) (hS.put e2 e3 hA) (fv_Oset hO e2) hl
  rw [vp_updV_set (by rw [List.length_map]; exact hj)]
  show vp_V ((fs.map (fv_v N)).set j (fv_v N v)) i = vp_V ((fs.set j v).map (fv_v N)) i
  rw [List.map_set]
theorem fx_iald {a n : Nat} {g : Nat → Int32} {i : Int32} (j : Nat) (hd : decode y.2.1 pc = .ok (.iaload, 1)) (hf : f a = some (.inl (0, n, .inl g))) (hi : i = nI j) (hj : j < n) (hn : n < 2 ^ 31) (kk : fv_At y d mc ms Q (pc + 1) lv (.int (g j) :: st) f al k t) : fv_At y d mc ms Q pc lv (.int i :: .ref a :: st) f al k t := by
  intro p l e s m args below meth c D dA N A G H locs ls hR hS hO hl
  obtain ⟨hx, hb, hr, hlk, hml, hown, hts, ⟨hK, hNq⟩, hnm⟩ := id G
  subst hi
  refine va_iald (n := n) (f := g) hx hb hK (fv_R1 hR hf) 0 0 rfl rfl (vp_in_nI hj hn) hd ?_
  rw [nI_clamp (by omega)]
  exact kk p l e s m args below meth c D dA N A G H locs ls hR hS hO hl
theorem fx_zald {a n : Nat} {g : Nat → Int32} {i : Int32} (j : Nat) (hd : decode y.2.1 pc = .ok (.baload, 1)) (hf : f a = some (.inl (2, n, .inl g))) (hi : i = nI j) (hj : j < n) (hn : n < 2 ^ 31) (kk : fv_At y d mc ms Q (pc + 1) lv (.int (g j) :: st) f al k t) : fv_At y d mc ms Q pc lv (.int i :: .ref a :: st) f al k t := by
  intro p l e s m args below meth c D dA N A G H locs ls hR hS hO hl
  obtain ⟨hx, hb, hr, hlk, hml, hown, hts, ⟨hK, hNq⟩, hnm⟩ := id G
  subst hi
  refine va_zald (n := n) (f := g) hx hb hK (fv_R1 hR hf) 0 2 rfl rfl (vp_in_nI hj hn) hd ?_
  rw [nI_clamp (by omega)]
  exact kk p l e s m args below meth c D dA N A G H locs ls hR hS hO hl
theorem fx_lald {a n : Nat} {g : Nat → Int64} {i : Int32} (j : Nat) (hd : decode y.2.1 pc = .ok (.laload, 1)) (hf : f a = some (.inl (1, n, .inr (.inl g)))) (hi : i = nI j) (hj : j < n) (hn : n < 2 ^ 31) (kk : fv_At y d mc ms Q (pc + 1) lv (.long (g j) :: st) f al k t) : fv_At y d mc ms Q pc lv (.int i :: .ref a :: st) f al k t := by
  intro p l e s m args below meth c D dA N A G H locs ls hR hS hO hl
  obtain ⟨hx, hb, hr, hlk, hml, hown, hts, ⟨hK, hNq⟩, hnm⟩ := id G
  subst hi
  refine va_lald (n := n) (f := g) hx hb hK (fv_R1 hR hf) 0 1 rfl rfl (vp_in_nI hj hn) hd ?_
  rw [nI_clamp (by omega)]
  exact kk p l e s m args below meth c D dA N A G H locs ls hR hS hO hl
theorem fx_aald {a n ta : Nat} {g : Nat → Option Nat} {i : Int32} (j : Nat) (hd : decode y.2.1 pc = .ok (.aaload, 1)) (hf : f a = some (.inl (ta, n, .inr (.inr (.inr (.inr g)))))) (hta : ta = 3 ∨ ta = 4 ∨ ta = 5) (hi : i = nI j) (hj : j < n) (hn : n < 2 ^ 31) (kk : fv_At y d mc ms Q (pc + 1) lv (va_rf (g j) :: st) f al k t) : fv_At y d mc ms Q pc lv (.int i :: .ref a :: st) f al k t := by
  intro p l e s m args below meth c D dA N A G H locs ls hR hS hO hl
  obtain ⟨hx, hb, hr, hlk, hml, hown, hts, ⟨hK, hNq⟩, hnm⟩ := id G
  subst hi
  obtain ⟨ty, ht, hty⟩ : ∃ ty, (fv_tys dA)[ta]? = some (dA ta, ty) ∧ ty.isReference = true := by
    rcases hta with h | h | h <;> subst h <;> exact ⟨_, rfl, rfl⟩
  have hin := vp_in_nI hj hn
  refine W.aald (v := va_rf (fv_r N g j)) (ty := ty) hx hb (fv_R1 hR hf 0 _ rfl) ((hK.2 ta _ ht).1 n (fun j => va_rf (fv_r N g j))) hty (fun q => by cases q) (by show ¬ (_ < (0 : Int32) ∨ (arrV _ _ _).slots.size ≤ _); rw [arrV_size]; exact hin) (by show (arrV _ _ _).slots[_]? = _; rw [nI_clamp (by omega)]; exact arrV_read _ _ hj) rfl rfl hd ?_
  rw [fv_rfr]
  exact kk p l e s m args below meth c D dA N A G H locs ls hR hS hO hl
theorem fx_alen {a ta : Nat} {b : vp_A} {v : Int32} (hd : decode y.2.1 pc = .ok (.arraylength, 1)) (hf : f a = some (.inl (ta, b))) (hta : ta < 6) (hv : Int32.ofNat b.1 = v) (kk : fv_At y d mc ms Q (pc + 1) lv (.int v :: st) f al k t) : fv_At y d mc ms Q pc lv (.ref a :: st) f al k t := by
  intro p l e s m args below meth c D dA N A G H locs ls hR hS hO hl
  obtain ⟨hx, hb, hr, hlk, hml, hown, hts, ⟨hK, hNq⟩, hnm⟩ := id G
  obtain ⟨ty, ht⟩ : ∃ ty, (fv_tys dA)[ta]? = some (dA ta, ty) := by
    rcases (show ta = 0 ∨ ta = 1 ∨ ta = 2 ∨ ta = 3 ∨ ta = 4 ∨ ta = 5 by omega) with h | h | h | h | h | h <;> subst h <;> exact ⟨_, rfl⟩
  have hb1 : (fv_a N b).1 = b.1 := by
    obtain ⟨n, g | g | g | g | g⟩ := b <;> rfl
  exact va_alen hx hb hK (fv_R1 hR hf) 0 ta rfl ht (by rw [hb1]; exact hv) hd (kk p l e s m args below meth c D dA N A G H locs ls hR hS hO hl)
end FVH
end
section
/-! ===== rows that write arrays, call and return ===== -/
section FVS
variable {y : fv_Y} {d mc ms : Nat} {Q : Option Value → fv_F → Option Nat → Prop} {pc : Nat} {lv : fv_L} {st : List Value} {f : fv_F} {al : Option Nat} {k t : Nat}
theorem fx_iast {a n : Nat} {g : Nat → Int32} {i : Int32} {x : Int32} (j : Nat) (hd : decode y.2.1 pc = .ok (.iastore, 1)) (hf : f a = some (.inl (0, n, .inl g))) (hi : i = nI j) (hj : j < n) (hn : n < 2 ^ 31) (kk : fv_At y d mc ms Q (pc + 1) lv st (fv_set f a (.inl (0, n, .inl (upd g j x)))) al k t) : fv_At y d mc ms Q pc lv (.int x :: .int i :: .ref a :: st) f al k t := by
  intro p l e s m args below meth c D dA N A G H locs ls hR hS hO hl
  obtain ⟨hx, hb, hr, hlk, hml, hown, hts, ⟨hK, hNq⟩, hnm⟩ := id G
  subst hi
  have hin := vp_in_nI hj hn
  obtain ⟨hA, h1⟩ := hR a _ hf
  refine W.iast hx hb h1 ((hK.2 0 _ rfl).1 n (fun j => .int (g j))) (fun q => by cases q) (by show ¬ (_ < (0 : Int32) ∨ (arrV _ _ _).slots.size ≤ _); rw [arrV_size]; exact hin) rfl rfl hd fun H1 e1 e2 e3 => ?_
  refine kk p l e s m args below meth c D dA N A G H1 _ ls (fv_Rset hR hf ?_ e3) (hS.put e2 e3 hA) (fv_Oset hO e2) hl
  rw [nI_clamp (by omega)] at e1
  show H1[N + a]? = some (vp_cell _ _)
  rw [e1]
  congr 1
  refine (arrV_store _ _ _ _ _).trans ?_
  show arrV (dA 0) n (updV (fun j => .int (g j)) j (.int x)) = arrV (dA 0) n (fun q => .int (upd g j x q))
  congr 1
  funext q
  by_cases hq : q = j
  · subst hq
    simp [updV, upd]
    try rfl
  · simp [updV, upd, hq]
theorem fx_zast {a n : Nat} {g : Nat → Int32} {i : Int32} {x : Int32} (j : Nat) (hd : decode y.2.1 pc = .ok (.bastore, 1)) (hf : f a = some (.inl (2, n, .inl g))) (hi : i = nI j) (hj : j < n) (hn : n < 2 ^ 31) (kk : fv_At y d mc ms Q (pc + 1) lv st (fv_set f a (.inl (2, n, .inl (upd g j (vp_nar .boolean x))))) al k t) : fv_At y d mc ms Q pc lv (.int x :: .int i :: .ref a :: st) f al k t := by
  intro p l e s m args below meth c D dA N A G H locs ls hR hS hO hl
  obtain ⟨hx, hb, hr, hlk, hml, hown, hts, ⟨hK, hNq⟩, hnm⟩ := id G
  subst hi
  have hin := vp_in_nI hj hn
  obtain ⟨hA, h1⟩ := hR a _ hf
  refine W.zast hx hb h1 ((hK.2 2 _ rfl).1 n (fun j => .int (g j))) (fun q => by cases q) (by show ¬ (_ < (0 : Int32) ∨ (arrV _ _ _).slots.size ≤ _); rw [arrV_size]; exact hin) rfl rfl hd fun H1 e1 e2 e3 => ?_
  refine kk p l e s m args below meth c D dA N A G H1 _ ls (fv_Rset hR hf ?_ e3) (hS.put e2 e3 hA) (fv_Oset hO e2) hl
  rw [nI_clamp (by omega)] at e1
  show H1[N + a]? = some (vp_cell _ _)
  rw [e1]
  congr 1
  refine (arrV_store _ _ _ _ _).trans ?_
  show arrV (dA 2) n (updV (fun j => .int (g j)) j (narrow .boolean (.int x))) = arrV (dA 2) n (fun q => .int (upd g j (vp_nar .boolean x) q))
  congr 1
  funext q
  by_cases hq : q = j
  · subst hq
    simp [updV, upd, vp_nar]
    try rfl
  · simp [updV, upd, hq]
theorem fx_last {a n : Nat} {g : Nat → Int64} {i : Int32} {x : Int64} (j : Nat) (hd : decode y.2.1 pc = .ok (.lastore, 1)) (hf : f a = some (.inl (1, n, .inr (.inl g)))) (hi : i = nI j) (hj : j < n) (hn : n < 2 ^ 31) (kk : fv_At y d mc ms Q (pc + 1) lv st (fv_set f a (.inl (1, n, .inr (.inl (vp_updL g j x))))) al k t) : fv_At y d mc ms Q pc lv (.long x :: .int i :: .ref a :: st) f al k t := by
  intro p l e s m args below meth c D dA N A G H locs ls hR hS hO hl
  obtain ⟨hx, hb, hr, hlk, hml, hown, hts, ⟨hK, hNq⟩, hnm⟩ := id G
  subst hi
  have hin := vp_in_nI hj hn
  obtain ⟨hA, h1⟩ := hR a _ hf
  refine W.last hx hb h1 ((hK.2 1 _ rfl).1 n (fun j => .long (g j))) (fun q => by cases q) (by show ¬ (_ < (0 : Int32) ∨ (arrV _ _ _).slots.size ≤ _); rw [arrV_size]; exact hin) rfl rfl hd fun H1 e1 e2 e3 => ?_
  refine kk p l e s m args below meth c D dA N A G H1 _ ls (fv_Rset hR hf ?_ e3) (hS.put e2 e3 hA) (fv_Oset hO e2) hl
  rw [nI_clamp (by omega)] at e1
  show H1[N + a]? = some (vp_cell _ _)
  rw [e1]
  congr 1
  refine (arrV_store _ _ _ _ _).trans ?_
  show arrV (dA 1) n (updV (fun j => .long (g j)) j (.long x)) = arrV (dA 1) n (fun q => .long (vp_updL g j x q))
  congr 1
  funext q
  by_cases hq : q = j
  · subst hq
    simp [updV, vp_updL]
    try rfl
  · simp [updV, vp_updL, hq]
/-- the end of a method: its answer, its cells -/
theorem fv_done {p : Program} {l : Launch} {e : Env} {s : State} {m : MethodId} {args : Array Value} {meth : Method} {c : Code} {D : va_G} {dA : Nat → ClassId} {N : Nat} {A : Nat → Prop} {H : Heap} {locs : List Loc} {r : Option Value} (hR : fv_R D dA N A f H) (hS : va_S A s.heap H locs) (hO : fv_O N A al H) (hq : Q r f al) : ∀ t : State, t.heap = H → s.WarmedH t.vm → fv_Qc D dA N A Q args s (.returned (r.map (fv_v N))) t := by
  intro t ht _
  refine ⟨r, f, al, rfl, hq, by rw [ht]; exact hR, ?_, ?_⟩
  · rw [ht]; exact hO
  · exact ⟨by rw [ht]; exact hS.1, fun q h1 h2 => by rw [ht]; exact hS.2.1 q h1 h2⟩
theorem fx_iret {x : Int32} (hd : decode y.2.1 pc = .ok (.ireturn, 1)) (hr : y.2.2.2 = some .int) (hk : k = mc) (ht : t = ms) (hq : Q (some (.int x)) f al) : fv_At y d mc ms Q pc lv [.int x] f al k t := by
  intro p l e s m args below meth c D dA N A G H locs ls hR hS hO hl
  obtain ⟨hx, hb, hret, hlk, hml, hown, hts, ⟨hK, hNq⟩, hnm⟩ := id G
  subst hk; subst ht
  exact W.zret hx hb (hret.trans hr) rfl (fv_done (p := p) (l := l) (e := e) (m := m) (meth := meth) (c := c) hR hS hO hq) hS.2.2 hd hlk
theorem fx_zret {x : Int32} (hd : decode y.2.1 pc = .ok (.ireturn, 1)) (hr : y.2.2.2 = some .boolean) (hx01 : x = 0 ∨ x = 1) (hk : k = mc) (ht : t = ms) (hq : Q (some (.int x)) f al) : fv_At y d mc ms Q pc lv [.int x] f al k t := by
  intro p l e s m args below meth c D dA N A G H locs ls hR hS hO hl
  obtain ⟨hx, hb, hret, hlk, hml, hown, hts, ⟨hK, hNq⟩, hnm⟩ := id G
  subst hk; subst ht
  exact W.zret hx hb (hret.trans hr) (by rcases hx01 with h | h <;> subst h <;> rfl) (fv_done (p := p) (l := l) (e := e) (m := m) (meth := meth) (c := c) hR hS hO hq) hS.2.2 hd hlk
theorem fx_lret {x : Int64} (hd : decode y.2.1 pc = .ok (.lreturn, 1)) (hr : y.2.2.2 = some .long) (hk : k = mc) (ht : t = ms) (hq : Q (some (.long x)) f al) : fv_At y d mc ms Q pc lv [.long x] f al k t := by
  intro p l e s m args below meth c D dA N A G H locs ls hR hS hO hl
  obtain ⟨hx, hb, hret, hlk, hml, hown, hts, ⟨hK, hNq⟩, hnm⟩ := id G
  subst hk; subst ht
  exact W.lret hx hb (hret.trans hr) (fv_done (p := p) (l := l) (e := e) (m := m) (meth := meth) (c := c) hR hS hO hq) hS.2.2 hd hlk
theorem fx_aret {a : Nat} {C : String} (hd : decode y.2.1 pc = .ok (.areturn, 1)) (hr : y.2.2.2 = some (.object C)) (hk : k = mc) (ht : t = ms) (hq : Q (some (.ref a)) f al) : fv_At y d mc ms Q pc lv [.ref a] f al k t := by
  intro p l e s m args below meth c D dA N A G H locs ls hR hS hO hl
  obtain ⟨hx, hb, hret, hlk, hml, hown, hts, ⟨hK, hNq⟩, hnm⟩ := id G
  subst hk; subst ht
  exact W.aret hx hb (hret.trans hr) (Or.inl ⟨C, rfl⟩) (Or.inr ⟨_, rfl⟩) (fv_done (p := p) (l := l) (e := e) (m := m) (meth := meth) (c := c) (r := some (.ref a)) hR hS hO hq) hS.2.2 hd hlk
theorem fx_vret (hd : decode y.2.1 pc = .ok (.return_, 1)) (hr : y.2.2.2 = none) (hk : k = mc) (ht : t = ms) (hq : Q none f al) : fv_At y d mc ms Q pc lv [] f al k t := by
  intro p l e s m args below meth c D dA N A G H locs ls hR hS hO hl
  obtain ⟨hx, hb, hret, hlk, hml, hown, hts, ⟨hK, hNq⟩, hnm⟩ := id G
  subst hk; subst ht
  exact W.vret hx hb (hret.trans hr) (fv_done (p := p) (l := l) (e := e) (m := m) (meth := meth) (c := c) (r := none) hR hS hO hq) hS.2.2 hd hlk
/-- a method as a class's pool names it: its entry, its words -/
def fv_mt (own : String) (idx : Nat) (y2 : fv_Y) (n : Nat) : Prop := Cond.methodLink own idx y2.1 ∈ fv_tbl ∧ Cond.initialized y2.1.cls ∈ fv_tbl ∧ Cond.code y2.1 y2.2.1 y2.2.2.1 y2.2.2.2 ∈ fv_tbl ∧ (y2.1.cls ≠ "java/lang/invoke/MethodHandle" ∧ y2.1.cls ≠ "java/lang/invoke/VarHandle" ∧ (parseMethodDescriptor y2.1.desc).map (fun d => d.parameters.length) = some n) ∧ y2.2.2.1 ≤ 40
def fv_mS (own : String) (idx : Nat) (y2 : fv_Y) (n : Nat) : Prop := fv_mt own idx y2 n ∧ Cond.static y2.1 ∈ fv_tbl
def fv_mV (own : String) (idx : Nat) (y2 : fv_Y) (n : Nat) : Prop := fv_mt own idx y2 n ∧ Cond.instanceMethod y2.1 ∈ fv_tbl ∧ Cond.selects y2.1.cls y2.1 y2.1 ∈ fv_tbl
def fv_mI (own : String) (idx : Nat) (y2 : fv_Y) (n : Nat) : Prop := fv_mt own idx y2 n ∧ Cond.instanceMethod y2.1 ∈ fv_tbl ∧ y2.1.name = "<init>" ∧ y2.2.2.2 = none
theorem fv_wsG {y2 : fv_Y} (h : Cond.code y2.1 y2.2.1 y2.2.2.1 y2.2.2.2 ∈ fv_tbl) : GoodIn fv_tbl (fv_ws y2) := by
  intro w hw
  rcases List.mem_cons.mp hw with rfl | hw
  · exact ⟨h, good_of_word (fv_good _ h)⟩
  · exact ⟨hw, good_of_word (fv_good _ hw)⟩
theorem fv_blind {D : va_G} {dA : Nat → ClassId} {N : Nat} {A : Nat → Prop} {as : List Value} : FrameBlind (fv_Pc D dA N A as f al) := by
  intro a U g mk q
  obtain ⟨q1, q2, q3, q4⟩ := q
  exact ⟨q1, q2, ⟨va_K.moved (u := U) (U := U.calling g mk a) (Vm.Alike.refl U.vm) q3.1, fun z h => va_Nw.same rfl rfl (q3.2 z h)⟩, q4⟩
theorem fv_catS (N : Nat) (vs : List Value) : ((vs.map (fv_v N)).map fun v => v.category).sum = (vs.map fun v => v.category).sum := by
  rw [List.map_map]
  congr 1
  apply List.map_congr_left
  intro v _
  exact fv_cat N v
/-- behind a call -/
theorem fv_behind {p : Program} {l : Launch} {e : Env} {s : State} {m : MethodId} {args : Array Value} {below : List Frame} {meth : Method} {c : Code} {D : va_G} {dA : Nat → ClassId} {N : Nat} {A : Nat → Prop} {H : Heap} {locs : List Loc} {ls : Array Slot} {a : Array Value} {Q2 : Option Value → fv_F → Option Nat → Prop} {mc2 ms2 : Nat} {rest : List Value}
    (G : fv_G y p s m args meth c D dA) (hr : va_Run p l e (fv_rm d mc ms) s m args below meth c H locs k t mc2 ms2 (F0 m pc ls st) (rest.map (fv_v N)) (fv_Qc D dA N A Q2 a) A) (hS : va_S A s.heap H locs) (hl : lv_has ls y.2.2.1 (lv.map (fv_cN N)))
    (kk : ∀ (r : Option Value) (f2 : fv_F) (al2 : Option Nat), Q2 r f2 al2 → fv_At y d mc ms Q (pc + 3) lv (r.toList ++ rest) f2 al2 (k + mc2) (t + ms2)) :
    W p l e (fv_rm d mc ms) s m args below meth c H locs k t (MQ below (fv_Qc D dA N A Q) args s mc ms A) (F0 m pc ls st) := by
  intro T hT X
  obtain ⟨v, st₀, t', T', L, h0, X', hL, e1, e2, ⟨r, f2, al2, hv, hq, hR2, hO2, hz, hk⟩, stp⟩ := hr T hT X
  cases hv
  rw [h0] at hz hk
  rw [← e1] at hR2 hO2 hz hk
  have hS2 : va_S A s.heap T'.heap (locs ++ L) := ⟨Nat.le_trans hS.1 hz, fun q h1 h2 => by rw [hk q (Nat.lt_of_lt_of_le h1 hS.1) h2]; exact hS.2.1 q h1 h2, fun q hq => by
    rcases List.mem_append.mp hq with h | h
    · exact hS.2.2 q h
    · exact hL q h⟩
  obtain ⟨t2, a1, b1⟩ := kk r f2 al2 hq p l e s m args below meth c D dA N A G T'.heap (locs ++ L) ls hR2 hS2 hO2 hl T' rfl X'
  refine ⟨t2, stp t2 ?_, b1⟩
  have e3 : (r.map (fv_v N)).toList ++ rest.map (fv_v N) = (r.toList ++ rest).map (fv_v N) := by
    cases r <;> rfl
  show Steps p.tables e below (T'.setTop { F0 m pc ls st with pc := pc + 3, stack := (r.map (fv_v N)).toList ++ rest.map (fv_v N) }) t2
  rw [e3]
  exact a1
theorem fx_callS {idx : Nat} {y2 : fv_Y} {n d2 mc2 ms2 : Nat} {as rest : List Value} {Q2 : Option Value → fv_F → Option Nat → Prop} (hd : decode y.2.1 pc = .ok (.invokestatic idx, 3)) (hp : fv_mS y.1.cls idx y2 n) (hM : fv_M y2 d2 mc2 ms2 as f al Q2) (hst : st = as.reverse ++ rest) (hn : as.length = n) (hdep : d2 < d) (hcat : (rest.map fun v => v.category).sum ≤ 8) (hmc : k + mc2 ≤ mc) (hms : t + ms2 ≤ ms)
    (kk : ∀ (r : Option Value) (f2 : fv_F) (al2 : Option Nat), Q2 r f2 al2 → fv_At y d mc ms Q (pc + 3) lv (r.toList ++ rest) f2 al2 (k + mc2) (t + ms2)) : fv_At y d mc ms Q pc lv st f al k t := by
  intro p l e s m args below meth c D dA N A G H locs ls hR hS hO hl
  obtain ⟨hx, hb, hret, hlk, hml, hown, hts, ⟨hK, hNq⟩, hnm⟩ := id G
  obtain ⟨⟨h1, h2, h3, h4, h5⟩, h6⟩ := hp
  subst hst
  have hs : (as.reverse ++ rest).map (fv_v N) = (as.map (fv_v N)).reverse ++ rest.map (fv_v N) := by rw [List.map_append, List.map_reverse]
  rw [hs]
  have cw := callB_of (R := fv_rm d mc ms) (rm := fv_rm d2 mc2 ms2) n hts (fv_wsG h3) rfl rfl rfl (hts _ h2) (hts _ h1) h4 ⟨hdep, by show 8 + (_ + 11) + 64 * d2 ≤ 64 * d; omega⟩
  exact fv_behind G (va_runS (As := as.map (fv_v N)) ⟨hx, hb, hml, hown, hts⟩ (hM l D dA N A) ⟨cw, hts _ h6⟩ ⟨fv_blind, fun U hU hW => ⟨rfl, by rw [hU]; exact hR, fv_Kw hW ⟨hK, hNq⟩, by rw [hU]; exact hO⟩⟩ rfl (by rw [List.length_map]; exact hn) hl.1 rfl (lv_room (by rw [fv_catS]; exact hcat)) hd ⟨hmc, hms⟩) hS hl kk
theorem fx_callV {idx : Nat} {y2 : fv_Y} {n d2 mc2 ms2 b ci : Nat} {C : String} {T : u_T} {nf : Nat} {ty0 : Nat → FieldType} {fs : List Value} {as rest : List Value} {Q2 : Option Value → fv_F → Option Nat → Prop} (hd : decode y.2.1 pc = .ok (.invokevirtual idx, 3)) (hp : fv_mV y.1.cls idx y2 n) (hc : fv_cls ci C T nf ty0) (hC : y2.1.cls = C) (hf : f b = some (.inr (ci, fs))) (hM : fv_M y2 d2 mc2 ms2 (.ref b :: as) f al Q2) (hst : st = as.reverse ++ .ref b :: rest) (hn : as.length = n) (hdep : d2 < d) (hcat : (rest.map fun v => v.category).sum ≤ 8) (hmc : k + mc2 ≤ mc) (hms : t + ms2 ≤ ms)
    (kk : ∀ (r : Option Value) (f2 : fv_F) (al2 : Option Nat), Q2 r f2 al2 → fv_At y d mc ms Q (pc + 3) lv (r.toList ++ rest) f2 al2 (k + mc2) (t + ms2)) : fv_At y d mc ms Q pc lv st f al k t := by
  intro p l e s m args below meth c D dA N A G H locs ls hR hS hO hl
  obtain ⟨hx, hb, hret, hlk, hml, hown, hts, ⟨hK, hNq⟩, hnm⟩ := id G
  obtain ⟨⟨h1, h2, h3, h4, h5⟩, h6, h7⟩ := hp
  subst hst
  subst hC
  have hs : (as.reverse ++ .ref b :: rest).map (fv_v N) = (as.map (fv_v N)).reverse ++ .ref (N + b) :: rest.map (fv_v N) := by rw [List.map_append, List.map_reverse]; rfl
  rw [hs]
  have cw := callB_of (R := fv_rm d mc ms) (rm := fv_rm d2 mc2 ms2) n hts (fv_wsG h3) rfl rfl rfl (hts _ h2) (hts _ h1) h4 ⟨hdep, by show 8 + (_ + 11) + 64 * d2 ≤ 64 * d; omega⟩
  exact fv_behind G (va_runV (As := as.map (fv_v N)) (b := N + b) ⟨hx, hb, hml, hown, hts⟩ (hM l D dA N A) ⟨cw, hts _ h6, hts _ h7⟩ ⟨fv_blind, va_recv hK (fv_R1 hR hf) hc.1 (q0 := 0) rfl, fun U hU hW => ⟨rfl, by rw [hU]; exact hR, fv_Kw hW ⟨hK, hNq⟩, by rw [hU]; exact hO⟩⟩ rfl (by rw [List.length_map]; exact hn) hl.1 rfl (lv_room (by rw [fv_catS]; exact hcat)) hd ⟨hmc, hms⟩) hS hl kk
theorem fx_callI {idx : Nat} {y2 : fv_Y} {n d2 mc2 ms2 b : Nat} {as rest : List Value} {Q2 : Option Value → fv_F → Option Nat → Prop} (hd : decode y.2.1 pc = .ok (.invokespecial idx, 3)) (hp : fv_mI y.1.cls idx y2 n) (hM : fv_M y2 d2 mc2 ms2 (.ref b :: as) f al Q2) (hst : st = as.reverse ++ .ref b :: rest) (hn : as.length = n) (hdep : d2 < d) (hcat : (rest.map fun v => v.category).sum ≤ 8) (hmc : k + mc2 ≤ mc) (hms : t + ms2 ≤ ms)
    (kk : ∀ (r : Option Value) (f2 : fv_F) (al2 : Option Nat), Q2 r f2 al2 → fv_At y d mc ms Q (pc + 3) lv (r.toList ++ rest) f2 al2 (k + mc2) (t + ms2)) : fv_At y d mc ms Q pc lv st f al k t := by
  intro p l e s m args below meth c D dA N A G H locs ls hR hS hO hl
  obtain ⟨hx, hb, hret, hlk, hml, hown, hts, ⟨hK, hNq⟩, hnm⟩ := id G
  obtain ⟨⟨h1, h2, h3, h4, h5⟩, h6, h7, h8⟩ := hp
  subst hst
  have hs : (as.reverse ++ .ref b :: rest).map (fv_v N) = (as.map (fv_v N)).reverse ++ .ref (N + b) :: rest.map (fv_v N) := by rw [List.map_append, List.map_reverse]; rfl
  rw [hs]
  have cw := callB_of (R := fv_rm d mc ms) (rm := fv_rm d2 mc2 ms2) n hts (fv_wsG h3) rfl rfl rfl (hts _ h2) (hts _ h1) h4 ⟨hdep, by show 8 + (_ + 11) + 64 * d2 ≤ 64 * d; omega⟩
  rw [h8] at cw
  exact fv_behind G (va_runI (As := as.map (fv_v N)) (b := N + b) ⟨hx, hb, hml, hown, hts⟩ (hM l D dA N A) ⟨cw, h7, hts _ h6⟩ ⟨fv_blind, fun U hU hW => ⟨rfl, by rw [hU]; exact hR, fv_Kw hW ⟨hK, hNq⟩, by rw [hU]; exact hO⟩⟩ rfl (by rw [List.length_map]; exact hn) hl.1 rfl (lv_room (by rw [fv_catS]; exact hcat)) hd ⟨hmc, hms⟩) hS hl kk
/-- the same for private methods of nest mates -/
def fv_mtN (own : String) (idx : Nat) (y2 : fv_Y) (n : Nat) : Prop := (own, idx, y2.1) ∈ fv_nq ∧ Cond.initialized y2.1.cls ∈ fv_tbl ∧ Cond.code y2.1 y2.2.1 y2.2.2.1 y2.2.2.2 ∈ fv_tbl ∧ (y2.1.cls ≠ "java/lang/invoke/MethodHandle" ∧ y2.1.cls ≠ "java/lang/invoke/VarHandle" ∧ (parseMethodDescriptor y2.1.desc).map (fun d => d.parameters.length) = some n) ∧ y2.2.2.1 ≤ 40
def fv_mSN (own : String) (idx : Nat) (y2 : fv_Y) (n : Nat) : Prop := fv_mtN own idx y2 n ∧ Cond.static y2.1 ∈ fv_tbl
def fv_mIN (own : String) (idx : Nat) (y2 : fv_Y) (n : Nat) : Prop := fv_mtN own idx y2 n ∧ Cond.instanceMethod y2.1 ∈ fv_tbl ∧ y2.1.name = "<init>" ∧ y2.2.2.2 = none
theorem fv_CN {s : State} {args : Array Value} {own : String} {idx : Nat} {y2 : fv_Y} {n d2 mc2 ms2 : Nat} (hts : ∀ w ∈ fv_tbl, w.before args s = true) (hNq : ∀ q ∈ fv_nq, va_Nw (.methodLinkNest q.1 q.2.1 q.2.2 "MeetHouse") s) (h : fv_mtN own idx y2 n) (hdep : d2 < d) : va_CN (fv_rm d mc ms) s args own idx y2.1 "MeetHouse" y2.2.1 y2.2.2.1 y2.2.2.2 (fv_ws y2) (fv_rm d2 mc2 ms2) mc2 ms2 n := by
  obtain ⟨h1, h2, h3, h4, h5⟩ := h
  refine ⟨⟨rfl, rfl, hdep, ?_, pay_in hts (fv_wsG h3), List.mem_cons_self⟩, hts _ h3, hts _ h2, ⟨h4.1, h4.2.1⟩, fun sig hs => ?_, va_Nw.use rfl (hNq _ h1)⟩
  · show 8 + (_ + 11) + 64 * d2 ≤ 64 * d
    omega
  · have h2 := h4.2.2
    rw [hs] at h2
    exact (Option.some.inj h2).symm
theorem fx_callSN {idx : Nat} {y2 : fv_Y} {n d2 mc2 ms2 : Nat} {as rest : List Value} {Q2 : Option Value → fv_F → Option Nat → Prop} (hd : decode y.2.1 pc = .ok (.invokestatic idx, 3)) (hp : fv_mSN y.1.cls idx y2 n) (hM : fv_M y2 d2 mc2 ms2 as f al Q2) (hst : st = as.reverse ++ rest) (hn : as.length = n) (hdep : d2 < d) (hcat : (rest.map fun v => v.category).sum ≤ 8) (hmc : k + mc2 ≤ mc) (hms : t + ms2 ≤ ms)
    (kk : ∀ (r : Option Value) (f2 : fv_F) (al2 : Option Nat), Q2 r f2 al2 → fv_At y d mc ms Q (pc + 3) lv (r.toList ++ rest) f2 al2 (k + mc2) (t + ms2)) : fv_At y d mc ms Q pc lv st f al k t := by
  intro p l e s m args below meth c D dA N A G H locs ls hR hS hO hl
  obtain ⟨hx, hb, hret, hlk, hml, hown, hts, ⟨hK, hNq⟩, hnm⟩ := id G
  subst hst
  have hs : (as.reverse ++ rest).map (fv_v N) = (as.map (fv_v N)).reverse ++ rest.map (fv_v N) := by rw [List.map_append, List.map_reverse]
  rw [hs]
  exact fv_behind G (va_runSN (As := as.map (fv_v N)) ⟨hx, hb, hml, hown, hts⟩ (hM l D dA N A) ⟨fv_CN hts hNq hp.1 hdep, hts _ hp.2, trivial⟩ ⟨fv_blind, fun U hU hW => ⟨rfl, by rw [hU]; exact hR, fv_Kw hW ⟨hK, hNq⟩, by rw [hU]; exact hO⟩⟩ rfl (by rw [List.length_map]; exact hn) hl.1 rfl (lv_room (by rw [fv_catS]; exact hcat)) hd ⟨hmc, hms⟩) hS hl kk
theorem fx_callIN {idx : Nat} {y2 : fv_Y} {n d2 mc2 ms2 b : Nat} {as rest : List Value} {Q2 : Option Value → fv_F → Option Nat → Prop} (hd : decode y.2.1 pc = .ok (.invokespecial idx, 3)) (hp : fv_mIN y.1.cls idx y2 n) (hM : fv_M y2 d2 mc2 ms2 (.ref b :: as) f al Q2) (hst : st = as.reverse ++ .ref b :: rest) (hn : as.length = n) (hdep : d2 < d) (hcat : (rest.map fun v => v.category).sum ≤ 8) (hmc : k + mc2 ≤ mc) (hms : t + ms2 ≤ ms)
    (kk : ∀ (r : Option Value) (f2 : fv_F) (al2 : Option Nat), Q2 r f2 al2 → fv_At y d mc ms Q (pc + 3) lv (r.toList ++ rest) f2 al2 (k + mc2) (t + ms2)) : fv_At y d mc ms Q pc lv st f al k t := by
  intro p l e s m args below meth c D dA N A G H locs ls hR hS hO hl
  obtain ⟨hx, hb, hret, hlk, hml, hown, hts, ⟨hK, hNq⟩, hnm⟩ := id G
  obtain ⟨h1, h6, h7, h8⟩ := hp
  subst hst
  have hs : (as.reverse ++ .ref b :: rest).map (fv_v N) = (as.map (fv_v N)).reverse ++ .ref (N + b) :: rest.map (fv_v N) := by rw [List.map_append, List.map_reverse]; rfl
  rw [hs]
  have cw := fv_CN (mc := mc) (ms := ms) (mc2 := mc2) (ms2 := ms2) hts hNq h1 hdep
  rw [h8] at cw
  exact fv_behind G (va_runIN (As := as.map (fv_v N)) (b := N + b) ⟨hx, hb, hml, hown, hts⟩ (hM l D dA N A) ⟨cw, h7, hts _ h6⟩ ⟨fv_blind, fun U hU hW => ⟨rfl, by rw [hU]; exact hR, fv_Kw hW ⟨hK, hNq⟩, by rw [hU]; exact hO⟩⟩ rfl (by rw [List.length_map]; exact hn) hl.1 rfl (lv_room (by rw [fv_catS]; exact hcat)) hd ⟨hmc, hms⟩) hS hl kk
theorem fv_slen (vs : List Value) : (lg_sl vs).length = (vs.map fun v => v.category).sum := by
  induction vs with
  | nil => rfl
  | cons v r ih =>
    have h : lg_sl (v :: r) = (if v.category = 2 then [Slot.val v, .second] else [.val v]) ++ lg_sl r := rfl
    rw [h, List.length_append, ih, List.map_cons, List.sum_cons]
    rcases lv_cat v with e | e <;> rw [e] <;> rfl
theorem fv_argsN (N : Nat) (vs : List Value) : ∀ i, lv_args i (vs.map (fv_v N)) = (lv_args i vs).map (fv_cN N) := by
  induction vs with
  | nil => intro i; rfl
  | cons v r ih =>
    intro i
    simp only [List.map_cons, lv_args, fv_cat, ih, fv_cN]
theorem fv_enter {as : List Value} (hy : plainName y.1.cls = true) (hl : (as.map fun v => v.category).sum ≤ y.2.2.1) (kk : fv_At y d mc ms Q 0 (lv_args 0 as) [] f al 0 0) : fv_M y d mc ms as f al Q := by
  intro l D dA N A
  refine Met.ofW (cc := y.2.1) (maxL := y.2.2.1) (ret := y.2.2.2) hy rfl ?_
  intro p e s m args below meth c s₁ B hml hv
  obtain ⟨rfl, hR, hK, hO⟩ := hv
  have hts := atoms_spec (ws := fv_ws y) B.pre
  have hown : s.vm.findClass y.1.cls = some m.cls := findClass_of_methodNamed B.named
  rw [lg_entry_eq]
  have hl2 := lv_entry (as.map (fv_v N)) (n := y.2.2.1) (by rw [fv_slen, fv_catS]; exact hl)
  rw [fv_argsN] at hl2
  exact kk p l e s m _ below meth c D dA N A ⟨B.exec, B.bytes, B.returns, B.notSynchronized, hml, hown, fun w hw => hts w (List.mem_cons_of_mem _ hw), hK, (name_of_methodNamed B.named B.method).1⟩ s.heap [] _ hR va_S.rf hO hl2
/-- a call that answers one thing and makes no cell -/
def fv_eq (r : Option Value) (f : fv_F) : Option Value → fv_F → Option Nat → Prop := fun r2 f2 al2 => r2 = r ∧ f2 = f ∧ al2 = none
end FVS
end
section
/-! ===== methods, and what the pools name ===== -/
theorem fv_at {w : Cond} (i : Nat) (h : lw_tbl[i]? = some w) (g : goodWord w = true) : w ∈ fv_tbl := fv_in (List.mem_of_getElem? h) g
abbrev Y0_init : fv_Y := (yX0_init, cX0_init, 1, none)
abbrev Y0_join : fv_Y := (yX0_join, cX0_join, 5, (some .int))
abbrev Y0_combine : fv_Y := (yX0_combine, cX0_combine, 5, (some .int))
abbrev Y0_multiply : fv_Y := (yX0_multiply, cX0_multiply, 8, (some .int))
abbrev Y0_isTooHigh : fv_Y := (yX0_isTooHigh, cX0_isTooHigh, 3, (some .boolean))
abbrev Y0_swapLetters : fv_Y := (yX0_swapLetters, cX0_swapLetters, 5, (some .int))
abbrev Y0_differ : fv_Y := (yX0_differ, cX0_differ, 5, (some .int))
abbrev Y0_pourDifference : fv_Y := (yX0_pourDifference, cX0_pourDifference, 12, none)
abbrev Y0_compose : fv_Y := (yX0_compose, cX0_compose, 9, (some .int))
abbrev Y0_staircase : fv_Y := (yX0_staircase, cX0_staircase, 3, (some .int))
abbrev Y0_partOf : fv_Y := (yX0_partOf, cX0_partOf, 4, (some .long))
abbrev Y0_partOfProduct : fv_Y := (yX0_partOfProduct, cX0_partOfProduct, 5, (some .long))
abbrev Y0_partOfLeft : fv_Y := (yX0_partOfLeft, cX0_partOfLeft, 7, (some .long))
abbrev Y1_isShape : fv_Y := (yX1_isShape, cX1_isShape, 2, (some .boolean))
abbrev Y1_isBox : fv_Y := (yX1_isBox, cX1_isBox, 6, (some .boolean))
abbrev Y1_figure : fv_Y := (yX1_figure, cX1_figure, 3, (some .int))
abbrev Y1_places : fv_Y := (yX1_places, cX1_places, 4, (some .int))
abbrev Y1_stripAt : fv_Y := (yX1_stripAt, cX1_stripAt, 12, (some .int))
abbrev Y1_room : fv_Y := (yX1_room, cX1_room, 4, (some .int))
abbrev Y1_strips : fv_Y := (yX1_strips, cX1_strips, 8, (some .int))
abbrev Y1_toOrder : fv_Y := (yX1_toOrder, cX1_toOrder, 7, (some .int))
abbrev Y1_gather : fv_Y := (yX1_gather, cX1_gather, 7, (some .int))
abbrev Y2_init : fv_Y := (yX2_init, cX2_init, 1, none)
abbrev Y2_filler : fv_Y := (yX2_filler, cX2_filler, 1, (some (.object "MeetHouse$Filler")))
abbrev Y2_rows : fv_Y := (yX2_rows, cX2_rows, 1, (some .int))
abbrev Y2_columns : fv_Y := (yX2_columns, cX2_columns, 1, (some .int))
abbrev Y2_size : fv_Y := (yX2_size, cX2_size, 1, (some .int))
abbrev Y2_restart : fv_Y := (yX2_restart, cX2_restart, 4, (some .int))
abbrev Y2_append : fv_Y := (yX2_append, cX2_append, 2, (some .int))
abbrev Y2_total : fv_Y := (yX2_total, cX2_total, 3, (some .long))
abbrev Y2_putOn : fv_Y := (yX2_putOn, cX2_putOn, 5, none)
abbrev Y2_digestOn : fv_Y := (yX2_digestOn, cX2_digestOn, 6, (some .long))
abbrev Y3_at : fv_Y := (yX3_at, cX3_at, 4, (some .int))
abbrev Y3_power : fv_Y := (yX3_power, cX3_power, 4, (some .int))
abbrev Y4_init : fv_Y := (yX4_init, cX4_init, 1, none)
abbrev Y4_howMany : fv_Y := (yX4_howMany, cX4_howMany, 6, (some .int))
abbrev Y4_fill : fv_Y := (yX4_fill, cX4_fill, 9, (some .int))
abbrev Y5_init : fv_Y := (yX5_init, cX5_init, 1, none)
abbrev Y5_isThere : fv_Y := (yX5_isThere, cX5_isThere, 1, (some .boolean))
abbrev Y5_vanish : fv_Y := (yX5_vanish, cX5_vanish, 1, none)
abbrev Y5_span : fv_Y := (yX5_span, cX5_span, 7, (some .boolean))
abbrev Y5_normalize : fv_Y := (yX5_normalize, cX5_normalize, 5, (some .boolean))
abbrev Y5_copy : fv_Y := (yX5_copy, cX5_copy, 3, none)
abbrev Y5_isLike : fv_Y := (yX5_isLike, cX5_isLike, 3, (some .boolean))
abbrev Y5_crosses : fv_Y := (yX5_crosses, cX5_crosses, 6, (some .boolean))
abbrev Y5_holds : fv_Y := (yX5_holds, cX5_holds, 8, (some .boolean))
abbrev Y5_pair : fv_Y := (yX5_pair, cX5_pair, 4, (some .int))
abbrev Y5_rest : fv_Y := (yX5_rest, cX5_rest, 2, (some .int))
abbrev Y6_figures : fv_Y := (yX6_figures, cX6_figures, 4, (some .int))
abbrev Y6_figure : fv_Y := (yX6_figure, cX6_figure, 3, (some .int))
abbrev Y6_falls : fv_Y := (yX6_falls, cX6_falls, 5, (some .int))
abbrev Y6_swapped : fv_Y := (yX6_swapped, cX6_swapped, 5, (some .int))
abbrev Y6_inverted : fv_Y := (yX6_inverted, cX6_inverted, 4, (some .int))
abbrev Y6_firstStep : fv_Y := (yX6_firstStep, cX6_firstStep, 4, (some .int))
abbrev Y6_ofLength : fv_Y := (yX6_ofLength, cX6_ofLength, 4, (some .int))
abbrev Y6_risen : fv_Y := (yX6_risen, cX6_risen, 6, (some .int))
abbrev Y6_leastRisen : fv_Y := (yX6_leastRisen, cX6_leastRisen, 9, (some .int))
abbrev Y7_init : fv_Y := (yX7_init, cX7_init, 1, none)
abbrev Y7_size : fv_Y := (yX7_size, cX7_size, 1, (some .int))
abbrev Y7_isThere : fv_Y := (yX7_isThere, cX7_isThere, 1, (some .boolean))
abbrev Y7_vanish : fv_Y := (yX7_vanish, cX7_vanish, 1, none)
abbrev Y7_clear : fv_Y := (yX7_clear, cX7_clear, 1, none)
abbrev Y7_append : fv_Y := (yX7_append, cX7_append, 3, none)
abbrev Y7_exponentsAt : fv_Y := (yX7_exponentsAt, cX7_exponentsAt, 2, (some .int))
abbrev Y7_numberAt : fv_Y := (yX7_numberAt, cX7_numberAt, 2, (some .int))
abbrev Y7_numberOf : fv_Y := (yX7_numberOf, cX7_numberOf, 3, (some .int))
abbrev Y7_exponentAt : fv_Y := (yX7_exponentAt, cX7_exponentAt, 3, (some .int))
abbrev Y7_topExponent : fv_Y := (yX7_topExponent, cX7_topExponent, 4, (some .int))
abbrev Y7_isLike : fv_Y := (yX7_isLike, cX7_isLike, 3, (some .boolean))
abbrev Y7_copy : fv_Y := (yX7_copy, cX7_copy, 3, none)
abbrev Y7_digestOn : fv_Y := (yX7_digestOn, cX7_digestOn, 6, (some .long))
abbrev Y8_init : fv_Y := (yX8_init, cX8_init, 1, none)
abbrev Y8_pour : fv_Y := (yX8_pour, cX8_pour, 4, none)
abbrev Y8_pourAll : fv_Y := (yX8_pourAll, cX8_pourAll, 5, none)
abbrev Y8_settle : fv_Y := (yX8_settle, cX8_settle, 3, (some .int))
abbrev Y8_takeOut : fv_Y := (yX8_takeOut, cX8_takeOut, 4, none)
abbrev Y9_init : fv_Y := (yX9_init, cX9_init, 2, none)
abbrev Y9_isRod : fv_Y := (yX9_isRod, cX9_isRod, 1, (some .boolean))
abbrev Y9_areBits : fv_Y := (yX9_areBits, cX9_areBits, 1, (some .boolean))
abbrev Y9_figure : fv_Y := (yX9_figure, cX9_figure, 2, (some .int))
abbrev Y9_order : fv_Y := (yX9_order, cX9_order, 1, (some .int))
abbrev Y9_isPoint : fv_Y := (yX9_isPoint, cX9_isPoint, 3, (some .boolean))
abbrev Y9_change : fv_Y := (yX9_change, cX9_change, 4, (some .int))
abbrev Y9_lay : fv_Y := (yX9_lay, cX9_lay, 4, (some .boolean))
abbrev Y9_remove : fv_Y := (yX9_remove, cX9_remove, 2, (some .boolean))
abbrev Y9_howMet : fv_Y := (yX9_howMet, cX9_howMet, 3, (some .int))
abbrev Y9_rodsThere : fv_Y := (yX9_rodsThere, cX9_rodsThere, 3, (some .int))
abbrev Y9_areThere : fv_Y := (yX9_areThere, cX9_areThere, 3, (some .boolean))
abbrev Y9_isTold : fv_Y := (yX9_isTold, cX9_isTold, 2, (some .boolean))
abbrev Y9_linesMeeting : fv_Y := (yX9_linesMeeting, cX9_linesMeeting, 5, (some .int))
abbrev Y9_linesFrom : fv_Y := (yX9_linesFrom, cX9_linesFrom, 9, (some .int))
abbrev Y9_crossesAll : fv_Y := (yX9_crossesAll, cX9_crossesAll, 3, (some .boolean))
abbrev Y9_pointsOn : fv_Y := (yX9_pointsOn, cX9_pointsOn, 6, (some .int))
abbrev Y9_isOnOne : fv_Y := (yX9_isOnOne, cX9_isOnOne, 4, (some .boolean))
abbrev Y9_pointFrom : fv_Y := (yX9_pointFrom, cX9_pointFrom, 8, (some .int))
abbrev Y10_init : fv_Y := (yX10_init, cX10_init, 2, none)
abbrev Y10_length : fv_Y := (yX10_length, cX10_length, 3, (some .int))
abbrev Y10_exchange : fv_Y := (yX10_exchange, cX10_exchange, 4, (some .int))
abbrev Y10_inverse : fv_Y := (yX10_inverse, cX10_inverse, 3, (some .int))
abbrev Y10_orders : fv_Y := (yX10_orders, cX10_orders, 3, (some .int))
abbrev Y10_step : fv_Y := (yX10_step, cX10_step, 5, (some .int))
abbrev Y10_blank : fv_Y := (yX10_blank, cX10_blank, 2, (some .int))
abbrev Y10_lose : fv_Y := (yX10_lose, cX10_lose, 3, (some .int))
abbrev Y10_add : fv_Y := (yX10_add, cX10_add, 5, (some .int))
abbrev Y10_terms : fv_Y := (yX10_terms, cX10_terms, 2, (some .int))
abbrev Y10_exponents : fv_Y := (yX10_exponents, cX10_exponents, 3, (some .int))
abbrev Y10_number : fv_Y := (yX10_number, cX10_number, 3, (some .long))
abbrev Y10_sum : fv_Y := (yX10_sum, cX10_sum, 5, (some .int))
abbrev Y10_product : fv_Y := (yX10_product, cX10_product, 4, (some .int))
abbrev Y10_turned : fv_Y := (yX10_turned, cX10_turned, 4, (some .int))
abbrev Y10_difference : fv_Y := (yX10_difference, cX10_difference, 4, (some .int))
abbrev Y10_polynomial : fv_Y := (yX10_polynomial, cX10_polynomial, 4, (some .int))
abbrev Y10_part : fv_Y := (yX10_part, cX10_part, 4, (some .long))
abbrev Y10_constant : fv_Y := (yX10_constant, cX10_constant, 4, (some .long))
abbrev Y10_same : fv_Y := (yX10_same, cX10_same, 3, (some .int))
abbrev Y10_strip : fv_Y := (yX10_strip, cX10_strip, 6, (some .int))
abbrev Y10_fillings : fv_Y := (yX10_fillings, cX10_fillings, 6, (some .int))
abbrev Y10_orderOf : fv_Y := (yX10_orderOf, cX10_orderOf, 4, (some .int))
abbrev Y10_begin : fv_Y := (yX10_begin, cX10_begin, 3, (some .int))
abbrev Y10_condition : fv_Y := (yX10_condition, cX10_condition, 2, (some .int))
abbrev Y10_meeting : fv_Y := (yX10_meeting, cX10_meeting, 1, (some .long))
abbrev Y10_field : fv_Y := (yX10_field, cX10_field, 2, (some .int))
abbrev Y10_rod : fv_Y := (yX10_rod, cX10_rod, 4, (some .int))
abbrev Y10_drop : fv_Y := (yX10_drop, cX10_drop, 2, (some .int))
abbrev Y10_meet : fv_Y := (yX10_meet, cX10_meet, 3, (some .int))
abbrev Y10_lines : fv_Y := (yX10_lines, cX10_lines, 2, (some .int))
abbrev Y10_points : fv_Y := (yX10_points, cX10_points, 2, (some .int))
abbrev Y10_count : fv_Y := (yX10_count, cX10_count, 2, (some .int))
abbrev Y10_digest : fv_Y := (yX10_digest, cX10_digest, 4, (some .long))
abbrev Y10_isSheet : fv_Y := (yX10_isSheet, cX10_isSheet, 1, (some .boolean))
abbrev Y10_isLost : fv_Y := (yX10_isLost, cX10_isLost, 2, (some .boolean))
abbrev Y10_keptSheets : fv_Y := (yX10_keptSheets, cX10_keptSheets, 3, (some .int))
abbrev Y10_isBeyond : fv_Y := (yX10_isBeyond, cX10_isBeyond, 2, (some .boolean))
abbrev Y10_areExponents : fv_Y := (yX10_areExponents, cX10_areExponents, 2, (some .boolean))
abbrev Y10_refusal : fv_Y := (yX10_refusal, cX10_refusal, 1, (some .long))
abbrev Y11_init : fv_Y := (yX11_init, cX11_init, 1, none)
abbrev Y11_in : fv_Y := (yX11_in, cX11_in, 6, (some .boolean))
abbrev Y11_no : fv_Y := (yX11_no, cX11_no, 1, (some .long))
abbrev Y11_reads : fv_Y := (yX11_reads, cX11_reads, 5, (some .boolean))
abbrev Y11_told : fv_Y := (yX11_told, cX11_told, 3, (some .int))
abbrev Y11_lengthNow : fv_Y := (yX11_lengthNow, cX11_lengthNow, 4, (some .int))
abbrev Y11_change : fv_Y := (yX11_change, cX11_change, 4, none)
abbrev Y11_length : fv_Y := (yX11_length, cX11_length, 2, (some .int))
abbrev Y11_exchange : fv_Y := (yX11_exchange, cX11_exchange, 3, (some .int))
abbrev Y11_inverse : fv_Y := (yX11_inverse, cX11_inverse, 5, (some .int))
abbrev Y11_orders : fv_Y := (yX11_orders, cX11_orders, 6, (some .int))
abbrev Y11_step : fv_Y := (yX11_step, cX11_step, 9, (some .int))
abbrev Y11_isSheet : fv_Y := (yX11_isSheet, cX11_isSheet, 1, (some .boolean))
abbrev Y11_placeOf : fv_Y := (yX11_placeOf, cX11_placeOf, 5, (some .int))
abbrev Y11_toldOf : fv_Y := (yX11_toldOf, cX11_toldOf, 5, (some .int))
abbrev Y11_wipe : fv_Y := (yX11_wipe, cX11_wipe, 2, none)
abbrev Y11_takes : fv_Y := (yX11_takes, cX11_takes, 5, none)
abbrev Y11_tooMuch : fv_Y := (yX11_tooMuch, cX11_tooMuch, 4, (some .int))
abbrev Y11_lays : fv_Y := (yX11_lays, cX11_lays, 5, (some .int))
abbrev Y11_blank : fv_Y := (yX11_blank, cX11_blank, 2, (some .int))
abbrev Y11_lose : fv_Y := (yX11_lose, cX11_lose, 2, (some .int))
abbrev Y11_add : fv_Y := (yX11_add, cX11_add, 5, (some .int))
abbrev Y11_terms : fv_Y := (yX11_terms, cX11_terms, 2, (some .int))
abbrev Y11_exponents : fv_Y := (yX11_exponents, cX11_exponents, 3, (some .int))
abbrev Y11_number : fv_Y := (yX11_number, cX11_number, 4, (some .long))
abbrev Y11_sum : fv_Y := (yX11_sum, cX11_sum, 5, (some .int))
abbrev Y11_highest : fv_Y := (yX11_highest, cX11_highest, 7, (some .int))
abbrev Y11_product : fv_Y := (yX11_product, cX11_product, 6, (some .int))
abbrev Y11_nines : fv_Y := (yX11_nines, cX11_nines, 3, (some .int))
abbrev Y11_turned : fv_Y := (yX11_turned, cX11_turned, 10, (some .int))
abbrev Y11_differ : fv_Y := (yX11_differ, cX11_differ, 11, none)
abbrev Y11_difference : fv_Y := (yX11_difference, cX11_difference, 4, (some .int))
abbrev Y11_makes : fv_Y := (yX11_makes, cX11_makes, 7, none)
abbrev Y11_polynomial : fv_Y := (yX11_polynomial, cX11_polynomial, 3, (some .int))
abbrev Y11_parts : fv_Y := (yX11_parts, cX11_parts, 6, (some .long))
abbrev Y11_part : fv_Y := (yX11_part, cX11_part, 3, (some .long))
abbrev Y11_constant : fv_Y := (yX11_constant, cX11_constant, 6, (some .long))
abbrev Y11_same : fv_Y := (yX11_same, cX11_same, 5, (some .int))
abbrev Y11_isBox : fv_Y := (yX11_isBox, cX11_isBox, 6, (some .boolean))
abbrev Y11_areSides : fv_Y := (yX11_areSides, cX11_areSides, 2, (some .boolean))
abbrev Y11_tens : fv_Y := (yX11_tens, cX11_tens, 3, (some .int))
abbrev Y11_sizeOf : fv_Y := (yX11_sizeOf, cX11_sizeOf, 4, (some .int))
abbrev Y11_strip : fv_Y := (yX11_strip, cX11_strip, 10, (some .int))
abbrev Y11_mayStand : fv_Y := (yX11_mayStand, cX11_mayStand, 6, (some .boolean))
abbrev Y11_fills : fv_Y := (yX11_fills, cX11_fills, 6, (some .int))
abbrev Y11_fillings : fv_Y := (yX11_fillings, cX11_fillings, 7, (some .int))
abbrev Y11_orderOf : fv_Y := (yX11_orderOf, cX11_orderOf, 8, (some .int))
abbrev Y11_begin : fv_Y := (yX11_begin, cX11_begin, 4, (some .int))
abbrev Y11_condition : fv_Y := (yX11_condition, cX11_condition, 2, (some .int))
abbrev Y11_meeting : fv_Y := (yX11_meeting, cX11_meeting, 7, (some .long))
abbrev Y11_lookAtPoints : fv_Y := (yX11_lookAtPoints, cX11_lookAtPoints, 5, none)
abbrev Y11_pointOf : fv_Y := (yX11_pointOf, cX11_pointOf, 5, (some .int))
abbrev Y11_mixed : fv_Y := (yX11_mixed, cX11_mixed, 7, (some .int))
abbrev Y11_evened : fv_Y := (yX11_evened, cX11_evened, 2, (some .int))
abbrev Y11_onLine : fv_Y := (yX11_onLine, cX11_onLine, 4, (some .int))
abbrev Y11_drops : fv_Y := (yX11_drops, cX11_drops, 2, none)
abbrev Y11_field : fv_Y := (yX11_field, cX11_field, 3, (some .int))
abbrev Y11_rod : fv_Y := (yX11_rod, cX11_rod, 4, (some .int))
abbrev Y11_drop : fv_Y := (yX11_drop, cX11_drop, 2, (some .int))
abbrev Y11_marks : fv_Y := (yX11_marks, cX11_marks, 7, (some .int))
abbrev Y11_wipeMarks : fv_Y := (yX11_wipeMarks, cX11_wipeMarks, 3, none)
abbrev Y11_meet : fv_Y := (yX11_meet, cX11_meet, 7, (some .int))
abbrev Y11_areThere : fv_Y := (yX11_areThere, cX11_areThere, 4, (some .boolean))
abbrev Y11_lookAtRods : fv_Y := (yX11_lookAtRods, cX11_lookAtRods, 4, none)
abbrev Y11_areLeast : fv_Y := (yX11_areLeast, cX11_areLeast, 5, (some .boolean))
abbrev Y11_lines : fv_Y := (yX11_lines, cX11_lines, 6, (some .int))
abbrev Y11_points : fv_Y := (yX11_points, cX11_points, 4, (some .int))
abbrev Y11_count : fv_Y := (yX11_count, cX11_count, 4, (some .int))
abbrev Y11_digest : fv_Y := (yX11_digest, cX11_digest, 5, (some .long))
abbrev YJ9_floorMod : fv_Y := (yJ9_floorMod_7cf53, cJ9_floorMod_7cf53, 3, (some .int))
abbrev YJ9_max : fv_Y := (yJ9_max_7cf53, cJ9_max_7cf53, 2, (some .int))
abbrev YJ9_min : fv_Y := (yJ9_min_7cf53, cJ9_min_7cf53, 2, (some .int))
abbrev YL_law : fv_Y := (yL_law, cL_law, 4, some .boolean)
theorem kkY0_init : Cond.code Y0_init.1 Y0_init.2.1 Y0_init.2.2.1 Y0_init.2.2.2 ∈ fv_tbl := fv_at 65 (by decide +kernel) (by decide +kernel)
theorem kkY0_join : Cond.code Y0_join.1 Y0_join.2.1 Y0_join.2.2.1 Y0_join.2.2.2 ∈ fv_tbl := fv_at 325 (by decide +kernel) (by decide +kernel)
theorem kkY0_combine : Cond.code Y0_combine.1 Y0_combine.2.1 Y0_combine.2.2.1 Y0_combine.2.2.2 ∈ fv_tbl := fv_at 400 (by decide +kernel) (by decide +kernel)
theorem kkY0_multiply : Cond.code Y0_multiply.1 Y0_multiply.2.1 Y0_multiply.2.2.1 Y0_multiply.2.2.2 ∈ fv_tbl := fv_at 408 (by decide +kernel) (by decide +kernel)
theorem kkY0_isTooHigh : Cond.code Y0_isTooHigh.1 Y0_isTooHigh.2.1 Y0_isTooHigh.2.2.1 Y0_isTooHigh.2.2.2 ∈ fv_tbl := fv_at 411 (by decide +kernel) (by decide +kernel)
theorem kkY0_swapLetters : Cond.code Y0_swapLetters.1 Y0_swapLetters.2.1 Y0_swapLetters.2.2.1 Y0_swapLetters.2.2.2 ∈ fv_tbl := fv_at 434 (by decide +kernel) (by decide +kernel)
theorem kkY0_differ : Cond.code Y0_differ.1 Y0_differ.2.1 Y0_differ.2.2.1 Y0_differ.2.2.2 ∈ fv_tbl := fv_at 443 (by decide +kernel) (by decide +kernel)
theorem kkY0_pourDifference : Cond.code Y0_pourDifference.1 Y0_pourDifference.2.1 Y0_pourDifference.2.2.1 Y0_pourDifference.2.2.2 ∈ fv_tbl := fv_at 447 (by decide +kernel) (by decide +kernel)
theorem kkY0_compose : Cond.code Y0_compose.1 Y0_compose.2.1 Y0_compose.2.2.1 Y0_compose.2.2.2 ∈ fv_tbl := fv_at 459 (by decide +kernel) (by decide +kernel)
theorem kkY0_staircase : Cond.code Y0_staircase.1 Y0_staircase.2.1 Y0_staircase.2.2.1 Y0_staircase.2.2.2 ∈ fv_tbl := fv_at 467 (by decide +kernel) (by decide +kernel)
theorem kkY0_partOf : Cond.code Y0_partOf.1 Y0_partOf.2.1 Y0_partOf.2.2.1 Y0_partOf.2.2.2 ∈ fv_tbl := fv_at 477 (by decide +kernel) (by decide +kernel)
theorem kkY0_partOfProduct : Cond.code Y0_partOfProduct.1 Y0_partOfProduct.2.1 Y0_partOfProduct.2.2.1 Y0_partOfProduct.2.2.2 ∈ fv_tbl := fv_at 492 (by decide +kernel) (by decide +kernel)
theorem kkY0_partOfLeft : Cond.code Y0_partOfLeft.1 Y0_partOfLeft.2.1 Y0_partOfLeft.2.2.1 Y0_partOfLeft.2.2.2 ∈ fv_tbl := fv_at 482 (by decide +kernel) (by decide +kernel)
theorem kkY1_isShape : Cond.code Y1_isShape.1 Y1_isShape.2.1 Y1_isShape.2.2.1 Y1_isShape.2.2.2 ∈ fv_tbl := fv_at 513 (by decide +kernel) (by decide +kernel)
theorem kkY1_isBox : Cond.code Y1_isBox.1 Y1_isBox.2.1 Y1_isBox.2.2.1 Y1_isBox.2.2.2 ∈ fv_tbl := fv_at 510 (by decide +kernel) (by decide +kernel)
theorem kkY1_figure : Cond.code Y1_figure.1 Y1_figure.2.1 Y1_figure.2.2.1 Y1_figure.2.2.2 ∈ fv_tbl := fv_at 517 (by decide +kernel) (by decide +kernel)
theorem kkY1_places : Cond.code Y1_places.1 Y1_places.2.1 Y1_places.2.2.1 Y1_places.2.2.2 ∈ fv_tbl := fv_at 543 (by decide +kernel) (by decide +kernel)
theorem kkY1_stripAt : Cond.code Y1_stripAt.1 Y1_stripAt.2.1 Y1_stripAt.2.2.1 Y1_stripAt.2.2.2 ∈ fv_tbl := fv_at 521 (by decide +kernel) (by decide +kernel)
theorem kkY1_room : Cond.code Y1_room.1 Y1_room.2.1 Y1_room.2.2.1 Y1_room.2.2.2 ∈ fv_tbl := fv_at 527 (by decide +kernel) (by decide +kernel)
theorem kkY1_strips : Cond.code Y1_strips.1 Y1_strips.2.1 Y1_strips.2.2.1 Y1_strips.2.2.2 ∈ fv_tbl := fv_at 524 (by decide +kernel) (by decide +kernel)
theorem kkY1_toOrder : Cond.code Y1_toOrder.1 Y1_toOrder.2.1 Y1_toOrder.2.2.1 Y1_toOrder.2.2.2 ∈ fv_tbl := fv_at 556 (by decide +kernel) (by decide +kernel)
theorem kkY1_gather : Cond.code Y1_gather.1 Y1_gather.2.1 Y1_gather.2.2.1 Y1_gather.2.2.2 ∈ fv_tbl := fv_at 592 (by decide +kernel) (by decide +kernel)
theorem kkY2_init : Cond.code Y2_init.1 Y2_init.2.1 Y2_init.2.2.1 Y2_init.2.2.2 ∈ fv_tbl := fv_at 128 (by decide +kernel) (by decide +kernel)
theorem kkY2_filler : Cond.code Y2_filler.1 Y2_filler.2.1 Y2_filler.2.2.1 Y2_filler.2.2.2 ∈ fv_tbl := fv_at 536 (by decide +kernel) (by decide +kernel)
theorem kkY2_rows : Cond.code Y2_rows.1 Y2_rows.2.1 Y2_rows.2.2.1 Y2_rows.2.2.2 ∈ fv_tbl := fv_at 573 (by decide +kernel) (by decide +kernel)
theorem kkY2_columns : Cond.code Y2_columns.1 Y2_columns.2.1 Y2_columns.2.2.1 Y2_columns.2.2.2 ∈ fv_tbl := fv_at 577 (by decide +kernel) (by decide +kernel)
theorem kkY2_size : Cond.code Y2_size.1 Y2_size.2.1 Y2_size.2.2.1 Y2_size.2.2.2 ∈ fv_tbl := fv_at 741 (by decide +kernel) (by decide +kernel)
theorem kkY2_restart : Cond.code Y2_restart.1 Y2_restart.2.1 Y2_restart.2.2.1 Y2_restart.2.2.2 ∈ fv_tbl := fv_at 565 (by decide +kernel) (by decide +kernel)
theorem kkY2_append : Cond.code Y2_append.1 Y2_append.2.1 Y2_append.2.2.1 Y2_append.2.2.2 ∈ fv_tbl := fv_at 581 (by decide +kernel) (by decide +kernel)
theorem kkY2_total : Cond.code Y2_total.1 Y2_total.2.1 Y2_total.2.2.1 Y2_total.2.2.2 ∈ fv_tbl := fv_at 589 (by decide +kernel) (by decide +kernel)
theorem kkY2_putOn : Cond.code Y2_putOn.1 Y2_putOn.2.1 Y2_putOn.2.2.1 Y2_putOn.2.2.2 ∈ fv_tbl := fv_at 598 (by decide +kernel) (by decide +kernel)
theorem kkY2_digestOn : Cond.code Y2_digestOn.1 Y2_digestOn.2.1 Y2_digestOn.2.2.1 Y2_digestOn.2.2.2 ∈ fv_tbl := fv_at 765 (by decide +kernel) (by decide +kernel)
theorem kkY3_at : Cond.code Y3_at.1 Y3_at.2.1 Y3_at.2.2.1 Y3_at.2.2.2 ∈ fv_tbl := fv_at 239 (by decide +kernel) (by decide +kernel)
theorem kkY3_power : Cond.code Y3_power.1 Y3_power.2.1 Y3_power.2.2.1 Y3_power.2.2.2 ∈ fv_tbl := fv_at 249 (by decide +kernel) (by decide +kernel)
theorem kkY4_init : Cond.code Y4_init.1 Y4_init.2.1 Y4_init.2.2.1 Y4_init.2.2.2 ∈ fv_tbl := fv_at 134 (by decide +kernel) (by decide +kernel)
theorem kkY4_howMany : Cond.code Y4_howMany.1 Y4_howMany.2.1 Y4_howMany.2.2.1 Y4_howMany.2.2.2 ∈ fv_tbl := fv_at 540 (by decide +kernel) (by decide +kernel)
theorem kkY4_fill : Cond.code Y4_fill.1 Y4_fill.2.1 Y4_fill.2.2.1 Y4_fill.2.2.2 ∈ fv_tbl := fv_at 548 (by decide +kernel) (by decide +kernel)
theorem kkY5_init : Cond.code Y5_init.1 Y5_init.2.1 Y5_init.2.2.1 Y5_init.2.2.2 ∈ fv_tbl := fv_at 190 (by decide +kernel) (by decide +kernel)
theorem kkY5_isThere : Cond.code Y5_isThere.1 Y5_isThere.2.1 Y5_isThere.2.2.1 Y5_isThere.2.2.2 ∈ fv_tbl := fv_at 663 (by decide +kernel) (by decide +kernel)
theorem kkY5_vanish : Cond.code Y5_vanish.1 Y5_vanish.2.1 Y5_vanish.2.2.1 Y5_vanish.2.2.2 ∈ fv_tbl := fv_at 611 (by decide +kernel) (by decide +kernel)
theorem kkY5_span : Cond.code Y5_span.1 Y5_span.2.1 Y5_span.2.2.1 Y5_span.2.2.2 ∈ fv_tbl := fv_at 636 (by decide +kernel) (by decide +kernel)
theorem kkY5_normalize : Cond.code Y5_normalize.1 Y5_normalize.2.1 Y5_normalize.2.2.1 Y5_normalize.2.2.2 ∈ fv_tbl := fv_at 647 (by decide +kernel) (by decide +kernel)
theorem kkY5_copy : Cond.code Y5_copy.1 Y5_copy.2.1 Y5_copy.2.2.1 Y5_copy.2.2.2 ∈ fv_tbl := fv_at 651 (by decide +kernel) (by decide +kernel)
theorem kkY5_isLike : Cond.code Y5_isLike.1 Y5_isLike.2.1 Y5_isLike.2.2.1 Y5_isLike.2.2.2 ∈ fv_tbl := fv_at 675 (by decide +kernel) (by decide +kernel)
theorem kkY5_crosses : Cond.code Y5_crosses.1 Y5_crosses.2.1 Y5_crosses.2.2.1 Y5_crosses.2.2.2 ∈ fv_tbl := fv_at 679 (by decide +kernel) (by decide +kernel)
theorem kkY5_holds : Cond.code Y5_holds.1 Y5_holds.2.1 Y5_holds.2.2.1 Y5_holds.2.2.2 ∈ fv_tbl := fv_at 725 (by decide +kernel) (by decide +kernel)
theorem kkY5_pair : Cond.code Y5_pair.1 Y5_pair.2.1 Y5_pair.2.2.1 Y5_pair.2.2.2 ∈ fv_tbl := fv_at 729 (by decide +kernel) (by decide +kernel)
theorem kkY5_rest : Cond.code Y5_rest.1 Y5_rest.2.1 Y5_rest.2.2.1 Y5_rest.2.2.2 ∈ fv_tbl := fv_at 640 (by decide +kernel) (by decide +kernel)
theorem kkY6_figures : Cond.code Y6_figures.1 Y6_figures.2.1 Y6_figures.2.2.1 Y6_figures.2.2.2 ∈ fv_tbl := fv_at 229 (by decide +kernel) (by decide +kernel)
theorem kkY6_figure : Cond.code Y6_figure.1 Y6_figure.2.1 Y6_figure.2.2.1 Y6_figure.2.2.2 ∈ fv_tbl := fv_at 236 (by decide +kernel) (by decide +kernel)
theorem kkY6_falls : Cond.code Y6_falls.1 Y6_falls.2.1 Y6_falls.2.2.1 Y6_falls.2.2.2 ∈ fv_tbl := fv_at 233 (by decide +kernel) (by decide +kernel)
theorem kkY6_swapped : Cond.code Y6_swapped.1 Y6_swapped.2.1 Y6_swapped.2.2.1 Y6_swapped.2.2.2 ∈ fv_tbl := fv_at 246 (by decide +kernel) (by decide +kernel)
theorem kkY6_inverted : Cond.code Y6_inverted.1 Y6_inverted.2.1 Y6_inverted.2.2.1 Y6_inverted.2.2.2 ∈ fv_tbl := fv_at 256 (by decide +kernel) (by decide +kernel)
theorem kkY6_firstStep : Cond.code Y6_firstStep.1 Y6_firstStep.2.1 Y6_firstStep.2.2.1 Y6_firstStep.2.2.2 ∈ fv_tbl := fv_at 462 (by decide +kernel) (by decide +kernel)
theorem kkY6_ofLength : Cond.code Y6_ofLength.1 Y6_ofLength.2.1 Y6_ofLength.2.2.1 Y6_ofLength.2.2.2 ∈ fv_tbl := fv_at 263 (by decide +kernel) (by decide +kernel)
theorem kkY6_risen : Cond.code Y6_risen.1 Y6_risen.2.1 Y6_risen.2.2.1 Y6_risen.2.2.2 ∈ fv_tbl := fv_at 271 (by decide +kernel) (by decide +kernel)
theorem kkY6_leastRisen : Cond.code Y6_leastRisen.1 Y6_leastRisen.2.1 Y6_leastRisen.2.2.1 Y6_leastRisen.2.2.2 ∈ fv_tbl := fv_at 274 (by decide +kernel) (by decide +kernel)
theorem kkY7_init : Cond.code Y7_init.1 Y7_init.2.1 Y7_init.2.2.1 Y7_init.2.2.2 ∈ fv_tbl := fv_at 78 (by decide +kernel) (by decide +kernel)
theorem kkY7_size : Cond.code Y7_size.1 Y7_size.2.1 Y7_size.2.2.1 Y7_size.2.2.2 ∈ fv_tbl := fv_at 303 (by decide +kernel) (by decide +kernel)
theorem kkY7_isThere : Cond.code Y7_isThere.1 Y7_isThere.2.1 Y7_isThere.2.2.1 Y7_isThere.2.2.2 ∈ fv_tbl := fv_at 299 (by decide +kernel) (by decide +kernel)
theorem kkY7_vanish : Cond.code Y7_vanish.1 Y7_vanish.2.1 Y7_vanish.2.2.1 Y7_vanish.2.2.2 ∈ fv_tbl := fv_at 307 (by decide +kernel) (by decide +kernel)
theorem kkY7_clear : Cond.code Y7_clear.1 Y7_clear.2.1 Y7_clear.2.2.1 Y7_clear.2.2.2 ∈ fv_tbl := fv_at 287 (by decide +kernel) (by decide +kernel)
theorem kkY7_append : Cond.code Y7_append.1 Y7_append.2.1 Y7_append.2.2.1 Y7_append.2.2.2 ∈ fv_tbl := fv_at 361 (by decide +kernel) (by decide +kernel)
theorem kkY7_exponentsAt : Cond.code Y7_exponentsAt.1 Y7_exponentsAt.2.1 Y7_exponentsAt.2.2.1 Y7_exponentsAt.2.2.2 ∈ fv_tbl := fv_at 334 (by decide +kernel) (by decide +kernel)
theorem kkY7_numberAt : Cond.code Y7_numberAt.1 Y7_numberAt.2.1 Y7_numberAt.2.2.1 Y7_numberAt.2.2.2 ∈ fv_tbl := fv_at 338 (by decide +kernel) (by decide +kernel)
theorem kkY7_numberOf : Cond.code Y7_numberOf.1 Y7_numberOf.2.1 Y7_numberOf.2.2.1 Y7_numberOf.2.2.2 ∈ fv_tbl := fv_at 390 (by decide +kernel) (by decide +kernel)
theorem kkY7_exponentAt : Cond.code Y7_exponentAt.1 Y7_exponentAt.2.1 Y7_exponentAt.2.2.1 Y7_exponentAt.2.2.2 ∈ fv_tbl := fv_at 419 (by decide +kernel) (by decide +kernel)
theorem kkY7_topExponent : Cond.code Y7_topExponent.1 Y7_topExponent.2.1 Y7_topExponent.2.2.1 Y7_topExponent.2.2.2 ∈ fv_tbl := fv_at 415 (by decide +kernel) (by decide +kernel)
theorem kkY7_isLike : Cond.code Y7_isLike.1 Y7_isLike.2.1 Y7_isLike.2.2.1 Y7_isLike.2.2.2 ∈ fv_tbl := fv_at 503 (by decide +kernel) (by decide +kernel)
theorem kkY7_copy : Cond.code Y7_copy.1 Y7_copy.2.1 Y7_copy.2.2.1 Y7_copy.2.2.2 ∈ fv_tbl := fv_at 365 (by decide +kernel) (by decide +kernel)
theorem kkY7_digestOn : Cond.code Y7_digestOn.1 Y7_digestOn.2.1 Y7_digestOn.2.2.1 Y7_digestOn.2.2.2 ∈ fv_tbl := fv_at 760 (by decide +kernel) (by decide +kernel)
theorem kkY8_init : Cond.code Y8_init.1 Y8_init.2.1 Y8_init.2.2.1 Y8_init.2.2.2 ∈ fv_tbl := fv_at 71 (by decide +kernel) (by decide +kernel)
theorem kkY8_pour : Cond.code Y8_pour.1 Y8_pour.2.1 Y8_pour.2.2.1 Y8_pour.2.2.2 ∈ fv_tbl := fv_at 342 (by decide +kernel) (by decide +kernel)
theorem kkY8_pourAll : Cond.code Y8_pourAll.1 Y8_pourAll.2.1 Y8_pourAll.2.2.1 Y8_pourAll.2.2.2 ∈ fv_tbl := fv_at 329 (by decide +kernel) (by decide +kernel)
theorem kkY8_settle : Cond.code Y8_settle.1 Y8_settle.2.1 Y8_settle.2.2.1 Y8_settle.2.2.2 ∈ fv_tbl := fv_at 348 (by decide +kernel) (by decide +kernel)
theorem kkY8_takeOut : Cond.code Y8_takeOut.1 Y8_takeOut.2.1 Y8_takeOut.2.2.1 Y8_takeOut.2.2.2 ∈ fv_tbl := fv_at 353 (by decide +kernel) (by decide +kernel)
theorem kkY9_init : Cond.code Y9_init.1 Y9_init.2.1 Y9_init.2.2.1 Y9_init.2.2.2 ∈ fv_tbl := fv_at 183 (by decide +kernel) (by decide +kernel)
theorem kkY9_isRod : Cond.code Y9_isRod.1 Y9_isRod.2.1 Y9_isRod.2.2.1 Y9_isRod.2.2.2 ∈ fv_tbl := fv_at 618 (by decide +kernel) (by decide +kernel)
theorem kkY9_areBits : Cond.code Y9_areBits.1 Y9_areBits.2.1 Y9_areBits.2.2.1 Y9_areBits.2.2.2 ∈ fv_tbl := fv_at 686 (by decide +kernel) (by decide +kernel)
theorem kkY9_figure : Cond.code Y9_figure.1 Y9_figure.2.1 Y9_figure.2.2.1 Y9_figure.2.2.2 ∈ fv_tbl := fv_at 626 (by decide +kernel) (by decide +kernel)
theorem kkY9_order : Cond.code Y9_order.1 Y9_order.2.1 Y9_order.2.2.1 Y9_order.2.2.2 ∈ fv_tbl := fv_at 745 (by decide +kernel) (by decide +kernel)
theorem kkY9_isPoint : Cond.code Y9_isPoint.1 Y9_isPoint.2.1 Y9_isPoint.2.2.1 Y9_isPoint.2.2.2 ∈ fv_tbl := fv_at 622 (by decide +kernel) (by decide +kernel)
theorem kkY9_change : Cond.code Y9_change.1 Y9_change.2.1 Y9_change.2.2.1 Y9_change.2.2.2 ∈ fv_tbl := fv_at 607 (by decide +kernel) (by decide +kernel)
theorem kkY9_lay : Cond.code Y9_lay.1 Y9_lay.2.1 Y9_lay.2.2.1 Y9_lay.2.2.2 ∈ fv_tbl := fv_at 631 (by decide +kernel) (by decide +kernel)
theorem kkY9_remove : Cond.code Y9_remove.1 Y9_remove.2.1 Y9_remove.2.2.1 Y9_remove.2.2.2 ∈ fv_tbl := fv_at 659 (by decide +kernel) (by decide +kernel)
theorem kkY9_howMet : Cond.code Y9_howMet.1 Y9_howMet.2.1 Y9_howMet.2.2.1 Y9_howMet.2.2.2 ∈ fv_tbl := fv_at 671 (by decide +kernel) (by decide +kernel)
theorem kkY9_rodsThere : Cond.code Y9_rodsThere.1 Y9_rodsThere.2.1 Y9_rodsThere.2.2.1 Y9_rodsThere.2.2.2 ∈ fv_tbl := fv_at 749 (by decide +kernel) (by decide +kernel)
theorem kkY9_areThere : Cond.code Y9_areThere.1 Y9_areThere.2.1 Y9_areThere.2.2.1 Y9_areThere.2.2.2 ∈ fv_tbl := fv_at 690 (by decide +kernel) (by decide +kernel)
theorem kkY9_isTold : Cond.code Y9_isTold.1 Y9_isTold.2.1 Y9_isTold.2.2.1 Y9_isTold.2.2.2 ∈ fv_tbl := fv_at 693 (by decide +kernel) (by decide +kernel)
theorem kkY9_linesMeeting : Cond.code Y9_linesMeeting.1 Y9_linesMeeting.2.1 Y9_linesMeeting.2.2.1 Y9_linesMeeting.2.2.2 ∈ fv_tbl := fv_at 697 (by decide +kernel) (by decide +kernel)
theorem kkY9_linesFrom : Cond.code Y9_linesFrom.1 Y9_linesFrom.2.1 Y9_linesFrom.2.2.1 Y9_linesFrom.2.2.2 ∈ fv_tbl := fv_at 701 (by decide +kernel) (by decide +kernel)
theorem kkY9_crossesAll : Cond.code Y9_crossesAll.1 Y9_crossesAll.2.1 Y9_crossesAll.2.2.1 Y9_crossesAll.2.2.2 ∈ fv_tbl := fv_at 709 (by decide +kernel) (by decide +kernel)
theorem kkY9_pointsOn : Cond.code Y9_pointsOn.1 Y9_pointsOn.2.1 Y9_pointsOn.2.2.1 Y9_pointsOn.2.2.2 ∈ fv_tbl := fv_at 717 (by decide +kernel) (by decide +kernel)
theorem kkY9_isOnOne : Cond.code Y9_isOnOne.1 Y9_isOnOne.2.1 Y9_isOnOne.2.2.1 Y9_isOnOne.2.2.2 ∈ fv_tbl := fv_at 721 (by decide +kernel) (by decide +kernel)
theorem kkY9_pointFrom : Cond.code Y9_pointFrom.1 Y9_pointFrom.2.1 Y9_pointFrom.2.2.1 Y9_pointFrom.2.2.2 ∈ fv_tbl := fv_at 705 (by decide +kernel) (by decide +kernel)
theorem kkY10_init : Cond.code Y10_init.1 Y10_init.2.1 Y10_init.2.2.1 Y10_init.2.2.2 ∈ fv_tbl := fv_at 55 (by decide +kernel) (by decide +kernel)
theorem kkY10_length : Cond.code Y10_length.1 Y10_length.2.1 Y10_length.2.2.1 Y10_length.2.2.2 ∈ fv_tbl := fv_at 226 (by decide +kernel) (by decide +kernel)
theorem kkY10_exchange : Cond.code Y10_exchange.1 Y10_exchange.2.1 Y10_exchange.2.2.1 Y10_exchange.2.2.2 ∈ fv_tbl := fv_at 243 (by decide +kernel) (by decide +kernel)
theorem kkY10_inverse : Cond.code Y10_inverse.1 Y10_inverse.2.1 Y10_inverse.2.2.1 Y10_inverse.2.2.2 ∈ fv_tbl := fv_at 253 (by decide +kernel) (by decide +kernel)
theorem kkY10_orders : Cond.code Y10_orders.1 Y10_orders.2.1 Y10_orders.2.2.1 Y10_orders.2.2.2 ∈ fv_tbl := fv_at 260 (by decide +kernel) (by decide +kernel)
theorem kkY10_step : Cond.code Y10_step.1 Y10_step.2.1 Y10_step.2.2.1 Y10_step.2.2.2 ∈ fv_tbl := fv_at 268 (by decide +kernel) (by decide +kernel)
theorem kkY10_blank : Cond.code Y10_blank.1 Y10_blank.2.1 Y10_blank.2.2.1 Y10_blank.2.2.2 ∈ fv_tbl := fv_at 280 (by decide +kernel) (by decide +kernel)
theorem kkY10_lose : Cond.code Y10_lose.1 Y10_lose.2.1 Y10_lose.2.2.1 Y10_lose.2.2.2 ∈ fv_tbl := fv_at 291 (by decide +kernel) (by decide +kernel)
theorem kkY10_add : Cond.code Y10_add.1 Y10_add.2.1 Y10_add.2.2.1 Y10_add.2.2.2 ∈ fv_tbl := fv_at 311 (by decide +kernel) (by decide +kernel)
theorem kkY10_terms : Cond.code Y10_terms.1 Y10_terms.2.1 Y10_terms.2.2.1 Y10_terms.2.2.2 ∈ fv_tbl := fv_at 373 (by decide +kernel) (by decide +kernel)
theorem kkY10_exponents : Cond.code Y10_exponents.1 Y10_exponents.2.1 Y10_exponents.2.2.1 Y10_exponents.2.2.2 ∈ fv_tbl := fv_at 377 (by decide +kernel) (by decide +kernel)
theorem kkY10_number : Cond.code Y10_number.1 Y10_number.2.1 Y10_number.2.2.1 Y10_number.2.2.2 ∈ fv_tbl := fv_at 382 (by decide +kernel) (by decide +kernel)
theorem kkY10_sum : Cond.code Y10_sum.1 Y10_sum.2.1 Y10_sum.2.2.1 Y10_sum.2.2.2 ∈ fv_tbl := fv_at 394 (by decide +kernel) (by decide +kernel)
theorem kkY10_product : Cond.code Y10_product.1 Y10_product.2.1 Y10_product.2.2.1 Y10_product.2.2.2 ∈ fv_tbl := fv_at 404 (by decide +kernel) (by decide +kernel)
theorem kkY10_turned : Cond.code Y10_turned.1 Y10_turned.2.1 Y10_turned.2.2.1 Y10_turned.2.2.2 ∈ fv_tbl := fv_at 430 (by decide +kernel) (by decide +kernel)
theorem kkY10_difference : Cond.code Y10_difference.1 Y10_difference.2.1 Y10_difference.2.2.1 Y10_difference.2.2.2 ∈ fv_tbl := fv_at 439 (by decide +kernel) (by decide +kernel)
theorem kkY10_polynomial : Cond.code Y10_polynomial.1 Y10_polynomial.2.1 Y10_polynomial.2.2.1 Y10_polynomial.2.2.2 ∈ fv_tbl := fv_at 455 (by decide +kernel) (by decide +kernel)
theorem kkY10_part : Cond.code Y10_part.1 Y10_part.2.1 Y10_part.2.2.1 Y10_part.2.2.2 ∈ fv_tbl := fv_at 473 (by decide +kernel) (by decide +kernel)
theorem kkY10_constant : Cond.code Y10_constant.1 Y10_constant.2.1 Y10_constant.2.2.1 Y10_constant.2.2.2 ∈ fv_tbl := fv_at 488 (by decide +kernel) (by decide +kernel)
theorem kkY10_same : Cond.code Y10_same.1 Y10_same.2.1 Y10_same.2.2.1 Y10_same.2.2.2 ∈ fv_tbl := fv_at 499 (by decide +kernel) (by decide +kernel)
theorem kkY10_strip : Cond.code Y10_strip.1 Y10_strip.2.1 Y10_strip.2.2.1 Y10_strip.2.2.2 ∈ fv_tbl := fv_at 507 (by decide +kernel) (by decide +kernel)
theorem kkY10_fillings : Cond.code Y10_fillings.1 Y10_fillings.2.1 Y10_fillings.2.2.1 Y10_fillings.2.2.2 ∈ fv_tbl := fv_at 532 (by decide +kernel) (by decide +kernel)
theorem kkY10_orderOf : Cond.code Y10_orderOf.1 Y10_orderOf.2.1 Y10_orderOf.2.2.1 Y10_orderOf.2.2.2 ∈ fv_tbl := fv_at 553 (by decide +kernel) (by decide +kernel)
theorem kkY10_begin : Cond.code Y10_begin.1 Y10_begin.2.1 Y10_begin.2.2.1 Y10_begin.2.2.2 ∈ fv_tbl := fv_at 560 (by decide +kernel) (by decide +kernel)
theorem kkY10_condition : Cond.code Y10_condition.1 Y10_condition.2.1 Y10_condition.2.2.1 Y10_condition.2.2.2 ∈ fv_tbl := fv_at 569 (by decide +kernel) (by decide +kernel)
theorem kkY10_meeting : Cond.code Y10_meeting.1 Y10_meeting.2.1 Y10_meeting.2.2.1 Y10_meeting.2.2.2 ∈ fv_tbl := fv_at 585 (by decide +kernel) (by decide +kernel)
theorem kkY10_field : Cond.code Y10_field.1 Y10_field.2.1 Y10_field.2.2.1 Y10_field.2.2.2 ∈ fv_tbl := fv_at 603 (by decide +kernel) (by decide +kernel)
theorem kkY10_rod : Cond.code Y10_rod.1 Y10_rod.2.1 Y10_rod.2.2.1 Y10_rod.2.2.2 ∈ fv_tbl := fv_at 615 (by decide +kernel) (by decide +kernel)
theorem kkY10_drop : Cond.code Y10_drop.1 Y10_drop.2.1 Y10_drop.2.2.1 Y10_drop.2.2.2 ∈ fv_tbl := fv_at 655 (by decide +kernel) (by decide +kernel)
theorem kkY10_meet : Cond.code Y10_meet.1 Y10_meet.2.1 Y10_meet.2.2.1 Y10_meet.2.2.2 ∈ fv_tbl := fv_at 667 (by decide +kernel) (by decide +kernel)
theorem kkY10_lines : Cond.code Y10_lines.1 Y10_lines.2.1 Y10_lines.2.2.1 Y10_lines.2.2.2 ∈ fv_tbl := fv_at 683 (by decide +kernel) (by decide +kernel)
theorem kkY10_points : Cond.code Y10_points.1 Y10_points.2.1 Y10_points.2.2.1 Y10_points.2.2.2 ∈ fv_tbl := fv_at 713 (by decide +kernel) (by decide +kernel)
theorem kkY10_count : Cond.code Y10_count.1 Y10_count.2.1 Y10_count.2.2.1 Y10_count.2.2.2 ∈ fv_tbl := fv_at 733 (by decide +kernel) (by decide +kernel)
theorem kkY10_digest : Cond.code Y10_digest.1 Y10_digest.2.1 Y10_digest.2.2.1 Y10_digest.2.2.2 ∈ fv_tbl := fv_at 753 (by decide +kernel) (by decide +kernel)
theorem kkY10_isSheet : Cond.code Y10_isSheet.1 Y10_isSheet.2.1 Y10_isSheet.2.2.1 Y10_isSheet.2.2.2 ∈ fv_tbl := fv_at 283 (by decide +kernel) (by decide +kernel)
theorem kkY10_isLost : Cond.code Y10_isLost.1 Y10_isLost.2.1 Y10_isLost.2.2.1 Y10_isLost.2.2.2 ∈ fv_tbl := fv_at 295 (by decide +kernel) (by decide +kernel)
theorem kkY10_keptSheets : Cond.code Y10_keptSheets.1 Y10_keptSheets.2.1 Y10_keptSheets.2.2.1 Y10_keptSheets.2.2.2 ∈ fv_tbl := fv_at 737 (by decide +kernel) (by decide +kernel)
theorem kkY10_isBeyond : Cond.code Y10_isBeyond.1 Y10_isBeyond.2.1 Y10_isBeyond.2.2.1 Y10_isBeyond.2.2.2 ∈ fv_tbl := fv_at 314 (by decide +kernel) (by decide +kernel)
theorem kkY10_areExponents : Cond.code Y10_areExponents.1 Y10_areExponents.2.1 Y10_areExponents.2.2.1 Y10_areExponents.2.2.2 ∈ fv_tbl := fv_at 319 (by decide +kernel) (by decide +kernel)
theorem kkY10_refusal : Cond.code Y10_refusal.1 Y10_refusal.2.1 Y10_refusal.2.2.1 Y10_refusal.2.2.2 ∈ fv_tbl := fv_at 385 (by decide +kernel) (by decide +kernel)
theorem kkY11_init : Cond.code Y11_init.1 Y11_init.2.1 Y11_init.2.2.1 Y11_init.2.2.2 ∈ fv_tbl := fv_at 771 (by decide +kernel) (by decide +kernel)
theorem kkY11_in : Cond.code Y11_in.1 Y11_in.2.1 Y11_in.2.2.1 Y11_in.2.2.2 ∈ fv_tbl := fv_at 908 (by decide +kernel) (by decide +kernel)
theorem kkY11_no : Cond.code Y11_no.1 Y11_no.2.1 Y11_no.2.2.1 Y11_no.2.2.2 ∈ fv_tbl := fv_at 994 (by decide +kernel) (by decide +kernel)
theorem kkY11_reads : Cond.code Y11_reads.1 Y11_reads.2.1 Y11_reads.2.2.1 Y11_reads.2.2.2 ∈ fv_tbl := fv_at 904 (by decide +kernel) (by decide +kernel)
theorem kkY11_told : Cond.code Y11_told.1 Y11_told.2.1 Y11_told.2.2.1 Y11_told.2.2.2 ∈ fv_tbl := fv_at 924 (by decide +kernel) (by decide +kernel)
theorem kkY11_lengthNow : Cond.code Y11_lengthNow.1 Y11_lengthNow.2.1 Y11_lengthNow.2.2.1 Y11_lengthNow.2.2.2 ∈ fv_tbl := fv_at 912 (by decide +kernel) (by decide +kernel)
theorem kkY11_change : Cond.code Y11_change.1 Y11_change.2.1 Y11_change.2.2.1 Y11_change.2.2.2 ∈ fv_tbl := fv_at 920 (by decide +kernel) (by decide +kernel)
theorem kkY11_length : Cond.code Y11_length.1 Y11_length.2.1 Y11_length.2.2.1 Y11_length.2.2.2 ∈ fv_tbl := fv_at 900 (by decide +kernel) (by decide +kernel)
theorem kkY11_exchange : Cond.code Y11_exchange.1 Y11_exchange.2.1 Y11_exchange.2.2.1 Y11_exchange.2.2.2 ∈ fv_tbl := fv_at 916 (by decide +kernel) (by decide +kernel)
theorem kkY11_inverse : Cond.code Y11_inverse.1 Y11_inverse.2.1 Y11_inverse.2.2.1 Y11_inverse.2.2.2 ∈ fv_tbl := fv_at 928 (by decide +kernel) (by decide +kernel)
theorem kkY11_orders : Cond.code Y11_orders.1 Y11_orders.2.1 Y11_orders.2.2.1 Y11_orders.2.2.2 ∈ fv_tbl := fv_at 932 (by decide +kernel) (by decide +kernel)
theorem kkY11_step : Cond.code Y11_step.1 Y11_step.2.1 Y11_step.2.2.1 Y11_step.2.2.2 ∈ fv_tbl := fv_at 937 (by decide +kernel) (by decide +kernel)
theorem kkY11_isSheet : Cond.code Y11_isSheet.1 Y11_isSheet.2.1 Y11_isSheet.2.2.1 Y11_isSheet.2.2.2 ∈ fv_tbl := fv_at 944 (by decide +kernel) (by decide +kernel)
theorem kkY11_placeOf : Cond.code Y11_placeOf.1 Y11_placeOf.2.1 Y11_placeOf.2.2.1 Y11_placeOf.2.2.2 ∈ fv_tbl := fv_at 958 (by decide +kernel) (by decide +kernel)
theorem kkY11_toldOf : Cond.code Y11_toldOf.1 Y11_toldOf.2.1 Y11_toldOf.2.2.1 Y11_toldOf.2.2.2 ∈ fv_tbl := fv_at 979 (by decide +kernel) (by decide +kernel)
theorem kkY11_wipe : Cond.code Y11_wipe.1 Y11_wipe.2.1 Y11_wipe.2.2.1 Y11_wipe.2.2.2 ∈ fv_tbl := fv_at 963 (by decide +kernel) (by decide +kernel)
theorem kkY11_takes : Cond.code Y11_takes.1 Y11_takes.2.1 Y11_takes.2.2.1 Y11_takes.2.2.2 ∈ fv_tbl := fv_at 967 (by decide +kernel) (by decide +kernel)
theorem kkY11_tooMuch : Cond.code Y11_tooMuch.1 Y11_tooMuch.2.1 Y11_tooMuch.2.2.1 Y11_tooMuch.2.2.2 ∈ fv_tbl := fv_at 975 (by decide +kernel) (by decide +kernel)
theorem kkY11_lays : Cond.code Y11_lays.1 Y11_lays.2.1 Y11_lays.2.2.1 Y11_lays.2.2.2 ∈ fv_tbl := fv_at 971 (by decide +kernel) (by decide +kernel)
theorem kkY11_blank : Cond.code Y11_blank.1 Y11_blank.2.1 Y11_blank.2.2.1 Y11_blank.2.2.2 ∈ fv_tbl := fv_at 941 (by decide +kernel) (by decide +kernel)
theorem kkY11_lose : Cond.code Y11_lose.1 Y11_lose.2.1 Y11_lose.2.2.1 Y11_lose.2.2.2 ∈ fv_tbl := fv_at 949 (by decide +kernel) (by decide +kernel)
theorem kkY11_add : Cond.code Y11_add.1 Y11_add.2.1 Y11_add.2.2.1 Y11_add.2.2.2 ∈ fv_tbl := fv_at 953 (by decide +kernel) (by decide +kernel)
theorem kkY11_terms : Cond.code Y11_terms.1 Y11_terms.2.1 Y11_terms.2.2.1 Y11_terms.2.2.2 ∈ fv_tbl := fv_at 983 (by decide +kernel) (by decide +kernel)
theorem kkY11_exponents : Cond.code Y11_exponents.1 Y11_exponents.2.1 Y11_exponents.2.2.1 Y11_exponents.2.2.2 ∈ fv_tbl := fv_at 987 (by decide +kernel) (by decide +kernel)
theorem kkY11_number : Cond.code Y11_number.1 Y11_number.2.1 Y11_number.2.2.1 Y11_number.2.2.2 ∈ fv_tbl := fv_at 991 (by decide +kernel) (by decide +kernel)
theorem kkY11_sum : Cond.code Y11_sum.1 Y11_sum.2.1 Y11_sum.2.2.1 Y11_sum.2.2.2 ∈ fv_tbl := fv_at 999 (by decide +kernel) (by decide +kernel)
theorem kkY11_highest : Cond.code Y11_highest.1 Y11_highest.2.1 Y11_highest.2.2.1 Y11_highest.2.2.2 ∈ fv_tbl := fv_at 1009 (by decide +kernel) (by decide +kernel)
theorem kkY11_product : Cond.code Y11_product.1 Y11_product.2.1 Y11_product.2.2.1 Y11_product.2.2.2 ∈ fv_tbl := fv_at 1005 (by decide +kernel) (by decide +kernel)
theorem kkY11_nines : Cond.code Y11_nines.1 Y11_nines.2.1 Y11_nines.2.2.1 Y11_nines.2.2.2 ∈ fv_tbl := fv_at 1017 (by decide +kernel) (by decide +kernel)
theorem kkY11_turned : Cond.code Y11_turned.1 Y11_turned.2.1 Y11_turned.2.2.1 Y11_turned.2.2.2 ∈ fv_tbl := fv_at 1013 (by decide +kernel) (by decide +kernel)
theorem kkY11_differ : Cond.code Y11_differ.1 Y11_differ.2.1 Y11_differ.2.2.1 Y11_differ.2.2.2 ∈ fv_tbl := fv_at 1025 (by decide +kernel) (by decide +kernel)
theorem kkY11_difference : Cond.code Y11_difference.1 Y11_difference.2.1 Y11_difference.2.2.1 Y11_difference.2.2.2 ∈ fv_tbl := fv_at 1021 (by decide +kernel) (by decide +kernel)
theorem kkY11_makes : Cond.code Y11_makes.1 Y11_makes.2.1 Y11_makes.2.2.1 Y11_makes.2.2.2 ∈ fv_tbl := fv_at 1033 (by decide +kernel) (by decide +kernel)
theorem kkY11_polynomial : Cond.code Y11_polynomial.1 Y11_polynomial.2.1 Y11_polynomial.2.2.1 Y11_polynomial.2.2.2 ∈ fv_tbl := fv_at 1029 (by decide +kernel) (by decide +kernel)
theorem kkY11_parts : Cond.code Y11_parts.1 Y11_parts.2.1 Y11_parts.2.2.1 Y11_parts.2.2.2 ∈ fv_tbl := fv_at 1041 (by decide +kernel) (by decide +kernel)
theorem kkY11_part : Cond.code Y11_part.1 Y11_part.2.1 Y11_part.2.2.1 Y11_part.2.2.2 ∈ fv_tbl := fv_at 1037 (by decide +kernel) (by decide +kernel)
theorem kkY11_constant : Cond.code Y11_constant.1 Y11_constant.2.1 Y11_constant.2.2.1 Y11_constant.2.2.2 ∈ fv_tbl := fv_at 1045 (by decide +kernel) (by decide +kernel)
theorem kkY11_same : Cond.code Y11_same.1 Y11_same.2.1 Y11_same.2.2.1 Y11_same.2.2.2 ∈ fv_tbl := fv_at 1049 (by decide +kernel) (by decide +kernel)
theorem kkY11_isBox : Cond.code Y11_isBox.1 Y11_isBox.2.1 Y11_isBox.2.2.1 Y11_isBox.2.2.2 ∈ fv_tbl := fv_at 1059 (by decide +kernel) (by decide +kernel)
theorem kkY11_areSides : Cond.code Y11_areSides.1 Y11_areSides.2.1 Y11_areSides.2.2.1 Y11_areSides.2.2.2 ∈ fv_tbl := fv_at 1056 (by decide +kernel) (by decide +kernel)
theorem kkY11_tens : Cond.code Y11_tens.1 Y11_tens.2.1 Y11_tens.2.2.1 Y11_tens.2.2.2 ∈ fv_tbl := fv_at 1063 (by decide +kernel) (by decide +kernel)
theorem kkY11_sizeOf : Cond.code Y11_sizeOf.1 Y11_sizeOf.2.1 Y11_sizeOf.2.2.1 Y11_sizeOf.2.2.2 ∈ fv_tbl := fv_at 1066 (by decide +kernel) (by decide +kernel)
theorem kkY11_strip : Cond.code Y11_strip.1 Y11_strip.2.1 Y11_strip.2.2.1 Y11_strip.2.2.2 ∈ fv_tbl := fv_at 1053 (by decide +kernel) (by decide +kernel)
theorem kkY11_mayStand : Cond.code Y11_mayStand.1 Y11_mayStand.2.1 Y11_mayStand.2.2.1 Y11_mayStand.2.2.2 ∈ fv_tbl := fv_at 1078 (by decide +kernel) (by decide +kernel)
theorem kkY11_fills : Cond.code Y11_fills.1 Y11_fills.2.1 Y11_fills.2.2.1 Y11_fills.2.2.2 ∈ fv_tbl := fv_at 1074 (by decide +kernel) (by decide +kernel)
theorem kkY11_fillings : Cond.code Y11_fillings.1 Y11_fillings.2.1 Y11_fillings.2.2.1 Y11_fillings.2.2.2 ∈ fv_tbl := fv_at 1070 (by decide +kernel) (by decide +kernel)
theorem kkY11_orderOf : Cond.code Y11_orderOf.1 Y11_orderOf.2.1 Y11_orderOf.2.2.1 Y11_orderOf.2.2.2 ∈ fv_tbl := fv_at 1082 (by decide +kernel) (by decide +kernel)
theorem kkY11_begin : Cond.code Y11_begin.1 Y11_begin.2.1 Y11_begin.2.2.1 Y11_begin.2.2.2 ∈ fv_tbl := fv_at 1086 (by decide +kernel) (by decide +kernel)
theorem kkY11_condition : Cond.code Y11_condition.1 Y11_condition.2.1 Y11_condition.2.2.1 Y11_condition.2.2.2 ∈ fv_tbl := fv_at 1090 (by decide +kernel) (by decide +kernel)
theorem kkY11_meeting : Cond.code Y11_meeting.1 Y11_meeting.2.1 Y11_meeting.2.2.1 Y11_meeting.2.2.2 ∈ fv_tbl := fv_at 1094 (by decide +kernel) (by decide +kernel)
theorem kkY11_lookAtPoints : Cond.code Y11_lookAtPoints.1 Y11_lookAtPoints.2.1 Y11_lookAtPoints.2.2.1 Y11_lookAtPoints.2.2.2 ∈ fv_tbl := fv_at 777 (by decide +kernel) (by decide +kernel)
theorem kkY11_pointOf : Cond.code Y11_pointOf.1 Y11_pointOf.2.1 Y11_pointOf.2.2.1 Y11_pointOf.2.2.2 ∈ fv_tbl := fv_at 1111 (by decide +kernel) (by decide +kernel)
theorem kkY11_mixed : Cond.code Y11_mixed.1 Y11_mixed.2.1 Y11_mixed.2.2.1 Y11_mixed.2.2.2 ∈ fv_tbl := fv_at 781 (by decide +kernel) (by decide +kernel)
theorem kkY11_evened : Cond.code Y11_evened.1 Y11_evened.2.1 Y11_evened.2.2.1 Y11_evened.2.2.2 ∈ fv_tbl := fv_at 1116 (by decide +kernel) (by decide +kernel)
theorem kkY11_onLine : Cond.code Y11_onLine.1 Y11_onLine.2.1 Y11_onLine.2.2.1 Y11_onLine.2.2.2 ∈ fv_tbl := fv_at 1136 (by decide +kernel) (by decide +kernel)
theorem kkY11_drops : Cond.code Y11_drops.1 Y11_drops.2.1 Y11_drops.2.2.1 Y11_drops.2.2.2 ∈ fv_tbl := fv_at 1102 (by decide +kernel) (by decide +kernel)
theorem kkY11_field : Cond.code Y11_field.1 Y11_field.2.1 Y11_field.2.2.1 Y11_field.2.2.2 ∈ fv_tbl := fv_at 1098 (by decide +kernel) (by decide +kernel)
theorem kkY11_rod : Cond.code Y11_rod.1 Y11_rod.2.1 Y11_rod.2.2.1 Y11_rod.2.2.2 ∈ fv_tbl := fv_at 1106 (by decide +kernel) (by decide +kernel)
theorem kkY11_drop : Cond.code Y11_drop.1 Y11_drop.2.1 Y11_drop.2.2.1 Y11_drop.2.2.2 ∈ fv_tbl := fv_at 1120 (by decide +kernel) (by decide +kernel)
theorem kkY11_marks : Cond.code Y11_marks.1 Y11_marks.2.1 Y11_marks.2.2.1 Y11_marks.2.2.2 ∈ fv_tbl := fv_at 1132 (by decide +kernel) (by decide +kernel)
theorem kkY11_wipeMarks : Cond.code Y11_wipeMarks.1 Y11_wipeMarks.2.1 Y11_wipeMarks.2.2.1 Y11_wipeMarks.2.2.2 ∈ fv_tbl := fv_at 1128 (by decide +kernel) (by decide +kernel)
theorem kkY11_meet : Cond.code Y11_meet.1 Y11_meet.2.1 Y11_meet.2.2.1 Y11_meet.2.2.2 ∈ fv_tbl := fv_at 1124 (by decide +kernel) (by decide +kernel)
theorem kkY11_areThere : Cond.code Y11_areThere.1 Y11_areThere.2.1 Y11_areThere.2.2.1 Y11_areThere.2.2.2 ∈ fv_tbl := fv_at 1145 (by decide +kernel) (by decide +kernel)
theorem kkY11_lookAtRods : Cond.code Y11_lookAtRods.1 Y11_lookAtRods.2.1 Y11_lookAtRods.2.2.1 Y11_lookAtRods.2.2.2 ∈ fv_tbl := fv_at 1149 (by decide +kernel) (by decide +kernel)
theorem kkY11_areLeast : Cond.code Y11_areLeast.1 Y11_areLeast.2.1 Y11_areLeast.2.2.1 Y11_areLeast.2.2.2 ∈ fv_tbl := fv_at 1153 (by decide +kernel) (by decide +kernel)
theorem kkY11_lines : Cond.code Y11_lines.1 Y11_lines.2.1 Y11_lines.2.2.1 Y11_lines.2.2.2 ∈ fv_tbl := fv_at 1140 (by decide +kernel) (by decide +kernel)
theorem kkY11_points : Cond.code Y11_points.1 Y11_points.2.1 Y11_points.2.2.1 Y11_points.2.2.2 ∈ fv_tbl := fv_at 1157 (by decide +kernel) (by decide +kernel)
theorem kkY11_count : Cond.code Y11_count.1 Y11_count.2.1 Y11_count.2.2.1 Y11_count.2.2.2 ∈ fv_tbl := fv_at 1161 (by decide +kernel) (by decide +kernel)
theorem kkY11_digest : Cond.code Y11_digest.1 Y11_digest.2.1 Y11_digest.2.2.1 Y11_digest.2.2.2 ∈ fv_tbl := fv_at 1165 (by decide +kernel) (by decide +kernel)
theorem kkYJ9_floorMod : Cond.code YJ9_floorMod.1 YJ9_floorMod.2.1 YJ9_floorMod.2.2.1 YJ9_floorMod.2.2.2 ∈ fv_tbl := fv_at 643 (by decide +kernel) (by decide +kernel)
theorem kkYJ9_max : Cond.code YJ9_max.1 YJ9_max.2.1 YJ9_max.2.2.1 YJ9_max.2.2.2 ∈ fv_tbl := fv_at 423 (by decide +kernel) (by decide +kernel)
theorem kkYJ9_min : Cond.code YJ9_min.1 YJ9_min.2.1 YJ9_min.2.2.1 YJ9_min.2.2.2 ∈ fv_tbl := fv_at 356 (by decide +kernel) (by decide +kernel)
theorem lkL_9 : fv_mI RL 9 Y10_init 0 := ⟨⟨fv_at 53 (by decide +kernel) (by decide +kernel), fv_at 38 (by decide +kernel) (by decide +kernel), kkY10_init, by decide +kernel, by decide⟩, fv_at 54 (by decide +kernel) (by decide +kernel), rfl, rfl⟩
theorem lkL_12 : fv_mI RL 12 Y11_init 0 := ⟨⟨fv_at 769 (by decide +kernel) (by decide +kernel), fv_at 46 (by decide +kernel) (by decide +kernel), kkY11_init, by decide +kernel, by decide⟩, fv_at 770 (by decide +kernel) (by decide +kernel), rfl, rfl⟩
theorem lkL_13 : fv_mV RL 13 Y10_length 1 := ⟨⟨fv_at 223 (by decide +kernel) (by decide +kernel), fv_at 38 (by decide +kernel) (by decide +kernel), kkY10_length, by decide +kernel, by decide⟩, fv_at 224 (by decide +kernel) (by decide +kernel), fv_at 225 (by decide +kernel) (by decide +kernel)⟩
theorem lkL_17 : fv_mV RL 17 Y11_length 1 := ⟨⟨fv_at 897 (by decide +kernel) (by decide +kernel), fv_at 46 (by decide +kernel) (by decide +kernel), kkY11_length, by decide +kernel, by decide⟩, fv_at 898 (by decide +kernel) (by decide +kernel), fv_at 899 (by decide +kernel) (by decide +kernel)⟩
theorem lkL_18 : fv_mV RL 18 Y10_exchange 2 := ⟨⟨fv_at 240 (by decide +kernel) (by decide +kernel), fv_at 38 (by decide +kernel) (by decide +kernel), kkY10_exchange, by decide +kernel, by decide⟩, fv_at 241 (by decide +kernel) (by decide +kernel), fv_at 242 (by decide +kernel) (by decide +kernel)⟩
theorem lkL_22 : fv_mV RL 22 Y11_exchange 2 := ⟨⟨fv_at 913 (by decide +kernel) (by decide +kernel), fv_at 46 (by decide +kernel) (by decide +kernel), kkY11_exchange, by decide +kernel, by decide⟩, fv_at 914 (by decide +kernel) (by decide +kernel), fv_at 915 (by decide +kernel) (by decide +kernel)⟩
theorem lkL_23 : fv_mV RL 23 Y10_inverse 1 := ⟨⟨fv_at 250 (by decide +kernel) (by decide +kernel), fv_at 38 (by decide +kernel) (by decide +kernel), kkY10_inverse, by decide +kernel, by decide⟩, fv_at 251 (by decide +kernel) (by decide +kernel), fv_at 252 (by decide +kernel) (by decide +kernel)⟩
theorem lkL_26 : fv_mV RL 26 Y11_inverse 1 := ⟨⟨fv_at 925 (by decide +kernel) (by decide +kernel), fv_at 46 (by decide +kernel) (by decide +kernel), kkY11_inverse, by decide +kernel, by decide⟩, fv_at 926 (by decide +kernel) (by decide +kernel), fv_at 927 (by decide +kernel) (by decide +kernel)⟩
theorem lkL_27 : fv_mV RL 27 Y10_orders 2 := ⟨⟨fv_at 257 (by decide +kernel) (by decide +kernel), fv_at 38 (by decide +kernel) (by decide +kernel), kkY10_orders, by decide +kernel, by decide⟩, fv_at 258 (by decide +kernel) (by decide +kernel), fv_at 259 (by decide +kernel) (by decide +kernel)⟩
theorem lkL_30 : fv_mV RL 30 Y11_orders 2 := ⟨⟨fv_at 929 (by decide +kernel) (by decide +kernel), fv_at 46 (by decide +kernel) (by decide +kernel), kkY11_orders, by decide +kernel, by decide⟩, fv_at 930 (by decide +kernel) (by decide +kernel), fv_at 931 (by decide +kernel) (by decide +kernel)⟩
theorem lkL_31 : fv_mV RL 31 Y10_step 3 := ⟨⟨fv_at 265 (by decide +kernel) (by decide +kernel), fv_at 38 (by decide +kernel) (by decide +kernel), kkY10_step, by decide +kernel, by decide⟩, fv_at 266 (by decide +kernel) (by decide +kernel), fv_at 267 (by decide +kernel) (by decide +kernel)⟩
theorem lkL_35 : fv_mV RL 35 Y11_step 3 := ⟨⟨fv_at 934 (by decide +kernel) (by decide +kernel), fv_at 46 (by decide +kernel) (by decide +kernel), kkY11_step, by decide +kernel, by decide⟩, fv_at 935 (by decide +kernel) (by decide +kernel), fv_at 936 (by decide +kernel) (by decide +kernel)⟩
theorem lkL_36 : fv_mV RL 36 Y10_blank 1 := ⟨⟨fv_at 277 (by decide +kernel) (by decide +kernel), fv_at 38 (by decide +kernel) (by decide +kernel), kkY10_blank, by decide +kernel, by decide⟩, fv_at 278 (by decide +kernel) (by decide +kernel), fv_at 279 (by decide +kernel) (by decide +kernel)⟩
theorem lkL_39 : fv_mV RL 39 Y11_blank 1 := ⟨⟨fv_at 938 (by decide +kernel) (by decide +kernel), fv_at 46 (by decide +kernel) (by decide +kernel), kkY11_blank, by decide +kernel, by decide⟩, fv_at 939 (by decide +kernel) (by decide +kernel), fv_at 940 (by decide +kernel) (by decide +kernel)⟩
theorem lkL_40 : fv_mV RL 40 Y10_lose 1 := ⟨⟨fv_at 288 (by decide +kernel) (by decide +kernel), fv_at 38 (by decide +kernel) (by decide +kernel), kkY10_lose, by decide +kernel, by decide⟩, fv_at 289 (by decide +kernel) (by decide +kernel), fv_at 290 (by decide +kernel) (by decide +kernel)⟩
theorem lkL_43 : fv_mV RL 43 Y11_lose 1 := ⟨⟨fv_at 946 (by decide +kernel) (by decide +kernel), fv_at 46 (by decide +kernel) (by decide +kernel), kkY11_lose, by decide +kernel, by decide⟩, fv_at 947 (by decide +kernel) (by decide +kernel), fv_at 948 (by decide +kernel) (by decide +kernel)⟩
theorem lkL_46 : fv_mV RL 46 Y10_add 3 := ⟨⟨fv_at 308 (by decide +kernel) (by decide +kernel), fv_at 38 (by decide +kernel) (by decide +kernel), kkY10_add, by decide +kernel, by decide⟩, fv_at 309 (by decide +kernel) (by decide +kernel), fv_at 310 (by decide +kernel) (by decide +kernel)⟩
theorem lkL_50 : fv_mV RL 50 Y11_add 3 := ⟨⟨fv_at 950 (by decide +kernel) (by decide +kernel), fv_at 46 (by decide +kernel) (by decide +kernel), kkY11_add, by decide +kernel, by decide⟩, fv_at 951 (by decide +kernel) (by decide +kernel), fv_at 952 (by decide +kernel) (by decide +kernel)⟩
theorem lkL_51 : fv_mV RL 51 Y10_terms 1 := ⟨⟨fv_at 370 (by decide +kernel) (by decide +kernel), fv_at 38 (by decide +kernel) (by decide +kernel), kkY10_terms, by decide +kernel, by decide⟩, fv_at 371 (by decide +kernel) (by decide +kernel), fv_at 372 (by decide +kernel) (by decide +kernel)⟩
theorem lkL_54 : fv_mV RL 54 Y11_terms 1 := ⟨⟨fv_at 980 (by decide +kernel) (by decide +kernel), fv_at 46 (by decide +kernel) (by decide +kernel), kkY11_terms, by decide +kernel, by decide⟩, fv_at 981 (by decide +kernel) (by decide +kernel), fv_at 982 (by decide +kernel) (by decide +kernel)⟩
theorem lkL_55 : fv_mV RL 55 Y10_exponents 2 := ⟨⟨fv_at 374 (by decide +kernel) (by decide +kernel), fv_at 38 (by decide +kernel) (by decide +kernel), kkY10_exponents, by decide +kernel, by decide⟩, fv_at 375 (by decide +kernel) (by decide +kernel), fv_at 376 (by decide +kernel) (by decide +kernel)⟩
theorem lkL_58 : fv_mV RL 58 Y11_exponents 2 := ⟨⟨fv_at 984 (by decide +kernel) (by decide +kernel), fv_at 46 (by decide +kernel) (by decide +kernel), kkY11_exponents, by decide +kernel, by decide⟩, fv_at 985 (by decide +kernel) (by decide +kernel), fv_at 986 (by decide +kernel) (by decide +kernel)⟩
theorem lkL_59 : fv_mV RL 59 Y10_number 2 := ⟨⟨fv_at 379 (by decide +kernel) (by decide +kernel), fv_at 38 (by decide +kernel) (by decide +kernel), kkY10_number, by decide +kernel, by decide⟩, fv_at 380 (by decide +kernel) (by decide +kernel), fv_at 381 (by decide +kernel) (by decide +kernel)⟩
theorem lkL_63 : fv_mV RL 63 Y11_number 2 := ⟨⟨fv_at 988 (by decide +kernel) (by decide +kernel), fv_at 46 (by decide +kernel) (by decide +kernel), kkY11_number, by decide +kernel, by decide⟩, fv_at 989 (by decide +kernel) (by decide +kernel), fv_at 990 (by decide +kernel) (by decide +kernel)⟩
theorem lkL_64 : fv_mV RL 64 Y10_sum 4 := ⟨⟨fv_at 391 (by decide +kernel) (by decide +kernel), fv_at 38 (by decide +kernel) (by decide +kernel), kkY10_sum, by decide +kernel, by decide⟩, fv_at 392 (by decide +kernel) (by decide +kernel), fv_at 393 (by decide +kernel) (by decide +kernel)⟩
theorem lkL_68 : fv_mV RL 68 Y11_sum 4 := ⟨⟨fv_at 996 (by decide +kernel) (by decide +kernel), fv_at 46 (by decide +kernel) (by decide +kernel), kkY11_sum, by decide +kernel, by decide⟩, fv_at 997 (by decide +kernel) (by decide +kernel), fv_at 998 (by decide +kernel) (by decide +kernel)⟩
theorem lkL_69 : fv_mV RL 69 Y10_product 3 := ⟨⟨fv_at 401 (by decide +kernel) (by decide +kernel), fv_at 38 (by decide +kernel) (by decide +kernel), kkY10_product, by decide +kernel, by decide⟩, fv_at 402 (by decide +kernel) (by decide +kernel), fv_at 403 (by decide +kernel) (by decide +kernel)⟩
theorem lkL_72 : fv_mV RL 72 Y11_product 3 := ⟨⟨fv_at 1002 (by decide +kernel) (by decide +kernel), fv_at 46 (by decide +kernel) (by decide +kernel), kkY11_product, by decide +kernel, by decide⟩, fv_at 1003 (by decide +kernel) (by decide +kernel), fv_at 1004 (by decide +kernel) (by decide +kernel)⟩
theorem lkL_73 : fv_mV RL 73 Y10_turned 3 := ⟨⟨fv_at 427 (by decide +kernel) (by decide +kernel), fv_at 38 (by decide +kernel) (by decide +kernel), kkY10_turned, by decide +kernel, by decide⟩, fv_at 428 (by decide +kernel) (by decide +kernel), fv_at 429 (by decide +kernel) (by decide +kernel)⟩
theorem lkL_76 : fv_mV RL 76 Y11_turned 3 := ⟨⟨fv_at 1010 (by decide +kernel) (by decide +kernel), fv_at 46 (by decide +kernel) (by decide +kernel), kkY11_turned, by decide +kernel, by decide⟩, fv_at 1011 (by decide +kernel) (by decide +kernel), fv_at 1012 (by decide +kernel) (by decide +kernel)⟩
theorem lkL_77 : fv_mV RL 77 Y10_difference 3 := ⟨⟨fv_at 436 (by decide +kernel) (by decide +kernel), fv_at 38 (by decide +kernel) (by decide +kernel), kkY10_difference, by decide +kernel, by decide⟩, fv_at 437 (by decide +kernel) (by decide +kernel), fv_at 438 (by decide +kernel) (by decide +kernel)⟩
theorem lkL_80 : fv_mV RL 80 Y11_difference 3 := ⟨⟨fv_at 1018 (by decide +kernel) (by decide +kernel), fv_at 46 (by decide +kernel) (by decide +kernel), kkY11_difference, by decide +kernel, by decide⟩, fv_at 1019 (by decide +kernel) (by decide +kernel), fv_at 1020 (by decide +kernel) (by decide +kernel)⟩
theorem lkL_81 : fv_mV RL 81 Y10_polynomial 2 := ⟨⟨fv_at 452 (by decide +kernel) (by decide +kernel), fv_at 38 (by decide +kernel) (by decide +kernel), kkY10_polynomial, by decide +kernel, by decide⟩, fv_at 453 (by decide +kernel) (by decide +kernel), fv_at 454 (by decide +kernel) (by decide +kernel)⟩
theorem lkL_84 : fv_mV RL 84 Y11_polynomial 2 := ⟨⟨fv_at 1026 (by decide +kernel) (by decide +kernel), fv_at 46 (by decide +kernel) (by decide +kernel), kkY11_polynomial, by decide +kernel, by decide⟩, fv_at 1027 (by decide +kernel) (by decide +kernel), fv_at 1028 (by decide +kernel) (by decide +kernel)⟩
theorem lkL_85 : fv_mV RL 85 Y10_part 2 := ⟨⟨fv_at 470 (by decide +kernel) (by decide +kernel), fv_at 38 (by decide +kernel) (by decide +kernel), kkY10_part, by decide +kernel, by decide⟩, fv_at 471 (by decide +kernel) (by decide +kernel), fv_at 472 (by decide +kernel) (by decide +kernel)⟩
theorem lkL_88 : fv_mV RL 88 Y11_part 2 := ⟨⟨fv_at 1034 (by decide +kernel) (by decide +kernel), fv_at 46 (by decide +kernel) (by decide +kernel), kkY11_part, by decide +kernel, by decide⟩, fv_at 1035 (by decide +kernel) (by decide +kernel), fv_at 1036 (by decide +kernel) (by decide +kernel)⟩
theorem lkL_89 : fv_mV RL 89 Y10_constant 3 := ⟨⟨fv_at 485 (by decide +kernel) (by decide +kernel), fv_at 38 (by decide +kernel) (by decide +kernel), kkY10_constant, by decide +kernel, by decide⟩, fv_at 486 (by decide +kernel) (by decide +kernel), fv_at 487 (by decide +kernel) (by decide +kernel)⟩
theorem lkL_93 : fv_mV RL 93 Y11_constant 3 := ⟨⟨fv_at 1042 (by decide +kernel) (by decide +kernel), fv_at 46 (by decide +kernel) (by decide +kernel), kkY11_constant, by decide +kernel, by decide⟩, fv_at 1043 (by decide +kernel) (by decide +kernel), fv_at 1044 (by decide +kernel) (by decide +kernel)⟩
theorem lkL_94 : fv_mV RL 94 Y10_same 2 := ⟨⟨fv_at 496 (by decide +kernel) (by decide +kernel), fv_at 38 (by decide +kernel) (by decide +kernel), kkY10_same, by decide +kernel, by decide⟩, fv_at 497 (by decide +kernel) (by decide +kernel), fv_at 498 (by decide +kernel) (by decide +kernel)⟩
theorem lkL_97 : fv_mV RL 97 Y11_same 2 := ⟨⟨fv_at 1046 (by decide +kernel) (by decide +kernel), fv_at 46 (by decide +kernel) (by decide +kernel), kkY11_same, by decide +kernel, by decide⟩, fv_at 1047 (by decide +kernel) (by decide +kernel), fv_at 1048 (by decide +kernel) (by decide +kernel)⟩
theorem lkL_98 : fv_mV RL 98 Y10_strip 5 := ⟨⟨fv_at 504 (by decide +kernel) (by decide +kernel), fv_at 38 (by decide +kernel) (by decide +kernel), kkY10_strip, by decide +kernel, by decide⟩, fv_at 505 (by decide +kernel) (by decide +kernel), fv_at 506 (by decide +kernel) (by decide +kernel)⟩
theorem lkL_102 : fv_mV RL 102 Y11_strip 5 := ⟨⟨fv_at 1050 (by decide +kernel) (by decide +kernel), fv_at 46 (by decide +kernel) (by decide +kernel), kkY11_strip, by decide +kernel, by decide⟩, fv_at 1051 (by decide +kernel) (by decide +kernel), fv_at 1052 (by decide +kernel) (by decide +kernel)⟩
theorem lkL_103 : fv_mV RL 103 Y10_fillings 5 := ⟨⟨fv_at 529 (by decide +kernel) (by decide +kernel), fv_at 38 (by decide +kernel) (by decide +kernel), kkY10_fillings, by decide +kernel, by decide⟩, fv_at 530 (by decide +kernel) (by decide +kernel), fv_at 531 (by decide +kernel) (by decide +kernel)⟩
theorem lkL_106 : fv_mV RL 106 Y11_fillings 5 := ⟨⟨fv_at 1067 (by decide +kernel) (by decide +kernel), fv_at 46 (by decide +kernel) (by decide +kernel), kkY11_fillings, by decide +kernel, by decide⟩, fv_at 1068 (by decide +kernel) (by decide +kernel), fv_at 1069 (by decide +kernel) (by decide +kernel)⟩
theorem lkL_107 : fv_mV RL 107 Y10_orderOf 3 := ⟨⟨fv_at 550 (by decide +kernel) (by decide +kernel), fv_at 38 (by decide +kernel) (by decide +kernel), kkY10_orderOf, by decide +kernel, by decide⟩, fv_at 551 (by decide +kernel) (by decide +kernel), fv_at 552 (by decide +kernel) (by decide +kernel)⟩
theorem lkL_110 : fv_mV RL 110 Y11_orderOf 3 := ⟨⟨fv_at 1079 (by decide +kernel) (by decide +kernel), fv_at 46 (by decide +kernel) (by decide +kernel), kkY11_orderOf, by decide +kernel, by decide⟩, fv_at 1080 (by decide +kernel) (by decide +kernel), fv_at 1081 (by decide +kernel) (by decide +kernel)⟩
theorem lkL_111 : fv_mV RL 111 Y10_begin 2 := ⟨⟨fv_at 557 (by decide +kernel) (by decide +kernel), fv_at 38 (by decide +kernel) (by decide +kernel), kkY10_begin, by decide +kernel, by decide⟩, fv_at 558 (by decide +kernel) (by decide +kernel), fv_at 559 (by decide +kernel) (by decide +kernel)⟩
theorem lkL_114 : fv_mV RL 114 Y11_begin 2 := ⟨⟨fv_at 1083 (by decide +kernel) (by decide +kernel), fv_at 46 (by decide +kernel) (by decide +kernel), kkY11_begin, by decide +kernel, by decide⟩, fv_at 1084 (by decide +kernel) (by decide +kernel), fv_at 1085 (by decide +kernel) (by decide +kernel)⟩
theorem lkL_115 : fv_mV RL 115 Y10_condition 1 := ⟨⟨fv_at 566 (by decide +kernel) (by decide +kernel), fv_at 38 (by decide +kernel) (by decide +kernel), kkY10_condition, by decide +kernel, by decide⟩, fv_at 567 (by decide +kernel) (by decide +kernel), fv_at 568 (by decide +kernel) (by decide +kernel)⟩
theorem lkL_118 : fv_mV RL 118 Y11_condition 1 := ⟨⟨fv_at 1087 (by decide +kernel) (by decide +kernel), fv_at 46 (by decide +kernel) (by decide +kernel), kkY11_condition, by decide +kernel, by decide⟩, fv_at 1088 (by decide +kernel) (by decide +kernel), fv_at 1089 (by decide +kernel) (by decide +kernel)⟩
theorem lkL_119 : fv_mV RL 119 Y10_meeting 0 := ⟨⟨fv_at 582 (by decide +kernel) (by decide +kernel), fv_at 38 (by decide +kernel) (by decide +kernel), kkY10_meeting, by decide +kernel, by decide⟩, fv_at 583 (by decide +kernel) (by decide +kernel), fv_at 584 (by decide +kernel) (by decide +kernel)⟩
theorem lkL_123 : fv_mV RL 123 Y11_meeting 0 := ⟨⟨fv_at 1091 (by decide +kernel) (by decide +kernel), fv_at 46 (by decide +kernel) (by decide +kernel), kkY11_meeting, by decide +kernel, by decide⟩, fv_at 1092 (by decide +kernel) (by decide +kernel), fv_at 1093 (by decide +kernel) (by decide +kernel)⟩
theorem lkL_124 : fv_mV RL 124 Y10_field 1 := ⟨⟨fv_at 600 (by decide +kernel) (by decide +kernel), fv_at 38 (by decide +kernel) (by decide +kernel), kkY10_field, by decide +kernel, by decide⟩, fv_at 601 (by decide +kernel) (by decide +kernel), fv_at 602 (by decide +kernel) (by decide +kernel)⟩
theorem lkL_127 : fv_mV RL 127 Y11_field 1 := ⟨⟨fv_at 1095 (by decide +kernel) (by decide +kernel), fv_at 46 (by decide +kernel) (by decide +kernel), kkY11_field, by decide +kernel, by decide⟩, fv_at 1096 (by decide +kernel) (by decide +kernel), fv_at 1097 (by decide +kernel) (by decide +kernel)⟩
theorem lkL_128 : fv_mV RL 128 Y10_rod 3 := ⟨⟨fv_at 612 (by decide +kernel) (by decide +kernel), fv_at 38 (by decide +kernel) (by decide +kernel), kkY10_rod, by decide +kernel, by decide⟩, fv_at 613 (by decide +kernel) (by decide +kernel), fv_at 614 (by decide +kernel) (by decide +kernel)⟩
theorem lkL_131 : fv_mV RL 131 Y11_rod 3 := ⟨⟨fv_at 1103 (by decide +kernel) (by decide +kernel), fv_at 46 (by decide +kernel) (by decide +kernel), kkY11_rod, by decide +kernel, by decide⟩, fv_at 1104 (by decide +kernel) (by decide +kernel), fv_at 1105 (by decide +kernel) (by decide +kernel)⟩
theorem lkL_132 : fv_mV RL 132 Y10_drop 1 := ⟨⟨fv_at 652 (by decide +kernel) (by decide +kernel), fv_at 38 (by decide +kernel) (by decide +kernel), kkY10_drop, by decide +kernel, by decide⟩, fv_at 653 (by decide +kernel) (by decide +kernel), fv_at 654 (by decide +kernel) (by decide +kernel)⟩
theorem lkL_135 : fv_mV RL 135 Y11_drop 1 := ⟨⟨fv_at 1117 (by decide +kernel) (by decide +kernel), fv_at 46 (by decide +kernel) (by decide +kernel), kkY11_drop, by decide +kernel, by decide⟩, fv_at 1118 (by decide +kernel) (by decide +kernel), fv_at 1119 (by decide +kernel) (by decide +kernel)⟩
theorem lkL_136 : fv_mV RL 136 Y10_meet 2 := ⟨⟨fv_at 664 (by decide +kernel) (by decide +kernel), fv_at 38 (by decide +kernel) (by decide +kernel), kkY10_meet, by decide +kernel, by decide⟩, fv_at 665 (by decide +kernel) (by decide +kernel), fv_at 666 (by decide +kernel) (by decide +kernel)⟩
theorem lkL_139 : fv_mV RL 139 Y11_meet 2 := ⟨⟨fv_at 1121 (by decide +kernel) (by decide +kernel), fv_at 46 (by decide +kernel) (by decide +kernel), kkY11_meet, by decide +kernel, by decide⟩, fv_at 1122 (by decide +kernel) (by decide +kernel), fv_at 1123 (by decide +kernel) (by decide +kernel)⟩
theorem lkL_140 : fv_mV RL 140 Y10_lines 1 := ⟨⟨fv_at 680 (by decide +kernel) (by decide +kernel), fv_at 38 (by decide +kernel) (by decide +kernel), kkY10_lines, by decide +kernel, by decide⟩, fv_at 681 (by decide +kernel) (by decide +kernel), fv_at 682 (by decide +kernel) (by decide +kernel)⟩
theorem lkL_143 : fv_mV RL 143 Y11_lines 1 := ⟨⟨fv_at 1137 (by decide +kernel) (by decide +kernel), fv_at 46 (by decide +kernel) (by decide +kernel), kkY11_lines, by decide +kernel, by decide⟩, fv_at 1138 (by decide +kernel) (by decide +kernel), fv_at 1139 (by decide +kernel) (by decide +kernel)⟩
theorem lkL_144 : fv_mV RL 144 Y10_points 1 := ⟨⟨fv_at 710 (by decide +kernel) (by decide +kernel), fv_at 38 (by decide +kernel) (by decide +kernel), kkY10_points, by decide +kernel, by decide⟩, fv_at 711 (by decide +kernel) (by decide +kernel), fv_at 712 (by decide +kernel) (by decide +kernel)⟩
theorem lkL_147 : fv_mV RL 147 Y11_points 1 := ⟨⟨fv_at 1154 (by decide +kernel) (by decide +kernel), fv_at 46 (by decide +kernel) (by decide +kernel), kkY11_points, by decide +kernel, by decide⟩, fv_at 1155 (by decide +kernel) (by decide +kernel), fv_at 1156 (by decide +kernel) (by decide +kernel)⟩
theorem lkL_148 : fv_mV RL 148 Y10_count 1 := ⟨⟨fv_at 730 (by decide +kernel) (by decide +kernel), fv_at 38 (by decide +kernel) (by decide +kernel), kkY10_count, by decide +kernel, by decide⟩, fv_at 731 (by decide +kernel) (by decide +kernel), fv_at 732 (by decide +kernel) (by decide +kernel)⟩
theorem lkL_151 : fv_mV RL 151 Y11_count 1 := ⟨⟨fv_at 1158 (by decide +kernel) (by decide +kernel), fv_at 46 (by decide +kernel) (by decide +kernel), kkY11_count, by decide +kernel, by decide⟩, fv_at 1159 (by decide +kernel) (by decide +kernel), fv_at 1160 (by decide +kernel) (by decide +kernel)⟩
theorem lkL_152 : fv_mV RL 152 Y10_digest 0 := ⟨⟨fv_at 750 (by decide +kernel) (by decide +kernel), fv_at 38 (by decide +kernel) (by decide +kernel), kkY10_digest, by decide +kernel, by decide⟩, fv_at 751 (by decide +kernel) (by decide +kernel), fv_at 752 (by decide +kernel) (by decide +kernel)⟩
theorem lkL_155 : fv_mV RL 155 Y11_digest 0 := ⟨⟨fv_at 1162 (by decide +kernel) (by decide +kernel), fv_at 46 (by decide +kernel) (by decide +kernel), kkY11_digest, by decide +kernel, by decide⟩, fv_at 1163 (by decide +kernel) (by decide +kernel), fv_at 1164 (by decide +kernel) (by decide +kernel)⟩
theorem lk0_11 : fv_mIN RX0 11 Y8_init 0 := ⟨⟨by decide +kernel, fv_at 40 (by decide +kernel) (by decide +kernel), kkY8_init, by decide +kernel, by decide⟩, fv_at 70 (by decide +kernel) (by decide +kernel), rfl, rfl⟩
theorem lk0_20 : fv_mIN RX0 20 Y7_init 0 := ⟨⟨by decide +kernel, fv_at 41 (by decide +kernel) (by decide +kernel), kkY7_init, by decide +kernel, by decide⟩, fv_at 77 (by decide +kernel) (by decide +kernel), rfl, rfl⟩
theorem lk0_28 : fv_mV RX0 28 Y8_pourAll 2 := ⟨⟨fv_at 326 (by decide +kernel) (by decide +kernel), fv_at 40 (by decide +kernel) (by decide +kernel), kkY8_pourAll, by decide +kernel, by decide⟩, fv_at 327 (by decide +kernel) (by decide +kernel), fv_at 328 (by decide +kernel) (by decide +kernel)⟩
theorem lk0_32 : fv_mV RX0 32 Y8_pour 2 := ⟨⟨fv_at 344 (by decide +kernel) (by decide +kernel), fv_at 40 (by decide +kernel) (by decide +kernel), kkY8_pour, by decide +kernel, by decide⟩, fv_at 340 (by decide +kernel) (by decide +kernel), fv_at 341 (by decide +kernel) (by decide +kernel)⟩
theorem lk0_36 : fv_mV RX0 36 Y8_settle 1 := ⟨⟨fv_at 345 (by decide +kernel) (by decide +kernel), fv_at 40 (by decide +kernel) (by decide +kernel), kkY8_settle, by decide +kernel, by decide⟩, fv_at 346 (by decide +kernel) (by decide +kernel), fv_at 347 (by decide +kernel) (by decide +kernel)⟩
theorem lk0_40 : fv_mS RX0 40 Y0_isTooHigh 2 := ⟨⟨fv_at 409 (by decide +kernel) (by decide +kernel), fv_at 39 (by decide +kernel) (by decide +kernel), kkY0_isTooHigh, by decide +kernel, by decide⟩, fv_at 410 (by decide +kernel) (by decide +kernel)⟩
theorem lk0_44 : fv_mV RX0 44 Y7_size 0 := ⟨⟨fv_at 424 (by decide +kernel) (by decide +kernel), fv_at 41 (by decide +kernel) (by decide +kernel), kkY7_size, by decide +kernel, by decide⟩, fv_at 301 (by decide +kernel) (by decide +kernel), fv_at 302 (by decide +kernel) (by decide +kernel)⟩
theorem lk0_48 : fv_mV RX0 48 Y7_numberAt 1 := ⟨⟨fv_at 425 (by decide +kernel) (by decide +kernel), fv_at 41 (by decide +kernel) (by decide +kernel), kkY7_numberAt, by decide +kernel, by decide⟩, fv_at 336 (by decide +kernel) (by decide +kernel), fv_at 337 (by decide +kernel) (by decide +kernel)⟩
theorem lk0_52 : fv_mV RX0 52 Y7_exponentsAt 1 := ⟨⟨fv_at 426 (by decide +kernel) (by decide +kernel), fv_at 41 (by decide +kernel) (by decide +kernel), kkY7_exponentsAt, by decide +kernel, by decide⟩, fv_at 332 (by decide +kernel) (by decide +kernel), fv_at 333 (by decide +kernel) (by decide +kernel)⟩
theorem lk0_55 : fv_mV RX0 55 Y7_topExponent 1 := ⟨⟨fv_at 412 (by decide +kernel) (by decide +kernel), fv_at 41 (by decide +kernel) (by decide +kernel), kkY7_topExponent, by decide +kernel, by decide⟩, fv_at 413 (by decide +kernel) (by decide +kernel), fv_at 414 (by decide +kernel) (by decide +kernel)⟩
theorem lk0_58 : fv_mS RX0 58 Y6_swapped 4 := ⟨⟨fv_at 435 (by decide +kernel) (by decide +kernel), fv_at 47 (by decide +kernel) (by decide +kernel), kkY6_swapped, by decide +kernel, by decide⟩, fv_at 245 (by decide +kernel) (by decide +kernel)⟩
theorem lk0_64 : fv_mV RX0 64 Y0_pourDifference 3 := ⟨⟨fv_at 444 (by decide +kernel) (by decide +kernel), fv_at 39 (by decide +kernel) (by decide +kernel), kkY0_pourDifference, by decide +kernel, by decide⟩, fv_at 446 (by decide +kernel) (by decide +kernel), fv_at 2 (by decide +kernel) (by decide +kernel)⟩
theorem lk0_68 : fv_mV RX0 68 Y7_exponentAt 2 := ⟨⟨fv_at 448 (by decide +kernel) (by decide +kernel), fv_at 41 (by decide +kernel) (by decide +kernel), kkY7_exponentAt, by decide +kernel, by decide⟩, fv_at 417 (by decide +kernel) (by decide +kernel), fv_at 418 (by decide +kernel) (by decide +kernel)⟩
theorem lk0_72 : fv_mS RX0 72 Y3_power 2 := ⟨⟨fv_at 449 (by decide +kernel) (by decide +kernel), fv_at 48 (by decide +kernel) (by decide +kernel), kkY3_power, by decide +kernel, by decide⟩, fv_at 248 (by decide +kernel) (by decide +kernel)⟩
theorem lk0_77 : fv_mS RX0 77 YJ9_min 2 := ⟨⟨fv_at 450 (by decide +kernel) (by decide +kernel), fv_at 49 (by decide +kernel) (by decide +kernel), kkYJ9_min, by decide +kernel, by decide⟩, fv_at 355 (by decide +kernel) (by decide +kernel)⟩
theorem lk0_82 : fv_mS RX0 82 YJ9_max 2 := ⟨⟨fv_at 451 (by decide +kernel) (by decide +kernel), fv_at 49 (by decide +kernel) (by decide +kernel), kkYJ9_max, by decide +kernel, by decide⟩, fv_at 422 (by decide +kernel) (by decide +kernel)⟩
theorem lk0_85 : fv_mS RX0 85 Y6_firstStep 3 := ⟨⟨fv_at 460 (by decide +kernel) (by decide +kernel), fv_at 47 (by decide +kernel) (by decide +kernel), kkY6_firstStep, by decide +kernel, by decide⟩, fv_at 461 (by decide +kernel) (by decide +kernel)⟩
theorem lk0_91 : fv_mV RX0 91 Y7_clear 0 := ⟨⟨fv_at 464 (by decide +kernel) (by decide +kernel), fv_at 41 (by decide +kernel) (by decide +kernel), kkY7_clear, by decide +kernel, by decide⟩, fv_at 285 (by decide +kernel) (by decide +kernel), fv_at 286 (by decide +kernel) (by decide +kernel)⟩
theorem lk0_94 : fv_mS RX0 94 Y0_staircase 1 := ⟨⟨fv_at 465 (by decide +kernel) (by decide +kernel), fv_at 39 (by decide +kernel) (by decide +kernel), kkY0_staircase, by decide +kernel, by decide⟩, fv_at 466 (by decide +kernel) (by decide +kernel)⟩
theorem lk0_97 : fv_mV RX0 97 Y7_append 2 := ⟨⟨fv_at 468 (by decide +kernel) (by decide +kernel), fv_at 41 (by decide +kernel) (by decide +kernel), kkY7_append, by decide +kernel, by decide⟩, fv_at 359 (by decide +kernel) (by decide +kernel), fv_at 360 (by decide +kernel) (by decide +kernel)⟩
theorem lk0_101 : fv_mV RX0 101 Y0_differ 3 := ⟨⟨fv_at 469 (by decide +kernel) (by decide +kernel), fv_at 39 (by decide +kernel) (by decide +kernel), kkY0_differ, by decide +kernel, by decide⟩, fv_at 441 (by decide +kernel) (by decide +kernel), fv_at 442 (by decide +kernel) (by decide +kernel)⟩
theorem lk0_105 : fv_mV RX0 105 Y7_copy 1 := ⟨⟨fv_at 478 (by decide +kernel) (by decide +kernel), fv_at 41 (by decide +kernel) (by decide +kernel), kkY7_copy, by decide +kernel, by decide⟩, fv_at 363 (by decide +kernel) (by decide +kernel), fv_at 364 (by decide +kernel) (by decide +kernel)⟩
theorem lk0_109 : fv_mV RX0 109 Y0_partOfLeft 2 := ⟨⟨fv_at 479 (by decide +kernel) (by decide +kernel), fv_at 39 (by decide +kernel) (by decide +kernel), kkY0_partOfLeft, by decide +kernel, by decide⟩, fv_at 481 (by decide +kernel) (by decide +kernel), fv_at 3 (by decide +kernel) (by decide +kernel)⟩
theorem lk0_113 : fv_mS RX0 113 Y6_figures 1 := ⟨⟨fv_at 493 (by decide +kernel) (by decide +kernel), fv_at 47 (by decide +kernel) (by decide +kernel), kkY6_figures, by decide +kernel, by decide⟩, fv_at 228 (by decide +kernel) (by decide +kernel)⟩
theorem lk0_116 : fv_mV RX0 116 Y0_compose 3 := ⟨⟨fv_at 494 (by decide +kernel) (by decide +kernel), fv_at 39 (by decide +kernel) (by decide +kernel), kkY0_compose, by decide +kernel, by decide⟩, fv_at 457 (by decide +kernel) (by decide +kernel), fv_at 458 (by decide +kernel) (by decide +kernel)⟩
theorem lk0_120 : fv_mV RX0 120 Y0_multiply 3 := ⟨⟨fv_at 495 (by decide +kernel) (by decide +kernel), fv_at 39 (by decide +kernel) (by decide +kernel), kkY0_multiply, by decide +kernel, by decide⟩, fv_at 406 (by decide +kernel) (by decide +kernel), fv_at 407 (by decide +kernel) (by decide +kernel)⟩
theorem lk0_124 : fv_mSN RX0 124 Y10_refusal 1 := ⟨⟨by decide +kernel, fv_at 38 (by decide +kernel) (by decide +kernel), kkY10_refusal, by decide +kernel, by decide⟩, fv_at 384 (by decide +kernel) (by decide +kernel)⟩
theorem lk0_128 : fv_mV RX0 128 Y7_numberOf 1 := ⟨⟨fv_at 484 (by decide +kernel) (by decide +kernel), fv_at 41 (by decide +kernel) (by decide +kernel), kkY7_numberOf, by decide +kernel, by decide⟩, fv_at 388 (by decide +kernel) (by decide +kernel), fv_at 389 (by decide +kernel) (by decide +kernel)⟩
theorem lk1_9 : fv_mS RX1 9 Y1_isShape 2 := ⟨⟨fv_at 511 (by decide +kernel) (by decide +kernel), fv_at 50 (by decide +kernel) (by decide +kernel), kkY1_isShape, by decide +kernel, by decide⟩, fv_at 512 (by decide +kernel) (by decide +kernel)⟩
theorem lk1_15 : fv_mS RX1 15 Y3_power 2 := ⟨⟨fv_at 514 (by decide +kernel) (by decide +kernel), fv_at 48 (by decide +kernel) (by decide +kernel), kkY3_power, by decide +kernel, by decide⟩, fv_at 248 (by decide +kernel) (by decide +kernel)⟩
theorem lk1_21 : fv_mS RX1 21 Y1_figure 3 := ⟨⟨fv_at 515 (by decide +kernel) (by decide +kernel), fv_at 50 (by decide +kernel) (by decide +kernel), kkY1_figure, by decide +kernel, by decide⟩, fv_at 516 (by decide +kernel) (by decide +kernel)⟩
theorem lk1_25 : fv_mS RX1 25 Y3_at 2 := ⟨⟨fv_at 518 (by decide +kernel) (by decide +kernel), fv_at 48 (by decide +kernel) (by decide +kernel), kkY3_at, by decide +kernel, by decide⟩, fv_at 238 (by decide +kernel) (by decide +kernel)⟩
theorem lk1_28 : fv_mS RX1 28 Y1_strips 5 := ⟨⟨fv_at 522 (by decide +kernel) (by decide +kernel), fv_at 50 (by decide +kernel) (by decide +kernel), kkY1_strips, by decide +kernel, by decide⟩, fv_at 523 (by decide +kernel) (by decide +kernel)⟩
theorem lk1_32 : fv_mS RX1 32 Y1_room 4 := ⟨⟨fv_at 525 (by decide +kernel) (by decide +kernel), fv_at 50 (by decide +kernel) (by decide +kernel), kkY1_room, by decide +kernel, by decide⟩, fv_at 526 (by decide +kernel) (by decide +kernel)⟩
theorem lk1_36 : fv_mS RX1 36 YJ9_min 2 := ⟨⟨fv_at 528 (by decide +kernel) (by decide +kernel), fv_at 49 (by decide +kernel) (by decide +kernel), kkYJ9_min, by decide +kernel, by decide⟩, fv_at 355 (by decide +kernel) (by decide +kernel)⟩
theorem lk1_41 : fv_mS RX1 41 Y1_gather 5 := ⟨⟨fv_at 593 (by decide +kernel) (by decide +kernel), fv_at 50 (by decide +kernel) (by decide +kernel), kkY1_gather, by decide +kernel, by decide⟩, fv_at 591 (by decide +kernel) (by decide +kernel)⟩
theorem lk10_17 : fv_mIN RX10 17 Y0_init 0 := ⟨⟨by decide +kernel, fv_at 39 (by decide +kernel) (by decide +kernel), kkY0_init, by decide +kernel, by decide⟩, fv_at 64 (by decide +kernel) (by decide +kernel), rfl, rfl⟩
theorem lk10_24 : fv_mIN RX10 24 Y2_init 0 := ⟨⟨by decide +kernel, fv_at 42 (by decide +kernel) (by decide +kernel), kkY2_init, by decide +kernel, by decide⟩, fv_at 127 (by decide +kernel) (by decide +kernel), rfl, rfl⟩
theorem lk10_31 : fv_mI RX10 31 Y9_init 0 := ⟨⟨fv_at 181 (by decide +kernel) (by decide +kernel), fv_at 44 (by decide +kernel) (by decide +kernel), kkY9_init, by decide +kernel, by decide⟩, fv_at 182 (by decide +kernel) (by decide +kernel), rfl, rfl⟩
theorem lk10_36 : fv_mIN RX10 36 Y7_init 0 := ⟨⟨by decide +kernel, fv_at 41 (by decide +kernel) (by decide +kernel), kkY7_init, by decide +kernel, by decide⟩, fv_at 77 (by decide +kernel) (by decide +kernel), rfl, rfl⟩
theorem lk10_37 : fv_mS RX10 37 Y6_figures 1 := ⟨⟨fv_at 227 (by decide +kernel) (by decide +kernel), fv_at 47 (by decide +kernel) (by decide +kernel), kkY6_figures, by decide +kernel, by decide⟩, fv_at 228 (by decide +kernel) (by decide +kernel)⟩
theorem lk10_43 : fv_mS RX10 43 Y6_falls 2 := ⟨⟨fv_at 231 (by decide +kernel) (by decide +kernel), fv_at 47 (by decide +kernel) (by decide +kernel), kkY6_falls, by decide +kernel, by decide⟩, fv_at 232 (by decide +kernel) (by decide +kernel)⟩
theorem lk10_47 : fv_mS RX10 47 Y6_swapped 4 := ⟨⟨fv_at 244 (by decide +kernel) (by decide +kernel), fv_at 47 (by decide +kernel) (by decide +kernel), kkY6_swapped, by decide +kernel, by decide⟩, fv_at 245 (by decide +kernel) (by decide +kernel)⟩
theorem lk10_51 : fv_mS RX10 51 Y6_inverted 2 := ⟨⟨fv_at 254 (by decide +kernel) (by decide +kernel), fv_at 47 (by decide +kernel) (by decide +kernel), kkY6_inverted, by decide +kernel, by decide⟩, fv_at 255 (by decide +kernel) (by decide +kernel)⟩
theorem lk10_54 : fv_mSN RX10 54 Y6_ofLength 2 := ⟨⟨by decide +kernel, fv_at 47 (by decide +kernel) (by decide +kernel), kkY6_ofLength, by decide +kernel, by decide⟩, fv_at 262 (by decide +kernel) (by decide +kernel)⟩
theorem lk10_57 : fv_mS RX10 57 Y6_risen 4 := ⟨⟨fv_at 269 (by decide +kernel) (by decide +kernel), fv_at 47 (by decide +kernel) (by decide +kernel), kkY6_risen, by decide +kernel, by decide⟩, fv_at 270 (by decide +kernel) (by decide +kernel)⟩
theorem lk10_60 : fv_mS RX10 60 Y10_isSheet 1 := ⟨⟨fv_at 281 (by decide +kernel) (by decide +kernel), fv_at 38 (by decide +kernel) (by decide +kernel), kkY10_isSheet, by decide +kernel, by decide⟩, fv_at 282 (by decide +kernel) (by decide +kernel)⟩
theorem lk10_64 : fv_mV RX10 64 Y7_clear 0 := ⟨⟨fv_at 284 (by decide +kernel) (by decide +kernel), fv_at 41 (by decide +kernel) (by decide +kernel), kkY7_clear, by decide +kernel, by decide⟩, fv_at 285 (by decide +kernel) (by decide +kernel), fv_at 286 (by decide +kernel) (by decide +kernel)⟩
theorem lk10_67 : fv_mV RX10 67 Y10_isLost 1 := ⟨⟨fv_at 292 (by decide +kernel) (by decide +kernel), fv_at 38 (by decide +kernel) (by decide +kernel), kkY10_isLost, by decide +kernel, by decide⟩, fv_at 294 (by decide +kernel) (by decide +kernel), fv_at 0 (by decide +kernel) (by decide +kernel)⟩
theorem lk10_70 : fv_mV RX10 70 Y7_size 0 := ⟨⟨fv_at 300 (by decide +kernel) (by decide +kernel), fv_at 41 (by decide +kernel) (by decide +kernel), kkY7_size, by decide +kernel, by decide⟩, fv_at 301 (by decide +kernel) (by decide +kernel), fv_at 302 (by decide +kernel) (by decide +kernel)⟩
theorem lk10_74 : fv_mV RX10 74 Y7_vanish 0 := ⟨⟨fv_at 304 (by decide +kernel) (by decide +kernel), fv_at 41 (by decide +kernel) (by decide +kernel), kkY7_vanish, by decide +kernel, by decide⟩, fv_at 305 (by decide +kernel) (by decide +kernel), fv_at 306 (by decide +kernel) (by decide +kernel)⟩
theorem lk10_77 : fv_mS RX10 77 Y10_isBeyond 1 := ⟨⟨fv_at 312 (by decide +kernel) (by decide +kernel), fv_at 38 (by decide +kernel) (by decide +kernel), kkY10_isBeyond, by decide +kernel, by decide⟩, fv_at 313 (by decide +kernel) (by decide +kernel)⟩
theorem lk10_81 : fv_mS RX10 81 Y10_areExponents 1 := ⟨⟨fv_at 317 (by decide +kernel) (by decide +kernel), fv_at 38 (by decide +kernel) (by decide +kernel), kkY10_areExponents, by decide +kernel, by decide⟩, fv_at 318 (by decide +kernel) (by decide +kernel)⟩
theorem lk10_84 : fv_mV RX10 84 Y0_join 3 := ⟨⟨fv_at 322 (by decide +kernel) (by decide +kernel), fv_at 39 (by decide +kernel) (by decide +kernel), kkY0_join, by decide +kernel, by decide⟩, fv_at 323 (by decide +kernel) (by decide +kernel), fv_at 324 (by decide +kernel) (by decide +kernel)⟩
theorem lk10_88 : fv_mV RX10 88 Y7_exponentsAt 1 := ⟨⟨fv_at 378 (by decide +kernel) (by decide +kernel), fv_at 41 (by decide +kernel) (by decide +kernel), kkY7_exponentsAt, by decide +kernel, by decide⟩, fv_at 332 (by decide +kernel) (by decide +kernel), fv_at 333 (by decide +kernel) (by decide +kernel)⟩
theorem lk10_91 : fv_mS RX10 91 Y10_refusal 1 := ⟨⟨fv_at 383 (by decide +kernel) (by decide +kernel), fv_at 38 (by decide +kernel) (by decide +kernel), kkY10_refusal, by decide +kernel, by decide⟩, fv_at 384 (by decide +kernel) (by decide +kernel)⟩
theorem lk10_95 : fv_mV RX10 95 Y7_numberOf 1 := ⟨⟨fv_at 387 (by decide +kernel) (by decide +kernel), fv_at 41 (by decide +kernel) (by decide +kernel), kkY7_numberOf, by decide +kernel, by decide⟩, fv_at 388 (by decide +kernel) (by decide +kernel), fv_at 389 (by decide +kernel) (by decide +kernel)⟩
theorem lk10_100 : fv_mV RX10 100 Y0_combine 4 := ⟨⟨fv_at 397 (by decide +kernel) (by decide +kernel), fv_at 39 (by decide +kernel) (by decide +kernel), kkY0_combine, by decide +kernel, by decide⟩, fv_at 398 (by decide +kernel) (by decide +kernel), fv_at 399 (by decide +kernel) (by decide +kernel)⟩
theorem lk10_104 : fv_mV RX10 104 Y0_multiply 3 := ⟨⟨fv_at 405 (by decide +kernel) (by decide +kernel), fv_at 39 (by decide +kernel) (by decide +kernel), kkY0_multiply, by decide +kernel, by decide⟩, fv_at 406 (by decide +kernel) (by decide +kernel), fv_at 407 (by decide +kernel) (by decide +kernel)⟩
theorem lk10_108 : fv_mV RX10 108 Y0_swapLetters 3 := ⟨⟨fv_at 431 (by decide +kernel) (by decide +kernel), fv_at 39 (by decide +kernel) (by decide +kernel), kkY0_swapLetters, by decide +kernel, by decide⟩, fv_at 432 (by decide +kernel) (by decide +kernel), fv_at 433 (by decide +kernel) (by decide +kernel)⟩
theorem lk10_112 : fv_mV RX10 112 Y0_differ 3 := ⟨⟨fv_at 440 (by decide +kernel) (by decide +kernel), fv_at 39 (by decide +kernel) (by decide +kernel), kkY0_differ, by decide +kernel, by decide⟩, fv_at 441 (by decide +kernel) (by decide +kernel), fv_at 442 (by decide +kernel) (by decide +kernel)⟩
theorem lk10_115 : fv_mV RX10 115 Y0_compose 3 := ⟨⟨fv_at 456 (by decide +kernel) (by decide +kernel), fv_at 39 (by decide +kernel) (by decide +kernel), kkY0_compose, by decide +kernel, by decide⟩, fv_at 457 (by decide +kernel) (by decide +kernel), fv_at 458 (by decide +kernel) (by decide +kernel)⟩
theorem lk10_119 : fv_mV RX10 119 Y0_partOf 3 := ⟨⟨fv_at 474 (by decide +kernel) (by decide +kernel), fv_at 39 (by decide +kernel) (by decide +kernel), kkY0_partOf, by decide +kernel, by decide⟩, fv_at 475 (by decide +kernel) (by decide +kernel), fv_at 476 (by decide +kernel) (by decide +kernel)⟩
theorem lk10_123 : fv_mV RX10 123 Y0_partOfProduct 3 := ⟨⟨fv_at 489 (by decide +kernel) (by decide +kernel), fv_at 39 (by decide +kernel) (by decide +kernel), kkY0_partOfProduct, by decide +kernel, by decide⟩, fv_at 490 (by decide +kernel) (by decide +kernel), fv_at 491 (by decide +kernel) (by decide +kernel)⟩
theorem lk10_127 : fv_mV RX10 127 Y7_isLike 1 := ⟨⟨fv_at 500 (by decide +kernel) (by decide +kernel), fv_at 41 (by decide +kernel) (by decide +kernel), kkY7_isLike, by decide +kernel, by decide⟩, fv_at 501 (by decide +kernel) (by decide +kernel), fv_at 502 (by decide +kernel) (by decide +kernel)⟩
theorem lk10_131 : fv_mS RX10 131 Y1_isBox 3 := ⟨⟨fv_at 508 (by decide +kernel) (by decide +kernel), fv_at 50 (by decide +kernel) (by decide +kernel), kkY1_isBox, by decide +kernel, by decide⟩, fv_at 509 (by decide +kernel) (by decide +kernel)⟩
theorem lk10_137 : fv_mS RX10 137 Y1_stripAt 5 := ⟨⟨fv_at 519 (by decide +kernel) (by decide +kernel), fv_at 50 (by decide +kernel) (by decide +kernel), kkY1_stripAt, by decide +kernel, by decide⟩, fv_at 520 (by decide +kernel) (by decide +kernel)⟩
theorem lk10_141 : fv_mV RX10 141 Y2_filler 0 := ⟨⟨fv_at 533 (by decide +kernel) (by decide +kernel), fv_at 42 (by decide +kernel) (by decide +kernel), kkY2_filler, by decide +kernel, by decide⟩, fv_at 534 (by decide +kernel) (by decide +kernel), fv_at 535 (by decide +kernel) (by decide +kernel)⟩
theorem lk10_145 : fv_mV RX10 145 Y4_howMany 4 := ⟨⟨fv_at 537 (by decide +kernel) (by decide +kernel), fv_at 43 (by decide +kernel) (by decide +kernel), kkY4_howMany, by decide +kernel, by decide⟩, fv_at 538 (by decide +kernel) (by decide +kernel), fv_at 539 (by decide +kernel) (by decide +kernel)⟩
theorem lk10_150 : fv_mS RX10 150 Y1_toOrder 3 := ⟨⟨fv_at 554 (by decide +kernel) (by decide +kernel), fv_at 50 (by decide +kernel) (by decide +kernel), kkY1_toOrder, by decide +kernel, by decide⟩, fv_at 555 (by decide +kernel) (by decide +kernel)⟩
theorem lk10_154 : fv_mS RX10 154 Y1_isShape 2 := ⟨⟨fv_at 561 (by decide +kernel) (by decide +kernel), fv_at 50 (by decide +kernel) (by decide +kernel), kkY1_isShape, by decide +kernel, by decide⟩, fv_at 512 (by decide +kernel) (by decide +kernel)⟩
theorem lk10_158 : fv_mV RX10 158 Y2_restart 2 := ⟨⟨fv_at 562 (by decide +kernel) (by decide +kernel), fv_at 42 (by decide +kernel) (by decide +kernel), kkY2_restart, by decide +kernel, by decide⟩, fv_at 563 (by decide +kernel) (by decide +kernel), fv_at 564 (by decide +kernel) (by decide +kernel)⟩
theorem lk10_161 : fv_mV RX10 161 Y2_rows 0 := ⟨⟨fv_at 570 (by decide +kernel) (by decide +kernel), fv_at 42 (by decide +kernel) (by decide +kernel), kkY2_rows, by decide +kernel, by decide⟩, fv_at 571 (by decide +kernel) (by decide +kernel), fv_at 572 (by decide +kernel) (by decide +kernel)⟩
theorem lk10_164 : fv_mV RX10 164 Y2_columns 0 := ⟨⟨fv_at 574 (by decide +kernel) (by decide +kernel), fv_at 42 (by decide +kernel) (by decide +kernel), kkY2_columns, by decide +kernel, by decide⟩, fv_at 575 (by decide +kernel) (by decide +kernel), fv_at 576 (by decide +kernel) (by decide +kernel)⟩
theorem lk10_167 : fv_mV RX10 167 Y2_append 1 := ⟨⟨fv_at 578 (by decide +kernel) (by decide +kernel), fv_at 42 (by decide +kernel) (by decide +kernel), kkY2_append, by decide +kernel, by decide⟩, fv_at 579 (by decide +kernel) (by decide +kernel), fv_at 580 (by decide +kernel) (by decide +kernel)⟩
theorem lk10_170 : fv_mV RX10 170 Y2_total 0 := ⟨⟨fv_at 586 (by decide +kernel) (by decide +kernel), fv_at 42 (by decide +kernel) (by decide +kernel), kkY2_total, by decide +kernel, by decide⟩, fv_at 587 (by decide +kernel) (by decide +kernel), fv_at 588 (by decide +kernel) (by decide +kernel)⟩
theorem lk10_174 : fv_mV RX10 174 Y9_change 1 := ⟨⟨fv_at 604 (by decide +kernel) (by decide +kernel), fv_at 44 (by decide +kernel) (by decide +kernel), kkY9_change, by decide +kernel, by decide⟩, fv_at 605 (by decide +kernel) (by decide +kernel), fv_at 606 (by decide +kernel) (by decide +kernel)⟩
theorem lk10_177 : fv_mS RX10 177 Y9_isRod 1 := ⟨⟨fv_at 616 (by decide +kernel) (by decide +kernel), fv_at 44 (by decide +kernel) (by decide +kernel), kkY9_isRod, by decide +kernel, by decide⟩, fv_at 617 (by decide +kernel) (by decide +kernel)⟩
theorem lk10_180 : fv_mV RX10 180 Y9_isPoint 1 := ⟨⟨fv_at 619 (by decide +kernel) (by decide +kernel), fv_at 44 (by decide +kernel) (by decide +kernel), kkY9_isPoint, by decide +kernel, by decide⟩, fv_at 620 (by decide +kernel) (by decide +kernel), fv_at 621 (by decide +kernel) (by decide +kernel)⟩
theorem lk10_183 : fv_mV RX10 183 Y9_lay 3 := ⟨⟨fv_at 628 (by decide +kernel) (by decide +kernel), fv_at 44 (by decide +kernel) (by decide +kernel), kkY9_lay, by decide +kernel, by decide⟩, fv_at 629 (by decide +kernel) (by decide +kernel), fv_at 630 (by decide +kernel) (by decide +kernel)⟩
theorem lk10_186 : fv_mV RX10 186 Y9_remove 1 := ⟨⟨fv_at 656 (by decide +kernel) (by decide +kernel), fv_at 44 (by decide +kernel) (by decide +kernel), kkY9_remove, by decide +kernel, by decide⟩, fv_at 657 (by decide +kernel) (by decide +kernel), fv_at 658 (by decide +kernel) (by decide +kernel)⟩
theorem lk10_189 : fv_mV RX10 189 Y9_howMet 2 := ⟨⟨fv_at 668 (by decide +kernel) (by decide +kernel), fv_at 44 (by decide +kernel) (by decide +kernel), kkY9_howMet, by decide +kernel, by decide⟩, fv_at 669 (by decide +kernel) (by decide +kernel), fv_at 670 (by decide +kernel) (by decide +kernel)⟩
theorem lk10_192 : fv_mS RX10 192 Y9_areBits 1 := ⟨⟨fv_at 684 (by decide +kernel) (by decide +kernel), fv_at 44 (by decide +kernel) (by decide +kernel), kkY9_areBits, by decide +kernel, by decide⟩, fv_at 685 (by decide +kernel) (by decide +kernel)⟩
theorem lk10_195 : fv_mV RX10 195 Y9_areThere 1 := ⟨⟨fv_at 687 (by decide +kernel) (by decide +kernel), fv_at 44 (by decide +kernel) (by decide +kernel), kkY9_areThere, by decide +kernel, by decide⟩, fv_at 688 (by decide +kernel) (by decide +kernel), fv_at 689 (by decide +kernel) (by decide +kernel)⟩
theorem lk10_198 : fv_mV RX10 198 Y9_linesMeeting 1 := ⟨⟨fv_at 694 (by decide +kernel) (by decide +kernel), fv_at 44 (by decide +kernel) (by decide +kernel), kkY9_linesMeeting, by decide +kernel, by decide⟩, fv_at 695 (by decide +kernel) (by decide +kernel), fv_at 696 (by decide +kernel) (by decide +kernel)⟩
theorem lk10_201 : fv_mV RX10 201 Y9_pointsOn 1 := ⟨⟨fv_at 714 (by decide +kernel) (by decide +kernel), fv_at 44 (by decide +kernel) (by decide +kernel), kkY9_pointsOn, by decide +kernel, by decide⟩, fv_at 715 (by decide +kernel) (by decide +kernel), fv_at 716 (by decide +kernel) (by decide +kernel)⟩
theorem lk10_204 : fv_mV RX10 204 Y10_keptSheets 0 := ⟨⟨fv_at 734 (by decide +kernel) (by decide +kernel), fv_at 38 (by decide +kernel) (by decide +kernel), kkY10_keptSheets, by decide +kernel, by decide⟩, fv_at 736 (by decide +kernel) (by decide +kernel), fv_at 11 (by decide +kernel) (by decide +kernel)⟩
theorem lk10_207 : fv_mV RX10 207 Y2_size 0 := ⟨⟨fv_at 738 (by decide +kernel) (by decide +kernel), fv_at 42 (by decide +kernel) (by decide +kernel), kkY2_size, by decide +kernel, by decide⟩, fv_at 739 (by decide +kernel) (by decide +kernel), fv_at 740 (by decide +kernel) (by decide +kernel)⟩
theorem lk10_208 : fv_mV RX10 208 Y9_order 0 := ⟨⟨fv_at 742 (by decide +kernel) (by decide +kernel), fv_at 44 (by decide +kernel) (by decide +kernel), kkY9_order, by decide +kernel, by decide⟩, fv_at 743 (by decide +kernel) (by decide +kernel), fv_at 744 (by decide +kernel) (by decide +kernel)⟩
theorem lk10_211 : fv_mV RX10 211 Y9_rodsThere 0 := ⟨⟨fv_at 746 (by decide +kernel) (by decide +kernel), fv_at 44 (by decide +kernel) (by decide +kernel), kkY9_rodsThere, by decide +kernel, by decide⟩, fv_at 747 (by decide +kernel) (by decide +kernel), fv_at 748 (by decide +kernel) (by decide +kernel)⟩
theorem lk10_218 : fv_mV RX10 218 Y10_count 1 := ⟨⟨fv_at 756 (by decide +kernel) (by decide +kernel), fv_at 38 (by decide +kernel) (by decide +kernel), kkY10_count, by decide +kernel, by decide⟩, fv_at 731 (by decide +kernel) (by decide +kernel), fv_at 732 (by decide +kernel) (by decide +kernel)⟩
theorem lk10_221 : fv_mV RX10 221 Y7_digestOn 1 := ⟨⟨fv_at 757 (by decide +kernel) (by decide +kernel), fv_at 41 (by decide +kernel) (by decide +kernel), kkY7_digestOn, by decide +kernel, by decide⟩, fv_at 758 (by decide +kernel) (by decide +kernel), fv_at 759 (by decide +kernel) (by decide +kernel)⟩
theorem lk10_225 : fv_mV RX10 225 Y2_digestOn 1 := ⟨⟨fv_at 762 (by decide +kernel) (by decide +kernel), fv_at 42 (by decide +kernel) (by decide +kernel), kkY2_digestOn, by decide +kernel, by decide⟩, fv_at 763 (by decide +kernel) (by decide +kernel), fv_at 764 (by decide +kernel) (by decide +kernel)⟩
theorem lk10_226 : fv_mV RX10 226 Y7_isThere 0 := ⟨⟨fv_at 296 (by decide +kernel) (by decide +kernel), fv_at 41 (by decide +kernel) (by decide +kernel), kkY7_isThere, by decide +kernel, by decide⟩, fv_at 297 (by decide +kernel) (by decide +kernel), fv_at 298 (by decide +kernel) (by decide +kernel)⟩
theorem lk10_235 : fv_mS RX10 235 Y3_at 2 := ⟨⟨fv_at 321 (by decide +kernel) (by decide +kernel), fv_at 48 (by decide +kernel) (by decide +kernel), kkY3_at, by decide +kernel, by decide⟩, fv_at 238 (by decide +kernel) (by decide +kernel)⟩
theorem lk11_119 : fv_mV RX11 119 Y11_lookAtPoints 0 := ⟨⟨fv_at 774 (by decide +kernel) (by decide +kernel), fv_at 46 (by decide +kernel) (by decide +kernel), kkY11_lookAtPoints, by decide +kernel, by decide⟩, fv_at 776 (by decide +kernel) (by decide +kernel), fv_at 12 (by decide +kernel) (by decide +kernel)⟩
theorem lk11_126 : fv_mS RX11 126 Y11_in 3 := ⟨⟨fv_at 906 (by decide +kernel) (by decide +kernel), fv_at 46 (by decide +kernel) (by decide +kernel), kkY11_in, by decide +kernel, by decide⟩, fv_at 907 (by decide +kernel) (by decide +kernel)⟩
theorem lk11_133 : fv_mV RX11 133 Y11_reads 1 := ⟨⟨fv_at 901 (by decide +kernel) (by decide +kernel), fv_at 46 (by decide +kernel) (by decide +kernel), kkY11_reads, by decide +kernel, by decide⟩, fv_at 903 (by decide +kernel) (by decide +kernel), fv_at 14 (by decide +kernel) (by decide +kernel)⟩
theorem lk11_137 : fv_mV RX11 137 Y11_lengthNow 0 := ⟨⟨fv_at 909 (by decide +kernel) (by decide +kernel), fv_at 46 (by decide +kernel) (by decide +kernel), kkY11_lengthNow, by decide +kernel, by decide⟩, fv_at 911 (by decide +kernel) (by decide +kernel), fv_at 15 (by decide +kernel) (by decide +kernel)⟩
theorem lk11_141 : fv_mV RX11 141 Y11_change 2 := ⟨⟨fv_at 917 (by decide +kernel) (by decide +kernel), fv_at 46 (by decide +kernel) (by decide +kernel), kkY11_change, by decide +kernel, by decide⟩, fv_at 919 (by decide +kernel) (by decide +kernel), fv_at 16 (by decide +kernel) (by decide +kernel)⟩
theorem lk11_145 : fv_mV RX11 145 Y11_told 0 := ⟨⟨fv_at 921 (by decide +kernel) (by decide +kernel), fv_at 46 (by decide +kernel) (by decide +kernel), kkY11_told, by decide +kernel, by decide⟩, fv_at 923 (by decide +kernel) (by decide +kernel), fv_at 17 (by decide +kernel) (by decide +kernel)⟩
theorem lk11_154 : fv_mS RX11 154 Y11_placeOf 1 := ⟨⟨fv_at 956 (by decide +kernel) (by decide +kernel), fv_at 46 (by decide +kernel) (by decide +kernel), kkY11_placeOf, by decide +kernel, by decide⟩, fv_at 957 (by decide +kernel) (by decide +kernel)⟩
theorem lk11_162 : fv_mV RX11 162 Y11_tooMuch 0 := ⟨⟨fv_at 972 (by decide +kernel) (by decide +kernel), fv_at 46 (by decide +kernel) (by decide +kernel), kkY11_tooMuch, by decide +kernel, by decide⟩, fv_at 974 (by decide +kernel) (by decide +kernel), fv_at 21 (by decide +kernel) (by decide +kernel)⟩
theorem lk11_166 : fv_mS RX11 166 Y11_toldOf 1 := ⟨⟨fv_at 977 (by decide +kernel) (by decide +kernel), fv_at 46 (by decide +kernel) (by decide +kernel), kkY11_toldOf, by decide +kernel, by decide⟩, fv_at 978 (by decide +kernel) (by decide +kernel)⟩
theorem lk11_169 : fv_mS RX11 169 Y11_isSheet 1 := ⟨⟨fv_at 942 (by decide +kernel) (by decide +kernel), fv_at 46 (by decide +kernel) (by decide +kernel), kkY11_isSheet, by decide +kernel, by decide⟩, fv_at 943 (by decide +kernel) (by decide +kernel)⟩
theorem lk11_172 : fv_mV RX11 172 Y11_wipe 0 := ⟨⟨fv_at 960 (by decide +kernel) (by decide +kernel), fv_at 46 (by decide +kernel) (by decide +kernel), kkY11_wipe, by decide +kernel, by decide⟩, fv_at 962 (by decide +kernel) (by decide +kernel), fv_at 18 (by decide +kernel) (by decide +kernel)⟩
theorem lk11_175 : fv_mV RX11 175 Y11_takes 2 := ⟨⟨fv_at 964 (by decide +kernel) (by decide +kernel), fv_at 46 (by decide +kernel) (by decide +kernel), kkY11_takes, by decide +kernel, by decide⟩, fv_at 966 (by decide +kernel) (by decide +kernel), fv_at 19 (by decide +kernel) (by decide +kernel)⟩
theorem lk11_179 : fv_mV RX11 179 Y11_lays 1 := ⟨⟨fv_at 968 (by decide +kernel) (by decide +kernel), fv_at 46 (by decide +kernel) (by decide +kernel), kkY11_lays, by decide +kernel, by decide⟩, fv_at 970 (by decide +kernel) (by decide +kernel), fv_at 20 (by decide +kernel) (by decide +kernel)⟩
theorem lk11_182 : fv_mS RX11 182 Y11_no 1 := ⟨⟨fv_at 992 (by decide +kernel) (by decide +kernel), fv_at 46 (by decide +kernel) (by decide +kernel), kkY11_no, by decide +kernel, by decide⟩, fv_at 993 (by decide +kernel) (by decide +kernel)⟩
theorem lk11_190 : fv_mV RX11 190 Y11_highest 2 := ⟨⟨fv_at 1006 (by decide +kernel) (by decide +kernel), fv_at 46 (by decide +kernel) (by decide +kernel), kkY11_highest, by decide +kernel, by decide⟩, fv_at 1008 (by decide +kernel) (by decide +kernel), fv_at 22 (by decide +kernel) (by decide +kernel)⟩
theorem lk11_196 : fv_mS RX11 196 Y11_nines 1 := ⟨⟨fv_at 1015 (by decide +kernel) (by decide +kernel), fv_at 46 (by decide +kernel) (by decide +kernel), kkY11_nines, by decide +kernel, by decide⟩, fv_at 1016 (by decide +kernel) (by decide +kernel)⟩
theorem lk11_199 : fv_mV RX11 199 Y11_differ 1 := ⟨⟨fv_at 1022 (by decide +kernel) (by decide +kernel), fv_at 46 (by decide +kernel) (by decide +kernel), kkY11_differ, by decide +kernel, by decide⟩, fv_at 1024 (by decide +kernel) (by decide +kernel), fv_at 23 (by decide +kernel) (by decide +kernel)⟩
theorem lk11_203 : fv_mV RX11 203 Y11_makes 1 := ⟨⟨fv_at 1030 (by decide +kernel) (by decide +kernel), fv_at 46 (by decide +kernel) (by decide +kernel), kkY11_makes, by decide +kernel, by decide⟩, fv_at 1032 (by decide +kernel) (by decide +kernel), fv_at 24 (by decide +kernel) (by decide +kernel)⟩
theorem lk11_206 : fv_mV RX11 206 Y11_parts 2 := ⟨⟨fv_at 1038 (by decide +kernel) (by decide +kernel), fv_at 46 (by decide +kernel) (by decide +kernel), kkY11_parts, by decide +kernel, by decide⟩, fv_at 1040 (by decide +kernel) (by decide +kernel), fv_at 25 (by decide +kernel) (by decide +kernel)⟩
theorem lk11_210 : fv_mS RX11 210 Y11_areSides 2 := ⟨⟨fv_at 1054 (by decide +kernel) (by decide +kernel), fv_at 46 (by decide +kernel) (by decide +kernel), kkY11_areSides, by decide +kernel, by decide⟩, fv_at 1055 (by decide +kernel) (by decide +kernel)⟩
theorem lk11_214 : fv_mS RX11 214 Y11_isBox 4 := ⟨⟨fv_at 1057 (by decide +kernel) (by decide +kernel), fv_at 46 (by decide +kernel) (by decide +kernel), kkY11_isBox, by decide +kernel, by decide⟩, fv_at 1058 (by decide +kernel) (by decide +kernel)⟩
theorem lk11_220 : fv_mS RX11 220 Y11_tens 1 := ⟨⟨fv_at 1061 (by decide +kernel) (by decide +kernel), fv_at 46 (by decide +kernel) (by decide +kernel), kkY11_tens, by decide +kernel, by decide⟩, fv_at 1062 (by decide +kernel) (by decide +kernel)⟩
theorem lk11_223 : fv_mS RX11 223 Y11_sizeOf 2 := ⟨⟨fv_at 1064 (by decide +kernel) (by decide +kernel), fv_at 46 (by decide +kernel) (by decide +kernel), kkY11_sizeOf, by decide +kernel, by decide⟩, fv_at 1065 (by decide +kernel) (by decide +kernel)⟩
theorem lk11_227 : fv_mV RX11 227 Y11_mayStand 3 := ⟨⟨fv_at 1075 (by decide +kernel) (by decide +kernel), fv_at 46 (by decide +kernel) (by decide +kernel), kkY11_mayStand, by decide +kernel, by decide⟩, fv_at 1077 (by decide +kernel) (by decide +kernel), fv_at 27 (by decide +kernel) (by decide +kernel)⟩
theorem lk11_231 : fv_mV RX11 231 Y11_fills 1 := ⟨⟨fv_at 1071 (by decide +kernel) (by decide +kernel), fv_at 46 (by decide +kernel) (by decide +kernel), kkY11_fills, by decide +kernel, by decide⟩, fv_at 1073 (by decide +kernel) (by decide +kernel), fv_at 26 (by decide +kernel) (by decide +kernel)⟩
theorem lk11_237 : fv_mV RX11 237 Y11_mixed 4 := ⟨⟨fv_at 778 (by decide +kernel) (by decide +kernel), fv_at 46 (by decide +kernel) (by decide +kernel), kkY11_mixed, by decide +kernel, by decide⟩, fv_at 780 (by decide +kernel) (by decide +kernel), fv_at 13 (by decide +kernel) (by decide +kernel)⟩
theorem lk11_243 : fv_mV RX11 243 Y11_drops 0 := ⟨⟨fv_at 1099 (by decide +kernel) (by decide +kernel), fv_at 46 (by decide +kernel) (by decide +kernel), kkY11_drops, by decide +kernel, by decide⟩, fv_at 1101 (by decide +kernel) (by decide +kernel), fv_at 28 (by decide +kernel) (by decide +kernel)⟩
theorem lk11_248 : fv_mV RX11 248 Y11_pointOf 1 := ⟨⟨fv_at 1108 (by decide +kernel) (by decide +kernel), fv_at 46 (by decide +kernel) (by decide +kernel), kkY11_pointOf, by decide +kernel, by decide⟩, fv_at 1110 (by decide +kernel) (by decide +kernel), fv_at 29 (by decide +kernel) (by decide +kernel)⟩
theorem lk11_251 : fv_mV RX11 251 Y11_evened 1 := ⟨⟨fv_at 1113 (by decide +kernel) (by decide +kernel), fv_at 46 (by decide +kernel) (by decide +kernel), kkY11_evened, by decide +kernel, by decide⟩, fv_at 1115 (by decide +kernel) (by decide +kernel), fv_at 30 (by decide +kernel) (by decide +kernel)⟩
theorem lk11_254 : fv_mV RX11 254 Y11_onLine 3 := ⟨⟨fv_at 1133 (by decide +kernel) (by decide +kernel), fv_at 46 (by decide +kernel) (by decide +kernel), kkY11_onLine, by decide +kernel, by decide⟩, fv_at 1135 (by decide +kernel) (by decide +kernel), fv_at 33 (by decide +kernel) (by decide +kernel)⟩
theorem lk11_258 : fv_mV RX11 258 Y11_wipeMarks 1 := ⟨⟨fv_at 1125 (by decide +kernel) (by decide +kernel), fv_at 46 (by decide +kernel) (by decide +kernel), kkY11_wipeMarks, by decide +kernel, by decide⟩, fv_at 1127 (by decide +kernel) (by decide +kernel), fv_at 31 (by decide +kernel) (by decide +kernel)⟩
theorem lk11_262 : fv_mV RX11 262 Y11_marks 3 := ⟨⟨fv_at 1129 (by decide +kernel) (by decide +kernel), fv_at 46 (by decide +kernel) (by decide +kernel), kkY11_marks, by decide +kernel, by decide⟩, fv_at 1131 (by decide +kernel) (by decide +kernel), fv_at 32 (by decide +kernel) (by decide +kernel)⟩
theorem lk11_271 : fv_mV RX11 271 Y11_areThere 1 := ⟨⟨fv_at 1142 (by decide +kernel) (by decide +kernel), fv_at 46 (by decide +kernel) (by decide +kernel), kkY11_areThere, by decide +kernel, by decide⟩, fv_at 1144 (by decide +kernel) (by decide +kernel), fv_at 34 (by decide +kernel) (by decide +kernel)⟩
theorem lk11_274 : fv_mV RX11 274 Y11_lookAtRods 1 := ⟨⟨fv_at 1146 (by decide +kernel) (by decide +kernel), fv_at 46 (by decide +kernel) (by decide +kernel), kkY11_lookAtRods, by decide +kernel, by decide⟩, fv_at 1148 (by decide +kernel) (by decide +kernel), fv_at 35 (by decide +kernel) (by decide +kernel)⟩
theorem lk11_277 : fv_mV RX11 277 Y11_areLeast 2 := ⟨⟨fv_at 1150 (by decide +kernel) (by decide +kernel), fv_at 46 (by decide +kernel) (by decide +kernel), kkY11_areLeast, by decide +kernel, by decide⟩, fv_at 1152 (by decide +kernel) (by decide +kernel), fv_at 36 (by decide +kernel) (by decide +kernel)⟩
theorem lk11_284 : fv_mV RX11 284 Y11_count 1 := ⟨⟨fv_at 1168 (by decide +kernel) (by decide +kernel), fv_at 46 (by decide +kernel) (by decide +kernel), kkY11_count, by decide +kernel, by decide⟩, fv_at 1159 (by decide +kernel) (by decide +kernel), fv_at 1160 (by decide +kernel) (by decide +kernel)⟩
theorem lk2_11 : fv_mIN RX2 11 Y4_init 0 := ⟨⟨by decide +kernel, fv_at 43 (by decide +kernel) (by decide +kernel), kkY4_init, by decide +kernel, by decide⟩, fv_at 133 (by decide +kernel) (by decide +kernel), rfl, rfl⟩
theorem lk2_42 : fv_mSN RX2 42 Y1_gather 5 := ⟨⟨by decide +kernel, fv_at 50 (by decide +kernel) (by decide +kernel), kkY1_gather, by decide +kernel, by decide⟩, fv_at 591 (by decide +kernel) (by decide +kernel)⟩
theorem lk2_48 : fv_mS RX2 48 YJ9_min 2 := ⟨⟨fv_at 594 (by decide +kernel) (by decide +kernel), fv_at 49 (by decide +kernel) (by decide +kernel), kkYJ9_min, by decide +kernel, by decide⟩, fv_at 355 (by decide +kernel) (by decide +kernel)⟩
theorem lk2_54 : fv_mV RX2 54 Y2_putOn 2 := ⟨⟨fv_at 595 (by decide +kernel) (by decide +kernel), fv_at 42 (by decide +kernel) (by decide +kernel), kkY2_putOn, by decide +kernel, by decide⟩, fv_at 597 (by decide +kernel) (by decide +kernel), fv_at 4 (by decide +kernel) (by decide +kernel)⟩
theorem lk2_58 : fv_mV RX2 58 Y4_howMany 4 := ⟨⟨fv_at 599 (by decide +kernel) (by decide +kernel), fv_at 43 (by decide +kernel) (by decide +kernel), kkY4_howMany, by decide +kernel, by decide⟩, fv_at 538 (by decide +kernel) (by decide +kernel), fv_at 539 (by decide +kernel) (by decide +kernel)⟩
theorem lk4_29 : fv_mS RX4 29 Y1_places 2 := ⟨⟨fv_at 541 (by decide +kernel) (by decide +kernel), fv_at 50 (by decide +kernel) (by decide +kernel), kkY1_places, by decide +kernel, by decide⟩, fv_at 542 (by decide +kernel) (by decide +kernel)⟩
theorem lk4_35 : fv_mS RX4 35 Y1_figure 3 := ⟨⟨fv_at 544 (by decide +kernel) (by decide +kernel), fv_at 50 (by decide +kernel) (by decide +kernel), kkY1_figure, by decide +kernel, by decide⟩, fv_at 516 (by decide +kernel) (by decide +kernel)⟩
theorem lk4_39 : fv_mS RX4 39 YJ9_min 2 := ⟨⟨fv_at 545 (by decide +kernel) (by decide +kernel), fv_at 49 (by decide +kernel) (by decide +kernel), kkYJ9_min, by decide +kernel, by decide⟩, fv_at 355 (by decide +kernel) (by decide +kernel)⟩
theorem lk4_44 : fv_mS RX4 44 Y4_fill 4 := ⟨⟨fv_at 546 (by decide +kernel) (by decide +kernel), fv_at 43 (by decide +kernel) (by decide +kernel), kkY4_fill, by decide +kernel, by decide⟩, fv_at 547 (by decide +kernel) (by decide +kernel)⟩
theorem lk4_48 : fv_mS RX4 48 YJ9_max 2 := ⟨⟨fv_at 549 (by decide +kernel) (by decide +kernel), fv_at 49 (by decide +kernel) (by decide +kernel), kkYJ9_max, by decide +kernel, by decide⟩, fv_at 422 (by decide +kernel) (by decide +kernel)⟩
theorem lk5_17 : fv_mS RX5 17 Y9_figure 2 := ⟨⟨fv_at 637 (by decide +kernel) (by decide +kernel), fv_at 44 (by decide +kernel) (by decide +kernel), kkY9_figure, by decide +kernel, by decide⟩, fv_at 625 (by decide +kernel) (by decide +kernel)⟩
theorem lk5_23 : fv_mS RX5 23 Y5_rest 2 := ⟨⟨fv_at 638 (by decide +kernel) (by decide +kernel), fv_at 45 (by decide +kernel) (by decide +kernel), kkY5_rest, by decide +kernel, by decide⟩, fv_at 639 (by decide +kernel) (by decide +kernel)⟩
theorem lk5_26 : fv_mV RX5 26 Y5_normalize 1 := ⟨⟨fv_at 644 (by decide +kernel) (by decide +kernel), fv_at 45 (by decide +kernel) (by decide +kernel), kkY5_normalize, by decide +kernel, by decide⟩, fv_at 646 (by decide +kernel) (by decide +kernel), fv_at 5 (by decide +kernel) (by decide +kernel)⟩
theorem lk5_30 : fv_mV RX5 30 Y5_pair 2 := ⟨⟨fv_at 726 (by decide +kernel) (by decide +kernel), fv_at 45 (by decide +kernel) (by decide +kernel), kkY5_pair, by decide +kernel, by decide⟩, fv_at 728 (by decide +kernel) (by decide +kernel), fv_at 10 (by decide +kernel) (by decide +kernel)⟩
theorem lk5_33 : fv_mS RX5 33 YJ9_floorMod 2 := ⟨⟨fv_at 641 (by decide +kernel) (by decide +kernel), fv_at 49 (by decide +kernel) (by decide +kernel), kkYJ9_floorMod, by decide +kernel, by decide⟩, fv_at 642 (by decide +kernel) (by decide +kernel)⟩
theorem lk6_10 : fv_mS RX6 10 Y3_at 2 := ⟨⟨fv_at 237 (by decide +kernel) (by decide +kernel), fv_at 48 (by decide +kernel) (by decide +kernel), kkY3_at, by decide +kernel, by decide⟩, fv_at 238 (by decide +kernel) (by decide +kernel)⟩
theorem lk6_16 : fv_mS RX6 16 Y6_figure 3 := ⟨⟨fv_at 234 (by decide +kernel) (by decide +kernel), fv_at 47 (by decide +kernel) (by decide +kernel), kkY6_figure, by decide +kernel, by decide⟩, fv_at 235 (by decide +kernel) (by decide +kernel)⟩
theorem lk6_22 : fv_mS RX6 22 Y3_power 2 := ⟨⟨fv_at 247 (by decide +kernel) (by decide +kernel), fv_at 48 (by decide +kernel) (by decide +kernel), kkY3_power, by decide +kernel, by decide⟩, fv_at 248 (by decide +kernel) (by decide +kernel)⟩
theorem lk6_25 : fv_mS RX6 25 Y6_ofLength 2 := ⟨⟨fv_at 264 (by decide +kernel) (by decide +kernel), fv_at 47 (by decide +kernel) (by decide +kernel), kkY6_ofLength, by decide +kernel, by decide⟩, fv_at 262 (by decide +kernel) (by decide +kernel)⟩
theorem lk6_28 : fv_mS RX6 28 Y6_leastRisen 4 := ⟨⟨fv_at 272 (by decide +kernel) (by decide +kernel), fv_at 47 (by decide +kernel) (by decide +kernel), kkY6_leastRisen, by decide +kernel, by decide⟩, fv_at 273 (by decide +kernel) (by decide +kernel)⟩
theorem lk6_32 : fv_mS RX6 32 Y6_falls 2 := ⟨⟨fv_at 275 (by decide +kernel) (by decide +kernel), fv_at 47 (by decide +kernel) (by decide +kernel), kkY6_falls, by decide +kernel, by decide⟩, fv_at 232 (by decide +kernel) (by decide +kernel)⟩
theorem lk6_35 : fv_mS RX6 35 Y6_swapped 4 := ⟨⟨fv_at 276 (by decide +kernel) (by decide +kernel), fv_at 47 (by decide +kernel) (by decide +kernel), kkY6_swapped, by decide +kernel, by decide⟩, fv_at 245 (by decide +kernel) (by decide +kernel)⟩
theorem lk7_26 : fv_mV RX7 26 Y7_exponentsAt 1 := ⟨⟨fv_at 367 (by decide +kernel) (by decide +kernel), fv_at 41 (by decide +kernel) (by decide +kernel), kkY7_exponentsAt, by decide +kernel, by decide⟩, fv_at 332 (by decide +kernel) (by decide +kernel), fv_at 333 (by decide +kernel) (by decide +kernel)⟩
theorem lk7_30 : fv_mV RX7 30 Y7_numberAt 1 := ⟨⟨fv_at 368 (by decide +kernel) (by decide +kernel), fv_at 41 (by decide +kernel) (by decide +kernel), kkY7_numberAt, by decide +kernel, by decide⟩, fv_at 336 (by decide +kernel) (by decide +kernel), fv_at 337 (by decide +kernel) (by decide +kernel)⟩
theorem lk7_33 : fv_mS RX7 33 Y3_at 2 := ⟨⟨fv_at 420 (by decide +kernel) (by decide +kernel), fv_at 48 (by decide +kernel) (by decide +kernel), kkY3_at, by decide +kernel, by decide⟩, fv_at 238 (by decide +kernel) (by decide +kernel)⟩
theorem lk7_39 : fv_mV RX7 39 Y7_exponentAt 2 := ⟨⟨fv_at 416 (by decide +kernel) (by decide +kernel), fv_at 41 (by decide +kernel) (by decide +kernel), kkY7_exponentAt, by decide +kernel, by decide⟩, fv_at 417 (by decide +kernel) (by decide +kernel), fv_at 418 (by decide +kernel) (by decide +kernel)⟩
theorem lk7_42 : fv_mS RX7 42 YJ9_max 2 := ⟨⟨fv_at 421 (by decide +kernel) (by decide +kernel), fv_at 49 (by decide +kernel) (by decide +kernel), kkYJ9_max, by decide +kernel, by decide⟩, fv_at 422 (by decide +kernel) (by decide +kernel)⟩
theorem lk7_47 : fv_mV RX7 47 Y7_clear 0 := ⟨⟨fv_at 366 (by decide +kernel) (by decide +kernel), fv_at 41 (by decide +kernel) (by decide +kernel), kkY7_clear, by decide +kernel, by decide⟩, fv_at 285 (by decide +kernel) (by decide +kernel), fv_at 286 (by decide +kernel) (by decide +kernel)⟩
theorem lk7_50 : fv_mV RX7 50 Y7_append 2 := ⟨⟨fv_at 369 (by decide +kernel) (by decide +kernel), fv_at 41 (by decide +kernel) (by decide +kernel), kkY7_append, by decide +kernel, by decide⟩, fv_at 359 (by decide +kernel) (by decide +kernel), fv_at 360 (by decide +kernel) (by decide +kernel)⟩
theorem lk8_22 : fv_mIN RX8 22 Y7_init 0 := ⟨⟨by decide +kernel, fv_at 41 (by decide +kernel) (by decide +kernel), kkY7_init, by decide +kernel, by decide⟩, fv_at 77 (by decide +kernel) (by decide +kernel), rfl, rfl⟩
theorem lk8_36 : fv_mV RX8 36 Y7_size 0 := ⟨⟨fv_at 330 (by decide +kernel) (by decide +kernel), fv_at 41 (by decide +kernel) (by decide +kernel), kkY7_size, by decide +kernel, by decide⟩, fv_at 301 (by decide +kernel) (by decide +kernel), fv_at 302 (by decide +kernel) (by decide +kernel)⟩
theorem lk8_40 : fv_mV RX8 40 Y7_exponentsAt 1 := ⟨⟨fv_at 331 (by decide +kernel) (by decide +kernel), fv_at 41 (by decide +kernel) (by decide +kernel), kkY7_exponentsAt, by decide +kernel, by decide⟩, fv_at 332 (by decide +kernel) (by decide +kernel), fv_at 333 (by decide +kernel) (by decide +kernel)⟩
theorem lk8_44 : fv_mV RX8 44 Y7_numberAt 1 := ⟨⟨fv_at 335 (by decide +kernel) (by decide +kernel), fv_at 41 (by decide +kernel) (by decide +kernel), kkY7_numberAt, by decide +kernel, by decide⟩, fv_at 336 (by decide +kernel) (by decide +kernel), fv_at 337 (by decide +kernel) (by decide +kernel)⟩
theorem lk8_47 : fv_mV RX8 47 Y8_pour 2 := ⟨⟨fv_at 339 (by decide +kernel) (by decide +kernel), fv_at 40 (by decide +kernel) (by decide +kernel), kkY8_pour, by decide +kernel, by decide⟩, fv_at 340 (by decide +kernel) (by decide +kernel), fv_at 341 (by decide +kernel) (by decide +kernel)⟩
theorem lk8_51 : fv_mV RX8 51 Y7_clear 0 := ⟨⟨fv_at 349 (by decide +kernel) (by decide +kernel), fv_at 41 (by decide +kernel) (by decide +kernel), kkY7_clear, by decide +kernel, by decide⟩, fv_at 285 (by decide +kernel) (by decide +kernel), fv_at 286 (by decide +kernel) (by decide +kernel)⟩
theorem lk8_54 : fv_mV RX8 54 Y8_takeOut 1 := ⟨⟨fv_at 350 (by decide +kernel) (by decide +kernel), fv_at 40 (by decide +kernel) (by decide +kernel), kkY8_takeOut, by decide +kernel, by decide⟩, fv_at 352 (by decide +kernel) (by decide +kernel), fv_at 1 (by decide +kernel) (by decide +kernel)⟩
theorem lk8_58 : fv_mV RX8 58 Y7_copy 1 := ⟨⟨fv_at 362 (by decide +kernel) (by decide +kernel), fv_at 41 (by decide +kernel) (by decide +kernel), kkY7_copy, by decide +kernel, by decide⟩, fv_at 363 (by decide +kernel) (by decide +kernel), fv_at 364 (by decide +kernel) (by decide +kernel)⟩
theorem lk8_62 : fv_mS RX8 62 YJ9_min 2 := ⟨⟨fv_at 354 (by decide +kernel) (by decide +kernel), fv_at 49 (by decide +kernel) (by decide +kernel), kkYJ9_min, by decide +kernel, by decide⟩, fv_at 355 (by decide +kernel) (by decide +kernel)⟩
theorem lk8_68 : fv_mSN RX8 68 Y10_isBeyond 1 := ⟨⟨by decide +kernel, fv_at 38 (by decide +kernel) (by decide +kernel), kkY10_isBeyond, by decide +kernel, by decide⟩, fv_at 313 (by decide +kernel) (by decide +kernel)⟩
theorem lk8_72 : fv_mV RX8 72 Y7_append 2 := ⟨⟨fv_at 358 (by decide +kernel) (by decide +kernel), fv_at 41 (by decide +kernel) (by decide +kernel), kkY7_append, by decide +kernel, by decide⟩, fv_at 359 (by decide +kernel) (by decide +kernel), fv_at 360 (by decide +kernel) (by decide +kernel)⟩
theorem lk9_17 : fv_mIN RX9 17 Y5_init 0 := ⟨⟨by decide +kernel, fv_at 45 (by decide +kernel) (by decide +kernel), kkY5_init, by decide +kernel, by decide⟩, fv_at 189 (by decide +kernel) (by decide +kernel), rfl, rfl⟩
theorem lk9_26 : fv_mS RX9 26 Y3_at 2 := ⟨⟨fv_at 627 (by decide +kernel) (by decide +kernel), fv_at 48 (by decide +kernel) (by decide +kernel), kkY3_at, by decide +kernel, by decide⟩, fv_at 238 (by decide +kernel) (by decide +kernel)⟩
theorem lk9_32 : fv_mS RX9 32 Y3_power 2 := ⟨⟨fv_at 623 (by decide +kernel) (by decide +kernel), fv_at 48 (by decide +kernel) (by decide +kernel), kkY3_power, by decide +kernel, by decide⟩, fv_at 248 (by decide +kernel) (by decide +kernel)⟩
theorem lk9_35 : fv_mS RX9 35 Y9_figure 2 := ⟨⟨fv_at 624 (by decide +kernel) (by decide +kernel), fv_at 44 (by decide +kernel) (by decide +kernel), kkY9_figure, by decide +kernel, by decide⟩, fv_at 625 (by decide +kernel) (by decide +kernel)⟩
theorem lk9_38 : fv_mV RX9 38 Y5_vanish 0 := ⟨⟨fv_at 608 (by decide +kernel) (by decide +kernel), fv_at 45 (by decide +kernel) (by decide +kernel), kkY5_vanish, by decide +kernel, by decide⟩, fv_at 609 (by decide +kernel) (by decide +kernel), fv_at 610 (by decide +kernel) (by decide +kernel)⟩
theorem lk9_41 : fv_mS RX9 41 Y9_isRod 1 := ⟨⟨fv_at 632 (by decide +kernel) (by decide +kernel), fv_at 44 (by decide +kernel) (by decide +kernel), kkY9_isRod, by decide +kernel, by decide⟩, fv_at 617 (by decide +kernel) (by decide +kernel)⟩
theorem lk9_45 : fv_mV RX9 45 Y5_span 3 := ⟨⟨fv_at 633 (by decide +kernel) (by decide +kernel), fv_at 45 (by decide +kernel) (by decide +kernel), kkY5_span, by decide +kernel, by decide⟩, fv_at 634 (by decide +kernel) (by decide +kernel), fv_at 635 (by decide +kernel) (by decide +kernel)⟩
theorem lk9_49 : fv_mV RX9 49 Y5_copy 1 := ⟨⟨fv_at 648 (by decide +kernel) (by decide +kernel), fv_at 45 (by decide +kernel) (by decide +kernel), kkY5_copy, by decide +kernel, by decide⟩, fv_at 649 (by decide +kernel) (by decide +kernel), fv_at 650 (by decide +kernel) (by decide +kernel)⟩
theorem lk9_53 : fv_mV RX9 53 Y5_isThere 0 := ⟨⟨fv_at 660 (by decide +kernel) (by decide +kernel), fv_at 45 (by decide +kernel) (by decide +kernel), kkY5_isThere, by decide +kernel, by decide⟩, fv_at 661 (by decide +kernel) (by decide +kernel), fv_at 662 (by decide +kernel) (by decide +kernel)⟩
theorem lk9_57 : fv_mV RX9 57 Y5_isLike 1 := ⟨⟨fv_at 672 (by decide +kernel) (by decide +kernel), fv_at 45 (by decide +kernel) (by decide +kernel), kkY5_isLike, by decide +kernel, by decide⟩, fv_at 673 (by decide +kernel) (by decide +kernel), fv_at 674 (by decide +kernel) (by decide +kernel)⟩
theorem lk9_61 : fv_mV RX9 61 Y5_crosses 2 := ⟨⟨fv_at 676 (by decide +kernel) (by decide +kernel), fv_at 45 (by decide +kernel) (by decide +kernel), kkY5_crosses, by decide +kernel, by decide⟩, fv_at 677 (by decide +kernel) (by decide +kernel), fv_at 678 (by decide +kernel) (by decide +kernel)⟩
theorem lk9_65 : fv_mS RX9 65 Y9_isTold 2 := ⟨⟨fv_at 691 (by decide +kernel) (by decide +kernel), fv_at 44 (by decide +kernel) (by decide +kernel), kkY9_isTold, by decide +kernel, by decide⟩, fv_at 692 (by decide +kernel) (by decide +kernel)⟩
theorem lk9_69 : fv_mV RX9 69 Y9_linesFrom 3 := ⟨⟨fv_at 698 (by decide +kernel) (by decide +kernel), fv_at 44 (by decide +kernel) (by decide +kernel), kkY9_linesFrom, by decide +kernel, by decide⟩, fv_at 700 (by decide +kernel) (by decide +kernel), fv_at 6 (by decide +kernel) (by decide +kernel)⟩
theorem lk9_73 : fv_mV RX9 73 Y9_pointFrom 3 := ⟨⟨fv_at 702 (by decide +kernel) (by decide +kernel), fv_at 44 (by decide +kernel) (by decide +kernel), kkY9_pointFrom, by decide +kernel, by decide⟩, fv_at 704 (by decide +kernel) (by decide +kernel), fv_at 7 (by decide +kernel) (by decide +kernel)⟩
theorem lk9_76 : fv_mV RX9 76 Y9_crossesAll 1 := ⟨⟨fv_at 706 (by decide +kernel) (by decide +kernel), fv_at 44 (by decide +kernel) (by decide +kernel), kkY9_crossesAll, by decide +kernel, by decide⟩, fv_at 708 (by decide +kernel) (by decide +kernel), fv_at 8 (by decide +kernel) (by decide +kernel)⟩
theorem lk9_79 : fv_mV RX9 79 Y9_isOnOne 2 := ⟨⟨fv_at 718 (by decide +kernel) (by decide +kernel), fv_at 44 (by decide +kernel) (by decide +kernel), kkY9_isOnOne, by decide +kernel, by decide⟩, fv_at 720 (by decide +kernel) (by decide +kernel), fv_at 9 (by decide +kernel) (by decide +kernel)⟩
theorem lk9_82 : fv_mV RX9 82 Y5_holds 2 := ⟨⟨fv_at 722 (by decide +kernel) (by decide +kernel), fv_at 45 (by decide +kernel) (by decide +kernel), kkY5_holds, by decide +kernel, by decide⟩, fv_at 723 (by decide +kernel) (by decide +kernel), fv_at 724 (by decide +kernel) (by decide +kernel)⟩
theorem fd0_12 : fv_fd RX0 12 0 0 true (.object "MeetHouse$Pot") := ⟨_, _, _, _, fv_c0, by decide, fv_at 114 (by decide +kernel) (by decide +kernel), rfl, rfl, fun _ => rfl⟩
theorem fd0_21 : fv_fd RX0 21 0 1 true (.object "MeetHouse$Polynomial") := ⟨_, _, _, _, fv_c0, by decide, fv_at 115 (by decide +kernel) (by decide +kernel), rfl, rfl, fun _ => rfl⟩
theorem fd0_25 : fv_fd RX0 25 0 2 true (.object "MeetHouse$Polynomial") := ⟨_, _, _, _, fv_c0, by decide, fv_at 116 (by decide +kernel) (by decide +kernel), rfl, rfl, fun _ => rfl⟩
theorem fd10_11 : fv_fd RX10 11 7 0 true (.array (.object "MeetHouse$Polynomial")) := ⟨_, _, _, _, fv_c7, by decide, fv_at 210 (by decide +kernel) (by decide +kernel), rfl, rfl, fun _ => rfl⟩
theorem fd10_18 : fv_fd RX10 18 7 1 true (.object "MeetHouse$Algebra") := ⟨_, _, _, _, fv_c7, by decide, fv_at 211 (by decide +kernel) (by decide +kernel), rfl, rfl, fun _ => rfl⟩
theorem fd10_25 : fv_fd RX10 25 7 2 true (.object "MeetHouse$Conditions") := ⟨_, _, _, _, fv_c7, by decide, fv_at 212 (by decide +kernel) (by decide +kernel), rfl, rfl, fun _ => rfl⟩
theorem fd10_32 : fv_fd RX10 32 7 3 true (.object "MeetHouse$Space") := ⟨_, _, _, _, fv_c7, by decide, fv_at 213 (by decide +kernel) (by decide +kernel), rfl, rfl, fun _ => rfl⟩
theorem fd11_7 : fv_fd RX11 7 8 0 true (.array (.int)) := ⟨_, _, _, _, fv_c8, by decide, fv_at 782 (by decide +kernel) (by decide +kernel), rfl, rfl, fun _ => rfl⟩
theorem fd11_13 : fv_fd RX11 13 8 2 true (.array (.int)) := ⟨_, _, _, _, fv_c8, by decide, fv_at 784 (by decide +kernel) (by decide +kernel), rfl, rfl, fun _ => rfl⟩
theorem fd11_16 : fv_fd RX11 16 8 3 true (.array (.boolean)) := ⟨_, _, _, _, fv_c8, by decide, fv_at 785 (by decide +kernel) (by decide +kernel), rfl, rfl, fun _ => rfl⟩
theorem fd11_20 : fv_fd RX11 20 8 4 true (.array (.int)) := ⟨_, _, _, _, fv_c8, by decide, fv_at 786 (by decide +kernel) (by decide +kernel), rfl, rfl, fun _ => rfl⟩
theorem fd11_23 : fv_fd RX11 23 8 5 true (.array (.int)) := ⟨_, _, _, _, fv_c8, by decide, fv_at 787 (by decide +kernel) (by decide +kernel), rfl, rfl, fun _ => rfl⟩
theorem fd11_26 : fv_fd RX11 26 8 6 true (.array (.long)) := ⟨_, _, _, _, fv_c8, by decide, fv_at 788 (by decide +kernel) (by decide +kernel), rfl, rfl, fun _ => rfl⟩
theorem fd11_31 : fv_fd RX11 31 8 7 true (.array (.long)) := ⟨_, _, _, _, fv_c8, by decide, fv_at 789 (by decide +kernel) (by decide +kernel), rfl, rfl, fun _ => rfl⟩
theorem fd11_34 : fv_fd RX11 34 8 8 true (.array (.long)) := ⟨_, _, _, _, fv_c8, by decide, fv_at 790 (by decide +kernel) (by decide +kernel), rfl, rfl, fun _ => rfl⟩
theorem fd11_37 : fv_fd RX11 37 8 9 true (.array (.int)) := ⟨_, _, _, _, fv_c8, by decide, fv_at 791 (by decide +kernel) (by decide +kernel), rfl, rfl, fun _ => rfl⟩
theorem fd11_40 : fv_fd RX11 40 8 10 true (.array (.long)) := ⟨_, _, _, _, fv_c8, by decide, fv_at 792 (by decide +kernel) (by decide +kernel), rfl, rfl, fun _ => rfl⟩
theorem fd11_43 : fv_fd RX11 43 8 11 true (.array (.long)) := ⟨_, _, _, _, fv_c8, by decide, fv_at 793 (by decide +kernel) (by decide +kernel), rfl, rfl, fun _ => rfl⟩
theorem fd11_46 : fv_fd RX11 46 8 12 true (.array (.int)) := ⟨_, _, _, _, fv_c8, by decide, fv_at 794 (by decide +kernel) (by decide +kernel), rfl, rfl, fun _ => rfl⟩
theorem fd11_49 : fv_fd RX11 49 8 13 true (.array (.int)) := ⟨_, _, _, _, fv_c8, by decide, fv_at 795 (by decide +kernel) (by decide +kernel), rfl, rfl, fun _ => rfl⟩
theorem fd11_52 : fv_fd RX11 52 8 14 true (.array (.int)) := ⟨_, _, _, _, fv_c8, by decide, fv_at 796 (by decide +kernel) (by decide +kernel), rfl, rfl, fun _ => rfl⟩
theorem fd11_55 : fv_fd RX11 55 8 15 true (.array (.int)) := ⟨_, _, _, _, fv_c8, by decide, fv_at 797 (by decide +kernel) (by decide +kernel), rfl, rfl, fun _ => rfl⟩
theorem fd11_58 : fv_fd RX11 58 8 16 true (.array (.int)) := ⟨_, _, _, _, fv_c8, by decide, fv_at 798 (by decide +kernel) (by decide +kernel), rfl, rfl, fun _ => rfl⟩
theorem fd11_61 : fv_fd RX11 61 8 17 true (.array (.int)) := ⟨_, _, _, _, fv_c8, by decide, fv_at 799 (by decide +kernel) (by decide +kernel), rfl, rfl, fun _ => rfl⟩
theorem fd11_64 : fv_fd RX11 64 8 18 true (.array (.int)) := ⟨_, _, _, _, fv_c8, by decide, fv_at 800 (by decide +kernel) (by decide +kernel), rfl, rfl, fun _ => rfl⟩
theorem fd11_67 : fv_fd RX11 67 8 19 true (.array (.int)) := ⟨_, _, _, _, fv_c8, by decide, fv_at 801 (by decide +kernel) (by decide +kernel), rfl, rfl, fun _ => rfl⟩
theorem fd11_70 : fv_fd RX11 70 8 23 true (.array (.int)) := ⟨_, _, _, _, fv_c8, by decide, fv_at 805 (by decide +kernel) (by decide +kernel), rfl, rfl, fun _ => rfl⟩
theorem fd11_73 : fv_fd RX11 73 8 24 true (.array (.int)) := ⟨_, _, _, _, fv_c8, by decide, fv_at 806 (by decide +kernel) (by decide +kernel), rfl, rfl, fun _ => rfl⟩
theorem fd11_76 : fv_fd RX11 76 8 25 true (.array (.long)) := ⟨_, _, _, _, fv_c8, by decide, fv_at 807 (by decide +kernel) (by decide +kernel), rfl, rfl, fun _ => rfl⟩
theorem fd11_79 : fv_fd RX11 79 8 26 true (.array (.long)) := ⟨_, _, _, _, fv_c8, by decide, fv_at 808 (by decide +kernel) (by decide +kernel), rfl, rfl, fun _ => rfl⟩
theorem fd11_82 : fv_fd RX11 82 8 28 true (.array (.boolean)) := ⟨_, _, _, _, fv_c8, by decide, fv_at 810 (by decide +kernel) (by decide +kernel), rfl, rfl, fun _ => rfl⟩
theorem fd11_85 : fv_fd RX11 85 8 29 true (.array (.int)) := ⟨_, _, _, _, fv_c8, by decide, fv_at 811 (by decide +kernel) (by decide +kernel), rfl, rfl, fun _ => rfl⟩
theorem fd11_88 : fv_fd RX11 88 8 30 true (.array (.int)) := ⟨_, _, _, _, fv_c8, by decide, fv_at 812 (by decide +kernel) (by decide +kernel), rfl, rfl, fun _ => rfl⟩
theorem fd11_91 : fv_fd RX11 91 8 31 true (.array (.boolean)) := ⟨_, _, _, _, fv_c8, by decide, fv_at 813 (by decide +kernel) (by decide +kernel), rfl, rfl, fun _ => rfl⟩
theorem fd11_94 : fv_fd RX11 94 8 32 true (.array (.boolean)) := ⟨_, _, _, _, fv_c8, by decide, fv_at 814 (by decide +kernel) (by decide +kernel), rfl, rfl, fun _ => rfl⟩
theorem fd11_97 : fv_fd RX11 97 8 33 true (.array (.int)) := ⟨_, _, _, _, fv_c8, by decide, fv_at 815 (by decide +kernel) (by decide +kernel), rfl, rfl, fun _ => rfl⟩
theorem fd11_100 : fv_fd RX11 100 8 34 true (.array (.int)) := ⟨_, _, _, _, fv_c8, by decide, fv_at 816 (by decide +kernel) (by decide +kernel), rfl, rfl, fun _ => rfl⟩
theorem fd11_103 : fv_fd RX11 103 8 35 true (.array (.int)) := ⟨_, _, _, _, fv_c8, by decide, fv_at 817 (by decide +kernel) (by decide +kernel), rfl, rfl, fun _ => rfl⟩
theorem fd11_106 : fv_fd RX11 106 8 37 true (.array (.int)) := ⟨_, _, _, _, fv_c8, by decide, fv_at 819 (by decide +kernel) (by decide +kernel), rfl, rfl, fun _ => rfl⟩
theorem fd11_109 : fv_fd RX11 109 8 20 false (.int) := ⟨_, _, _, _, fv_c8, by decide, fv_at 802 (by decide +kernel) (by decide +kernel), rfl, rfl, fun h => nomatch h⟩
theorem fd11_113 : fv_fd RX11 113 8 21 false (.int) := ⟨_, _, _, _, fv_c8, by decide, fv_at 803 (by decide +kernel) (by decide +kernel), rfl, rfl, fun h => nomatch h⟩
theorem fd11_116 : fv_fd RX11 116 8 27 false (.int) := ⟨_, _, _, _, fv_c8, by decide, fv_at 809 (by decide +kernel) (by decide +kernel), rfl, rfl, fun h => nomatch h⟩
theorem fd11_130 : fv_fd RX11 130 8 1 false (.int) := ⟨_, _, _, _, fv_c8, by decide, fv_at 783 (by decide +kernel) (by decide +kernel), rfl, rfl, fun h => nomatch h⟩
theorem fd11_234 : fv_fd RX11 234 8 22 false (.int) := ⟨_, _, _, _, fv_c8, by decide, fv_at 804 (by decide +kernel) (by decide +kernel), rfl, rfl, fun h => nomatch h⟩
theorem fd11_266 : fv_fd RX11 266 8 36 false (.int) := ⟨_, _, _, _, fv_c8, by decide, fv_at 818 (by decide +kernel) (by decide +kernel), rfl, rfl, fun h => nomatch h⟩
theorem fd2_12 : fv_fd RX2 12 1 0 true (.object "MeetHouse$Filler") := ⟨_, _, _, _, fv_c1, by decide, fv_at 154 (by decide +kernel) (by decide +kernel), rfl, rfl, fun _ => rfl⟩
theorem fd2_18 : fv_fd RX2 18 1 1 true (.array (.int)) := ⟨_, _, _, _, fv_c1, by decide, fv_at 155 (by decide +kernel) (by decide +kernel), rfl, rfl, fun _ => rfl⟩
theorem fd2_22 : fv_fd RX2 22 1 2 true (.array (.int)) := ⟨_, _, _, _, fv_c1, by decide, fv_at 156 (by decide +kernel) (by decide +kernel), rfl, rfl, fun _ => rfl⟩
theorem fd2_25 : fv_fd RX2 25 1 3 true (.array (.long)) := ⟨_, _, _, _, fv_c1, by decide, fv_at 157 (by decide +kernel) (by decide +kernel), rfl, rfl, fun _ => rfl⟩
theorem fd2_29 : fv_fd RX2 29 1 4 true (.array (.long)) := ⟨_, _, _, _, fv_c1, by decide, fv_at 158 (by decide +kernel) (by decide +kernel), rfl, rfl, fun _ => rfl⟩
theorem fd2_32 : fv_fd RX2 32 1 5 false (.int) := ⟨_, _, _, _, fv_c1, by decide, fv_at 159 (by decide +kernel) (by decide +kernel), rfl, rfl, fun h => nomatch h⟩
theorem fd2_36 : fv_fd RX2 36 1 6 false (.int) := ⟨_, _, _, _, fv_c1, by decide, fv_at 160 (by decide +kernel) (by decide +kernel), rfl, rfl, fun h => nomatch h⟩
theorem fd2_39 : fv_fd RX2 39 1 7 false (.int) := ⟨_, _, _, _, fv_c1, by decide, fv_at 161 (by decide +kernel) (by decide +kernel), rfl, rfl, fun h => nomatch h⟩
theorem fd4_9 : fv_fd RX4 9 2 0 true (.array (.int)) := ⟨_, _, _, _, fv_c2, by decide, fv_at 138 (by decide +kernel) (by decide +kernel), rfl, rfl, fun _ => rfl⟩
theorem fd4_15 : fv_fd RX4 15 2 1 true (.array (.int)) := ⟨_, _, _, _, fv_c2, by decide, fv_at 139 (by decide +kernel) (by decide +kernel), rfl, rfl, fun _ => rfl⟩
theorem fd4_18 : fv_fd RX4 18 2 2 true (.array (.int)) := ⟨_, _, _, _, fv_c2, by decide, fv_at 140 (by decide +kernel) (by decide +kernel), rfl, rfl, fun _ => rfl⟩
theorem fd4_21 : fv_fd RX4 21 2 3 true (.array (.int)) := ⟨_, _, _, _, fv_c2, by decide, fv_at 141 (by decide +kernel) (by decide +kernel), rfl, rfl, fun _ => rfl⟩
theorem fd4_26 : fv_fd RX4 26 2 4 true (.array (.array (.int))) := ⟨_, _, _, _, fv_c2, by decide, fv_at 142 (by decide +kernel) (by decide +kernel), rfl, rfl, fun _ => rfl⟩
theorem fd5_9 : fv_fd RX5 9 3 0 true (.array (.int)) := ⟨_, _, _, _, fv_c3, by decide, fv_at 192 (by decide +kernel) (by decide +kernel), rfl, rfl, fun _ => rfl⟩
theorem fd5_13 : fv_fd RX5 13 3 1 false (.boolean) := ⟨_, _, _, _, fv_c3, by decide, fv_at 193 (by decide +kernel) (by decide +kernel), rfl, rfl, fun h => nomatch h⟩
theorem fd7_9 : fv_fd RX7 9 4 0 true (.array (.int)) := ⟨_, _, _, _, fv_c4, by decide, fv_at 80 (by decide +kernel) (by decide +kernel), rfl, rfl, fun _ => rfl⟩
theorem fd7_15 : fv_fd RX7 15 4 1 true (.array (.int)) := ⟨_, _, _, _, fv_c4, by decide, fv_at 81 (by decide +kernel) (by decide +kernel), rfl, rfl, fun _ => rfl⟩
theorem fd7_18 : fv_fd RX7 18 4 2 false (.int) := ⟨_, _, _, _, fv_c4, by decide, fv_at 82 (by decide +kernel) (by decide +kernel), rfl, rfl, fun h => nomatch h⟩
theorem fd7_22 : fv_fd RX7 22 4 3 false (.boolean) := ⟨_, _, _, _, fv_c4, by decide, fv_at 83 (by decide +kernel) (by decide +kernel), rfl, rfl, fun h => nomatch h⟩
theorem fd8_10 : fv_fd RX8 10 5 0 true (.array (.long)) := ⟨_, _, _, _, fv_c5, by decide, fv_at 96 (by decide +kernel) (by decide +kernel), rfl, rfl, fun _ => rfl⟩
theorem fd8_16 : fv_fd RX8 16 5 1 true (.array (.boolean)) := ⟨_, _, _, _, fv_c5, by decide, fv_at 97 (by decide +kernel) (by decide +kernel), rfl, rfl, fun _ => rfl⟩
theorem fd8_23 : fv_fd RX8 23 5 2 true (.object "MeetHouse$Polynomial") := ⟨_, _, _, _, fv_c5, by decide, fv_at 98 (by decide +kernel) (by decide +kernel), rfl, rfl, fun _ => rfl⟩
theorem fd8_27 : fv_fd RX8 27 5 3 false (.int) := ⟨_, _, _, _, fv_c5, by decide, fv_at 99 (by decide +kernel) (by decide +kernel), rfl, rfl, fun h => nomatch h⟩
theorem fd8_31 : fv_fd RX8 31 5 4 false (.boolean) := ⟨_, _, _, _, fv_c5, by decide, fv_at 100 (by decide +kernel) (by decide +kernel), rfl, rfl, fun h => nomatch h⟩
theorem fd9_13 : fv_fd RX9 13 6 0 true (.array (.object "MeetHouse$Line")) := ⟨_, _, _, _, fv_c6, by decide, fv_at 199 (by decide +kernel) (by decide +kernel), rfl, rfl, fun _ => rfl⟩
theorem fd9_18 : fv_fd RX9 18 6 1 true (.object "MeetHouse$Line") := ⟨_, _, _, _, fv_c6, by decide, fv_at 200 (by decide +kernel) (by decide +kernel), rfl, rfl, fun _ => rfl⟩
theorem fd9_22 : fv_fd RX9 22 6 2 false (.int) := ⟨_, _, _, _, fv_c6, by decide, fv_at 201 (by decide +kernel) (by decide +kernel), rfl, rfl, fun h => nomatch h⟩
end
section
theorem dX0_init_0 : decode cX0_init 0 = .ok (.aload_n 0, 1) := by decide +kernel
theorem dX0_init_1 : decode cX0_init 1 = .ok (.invokespecial 3, 3) := by decide +kernel
theorem dX0_init_4 : decode cX0_init 4 = .ok (.aload_n 0, 1) := by decide +kernel
theorem dX0_init_5 : decode cX0_init 5 = .ok (.new 9, 3) := by decide +kernel
theorem dX0_init_8 : decode cX0_init 8 = .ok (.dup, 1) := by decide +kernel
theorem dX0_init_9 : decode cX0_init 9 = .ok (.invokespecial 11, 3) := by decide +kernel
theorem dX0_init_12 : decode cX0_init 12 = .ok (.putfield 12, 3) := by decide +kernel
theorem dX0_init_15 : decode cX0_init 15 = .ok (.aload_n 0, 1) := by decide +kernel
theorem dX0_init_16 : decode cX0_init 16 = .ok (.new 18, 3) := by decide +kernel
theorem dX0_init_19 : decode cX0_init 19 = .ok (.dup, 1) := by decide +kernel
theorem dX0_init_20 : decode cX0_init 20 = .ok (.invokespecial 20, 3) := by decide +kernel
theorem dX0_init_23 : decode cX0_init 23 = .ok (.putfield 21, 3) := by decide +kernel
theorem dX0_init_26 : decode cX0_init 26 = .ok (.aload_n 0, 1) := by decide +kernel
theorem dX0_init_27 : decode cX0_init 27 = .ok (.new 18, 3) := by decide +kernel
theorem dX0_init_30 : decode cX0_init 30 = .ok (.dup, 1) := by decide +kernel
theorem dX0_init_31 : decode cX0_init 31 = .ok (.invokespecial 20, 3) := by decide +kernel
theorem dX0_init_34 : decode cX0_init 34 = .ok (.putfield 25, 3) := by decide +kernel
theorem dX0_init_37 : decode cX0_init 37 = .ok (.return_, 1) := by decide +kernel
theorem dX0_join_0 : decode cX0_join 0 = .ok (.aload_n 0, 1) := by decide +kernel
theorem dX0_join_1 : decode cX0_join 1 = .ok (.getfield 12, 3) := by decide +kernel
theorem dX0_join_4 : decode cX0_join 4 = .ok (.aload_n 1, 1) := by decide +kernel
theorem dX0_join_5 : decode cX0_join 5 = .ok (.lconst 1, 1) := by decide +kernel
theorem dX0_join_6 : decode cX0_join 6 = .ok (.invokevirtual 28, 3) := by decide +kernel
theorem dX0_join_9 : decode cX0_join 9 = .ok (.aload_n 0, 1) := by decide +kernel
theorem dX0_join_10 : decode cX0_join 10 = .ok (.getfield 12, 3) := by decide +kernel
theorem dX0_join_13 : decode cX0_join 13 = .ok (.iload 4, 2) := by decide +kernel
theorem dX0_join_15 : decode cX0_join 15 = .ok (.lload_n 2, 1) := by decide +kernel
theorem dX0_join_16 : decode cX0_join 16 = .ok (.invokevirtual 32, 3) := by decide +kernel
theorem dX0_join_19 : decode cX0_join 19 = .ok (.aload_n 0, 1) := by decide +kernel
theorem dX0_join_20 : decode cX0_join 20 = .ok (.getfield 12, 3) := by decide +kernel
theorem dX0_join_23 : decode cX0_join 23 = .ok (.aload_n 1, 1) := by decide +kernel
theorem dX0_join_24 : decode cX0_join 24 = .ok (.invokevirtual 36, 3) := by decide +kernel
theorem dX0_join_27 : decode cX0_join 27 = .ok (.ireturn, 1) := by decide +kernel
theorem dX0_combine_0 : decode cX0_combine 0 = .ok (.aload_n 0, 1) := by decide +kernel
theorem dX0_combine_1 : decode cX0_combine 1 = .ok (.getfield 12, 3) := by decide +kernel
theorem dX0_combine_4 : decode cX0_combine 4 = .ok (.aload_n 2, 1) := by decide +kernel
theorem dX0_combine_5 : decode cX0_combine 5 = .ok (.lconst 1, 1) := by decide +kernel
theorem dX0_combine_6 : decode cX0_combine 6 = .ok (.invokevirtual 28, 3) := by decide +kernel
theorem dX0_combine_9 : decode cX0_combine 9 = .ok (.aload_n 0, 1) := by decide +kernel
theorem dX0_combine_10 : decode cX0_combine 10 = .ok (.getfield 12, 3) := by decide +kernel
theorem dX0_combine_13 : decode cX0_combine 13 = .ok (.aload_n 3, 1) := by decide +kernel
theorem dX0_combine_14 : decode cX0_combine 14 = .ok (.iload 4, 2) := by decide +kernel
theorem dX0_combine_16 : decode cX0_combine 16 = .ok (.i2l, 1) := by decide +kernel
theorem dX0_combine_17 : decode cX0_combine 17 = .ok (.invokevirtual 28, 3) := by decide +kernel
theorem dX0_combine_20 : decode cX0_combine 20 = .ok (.aload_n 0, 1) := by decide +kernel
theorem dX0_combine_21 : decode cX0_combine 21 = .ok (.getfield 12, 3) := by decide +kernel
theorem dX0_combine_24 : decode cX0_combine 24 = .ok (.aload_n 1, 1) := by decide +kernel
theorem dX0_combine_25 : decode cX0_combine 25 = .ok (.invokevirtual 36, 3) := by decide +kernel
theorem dX0_combine_28 : decode cX0_combine 28 = .ok (.ireturn, 1) := by decide +kernel
theorem dX0_multiply_0 : decode cX0_multiply 0 = .ok (.aload_n 2, 1) := by decide +kernel
theorem dX0_multiply_1 : decode cX0_multiply 1 = .ok (.aload_n 3, 1) := by decide +kernel
theorem dX0_multiply_2 : decode cX0_multiply 2 = .ok (.invokestatic 40, 3) := by decide +kernel
theorem dX0_multiply_5 : decode cX0_multiply 5 = .ok (.ifCond .eq 6, 3) := by decide +kernel
theorem dX0_multiply_8 : decode cX0_multiply 8 = .ok (.bipush (-4), 2) := by decide +kernel
theorem dX0_multiply_10 : decode cX0_multiply 10 = .ok (.ireturn, 1) := by decide +kernel
theorem dX0_multiply_11 : decode cX0_multiply 11 = .ok (.iconst 0, 1) := by decide +kernel
theorem dX0_multiply_12 : decode cX0_multiply 12 = .ok (.istore 4, 2) := by decide +kernel
theorem dX0_multiply_14 : decode cX0_multiply 14 = .ok (.iload 4, 2) := by decide +kernel
theorem dX0_multiply_16 : decode cX0_multiply 16 = .ok (.aload_n 2, 1) := by decide +kernel
theorem dX0_multiply_17 : decode cX0_multiply 17 = .ok (.invokevirtual 44, 3) := by decide +kernel
theorem dX0_multiply_20 : decode cX0_multiply 20 = .ok (.if_icmp .ge 66, 3) := by decide +kernel
theorem dX0_multiply_23 : decode cX0_multiply 23 = .ok (.aload_n 2, 1) := by decide +kernel
theorem dX0_multiply_24 : decode cX0_multiply 24 = .ok (.iload 4, 2) := by decide +kernel
theorem dX0_multiply_26 : decode cX0_multiply 26 = .ok (.invokevirtual 48, 3) := by decide +kernel
theorem dX0_multiply_29 : decode cX0_multiply 29 = .ok (.i2l, 1) := by decide +kernel
theorem dX0_multiply_30 : decode cX0_multiply 30 = .ok (.lstore 5, 2) := by decide +kernel
theorem dX0_multiply_32 : decode cX0_multiply 32 = .ok (.iconst 0, 1) := by decide +kernel
theorem dX0_multiply_33 : decode cX0_multiply 33 = .ok (.istore 7, 2) := by decide +kernel
theorem dX0_multiply_35 : decode cX0_multiply 35 = .ok (.iload 7, 2) := by decide +kernel
theorem dX0_multiply_37 : decode cX0_multiply 37 = .ok (.aload_n 3, 1) := by decide +kernel
theorem dX0_multiply_38 : decode cX0_multiply 38 = .ok (.invokevirtual 44, 3) := by decide +kernel
theorem dX0_multiply_41 : decode cX0_multiply 41 = .ok (.if_icmp .ge 39, 3) := by decide +kernel
theorem dX0_multiply_44 : decode cX0_multiply 44 = .ok (.aload_n 0, 1) := by decide +kernel
theorem dX0_multiply_45 : decode cX0_multiply 45 = .ok (.getfield 12, 3) := by decide +kernel
theorem dX0_multiply_48 : decode cX0_multiply 48 = .ok (.aload_n 2, 1) := by decide +kernel
theorem dX0_multiply_49 : decode cX0_multiply 49 = .ok (.iload 4, 2) := by decide +kernel
theorem dX0_multiply_51 : decode cX0_multiply 51 = .ok (.invokevirtual 52, 3) := by decide +kernel
theorem dX0_multiply_54 : decode cX0_multiply 54 = .ok (.aload_n 3, 1) := by decide +kernel
theorem dX0_multiply_55 : decode cX0_multiply 55 = .ok (.iload 7, 2) := by decide +kernel
theorem dX0_multiply_57 : decode cX0_multiply 57 = .ok (.invokevirtual 52, 3) := by decide +kernel
theorem dX0_multiply_60 : decode cX0_multiply 60 = .ok (.iadd, 1) := by decide +kernel
theorem dX0_multiply_61 : decode cX0_multiply 61 = .ok (.lload 5, 2) := by decide +kernel
theorem dX0_multiply_63 : decode cX0_multiply 63 = .ok (.aload_n 3, 1) := by decide +kernel
theorem dX0_multiply_64 : decode cX0_multiply 64 = .ok (.iload 7, 2) := by decide +kernel
theorem dX0_multiply_66 : decode cX0_multiply 66 = .ok (.invokevirtual 48, 3) := by decide +kernel
theorem dX0_multiply_69 : decode cX0_multiply 69 = .ok (.i2l, 1) := by decide +kernel
theorem dX0_multiply_70 : decode cX0_multiply 70 = .ok (.lmul, 1) := by decide +kernel
theorem dX0_multiply_71 : decode cX0_multiply 71 = .ok (.invokevirtual 32, 3) := by decide +kernel
theorem dX0_multiply_74 : decode cX0_multiply 74 = .ok (.iinc 7 1, 3) := by decide +kernel
theorem dX0_multiply_77 : decode cX0_multiply 77 = .ok (.goto (-42), 3) := by decide +kernel
theorem dX0_multiply_80 : decode cX0_multiply 80 = .ok (.iinc 4 1, 3) := by decide +kernel
theorem dX0_multiply_83 : decode cX0_multiply 83 = .ok (.goto (-69), 3) := by decide +kernel
theorem dX0_multiply_86 : decode cX0_multiply 86 = .ok (.aload_n 0, 1) := by decide +kernel
theorem dX0_multiply_87 : decode cX0_multiply 87 = .ok (.getfield 12, 3) := by decide +kernel
theorem dX0_multiply_90 : decode cX0_multiply 90 = .ok (.aload_n 1, 1) := by decide +kernel
theorem dX0_multiply_91 : decode cX0_multiply 91 = .ok (.invokevirtual 36, 3) := by decide +kernel
theorem dX0_multiply_94 : decode cX0_multiply 94 = .ok (.ireturn, 1) := by decide +kernel
theorem dX0_isTooHigh_0 : decode cX0_isTooHigh 0 = .ok (.iconst 1, 1) := by decide +kernel
theorem dX0_isTooHigh_1 : decode cX0_isTooHigh 1 = .ok (.istore_n 2, 1) := by decide +kernel
theorem dX0_isTooHigh_2 : decode cX0_isTooHigh 2 = .ok (.iload_n 2, 1) := by decide +kernel
theorem dX0_isTooHigh_3 : decode cX0_isTooHigh 3 = .ok (.iconst 5, 1) := by decide +kernel
theorem dX0_isTooHigh_4 : decode cX0_isTooHigh 4 = .ok (.if_icmp .gt 27, 3) := by decide +kernel
theorem dX0_isTooHigh_7 : decode cX0_isTooHigh 7 = .ok (.aload_n 0, 1) := by decide +kernel
theorem dX0_isTooHigh_8 : decode cX0_isTooHigh 8 = .ok (.iload_n 2, 1) := by decide +kernel
theorem dX0_isTooHigh_9 : decode cX0_isTooHigh 9 = .ok (.invokevirtual 55, 3) := by decide +kernel
theorem dX0_isTooHigh_12 : decode cX0_isTooHigh 12 = .ok (.aload_n 1, 1) := by decide +kernel
theorem dX0_isTooHigh_13 : decode cX0_isTooHigh 13 = .ok (.iload_n 2, 1) := by decide +kernel
theorem dX0_isTooHigh_14 : decode cX0_isTooHigh 14 = .ok (.invokevirtual 55, 3) := by decide +kernel
theorem dX0_isTooHigh_17 : decode cX0_isTooHigh 17 = .ok (.iadd, 1) := by decide +kernel
theorem dX0_isTooHigh_18 : decode cX0_isTooHigh 18 = .ok (.bipush 8, 2) := by decide +kernel
theorem dX0_isTooHigh_20 : decode cX0_isTooHigh 20 = .ok (.if_icmp .le 5, 3) := by decide +kernel
theorem dX0_isTooHigh_23 : decode cX0_isTooHigh 23 = .ok (.iconst 1, 1) := by decide +kernel
theorem dX0_isTooHigh_24 : decode cX0_isTooHigh 24 = .ok (.ireturn, 1) := by decide +kernel
theorem dX0_isTooHigh_25 : decode cX0_isTooHigh 25 = .ok (.iinc 2 1, 3) := by decide +kernel
theorem dX0_isTooHigh_28 : decode cX0_isTooHigh 28 = .ok (.goto (-26), 3) := by decide +kernel
theorem dX0_isTooHigh_31 : decode cX0_isTooHigh 31 = .ok (.iconst 0, 1) := by decide +kernel
theorem dX0_isTooHigh_32 : decode cX0_isTooHigh 32 = .ok (.ireturn, 1) := by decide +kernel
theorem dX0_swapLetters_0 : decode cX0_swapLetters 0 = .ok (.iconst 0, 1) := by decide +kernel
theorem dX0_swapLetters_1 : decode cX0_swapLetters 1 = .ok (.istore 4, 2) := by decide +kernel
theorem dX0_swapLetters_3 : decode cX0_swapLetters 3 = .ok (.iload 4, 2) := by decide +kernel
theorem dX0_swapLetters_5 : decode cX0_swapLetters 5 = .ok (.aload_n 2, 1) := by decide +kernel
theorem dX0_swapLetters_6 : decode cX0_swapLetters 6 = .ok (.invokevirtual 44, 3) := by decide +kernel
theorem dX0_swapLetters_9 : decode cX0_swapLetters 9 = .ok (.if_icmp .ge 37, 3) := by decide +kernel
theorem dX0_swapLetters_12 : decode cX0_swapLetters 12 = .ok (.aload_n 0, 1) := by decide +kernel
theorem dX0_swapLetters_13 : decode cX0_swapLetters 13 = .ok (.getfield 12, 3) := by decide +kernel
theorem dX0_swapLetters_16 : decode cX0_swapLetters 16 = .ok (.aload_n 2, 1) := by decide +kernel
theorem dX0_swapLetters_17 : decode cX0_swapLetters 17 = .ok (.iload 4, 2) := by decide +kernel
theorem dX0_swapLetters_19 : decode cX0_swapLetters 19 = .ok (.invokevirtual 52, 3) := by decide +kernel
theorem dX0_swapLetters_22 : decode cX0_swapLetters 22 = .ok (.iconst 5, 1) := by decide +kernel
theorem dX0_swapLetters_23 : decode cX0_swapLetters 23 = .ok (.iload_n 3, 1) := by decide +kernel
theorem dX0_swapLetters_24 : decode cX0_swapLetters 24 = .ok (.iload_n 3, 1) := by decide +kernel
theorem dX0_swapLetters_25 : decode cX0_swapLetters 25 = .ok (.iconst 1, 1) := by decide +kernel
theorem dX0_swapLetters_26 : decode cX0_swapLetters 26 = .ok (.iadd, 1) := by decide +kernel
theorem dX0_swapLetters_27 : decode cX0_swapLetters 27 = .ok (.invokestatic 58, 3) := by decide +kernel
theorem dX0_swapLetters_30 : decode cX0_swapLetters 30 = .ok (.aload_n 2, 1) := by decide +kernel
theorem dX0_swapLetters_31 : decode cX0_swapLetters 31 = .ok (.iload 4, 2) := by decide +kernel
theorem dX0_swapLetters_33 : decode cX0_swapLetters 33 = .ok (.invokevirtual 48, 3) := by decide +kernel
theorem dX0_swapLetters_36 : decode cX0_swapLetters 36 = .ok (.i2l, 1) := by decide +kernel
theorem dX0_swapLetters_37 : decode cX0_swapLetters 37 = .ok (.invokevirtual 32, 3) := by decide +kernel
theorem dX0_swapLetters_40 : decode cX0_swapLetters 40 = .ok (.iinc 4 1, 3) := by decide +kernel
theorem dX0_swapLetters_43 : decode cX0_swapLetters 43 = .ok (.goto (-40), 3) := by decide +kernel
theorem dX0_swapLetters_46 : decode cX0_swapLetters 46 = .ok (.aload_n 0, 1) := by decide +kernel
theorem dX0_swapLetters_47 : decode cX0_swapLetters 47 = .ok (.getfield 12, 3) := by decide +kernel
theorem dX0_swapLetters_50 : decode cX0_swapLetters 50 = .ok (.aload_n 1, 1) := by decide +kernel
theorem dX0_swapLetters_51 : decode cX0_swapLetters 51 = .ok (.invokevirtual 36, 3) := by decide +kernel
theorem dX0_swapLetters_54 : decode cX0_swapLetters 54 = .ok (.ireturn, 1) := by decide +kernel
theorem dX0_differ_0 : decode cX0_differ 0 = .ok (.iconst 0, 1) := by decide +kernel
theorem dX0_differ_1 : decode cX0_differ 1 = .ok (.istore 4, 2) := by decide +kernel
theorem dX0_differ_3 : decode cX0_differ 3 = .ok (.iload 4, 2) := by decide +kernel
theorem dX0_differ_5 : decode cX0_differ 5 = .ok (.aload_n 2, 1) := by decide +kernel
theorem dX0_differ_6 : decode cX0_differ 6 = .ok (.invokevirtual 44, 3) := by decide +kernel
theorem dX0_differ_9 : decode cX0_differ 9 = .ok (.if_icmp .ge 17, 3) := by decide +kernel
theorem dX0_differ_12 : decode cX0_differ 12 = .ok (.aload_n 0, 1) := by decide +kernel
theorem dX0_differ_13 : decode cX0_differ 13 = .ok (.aload_n 2, 1) := by decide +kernel
theorem dX0_differ_14 : decode cX0_differ 14 = .ok (.iload 4, 2) := by decide +kernel
theorem dX0_differ_16 : decode cX0_differ 16 = .ok (.iload_n 3, 1) := by decide +kernel
theorem dX0_differ_17 : decode cX0_differ 17 = .ok (.invokevirtual 64, 3) := by decide +kernel
theorem dX0_differ_20 : decode cX0_differ 20 = .ok (.iinc 4 1, 3) := by decide +kernel
theorem dX0_differ_23 : decode cX0_differ 23 = .ok (.goto (-20), 3) := by decide +kernel
theorem dX0_differ_26 : decode cX0_differ 26 = .ok (.aload_n 0, 1) := by decide +kernel
theorem dX0_differ_27 : decode cX0_differ 27 = .ok (.getfield 12, 3) := by decide +kernel
theorem dX0_differ_30 : decode cX0_differ 30 = .ok (.aload_n 1, 1) := by decide +kernel
theorem dX0_differ_31 : decode cX0_differ 31 = .ok (.invokevirtual 36, 3) := by decide +kernel
theorem dX0_differ_34 : decode cX0_differ 34 = .ok (.ireturn, 1) := by decide +kernel
theorem dX0_pourDifference_0 : decode cX0_pourDifference 0 = .ok (.aload_n 1, 1) := by decide +kernel
theorem dX0_pourDifference_1 : decode cX0_pourDifference 1 = .ok (.iload_n 2, 1) := by decide +kernel
theorem dX0_pourDifference_2 : decode cX0_pourDifference 2 = .ok (.iload_n 3, 1) := by decide +kernel
theorem dX0_pourDifference_3 : decode cX0_pourDifference 3 = .ok (.invokevirtual 68, 3) := by decide +kernel
theorem dX0_pourDifference_6 : decode cX0_pourDifference 6 = .ok (.istore 4, 2) := by decide +kernel
theorem dX0_pourDifference_8 : decode cX0_pourDifference 8 = .ok (.aload_n 1, 1) := by decide +kernel
theorem dX0_pourDifference_9 : decode cX0_pourDifference 9 = .ok (.iload_n 2, 1) := by decide +kernel
theorem dX0_pourDifference_10 : decode cX0_pourDifference 10 = .ok (.iload_n 3, 1) := by decide +kernel
theorem dX0_pourDifference_11 : decode cX0_pourDifference 11 = .ok (.iconst 1, 1) := by decide +kernel
theorem dX0_pourDifference_12 : decode cX0_pourDifference 12 = .ok (.iadd, 1) := by decide +kernel
theorem dX0_pourDifference_13 : decode cX0_pourDifference 13 = .ok (.invokevirtual 68, 3) := by decide +kernel
theorem dX0_pourDifference_16 : decode cX0_pourDifference 16 = .ok (.istore 5, 2) := by decide +kernel
theorem dX0_pourDifference_18 : decode cX0_pourDifference 18 = .ok (.bipush 10, 2) := by decide +kernel
theorem dX0_pourDifference_20 : decode cX0_pourDifference 20 = .ok (.iconst 5, 1) := by decide +kernel
theorem dX0_pourDifference_21 : decode cX0_pourDifference 21 = .ok (.iload_n 3, 1) := by decide +kernel
theorem dX0_pourDifference_22 : decode cX0_pourDifference 22 = .ok (.isub, 1) := by decide +kernel
theorem dX0_pourDifference_23 : decode cX0_pourDifference 23 = .ok (.invokestatic 72, 3) := by decide +kernel
theorem dX0_pourDifference_26 : decode cX0_pourDifference 26 = .ok (.istore 6, 2) := by decide +kernel
theorem dX0_pourDifference_28 : decode cX0_pourDifference 28 = .ok (.bipush 10, 2) := by decide +kernel
theorem dX0_pourDifference_30 : decode cX0_pourDifference 30 = .ok (.iconst 5, 1) := by decide +kernel
theorem dX0_pourDifference_31 : decode cX0_pourDifference 31 = .ok (.iload_n 3, 1) := by decide +kernel
theorem dX0_pourDifference_32 : decode cX0_pourDifference 32 = .ok (.isub, 1) := by decide +kernel
theorem dX0_pourDifference_33 : decode cX0_pourDifference 33 = .ok (.iconst 1, 1) := by decide +kernel
theorem dX0_pourDifference_34 : decode cX0_pourDifference 34 = .ok (.isub, 1) := by decide +kernel
theorem dX0_pourDifference_35 : decode cX0_pourDifference 35 = .ok (.invokestatic 72, 3) := by decide +kernel
theorem dX0_pourDifference_38 : decode cX0_pourDifference 38 = .ok (.istore 7, 2) := by decide +kernel
theorem dX0_pourDifference_40 : decode cX0_pourDifference 40 = .ok (.aload_n 1, 1) := by decide +kernel
theorem dX0_pourDifference_41 : decode cX0_pourDifference 41 = .ok (.iload_n 2, 1) := by decide +kernel
theorem dX0_pourDifference_42 : decode cX0_pourDifference 42 = .ok (.invokevirtual 52, 3) := by decide +kernel
theorem dX0_pourDifference_45 : decode cX0_pourDifference 45 = .ok (.iload 4, 2) := by decide +kernel
theorem dX0_pourDifference_47 : decode cX0_pourDifference 47 = .ok (.iload 6, 2) := by decide +kernel
theorem dX0_pourDifference_49 : decode cX0_pourDifference 49 = .ok (.imul, 1) := by decide +kernel
theorem dX0_pourDifference_50 : decode cX0_pourDifference 50 = .ok (.isub, 1) := by decide +kernel
theorem dX0_pourDifference_51 : decode cX0_pourDifference 51 = .ok (.iload 5, 2) := by decide +kernel
theorem dX0_pourDifference_53 : decode cX0_pourDifference 53 = .ok (.iload 7, 2) := by decide +kernel
theorem dX0_pourDifference_55 : decode cX0_pourDifference 55 = .ok (.imul, 1) := by decide +kernel
theorem dX0_pourDifference_56 : decode cX0_pourDifference 56 = .ok (.isub, 1) := by decide +kernel
theorem dX0_pourDifference_57 : decode cX0_pourDifference 57 = .ok (.istore 8, 2) := by decide +kernel
theorem dX0_pourDifference_59 : decode cX0_pourDifference 59 = .ok (.iload 4, 2) := by decide +kernel
theorem dX0_pourDifference_61 : decode cX0_pourDifference 61 = .ok (.iload 5, 2) := by decide +kernel
theorem dX0_pourDifference_63 : decode cX0_pourDifference 63 = .ok (.if_icmp .le 11, 3) := by decide +kernel
theorem dX0_pourDifference_66 : decode cX0_pourDifference 66 = .ok (.aload_n 1, 1) := by decide +kernel
theorem dX0_pourDifference_67 : decode cX0_pourDifference 67 = .ok (.iload_n 2, 1) := by decide +kernel
theorem dX0_pourDifference_68 : decode cX0_pourDifference 68 = .ok (.invokevirtual 48, 3) := by decide +kernel
theorem dX0_pourDifference_71 : decode cX0_pourDifference 71 = .ok (.goto 9, 3) := by decide +kernel
theorem dX0_pourDifference_74 : decode cX0_pourDifference 74 = .ok (.aload_n 1, 1) := by decide +kernel
theorem dX0_pourDifference_75 : decode cX0_pourDifference 75 = .ok (.iload_n 2, 1) := by decide +kernel
theorem dX0_pourDifference_76 : decode cX0_pourDifference 76 = .ok (.invokevirtual 48, 3) := by decide +kernel
theorem dX0_pourDifference_79 : decode cX0_pourDifference 79 = .ok (.ineg, 1) := by decide +kernel
theorem dX0_pourDifference_80 : decode cX0_pourDifference 80 = .ok (.istore 9, 2) := by decide +kernel
theorem dX0_pourDifference_82 : decode cX0_pourDifference 82 = .ok (.iload 4, 2) := by decide +kernel
theorem dX0_pourDifference_84 : decode cX0_pourDifference 84 = .ok (.iload 5, 2) := by decide +kernel
theorem dX0_pourDifference_86 : decode cX0_pourDifference 86 = .ok (.iadd, 1) := by decide +kernel
theorem dX0_pourDifference_87 : decode cX0_pourDifference 87 = .ok (.iconst 1, 1) := by decide +kernel
theorem dX0_pourDifference_88 : decode cX0_pourDifference 88 = .ok (.isub, 1) := by decide +kernel
theorem dX0_pourDifference_89 : decode cX0_pourDifference 89 = .ok (.istore 10, 2) := by decide +kernel
theorem dX0_pourDifference_91 : decode cX0_pourDifference 91 = .ok (.iload 4, 2) := by decide +kernel
theorem dX0_pourDifference_93 : decode cX0_pourDifference 93 = .ok (.iload 5, 2) := by decide +kernel
theorem dX0_pourDifference_95 : decode cX0_pourDifference 95 = .ok (.invokestatic 77, 3) := by decide +kernel
theorem dX0_pourDifference_98 : decode cX0_pourDifference 98 = .ok (.istore 11, 2) := by decide +kernel
theorem dX0_pourDifference_100 : decode cX0_pourDifference 100 = .ok (.iload 11, 2) := by decide +kernel
theorem dX0_pourDifference_102 : decode cX0_pourDifference 102 = .ok (.iload 4, 2) := by decide +kernel
theorem dX0_pourDifference_104 : decode cX0_pourDifference 104 = .ok (.iload 5, 2) := by decide +kernel
theorem dX0_pourDifference_106 : decode cX0_pourDifference 106 = .ok (.invokestatic 82, 3) := by decide +kernel
theorem dX0_pourDifference_109 : decode cX0_pourDifference 109 = .ok (.if_icmp .ge 36, 3) := by decide +kernel
theorem dX0_pourDifference_112 : decode cX0_pourDifference 112 = .ok (.aload_n 0, 1) := by decide +kernel
theorem dX0_pourDifference_113 : decode cX0_pourDifference 113 = .ok (.getfield 12, 3) := by decide +kernel
theorem dX0_pourDifference_116 : decode cX0_pourDifference 116 = .ok (.iload 8, 2) := by decide +kernel
theorem dX0_pourDifference_118 : decode cX0_pourDifference 118 = .ok (.iload 11, 2) := by decide +kernel
theorem dX0_pourDifference_120 : decode cX0_pourDifference 120 = .ok (.iload 6, 2) := by decide +kernel
theorem dX0_pourDifference_122 : decode cX0_pourDifference 122 = .ok (.imul, 1) := by decide +kernel
theorem dX0_pourDifference_123 : decode cX0_pourDifference 123 = .ok (.iadd, 1) := by decide +kernel
theorem dX0_pourDifference_124 : decode cX0_pourDifference 124 = .ok (.iload 10, 2) := by decide +kernel
theorem dX0_pourDifference_126 : decode cX0_pourDifference 126 = .ok (.iload 11, 2) := by decide +kernel
theorem dX0_pourDifference_128 : decode cX0_pourDifference 128 = .ok (.isub, 1) := by decide +kernel
theorem dX0_pourDifference_129 : decode cX0_pourDifference 129 = .ok (.iload 7, 2) := by decide +kernel
theorem dX0_pourDifference_131 : decode cX0_pourDifference 131 = .ok (.imul, 1) := by decide +kernel
theorem dX0_pourDifference_132 : decode cX0_pourDifference 132 = .ok (.iadd, 1) := by decide +kernel
theorem dX0_pourDifference_133 : decode cX0_pourDifference 133 = .ok (.iload 9, 2) := by decide +kernel
theorem dX0_pourDifference_135 : decode cX0_pourDifference 135 = .ok (.i2l, 1) := by decide +kernel
theorem dX0_pourDifference_136 : decode cX0_pourDifference 136 = .ok (.invokevirtual 32, 3) := by decide +kernel
theorem dX0_pourDifference_139 : decode cX0_pourDifference 139 = .ok (.iinc 11 1, 3) := by decide +kernel
theorem dX0_pourDifference_142 : decode cX0_pourDifference 142 = .ok (.goto (-42), 3) := by decide +kernel
theorem dX0_pourDifference_145 : decode cX0_pourDifference 145 = .ok (.return_, 1) := by decide +kernel
theorem dX0_compose_0 : decode cX0_compose 0 = .ok (.lconst 0, 1) := by decide +kernel
theorem dX0_compose_1 : decode cX0_compose 1 = .ok (.lstore 4, 2) := by decide +kernel
theorem dX0_compose_3 : decode cX0_compose 3 = .ok (.iload_n 2, 1) := by decide +kernel
theorem dX0_compose_4 : decode cX0_compose 4 = .ok (.istore 6, 2) := by decide +kernel
theorem dX0_compose_6 : decode cX0_compose 6 = .ok (.iconst 0, 1) := by decide +kernel
theorem dX0_compose_7 : decode cX0_compose 7 = .ok (.istore 7, 2) := by decide +kernel
theorem dX0_compose_9 : decode cX0_compose 9 = .ok (.iload 6, 2) := by decide +kernel
theorem dX0_compose_11 : decode cX0_compose 11 = .ok (.iload_n 3, 1) := by decide +kernel
theorem dX0_compose_12 : decode cX0_compose 12 = .ok (.iconst 0, 1) := by decide +kernel
theorem dX0_compose_13 : decode cX0_compose 13 = .ok (.invokestatic 85, 3) := by decide +kernel
theorem dX0_compose_16 : decode cX0_compose 16 = .ok (.istore 8, 2) := by decide +kernel
theorem dX0_compose_18 : decode cX0_compose 18 = .ok (.iload 8, 2) := by decide +kernel
theorem dX0_compose_20 : decode cX0_compose 20 = .ok (.ifCond .le 51, 3) := by decide +kernel
theorem dX0_compose_23 : decode cX0_compose 23 = .ok (.iload 7, 2) := by decide +kernel
theorem dX0_compose_25 : decode cX0_compose 25 = .ok (.bipush 10, 2) := by decide +kernel
theorem dX0_compose_27 : decode cX0_compose 27 = .ok (.if_icmp .ge 44, 3) := by decide +kernel
theorem dX0_compose_30 : decode cX0_compose 30 = .ok (.lload 4, 2) := by decide +kernel
theorem dX0_compose_32 : decode cX0_compose 32 = .ok (.ldc2_w 89, 3) := by decide +kernel
theorem dX0_compose_35 : decode cX0_compose 35 = .ok (.lmul, 1) := by decide +kernel
theorem dX0_compose_36 : decode cX0_compose 36 = .ok (.iload 8, 2) := by decide +kernel
theorem dX0_compose_38 : decode cX0_compose 38 = .ok (.i2l, 1) := by decide +kernel
theorem dX0_compose_39 : decode cX0_compose 39 = .ok (.ladd, 1) := by decide +kernel
theorem dX0_compose_40 : decode cX0_compose 40 = .ok (.lstore 4, 2) := by decide +kernel
theorem dX0_compose_42 : decode cX0_compose 42 = .ok (.iload 6, 2) := by decide +kernel
theorem dX0_compose_44 : decode cX0_compose 44 = .ok (.iload_n 3, 1) := by decide +kernel
theorem dX0_compose_45 : decode cX0_compose 45 = .ok (.iload 8, 2) := by decide +kernel
theorem dX0_compose_47 : decode cX0_compose 47 = .ok (.iload 8, 2) := by decide +kernel
theorem dX0_compose_49 : decode cX0_compose 49 = .ok (.iconst 1, 1) := by decide +kernel
theorem dX0_compose_50 : decode cX0_compose 50 = .ok (.iadd, 1) := by decide +kernel
theorem dX0_compose_51 : decode cX0_compose 51 = .ok (.invokestatic 58, 3) := by decide +kernel
theorem dX0_compose_54 : decode cX0_compose 54 = .ok (.istore 6, 2) := by decide +kernel
theorem dX0_compose_56 : decode cX0_compose 56 = .ok (.iload 6, 2) := by decide +kernel
theorem dX0_compose_58 : decode cX0_compose 58 = .ok (.iload_n 3, 1) := by decide +kernel
theorem dX0_compose_59 : decode cX0_compose 59 = .ok (.iconst 0, 1) := by decide +kernel
theorem dX0_compose_60 : decode cX0_compose 60 = .ok (.invokestatic 85, 3) := by decide +kernel
theorem dX0_compose_63 : decode cX0_compose 63 = .ok (.istore 8, 2) := by decide +kernel
theorem dX0_compose_65 : decode cX0_compose 65 = .ok (.iinc 7 1, 3) := by decide +kernel
theorem dX0_compose_68 : decode cX0_compose 68 = .ok (.goto (-50), 3) := by decide +kernel
theorem dX0_compose_71 : decode cX0_compose 71 = .ok (.aload_n 1, 1) := by decide +kernel
theorem dX0_compose_72 : decode cX0_compose 72 = .ok (.invokevirtual 91, 3) := by decide +kernel
theorem dX0_compose_75 : decode cX0_compose 75 = .ok (.aload_n 1, 1) := by decide +kernel
theorem dX0_compose_76 : decode cX0_compose 76 = .ok (.iload_n 3, 1) := by decide +kernel
theorem dX0_compose_77 : decode cX0_compose 77 = .ok (.invokestatic 94, 3) := by decide +kernel
theorem dX0_compose_80 : decode cX0_compose 80 = .ok (.iconst 1, 1) := by decide +kernel
theorem dX0_compose_81 : decode cX0_compose 81 = .ok (.invokevirtual 97, 3) := by decide +kernel
theorem dX0_compose_84 : decode cX0_compose 84 = .ok (.iconst 0, 1) := by decide +kernel
theorem dX0_compose_85 : decode cX0_compose 85 = .ok (.istore 8, 2) := by decide +kernel
theorem dX0_compose_87 : decode cX0_compose 87 = .ok (.iload 8, 2) := by decide +kernel
theorem dX0_compose_89 : decode cX0_compose 89 = .ok (.iload 7, 2) := by decide +kernel
theorem dX0_compose_91 : decode cX0_compose 91 = .ok (.if_icmp .ge 31, 3) := by decide +kernel
theorem dX0_compose_94 : decode cX0_compose 94 = .ok (.aload_n 0, 1) := by decide +kernel
theorem dX0_compose_95 : decode cX0_compose 95 = .ok (.aload_n 1, 1) := by decide +kernel
theorem dX0_compose_96 : decode cX0_compose 96 = .ok (.aload_n 1, 1) := by decide +kernel
theorem dX0_compose_97 : decode cX0_compose 97 = .ok (.lload 4, 2) := by decide +kernel
theorem dX0_compose_99 : decode cX0_compose 99 = .ok (.ldc2_w 89, 3) := by decide +kernel
theorem dX0_compose_102 : decode cX0_compose 102 = .ok (.lrem, 1) := by decide +kernel
theorem dX0_compose_103 : decode cX0_compose 103 = .ok (.l2i, 1) := by decide +kernel
theorem dX0_compose_104 : decode cX0_compose 104 = .ok (.invokevirtual 101, 3) := by decide +kernel
theorem dX0_compose_107 : decode cX0_compose 107 = .ok (.pop, 1) := by decide +kernel
theorem dX0_compose_108 : decode cX0_compose 108 = .ok (.lload 4, 2) := by decide +kernel
theorem dX0_compose_110 : decode cX0_compose 110 = .ok (.ldc2_w 89, 3) := by decide +kernel
theorem dX0_compose_113 : decode cX0_compose 113 = .ok (.ldiv, 1) := by decide +kernel
theorem dX0_compose_114 : decode cX0_compose 114 = .ok (.lstore 4, 2) := by decide +kernel
theorem dX0_compose_116 : decode cX0_compose 116 = .ok (.iinc 8 1, 3) := by decide +kernel
theorem dX0_compose_119 : decode cX0_compose 119 = .ok (.goto (-32), 3) := by decide +kernel
theorem dX0_compose_122 : decode cX0_compose 122 = .ok (.aload_n 1, 1) := by decide +kernel
theorem dX0_compose_123 : decode cX0_compose 123 = .ok (.invokevirtual 44, 3) := by decide +kernel
theorem dX0_compose_126 : decode cX0_compose 126 = .ok (.ireturn, 1) := by decide +kernel
theorem dX0_staircase_0 : decode cX0_staircase 0 = .ok (.iconst 0, 1) := by decide +kernel
theorem dX0_staircase_1 : decode cX0_staircase 1 = .ok (.istore_n 1, 1) := by decide +kernel
theorem dX0_staircase_2 : decode cX0_staircase 2 = .ok (.iconst 1, 1) := by decide +kernel
theorem dX0_staircase_3 : decode cX0_staircase 3 = .ok (.istore_n 2, 1) := by decide +kernel
theorem dX0_staircase_4 : decode cX0_staircase 4 = .ok (.iload_n 2, 1) := by decide +kernel
theorem dX0_staircase_5 : decode cX0_staircase 5 = .ok (.iconst 5, 1) := by decide +kernel
theorem dX0_staircase_6 : decode cX0_staircase 6 = .ok (.if_icmp .gt 22, 3) := by decide +kernel
theorem dX0_staircase_9 : decode cX0_staircase 9 = .ok (.iload_n 1, 1) := by decide +kernel
theorem dX0_staircase_10 : decode cX0_staircase 10 = .ok (.bipush 10, 2) := by decide +kernel
theorem dX0_staircase_12 : decode cX0_staircase 12 = .ok (.imul, 1) := by decide +kernel
theorem dX0_staircase_13 : decode cX0_staircase 13 = .ok (.iload_n 0, 1) := by decide +kernel
theorem dX0_staircase_14 : decode cX0_staircase 14 = .ok (.iload_n 2, 1) := by decide +kernel
theorem dX0_staircase_15 : decode cX0_staircase 15 = .ok (.isub, 1) := by decide +kernel
theorem dX0_staircase_16 : decode cX0_staircase 16 = .ok (.iconst 0, 1) := by decide +kernel
theorem dX0_staircase_17 : decode cX0_staircase 17 = .ok (.invokestatic 82, 3) := by decide +kernel
theorem dX0_staircase_20 : decode cX0_staircase 20 = .ok (.iadd, 1) := by decide +kernel
theorem dX0_staircase_21 : decode cX0_staircase 21 = .ok (.istore_n 1, 1) := by decide +kernel
theorem dX0_staircase_22 : decode cX0_staircase 22 = .ok (.iinc 2 1, 3) := by decide +kernel
theorem dX0_staircase_25 : decode cX0_staircase 25 = .ok (.goto (-21), 3) := by decide +kernel
theorem dX0_staircase_28 : decode cX0_staircase 28 = .ok (.iload_n 1, 1) := by decide +kernel
theorem dX0_staircase_29 : decode cX0_staircase 29 = .ok (.ireturn, 1) := by decide +kernel
theorem dX0_partOf_0 : decode cX0_partOf 0 = .ok (.aload_n 0, 1) := by decide +kernel
theorem dX0_partOf_1 : decode cX0_partOf 1 = .ok (.getfield 21, 3) := by decide +kernel
theorem dX0_partOf_4 : decode cX0_partOf 4 = .ok (.aload_n 1, 1) := by decide +kernel
theorem dX0_partOf_5 : decode cX0_partOf 5 = .ok (.invokevirtual 105, 3) := by decide +kernel
theorem dX0_partOf_8 : decode cX0_partOf 8 = .ok (.aload_n 0, 1) := by decide +kernel
theorem dX0_partOf_9 : decode cX0_partOf 9 = .ok (.iload_n 2, 1) := by decide +kernel
theorem dX0_partOf_10 : decode cX0_partOf 10 = .ok (.iload_n 3, 1) := by decide +kernel
theorem dX0_partOf_11 : decode cX0_partOf 11 = .ok (.invokevirtual 109, 3) := by decide +kernel
theorem dX0_partOf_14 : decode cX0_partOf 14 = .ok (.lreturn, 1) := by decide +kernel
theorem dX0_partOfProduct_0 : decode cX0_partOfProduct 0 = .ok (.aload_n 0, 1) := by decide +kernel
theorem dX0_partOfProduct_1 : decode cX0_partOfProduct 1 = .ok (.aload_n 0, 1) := by decide +kernel
theorem dX0_partOfProduct_2 : decode cX0_partOfProduct 2 = .ok (.getfield 21, 3) := by decide +kernel
theorem dX0_partOfProduct_5 : decode cX0_partOfProduct 5 = .ok (.iload_n 1, 1) := by decide +kernel
theorem dX0_partOfProduct_6 : decode cX0_partOfProduct 6 = .ok (.iload_n 1, 1) := by decide +kernel
theorem dX0_partOfProduct_7 : decode cX0_partOfProduct 7 = .ok (.invokestatic 113, 3) := by decide +kernel
theorem dX0_partOfProduct_10 : decode cX0_partOfProduct 10 = .ok (.invokevirtual 116, 3) := by decide +kernel
theorem dX0_partOfProduct_13 : decode cX0_partOfProduct 13 = .ok (.pop, 1) := by decide +kernel
theorem dX0_partOfProduct_14 : decode cX0_partOfProduct 14 = .ok (.aload_n 0, 1) := by decide +kernel
theorem dX0_partOfProduct_15 : decode cX0_partOfProduct 15 = .ok (.aload_n 0, 1) := by decide +kernel
theorem dX0_partOfProduct_16 : decode cX0_partOfProduct 16 = .ok (.getfield 25, 3) := by decide +kernel
theorem dX0_partOfProduct_19 : decode cX0_partOfProduct 19 = .ok (.iload_n 2, 1) := by decide +kernel
theorem dX0_partOfProduct_20 : decode cX0_partOfProduct 20 = .ok (.iload_n 2, 1) := by decide +kernel
theorem dX0_partOfProduct_21 : decode cX0_partOfProduct 21 = .ok (.invokestatic 113, 3) := by decide +kernel
theorem dX0_partOfProduct_24 : decode cX0_partOfProduct 24 = .ok (.invokevirtual 116, 3) := by decide +kernel
theorem dX0_partOfProduct_27 : decode cX0_partOfProduct 27 = .ok (.pop, 1) := by decide +kernel
theorem dX0_partOfProduct_28 : decode cX0_partOfProduct 28 = .ok (.aload_n 0, 1) := by decide +kernel
theorem dX0_partOfProduct_29 : decode cX0_partOfProduct 29 = .ok (.aload_n 0, 1) := by decide +kernel
theorem dX0_partOfProduct_30 : decode cX0_partOfProduct 30 = .ok (.getfield 21, 3) := by decide +kernel
theorem dX0_partOfProduct_33 : decode cX0_partOfProduct 33 = .ok (.aload_n 0, 1) := by decide +kernel
theorem dX0_partOfProduct_34 : decode cX0_partOfProduct 34 = .ok (.getfield 21, 3) := by decide +kernel
theorem dX0_partOfProduct_37 : decode cX0_partOfProduct 37 = .ok (.aload_n 0, 1) := by decide +kernel
theorem dX0_partOfProduct_38 : decode cX0_partOfProduct 38 = .ok (.getfield 25, 3) := by decide +kernel
theorem dX0_partOfProduct_41 : decode cX0_partOfProduct 41 = .ok (.invokevirtual 120, 3) := by decide +kernel
theorem dX0_partOfProduct_44 : decode cX0_partOfProduct 44 = .ok (.istore 4, 2) := by decide +kernel
theorem dX0_partOfProduct_46 : decode cX0_partOfProduct 46 = .ok (.iload 4, 2) := by decide +kernel
theorem dX0_partOfProduct_48 : decode cX0_partOfProduct 48 = .ok (.ifCond .ge 11, 3) := by decide +kernel
theorem dX0_partOfProduct_51 : decode cX0_partOfProduct 51 = .ok (.iload 4, 2) := by decide +kernel
theorem dX0_partOfProduct_53 : decode cX0_partOfProduct 53 = .ok (.invokestatic 124, 3) := by decide +kernel
theorem dX0_partOfProduct_56 : decode cX0_partOfProduct 56 = .ok (.goto 12, 3) := by decide +kernel
theorem dX0_partOfProduct_59 : decode cX0_partOfProduct 59 = .ok (.aload_n 0, 1) := by decide +kernel
theorem dX0_partOfProduct_60 : decode cX0_partOfProduct 60 = .ok (.iload_n 3, 1) := by decide +kernel
theorem dX0_partOfProduct_61 : decode cX0_partOfProduct 61 = .ok (.iload_n 3, 1) := by decide +kernel
theorem dX0_partOfProduct_62 : decode cX0_partOfProduct 62 = .ok (.invokestatic 113, 3) := by decide +kernel
theorem dX0_partOfProduct_65 : decode cX0_partOfProduct 65 = .ok (.invokevirtual 109, 3) := by decide +kernel
theorem dX0_partOfProduct_68 : decode cX0_partOfProduct 68 = .ok (.lreturn, 1) := by decide +kernel
theorem dX0_partOfLeft_0 : decode cX0_partOfLeft 0 = .ok (.iload_n 1, 1) := by decide +kernel
theorem dX0_partOfLeft_1 : decode cX0_partOfLeft 1 = .ok (.istore_n 3, 1) := by decide +kernel
theorem dX0_partOfLeft_2 : decode cX0_partOfLeft 2 = .ok (.iload_n 3, 1) := by decide +kernel
theorem dX0_partOfLeft_3 : decode cX0_partOfLeft 3 = .ok (.iload_n 2, 1) := by decide +kernel
theorem dX0_partOfLeft_4 : decode cX0_partOfLeft 4 = .ok (.iconst 1, 1) := by decide +kernel
theorem dX0_partOfLeft_5 : decode cX0_partOfLeft 5 = .ok (.invokestatic 85, 3) := by decide +kernel
theorem dX0_partOfLeft_8 : decode cX0_partOfLeft 8 = .ok (.istore 4, 2) := by decide +kernel
theorem dX0_partOfLeft_10 : decode cX0_partOfLeft 10 = .ok (.iconst 0, 1) := by decide +kernel
theorem dX0_partOfLeft_11 : decode cX0_partOfLeft 11 = .ok (.istore 5, 2) := by decide +kernel
theorem dX0_partOfLeft_13 : decode cX0_partOfLeft 13 = .ok (.iload 4, 2) := by decide +kernel
theorem dX0_partOfLeft_15 : decode cX0_partOfLeft 15 = .ok (.ifCond .le 63, 3) := by decide +kernel
theorem dX0_partOfLeft_18 : decode cX0_partOfLeft 18 = .ok (.iload 5, 2) := by decide +kernel
theorem dX0_partOfLeft_20 : decode cX0_partOfLeft 20 = .ok (.bipush 10, 2) := by decide +kernel
theorem dX0_partOfLeft_22 : decode cX0_partOfLeft 22 = .ok (.if_icmp .ge 56, 3) := by decide +kernel
theorem dX0_partOfLeft_25 : decode cX0_partOfLeft 25 = .ok (.aload_n 0, 1) := by decide +kernel
theorem dX0_partOfLeft_26 : decode cX0_partOfLeft 26 = .ok (.aload_n 0, 1) := by decide +kernel
theorem dX0_partOfLeft_27 : decode cX0_partOfLeft 27 = .ok (.getfield 21, 3) := by decide +kernel
theorem dX0_partOfLeft_30 : decode cX0_partOfLeft 30 = .ok (.aload_n 0, 1) := by decide +kernel
theorem dX0_partOfLeft_31 : decode cX0_partOfLeft 31 = .ok (.getfield 21, 3) := by decide +kernel
theorem dX0_partOfLeft_34 : decode cX0_partOfLeft 34 = .ok (.iload 4, 2) := by decide +kernel
theorem dX0_partOfLeft_36 : decode cX0_partOfLeft 36 = .ok (.invokevirtual 101, 3) := by decide +kernel
theorem dX0_partOfLeft_39 : decode cX0_partOfLeft 39 = .ok (.istore 6, 2) := by decide +kernel
theorem dX0_partOfLeft_41 : decode cX0_partOfLeft 41 = .ok (.iload 6, 2) := by decide +kernel
theorem dX0_partOfLeft_43 : decode cX0_partOfLeft 43 = .ok (.ifCond .ge 9, 3) := by decide +kernel
theorem dX0_partOfLeft_46 : decode cX0_partOfLeft 46 = .ok (.iload 6, 2) := by decide +kernel
theorem dX0_partOfLeft_48 : decode cX0_partOfLeft 48 = .ok (.invokestatic 124, 3) := by decide +kernel
theorem dX0_partOfLeft_51 : decode cX0_partOfLeft 51 = .ok (.lreturn, 1) := by decide +kernel
theorem dX0_partOfLeft_52 : decode cX0_partOfLeft 52 = .ok (.iload_n 3, 1) := by decide +kernel
theorem dX0_partOfLeft_53 : decode cX0_partOfLeft 53 = .ok (.iload_n 2, 1) := by decide +kernel
theorem dX0_partOfLeft_54 : decode cX0_partOfLeft 54 = .ok (.iload 4, 2) := by decide +kernel
theorem dX0_partOfLeft_56 : decode cX0_partOfLeft 56 = .ok (.iload 4, 2) := by decide +kernel
theorem dX0_partOfLeft_58 : decode cX0_partOfLeft 58 = .ok (.iconst 1, 1) := by decide +kernel
theorem dX0_partOfLeft_59 : decode cX0_partOfLeft 59 = .ok (.iadd, 1) := by decide +kernel
theorem dX0_partOfLeft_60 : decode cX0_partOfLeft 60 = .ok (.invokestatic 58, 3) := by decide +kernel
theorem dX0_partOfLeft_63 : decode cX0_partOfLeft 63 = .ok (.istore_n 3, 1) := by decide +kernel
theorem dX0_partOfLeft_64 : decode cX0_partOfLeft 64 = .ok (.iload_n 3, 1) := by decide +kernel
theorem dX0_partOfLeft_65 : decode cX0_partOfLeft 65 = .ok (.iload_n 2, 1) := by decide +kernel
theorem dX0_partOfLeft_66 : decode cX0_partOfLeft 66 = .ok (.iconst 1, 1) := by decide +kernel
theorem dX0_partOfLeft_67 : decode cX0_partOfLeft 67 = .ok (.invokestatic 85, 3) := by decide +kernel
theorem dX0_partOfLeft_70 : decode cX0_partOfLeft 70 = .ok (.istore 4, 2) := by decide +kernel
theorem dX0_partOfLeft_72 : decode cX0_partOfLeft 72 = .ok (.iinc 5 1, 3) := by decide +kernel
theorem dX0_partOfLeft_75 : decode cX0_partOfLeft 75 = .ok (.goto (-62), 3) := by decide +kernel
theorem dX0_partOfLeft_78 : decode cX0_partOfLeft 78 = .ok (.aload_n 0, 1) := by decide +kernel
theorem dX0_partOfLeft_79 : decode cX0_partOfLeft 79 = .ok (.getfield 21, 3) := by decide +kernel
theorem dX0_partOfLeft_82 : decode cX0_partOfLeft 82 = .ok (.iconst 0, 1) := by decide +kernel
theorem dX0_partOfLeft_83 : decode cX0_partOfLeft 83 = .ok (.invokevirtual 128, 3) := by decide +kernel
theorem dX0_partOfLeft_86 : decode cX0_partOfLeft 86 = .ok (.i2l, 1) := by decide +kernel
theorem dX0_partOfLeft_87 : decode cX0_partOfLeft 87 = .ok (.lreturn, 1) := by decide +kernel
theorem dX1_isShape_0 : decode cX1_isShape 0 = .ok (.iload_n 0, 1) := by decide +kernel
theorem dX1_isShape_1 : decode cX1_isShape 1 = .ok (.iconst 1, 1) := by decide +kernel
theorem dX1_isShape_2 : decode cX1_isShape 2 = .ok (.if_icmp .lt 22, 3) := by decide +kernel
theorem dX1_isShape_5 : decode cX1_isShape 5 = .ok (.iload_n 0, 1) := by decide +kernel
theorem dX1_isShape_6 : decode cX1_isShape 6 = .ok (.iconst 4, 1) := by decide +kernel
theorem dX1_isShape_7 : decode cX1_isShape 7 = .ok (.if_icmp .gt 17, 3) := by decide +kernel
theorem dX1_isShape_10 : decode cX1_isShape 10 = .ok (.iload_n 1, 1) := by decide +kernel
theorem dX1_isShape_11 : decode cX1_isShape 11 = .ok (.iconst 1, 1) := by decide +kernel
theorem dX1_isShape_12 : decode cX1_isShape 12 = .ok (.if_icmp .lt 12, 3) := by decide +kernel
theorem dX1_isShape_15 : decode cX1_isShape 15 = .ok (.iload_n 1, 1) := by decide +kernel
theorem dX1_isShape_16 : decode cX1_isShape 16 = .ok (.iconst 4, 1) := by decide +kernel
theorem dX1_isShape_17 : decode cX1_isShape 17 = .ok (.if_icmp .gt 7, 3) := by decide +kernel
theorem dX1_isShape_20 : decode cX1_isShape 20 = .ok (.iconst 1, 1) := by decide +kernel
theorem dX1_isShape_21 : decode cX1_isShape 21 = .ok (.goto 4, 3) := by decide +kernel
theorem dX1_isShape_24 : decode cX1_isShape 24 = .ok (.iconst 0, 1) := by decide +kernel
theorem dX1_isShape_25 : decode cX1_isShape 25 = .ok (.ireturn, 1) := by decide +kernel
theorem dX1_isBox_0 : decode cX1_isBox 0 = .ok (.iload_n 0, 1) := by decide +kernel
theorem dX1_isBox_1 : decode cX1_isBox 1 = .ok (.iload_n 1, 1) := by decide +kernel
theorem dX1_isBox_2 : decode cX1_isBox 2 = .ok (.invokestatic 9, 3) := by decide +kernel
theorem dX1_isBox_5 : decode cX1_isBox 5 = .ok (.ifCond .eq 17, 3) := by decide +kernel
theorem dX1_isBox_8 : decode cX1_isBox 8 = .ok (.iload_n 2, 1) := by decide +kernel
theorem dX1_isBox_9 : decode cX1_isBox 9 = .ok (.ifCond .lt 13, 3) := by decide +kernel
theorem dX1_isBox_12 : decode cX1_isBox 12 = .ok (.iload_n 2, 1) := by decide +kernel
theorem dX1_isBox_13 : decode cX1_isBox 13 = .ok (.bipush 10, 2) := by decide +kernel
theorem dX1_isBox_15 : decode cX1_isBox 15 = .ok (.iload_n 0, 1) := by decide +kernel
theorem dX1_isBox_16 : decode cX1_isBox 16 = .ok (.invokestatic 15, 3) := by decide +kernel
theorem dX1_isBox_19 : decode cX1_isBox 19 = .ok (.if_icmp .lt 5, 3) := by decide +kernel
theorem dX1_isBox_22 : decode cX1_isBox 22 = .ok (.iconst 0, 1) := by decide +kernel
theorem dX1_isBox_23 : decode cX1_isBox 23 = .ok (.ireturn, 1) := by decide +kernel
theorem dX1_isBox_24 : decode cX1_isBox 24 = .ok (.iload_n 1, 1) := by decide +kernel
theorem dX1_isBox_25 : decode cX1_isBox 25 = .ok (.istore_n 3, 1) := by decide +kernel
theorem dX1_isBox_26 : decode cX1_isBox 26 = .ok (.iconst 1, 1) := by decide +kernel
theorem dX1_isBox_27 : decode cX1_isBox 27 = .ok (.istore 4, 2) := by decide +kernel
theorem dX1_isBox_29 : decode cX1_isBox 29 = .ok (.iload 4, 2) := by decide +kernel
theorem dX1_isBox_31 : decode cX1_isBox 31 = .ok (.iload_n 0, 1) := by decide +kernel
theorem dX1_isBox_32 : decode cX1_isBox 32 = .ok (.if_icmp .gt 29, 3) := by decide +kernel
theorem dX1_isBox_35 : decode cX1_isBox 35 = .ok (.iload_n 0, 1) := by decide +kernel
theorem dX1_isBox_36 : decode cX1_isBox 36 = .ok (.iload_n 2, 1) := by decide +kernel
theorem dX1_isBox_37 : decode cX1_isBox 37 = .ok (.iload 4, 2) := by decide +kernel
theorem dX1_isBox_39 : decode cX1_isBox 39 = .ok (.invokestatic 21, 3) := by decide +kernel
theorem dX1_isBox_42 : decode cX1_isBox 42 = .ok (.istore 5, 2) := by decide +kernel
theorem dX1_isBox_44 : decode cX1_isBox 44 = .ok (.iload 5, 2) := by decide +kernel
theorem dX1_isBox_46 : decode cX1_isBox 46 = .ok (.iload_n 3, 1) := by decide +kernel
theorem dX1_isBox_47 : decode cX1_isBox 47 = .ok (.if_icmp .le 5, 3) := by decide +kernel
theorem dX1_isBox_50 : decode cX1_isBox 50 = .ok (.iconst 0, 1) := by decide +kernel
theorem dX1_isBox_51 : decode cX1_isBox 51 = .ok (.ireturn, 1) := by decide +kernel
theorem dX1_isBox_52 : decode cX1_isBox 52 = .ok (.iload 5, 2) := by decide +kernel
theorem dX1_isBox_54 : decode cX1_isBox 54 = .ok (.istore_n 3, 1) := by decide +kernel
theorem dX1_isBox_55 : decode cX1_isBox 55 = .ok (.iinc 4 1, 3) := by decide +kernel
theorem dX1_isBox_58 : decode cX1_isBox 58 = .ok (.goto (-29), 3) := by decide +kernel
theorem dX1_isBox_61 : decode cX1_isBox 61 = .ok (.iconst 1, 1) := by decide +kernel
theorem dX1_isBox_62 : decode cX1_isBox 62 = .ok (.ireturn, 1) := by decide +kernel
theorem dX1_figure_0 : decode cX1_figure 0 = .ok (.iload_n 1, 1) := by decide +kernel
theorem dX1_figure_1 : decode cX1_figure 1 = .ok (.iload_n 0, 1) := by decide +kernel
theorem dX1_figure_2 : decode cX1_figure 2 = .ok (.iload_n 2, 1) := by decide +kernel
theorem dX1_figure_3 : decode cX1_figure 3 = .ok (.isub, 1) := by decide +kernel
theorem dX1_figure_4 : decode cX1_figure 4 = .ok (.invokestatic 25, 3) := by decide +kernel
theorem dX1_figure_7 : decode cX1_figure 7 = .ok (.ireturn, 1) := by decide +kernel
theorem dX1_places_0 : decode cX1_places 0 = .ok (.iconst 0, 1) := by decide +kernel
theorem dX1_places_1 : decode cX1_places 1 = .ok (.istore_n 2, 1) := by decide +kernel
theorem dX1_places_2 : decode cX1_places 2 = .ok (.iconst 1, 1) := by decide +kernel
theorem dX1_places_3 : decode cX1_places 3 = .ok (.istore_n 3, 1) := by decide +kernel
theorem dX1_places_4 : decode cX1_places 4 = .ok (.iload_n 3, 1) := by decide +kernel
theorem dX1_places_5 : decode cX1_places 5 = .ok (.iload_n 0, 1) := by decide +kernel
theorem dX1_places_6 : decode cX1_places 6 = .ok (.if_icmp .gt 18, 3) := by decide +kernel
theorem dX1_places_9 : decode cX1_places 9 = .ok (.iload_n 2, 1) := by decide +kernel
theorem dX1_places_10 : decode cX1_places 10 = .ok (.iload_n 0, 1) := by decide +kernel
theorem dX1_places_11 : decode cX1_places 11 = .ok (.iload_n 1, 1) := by decide +kernel
theorem dX1_places_12 : decode cX1_places 12 = .ok (.iload_n 3, 1) := by decide +kernel
theorem dX1_places_13 : decode cX1_places 13 = .ok (.invokestatic 21, 3) := by decide +kernel
theorem dX1_places_16 : decode cX1_places 16 = .ok (.iadd, 1) := by decide +kernel
theorem dX1_places_17 : decode cX1_places 17 = .ok (.istore_n 2, 1) := by decide +kernel
theorem dX1_places_18 : decode cX1_places 18 = .ok (.iinc 3 1, 3) := by decide +kernel
theorem dX1_places_21 : decode cX1_places 21 = .ok (.goto (-17), 3) := by decide +kernel
theorem dX1_places_24 : decode cX1_places 24 = .ok (.iload_n 2, 1) := by decide +kernel
theorem dX1_places_25 : decode cX1_places 25 = .ok (.ireturn, 1) := by decide +kernel
theorem dX1_stripAt_0 : decode cX1_stripAt 0 = .ok (.iload 4, 2) := by decide +kernel
theorem dX1_stripAt_2 : decode cX1_stripAt 2 = .ok (.ifCond .lt 16, 3) := by decide +kernel
theorem dX1_stripAt_5 : decode cX1_stripAt 5 = .ok (.iload 4, 2) := by decide +kernel
theorem dX1_stripAt_7 : decode cX1_stripAt 7 = .ok (.iload_n 0, 1) := by decide +kernel
theorem dX1_stripAt_8 : decode cX1_stripAt 8 = .ok (.iload_n 1, 1) := by decide +kernel
theorem dX1_stripAt_9 : decode cX1_stripAt 9 = .ok (.iload_n 2, 1) := by decide +kernel
theorem dX1_stripAt_10 : decode cX1_stripAt 10 = .ok (.iload_n 3, 1) := by decide +kernel
theorem dX1_stripAt_11 : decode cX1_stripAt 11 = .ok (.iconst 1, 1) := by decide +kernel
theorem dX1_stripAt_12 : decode cX1_stripAt 12 = .ok (.invokestatic 28, 3) := by decide +kernel
theorem dX1_stripAt_15 : decode cX1_stripAt 15 = .ok (.if_icmp .lt 5, 3) := by decide +kernel
theorem dX1_stripAt_18 : decode cX1_stripAt 18 = .ok (.iconst (-1), 1) := by decide +kernel
theorem dX1_stripAt_19 : decode cX1_stripAt 19 = .ok (.ireturn, 1) := by decide +kernel
theorem dX1_stripAt_20 : decode cX1_stripAt 20 = .ok (.iload 4, 2) := by decide +kernel
theorem dX1_stripAt_22 : decode cX1_stripAt 22 = .ok (.istore 5, 2) := by decide +kernel
theorem dX1_stripAt_24 : decode cX1_stripAt 24 = .ok (.iload_n 3, 1) := by decide +kernel
theorem dX1_stripAt_25 : decode cX1_stripAt 25 = .ok (.istore 6, 2) := by decide +kernel
theorem dX1_stripAt_27 : decode cX1_stripAt 27 = .ok (.iconst 0, 1) := by decide +kernel
theorem dX1_stripAt_28 : decode cX1_stripAt 28 = .ok (.istore 7, 2) := by decide +kernel
theorem dX1_stripAt_30 : decode cX1_stripAt 30 = .ok (.iconst 1, 1) := by decide +kernel
theorem dX1_stripAt_31 : decode cX1_stripAt 31 = .ok (.istore 8, 2) := by decide +kernel
theorem dX1_stripAt_33 : decode cX1_stripAt 33 = .ok (.iload 8, 2) := by decide +kernel
theorem dX1_stripAt_35 : decode cX1_stripAt 35 = .ok (.iload_n 0, 1) := by decide +kernel
theorem dX1_stripAt_36 : decode cX1_stripAt 36 = .ok (.if_icmp .gt 110, 3) := by decide +kernel
theorem dX1_stripAt_39 : decode cX1_stripAt 39 = .ok (.iconst 0, 1) := by decide +kernel
theorem dX1_stripAt_40 : decode cX1_stripAt 40 = .ok (.istore 9, 2) := by decide +kernel
theorem dX1_stripAt_42 : decode cX1_stripAt 42 = .ok (.iload_n 0, 1) := by decide +kernel
theorem dX1_stripAt_43 : decode cX1_stripAt 43 = .ok (.iload_n 1, 1) := by decide +kernel
theorem dX1_stripAt_44 : decode cX1_stripAt 44 = .ok (.iload_n 2, 1) := by decide +kernel
theorem dX1_stripAt_45 : decode cX1_stripAt 45 = .ok (.iload 8, 2) := by decide +kernel
theorem dX1_stripAt_47 : decode cX1_stripAt 47 = .ok (.invokestatic 32, 3) := by decide +kernel
theorem dX1_stripAt_50 : decode cX1_stripAt 50 = .ok (.iload 6, 2) := by decide +kernel
theorem dX1_stripAt_52 : decode cX1_stripAt 52 = .ok (.invokestatic 36, 3) := by decide +kernel
theorem dX1_stripAt_55 : decode cX1_stripAt 55 = .ok (.istore 10, 2) := by decide +kernel
theorem dX1_stripAt_57 : decode cX1_stripAt 57 = .ok (.iload_n 0, 1) := by decide +kernel
theorem dX1_stripAt_58 : decode cX1_stripAt 58 = .ok (.iload_n 1, 1) := by decide +kernel
theorem dX1_stripAt_59 : decode cX1_stripAt 59 = .ok (.iload_n 2, 1) := by decide +kernel
theorem dX1_stripAt_60 : decode cX1_stripAt 60 = .ok (.iload 6, 2) := by decide +kernel
theorem dX1_stripAt_62 : decode cX1_stripAt 62 = .ok (.iload 8, 2) := by decide +kernel
theorem dX1_stripAt_64 : decode cX1_stripAt 64 = .ok (.iconst 1, 1) := by decide +kernel
theorem dX1_stripAt_65 : decode cX1_stripAt 65 = .ok (.iadd, 1) := by decide +kernel
theorem dX1_stripAt_66 : decode cX1_stripAt 66 = .ok (.invokestatic 28, 3) := by decide +kernel
theorem dX1_stripAt_69 : decode cX1_stripAt 69 = .ok (.istore 11, 2) := by decide +kernel
theorem dX1_stripAt_71 : decode cX1_stripAt 71 = .ok (.iload 9, 2) := by decide +kernel
theorem dX1_stripAt_73 : decode cX1_stripAt 73 = .ok (.iload 10, 2) := by decide +kernel
theorem dX1_stripAt_75 : decode cX1_stripAt 75 = .ok (.if_icmp .ge 40, 3) := by decide +kernel
theorem dX1_stripAt_78 : decode cX1_stripAt 78 = .ok (.iload 5, 2) := by decide +kernel
theorem dX1_stripAt_80 : decode cX1_stripAt 80 = .ok (.iload 11, 2) := by decide +kernel
theorem dX1_stripAt_82 : decode cX1_stripAt 82 = .ok (.if_icmp .lt 33, 3) := by decide +kernel
theorem dX1_stripAt_85 : decode cX1_stripAt 85 = .ok (.iload 5, 2) := by decide +kernel
theorem dX1_stripAt_87 : decode cX1_stripAt 87 = .ok (.iload 11, 2) := by decide +kernel
theorem dX1_stripAt_89 : decode cX1_stripAt 89 = .ok (.isub, 1) := by decide +kernel
theorem dX1_stripAt_90 : decode cX1_stripAt 90 = .ok (.istore 5, 2) := by decide +kernel
theorem dX1_stripAt_92 : decode cX1_stripAt 92 = .ok (.iinc 9 1, 3) := by decide +kernel
theorem dX1_stripAt_95 : decode cX1_stripAt 95 = .ok (.iload_n 0, 1) := by decide +kernel
theorem dX1_stripAt_96 : decode cX1_stripAt 96 = .ok (.iload_n 1, 1) := by decide +kernel
theorem dX1_stripAt_97 : decode cX1_stripAt 97 = .ok (.iload_n 2, 1) := by decide +kernel
theorem dX1_stripAt_98 : decode cX1_stripAt 98 = .ok (.iload 6, 2) := by decide +kernel
theorem dX1_stripAt_100 : decode cX1_stripAt 100 = .ok (.iload 9, 2) := by decide +kernel
theorem dX1_stripAt_102 : decode cX1_stripAt 102 = .ok (.isub, 1) := by decide +kernel
theorem dX1_stripAt_103 : decode cX1_stripAt 103 = .ok (.iload 8, 2) := by decide +kernel
theorem dX1_stripAt_105 : decode cX1_stripAt 105 = .ok (.iconst 1, 1) := by decide +kernel
theorem dX1_stripAt_106 : decode cX1_stripAt 106 = .ok (.iadd, 1) := by decide +kernel
theorem dX1_stripAt_107 : decode cX1_stripAt 107 = .ok (.invokestatic 28, 3) := by decide +kernel
theorem dX1_stripAt_110 : decode cX1_stripAt 110 = .ok (.istore 11, 2) := by decide +kernel
theorem dX1_stripAt_112 : decode cX1_stripAt 112 = .ok (.goto (-41), 3) := by decide +kernel
theorem dX1_stripAt_115 : decode cX1_stripAt 115 = .ok (.iload 6, 2) := by decide +kernel
theorem dX1_stripAt_117 : decode cX1_stripAt 117 = .ok (.iload 9, 2) := by decide +kernel
theorem dX1_stripAt_119 : decode cX1_stripAt 119 = .ok (.isub, 1) := by decide +kernel
theorem dX1_stripAt_120 : decode cX1_stripAt 120 = .ok (.istore 6, 2) := by decide +kernel
theorem dX1_stripAt_122 : decode cX1_stripAt 122 = .ok (.iload 7, 2) := by decide +kernel
theorem dX1_stripAt_124 : decode cX1_stripAt 124 = .ok (.bipush 10, 2) := by decide +kernel
theorem dX1_stripAt_126 : decode cX1_stripAt 126 = .ok (.imul, 1) := by decide +kernel
theorem dX1_stripAt_127 : decode cX1_stripAt 127 = .ok (.iload_n 0, 1) := by decide +kernel
theorem dX1_stripAt_128 : decode cX1_stripAt 128 = .ok (.iload_n 2, 1) := by decide +kernel
theorem dX1_stripAt_129 : decode cX1_stripAt 129 = .ok (.iload 8, 2) := by decide +kernel
theorem dX1_stripAt_131 : decode cX1_stripAt 131 = .ok (.invokestatic 21, 3) := by decide +kernel
theorem dX1_stripAt_134 : decode cX1_stripAt 134 = .ok (.iadd, 1) := by decide +kernel
theorem dX1_stripAt_135 : decode cX1_stripAt 135 = .ok (.iload 9, 2) := by decide +kernel
theorem dX1_stripAt_137 : decode cX1_stripAt 137 = .ok (.iadd, 1) := by decide +kernel
theorem dX1_stripAt_138 : decode cX1_stripAt 138 = .ok (.istore 7, 2) := by decide +kernel
theorem dX1_stripAt_140 : decode cX1_stripAt 140 = .ok (.iinc 8 1, 3) := by decide +kernel
theorem dX1_stripAt_143 : decode cX1_stripAt 143 = .ok (.goto (-110), 3) := by decide +kernel
theorem dX1_stripAt_146 : decode cX1_stripAt 146 = .ok (.iload 7, 2) := by decide +kernel
theorem dX1_stripAt_148 : decode cX1_stripAt 148 = .ok (.ireturn, 1) := by decide +kernel
theorem dX1_room_0 : decode cX1_room 0 = .ok (.iload_n 3, 1) := by decide +kernel
theorem dX1_room_1 : decode cX1_room 1 = .ok (.iconst 1, 1) := by decide +kernel
theorem dX1_room_2 : decode cX1_room 2 = .ok (.if_icmp .ne 7, 3) := by decide +kernel
theorem dX1_room_5 : decode cX1_room 5 = .ok (.iload_n 1, 1) := by decide +kernel
theorem dX1_room_6 : decode cX1_room 6 = .ok (.goto 11, 3) := by decide +kernel
theorem dX1_room_9 : decode cX1_room 9 = .ok (.iload_n 0, 1) := by decide +kernel
theorem dX1_room_10 : decode cX1_room 10 = .ok (.iload_n 2, 1) := by decide +kernel
theorem dX1_room_11 : decode cX1_room 11 = .ok (.iload_n 3, 1) := by decide +kernel
theorem dX1_room_12 : decode cX1_room 12 = .ok (.iconst 1, 1) := by decide +kernel
theorem dX1_room_13 : decode cX1_room 13 = .ok (.isub, 1) := by decide +kernel
theorem dX1_room_14 : decode cX1_room 14 = .ok (.invokestatic 21, 3) := by decide +kernel
theorem dX1_room_17 : decode cX1_room 17 = .ok (.iload_n 0, 1) := by decide +kernel
theorem dX1_room_18 : decode cX1_room 18 = .ok (.iload_n 2, 1) := by decide +kernel
theorem dX1_room_19 : decode cX1_room 19 = .ok (.iload_n 3, 1) := by decide +kernel
theorem dX1_room_20 : decode cX1_room 20 = .ok (.invokestatic 21, 3) := by decide +kernel
theorem dX1_room_23 : decode cX1_room 23 = .ok (.isub, 1) := by decide +kernel
theorem dX1_room_24 : decode cX1_room 24 = .ok (.ireturn, 1) := by decide +kernel
theorem dX1_strips_0 : decode cX1_strips 0 = .ok (.iload 4, 2) := by decide +kernel
theorem dX1_strips_2 : decode cX1_strips 2 = .ok (.iload_n 0, 1) := by decide +kernel
theorem dX1_strips_3 : decode cX1_strips 3 = .ok (.if_icmp .le 13, 3) := by decide +kernel
theorem dX1_strips_6 : decode cX1_strips 6 = .ok (.iload_n 3, 1) := by decide +kernel
theorem dX1_strips_7 : decode cX1_strips 7 = .ok (.ifCond .ne 7, 3) := by decide +kernel
theorem dX1_strips_10 : decode cX1_strips 10 = .ok (.iconst 1, 1) := by decide +kernel
theorem dX1_strips_11 : decode cX1_strips 11 = .ok (.goto 4, 3) := by decide +kernel
theorem dX1_strips_14 : decode cX1_strips 14 = .ok (.iconst 0, 1) := by decide +kernel
theorem dX1_strips_15 : decode cX1_strips 15 = .ok (.ireturn, 1) := by decide +kernel
theorem dX1_strips_16 : decode cX1_strips 16 = .ok (.iconst 0, 1) := by decide +kernel
theorem dX1_strips_17 : decode cX1_strips 17 = .ok (.istore 5, 2) := by decide +kernel
theorem dX1_strips_19 : decode cX1_strips 19 = .ok (.iload_n 0, 1) := by decide +kernel
theorem dX1_strips_20 : decode cX1_strips 20 = .ok (.iload_n 1, 1) := by decide +kernel
theorem dX1_strips_21 : decode cX1_strips 21 = .ok (.iload_n 2, 1) := by decide +kernel
theorem dX1_strips_22 : decode cX1_strips 22 = .ok (.iload 4, 2) := by decide +kernel
theorem dX1_strips_24 : decode cX1_strips 24 = .ok (.invokestatic 32, 3) := by decide +kernel
theorem dX1_strips_27 : decode cX1_strips 27 = .ok (.iload_n 3, 1) := by decide +kernel
theorem dX1_strips_28 : decode cX1_strips 28 = .ok (.invokestatic 36, 3) := by decide +kernel
theorem dX1_strips_31 : decode cX1_strips 31 = .ok (.istore 6, 2) := by decide +kernel
theorem dX1_strips_33 : decode cX1_strips 33 = .ok (.iconst 0, 1) := by decide +kernel
theorem dX1_strips_34 : decode cX1_strips 34 = .ok (.istore 7, 2) := by decide +kernel
theorem dX1_strips_36 : decode cX1_strips 36 = .ok (.iload 7, 2) := by decide +kernel
theorem dX1_strips_38 : decode cX1_strips 38 = .ok (.iload 6, 2) := by decide +kernel
theorem dX1_strips_40 : decode cX1_strips 40 = .ok (.if_icmp .gt 28, 3) := by decide +kernel
theorem dX1_strips_43 : decode cX1_strips 43 = .ok (.iload 5, 2) := by decide +kernel
theorem dX1_strips_45 : decode cX1_strips 45 = .ok (.iload_n 0, 1) := by decide +kernel
theorem dX1_strips_46 : decode cX1_strips 46 = .ok (.iload_n 1, 1) := by decide +kernel
theorem dX1_strips_47 : decode cX1_strips 47 = .ok (.iload_n 2, 1) := by decide +kernel
theorem dX1_strips_48 : decode cX1_strips 48 = .ok (.iload_n 3, 1) := by decide +kernel
theorem dX1_strips_49 : decode cX1_strips 49 = .ok (.iload 7, 2) := by decide +kernel
theorem dX1_strips_51 : decode cX1_strips 51 = .ok (.isub, 1) := by decide +kernel
theorem dX1_strips_52 : decode cX1_strips 52 = .ok (.iload 4, 2) := by decide +kernel
theorem dX1_strips_54 : decode cX1_strips 54 = .ok (.iconst 1, 1) := by decide +kernel
theorem dX1_strips_55 : decode cX1_strips 55 = .ok (.iadd, 1) := by decide +kernel
theorem dX1_strips_56 : decode cX1_strips 56 = .ok (.invokestatic 28, 3) := by decide +kernel
theorem dX1_strips_59 : decode cX1_strips 59 = .ok (.iadd, 1) := by decide +kernel
theorem dX1_strips_60 : decode cX1_strips 60 = .ok (.istore 5, 2) := by decide +kernel
theorem dX1_strips_62 : decode cX1_strips 62 = .ok (.iinc 7 1, 3) := by decide +kernel
theorem dX1_strips_65 : decode cX1_strips 65 = .ok (.goto (-29), 3) := by decide +kernel
theorem dX1_strips_68 : decode cX1_strips 68 = .ok (.iload 5, 2) := by decide +kernel
theorem dX1_strips_70 : decode cX1_strips 70 = .ok (.ireturn, 1) := by decide +kernel
theorem dX1_toOrder_0 : decode cX1_toOrder 0 = .ok (.iconst 0, 1) := by decide +kernel
theorem dX1_toOrder_1 : decode cX1_toOrder 1 = .ok (.istore_n 3, 1) := by decide +kernel
theorem dX1_toOrder_2 : decode cX1_toOrder 2 = .ok (.iconst 0, 1) := by decide +kernel
theorem dX1_toOrder_3 : decode cX1_toOrder 3 = .ok (.istore 4, 2) := by decide +kernel
theorem dX1_toOrder_5 : decode cX1_toOrder 5 = .ok (.iconst 1, 1) := by decide +kernel
theorem dX1_toOrder_6 : decode cX1_toOrder 6 = .ok (.istore 5, 2) := by decide +kernel
theorem dX1_toOrder_8 : decode cX1_toOrder 8 = .ok (.iload 5, 2) := by decide +kernel
theorem dX1_toOrder_10 : decode cX1_toOrder 10 = .ok (.iload_n 0, 1) := by decide +kernel
theorem dX1_toOrder_11 : decode cX1_toOrder 11 = .ok (.if_icmp .gt 42, 3) := by decide +kernel
theorem dX1_toOrder_14 : decode cX1_toOrder 14 = .ok (.iload 5, 2) := by decide +kernel
theorem dX1_toOrder_16 : decode cX1_toOrder 16 = .ok (.iload_n 0, 1) := by decide +kernel
theorem dX1_toOrder_17 : decode cX1_toOrder 17 = .ok (.iload_n 2, 1) := by decide +kernel
theorem dX1_toOrder_18 : decode cX1_toOrder 18 = .ok (.iload_n 0, 1) := by decide +kernel
theorem dX1_toOrder_19 : decode cX1_toOrder 19 = .ok (.iconst 1, 1) := by decide +kernel
theorem dX1_toOrder_20 : decode cX1_toOrder 20 = .ok (.iadd, 1) := by decide +kernel
theorem dX1_toOrder_21 : decode cX1_toOrder 21 = .ok (.iload 5, 2) := by decide +kernel
theorem dX1_toOrder_23 : decode cX1_toOrder 23 = .ok (.isub, 1) := by decide +kernel
theorem dX1_toOrder_24 : decode cX1_toOrder 24 = .ok (.invokestatic 21, 3) := by decide +kernel
theorem dX1_toOrder_27 : decode cX1_toOrder 27 = .ok (.iadd, 1) := by decide +kernel
theorem dX1_toOrder_28 : decode cX1_toOrder 28 = .ok (.istore 6, 2) := by decide +kernel
theorem dX1_toOrder_30 : decode cX1_toOrder 30 = .ok (.iload 4, 2) := by decide +kernel
theorem dX1_toOrder_32 : decode cX1_toOrder 32 = .ok (.iconst 1, 1) := by decide +kernel
theorem dX1_toOrder_33 : decode cX1_toOrder 33 = .ok (.iload 6, 2) := by decide +kernel
theorem dX1_toOrder_35 : decode cX1_toOrder 35 = .ok (.ishl, 1) := by decide +kernel
theorem dX1_toOrder_36 : decode cX1_toOrder 36 = .ok (.ior, 1) := by decide +kernel
theorem dX1_toOrder_37 : decode cX1_toOrder 37 = .ok (.istore 4, 2) := by decide +kernel
theorem dX1_toOrder_39 : decode cX1_toOrder 39 = .ok (.iload_n 3, 1) := by decide +kernel
theorem dX1_toOrder_40 : decode cX1_toOrder 40 = .ok (.bipush 10, 2) := by decide +kernel
theorem dX1_toOrder_42 : decode cX1_toOrder 42 = .ok (.imul, 1) := by decide +kernel
theorem dX1_toOrder_43 : decode cX1_toOrder 43 = .ok (.iload 6, 2) := by decide +kernel
theorem dX1_toOrder_45 : decode cX1_toOrder 45 = .ok (.iadd, 1) := by decide +kernel
theorem dX1_toOrder_46 : decode cX1_toOrder 46 = .ok (.istore_n 3, 1) := by decide +kernel
theorem dX1_toOrder_47 : decode cX1_toOrder 47 = .ok (.iinc 5 1, 3) := by decide +kernel
theorem dX1_toOrder_50 : decode cX1_toOrder 50 = .ok (.goto (-42), 3) := by decide +kernel
theorem dX1_toOrder_53 : decode cX1_toOrder 53 = .ok (.iconst 1, 1) := by decide +kernel
theorem dX1_toOrder_54 : decode cX1_toOrder 54 = .ok (.istore 5, 2) := by decide +kernel
theorem dX1_toOrder_56 : decode cX1_toOrder 56 = .ok (.iload 5, 2) := by decide +kernel
theorem dX1_toOrder_58 : decode cX1_toOrder 58 = .ok (.iload_n 0, 1) := by decide +kernel
theorem dX1_toOrder_59 : decode cX1_toOrder 59 = .ok (.iload_n 1, 1) := by decide +kernel
theorem dX1_toOrder_60 : decode cX1_toOrder 60 = .ok (.iadd, 1) := by decide +kernel
theorem dX1_toOrder_61 : decode cX1_toOrder 61 = .ok (.if_icmp .gt 27, 3) := by decide +kernel
theorem dX1_toOrder_64 : decode cX1_toOrder 64 = .ok (.iload 4, 2) := by decide +kernel
theorem dX1_toOrder_66 : decode cX1_toOrder 66 = .ok (.iload 5, 2) := by decide +kernel
theorem dX1_toOrder_68 : decode cX1_toOrder 68 = .ok (.ishr, 1) := by decide +kernel
theorem dX1_toOrder_69 : decode cX1_toOrder 69 = .ok (.iconst 1, 1) := by decide +kernel
theorem dX1_toOrder_70 : decode cX1_toOrder 70 = .ok (.iand, 1) := by decide +kernel
theorem dX1_toOrder_71 : decode cX1_toOrder 71 = .ok (.ifCond .ne 11, 3) := by decide +kernel
theorem dX1_toOrder_74 : decode cX1_toOrder 74 = .ok (.iload_n 3, 1) := by decide +kernel
theorem dX1_toOrder_75 : decode cX1_toOrder 75 = .ok (.bipush 10, 2) := by decide +kernel
theorem dX1_toOrder_77 : decode cX1_toOrder 77 = .ok (.imul, 1) := by decide +kernel
theorem dX1_toOrder_78 : decode cX1_toOrder 78 = .ok (.iload 5, 2) := by decide +kernel
theorem dX1_toOrder_80 : decode cX1_toOrder 80 = .ok (.iadd, 1) := by decide +kernel
theorem dX1_toOrder_81 : decode cX1_toOrder 81 = .ok (.istore_n 3, 1) := by decide +kernel
theorem dX1_toOrder_82 : decode cX1_toOrder 82 = .ok (.iinc 5 1, 3) := by decide +kernel
theorem dX1_toOrder_85 : decode cX1_toOrder 85 = .ok (.goto (-29), 3) := by decide +kernel
theorem dX1_toOrder_88 : decode cX1_toOrder 88 = .ok (.iload_n 3, 1) := by decide +kernel
theorem dX1_toOrder_89 : decode cX1_toOrder 89 = .ok (.ireturn, 1) := by decide +kernel
theorem dX1_gather_0 : decode cX1_gather 0 = .ok (.iload_n 2, 1) := by decide +kernel
theorem dX1_gather_1 : decode cX1_gather 1 = .ok (.ifCond .gt 24, 3) := by decide +kernel
theorem dX1_gather_4 : decode cX1_gather 4 = .ok (.iload_n 1, 1) := by decide +kernel
theorem dX1_gather_5 : decode cX1_gather 5 = .ok (.ifCond .lt 9, 3) := by decide +kernel
theorem dX1_gather_8 : decode cX1_gather 8 = .ok (.iload_n 1, 1) := by decide +kernel
theorem dX1_gather_9 : decode cX1_gather 9 = .ok (.aload_n 0, 1) := by decide +kernel
theorem dX1_gather_10 : decode cX1_gather 10 = .ok (.arraylength, 1) := by decide +kernel
theorem dX1_gather_11 : decode cX1_gather 11 = .ok (.if_icmp .lt 5, 3) := by decide +kernel
theorem dX1_gather_14 : decode cX1_gather 14 = .ok (.iload_n 1, 1) := by decide +kernel
theorem dX1_gather_15 : decode cX1_gather 15 = .ok (.ireturn, 1) := by decide +kernel
theorem dX1_gather_16 : decode cX1_gather 16 = .ok (.aload_n 0, 1) := by decide +kernel
theorem dX1_gather_17 : decode cX1_gather 17 = .ok (.iload_n 1, 1) := by decide +kernel
theorem dX1_gather_18 : decode cX1_gather 18 = .ok (.iload 4, 2) := by decide +kernel
theorem dX1_gather_20 : decode cX1_gather 20 = .ok (.iastore, 1) := by decide +kernel
theorem dX1_gather_21 : decode cX1_gather 21 = .ok (.iload_n 1, 1) := by decide +kernel
theorem dX1_gather_22 : decode cX1_gather 22 = .ok (.iconst 1, 1) := by decide +kernel
theorem dX1_gather_23 : decode cX1_gather 23 = .ok (.iadd, 1) := by decide +kernel
theorem dX1_gather_24 : decode cX1_gather 24 = .ok (.ireturn, 1) := by decide +kernel
theorem dX1_gather_25 : decode cX1_gather 25 = .ok (.iload_n 1, 1) := by decide +kernel
theorem dX1_gather_26 : decode cX1_gather 26 = .ok (.istore 5, 2) := by decide +kernel
theorem dX1_gather_28 : decode cX1_gather 28 = .ok (.iconst 0, 1) := by decide +kernel
theorem dX1_gather_29 : decode cX1_gather 29 = .ok (.istore 6, 2) := by decide +kernel
theorem dX1_gather_31 : decode cX1_gather 31 = .ok (.iload 6, 2) := by decide +kernel
theorem dX1_gather_33 : decode cX1_gather 33 = .ok (.iload_n 3, 1) := by decide +kernel
theorem dX1_gather_34 : decode cX1_gather 34 = .ok (.if_icmp .gt 30, 3) := by decide +kernel
theorem dX1_gather_37 : decode cX1_gather 37 = .ok (.aload_n 0, 1) := by decide +kernel
theorem dX1_gather_38 : decode cX1_gather 38 = .ok (.iload 5, 2) := by decide +kernel
theorem dX1_gather_40 : decode cX1_gather 40 = .ok (.iload_n 2, 1) := by decide +kernel
theorem dX1_gather_41 : decode cX1_gather 41 = .ok (.iconst 1, 1) := by decide +kernel
theorem dX1_gather_42 : decode cX1_gather 42 = .ok (.isub, 1) := by decide +kernel
theorem dX1_gather_43 : decode cX1_gather 43 = .ok (.iload 6, 2) := by decide +kernel
theorem dX1_gather_45 : decode cX1_gather 45 = .ok (.iload 4, 2) := by decide +kernel
theorem dX1_gather_47 : decode cX1_gather 47 = .ok (.bipush 10, 2) := by decide +kernel
theorem dX1_gather_49 : decode cX1_gather 49 = .ok (.imul, 1) := by decide +kernel
theorem dX1_gather_50 : decode cX1_gather 50 = .ok (.iload 6, 2) := by decide +kernel
theorem dX1_gather_52 : decode cX1_gather 52 = .ok (.iadd, 1) := by decide +kernel
theorem dX1_gather_53 : decode cX1_gather 53 = .ok (.invokestatic 41, 3) := by decide +kernel
theorem dX1_gather_56 : decode cX1_gather 56 = .ok (.istore 5, 2) := by decide +kernel
theorem dX1_gather_58 : decode cX1_gather 58 = .ok (.iinc 6 1, 3) := by decide +kernel
theorem dX1_gather_61 : decode cX1_gather 61 = .ok (.goto (-30), 3) := by decide +kernel
theorem dX1_gather_64 : decode cX1_gather 64 = .ok (.iload 5, 2) := by decide +kernel
theorem dX1_gather_66 : decode cX1_gather 66 = .ok (.ireturn, 1) := by decide +kernel
theorem dX2_init_0 : decode cX2_init 0 = .ok (.aload_n 0, 1) := by decide +kernel
theorem dX2_init_1 : decode cX2_init 1 = .ok (.invokespecial 3, 3) := by decide +kernel
theorem dX2_init_4 : decode cX2_init 4 = .ok (.aload_n 0, 1) := by decide +kernel
theorem dX2_init_5 : decode cX2_init 5 = .ok (.new 9, 3) := by decide +kernel
theorem dX2_init_8 : decode cX2_init 8 = .ok (.dup, 1) := by decide +kernel
theorem dX2_init_9 : decode cX2_init 9 = .ok (.invokespecial 11, 3) := by decide +kernel
theorem dX2_init_12 : decode cX2_init 12 = .ok (.putfield 12, 3) := by decide +kernel
theorem dX2_init_15 : decode cX2_init 15 = .ok (.aload_n 0, 1) := by decide +kernel
theorem dX2_init_16 : decode cX2_init 16 = .ok (.bipush 16, 2) := by decide +kernel
theorem dX2_init_18 : decode cX2_init 18 = .ok (.newarray .int, 2) := by decide +kernel
theorem dX2_init_20 : decode cX2_init 20 = .ok (.putfield 18, 3) := by decide +kernel
theorem dX2_init_23 : decode cX2_init 23 = .ok (.aload_n 0, 1) := by decide +kernel
theorem dX2_init_24 : decode cX2_init 24 = .ok (.bipush 70, 2) := by decide +kernel
theorem dX2_init_26 : decode cX2_init 26 = .ok (.newarray .int, 2) := by decide +kernel
theorem dX2_init_28 : decode cX2_init 28 = .ok (.putfield 22, 3) := by decide +kernel
theorem dX2_init_31 : decode cX2_init 31 = .ok (.aload_n 0, 1) := by decide +kernel
theorem dX2_init_32 : decode cX2_init 32 = .ok (.bipush 70, 2) := by decide +kernel
theorem dX2_init_34 : decode cX2_init 34 = .ok (.newarray .long, 2) := by decide +kernel
theorem dX2_init_36 : decode cX2_init 36 = .ok (.putfield 25, 3) := by decide +kernel
theorem dX2_init_39 : decode cX2_init 39 = .ok (.aload_n 0, 1) := by decide +kernel
theorem dX2_init_40 : decode cX2_init 40 = .ok (.bipush 70, 2) := by decide +kernel
theorem dX2_init_42 : decode cX2_init 42 = .ok (.newarray .long, 2) := by decide +kernel
theorem dX2_init_44 : decode cX2_init 44 = .ok (.putfield 29, 3) := by decide +kernel
theorem dX2_init_47 : decode cX2_init 47 = .ok (.aload_n 0, 1) := by decide +kernel
theorem dX2_init_48 : decode cX2_init 48 = .ok (.iconst 2, 1) := by decide +kernel
theorem dX2_init_49 : decode cX2_init 49 = .ok (.putfield 32, 3) := by decide +kernel
theorem dX2_init_52 : decode cX2_init 52 = .ok (.aload_n 0, 1) := by decide +kernel
theorem dX2_init_53 : decode cX2_init 53 = .ok (.iconst 2, 1) := by decide +kernel
theorem dX2_init_54 : decode cX2_init 54 = .ok (.putfield 36, 3) := by decide +kernel
theorem dX2_init_57 : decode cX2_init 57 = .ok (.aload_n 0, 1) := by decide +kernel
theorem dX2_init_58 : decode cX2_init 58 = .ok (.iconst 0, 1) := by decide +kernel
theorem dX2_init_59 : decode cX2_init 59 = .ok (.putfield 39, 3) := by decide +kernel
theorem dX2_init_62 : decode cX2_init 62 = .ok (.return_, 1) := by decide +kernel
theorem dX2_filler_0 : decode cX2_filler 0 = .ok (.aload_n 0, 1) := by decide +kernel
theorem dX2_filler_1 : decode cX2_filler 1 = .ok (.getfield 12, 3) := by decide +kernel
theorem dX2_filler_4 : decode cX2_filler 4 = .ok (.areturn, 1) := by decide +kernel
theorem dX2_rows_0 : decode cX2_rows 0 = .ok (.aload_n 0, 1) := by decide +kernel
theorem dX2_rows_1 : decode cX2_rows 1 = .ok (.getfield 32, 3) := by decide +kernel
theorem dX2_rows_4 : decode cX2_rows 4 = .ok (.ireturn, 1) := by decide +kernel
theorem dX2_columns_0 : decode cX2_columns 0 = .ok (.aload_n 0, 1) := by decide +kernel
theorem dX2_columns_1 : decode cX2_columns 1 = .ok (.getfield 36, 3) := by decide +kernel
theorem dX2_columns_4 : decode cX2_columns 4 = .ok (.ireturn, 1) := by decide +kernel
theorem dX2_size_0 : decode cX2_size 0 = .ok (.aload_n 0, 1) := by decide +kernel
theorem dX2_size_1 : decode cX2_size 1 = .ok (.getfield 39, 3) := by decide +kernel
theorem dX2_size_4 : decode cX2_size 4 = .ok (.ireturn, 1) := by decide +kernel
theorem dX2_restart_0 : decode cX2_restart 0 = .ok (.aload_n 0, 1) := by decide +kernel
theorem dX2_restart_1 : decode cX2_restart 1 = .ok (.getfield 39, 3) := by decide +kernel
theorem dX2_restart_4 : decode cX2_restart 4 = .ok (.istore_n 3, 1) := by decide +kernel
theorem dX2_restart_5 : decode cX2_restart 5 = .ok (.aload_n 0, 1) := by decide +kernel
theorem dX2_restart_6 : decode cX2_restart 6 = .ok (.iload_n 1, 1) := by decide +kernel
theorem dX2_restart_7 : decode cX2_restart 7 = .ok (.putfield 32, 3) := by decide +kernel
theorem dX2_restart_10 : decode cX2_restart 10 = .ok (.aload_n 0, 1) := by decide +kernel
theorem dX2_restart_11 : decode cX2_restart 11 = .ok (.iload_n 2, 1) := by decide +kernel
theorem dX2_restart_12 : decode cX2_restart 12 = .ok (.putfield 36, 3) := by decide +kernel
theorem dX2_restart_15 : decode cX2_restart 15 = .ok (.aload_n 0, 1) := by decide +kernel
theorem dX2_restart_16 : decode cX2_restart 16 = .ok (.iconst 0, 1) := by decide +kernel
theorem dX2_restart_17 : decode cX2_restart 17 = .ok (.putfield 39, 3) := by decide +kernel
theorem dX2_restart_20 : decode cX2_restart 20 = .ok (.iload_n 3, 1) := by decide +kernel
theorem dX2_restart_21 : decode cX2_restart 21 = .ok (.ireturn, 1) := by decide +kernel
theorem dX2_append_0 : decode cX2_append 0 = .ok (.aload_n 0, 1) := by decide +kernel
theorem dX2_append_1 : decode cX2_append 1 = .ok (.getfield 39, 3) := by decide +kernel
theorem dX2_append_4 : decode cX2_append 4 = .ok (.bipush 16, 2) := by decide +kernel
theorem dX2_append_6 : decode cX2_append 6 = .ok (.if_icmp .lt 6, 3) := by decide +kernel
theorem dX2_append_9 : decode cX2_append 9 = .ok (.bipush (-7), 2) := by decide +kernel
theorem dX2_append_11 : decode cX2_append 11 = .ok (.ireturn, 1) := by decide +kernel
theorem dX2_append_12 : decode cX2_append 12 = .ok (.aload_n 0, 1) := by decide +kernel
theorem dX2_append_13 : decode cX2_append 13 = .ok (.getfield 18, 3) := by decide +kernel
theorem dX2_append_16 : decode cX2_append 16 = .ok (.aload_n 0, 1) := by decide +kernel
theorem dX2_append_17 : decode cX2_append 17 = .ok (.getfield 39, 3) := by decide +kernel
theorem dX2_append_20 : decode cX2_append 20 = .ok (.iload_n 1, 1) := by decide +kernel
theorem dX2_append_21 : decode cX2_append 21 = .ok (.iastore, 1) := by decide +kernel
theorem dX2_append_22 : decode cX2_append 22 = .ok (.aload_n 0, 1) := by decide +kernel
theorem dX2_append_23 : decode cX2_append 23 = .ok (.dup, 1) := by decide +kernel
theorem dX2_append_24 : decode cX2_append 24 = .ok (.getfield 39, 3) := by decide +kernel
theorem dX2_append_27 : decode cX2_append 27 = .ok (.iconst 1, 1) := by decide +kernel
theorem dX2_append_28 : decode cX2_append 28 = .ok (.iadd, 1) := by decide +kernel
theorem dX2_append_29 : decode cX2_append 29 = .ok (.putfield 39, 3) := by decide +kernel
theorem dX2_append_32 : decode cX2_append 32 = .ok (.aload_n 0, 1) := by decide +kernel
theorem dX2_append_33 : decode cX2_append 33 = .ok (.getfield 39, 3) := by decide +kernel
theorem dX2_append_36 : decode cX2_append 36 = .ok (.ireturn, 1) := by decide +kernel
theorem dX2_total_0 : decode cX2_total 0 = .ok (.aload_n 0, 1) := by decide +kernel
theorem dX2_total_1 : decode cX2_total 1 = .ok (.getfield 22, 3) := by decide +kernel
theorem dX2_total_4 : decode cX2_total 4 = .ok (.iconst 0, 1) := by decide +kernel
theorem dX2_total_5 : decode cX2_total 5 = .ok (.aload_n 0, 1) := by decide +kernel
theorem dX2_total_6 : decode cX2_total 6 = .ok (.getfield 32, 3) := by decide +kernel
theorem dX2_total_9 : decode cX2_total 9 = .ok (.aload_n 0, 1) := by decide +kernel
theorem dX2_total_10 : decode cX2_total 10 = .ok (.getfield 36, 3) := by decide +kernel
theorem dX2_total_13 : decode cX2_total 13 = .ok (.iconst 0, 1) := by decide +kernel
theorem dX2_total_14 : decode cX2_total 14 = .ok (.invokestatic 42, 3) := by decide +kernel
theorem dX2_total_17 : decode cX2_total 17 = .ok (.bipush 70, 2) := by decide +kernel
theorem dX2_total_19 : decode cX2_total 19 = .ok (.invokestatic 48, 3) := by decide +kernel
theorem dX2_total_22 : decode cX2_total 22 = .ok (.istore_n 1, 1) := by decide +kernel
theorem dX2_total_23 : decode cX2_total 23 = .ok (.iconst 0, 1) := by decide +kernel
theorem dX2_total_24 : decode cX2_total 24 = .ok (.istore_n 2, 1) := by decide +kernel
theorem dX2_total_25 : decode cX2_total 25 = .ok (.iload_n 2, 1) := by decide +kernel
theorem dX2_total_26 : decode cX2_total 26 = .ok (.iload_n 1, 1) := by decide +kernel
theorem dX2_total_27 : decode cX2_total 27 = .ok (.if_icmp .ge 24, 3) := by decide +kernel
theorem dX2_total_30 : decode cX2_total 30 = .ok (.aload_n 0, 1) := by decide +kernel
theorem dX2_total_31 : decode cX2_total 31 = .ok (.getfield 25, 3) := by decide +kernel
theorem dX2_total_34 : decode cX2_total 34 = .ok (.iload_n 2, 1) := by decide +kernel
theorem dX2_total_35 : decode cX2_total 35 = .ok (.iload_n 2, 1) := by decide +kernel
theorem dX2_total_36 : decode cX2_total 36 = .ok (.ifCond .ne 7, 3) := by decide +kernel
theorem dX2_total_39 : decode cX2_total 39 = .ok (.lconst 1, 1) := by decide +kernel
theorem dX2_total_40 : decode cX2_total 40 = .ok (.goto 4, 3) := by decide +kernel
theorem dX2_total_43 : decode cX2_total 43 = .ok (.lconst 0, 1) := by decide +kernel
theorem dX2_total_44 : decode cX2_total 44 = .ok (.lastore, 1) := by decide +kernel
theorem dX2_total_45 : decode cX2_total 45 = .ok (.iinc 2 1, 3) := by decide +kernel
theorem dX2_total_48 : decode cX2_total 48 = .ok (.goto (-23), 3) := by decide +kernel
theorem dX2_total_51 : decode cX2_total 51 = .ok (.iconst 0, 1) := by decide +kernel
theorem dX2_total_52 : decode cX2_total 52 = .ok (.istore_n 2, 1) := by decide +kernel
theorem dX2_total_53 : decode cX2_total 53 = .ok (.iload_n 2, 1) := by decide +kernel
theorem dX2_total_54 : decode cX2_total 54 = .ok (.aload_n 0, 1) := by decide +kernel
theorem dX2_total_55 : decode cX2_total 55 = .ok (.getfield 39, 3) := by decide +kernel
theorem dX2_total_58 : decode cX2_total 58 = .ok (.if_icmp .ge 20, 3) := by decide +kernel
theorem dX2_total_61 : decode cX2_total 61 = .ok (.aload_n 0, 1) := by decide +kernel
theorem dX2_total_62 : decode cX2_total 62 = .ok (.aload_n 0, 1) := by decide +kernel
theorem dX2_total_63 : decode cX2_total 63 = .ok (.getfield 18, 3) := by decide +kernel
theorem dX2_total_66 : decode cX2_total 66 = .ok (.iload_n 2, 1) := by decide +kernel
theorem dX2_total_67 : decode cX2_total 67 = .ok (.iaload, 1) := by decide +kernel
theorem dX2_total_68 : decode cX2_total 68 = .ok (.iload_n 1, 1) := by decide +kernel
theorem dX2_total_69 : decode cX2_total 69 = .ok (.invokevirtual 54, 3) := by decide +kernel
theorem dX2_total_72 : decode cX2_total 72 = .ok (.iinc 2 1, 3) := by decide +kernel
theorem dX2_total_75 : decode cX2_total 75 = .ok (.goto (-22), 3) := by decide +kernel
theorem dX2_total_78 : decode cX2_total 78 = .ok (.iload_n 1, 1) := by decide +kernel
theorem dX2_total_79 : decode cX2_total 79 = .ok (.ifCond .le 14, 3) := by decide +kernel
theorem dX2_total_82 : decode cX2_total 82 = .ok (.aload_n 0, 1) := by decide +kernel
theorem dX2_total_83 : decode cX2_total 83 = .ok (.getfield 25, 3) := by decide +kernel
theorem dX2_total_86 : decode cX2_total 86 = .ok (.iload_n 1, 1) := by decide +kernel
theorem dX2_total_87 : decode cX2_total 87 = .ok (.iconst 1, 1) := by decide +kernel
theorem dX2_total_88 : decode cX2_total 88 = .ok (.isub, 1) := by decide +kernel
theorem dX2_total_89 : decode cX2_total 89 = .ok (.laload, 1) := by decide +kernel
theorem dX2_total_90 : decode cX2_total 90 = .ok (.goto 4, 3) := by decide +kernel
theorem dX2_total_93 : decode cX2_total 93 = .ok (.lconst 0, 1) := by decide +kernel
theorem dX2_total_94 : decode cX2_total 94 = .ok (.lreturn, 1) := by decide +kernel
theorem dX2_putOn_0 : decode cX2_putOn 0 = .ok (.iconst 0, 1) := by decide +kernel
theorem dX2_putOn_1 : decode cX2_putOn 1 = .ok (.istore_n 3, 1) := by decide +kernel
theorem dX2_putOn_2 : decode cX2_putOn 2 = .ok (.iload_n 3, 1) := by decide +kernel
theorem dX2_putOn_3 : decode cX2_putOn 3 = .ok (.iload_n 2, 1) := by decide +kernel
theorem dX2_putOn_4 : decode cX2_putOn 4 = .ok (.if_icmp .ge 86, 3) := by decide +kernel
theorem dX2_putOn_7 : decode cX2_putOn 7 = .ok (.aload_n 0, 1) := by decide +kernel
theorem dX2_putOn_8 : decode cX2_putOn 8 = .ok (.getfield 29, 3) := by decide +kernel
theorem dX2_putOn_11 : decode cX2_putOn 11 = .ok (.iload_n 3, 1) := by decide +kernel
theorem dX2_putOn_12 : decode cX2_putOn 12 = .ok (.lconst 0, 1) := by decide +kernel
theorem dX2_putOn_13 : decode cX2_putOn 13 = .ok (.lastore, 1) := by decide +kernel
theorem dX2_putOn_14 : decode cX2_putOn 14 = .ok (.iconst 0, 1) := by decide +kernel
theorem dX2_putOn_15 : decode cX2_putOn 15 = .ok (.istore 4, 2) := by decide +kernel
theorem dX2_putOn_17 : decode cX2_putOn 17 = .ok (.iload 4, 2) := by decide +kernel
theorem dX2_putOn_19 : decode cX2_putOn 19 = .ok (.iload_n 2, 1) := by decide +kernel
theorem dX2_putOn_20 : decode cX2_putOn 20 = .ok (.if_icmp .ge 64, 3) := by decide +kernel
theorem dX2_putOn_23 : decode cX2_putOn 23 = .ok (.aload_n 0, 1) := by decide +kernel
theorem dX2_putOn_24 : decode cX2_putOn 24 = .ok (.getfield 25, 3) := by decide +kernel
theorem dX2_putOn_27 : decode cX2_putOn 27 = .ok (.iload 4, 2) := by decide +kernel
theorem dX2_putOn_29 : decode cX2_putOn 29 = .ok (.laload, 1) := by decide +kernel
theorem dX2_putOn_30 : decode cX2_putOn 30 = .ok (.lconst 0, 1) := by decide +kernel
theorem dX2_putOn_31 : decode cX2_putOn 31 = .ok (.lcmp, 1) := by decide +kernel
theorem dX2_putOn_32 : decode cX2_putOn 32 = .ok (.ifCond .eq 46, 3) := by decide +kernel
theorem dX2_putOn_35 : decode cX2_putOn 35 = .ok (.aload_n 0, 1) := by decide +kernel
theorem dX2_putOn_36 : decode cX2_putOn 36 = .ok (.getfield 29, 3) := by decide +kernel
theorem dX2_putOn_39 : decode cX2_putOn 39 = .ok (.iload_n 3, 1) := by decide +kernel
theorem dX2_putOn_40 : decode cX2_putOn 40 = .ok (.dup2, 1) := by decide +kernel
theorem dX2_putOn_41 : decode cX2_putOn 41 = .ok (.laload, 1) := by decide +kernel
theorem dX2_putOn_42 : decode cX2_putOn 42 = .ok (.aload_n 0, 1) := by decide +kernel
theorem dX2_putOn_43 : decode cX2_putOn 43 = .ok (.getfield 25, 3) := by decide +kernel
theorem dX2_putOn_46 : decode cX2_putOn 46 = .ok (.iload 4, 2) := by decide +kernel
theorem dX2_putOn_48 : decode cX2_putOn 48 = .ok (.laload, 1) := by decide +kernel
theorem dX2_putOn_49 : decode cX2_putOn 49 = .ok (.aload_n 0, 1) := by decide +kernel
theorem dX2_putOn_50 : decode cX2_putOn 50 = .ok (.getfield 12, 3) := by decide +kernel
theorem dX2_putOn_53 : decode cX2_putOn 53 = .ok (.aload_n 0, 1) := by decide +kernel
theorem dX2_putOn_54 : decode cX2_putOn 54 = .ok (.getfield 32, 3) := by decide +kernel
theorem dX2_putOn_57 : decode cX2_putOn 57 = .ok (.aload_n 0, 1) := by decide +kernel
theorem dX2_putOn_58 : decode cX2_putOn 58 = .ok (.getfield 22, 3) := by decide +kernel
theorem dX2_putOn_61 : decode cX2_putOn 61 = .ok (.iload 4, 2) := by decide +kernel
theorem dX2_putOn_63 : decode cX2_putOn 63 = .ok (.iaload, 1) := by decide +kernel
theorem dX2_putOn_64 : decode cX2_putOn 64 = .ok (.iload_n 1, 1) := by decide +kernel
theorem dX2_putOn_65 : decode cX2_putOn 65 = .ok (.aload_n 0, 1) := by decide +kernel
theorem dX2_putOn_66 : decode cX2_putOn 66 = .ok (.getfield 22, 3) := by decide +kernel
theorem dX2_putOn_69 : decode cX2_putOn 69 = .ok (.iload_n 3, 1) := by decide +kernel
theorem dX2_putOn_70 : decode cX2_putOn 70 = .ok (.iaload, 1) := by decide +kernel
theorem dX2_putOn_71 : decode cX2_putOn 71 = .ok (.invokevirtual 58, 3) := by decide +kernel
theorem dX2_putOn_74 : decode cX2_putOn 74 = .ok (.i2l, 1) := by decide +kernel
theorem dX2_putOn_75 : decode cX2_putOn 75 = .ok (.lmul, 1) := by decide +kernel
theorem dX2_putOn_76 : decode cX2_putOn 76 = .ok (.ladd, 1) := by decide +kernel
theorem dX2_putOn_77 : decode cX2_putOn 77 = .ok (.lastore, 1) := by decide +kernel
theorem dX2_putOn_78 : decode cX2_putOn 78 = .ok (.iinc 4 1, 3) := by decide +kernel
theorem dX2_putOn_81 : decode cX2_putOn 81 = .ok (.goto (-64), 3) := by decide +kernel
theorem dX2_putOn_84 : decode cX2_putOn 84 = .ok (.iinc 3 1, 3) := by decide +kernel
theorem dX2_putOn_87 : decode cX2_putOn 87 = .ok (.goto (-85), 3) := by decide +kernel
theorem dX2_putOn_90 : decode cX2_putOn 90 = .ok (.iconst 0, 1) := by decide +kernel
theorem dX2_putOn_91 : decode cX2_putOn 91 = .ok (.istore_n 3, 1) := by decide +kernel
theorem dX2_putOn_92 : decode cX2_putOn 92 = .ok (.iload_n 3, 1) := by decide +kernel
theorem dX2_putOn_93 : decode cX2_putOn 93 = .ok (.iload_n 2, 1) := by decide +kernel
theorem dX2_putOn_94 : decode cX2_putOn 94 = .ok (.if_icmp .ge 21, 3) := by decide +kernel
theorem dX2_putOn_97 : decode cX2_putOn 97 = .ok (.aload_n 0, 1) := by decide +kernel
theorem dX2_putOn_98 : decode cX2_putOn 98 = .ok (.getfield 25, 3) := by decide +kernel
theorem dX2_putOn_101 : decode cX2_putOn 101 = .ok (.iload_n 3, 1) := by decide +kernel
theorem dX2_putOn_102 : decode cX2_putOn 102 = .ok (.aload_n 0, 1) := by decide +kernel
theorem dX2_putOn_103 : decode cX2_putOn 103 = .ok (.getfield 29, 3) := by decide +kernel
theorem dX2_putOn_106 : decode cX2_putOn 106 = .ok (.iload_n 3, 1) := by decide +kernel
theorem dX2_putOn_107 : decode cX2_putOn 107 = .ok (.laload, 1) := by decide +kernel
theorem dX2_putOn_108 : decode cX2_putOn 108 = .ok (.lastore, 1) := by decide +kernel
theorem dX2_putOn_109 : decode cX2_putOn 109 = .ok (.iinc 3 1, 3) := by decide +kernel
theorem dX2_putOn_112 : decode cX2_putOn 112 = .ok (.goto (-20), 3) := by decide +kernel
theorem dX2_putOn_115 : decode cX2_putOn 115 = .ok (.return_, 1) := by decide +kernel
theorem dX2_digestOn_0 : decode cX2_digestOn 0 = .ok (.lload_n 1, 1) := by decide +kernel
theorem dX2_digestOn_1 : decode cX2_digestOn 1 = .ok (.lstore_n 3, 1) := by decide +kernel
theorem dX2_digestOn_2 : decode cX2_digestOn 2 = .ok (.iconst 0, 1) := by decide +kernel
theorem dX2_digestOn_3 : decode cX2_digestOn 3 = .ok (.istore 5, 2) := by decide +kernel
theorem dX2_digestOn_5 : decode cX2_digestOn 5 = .ok (.iload 5, 2) := by decide +kernel
theorem dX2_digestOn_7 : decode cX2_digestOn 7 = .ok (.aload_n 0, 1) := by decide +kernel
theorem dX2_digestOn_8 : decode cX2_digestOn 8 = .ok (.getfield 39, 3) := by decide +kernel
theorem dX2_digestOn_11 : decode cX2_digestOn 11 = .ok (.if_icmp .ge 24, 3) := by decide +kernel
theorem dX2_digestOn_14 : decode cX2_digestOn 14 = .ok (.ldc2_w 62, 3) := by decide +kernel
theorem dX2_digestOn_17 : decode cX2_digestOn 17 = .ok (.lload_n 3, 1) := by decide +kernel
theorem dX2_digestOn_18 : decode cX2_digestOn 18 = .ok (.lmul, 1) := by decide +kernel
theorem dX2_digestOn_19 : decode cX2_digestOn 19 = .ok (.aload_n 0, 1) := by decide +kernel
theorem dX2_digestOn_20 : decode cX2_digestOn 20 = .ok (.getfield 18, 3) := by decide +kernel
theorem dX2_digestOn_23 : decode cX2_digestOn 23 = .ok (.iload 5, 2) := by decide +kernel
theorem dX2_digestOn_25 : decode cX2_digestOn 25 = .ok (.iaload, 1) := by decide +kernel
theorem dX2_digestOn_26 : decode cX2_digestOn 26 = .ok (.i2l, 1) := by decide +kernel
theorem dX2_digestOn_27 : decode cX2_digestOn 27 = .ok (.ladd, 1) := by decide +kernel
theorem dX2_digestOn_28 : decode cX2_digestOn 28 = .ok (.lstore_n 3, 1) := by decide +kernel
theorem dX2_digestOn_29 : decode cX2_digestOn 29 = .ok (.iinc 5 1, 3) := by decide +kernel
theorem dX2_digestOn_32 : decode cX2_digestOn 32 = .ok (.goto (-27), 3) := by decide +kernel
theorem dX2_digestOn_35 : decode cX2_digestOn 35 = .ok (.lload_n 3, 1) := by decide +kernel
theorem dX2_digestOn_36 : decode cX2_digestOn 36 = .ok (.lreturn, 1) := by decide +kernel
theorem dX3_at_0 : decode cX3_at 0 = .ok (.iload_n 0, 1) := by decide +kernel
theorem dX3_at_1 : decode cX3_at 1 = .ok (.istore_n 2, 1) := by decide +kernel
theorem dX3_at_2 : decode cX3_at 2 = .ok (.iconst 0, 1) := by decide +kernel
theorem dX3_at_3 : decode cX3_at 3 = .ok (.istore_n 3, 1) := by decide +kernel
theorem dX3_at_4 : decode cX3_at 4 = .ok (.iload_n 3, 1) := by decide +kernel
theorem dX3_at_5 : decode cX3_at 5 = .ok (.iload_n 1, 1) := by decide +kernel
theorem dX3_at_6 : decode cX3_at 6 = .ok (.if_icmp .ge 14, 3) := by decide +kernel
theorem dX3_at_9 : decode cX3_at 9 = .ok (.iload_n 2, 1) := by decide +kernel
theorem dX3_at_10 : decode cX3_at 10 = .ok (.bipush 10, 2) := by decide +kernel
theorem dX3_at_12 : decode cX3_at 12 = .ok (.idiv, 1) := by decide +kernel
theorem dX3_at_13 : decode cX3_at 13 = .ok (.istore_n 2, 1) := by decide +kernel
theorem dX3_at_14 : decode cX3_at 14 = .ok (.iinc 3 1, 3) := by decide +kernel
theorem dX3_at_17 : decode cX3_at 17 = .ok (.goto (-13), 3) := by decide +kernel
theorem dX3_at_20 : decode cX3_at 20 = .ok (.iload_n 2, 1) := by decide +kernel
theorem dX3_at_21 : decode cX3_at 21 = .ok (.bipush 10, 2) := by decide +kernel
theorem dX3_at_23 : decode cX3_at 23 = .ok (.irem, 1) := by decide +kernel
theorem dX3_at_24 : decode cX3_at 24 = .ok (.ireturn, 1) := by decide +kernel
theorem dX3_power_0 : decode cX3_power 0 = .ok (.iconst 1, 1) := by decide +kernel
theorem dX3_power_1 : decode cX3_power 1 = .ok (.istore_n 2, 1) := by decide +kernel
theorem dX3_power_2 : decode cX3_power 2 = .ok (.iconst 0, 1) := by decide +kernel
theorem dX3_power_3 : decode cX3_power 3 = .ok (.istore_n 3, 1) := by decide +kernel
theorem dX3_power_4 : decode cX3_power 4 = .ok (.iload_n 3, 1) := by decide +kernel
theorem dX3_power_5 : decode cX3_power 5 = .ok (.iload_n 1, 1) := by decide +kernel
theorem dX3_power_6 : decode cX3_power 6 = .ok (.if_icmp .ge 13, 3) := by decide +kernel
theorem dX3_power_9 : decode cX3_power 9 = .ok (.iload_n 2, 1) := by decide +kernel
theorem dX3_power_10 : decode cX3_power 10 = .ok (.iload_n 0, 1) := by decide +kernel
theorem dX3_power_11 : decode cX3_power 11 = .ok (.imul, 1) := by decide +kernel
theorem dX3_power_12 : decode cX3_power 12 = .ok (.istore_n 2, 1) := by decide +kernel
theorem dX3_power_13 : decode cX3_power 13 = .ok (.iinc 3 1, 3) := by decide +kernel
theorem dX3_power_16 : decode cX3_power 16 = .ok (.goto (-12), 3) := by decide +kernel
theorem dX3_power_19 : decode cX3_power 19 = .ok (.iload_n 2, 1) := by decide +kernel
theorem dX3_power_20 : decode cX3_power 20 = .ok (.ireturn, 1) := by decide +kernel
theorem dX4_init_0 : decode cX4_init 0 = .ok (.aload_n 0, 1) := by decide +kernel
theorem dX4_init_1 : decode cX4_init 1 = .ok (.invokespecial 3, 3) := by decide +kernel
theorem dX4_init_4 : decode cX4_init 4 = .ok (.aload_n 0, 1) := by decide +kernel
theorem dX4_init_5 : decode cX4_init 5 = .ok (.iconst 5, 1) := by decide +kernel
theorem dX4_init_6 : decode cX4_init 6 = .ok (.newarray .int, 2) := by decide +kernel
theorem dX4_init_8 : decode cX4_init 8 = .ok (.putfield 9, 3) := by decide +kernel
theorem dX4_init_11 : decode cX4_init 11 = .ok (.aload_n 0, 1) := by decide +kernel
theorem dX4_init_12 : decode cX4_init 12 = .ok (.iconst 5, 1) := by decide +kernel
theorem dX4_init_13 : decode cX4_init 13 = .ok (.newarray .int, 2) := by decide +kernel
theorem dX4_init_15 : decode cX4_init 15 = .ok (.putfield 15, 3) := by decide +kernel
theorem dX4_init_18 : decode cX4_init 18 = .ok (.aload_n 0, 1) := by decide +kernel
theorem dX4_init_19 : decode cX4_init 19 = .ok (.iconst 5, 1) := by decide +kernel
theorem dX4_init_20 : decode cX4_init 20 = .ok (.newarray .int, 2) := by decide +kernel
theorem dX4_init_22 : decode cX4_init 22 = .ok (.putfield 18, 3) := by decide +kernel
theorem dX4_init_25 : decode cX4_init 25 = .ok (.aload_n 0, 1) := by decide +kernel
theorem dX4_init_26 : decode cX4_init 26 = .ok (.iconst 5, 1) := by decide +kernel
theorem dX4_init_27 : decode cX4_init 27 = .ok (.newarray .int, 2) := by decide +kernel
theorem dX4_init_29 : decode cX4_init 29 = .ok (.putfield 21, 3) := by decide +kernel
theorem dX4_init_32 : decode cX4_init 32 = .ok (.aload_n 0, 1) := by decide +kernel
theorem dX4_init_33 : decode cX4_init 33 = .ok (.iconst 5, 1) := by decide +kernel
theorem dX4_init_34 : decode cX4_init 34 = .ok (.iconst 5, 1) := by decide +kernel
theorem dX4_init_35 : decode cX4_init 35 = .ok (.multianewarray 24 2, 4) := by decide +kernel
theorem dX4_init_39 : decode cX4_init 39 = .ok (.putfield 26, 3) := by decide +kernel
theorem dX4_init_42 : decode cX4_init 42 = .ok (.return_, 1) := by decide +kernel
theorem dX4_howMany_0 : decode cX4_howMany 0 = .ok (.iload_n 1, 1) := by decide +kernel
theorem dX4_howMany_1 : decode cX4_howMany 1 = .ok (.iconst 4, 1) := by decide +kernel
theorem dX4_howMany_2 : decode cX4_howMany 2 = .ok (.if_icmp .gt 23, 3) := by decide +kernel
theorem dX4_howMany_5 : decode cX4_howMany 5 = .ok (.iload_n 1, 1) := by decide +kernel
theorem dX4_howMany_6 : decode cX4_howMany 6 = .ok (.iload_n 2, 1) := by decide +kernel
theorem dX4_howMany_7 : decode cX4_howMany 7 = .ok (.invokestatic 29, 3) := by decide +kernel
theorem dX4_howMany_10 : decode cX4_howMany 10 = .ok (.iload_n 1, 1) := by decide +kernel
theorem dX4_howMany_11 : decode cX4_howMany 11 = .ok (.iload_n 3, 1) := by decide +kernel
theorem dX4_howMany_12 : decode cX4_howMany 12 = .ok (.invokestatic 29, 3) := by decide +kernel
theorem dX4_howMany_15 : decode cX4_howMany 15 = .ok (.iadd, 1) := by decide +kernel
theorem dX4_howMany_16 : decode cX4_howMany 16 = .ok (.iload_n 1, 1) := by decide +kernel
theorem dX4_howMany_17 : decode cX4_howMany 17 = .ok (.iload 4, 2) := by decide +kernel
theorem dX4_howMany_19 : decode cX4_howMany 19 = .ok (.invokestatic 29, 3) := by decide +kernel
theorem dX4_howMany_22 : decode cX4_howMany 22 = .ok (.if_icmp .eq 5, 3) := by decide +kernel
theorem dX4_howMany_25 : decode cX4_howMany 25 = .ok (.iconst 0, 1) := by decide +kernel
theorem dX4_howMany_26 : decode cX4_howMany 26 = .ok (.ireturn, 1) := by decide +kernel
theorem dX4_howMany_27 : decode cX4_howMany 27 = .ok (.iconst 1, 1) := by decide +kernel
theorem dX4_howMany_28 : decode cX4_howMany 28 = .ok (.istore 5, 2) := by decide +kernel
theorem dX4_howMany_30 : decode cX4_howMany 30 = .ok (.iload 5, 2) := by decide +kernel
theorem dX4_howMany_32 : decode cX4_howMany 32 = .ok (.iload_n 1, 1) := by decide +kernel
theorem dX4_howMany_33 : decode cX4_howMany 33 = .ok (.if_icmp .gt 87, 3) := by decide +kernel
theorem dX4_howMany_36 : decode cX4_howMany 36 = .ok (.aload_n 0, 1) := by decide +kernel
theorem dX4_howMany_37 : decode cX4_howMany 37 = .ok (.getfield 9, 3) := by decide +kernel
theorem dX4_howMany_40 : decode cX4_howMany 40 = .ok (.iload 5, 2) := by decide +kernel
theorem dX4_howMany_42 : decode cX4_howMany 42 = .ok (.iload_n 1, 1) := by decide +kernel
theorem dX4_howMany_43 : decode cX4_howMany 43 = .ok (.iload_n 2, 1) := by decide +kernel
theorem dX4_howMany_44 : decode cX4_howMany 44 = .ok (.iload 5, 2) := by decide +kernel
theorem dX4_howMany_46 : decode cX4_howMany 46 = .ok (.invokestatic 35, 3) := by decide +kernel
theorem dX4_howMany_49 : decode cX4_howMany 49 = .ok (.iconst 4, 1) := by decide +kernel
theorem dX4_howMany_50 : decode cX4_howMany 50 = .ok (.invokestatic 39, 3) := by decide +kernel
theorem dX4_howMany_53 : decode cX4_howMany 53 = .ok (.iastore, 1) := by decide +kernel
theorem dX4_howMany_54 : decode cX4_howMany 54 = .ok (.aload_n 0, 1) := by decide +kernel
theorem dX4_howMany_55 : decode cX4_howMany 55 = .ok (.getfield 15, 3) := by decide +kernel
theorem dX4_howMany_58 : decode cX4_howMany 58 = .ok (.iload 5, 2) := by decide +kernel
theorem dX4_howMany_60 : decode cX4_howMany 60 = .ok (.iload_n 1, 1) := by decide +kernel
theorem dX4_howMany_61 : decode cX4_howMany 61 = .ok (.iload 4, 2) := by decide +kernel
theorem dX4_howMany_63 : decode cX4_howMany 63 = .ok (.iload 5, 2) := by decide +kernel
theorem dX4_howMany_65 : decode cX4_howMany 65 = .ok (.invokestatic 35, 3) := by decide +kernel
theorem dX4_howMany_68 : decode cX4_howMany 68 = .ok (.iconst 4, 1) := by decide +kernel
theorem dX4_howMany_69 : decode cX4_howMany 69 = .ok (.invokestatic 39, 3) := by decide +kernel
theorem dX4_howMany_72 : decode cX4_howMany 72 = .ok (.iastore, 1) := by decide +kernel
theorem dX4_howMany_73 : decode cX4_howMany 73 = .ok (.aload_n 0, 1) := by decide +kernel
theorem dX4_howMany_74 : decode cX4_howMany 74 = .ok (.getfield 18, 3) := by decide +kernel
theorem dX4_howMany_77 : decode cX4_howMany 77 = .ok (.iload 5, 2) := by decide +kernel
theorem dX4_howMany_79 : decode cX4_howMany 79 = .ok (.iload_n 1, 1) := by decide +kernel
theorem dX4_howMany_80 : decode cX4_howMany 80 = .ok (.iload_n 3, 1) := by decide +kernel
theorem dX4_howMany_81 : decode cX4_howMany 81 = .ok (.iload 5, 2) := by decide +kernel
theorem dX4_howMany_83 : decode cX4_howMany 83 = .ok (.invokestatic 35, 3) := by decide +kernel
theorem dX4_howMany_86 : decode cX4_howMany 86 = .ok (.iastore, 1) := by decide +kernel
theorem dX4_howMany_87 : decode cX4_howMany 87 = .ok (.aload_n 0, 1) := by decide +kernel
theorem dX4_howMany_88 : decode cX4_howMany 88 = .ok (.getfield 21, 3) := by decide +kernel
theorem dX4_howMany_91 : decode cX4_howMany 91 = .ok (.iload 5, 2) := by decide +kernel
theorem dX4_howMany_93 : decode cX4_howMany 93 = .ok (.iconst 0, 1) := by decide +kernel
theorem dX4_howMany_94 : decode cX4_howMany 94 = .ok (.iastore, 1) := by decide +kernel
theorem dX4_howMany_95 : decode cX4_howMany 95 = .ok (.aload_n 0, 1) := by decide +kernel
theorem dX4_howMany_96 : decode cX4_howMany 96 = .ok (.getfield 9, 3) := by decide +kernel
theorem dX4_howMany_99 : decode cX4_howMany 99 = .ok (.iload 5, 2) := by decide +kernel
theorem dX4_howMany_101 : decode cX4_howMany 101 = .ok (.iaload, 1) := by decide +kernel
theorem dX4_howMany_102 : decode cX4_howMany 102 = .ok (.aload_n 0, 1) := by decide +kernel
theorem dX4_howMany_103 : decode cX4_howMany 103 = .ok (.getfield 15, 3) := by decide +kernel
theorem dX4_howMany_106 : decode cX4_howMany 106 = .ok (.iload 5, 2) := by decide +kernel
theorem dX4_howMany_108 : decode cX4_howMany 108 = .ok (.iaload, 1) := by decide +kernel
theorem dX4_howMany_109 : decode cX4_howMany 109 = .ok (.if_icmp .le 5, 3) := by decide +kernel
theorem dX4_howMany_112 : decode cX4_howMany 112 = .ok (.iconst 0, 1) := by decide +kernel
theorem dX4_howMany_113 : decode cX4_howMany 113 = .ok (.ireturn, 1) := by decide +kernel
theorem dX4_howMany_114 : decode cX4_howMany 114 = .ok (.iinc 5 1, 3) := by decide +kernel
theorem dX4_howMany_117 : decode cX4_howMany 117 = .ok (.goto (-87), 3) := by decide +kernel
theorem dX4_howMany_120 : decode cX4_howMany 120 = .ok (.aload_n 0, 1) := by decide +kernel
theorem dX4_howMany_121 : decode cX4_howMany 121 = .ok (.iload_n 1, 1) := by decide +kernel
theorem dX4_howMany_122 : decode cX4_howMany 122 = .ok (.iconst 1, 1) := by decide +kernel
theorem dX4_howMany_123 : decode cX4_howMany 123 = .ok (.aload_n 0, 1) := by decide +kernel
theorem dX4_howMany_124 : decode cX4_howMany 124 = .ok (.getfield 15, 3) := by decide +kernel
theorem dX4_howMany_127 : decode cX4_howMany 127 = .ok (.iconst 1, 1) := by decide +kernel
theorem dX4_howMany_128 : decode cX4_howMany 128 = .ok (.iaload, 1) := by decide +kernel
theorem dX4_howMany_129 : decode cX4_howMany 129 = .ok (.invokestatic 44, 3) := by decide +kernel
theorem dX4_howMany_132 : decode cX4_howMany 132 = .ok (.ireturn, 1) := by decide +kernel
theorem dX4_fill_0 : decode cX4_fill 0 = .ok (.iload_n 2, 1) := by decide +kernel
theorem dX4_fill_1 : decode cX4_fill 1 = .ok (.iload_n 1, 1) := by decide +kernel
theorem dX4_fill_2 : decode cX4_fill 2 = .ok (.if_icmp .gt 8, 3) := by decide +kernel
theorem dX4_fill_5 : decode cX4_fill 5 = .ok (.iload_n 2, 1) := by decide +kernel
theorem dX4_fill_6 : decode cX4_fill 6 = .ok (.iconst 4, 1) := by decide +kernel
theorem dX4_fill_7 : decode cX4_fill 7 = .ok (.if_icmp .le 5, 3) := by decide +kernel
theorem dX4_fill_10 : decode cX4_fill 10 = .ok (.iconst 1, 1) := by decide +kernel
theorem dX4_fill_11 : decode cX4_fill 11 = .ok (.ireturn, 1) := by decide +kernel
theorem dX4_fill_12 : decode cX4_fill 12 = .ok (.iload_n 3, 1) := by decide +kernel
theorem dX4_fill_13 : decode cX4_fill 13 = .ok (.aload_n 0, 1) := by decide +kernel
theorem dX4_fill_14 : decode cX4_fill 14 = .ok (.getfield 9, 3) := by decide +kernel
theorem dX4_fill_17 : decode cX4_fill 17 = .ok (.iload_n 2, 1) := by decide +kernel
theorem dX4_fill_18 : decode cX4_fill 18 = .ok (.iaload, 1) := by decide +kernel
theorem dX4_fill_19 : decode cX4_fill 19 = .ok (.if_icmp .le 8, 3) := by decide +kernel
theorem dX4_fill_22 : decode cX4_fill 22 = .ok (.iload_n 3, 1) := by decide +kernel
theorem dX4_fill_23 : decode cX4_fill 23 = .ok (.iconst 4, 1) := by decide +kernel
theorem dX4_fill_24 : decode cX4_fill 24 = .ok (.if_icmp .le 29, 3) := by decide +kernel
theorem dX4_fill_27 : decode cX4_fill 27 = .ok (.aload_n 0, 1) := by decide +kernel
theorem dX4_fill_28 : decode cX4_fill 28 = .ok (.iload_n 1, 1) := by decide +kernel
theorem dX4_fill_29 : decode cX4_fill 29 = .ok (.iload_n 2, 1) := by decide +kernel
theorem dX4_fill_30 : decode cX4_fill 30 = .ok (.iconst 1, 1) := by decide +kernel
theorem dX4_fill_31 : decode cX4_fill 31 = .ok (.iadd, 1) := by decide +kernel
theorem dX4_fill_32 : decode cX4_fill 32 = .ok (.iload_n 2, 1) := by decide +kernel
theorem dX4_fill_33 : decode cX4_fill 33 = .ok (.iload_n 1, 1) := by decide +kernel
theorem dX4_fill_34 : decode cX4_fill 34 = .ok (.if_icmp .ge 14, 3) := by decide +kernel
theorem dX4_fill_37 : decode cX4_fill 37 = .ok (.aload_n 0, 1) := by decide +kernel
theorem dX4_fill_38 : decode cX4_fill 38 = .ok (.getfield 15, 3) := by decide +kernel
theorem dX4_fill_41 : decode cX4_fill 41 = .ok (.iload_n 2, 1) := by decide +kernel
theorem dX4_fill_42 : decode cX4_fill 42 = .ok (.iconst 1, 1) := by decide +kernel
theorem dX4_fill_43 : decode cX4_fill 43 = .ok (.iadd, 1) := by decide +kernel
theorem dX4_fill_44 : decode cX4_fill 44 = .ok (.iaload, 1) := by decide +kernel
theorem dX4_fill_45 : decode cX4_fill 45 = .ok (.goto 4, 3) := by decide +kernel
theorem dX4_fill_48 : decode cX4_fill 48 = .ok (.iconst 0, 1) := by decide +kernel
theorem dX4_fill_49 : decode cX4_fill 49 = .ok (.invokestatic 44, 3) := by decide +kernel
theorem dX4_fill_52 : decode cX4_fill 52 = .ok (.ireturn, 1) := by decide +kernel
theorem dX4_fill_53 : decode cX4_fill 53 = .ok (.iload_n 2, 1) := by decide +kernel
theorem dX4_fill_54 : decode cX4_fill 54 = .ok (.iconst 1, 1) := by decide +kernel
theorem dX4_fill_55 : decode cX4_fill 55 = .ok (.if_icmp .le 19, 3) := by decide +kernel
theorem dX4_fill_58 : decode cX4_fill 58 = .ok (.iload_n 3, 1) := by decide +kernel
theorem dX4_fill_59 : decode cX4_fill 59 = .ok (.aload_n 0, 1) := by decide +kernel
theorem dX4_fill_60 : decode cX4_fill 60 = .ok (.getfield 9, 3) := by decide +kernel
theorem dX4_fill_63 : decode cX4_fill 63 = .ok (.iload_n 2, 1) := by decide +kernel
theorem dX4_fill_64 : decode cX4_fill 64 = .ok (.iconst 1, 1) := by decide +kernel
theorem dX4_fill_65 : decode cX4_fill 65 = .ok (.isub, 1) := by decide +kernel
theorem dX4_fill_66 : decode cX4_fill 66 = .ok (.iaload, 1) := by decide +kernel
theorem dX4_fill_67 : decode cX4_fill 67 = .ok (.if_icmp .le 7, 3) := by decide +kernel
theorem dX4_fill_70 : decode cX4_fill 70 = .ok (.iconst 1, 1) := by decide +kernel
theorem dX4_fill_71 : decode cX4_fill 71 = .ok (.goto 4, 3) := by decide +kernel
theorem dX4_fill_74 : decode cX4_fill 74 = .ok (.iconst 0, 1) := by decide +kernel
theorem dX4_fill_75 : decode cX4_fill 75 = .ok (.istore 4, 2) := by decide +kernel
theorem dX4_fill_77 : decode cX4_fill 77 = .ok (.iload 4, 2) := by decide +kernel
theorem dX4_fill_79 : decode cX4_fill 79 = .ok (.ifCond .eq 18, 3) := by decide +kernel
theorem dX4_fill_82 : decode cX4_fill 82 = .ok (.aload_n 0, 1) := by decide +kernel
theorem dX4_fill_83 : decode cX4_fill 83 = .ok (.getfield 26, 3) := by decide +kernel
theorem dX4_fill_86 : decode cX4_fill 86 = .ok (.iload_n 2, 1) := by decide +kernel
theorem dX4_fill_87 : decode cX4_fill 87 = .ok (.iconst 1, 1) := by decide +kernel
theorem dX4_fill_88 : decode cX4_fill 88 = .ok (.isub, 1) := by decide +kernel
theorem dX4_fill_89 : decode cX4_fill 89 = .ok (.aaload, 1) := by decide +kernel
theorem dX4_fill_90 : decode cX4_fill 90 = .ok (.iload_n 3, 1) := by decide +kernel
theorem dX4_fill_91 : decode cX4_fill 91 = .ok (.iaload, 1) := by decide +kernel
theorem dX4_fill_92 : decode cX4_fill 92 = .ok (.iconst 1, 1) := by decide +kernel
theorem dX4_fill_93 : decode cX4_fill 93 = .ok (.iadd, 1) := by decide +kernel
theorem dX4_fill_94 : decode cX4_fill 94 = .ok (.goto 4, 3) := by decide +kernel
theorem dX4_fill_97 : decode cX4_fill 97 = .ok (.iconst 1, 1) := by decide +kernel
theorem dX4_fill_98 : decode cX4_fill 98 = .ok (.istore 5, 2) := by decide +kernel
theorem dX4_fill_100 : decode cX4_fill 100 = .ok (.iload_n 3, 1) := by decide +kernel
theorem dX4_fill_101 : decode cX4_fill 101 = .ok (.aload_n 0, 1) := by decide +kernel
theorem dX4_fill_102 : decode cX4_fill 102 = .ok (.getfield 15, 3) := by decide +kernel
theorem dX4_fill_105 : decode cX4_fill 105 = .ok (.iload_n 2, 1) := by decide +kernel
theorem dX4_fill_106 : decode cX4_fill 106 = .ok (.iaload, 1) := by decide +kernel
theorem dX4_fill_107 : decode cX4_fill 107 = .ok (.if_icmp .ge 16, 3) := by decide +kernel
theorem dX4_fill_110 : decode cX4_fill 110 = .ok (.aload_n 0, 1) := by decide +kernel
theorem dX4_fill_111 : decode cX4_fill 111 = .ok (.getfield 26, 3) := by decide +kernel
theorem dX4_fill_114 : decode cX4_fill 114 = .ok (.iload_n 2, 1) := by decide +kernel
theorem dX4_fill_115 : decode cX4_fill 115 = .ok (.aaload, 1) := by decide +kernel
theorem dX4_fill_116 : decode cX4_fill 116 = .ok (.iload_n 3, 1) := by decide +kernel
theorem dX4_fill_117 : decode cX4_fill 117 = .ok (.iconst 1, 1) := by decide +kernel
theorem dX4_fill_118 : decode cX4_fill 118 = .ok (.iadd, 1) := by decide +kernel
theorem dX4_fill_119 : decode cX4_fill 119 = .ok (.iaload, 1) := by decide +kernel
theorem dX4_fill_120 : decode cX4_fill 120 = .ok (.goto 4, 3) := by decide +kernel
theorem dX4_fill_123 : decode cX4_fill 123 = .ok (.iload_n 1, 1) := by decide +kernel
theorem dX4_fill_124 : decode cX4_fill 124 = .ok (.istore 6, 2) := by decide +kernel
theorem dX4_fill_126 : decode cX4_fill 126 = .ok (.iconst 0, 1) := by decide +kernel
theorem dX4_fill_127 : decode cX4_fill 127 = .ok (.istore 7, 2) := by decide +kernel
theorem dX4_fill_129 : decode cX4_fill 129 = .ok (.iload 5, 2) := by decide +kernel
theorem dX4_fill_131 : decode cX4_fill 131 = .ok (.iconst 1, 1) := by decide +kernel
theorem dX4_fill_132 : decode cX4_fill 132 = .ok (.invokestatic 48, 3) := by decide +kernel
theorem dX4_fill_135 : decode cX4_fill 135 = .ok (.istore 8, 2) := by decide +kernel
theorem dX4_fill_137 : decode cX4_fill 137 = .ok (.iload 8, 2) := by decide +kernel
theorem dX4_fill_139 : decode cX4_fill 139 = .ok (.iload 6, 2) := by decide +kernel
theorem dX4_fill_141 : decode cX4_fill 141 = .ok (.iload_n 1, 1) := by decide +kernel
theorem dX4_fill_142 : decode cX4_fill 142 = .ok (.invokestatic 39, 3) := by decide +kernel
theorem dX4_fill_145 : decode cX4_fill 145 = .ok (.if_icmp .gt 112, 3) := by decide +kernel
theorem dX4_fill_148 : decode cX4_fill 148 = .ok (.aload_n 0, 1) := by decide +kernel
theorem dX4_fill_149 : decode cX4_fill 149 = .ok (.getfield 18, 3) := by decide +kernel
theorem dX4_fill_152 : decode cX4_fill 152 = .ok (.iload 8, 2) := by decide +kernel
theorem dX4_fill_154 : decode cX4_fill 154 = .ok (.iaload, 1) := by decide +kernel
theorem dX4_fill_155 : decode cX4_fill 155 = .ok (.ifCond .le 96, 3) := by decide +kernel
theorem dX4_fill_158 : decode cX4_fill 158 = .ok (.iload 8, 2) := by decide +kernel
theorem dX4_fill_160 : decode cX4_fill 160 = .ok (.iconst 1, 1) := by decide +kernel
theorem dX4_fill_161 : decode cX4_fill 161 = .ok (.if_icmp .eq 22, 3) := by decide +kernel
theorem dX4_fill_164 : decode cX4_fill 164 = .ok (.aload_n 0, 1) := by decide +kernel
theorem dX4_fill_165 : decode cX4_fill 165 = .ok (.getfield 21, 3) := by decide +kernel
theorem dX4_fill_168 : decode cX4_fill 168 = .ok (.iload 8, 2) := by decide +kernel
theorem dX4_fill_170 : decode cX4_fill 170 = .ok (.iaload, 1) := by decide +kernel
theorem dX4_fill_171 : decode cX4_fill 171 = .ok (.aload_n 0, 1) := by decide +kernel
theorem dX4_fill_172 : decode cX4_fill 172 = .ok (.getfield 21, 3) := by decide +kernel
theorem dX4_fill_175 : decode cX4_fill 175 = .ok (.iload 8, 2) := by decide +kernel
theorem dX4_fill_177 : decode cX4_fill 177 = .ok (.iconst 1, 1) := by decide +kernel
theorem dX4_fill_178 : decode cX4_fill 178 = .ok (.isub, 1) := by decide +kernel
theorem dX4_fill_179 : decode cX4_fill 179 = .ok (.iaload, 1) := by decide +kernel
theorem dX4_fill_180 : decode cX4_fill 180 = .ok (.if_icmp .ge 71, 3) := by decide +kernel
theorem dX4_fill_183 : decode cX4_fill 183 = .ok (.aload_n 0, 1) := by decide +kernel
theorem dX4_fill_184 : decode cX4_fill 184 = .ok (.getfield 26, 3) := by decide +kernel
theorem dX4_fill_187 : decode cX4_fill 187 = .ok (.iload_n 2, 1) := by decide +kernel
theorem dX4_fill_188 : decode cX4_fill 188 = .ok (.aaload, 1) := by decide +kernel
theorem dX4_fill_189 : decode cX4_fill 189 = .ok (.iload_n 3, 1) := by decide +kernel
theorem dX4_fill_190 : decode cX4_fill 190 = .ok (.iload 8, 2) := by decide +kernel
theorem dX4_fill_192 : decode cX4_fill 192 = .ok (.iastore, 1) := by decide +kernel
theorem dX4_fill_193 : decode cX4_fill 193 = .ok (.aload_n 0, 1) := by decide +kernel
theorem dX4_fill_194 : decode cX4_fill 194 = .ok (.getfield 18, 3) := by decide +kernel
theorem dX4_fill_197 : decode cX4_fill 197 = .ok (.iload 8, 2) := by decide +kernel
theorem dX4_fill_199 : decode cX4_fill 199 = .ok (.dup2, 1) := by decide +kernel
theorem dX4_fill_200 : decode cX4_fill 200 = .ok (.iaload, 1) := by decide +kernel
theorem dX4_fill_201 : decode cX4_fill 201 = .ok (.iconst 1, 1) := by decide +kernel
theorem dX4_fill_202 : decode cX4_fill 202 = .ok (.isub, 1) := by decide +kernel
theorem dX4_fill_203 : decode cX4_fill 203 = .ok (.iastore, 1) := by decide +kernel
theorem dX4_fill_204 : decode cX4_fill 204 = .ok (.aload_n 0, 1) := by decide +kernel
theorem dX4_fill_205 : decode cX4_fill 205 = .ok (.getfield 21, 3) := by decide +kernel
theorem dX4_fill_208 : decode cX4_fill 208 = .ok (.iload 8, 2) := by decide +kernel
theorem dX4_fill_210 : decode cX4_fill 210 = .ok (.dup2, 1) := by decide +kernel
theorem dX4_fill_211 : decode cX4_fill 211 = .ok (.iaload, 1) := by decide +kernel
theorem dX4_fill_212 : decode cX4_fill 212 = .ok (.iconst 1, 1) := by decide +kernel
theorem dX4_fill_213 : decode cX4_fill 213 = .ok (.iadd, 1) := by decide +kernel
theorem dX4_fill_214 : decode cX4_fill 214 = .ok (.iastore, 1) := by decide +kernel
theorem dX4_fill_215 : decode cX4_fill 215 = .ok (.iload 7, 2) := by decide +kernel
theorem dX4_fill_217 : decode cX4_fill 217 = .ok (.aload_n 0, 1) := by decide +kernel
theorem dX4_fill_218 : decode cX4_fill 218 = .ok (.iload_n 1, 1) := by decide +kernel
theorem dX4_fill_219 : decode cX4_fill 219 = .ok (.iload_n 2, 1) := by decide +kernel
theorem dX4_fill_220 : decode cX4_fill 220 = .ok (.iload_n 3, 1) := by decide +kernel
theorem dX4_fill_221 : decode cX4_fill 221 = .ok (.iconst 1, 1) := by decide +kernel
theorem dX4_fill_222 : decode cX4_fill 222 = .ok (.isub, 1) := by decide +kernel
theorem dX4_fill_223 : decode cX4_fill 223 = .ok (.invokestatic 44, 3) := by decide +kernel
theorem dX4_fill_226 : decode cX4_fill 226 = .ok (.iadd, 1) := by decide +kernel
theorem dX4_fill_227 : decode cX4_fill 227 = .ok (.istore 7, 2) := by decide +kernel
theorem dX4_fill_229 : decode cX4_fill 229 = .ok (.aload_n 0, 1) := by decide +kernel
theorem dX4_fill_230 : decode cX4_fill 230 = .ok (.getfield 18, 3) := by decide +kernel
theorem dX4_fill_233 : decode cX4_fill 233 = .ok (.iload 8, 2) := by decide +kernel
theorem dX4_fill_235 : decode cX4_fill 235 = .ok (.dup2, 1) := by decide +kernel
theorem dX4_fill_236 : decode cX4_fill 236 = .ok (.iaload, 1) := by decide +kernel
theorem dX4_fill_237 : decode cX4_fill 237 = .ok (.iconst 1, 1) := by decide +kernel
theorem dX4_fill_238 : decode cX4_fill 238 = .ok (.iadd, 1) := by decide +kernel
theorem dX4_fill_239 : decode cX4_fill 239 = .ok (.iastore, 1) := by decide +kernel
theorem dX4_fill_240 : decode cX4_fill 240 = .ok (.aload_n 0, 1) := by decide +kernel
theorem dX4_fill_241 : decode cX4_fill 241 = .ok (.getfield 21, 3) := by decide +kernel
theorem dX4_fill_244 : decode cX4_fill 244 = .ok (.iload 8, 2) := by decide +kernel
theorem dX4_fill_246 : decode cX4_fill 246 = .ok (.dup2, 1) := by decide +kernel
theorem dX4_fill_247 : decode cX4_fill 247 = .ok (.iaload, 1) := by decide +kernel
theorem dX4_fill_248 : decode cX4_fill 248 = .ok (.iconst 1, 1) := by decide +kernel
theorem dX4_fill_249 : decode cX4_fill 249 = .ok (.isub, 1) := by decide +kernel
theorem dX4_fill_250 : decode cX4_fill 250 = .ok (.iastore, 1) := by decide +kernel
theorem dX4_fill_251 : decode cX4_fill 251 = .ok (.iinc 8 1, 3) := by decide +kernel
theorem dX4_fill_254 : decode cX4_fill 254 = .ok (.goto (-117), 3) := by decide +kernel
theorem dX4_fill_257 : decode cX4_fill 257 = .ok (.iload 7, 2) := by decide +kernel
theorem dX4_fill_259 : decode cX4_fill 259 = .ok (.ireturn, 1) := by decide +kernel
theorem dX5_init_0 : decode cX5_init 0 = .ok (.aload_n 0, 1) := by decide +kernel
theorem dX5_init_1 : decode cX5_init 1 = .ok (.invokespecial 1, 3) := by decide +kernel
theorem dX5_init_4 : decode cX5_init 4 = .ok (.aload_n 0, 1) := by decide +kernel
theorem dX5_init_5 : decode cX5_init 5 = .ok (.bipush 6, 2) := by decide +kernel
theorem dX5_init_7 : decode cX5_init 7 = .ok (.newarray .int, 2) := by decide +kernel
theorem dX5_init_9 : decode cX5_init 9 = .ok (.putfield 9, 3) := by decide +kernel
theorem dX5_init_12 : decode cX5_init 12 = .ok (.aload_n 0, 1) := by decide +kernel
theorem dX5_init_13 : decode cX5_init 13 = .ok (.iconst 0, 1) := by decide +kernel
theorem dX5_init_14 : decode cX5_init 14 = .ok (.putfield 13, 3) := by decide +kernel
theorem dX5_init_17 : decode cX5_init 17 = .ok (.return_, 1) := by decide +kernel
theorem dX5_isThere_0 : decode cX5_isThere 0 = .ok (.aload_n 0, 1) := by decide +kernel
theorem dX5_isThere_1 : decode cX5_isThere 1 = .ok (.getfield 13, 3) := by decide +kernel
theorem dX5_isThere_4 : decode cX5_isThere 4 = .ok (.ireturn, 1) := by decide +kernel
theorem dX5_vanish_0 : decode cX5_vanish 0 = .ok (.aload_n 0, 1) := by decide +kernel
theorem dX5_vanish_1 : decode cX5_vanish 1 = .ok (.iconst 0, 1) := by decide +kernel
theorem dX5_vanish_2 : decode cX5_vanish 2 = .ok (.putfield 13, 3) := by decide +kernel
theorem dX5_vanish_5 : decode cX5_vanish 5 = .ok (.return_, 1) := by decide +kernel
theorem dX5_span_0 : decode cX5_span 0 = .ok (.iconst 0, 1) := by decide +kernel
theorem dX5_span_1 : decode cX5_span 1 = .ok (.istore 4, 2) := by decide +kernel
theorem dX5_span_3 : decode cX5_span 3 = .ok (.iconst 0, 1) := by decide +kernel
theorem dX5_span_4 : decode cX5_span 4 = .ok (.istore 5, 2) := by decide +kernel
theorem dX5_span_6 : decode cX5_span 6 = .ok (.iload 5, 2) := by decide +kernel
theorem dX5_span_8 : decode cX5_span 8 = .ok (.iconst 3, 1) := by decide +kernel
theorem dX5_span_9 : decode cX5_span 9 = .ok (.if_icmp .ge 75, 3) := by decide +kernel
theorem dX5_span_12 : decode cX5_span 12 = .ok (.iload 5, 2) := by decide +kernel
theorem dX5_span_14 : decode cX5_span 14 = .ok (.iconst 1, 1) := by decide +kernel
theorem dX5_span_15 : decode cX5_span 15 = .ok (.iadd, 1) := by decide +kernel
theorem dX5_span_16 : decode cX5_span 16 = .ok (.istore 6, 2) := by decide +kernel
theorem dX5_span_18 : decode cX5_span 18 = .ok (.iload 6, 2) := by decide +kernel
theorem dX5_span_20 : decode cX5_span 20 = .ok (.iconst 4, 1) := by decide +kernel
theorem dX5_span_21 : decode cX5_span 21 = .ok (.if_icmp .ge 57, 3) := by decide +kernel
theorem dX5_span_24 : decode cX5_span 24 = .ok (.iload 4, 2) := by decide +kernel
theorem dX5_span_26 : decode cX5_span 26 = .ok (.bipush 6, 2) := by decide +kernel
theorem dX5_span_28 : decode cX5_span 28 = .ok (.if_icmp .ge 50, 3) := by decide +kernel
theorem dX5_span_31 : decode cX5_span 31 = .ok (.aload_n 0, 1) := by decide +kernel
theorem dX5_span_32 : decode cX5_span 32 = .ok (.getfield 9, 3) := by decide +kernel
theorem dX5_span_35 : decode cX5_span 35 = .ok (.iload 4, 2) := by decide +kernel
theorem dX5_span_37 : decode cX5_span 37 = .ok (.iload_n 1, 1) := by decide +kernel
theorem dX5_span_38 : decode cX5_span 38 = .ok (.iload 5, 2) := by decide +kernel
theorem dX5_span_40 : decode cX5_span 40 = .ok (.invokestatic 17, 3) := by decide +kernel
theorem dX5_span_43 : decode cX5_span 43 = .ok (.iload_n 2, 1) := by decide +kernel
theorem dX5_span_44 : decode cX5_span 44 = .ok (.iload 6, 2) := by decide +kernel
theorem dX5_span_46 : decode cX5_span 46 = .ok (.invokestatic 17, 3) := by decide +kernel
theorem dX5_span_49 : decode cX5_span 49 = .ok (.imul, 1) := by decide +kernel
theorem dX5_span_50 : decode cX5_span 50 = .ok (.iload_n 1, 1) := by decide +kernel
theorem dX5_span_51 : decode cX5_span 51 = .ok (.iload 6, 2) := by decide +kernel
theorem dX5_span_53 : decode cX5_span 53 = .ok (.invokestatic 17, 3) := by decide +kernel
theorem dX5_span_56 : decode cX5_span 56 = .ok (.iload_n 2, 1) := by decide +kernel
theorem dX5_span_57 : decode cX5_span 57 = .ok (.iload 5, 2) := by decide +kernel
theorem dX5_span_59 : decode cX5_span 59 = .ok (.invokestatic 17, 3) := by decide +kernel
theorem dX5_span_62 : decode cX5_span 62 = .ok (.imul, 1) := by decide +kernel
theorem dX5_span_63 : decode cX5_span 63 = .ok (.isub, 1) := by decide +kernel
theorem dX5_span_64 : decode cX5_span 64 = .ok (.iload_n 3, 1) := by decide +kernel
theorem dX5_span_65 : decode cX5_span 65 = .ok (.invokestatic 23, 3) := by decide +kernel
theorem dX5_span_68 : decode cX5_span 68 = .ok (.iastore, 1) := by decide +kernel
theorem dX5_span_69 : decode cX5_span 69 = .ok (.iinc 4 1, 3) := by decide +kernel
theorem dX5_span_72 : decode cX5_span 72 = .ok (.iinc 6 1, 3) := by decide +kernel
theorem dX5_span_75 : decode cX5_span 75 = .ok (.goto (-57), 3) := by decide +kernel
theorem dX5_span_78 : decode cX5_span 78 = .ok (.iinc 5 1, 3) := by decide +kernel
theorem dX5_span_81 : decode cX5_span 81 = .ok (.goto (-75), 3) := by decide +kernel
theorem dX5_span_84 : decode cX5_span 84 = .ok (.aload_n 0, 1) := by decide +kernel
theorem dX5_span_85 : decode cX5_span 85 = .ok (.aload_n 0, 1) := by decide +kernel
theorem dX5_span_86 : decode cX5_span 86 = .ok (.iload_n 3, 1) := by decide +kernel
theorem dX5_span_87 : decode cX5_span 87 = .ok (.invokevirtual 26, 3) := by decide +kernel
theorem dX5_span_90 : decode cX5_span 90 = .ok (.putfield 13, 3) := by decide +kernel
theorem dX5_span_93 : decode cX5_span 93 = .ok (.aload_n 0, 1) := by decide +kernel
theorem dX5_span_94 : decode cX5_span 94 = .ok (.getfield 13, 3) := by decide +kernel
theorem dX5_span_97 : decode cX5_span 97 = .ok (.ireturn, 1) := by decide +kernel
theorem dX5_normalize_0 : decode cX5_normalize 0 = .ok (.iconst 0, 1) := by decide +kernel
theorem dX5_normalize_1 : decode cX5_normalize 1 = .ok (.istore_n 2, 1) := by decide +kernel
theorem dX5_normalize_2 : decode cX5_normalize 2 = .ok (.iconst 0, 1) := by decide +kernel
theorem dX5_normalize_3 : decode cX5_normalize 3 = .ok (.istore_n 3, 1) := by decide +kernel
theorem dX5_normalize_4 : decode cX5_normalize 4 = .ok (.iload_n 3, 1) := by decide +kernel
theorem dX5_normalize_5 : decode cX5_normalize 5 = .ok (.bipush 6, 2) := by decide +kernel
theorem dX5_normalize_7 : decode cX5_normalize 7 = .ok (.if_icmp .ge 20, 3) := by decide +kernel
theorem dX5_normalize_10 : decode cX5_normalize 10 = .ok (.iload_n 2, 1) := by decide +kernel
theorem dX5_normalize_11 : decode cX5_normalize 11 = .ok (.ifCond .ne 16, 3) := by decide +kernel
theorem dX5_normalize_14 : decode cX5_normalize 14 = .ok (.aload_n 0, 1) := by decide +kernel
theorem dX5_normalize_15 : decode cX5_normalize 15 = .ok (.getfield 9, 3) := by decide +kernel
theorem dX5_normalize_18 : decode cX5_normalize 18 = .ok (.iload_n 3, 1) := by decide +kernel
theorem dX5_normalize_19 : decode cX5_normalize 19 = .ok (.iaload, 1) := by decide +kernel
theorem dX5_normalize_20 : decode cX5_normalize 20 = .ok (.istore_n 2, 1) := by decide +kernel
theorem dX5_normalize_21 : decode cX5_normalize 21 = .ok (.iinc 3 1, 3) := by decide +kernel
theorem dX5_normalize_24 : decode cX5_normalize 24 = .ok (.goto (-20), 3) := by decide +kernel
theorem dX5_normalize_27 : decode cX5_normalize 27 = .ok (.iload_n 2, 1) := by decide +kernel
theorem dX5_normalize_28 : decode cX5_normalize 28 = .ok (.ifCond .ne 5, 3) := by decide +kernel
theorem dX5_normalize_31 : decode cX5_normalize 31 = .ok (.iconst 0, 1) := by decide +kernel
theorem dX5_normalize_32 : decode cX5_normalize 32 = .ok (.ireturn, 1) := by decide +kernel
theorem dX5_normalize_33 : decode cX5_normalize 33 = .ok (.iconst 1, 1) := by decide +kernel
theorem dX5_normalize_34 : decode cX5_normalize 34 = .ok (.istore_n 3, 1) := by decide +kernel
theorem dX5_normalize_35 : decode cX5_normalize 35 = .ok (.iload_n 3, 1) := by decide +kernel
theorem dX5_normalize_36 : decode cX5_normalize 36 = .ok (.iload_n 1, 1) := by decide +kernel
theorem dX5_normalize_37 : decode cX5_normalize 37 = .ok (.if_icmp .ge 20, 3) := by decide +kernel
theorem dX5_normalize_40 : decode cX5_normalize 40 = .ok (.iload_n 3, 1) := by decide +kernel
theorem dX5_normalize_41 : decode cX5_normalize 41 = .ok (.iload_n 2, 1) := by decide +kernel
theorem dX5_normalize_42 : decode cX5_normalize 42 = .ok (.imul, 1) := by decide +kernel
theorem dX5_normalize_43 : decode cX5_normalize 43 = .ok (.iload_n 1, 1) := by decide +kernel
theorem dX5_normalize_44 : decode cX5_normalize 44 = .ok (.invokestatic 23, 3) := by decide +kernel
theorem dX5_normalize_47 : decode cX5_normalize 47 = .ok (.iconst 1, 1) := by decide +kernel
theorem dX5_normalize_48 : decode cX5_normalize 48 = .ok (.if_icmp .eq 9, 3) := by decide +kernel
theorem dX5_normalize_51 : decode cX5_normalize 51 = .ok (.iinc 3 1, 3) := by decide +kernel
theorem dX5_normalize_54 : decode cX5_normalize 54 = .ok (.goto (-19), 3) := by decide +kernel
theorem dX5_normalize_57 : decode cX5_normalize 57 = .ok (.iconst 0, 1) := by decide +kernel
theorem dX5_normalize_58 : decode cX5_normalize 58 = .ok (.istore 4, 2) := by decide +kernel
theorem dX5_normalize_60 : decode cX5_normalize 60 = .ok (.iload 4, 2) := by decide +kernel
theorem dX5_normalize_62 : decode cX5_normalize 62 = .ok (.bipush 6, 2) := by decide +kernel
theorem dX5_normalize_64 : decode cX5_normalize 64 = .ok (.if_icmp .ge 29, 3) := by decide +kernel
theorem dX5_normalize_67 : decode cX5_normalize 67 = .ok (.aload_n 0, 1) := by decide +kernel
theorem dX5_normalize_68 : decode cX5_normalize 68 = .ok (.getfield 9, 3) := by decide +kernel
theorem dX5_normalize_71 : decode cX5_normalize 71 = .ok (.iload 4, 2) := by decide +kernel
theorem dX5_normalize_73 : decode cX5_normalize 73 = .ok (.aload_n 0, 1) := by decide +kernel
theorem dX5_normalize_74 : decode cX5_normalize 74 = .ok (.getfield 9, 3) := by decide +kernel
theorem dX5_normalize_77 : decode cX5_normalize 77 = .ok (.iload 4, 2) := by decide +kernel
theorem dX5_normalize_79 : decode cX5_normalize 79 = .ok (.iaload, 1) := by decide +kernel
theorem dX5_normalize_80 : decode cX5_normalize 80 = .ok (.iload_n 3, 1) := by decide +kernel
theorem dX5_normalize_81 : decode cX5_normalize 81 = .ok (.imul, 1) := by decide +kernel
theorem dX5_normalize_82 : decode cX5_normalize 82 = .ok (.iload_n 1, 1) := by decide +kernel
theorem dX5_normalize_83 : decode cX5_normalize 83 = .ok (.invokestatic 23, 3) := by decide +kernel
theorem dX5_normalize_86 : decode cX5_normalize 86 = .ok (.iastore, 1) := by decide +kernel
theorem dX5_normalize_87 : decode cX5_normalize 87 = .ok (.iinc 4 1, 3) := by decide +kernel
theorem dX5_normalize_90 : decode cX5_normalize 90 = .ok (.goto (-30), 3) := by decide +kernel
theorem dX5_normalize_93 : decode cX5_normalize 93 = .ok (.iconst 1, 1) := by decide +kernel
theorem dX5_normalize_94 : decode cX5_normalize 94 = .ok (.ireturn, 1) := by decide +kernel
theorem dX5_copy_0 : decode cX5_copy 0 = .ok (.iconst 0, 1) := by decide +kernel
theorem dX5_copy_1 : decode cX5_copy 1 = .ok (.istore_n 2, 1) := by decide +kernel
theorem dX5_copy_2 : decode cX5_copy 2 = .ok (.iload_n 2, 1) := by decide +kernel
theorem dX5_copy_3 : decode cX5_copy 3 = .ok (.bipush 6, 2) := by decide +kernel
theorem dX5_copy_5 : decode cX5_copy 5 = .ok (.if_icmp .ge 21, 3) := by decide +kernel
theorem dX5_copy_8 : decode cX5_copy 8 = .ok (.aload_n 0, 1) := by decide +kernel
theorem dX5_copy_9 : decode cX5_copy 9 = .ok (.getfield 9, 3) := by decide +kernel
theorem dX5_copy_12 : decode cX5_copy 12 = .ok (.iload_n 2, 1) := by decide +kernel
theorem dX5_copy_13 : decode cX5_copy 13 = .ok (.aload_n 1, 1) := by decide +kernel
theorem dX5_copy_14 : decode cX5_copy 14 = .ok (.getfield 9, 3) := by decide +kernel
theorem dX5_copy_17 : decode cX5_copy 17 = .ok (.iload_n 2, 1) := by decide +kernel
theorem dX5_copy_18 : decode cX5_copy 18 = .ok (.iaload, 1) := by decide +kernel
theorem dX5_copy_19 : decode cX5_copy 19 = .ok (.iastore, 1) := by decide +kernel
theorem dX5_copy_20 : decode cX5_copy 20 = .ok (.iinc 2 1, 3) := by decide +kernel
theorem dX5_copy_23 : decode cX5_copy 23 = .ok (.goto (-21), 3) := by decide +kernel
theorem dX5_copy_26 : decode cX5_copy 26 = .ok (.aload_n 0, 1) := by decide +kernel
theorem dX5_copy_27 : decode cX5_copy 27 = .ok (.aload_n 1, 1) := by decide +kernel
theorem dX5_copy_28 : decode cX5_copy 28 = .ok (.getfield 13, 3) := by decide +kernel
theorem dX5_copy_31 : decode cX5_copy 31 = .ok (.putfield 13, 3) := by decide +kernel
theorem dX5_copy_34 : decode cX5_copy 34 = .ok (.return_, 1) := by decide +kernel
theorem dX5_isLike_0 : decode cX5_isLike 0 = .ok (.iconst 0, 1) := by decide +kernel
theorem dX5_isLike_1 : decode cX5_isLike 1 = .ok (.istore_n 2, 1) := by decide +kernel
theorem dX5_isLike_2 : decode cX5_isLike 2 = .ok (.iload_n 2, 1) := by decide +kernel
theorem dX5_isLike_3 : decode cX5_isLike 3 = .ok (.bipush 6, 2) := by decide +kernel
theorem dX5_isLike_5 : decode cX5_isLike 5 = .ok (.if_icmp .ge 26, 3) := by decide +kernel
theorem dX5_isLike_8 : decode cX5_isLike 8 = .ok (.aload_n 0, 1) := by decide +kernel
theorem dX5_isLike_9 : decode cX5_isLike 9 = .ok (.getfield 9, 3) := by decide +kernel
theorem dX5_isLike_12 : decode cX5_isLike 12 = .ok (.iload_n 2, 1) := by decide +kernel
theorem dX5_isLike_13 : decode cX5_isLike 13 = .ok (.iaload, 1) := by decide +kernel
theorem dX5_isLike_14 : decode cX5_isLike 14 = .ok (.aload_n 1, 1) := by decide +kernel
theorem dX5_isLike_15 : decode cX5_isLike 15 = .ok (.getfield 9, 3) := by decide +kernel
theorem dX5_isLike_18 : decode cX5_isLike 18 = .ok (.iload_n 2, 1) := by decide +kernel
theorem dX5_isLike_19 : decode cX5_isLike 19 = .ok (.iaload, 1) := by decide +kernel
theorem dX5_isLike_20 : decode cX5_isLike 20 = .ok (.if_icmp .eq 5, 3) := by decide +kernel
theorem dX5_isLike_23 : decode cX5_isLike 23 = .ok (.iconst 0, 1) := by decide +kernel
theorem dX5_isLike_24 : decode cX5_isLike 24 = .ok (.ireturn, 1) := by decide +kernel
theorem dX5_isLike_25 : decode cX5_isLike 25 = .ok (.iinc 2 1, 3) := by decide +kernel
theorem dX5_isLike_28 : decode cX5_isLike 28 = .ok (.goto (-26), 3) := by decide +kernel
theorem dX5_isLike_31 : decode cX5_isLike 31 = .ok (.iconst 1, 1) := by decide +kernel
theorem dX5_isLike_32 : decode cX5_isLike 32 = .ok (.ireturn, 1) := by decide +kernel
theorem dX5_crosses_0 : decode cX5_crosses 0 = .ok (.iconst 0, 1) := by decide +kernel
theorem dX5_crosses_1 : decode cX5_crosses 1 = .ok (.istore_n 3, 1) := by decide +kernel
theorem dX5_crosses_2 : decode cX5_crosses 2 = .ok (.iconst 0, 1) := by decide +kernel
theorem dX5_crosses_3 : decode cX5_crosses 3 = .ok (.istore 4, 2) := by decide +kernel
theorem dX5_crosses_5 : decode cX5_crosses 5 = .ok (.iload 4, 2) := by decide +kernel
theorem dX5_crosses_7 : decode cX5_crosses 7 = .ok (.bipush 6, 2) := by decide +kernel
theorem dX5_crosses_9 : decode cX5_crosses 9 = .ok (.if_icmp .ge 51, 3) := by decide +kernel
theorem dX5_crosses_12 : decode cX5_crosses 12 = .ok (.aload_n 0, 1) := by decide +kernel
theorem dX5_crosses_13 : decode cX5_crosses 13 = .ok (.getfield 9, 3) := by decide +kernel
theorem dX5_crosses_16 : decode cX5_crosses 16 = .ok (.iload 4, 2) := by decide +kernel
theorem dX5_crosses_18 : decode cX5_crosses 18 = .ok (.iaload, 1) := by decide +kernel
theorem dX5_crosses_19 : decode cX5_crosses 19 = .ok (.aload_n 1, 1) := by decide +kernel
theorem dX5_crosses_20 : decode cX5_crosses 20 = .ok (.getfield 9, 3) := by decide +kernel
theorem dX5_crosses_23 : decode cX5_crosses 23 = .ok (.iconst 5, 1) := by decide +kernel
theorem dX5_crosses_24 : decode cX5_crosses 24 = .ok (.iload 4, 2) := by decide +kernel
theorem dX5_crosses_26 : decode cX5_crosses 26 = .ok (.isub, 1) := by decide +kernel
theorem dX5_crosses_27 : decode cX5_crosses 27 = .ok (.iaload, 1) := by decide +kernel
theorem dX5_crosses_28 : decode cX5_crosses 28 = .ok (.imul, 1) := by decide +kernel
theorem dX5_crosses_29 : decode cX5_crosses 29 = .ok (.istore 5, 2) := by decide +kernel
theorem dX5_crosses_31 : decode cX5_crosses 31 = .ok (.iload_n 3, 1) := by decide +kernel
theorem dX5_crosses_32 : decode cX5_crosses 32 = .ok (.iload 4, 2) := by decide +kernel
theorem dX5_crosses_34 : decode cX5_crosses 34 = .ok (.iconst 1, 1) := by decide +kernel
theorem dX5_crosses_35 : decode cX5_crosses 35 = .ok (.if_icmp .eq 9, 3) := by decide +kernel
theorem dX5_crosses_38 : decode cX5_crosses 38 = .ok (.iload 4, 2) := by decide +kernel
theorem dX5_crosses_40 : decode cX5_crosses 40 = .ok (.iconst 4, 1) := by decide +kernel
theorem dX5_crosses_41 : decode cX5_crosses 41 = .ok (.if_icmp .ne 9, 3) := by decide +kernel
theorem dX5_crosses_44 : decode cX5_crosses 44 = .ok (.iload 5, 2) := by decide +kernel
theorem dX5_crosses_46 : decode cX5_crosses 46 = .ok (.ineg, 1) := by decide +kernel
theorem dX5_crosses_47 : decode cX5_crosses 47 = .ok (.goto 5, 3) := by decide +kernel
theorem dX5_crosses_50 : decode cX5_crosses 50 = .ok (.iload 5, 2) := by decide +kernel
theorem dX5_crosses_52 : decode cX5_crosses 52 = .ok (.iadd, 1) := by decide +kernel
theorem dX5_crosses_53 : decode cX5_crosses 53 = .ok (.istore_n 3, 1) := by decide +kernel
theorem dX5_crosses_54 : decode cX5_crosses 54 = .ok (.iinc 4 1, 3) := by decide +kernel
theorem dX5_crosses_57 : decode cX5_crosses 57 = .ok (.goto (-52), 3) := by decide +kernel
theorem dX5_crosses_60 : decode cX5_crosses 60 = .ok (.iload_n 3, 1) := by decide +kernel
theorem dX5_crosses_61 : decode cX5_crosses 61 = .ok (.iload_n 2, 1) := by decide +kernel
theorem dX5_crosses_62 : decode cX5_crosses 62 = .ok (.invokestatic 23, 3) := by decide +kernel
theorem dX5_crosses_65 : decode cX5_crosses 65 = .ok (.ifCond .ne 7, 3) := by decide +kernel
theorem dX5_crosses_68 : decode cX5_crosses 68 = .ok (.iconst 1, 1) := by decide +kernel
theorem dX5_crosses_69 : decode cX5_crosses 69 = .ok (.goto 4, 3) := by decide +kernel
theorem dX5_crosses_72 : decode cX5_crosses 72 = .ok (.iconst 0, 1) := by decide +kernel
theorem dX5_crosses_73 : decode cX5_crosses 73 = .ok (.ireturn, 1) := by decide +kernel
theorem dX5_holds_0 : decode cX5_holds 0 = .ok (.iconst 0, 1) := by decide +kernel
theorem dX5_holds_1 : decode cX5_holds 1 = .ok (.istore_n 3, 1) := by decide +kernel
theorem dX5_holds_2 : decode cX5_holds 2 = .ok (.iload_n 3, 1) := by decide +kernel
theorem dX5_holds_3 : decode cX5_holds 3 = .ok (.iconst 4, 1) := by decide +kernel
theorem dX5_holds_4 : decode cX5_holds 4 = .ok (.if_icmp .ge 104, 3) := by decide +kernel
theorem dX5_holds_7 : decode cX5_holds 7 = .ok (.iload_n 3, 1) := by decide +kernel
theorem dX5_holds_8 : decode cX5_holds 8 = .ok (.ifCond .ne 7, 3) := by decide +kernel
theorem dX5_holds_11 : decode cX5_holds 11 = .ok (.iconst 1, 1) := by decide +kernel
theorem dX5_holds_12 : decode cX5_holds 12 = .ok (.goto 4, 3) := by decide +kernel
theorem dX5_holds_15 : decode cX5_holds 15 = .ok (.iconst 0, 1) := by decide +kernel
theorem dX5_holds_16 : decode cX5_holds 16 = .ok (.istore 4, 2) := by decide +kernel
theorem dX5_holds_18 : decode cX5_holds 18 = .ok (.iload_n 3, 1) := by decide +kernel
theorem dX5_holds_19 : decode cX5_holds 19 = .ok (.iconst 1, 1) := by decide +kernel
theorem dX5_holds_20 : decode cX5_holds 20 = .ok (.if_icmp .gt 7, 3) := by decide +kernel
theorem dX5_holds_23 : decode cX5_holds 23 = .ok (.iconst 2, 1) := by decide +kernel
theorem dX5_holds_24 : decode cX5_holds 24 = .ok (.goto 4, 3) := by decide +kernel
theorem dX5_holds_27 : decode cX5_holds 27 = .ok (.iconst 1, 1) := by decide +kernel
theorem dX5_holds_28 : decode cX5_holds 28 = .ok (.istore 5, 2) := by decide +kernel
theorem dX5_holds_30 : decode cX5_holds 30 = .ok (.iload_n 3, 1) := by decide +kernel
theorem dX5_holds_31 : decode cX5_holds 31 = .ok (.iconst 2, 1) := by decide +kernel
theorem dX5_holds_32 : decode cX5_holds 32 = .ok (.if_icmp .gt 7, 3) := by decide +kernel
theorem dX5_holds_35 : decode cX5_holds 35 = .ok (.iconst 3, 1) := by decide +kernel
theorem dX5_holds_36 : decode cX5_holds 36 = .ok (.goto 4, 3) := by decide +kernel
theorem dX5_holds_39 : decode cX5_holds 39 = .ok (.iconst 2, 1) := by decide +kernel
theorem dX5_holds_40 : decode cX5_holds 40 = .ok (.istore 6, 2) := by decide +kernel
theorem dX5_holds_42 : decode cX5_holds 42 = .ok (.iload_n 1, 1) := by decide +kernel
theorem dX5_holds_43 : decode cX5_holds 43 = .ok (.iload 4, 2) := by decide +kernel
theorem dX5_holds_45 : decode cX5_holds 45 = .ok (.invokestatic 17, 3) := by decide +kernel
theorem dX5_holds_48 : decode cX5_holds 48 = .ok (.aload_n 0, 1) := by decide +kernel
theorem dX5_holds_49 : decode cX5_holds 49 = .ok (.iload 5, 2) := by decide +kernel
theorem dX5_holds_51 : decode cX5_holds 51 = .ok (.iload 6, 2) := by decide +kernel
theorem dX5_holds_53 : decode cX5_holds 53 = .ok (.invokevirtual 30, 3) := by decide +kernel
theorem dX5_holds_56 : decode cX5_holds 56 = .ok (.imul, 1) := by decide +kernel
theorem dX5_holds_57 : decode cX5_holds 57 = .ok (.iload_n 1, 1) := by decide +kernel
theorem dX5_holds_58 : decode cX5_holds 58 = .ok (.iload 5, 2) := by decide +kernel
theorem dX5_holds_60 : decode cX5_holds 60 = .ok (.invokestatic 17, 3) := by decide +kernel
theorem dX5_holds_63 : decode cX5_holds 63 = .ok (.aload_n 0, 1) := by decide +kernel
theorem dX5_holds_64 : decode cX5_holds 64 = .ok (.iload 4, 2) := by decide +kernel
theorem dX5_holds_66 : decode cX5_holds 66 = .ok (.iload 6, 2) := by decide +kernel
theorem dX5_holds_68 : decode cX5_holds 68 = .ok (.invokevirtual 30, 3) := by decide +kernel
theorem dX5_holds_71 : decode cX5_holds 71 = .ok (.imul, 1) := by decide +kernel
theorem dX5_holds_72 : decode cX5_holds 72 = .ok (.isub, 1) := by decide +kernel
theorem dX5_holds_73 : decode cX5_holds 73 = .ok (.iload_n 1, 1) := by decide +kernel
theorem dX5_holds_74 : decode cX5_holds 74 = .ok (.iload 6, 2) := by decide +kernel
theorem dX5_holds_76 : decode cX5_holds 76 = .ok (.invokestatic 17, 3) := by decide +kernel
theorem dX5_holds_79 : decode cX5_holds 79 = .ok (.aload_n 0, 1) := by decide +kernel
theorem dX5_holds_80 : decode cX5_holds 80 = .ok (.iload 4, 2) := by decide +kernel
theorem dX5_holds_82 : decode cX5_holds 82 = .ok (.iload 5, 2) := by decide +kernel
theorem dX5_holds_84 : decode cX5_holds 84 = .ok (.invokevirtual 30, 3) := by decide +kernel
theorem dX5_holds_87 : decode cX5_holds 87 = .ok (.imul, 1) := by decide +kernel
theorem dX5_holds_88 : decode cX5_holds 88 = .ok (.iadd, 1) := by decide +kernel
theorem dX5_holds_89 : decode cX5_holds 89 = .ok (.istore 7, 2) := by decide +kernel
theorem dX5_holds_91 : decode cX5_holds 91 = .ok (.iload 7, 2) := by decide +kernel
theorem dX5_holds_93 : decode cX5_holds 93 = .ok (.iload_n 2, 1) := by decide +kernel
theorem dX5_holds_94 : decode cX5_holds 94 = .ok (.invokestatic 23, 3) := by decide +kernel
theorem dX5_holds_97 : decode cX5_holds 97 = .ok (.ifCond .eq 5, 3) := by decide +kernel
theorem dX5_holds_100 : decode cX5_holds 100 = .ok (.iconst 0, 1) := by decide +kernel
theorem dX5_holds_101 : decode cX5_holds 101 = .ok (.ireturn, 1) := by decide +kernel
theorem dX5_holds_102 : decode cX5_holds 102 = .ok (.iinc 3 1, 3) := by decide +kernel
theorem dX5_holds_105 : decode cX5_holds 105 = .ok (.goto (-103), 3) := by decide +kernel
theorem dX5_holds_108 : decode cX5_holds 108 = .ok (.iconst 1, 1) := by decide +kernel
theorem dX5_holds_109 : decode cX5_holds 109 = .ok (.ireturn, 1) := by decide +kernel
theorem dX5_pair_0 : decode cX5_pair 0 = .ok (.iload_n 1, 1) := by decide +kernel
theorem dX5_pair_1 : decode cX5_pair 1 = .ok (.ifCond .ne 9, 3) := by decide +kernel
theorem dX5_pair_4 : decode cX5_pair 4 = .ok (.iload_n 2, 1) := by decide +kernel
theorem dX5_pair_5 : decode cX5_pair 5 = .ok (.iconst 1, 1) := by decide +kernel
theorem dX5_pair_6 : decode cX5_pair 6 = .ok (.isub, 1) := by decide +kernel
theorem dX5_pair_7 : decode cX5_pair 7 = .ok (.goto 6, 3) := by decide +kernel
theorem dX5_pair_10 : decode cX5_pair 10 = .ok (.iload_n 1, 1) := by decide +kernel
theorem dX5_pair_11 : decode cX5_pair 11 = .ok (.iload_n 2, 1) := by decide +kernel
theorem dX5_pair_12 : decode cX5_pair 12 = .ok (.iadd, 1) := by decide +kernel
theorem dX5_pair_13 : decode cX5_pair 13 = .ok (.istore_n 3, 1) := by decide +kernel
theorem dX5_pair_14 : decode cX5_pair 14 = .ok (.iload_n 3, 1) := by decide +kernel
theorem dX5_pair_15 : decode cX5_pair 15 = .ok (.ifCond .lt 18, 3) := by decide +kernel
theorem dX5_pair_18 : decode cX5_pair 18 = .ok (.iload_n 3, 1) := by decide +kernel
theorem dX5_pair_19 : decode cX5_pair 19 = .ok (.bipush 6, 2) := by decide +kernel
theorem dX5_pair_21 : decode cX5_pair 21 = .ok (.if_icmp .ge 12, 3) := by decide +kernel
theorem dX5_pair_24 : decode cX5_pair 24 = .ok (.aload_n 0, 1) := by decide +kernel
theorem dX5_pair_25 : decode cX5_pair 25 = .ok (.getfield 9, 3) := by decide +kernel
theorem dX5_pair_28 : decode cX5_pair 28 = .ok (.iload_n 3, 1) := by decide +kernel
theorem dX5_pair_29 : decode cX5_pair 29 = .ok (.iaload, 1) := by decide +kernel
theorem dX5_pair_30 : decode cX5_pair 30 = .ok (.goto 4, 3) := by decide +kernel
theorem dX5_pair_33 : decode cX5_pair 33 = .ok (.iconst 0, 1) := by decide +kernel
theorem dX5_pair_34 : decode cX5_pair 34 = .ok (.ireturn, 1) := by decide +kernel
theorem dX5_rest_0 : decode cX5_rest 0 = .ok (.iload_n 1, 1) := by decide +kernel
theorem dX5_rest_1 : decode cX5_rest 1 = .ok (.ifCond .le 11, 3) := by decide +kernel
theorem dX5_rest_4 : decode cX5_rest 4 = .ok (.iload_n 0, 1) := by decide +kernel
theorem dX5_rest_5 : decode cX5_rest 5 = .ok (.iload_n 1, 1) := by decide +kernel
theorem dX5_rest_6 : decode cX5_rest 6 = .ok (.invokestatic 33, 3) := by decide +kernel
theorem dX5_rest_9 : decode cX5_rest 9 = .ok (.goto 4, 3) := by decide +kernel
theorem dX5_rest_12 : decode cX5_rest 12 = .ok (.iconst 0, 1) := by decide +kernel
theorem dX5_rest_13 : decode cX5_rest 13 = .ok (.ireturn, 1) := by decide +kernel
theorem dX6_figures_0 : decode cX6_figures 0 = .ok (.iload_n 0, 1) := by decide +kernel
theorem dX6_figures_1 : decode cX6_figures 1 = .ok (.iconst 1, 1) := by decide +kernel
theorem dX6_figures_2 : decode cX6_figures 2 = .ok (.if_icmp .lt 9, 3) := by decide +kernel
theorem dX6_figures_5 : decode cX6_figures 5 = .ok (.iload_n 0, 1) := by decide +kernel
theorem dX6_figures_6 : decode cX6_figures 6 = .ok (.ldc 9, 2) := by decide +kernel
theorem dX6_figures_8 : decode cX6_figures 8 = .ok (.if_icmp .le 5, 3) := by decide +kernel
theorem dX6_figures_11 : decode cX6_figures 11 = .ok (.iconst 0, 1) := by decide +kernel
theorem dX6_figures_12 : decode cX6_figures 12 = .ok (.ireturn, 1) := by decide +kernel
theorem dX6_figures_13 : decode cX6_figures 13 = .ok (.iconst 0, 1) := by decide +kernel
theorem dX6_figures_14 : decode cX6_figures 14 = .ok (.istore_n 1, 1) := by decide +kernel
theorem dX6_figures_15 : decode cX6_figures 15 = .ok (.iconst 0, 1) := by decide +kernel
theorem dX6_figures_16 : decode cX6_figures 16 = .ok (.istore_n 2, 1) := by decide +kernel
theorem dX6_figures_17 : decode cX6_figures 17 = .ok (.iload_n 0, 1) := by decide +kernel
theorem dX6_figures_18 : decode cX6_figures 18 = .ok (.istore_n 3, 1) := by decide +kernel
theorem dX6_figures_19 : decode cX6_figures 19 = .ok (.iload_n 1, 1) := by decide +kernel
theorem dX6_figures_20 : decode cX6_figures 20 = .ok (.iconst 5, 1) := by decide +kernel
theorem dX6_figures_21 : decode cX6_figures 21 = .ok (.if_icmp .ge 27, 3) := by decide +kernel
theorem dX6_figures_24 : decode cX6_figures 24 = .ok (.iload_n 3, 1) := by decide +kernel
theorem dX6_figures_25 : decode cX6_figures 25 = .ok (.ifCond .le 23, 3) := by decide +kernel
theorem dX6_figures_28 : decode cX6_figures 28 = .ok (.iload_n 2, 1) := by decide +kernel
theorem dX6_figures_29 : decode cX6_figures 29 = .ok (.iconst 1, 1) := by decide +kernel
theorem dX6_figures_30 : decode cX6_figures 30 = .ok (.iload_n 3, 1) := by decide +kernel
theorem dX6_figures_31 : decode cX6_figures 31 = .ok (.bipush 10, 2) := by decide +kernel
theorem dX6_figures_33 : decode cX6_figures 33 = .ok (.irem, 1) := by decide +kernel
theorem dX6_figures_34 : decode cX6_figures 34 = .ok (.ishl, 1) := by decide +kernel
theorem dX6_figures_35 : decode cX6_figures 35 = .ok (.ior, 1) := by decide +kernel
theorem dX6_figures_36 : decode cX6_figures 36 = .ok (.istore_n 2, 1) := by decide +kernel
theorem dX6_figures_37 : decode cX6_figures 37 = .ok (.iload_n 3, 1) := by decide +kernel
theorem dX6_figures_38 : decode cX6_figures 38 = .ok (.bipush 10, 2) := by decide +kernel
theorem dX6_figures_40 : decode cX6_figures 40 = .ok (.idiv, 1) := by decide +kernel
theorem dX6_figures_41 : decode cX6_figures 41 = .ok (.istore_n 3, 1) := by decide +kernel
theorem dX6_figures_42 : decode cX6_figures 42 = .ok (.iinc 1 1, 3) := by decide +kernel
theorem dX6_figures_45 : decode cX6_figures 45 = .ok (.goto (-26), 3) := by decide +kernel
theorem dX6_figures_48 : decode cX6_figures 48 = .ok (.iload_n 2, 1) := by decide +kernel
theorem dX6_figures_49 : decode cX6_figures 49 = .ok (.iconst 1, 1) := by decide +kernel
theorem dX6_figures_50 : decode cX6_figures 50 = .ok (.iload_n 1, 1) := by decide +kernel
theorem dX6_figures_51 : decode cX6_figures 51 = .ok (.iconst 1, 1) := by decide +kernel
theorem dX6_figures_52 : decode cX6_figures 52 = .ok (.iadd, 1) := by decide +kernel
theorem dX6_figures_53 : decode cX6_figures 53 = .ok (.ishl, 1) := by decide +kernel
theorem dX6_figures_54 : decode cX6_figures 54 = .ok (.iconst 2, 1) := by decide +kernel
theorem dX6_figures_55 : decode cX6_figures 55 = .ok (.isub, 1) := by decide +kernel
theorem dX6_figures_56 : decode cX6_figures 56 = .ok (.if_icmp .ne 7, 3) := by decide +kernel
theorem dX6_figures_59 : decode cX6_figures 59 = .ok (.iload_n 1, 1) := by decide +kernel
theorem dX6_figures_60 : decode cX6_figures 60 = .ok (.goto 4, 3) := by decide +kernel
theorem dX6_figures_63 : decode cX6_figures 63 = .ok (.iconst 0, 1) := by decide +kernel
theorem dX6_figures_64 : decode cX6_figures 64 = .ok (.ireturn, 1) := by decide +kernel
theorem dX6_figure_0 : decode cX6_figure 0 = .ok (.iload_n 0, 1) := by decide +kernel
theorem dX6_figure_1 : decode cX6_figure 1 = .ok (.iload_n 1, 1) := by decide +kernel
theorem dX6_figure_2 : decode cX6_figure 2 = .ok (.iload_n 2, 1) := by decide +kernel
theorem dX6_figure_3 : decode cX6_figure 3 = .ok (.isub, 1) := by decide +kernel
theorem dX6_figure_4 : decode cX6_figure 4 = .ok (.invokestatic 10, 3) := by decide +kernel
theorem dX6_figure_7 : decode cX6_figure 7 = .ok (.ireturn, 1) := by decide +kernel
theorem dX6_falls_0 : decode cX6_falls 0 = .ok (.iconst 0, 1) := by decide +kernel
theorem dX6_falls_1 : decode cX6_falls 1 = .ok (.istore_n 2, 1) := by decide +kernel
theorem dX6_falls_2 : decode cX6_falls 2 = .ok (.iconst 1, 1) := by decide +kernel
theorem dX6_falls_3 : decode cX6_falls 3 = .ok (.istore_n 3, 1) := by decide +kernel
theorem dX6_falls_4 : decode cX6_falls 4 = .ok (.iload_n 3, 1) := by decide +kernel
theorem dX6_falls_5 : decode cX6_falls 5 = .ok (.iload_n 1, 1) := by decide +kernel
theorem dX6_falls_6 : decode cX6_falls 6 = .ok (.if_icmp .ge 45, 3) := by decide +kernel
theorem dX6_falls_9 : decode cX6_falls 9 = .ok (.iload_n 3, 1) := by decide +kernel
theorem dX6_falls_10 : decode cX6_falls 10 = .ok (.iconst 1, 1) := by decide +kernel
theorem dX6_falls_11 : decode cX6_falls 11 = .ok (.iadd, 1) := by decide +kernel
theorem dX6_falls_12 : decode cX6_falls 12 = .ok (.istore 4, 2) := by decide +kernel
theorem dX6_falls_14 : decode cX6_falls 14 = .ok (.iload 4, 2) := by decide +kernel
theorem dX6_falls_16 : decode cX6_falls 16 = .ok (.iload_n 1, 1) := by decide +kernel
theorem dX6_falls_17 : decode cX6_falls 17 = .ok (.if_icmp .gt 28, 3) := by decide +kernel
theorem dX6_falls_20 : decode cX6_falls 20 = .ok (.iload_n 0, 1) := by decide +kernel
theorem dX6_falls_21 : decode cX6_falls 21 = .ok (.iload_n 1, 1) := by decide +kernel
theorem dX6_falls_22 : decode cX6_falls 22 = .ok (.iload_n 3, 1) := by decide +kernel
theorem dX6_falls_23 : decode cX6_falls 23 = .ok (.invokestatic 16, 3) := by decide +kernel
theorem dX6_falls_26 : decode cX6_falls 26 = .ok (.iload_n 0, 1) := by decide +kernel
theorem dX6_falls_27 : decode cX6_falls 27 = .ok (.iload_n 1, 1) := by decide +kernel
theorem dX6_falls_28 : decode cX6_falls 28 = .ok (.iload 4, 2) := by decide +kernel
theorem dX6_falls_30 : decode cX6_falls 30 = .ok (.invokestatic 16, 3) := by decide +kernel
theorem dX6_falls_33 : decode cX6_falls 33 = .ok (.if_icmp .le 6, 3) := by decide +kernel
theorem dX6_falls_36 : decode cX6_falls 36 = .ok (.iinc 2 1, 3) := by decide +kernel
theorem dX6_falls_39 : decode cX6_falls 39 = .ok (.iinc 4 1, 3) := by decide +kernel
theorem dX6_falls_42 : decode cX6_falls 42 = .ok (.goto (-28), 3) := by decide +kernel
theorem dX6_falls_45 : decode cX6_falls 45 = .ok (.iinc 3 1, 3) := by decide +kernel
theorem dX6_falls_48 : decode cX6_falls 48 = .ok (.goto (-44), 3) := by decide +kernel
theorem dX6_falls_51 : decode cX6_falls 51 = .ok (.iload_n 2, 1) := by decide +kernel
theorem dX6_falls_52 : decode cX6_falls 52 = .ok (.ireturn, 1) := by decide +kernel
theorem dX6_swapped_0 : decode cX6_swapped 0 = .ok (.iload_n 0, 1) := by decide +kernel
theorem dX6_swapped_1 : decode cX6_swapped 1 = .ok (.iload_n 1, 1) := by decide +kernel
theorem dX6_swapped_2 : decode cX6_swapped 2 = .ok (.iload_n 3, 1) := by decide +kernel
theorem dX6_swapped_3 : decode cX6_swapped 3 = .ok (.invokestatic 16, 3) := by decide +kernel
theorem dX6_swapped_6 : decode cX6_swapped 6 = .ok (.iload_n 0, 1) := by decide +kernel
theorem dX6_swapped_7 : decode cX6_swapped 7 = .ok (.iload_n 1, 1) := by decide +kernel
theorem dX6_swapped_8 : decode cX6_swapped 8 = .ok (.iload_n 2, 1) := by decide +kernel
theorem dX6_swapped_9 : decode cX6_swapped 9 = .ok (.invokestatic 16, 3) := by decide +kernel
theorem dX6_swapped_12 : decode cX6_swapped 12 = .ok (.isub, 1) := by decide +kernel
theorem dX6_swapped_13 : decode cX6_swapped 13 = .ok (.istore 4, 2) := by decide +kernel
theorem dX6_swapped_15 : decode cX6_swapped 15 = .ok (.iload_n 0, 1) := by decide +kernel
theorem dX6_swapped_16 : decode cX6_swapped 16 = .ok (.iload 4, 2) := by decide +kernel
theorem dX6_swapped_18 : decode cX6_swapped 18 = .ok (.bipush 10, 2) := by decide +kernel
theorem dX6_swapped_20 : decode cX6_swapped 20 = .ok (.iload_n 1, 1) := by decide +kernel
theorem dX6_swapped_21 : decode cX6_swapped 21 = .ok (.iload_n 2, 1) := by decide +kernel
theorem dX6_swapped_22 : decode cX6_swapped 22 = .ok (.isub, 1) := by decide +kernel
theorem dX6_swapped_23 : decode cX6_swapped 23 = .ok (.invokestatic 22, 3) := by decide +kernel
theorem dX6_swapped_26 : decode cX6_swapped 26 = .ok (.bipush 10, 2) := by decide +kernel
theorem dX6_swapped_28 : decode cX6_swapped 28 = .ok (.iload_n 1, 1) := by decide +kernel
theorem dX6_swapped_29 : decode cX6_swapped 29 = .ok (.iload_n 3, 1) := by decide +kernel
theorem dX6_swapped_30 : decode cX6_swapped 30 = .ok (.isub, 1) := by decide +kernel
theorem dX6_swapped_31 : decode cX6_swapped 31 = .ok (.invokestatic 22, 3) := by decide +kernel
theorem dX6_swapped_34 : decode cX6_swapped 34 = .ok (.isub, 1) := by decide +kernel
theorem dX6_swapped_35 : decode cX6_swapped 35 = .ok (.imul, 1) := by decide +kernel
theorem dX6_swapped_36 : decode cX6_swapped 36 = .ok (.iadd, 1) := by decide +kernel
theorem dX6_swapped_37 : decode cX6_swapped 37 = .ok (.ireturn, 1) := by decide +kernel
theorem dX6_inverted_0 : decode cX6_inverted 0 = .ok (.iconst 0, 1) := by decide +kernel
theorem dX6_inverted_1 : decode cX6_inverted 1 = .ok (.istore_n 2, 1) := by decide +kernel
theorem dX6_inverted_2 : decode cX6_inverted 2 = .ok (.iconst 1, 1) := by decide +kernel
theorem dX6_inverted_3 : decode cX6_inverted 3 = .ok (.istore_n 3, 1) := by decide +kernel
theorem dX6_inverted_4 : decode cX6_inverted 4 = .ok (.iload_n 3, 1) := by decide +kernel
theorem dX6_inverted_5 : decode cX6_inverted 5 = .ok (.iload_n 1, 1) := by decide +kernel
theorem dX6_inverted_6 : decode cX6_inverted 6 = .ok (.if_icmp .gt 27, 3) := by decide +kernel
theorem dX6_inverted_9 : decode cX6_inverted 9 = .ok (.iload_n 2, 1) := by decide +kernel
theorem dX6_inverted_10 : decode cX6_inverted 10 = .ok (.iload_n 3, 1) := by decide +kernel
theorem dX6_inverted_11 : decode cX6_inverted 11 = .ok (.bipush 10, 2) := by decide +kernel
theorem dX6_inverted_13 : decode cX6_inverted 13 = .ok (.iload_n 1, 1) := by decide +kernel
theorem dX6_inverted_14 : decode cX6_inverted 14 = .ok (.iload_n 0, 1) := by decide +kernel
theorem dX6_inverted_15 : decode cX6_inverted 15 = .ok (.iload_n 1, 1) := by decide +kernel
theorem dX6_inverted_16 : decode cX6_inverted 16 = .ok (.iload_n 3, 1) := by decide +kernel
theorem dX6_inverted_17 : decode cX6_inverted 17 = .ok (.invokestatic 16, 3) := by decide +kernel
theorem dX6_inverted_20 : decode cX6_inverted 20 = .ok (.isub, 1) := by decide +kernel
theorem dX6_inverted_21 : decode cX6_inverted 21 = .ok (.invokestatic 22, 3) := by decide +kernel
theorem dX6_inverted_24 : decode cX6_inverted 24 = .ok (.imul, 1) := by decide +kernel
theorem dX6_inverted_25 : decode cX6_inverted 25 = .ok (.iadd, 1) := by decide +kernel
theorem dX6_inverted_26 : decode cX6_inverted 26 = .ok (.istore_n 2, 1) := by decide +kernel
theorem dX6_inverted_27 : decode cX6_inverted 27 = .ok (.iinc 3 1, 3) := by decide +kernel
theorem dX6_inverted_30 : decode cX6_inverted 30 = .ok (.goto (-26), 3) := by decide +kernel
theorem dX6_inverted_33 : decode cX6_inverted 33 = .ok (.iload_n 2, 1) := by decide +kernel
theorem dX6_inverted_34 : decode cX6_inverted 34 = .ok (.ireturn, 1) := by decide +kernel
theorem dX6_firstStep_0 : decode cX6_firstStep 0 = .ok (.iconst 1, 1) := by decide +kernel
theorem dX6_firstStep_1 : decode cX6_firstStep 1 = .ok (.istore_n 3, 1) := by decide +kernel
theorem dX6_firstStep_2 : decode cX6_firstStep 2 = .ok (.iload_n 3, 1) := by decide +kernel
theorem dX6_firstStep_3 : decode cX6_firstStep 3 = .ok (.iload_n 1, 1) := by decide +kernel
theorem dX6_firstStep_4 : decode cX6_firstStep 4 = .ok (.if_icmp .ge 37, 3) := by decide +kernel
theorem dX6_firstStep_7 : decode cX6_firstStep 7 = .ok (.iload_n 0, 1) := by decide +kernel
theorem dX6_firstStep_8 : decode cX6_firstStep 8 = .ok (.iload_n 1, 1) := by decide +kernel
theorem dX6_firstStep_9 : decode cX6_firstStep 9 = .ok (.iload_n 3, 1) := by decide +kernel
theorem dX6_firstStep_10 : decode cX6_firstStep 10 = .ok (.invokestatic 16, 3) := by decide +kernel
theorem dX6_firstStep_13 : decode cX6_firstStep 13 = .ok (.iload_n 0, 1) := by decide +kernel
theorem dX6_firstStep_14 : decode cX6_firstStep 14 = .ok (.iload_n 1, 1) := by decide +kernel
theorem dX6_firstStep_15 : decode cX6_firstStep 15 = .ok (.iload_n 3, 1) := by decide +kernel
theorem dX6_firstStep_16 : decode cX6_firstStep 16 = .ok (.iconst 1, 1) := by decide +kernel
theorem dX6_firstStep_17 : decode cX6_firstStep 17 = .ok (.iadd, 1) := by decide +kernel
theorem dX6_firstStep_18 : decode cX6_firstStep 18 = .ok (.invokestatic 16, 3) := by decide +kernel
theorem dX6_firstStep_21 : decode cX6_firstStep 21 = .ok (.if_icmp .le 7, 3) := by decide +kernel
theorem dX6_firstStep_24 : decode cX6_firstStep 24 = .ok (.iconst 1, 1) := by decide +kernel
theorem dX6_firstStep_25 : decode cX6_firstStep 25 = .ok (.goto 4, 3) := by decide +kernel
theorem dX6_firstStep_28 : decode cX6_firstStep 28 = .ok (.iconst 0, 1) := by decide +kernel
theorem dX6_firstStep_29 : decode cX6_firstStep 29 = .ok (.iload_n 2, 1) := by decide +kernel
theorem dX6_firstStep_30 : decode cX6_firstStep 30 = .ok (.if_icmp .ne 5, 3) := by decide +kernel
theorem dX6_firstStep_33 : decode cX6_firstStep 33 = .ok (.iload_n 3, 1) := by decide +kernel
theorem dX6_firstStep_34 : decode cX6_firstStep 34 = .ok (.ireturn, 1) := by decide +kernel
theorem dX6_firstStep_35 : decode cX6_firstStep 35 = .ok (.iinc 3 1, 3) := by decide +kernel
theorem dX6_firstStep_38 : decode cX6_firstStep 38 = .ok (.goto (-36), 3) := by decide +kernel
theorem dX6_firstStep_41 : decode cX6_firstStep 41 = .ok (.iconst 0, 1) := by decide +kernel
theorem dX6_firstStep_42 : decode cX6_firstStep 42 = .ok (.ireturn, 1) := by decide +kernel
theorem dX6_ofLength_0 : decode cX6_ofLength 0 = .ok (.iload_n 0, 1) := by decide +kernel
theorem dX6_ofLength_1 : decode cX6_ofLength 1 = .ok (.iconst 1, 1) := by decide +kernel
theorem dX6_ofLength_2 : decode cX6_ofLength 2 = .ok (.if_icmp .gt 13, 3) := by decide +kernel
theorem dX6_ofLength_5 : decode cX6_ofLength 5 = .ok (.iload_n 1, 1) := by decide +kernel
theorem dX6_ofLength_6 : decode cX6_ofLength 6 = .ok (.ifCond .ne 7, 3) := by decide +kernel
theorem dX6_ofLength_9 : decode cX6_ofLength 9 = .ok (.iconst 1, 1) := by decide +kernel
theorem dX6_ofLength_10 : decode cX6_ofLength 10 = .ok (.goto 4, 3) := by decide +kernel
theorem dX6_ofLength_13 : decode cX6_ofLength 13 = .ok (.iconst 0, 1) := by decide +kernel
theorem dX6_ofLength_14 : decode cX6_ofLength 14 = .ok (.ireturn, 1) := by decide +kernel
theorem dX6_ofLength_15 : decode cX6_ofLength 15 = .ok (.iconst 0, 1) := by decide +kernel
theorem dX6_ofLength_16 : decode cX6_ofLength 16 = .ok (.istore_n 2, 1) := by decide +kernel
theorem dX6_ofLength_17 : decode cX6_ofLength 17 = .ok (.iconst 0, 1) := by decide +kernel
theorem dX6_ofLength_18 : decode cX6_ofLength 18 = .ok (.istore_n 3, 1) := by decide +kernel
theorem dX6_ofLength_19 : decode cX6_ofLength 19 = .ok (.iload_n 3, 1) := by decide +kernel
theorem dX6_ofLength_20 : decode cX6_ofLength 20 = .ok (.iload_n 0, 1) := by decide +kernel
theorem dX6_ofLength_21 : decode cX6_ofLength 21 = .ok (.if_icmp .ge 26, 3) := by decide +kernel
theorem dX6_ofLength_24 : decode cX6_ofLength 24 = .ok (.iload_n 3, 1) := by decide +kernel
theorem dX6_ofLength_25 : decode cX6_ofLength 25 = .ok (.iload_n 1, 1) := by decide +kernel
theorem dX6_ofLength_26 : decode cX6_ofLength 26 = .ok (.if_icmp .gt 21, 3) := by decide +kernel
theorem dX6_ofLength_29 : decode cX6_ofLength 29 = .ok (.iload_n 2, 1) := by decide +kernel
theorem dX6_ofLength_30 : decode cX6_ofLength 30 = .ok (.iload_n 0, 1) := by decide +kernel
theorem dX6_ofLength_31 : decode cX6_ofLength 31 = .ok (.iconst 1, 1) := by decide +kernel
theorem dX6_ofLength_32 : decode cX6_ofLength 32 = .ok (.isub, 1) := by decide +kernel
theorem dX6_ofLength_33 : decode cX6_ofLength 33 = .ok (.iload_n 1, 1) := by decide +kernel
theorem dX6_ofLength_34 : decode cX6_ofLength 34 = .ok (.iload_n 3, 1) := by decide +kernel
theorem dX6_ofLength_35 : decode cX6_ofLength 35 = .ok (.isub, 1) := by decide +kernel
theorem dX6_ofLength_36 : decode cX6_ofLength 36 = .ok (.invokestatic 25, 3) := by decide +kernel
theorem dX6_ofLength_39 : decode cX6_ofLength 39 = .ok (.iadd, 1) := by decide +kernel
theorem dX6_ofLength_40 : decode cX6_ofLength 40 = .ok (.istore_n 2, 1) := by decide +kernel
theorem dX6_ofLength_41 : decode cX6_ofLength 41 = .ok (.iinc 3 1, 3) := by decide +kernel
theorem dX6_ofLength_44 : decode cX6_ofLength 44 = .ok (.goto (-25), 3) := by decide +kernel
theorem dX6_ofLength_47 : decode cX6_ofLength 47 = .ok (.iload_n 2, 1) := by decide +kernel
theorem dX6_ofLength_48 : decode cX6_ofLength 48 = .ok (.ireturn, 1) := by decide +kernel
theorem dX6_risen_0 : decode cX6_risen 0 = .ok (.iload_n 3, 1) := by decide +kernel
theorem dX6_risen_1 : decode cX6_risen 1 = .ok (.ifCond .lt 9, 3) := by decide +kernel
theorem dX6_risen_4 : decode cX6_risen 4 = .ok (.iload_n 3, 1) := by decide +kernel
theorem dX6_risen_5 : decode cX6_risen 5 = .ok (.bipush 10, 2) := by decide +kernel
theorem dX6_risen_7 : decode cX6_risen 7 = .ok (.if_icmp .lt 5, 3) := by decide +kernel
theorem dX6_risen_10 : decode cX6_risen 10 = .ok (.iconst (-1), 1) := by decide +kernel
theorem dX6_risen_11 : decode cX6_risen 11 = .ok (.ireturn, 1) := by decide +kernel
theorem dX6_risen_12 : decode cX6_risen 12 = .ok (.iconst 0, 1) := by decide +kernel
theorem dX6_risen_13 : decode cX6_risen 13 = .ok (.istore 4, 2) := by decide +kernel
theorem dX6_risen_15 : decode cX6_risen 15 = .ok (.iconst 0, 1) := by decide +kernel
theorem dX6_risen_16 : decode cX6_risen 16 = .ok (.istore 5, 2) := by decide +kernel
theorem dX6_risen_18 : decode cX6_risen 18 = .ok (.iload 5, 2) := by decide +kernel
theorem dX6_risen_20 : decode cX6_risen 20 = .ok (.iload_n 3, 1) := by decide +kernel
theorem dX6_risen_21 : decode cX6_risen 21 = .ok (.if_icmp .gt 25, 3) := by decide +kernel
theorem dX6_risen_24 : decode cX6_risen 24 = .ok (.iload 4, 2) := by decide +kernel
theorem dX6_risen_26 : decode cX6_risen 26 = .ok (.iconst (-1), 1) := by decide +kernel
theorem dX6_risen_27 : decode cX6_risen 27 = .ok (.if_icmp .eq 19, 3) := by decide +kernel
theorem dX6_risen_30 : decode cX6_risen 30 = .ok (.iload_n 0, 1) := by decide +kernel
theorem dX6_risen_31 : decode cX6_risen 31 = .ok (.iload_n 1, 1) := by decide +kernel
theorem dX6_risen_32 : decode cX6_risen 32 = .ok (.iload_n 2, 1) := by decide +kernel
theorem dX6_risen_33 : decode cX6_risen 33 = .ok (.iload 4, 2) := by decide +kernel
theorem dX6_risen_35 : decode cX6_risen 35 = .ok (.invokestatic 28, 3) := by decide +kernel
theorem dX6_risen_38 : decode cX6_risen 38 = .ok (.istore 4, 2) := by decide +kernel
theorem dX6_risen_40 : decode cX6_risen 40 = .ok (.iinc 5 1, 3) := by decide +kernel
theorem dX6_risen_43 : decode cX6_risen 43 = .ok (.goto (-25), 3) := by decide +kernel
theorem dX6_risen_46 : decode cX6_risen 46 = .ok (.iload 4, 2) := by decide +kernel
theorem dX6_risen_48 : decode cX6_risen 48 = .ok (.ireturn, 1) := by decide +kernel
theorem dX6_leastRisen_0 : decode cX6_leastRisen 0 = .ok (.iload_n 0, 1) := by decide +kernel
theorem dX6_leastRisen_1 : decode cX6_leastRisen 1 = .ok (.iload_n 1, 1) := by decide +kernel
theorem dX6_leastRisen_2 : decode cX6_leastRisen 2 = .ok (.invokestatic 32, 3) := by decide +kernel
theorem dX6_leastRisen_5 : decode cX6_leastRisen 5 = .ok (.iconst 1, 1) := by decide +kernel
theorem dX6_leastRisen_6 : decode cX6_leastRisen 6 = .ok (.iadd, 1) := by decide +kernel
theorem dX6_leastRisen_7 : decode cX6_leastRisen 7 = .ok (.istore 4, 2) := by decide +kernel
theorem dX6_leastRisen_9 : decode cX6_leastRisen 9 = .ok (.iconst (-1), 1) := by decide +kernel
theorem dX6_leastRisen_10 : decode cX6_leastRisen 10 = .ok (.istore 5, 2) := by decide +kernel
theorem dX6_leastRisen_12 : decode cX6_leastRisen 12 = .ok (.iconst 1, 1) := by decide +kernel
theorem dX6_leastRisen_13 : decode cX6_leastRisen 13 = .ok (.istore 6, 2) := by decide +kernel
theorem dX6_leastRisen_15 : decode cX6_leastRisen 15 = .ok (.iload 6, 2) := by decide +kernel
theorem dX6_leastRisen_17 : decode cX6_leastRisen 17 = .ok (.iload_n 2, 1) := by decide +kernel
theorem dX6_leastRisen_18 : decode cX6_leastRisen 18 = .ok (.if_icmp .gt 71, 3) := by decide +kernel
theorem dX6_leastRisen_21 : decode cX6_leastRisen 21 = .ok (.iload_n 2, 1) := by decide +kernel
theorem dX6_leastRisen_22 : decode cX6_leastRisen 22 = .ok (.iconst 1, 1) := by decide +kernel
theorem dX6_leastRisen_23 : decode cX6_leastRisen 23 = .ok (.iadd, 1) := by decide +kernel
theorem dX6_leastRisen_24 : decode cX6_leastRisen 24 = .ok (.istore 7, 2) := by decide +kernel
theorem dX6_leastRisen_26 : decode cX6_leastRisen 26 = .ok (.iload 7, 2) := by decide +kernel
theorem dX6_leastRisen_28 : decode cX6_leastRisen 28 = .ok (.iload_n 1, 1) := by decide +kernel
theorem dX6_leastRisen_29 : decode cX6_leastRisen 29 = .ok (.if_icmp .gt 54, 3) := by decide +kernel
theorem dX6_leastRisen_32 : decode cX6_leastRisen 32 = .ok (.iload_n 0, 1) := by decide +kernel
theorem dX6_leastRisen_33 : decode cX6_leastRisen 33 = .ok (.iload_n 1, 1) := by decide +kernel
theorem dX6_leastRisen_34 : decode cX6_leastRisen 34 = .ok (.iload 6, 2) := by decide +kernel
theorem dX6_leastRisen_36 : decode cX6_leastRisen 36 = .ok (.iload 7, 2) := by decide +kernel
theorem dX6_leastRisen_38 : decode cX6_leastRisen 38 = .ok (.invokestatic 35, 3) := by decide +kernel
theorem dX6_leastRisen_41 : decode cX6_leastRisen 41 = .ok (.istore 8, 2) := by decide +kernel
theorem dX6_leastRisen_43 : decode cX6_leastRisen 43 = .ok (.iload 8, 2) := by decide +kernel
theorem dX6_leastRisen_45 : decode cX6_leastRisen 45 = .ok (.iload_n 3, 1) := by decide +kernel
theorem dX6_leastRisen_46 : decode cX6_leastRisen 46 = .ok (.if_icmp .le 31, 3) := by decide +kernel
theorem dX6_leastRisen_49 : decode cX6_leastRisen 49 = .ok (.iload 5, 2) := by decide +kernel
theorem dX6_leastRisen_51 : decode cX6_leastRisen 51 = .ok (.iconst (-1), 1) := by decide +kernel
theorem dX6_leastRisen_52 : decode cX6_leastRisen 52 = .ok (.if_icmp .eq 10, 3) := by decide +kernel
theorem dX6_leastRisen_55 : decode cX6_leastRisen 55 = .ok (.iload 8, 2) := by decide +kernel
theorem dX6_leastRisen_57 : decode cX6_leastRisen 57 = .ok (.iload 5, 2) := by decide +kernel
theorem dX6_leastRisen_59 : decode cX6_leastRisen 59 = .ok (.if_icmp .ge 18, 3) := by decide +kernel
theorem dX6_leastRisen_62 : decode cX6_leastRisen 62 = .ok (.iload 8, 2) := by decide +kernel
theorem dX6_leastRisen_64 : decode cX6_leastRisen 64 = .ok (.iload_n 1, 1) := by decide +kernel
theorem dX6_leastRisen_65 : decode cX6_leastRisen 65 = .ok (.invokestatic 32, 3) := by decide +kernel
theorem dX6_leastRisen_68 : decode cX6_leastRisen 68 = .ok (.iload 4, 2) := by decide +kernel
theorem dX6_leastRisen_70 : decode cX6_leastRisen 70 = .ok (.if_icmp .ne 7, 3) := by decide +kernel
theorem dX6_leastRisen_73 : decode cX6_leastRisen 73 = .ok (.iload 8, 2) := by decide +kernel
theorem dX6_leastRisen_75 : decode cX6_leastRisen 75 = .ok (.istore 5, 2) := by decide +kernel
theorem dX6_leastRisen_77 : decode cX6_leastRisen 77 = .ok (.iinc 7 1, 3) := by decide +kernel
theorem dX6_leastRisen_80 : decode cX6_leastRisen 80 = .ok (.goto (-54), 3) := by decide +kernel
theorem dX6_leastRisen_83 : decode cX6_leastRisen 83 = .ok (.iinc 6 1, 3) := by decide +kernel
theorem dX6_leastRisen_86 : decode cX6_leastRisen 86 = .ok (.goto (-71), 3) := by decide +kernel
theorem dX6_leastRisen_89 : decode cX6_leastRisen 89 = .ok (.iload 5, 2) := by decide +kernel
theorem dX6_leastRisen_91 : decode cX6_leastRisen 91 = .ok (.ireturn, 1) := by decide +kernel
theorem dX7_init_0 : decode cX7_init 0 = .ok (.aload_n 0, 1) := by decide +kernel
theorem dX7_init_1 : decode cX7_init 1 = .ok (.invokespecial 3, 3) := by decide +kernel
theorem dX7_init_4 : decode cX7_init 4 = .ok (.aload_n 0, 1) := by decide +kernel
theorem dX7_init_5 : decode cX7_init 5 = .ok (.sipush 600, 3) := by decide +kernel
theorem dX7_init_8 : decode cX7_init 8 = .ok (.newarray .int, 2) := by decide +kernel
theorem dX7_init_10 : decode cX7_init 10 = .ok (.putfield 9, 3) := by decide +kernel
theorem dX7_init_13 : decode cX7_init 13 = .ok (.aload_n 0, 1) := by decide +kernel
theorem dX7_init_14 : decode cX7_init 14 = .ok (.sipush 600, 3) := by decide +kernel
theorem dX7_init_17 : decode cX7_init 17 = .ok (.newarray .int, 2) := by decide +kernel
theorem dX7_init_19 : decode cX7_init 19 = .ok (.putfield 15, 3) := by decide +kernel
theorem dX7_init_22 : decode cX7_init 22 = .ok (.aload_n 0, 1) := by decide +kernel
theorem dX7_init_23 : decode cX7_init 23 = .ok (.iconst 0, 1) := by decide +kernel
theorem dX7_init_24 : decode cX7_init 24 = .ok (.putfield 18, 3) := by decide +kernel
theorem dX7_init_27 : decode cX7_init 27 = .ok (.aload_n 0, 1) := by decide +kernel
theorem dX7_init_28 : decode cX7_init 28 = .ok (.iconst 0, 1) := by decide +kernel
theorem dX7_init_29 : decode cX7_init 29 = .ok (.putfield 22, 3) := by decide +kernel
theorem dX7_init_32 : decode cX7_init 32 = .ok (.return_, 1) := by decide +kernel
theorem dX7_size_0 : decode cX7_size 0 = .ok (.aload_n 0, 1) := by decide +kernel
theorem dX7_size_1 : decode cX7_size 1 = .ok (.getfield 18, 3) := by decide +kernel
theorem dX7_size_4 : decode cX7_size 4 = .ok (.ireturn, 1) := by decide +kernel
theorem dX7_isThere_0 : decode cX7_isThere 0 = .ok (.aload_n 0, 1) := by decide +kernel
theorem dX7_isThere_1 : decode cX7_isThere 1 = .ok (.getfield 22, 3) := by decide +kernel
theorem dX7_isThere_4 : decode cX7_isThere 4 = .ok (.ireturn, 1) := by decide +kernel
theorem dX7_vanish_0 : decode cX7_vanish 0 = .ok (.aload_n 0, 1) := by decide +kernel
theorem dX7_vanish_1 : decode cX7_vanish 1 = .ok (.iconst 0, 1) := by decide +kernel
theorem dX7_vanish_2 : decode cX7_vanish 2 = .ok (.putfield 18, 3) := by decide +kernel
theorem dX7_vanish_5 : decode cX7_vanish 5 = .ok (.aload_n 0, 1) := by decide +kernel
theorem dX7_vanish_6 : decode cX7_vanish 6 = .ok (.iconst 0, 1) := by decide +kernel
theorem dX7_vanish_7 : decode cX7_vanish 7 = .ok (.putfield 22, 3) := by decide +kernel
theorem dX7_vanish_10 : decode cX7_vanish 10 = .ok (.return_, 1) := by decide +kernel
theorem dX7_clear_0 : decode cX7_clear 0 = .ok (.aload_n 0, 1) := by decide +kernel
theorem dX7_clear_1 : decode cX7_clear 1 = .ok (.iconst 0, 1) := by decide +kernel
theorem dX7_clear_2 : decode cX7_clear 2 = .ok (.putfield 18, 3) := by decide +kernel
theorem dX7_clear_5 : decode cX7_clear 5 = .ok (.aload_n 0, 1) := by decide +kernel
theorem dX7_clear_6 : decode cX7_clear 6 = .ok (.iconst 1, 1) := by decide +kernel
theorem dX7_clear_7 : decode cX7_clear 7 = .ok (.putfield 22, 3) := by decide +kernel
theorem dX7_clear_10 : decode cX7_clear 10 = .ok (.return_, 1) := by decide +kernel
theorem dX7_append_0 : decode cX7_append 0 = .ok (.aload_n 0, 1) := by decide +kernel
theorem dX7_append_1 : decode cX7_append 1 = .ok (.getfield 18, 3) := by decide +kernel
theorem dX7_append_4 : decode cX7_append 4 = .ok (.sipush 600, 3) := by decide +kernel
theorem dX7_append_7 : decode cX7_append 7 = .ok (.if_icmp .ge 33, 3) := by decide +kernel
theorem dX7_append_10 : decode cX7_append 10 = .ok (.aload_n 0, 1) := by decide +kernel
theorem dX7_append_11 : decode cX7_append 11 = .ok (.getfield 9, 3) := by decide +kernel
theorem dX7_append_14 : decode cX7_append 14 = .ok (.aload_n 0, 1) := by decide +kernel
theorem dX7_append_15 : decode cX7_append 15 = .ok (.getfield 18, 3) := by decide +kernel
theorem dX7_append_18 : decode cX7_append 18 = .ok (.iload_n 1, 1) := by decide +kernel
theorem dX7_append_19 : decode cX7_append 19 = .ok (.iastore, 1) := by decide +kernel
theorem dX7_append_20 : decode cX7_append 20 = .ok (.aload_n 0, 1) := by decide +kernel
theorem dX7_append_21 : decode cX7_append 21 = .ok (.getfield 15, 3) := by decide +kernel
theorem dX7_append_24 : decode cX7_append 24 = .ok (.aload_n 0, 1) := by decide +kernel
theorem dX7_append_25 : decode cX7_append 25 = .ok (.getfield 18, 3) := by decide +kernel
theorem dX7_append_28 : decode cX7_append 28 = .ok (.iload_n 2, 1) := by decide +kernel
theorem dX7_append_29 : decode cX7_append 29 = .ok (.iastore, 1) := by decide +kernel
theorem dX7_append_30 : decode cX7_append 30 = .ok (.aload_n 0, 1) := by decide +kernel
theorem dX7_append_31 : decode cX7_append 31 = .ok (.dup, 1) := by decide +kernel
theorem dX7_append_32 : decode cX7_append 32 = .ok (.getfield 18, 3) := by decide +kernel
theorem dX7_append_35 : decode cX7_append 35 = .ok (.iconst 1, 1) := by decide +kernel
theorem dX7_append_36 : decode cX7_append 36 = .ok (.iadd, 1) := by decide +kernel
theorem dX7_append_37 : decode cX7_append 37 = .ok (.putfield 18, 3) := by decide +kernel
theorem dX7_append_40 : decode cX7_append 40 = .ok (.return_, 1) := by decide +kernel
theorem dX7_exponentsAt_0 : decode cX7_exponentsAt 0 = .ok (.iload_n 1, 1) := by decide +kernel
theorem dX7_exponentsAt_1 : decode cX7_exponentsAt 1 = .ok (.ifCond .lt 20, 3) := by decide +kernel
theorem dX7_exponentsAt_4 : decode cX7_exponentsAt 4 = .ok (.iload_n 1, 1) := by decide +kernel
theorem dX7_exponentsAt_5 : decode cX7_exponentsAt 5 = .ok (.aload_n 0, 1) := by decide +kernel
theorem dX7_exponentsAt_6 : decode cX7_exponentsAt 6 = .ok (.getfield 18, 3) := by decide +kernel
theorem dX7_exponentsAt_9 : decode cX7_exponentsAt 9 = .ok (.if_icmp .ge 12, 3) := by decide +kernel
theorem dX7_exponentsAt_12 : decode cX7_exponentsAt 12 = .ok (.aload_n 0, 1) := by decide +kernel
theorem dX7_exponentsAt_13 : decode cX7_exponentsAt 13 = .ok (.getfield 9, 3) := by decide +kernel
theorem dX7_exponentsAt_16 : decode cX7_exponentsAt 16 = .ok (.iload_n 1, 1) := by decide +kernel
theorem dX7_exponentsAt_17 : decode cX7_exponentsAt 17 = .ok (.iaload, 1) := by decide +kernel
theorem dX7_exponentsAt_18 : decode cX7_exponentsAt 18 = .ok (.goto 4, 3) := by decide +kernel
theorem dX7_exponentsAt_21 : decode cX7_exponentsAt 21 = .ok (.iconst 0, 1) := by decide +kernel
theorem dX7_exponentsAt_22 : decode cX7_exponentsAt 22 = .ok (.ireturn, 1) := by decide +kernel
theorem dX7_numberAt_0 : decode cX7_numberAt 0 = .ok (.iload_n 1, 1) := by decide +kernel
theorem dX7_numberAt_1 : decode cX7_numberAt 1 = .ok (.ifCond .lt 20, 3) := by decide +kernel
theorem dX7_numberAt_4 : decode cX7_numberAt 4 = .ok (.iload_n 1, 1) := by decide +kernel
theorem dX7_numberAt_5 : decode cX7_numberAt 5 = .ok (.aload_n 0, 1) := by decide +kernel
theorem dX7_numberAt_6 : decode cX7_numberAt 6 = .ok (.getfield 18, 3) := by decide +kernel
theorem dX7_numberAt_9 : decode cX7_numberAt 9 = .ok (.if_icmp .ge 12, 3) := by decide +kernel
theorem dX7_numberAt_12 : decode cX7_numberAt 12 = .ok (.aload_n 0, 1) := by decide +kernel
theorem dX7_numberAt_13 : decode cX7_numberAt 13 = .ok (.getfield 15, 3) := by decide +kernel
theorem dX7_numberAt_16 : decode cX7_numberAt 16 = .ok (.iload_n 1, 1) := by decide +kernel
theorem dX7_numberAt_17 : decode cX7_numberAt 17 = .ok (.iaload, 1) := by decide +kernel
theorem dX7_numberAt_18 : decode cX7_numberAt 18 = .ok (.goto 4, 3) := by decide +kernel
theorem dX7_numberAt_21 : decode cX7_numberAt 21 = .ok (.iconst 0, 1) := by decide +kernel
theorem dX7_numberAt_22 : decode cX7_numberAt 22 = .ok (.ireturn, 1) := by decide +kernel
theorem dX7_numberOf_0 : decode cX7_numberOf 0 = .ok (.iconst 0, 1) := by decide +kernel
theorem dX7_numberOf_1 : decode cX7_numberOf 1 = .ok (.istore_n 2, 1) := by decide +kernel
theorem dX7_numberOf_2 : decode cX7_numberOf 2 = .ok (.iload_n 2, 1) := by decide +kernel
theorem dX7_numberOf_3 : decode cX7_numberOf 3 = .ok (.aload_n 0, 1) := by decide +kernel
theorem dX7_numberOf_4 : decode cX7_numberOf 4 = .ok (.getfield 18, 3) := by decide +kernel
theorem dX7_numberOf_7 : decode cX7_numberOf 7 = .ok (.if_icmp .ge 24, 3) := by decide +kernel
theorem dX7_numberOf_10 : decode cX7_numberOf 10 = .ok (.aload_n 0, 1) := by decide +kernel
theorem dX7_numberOf_11 : decode cX7_numberOf 11 = .ok (.iload_n 2, 1) := by decide +kernel
theorem dX7_numberOf_12 : decode cX7_numberOf 12 = .ok (.invokevirtual 26, 3) := by decide +kernel
theorem dX7_numberOf_15 : decode cX7_numberOf 15 = .ok (.iload_n 1, 1) := by decide +kernel
theorem dX7_numberOf_16 : decode cX7_numberOf 16 = .ok (.if_icmp .ne 9, 3) := by decide +kernel
theorem dX7_numberOf_19 : decode cX7_numberOf 19 = .ok (.aload_n 0, 1) := by decide +kernel
theorem dX7_numberOf_20 : decode cX7_numberOf 20 = .ok (.iload_n 2, 1) := by decide +kernel
theorem dX7_numberOf_21 : decode cX7_numberOf 21 = .ok (.invokevirtual 30, 3) := by decide +kernel
theorem dX7_numberOf_24 : decode cX7_numberOf 24 = .ok (.ireturn, 1) := by decide +kernel
theorem dX7_numberOf_25 : decode cX7_numberOf 25 = .ok (.iinc 2 1, 3) := by decide +kernel
theorem dX7_numberOf_28 : decode cX7_numberOf 28 = .ok (.goto (-26), 3) := by decide +kernel
theorem dX7_numberOf_31 : decode cX7_numberOf 31 = .ok (.iconst 0, 1) := by decide +kernel
theorem dX7_numberOf_32 : decode cX7_numberOf 32 = .ok (.ireturn, 1) := by decide +kernel
theorem dX7_exponentAt_0 : decode cX7_exponentAt 0 = .ok (.aload_n 0, 1) := by decide +kernel
theorem dX7_exponentAt_1 : decode cX7_exponentAt 1 = .ok (.iload_n 1, 1) := by decide +kernel
theorem dX7_exponentAt_2 : decode cX7_exponentAt 2 = .ok (.invokevirtual 26, 3) := by decide +kernel
theorem dX7_exponentAt_5 : decode cX7_exponentAt 5 = .ok (.iconst 5, 1) := by decide +kernel
theorem dX7_exponentAt_6 : decode cX7_exponentAt 6 = .ok (.iload_n 2, 1) := by decide +kernel
theorem dX7_exponentAt_7 : decode cX7_exponentAt 7 = .ok (.isub, 1) := by decide +kernel
theorem dX7_exponentAt_8 : decode cX7_exponentAt 8 = .ok (.invokestatic 33, 3) := by decide +kernel
theorem dX7_exponentAt_11 : decode cX7_exponentAt 11 = .ok (.ireturn, 1) := by decide +kernel
theorem dX7_topExponent_0 : decode cX7_topExponent 0 = .ok (.iconst 0, 1) := by decide +kernel
theorem dX7_topExponent_1 : decode cX7_topExponent 1 = .ok (.istore_n 2, 1) := by decide +kernel
theorem dX7_topExponent_2 : decode cX7_topExponent 2 = .ok (.iconst 0, 1) := by decide +kernel
theorem dX7_topExponent_3 : decode cX7_topExponent 3 = .ok (.istore_n 3, 1) := by decide +kernel
theorem dX7_topExponent_4 : decode cX7_topExponent 4 = .ok (.iload_n 3, 1) := by decide +kernel
theorem dX7_topExponent_5 : decode cX7_topExponent 5 = .ok (.aload_n 0, 1) := by decide +kernel
theorem dX7_topExponent_6 : decode cX7_topExponent 6 = .ok (.getfield 18, 3) := by decide +kernel
theorem dX7_topExponent_9 : decode cX7_topExponent 9 = .ok (.if_icmp .ge 20, 3) := by decide +kernel
theorem dX7_topExponent_12 : decode cX7_topExponent 12 = .ok (.iload_n 2, 1) := by decide +kernel
theorem dX7_topExponent_13 : decode cX7_topExponent 13 = .ok (.aload_n 0, 1) := by decide +kernel
theorem dX7_topExponent_14 : decode cX7_topExponent 14 = .ok (.iload_n 3, 1) := by decide +kernel
theorem dX7_topExponent_15 : decode cX7_topExponent 15 = .ok (.iload_n 1, 1) := by decide +kernel
theorem dX7_topExponent_16 : decode cX7_topExponent 16 = .ok (.invokevirtual 39, 3) := by decide +kernel
theorem dX7_topExponent_19 : decode cX7_topExponent 19 = .ok (.invokestatic 42, 3) := by decide +kernel
theorem dX7_topExponent_22 : decode cX7_topExponent 22 = .ok (.istore_n 2, 1) := by decide +kernel
theorem dX7_topExponent_23 : decode cX7_topExponent 23 = .ok (.iinc 3 1, 3) := by decide +kernel
theorem dX7_topExponent_26 : decode cX7_topExponent 26 = .ok (.goto (-22), 3) := by decide +kernel
theorem dX7_topExponent_29 : decode cX7_topExponent 29 = .ok (.iload_n 2, 1) := by decide +kernel
theorem dX7_topExponent_30 : decode cX7_topExponent 30 = .ok (.ireturn, 1) := by decide +kernel
theorem dX7_isLike_0 : decode cX7_isLike 0 = .ok (.aload_n 0, 1) := by decide +kernel
theorem dX7_isLike_1 : decode cX7_isLike 1 = .ok (.getfield 18, 3) := by decide +kernel
theorem dX7_isLike_4 : decode cX7_isLike 4 = .ok (.aload_n 1, 1) := by decide +kernel
theorem dX7_isLike_5 : decode cX7_isLike 5 = .ok (.getfield 18, 3) := by decide +kernel
theorem dX7_isLike_8 : decode cX7_isLike 8 = .ok (.if_icmp .eq 5, 3) := by decide +kernel
theorem dX7_isLike_11 : decode cX7_isLike 11 = .ok (.iconst 0, 1) := by decide +kernel
theorem dX7_isLike_12 : decode cX7_isLike 12 = .ok (.ireturn, 1) := by decide +kernel
theorem dX7_isLike_13 : decode cX7_isLike 13 = .ok (.iconst 0, 1) := by decide +kernel
theorem dX7_isLike_14 : decode cX7_isLike 14 = .ok (.istore_n 2, 1) := by decide +kernel
theorem dX7_isLike_15 : decode cX7_isLike 15 = .ok (.iload_n 2, 1) := by decide +kernel
theorem dX7_isLike_16 : decode cX7_isLike 16 = .ok (.aload_n 0, 1) := by decide +kernel
theorem dX7_isLike_17 : decode cX7_isLike 17 = .ok (.getfield 18, 3) := by decide +kernel
theorem dX7_isLike_20 : decode cX7_isLike 20 = .ok (.if_icmp .ge 37, 3) := by decide +kernel
theorem dX7_isLike_23 : decode cX7_isLike 23 = .ok (.aload_n 0, 1) := by decide +kernel
theorem dX7_isLike_24 : decode cX7_isLike 24 = .ok (.iload_n 2, 1) := by decide +kernel
theorem dX7_isLike_25 : decode cX7_isLike 25 = .ok (.invokevirtual 26, 3) := by decide +kernel
theorem dX7_isLike_28 : decode cX7_isLike 28 = .ok (.aload_n 1, 1) := by decide +kernel
theorem dX7_isLike_29 : decode cX7_isLike 29 = .ok (.iload_n 2, 1) := by decide +kernel
theorem dX7_isLike_30 : decode cX7_isLike 30 = .ok (.invokevirtual 26, 3) := by decide +kernel
theorem dX7_isLike_33 : decode cX7_isLike 33 = .ok (.if_icmp .ne 16, 3) := by decide +kernel
theorem dX7_isLike_36 : decode cX7_isLike 36 = .ok (.aload_n 0, 1) := by decide +kernel
theorem dX7_isLike_37 : decode cX7_isLike 37 = .ok (.iload_n 2, 1) := by decide +kernel
theorem dX7_isLike_38 : decode cX7_isLike 38 = .ok (.invokevirtual 30, 3) := by decide +kernel
theorem dX7_isLike_41 : decode cX7_isLike 41 = .ok (.aload_n 1, 1) := by decide +kernel
theorem dX7_isLike_42 : decode cX7_isLike 42 = .ok (.iload_n 2, 1) := by decide +kernel
theorem dX7_isLike_43 : decode cX7_isLike 43 = .ok (.invokevirtual 30, 3) := by decide +kernel
theorem dX7_isLike_46 : decode cX7_isLike 46 = .ok (.if_icmp .eq 5, 3) := by decide +kernel
theorem dX7_isLike_49 : decode cX7_isLike 49 = .ok (.iconst 0, 1) := by decide +kernel
theorem dX7_isLike_50 : decode cX7_isLike 50 = .ok (.ireturn, 1) := by decide +kernel
theorem dX7_isLike_51 : decode cX7_isLike 51 = .ok (.iinc 2 1, 3) := by decide +kernel
theorem dX7_isLike_54 : decode cX7_isLike 54 = .ok (.goto (-39), 3) := by decide +kernel
theorem dX7_isLike_57 : decode cX7_isLike 57 = .ok (.iconst 1, 1) := by decide +kernel
theorem dX7_isLike_58 : decode cX7_isLike 58 = .ok (.ireturn, 1) := by decide +kernel
theorem dX7_copy_0 : decode cX7_copy 0 = .ok (.aload_n 0, 1) := by decide +kernel
theorem dX7_copy_1 : decode cX7_copy 1 = .ok (.invokevirtual 47, 3) := by decide +kernel
theorem dX7_copy_4 : decode cX7_copy 4 = .ok (.iconst 0, 1) := by decide +kernel
theorem dX7_copy_5 : decode cX7_copy 5 = .ok (.istore_n 2, 1) := by decide +kernel
theorem dX7_copy_6 : decode cX7_copy 6 = .ok (.iload_n 2, 1) := by decide +kernel
theorem dX7_copy_7 : decode cX7_copy 7 = .ok (.aload_n 1, 1) := by decide +kernel
theorem dX7_copy_8 : decode cX7_copy 8 = .ok (.getfield 18, 3) := by decide +kernel
theorem dX7_copy_11 : decode cX7_copy 11 = .ok (.if_icmp .ge 23, 3) := by decide +kernel
theorem dX7_copy_14 : decode cX7_copy 14 = .ok (.aload_n 0, 1) := by decide +kernel
theorem dX7_copy_15 : decode cX7_copy 15 = .ok (.aload_n 1, 1) := by decide +kernel
theorem dX7_copy_16 : decode cX7_copy 16 = .ok (.iload_n 2, 1) := by decide +kernel
theorem dX7_copy_17 : decode cX7_copy 17 = .ok (.invokevirtual 26, 3) := by decide +kernel
theorem dX7_copy_20 : decode cX7_copy 20 = .ok (.aload_n 1, 1) := by decide +kernel
theorem dX7_copy_21 : decode cX7_copy 21 = .ok (.iload_n 2, 1) := by decide +kernel
theorem dX7_copy_22 : decode cX7_copy 22 = .ok (.invokevirtual 30, 3) := by decide +kernel
theorem dX7_copy_25 : decode cX7_copy 25 = .ok (.invokevirtual 50, 3) := by decide +kernel
theorem dX7_copy_28 : decode cX7_copy 28 = .ok (.iinc 2 1, 3) := by decide +kernel
theorem dX7_copy_31 : decode cX7_copy 31 = .ok (.goto (-25), 3) := by decide +kernel
theorem dX7_copy_34 : decode cX7_copy 34 = .ok (.return_, 1) := by decide +kernel
theorem dX7_digestOn_0 : decode cX7_digestOn 0 = .ok (.ldc2_w 54, 3) := by decide +kernel
theorem dX7_digestOn_3 : decode cX7_digestOn 3 = .ok (.lload_n 1, 1) := by decide +kernel
theorem dX7_digestOn_4 : decode cX7_digestOn 4 = .ok (.lmul, 1) := by decide +kernel
theorem dX7_digestOn_5 : decode cX7_digestOn 5 = .ok (.aload_n 0, 1) := by decide +kernel
theorem dX7_digestOn_6 : decode cX7_digestOn 6 = .ok (.getfield 18, 3) := by decide +kernel
theorem dX7_digestOn_9 : decode cX7_digestOn 9 = .ok (.i2l, 1) := by decide +kernel
theorem dX7_digestOn_10 : decode cX7_digestOn 10 = .ok (.ladd, 1) := by decide +kernel
theorem dX7_digestOn_11 : decode cX7_digestOn 11 = .ok (.lstore_n 3, 1) := by decide +kernel
theorem dX7_digestOn_12 : decode cX7_digestOn 12 = .ok (.iconst 0, 1) := by decide +kernel
theorem dX7_digestOn_13 : decode cX7_digestOn 13 = .ok (.istore 5, 2) := by decide +kernel
theorem dX7_digestOn_15 : decode cX7_digestOn 15 = .ok (.iload 5, 2) := by decide +kernel
theorem dX7_digestOn_17 : decode cX7_digestOn 17 = .ok (.aload_n 0, 1) := by decide +kernel
theorem dX7_digestOn_18 : decode cX7_digestOn 18 = .ok (.getfield 18, 3) := by decide +kernel
theorem dX7_digestOn_21 : decode cX7_digestOn 21 = .ok (.if_icmp .ge 37, 3) := by decide +kernel
theorem dX7_digestOn_24 : decode cX7_digestOn 24 = .ok (.ldc2_w 54, 3) := by decide +kernel
theorem dX7_digestOn_27 : decode cX7_digestOn 27 = .ok (.lload_n 3, 1) := by decide +kernel
theorem dX7_digestOn_28 : decode cX7_digestOn 28 = .ok (.lmul, 1) := by decide +kernel
theorem dX7_digestOn_29 : decode cX7_digestOn 29 = .ok (.aload_n 0, 1) := by decide +kernel
theorem dX7_digestOn_30 : decode cX7_digestOn 30 = .ok (.iload 5, 2) := by decide +kernel
theorem dX7_digestOn_32 : decode cX7_digestOn 32 = .ok (.invokevirtual 26, 3) := by decide +kernel
theorem dX7_digestOn_35 : decode cX7_digestOn 35 = .ok (.i2l, 1) := by decide +kernel
theorem dX7_digestOn_36 : decode cX7_digestOn 36 = .ok (.ladd, 1) := by decide +kernel
theorem dX7_digestOn_37 : decode cX7_digestOn 37 = .ok (.lstore_n 3, 1) := by decide +kernel
theorem dX7_digestOn_38 : decode cX7_digestOn 38 = .ok (.ldc2_w 54, 3) := by decide +kernel
theorem dX7_digestOn_41 : decode cX7_digestOn 41 = .ok (.lload_n 3, 1) := by decide +kernel
theorem dX7_digestOn_42 : decode cX7_digestOn 42 = .ok (.lmul, 1) := by decide +kernel
theorem dX7_digestOn_43 : decode cX7_digestOn 43 = .ok (.aload_n 0, 1) := by decide +kernel
theorem dX7_digestOn_44 : decode cX7_digestOn 44 = .ok (.iload 5, 2) := by decide +kernel
theorem dX7_digestOn_46 : decode cX7_digestOn 46 = .ok (.invokevirtual 30, 3) := by decide +kernel
theorem dX7_digestOn_49 : decode cX7_digestOn 49 = .ok (.i2l, 1) := by decide +kernel
theorem dX7_digestOn_50 : decode cX7_digestOn 50 = .ok (.ladd, 1) := by decide +kernel
theorem dX7_digestOn_51 : decode cX7_digestOn 51 = .ok (.lstore_n 3, 1) := by decide +kernel
theorem dX7_digestOn_52 : decode cX7_digestOn 52 = .ok (.iinc 5 1, 3) := by decide +kernel
theorem dX7_digestOn_55 : decode cX7_digestOn 55 = .ok (.goto (-40), 3) := by decide +kernel
theorem dX7_digestOn_58 : decode cX7_digestOn 58 = .ok (.lload_n 3, 1) := by decide +kernel
theorem dX7_digestOn_59 : decode cX7_digestOn 59 = .ok (.lreturn, 1) := by decide +kernel
theorem dX8_init_0 : decode cX8_init 0 = .ok (.aload_n 0, 1) := by decide +kernel
theorem dX8_init_1 : decode cX8_init 1 = .ok (.invokespecial 3, 3) := by decide +kernel
theorem dX8_init_4 : decode cX8_init 4 = .ok (.aload_n 0, 1) := by decide +kernel
theorem dX8_init_5 : decode cX8_init 5 = .ok (.ldc 9, 2) := by decide +kernel
theorem dX8_init_7 : decode cX8_init 7 = .ok (.newarray .long, 2) := by decide +kernel
theorem dX8_init_9 : decode cX8_init 9 = .ok (.putfield 10, 3) := by decide +kernel
theorem dX8_init_12 : decode cX8_init 12 = .ok (.aload_n 0, 1) := by decide +kernel
theorem dX8_init_13 : decode cX8_init 13 = .ok (.sipush 889, 3) := by decide +kernel
theorem dX8_init_16 : decode cX8_init 16 = .ok (.newarray .boolean, 2) := by decide +kernel
theorem dX8_init_18 : decode cX8_init 18 = .ok (.putfield 16, 3) := by decide +kernel
theorem dX8_init_21 : decode cX8_init 21 = .ok (.aload_n 0, 1) := by decide +kernel
theorem dX8_init_22 : decode cX8_init 22 = .ok (.new 20, 3) := by decide +kernel
theorem dX8_init_25 : decode cX8_init 25 = .ok (.dup, 1) := by decide +kernel
theorem dX8_init_26 : decode cX8_init 26 = .ok (.invokespecial 22, 3) := by decide +kernel
theorem dX8_init_29 : decode cX8_init 29 = .ok (.putfield 23, 3) := by decide +kernel
theorem dX8_init_32 : decode cX8_init 32 = .ok (.aload_n 0, 1) := by decide +kernel
theorem dX8_init_33 : decode cX8_init 33 = .ok (.iconst 0, 1) := by decide +kernel
theorem dX8_init_34 : decode cX8_init 34 = .ok (.putfield 27, 3) := by decide +kernel
theorem dX8_init_37 : decode cX8_init 37 = .ok (.aload_n 0, 1) := by decide +kernel
theorem dX8_init_38 : decode cX8_init 38 = .ok (.iconst 0, 1) := by decide +kernel
theorem dX8_init_39 : decode cX8_init 39 = .ok (.putfield 31, 3) := by decide +kernel
theorem dX8_init_42 : decode cX8_init 42 = .ok (.return_, 1) := by decide +kernel
theorem dX8_pour_0 : decode cX8_pour 0 = .ok (.iload_n 1, 1) := by decide +kernel
theorem dX8_pour_1 : decode cX8_pour 1 = .ok (.ifCond .lt 29, 3) := by decide +kernel
theorem dX8_pour_4 : decode cX8_pour 4 = .ok (.iload_n 1, 1) := by decide +kernel
theorem dX8_pour_5 : decode cX8_pour 5 = .ok (.ldc 35, 2) := by decide +kernel
theorem dX8_pour_7 : decode cX8_pour 7 = .ok (.if_icmp .gt 23, 3) := by decide +kernel
theorem dX8_pour_10 : decode cX8_pour 10 = .ok (.aload_n 0, 1) := by decide +kernel
theorem dX8_pour_11 : decode cX8_pour 11 = .ok (.getfield 10, 3) := by decide +kernel
theorem dX8_pour_14 : decode cX8_pour 14 = .ok (.iload_n 1, 1) := by decide +kernel
theorem dX8_pour_15 : decode cX8_pour 15 = .ok (.dup2, 1) := by decide +kernel
theorem dX8_pour_16 : decode cX8_pour 16 = .ok (.laload, 1) := by decide +kernel
theorem dX8_pour_17 : decode cX8_pour 17 = .ok (.lload_n 2, 1) := by decide +kernel
theorem dX8_pour_18 : decode cX8_pour 18 = .ok (.ladd, 1) := by decide +kernel
theorem dX8_pour_19 : decode cX8_pour 19 = .ok (.lastore, 1) := by decide +kernel
theorem dX8_pour_20 : decode cX8_pour 20 = .ok (.aload_n 0, 1) := by decide +kernel
theorem dX8_pour_21 : decode cX8_pour 21 = .ok (.getfield 16, 3) := by decide +kernel
theorem dX8_pour_24 : decode cX8_pour 24 = .ok (.iload_n 1, 1) := by decide +kernel
theorem dX8_pour_25 : decode cX8_pour 25 = .ok (.bipush 100, 2) := by decide +kernel
theorem dX8_pour_27 : decode cX8_pour 27 = .ok (.idiv, 1) := by decide +kernel
theorem dX8_pour_28 : decode cX8_pour 28 = .ok (.iconst 1, 1) := by decide +kernel
theorem dX8_pour_29 : decode cX8_pour 29 = .ok (.bastore, 1) := by decide +kernel
theorem dX8_pour_30 : decode cX8_pour 30 = .ok (.return_, 1) := by decide +kernel
theorem dX8_pourAll_0 : decode cX8_pourAll 0 = .ok (.iconst 0, 1) := by decide +kernel
theorem dX8_pourAll_1 : decode cX8_pourAll 1 = .ok (.istore 4, 2) := by decide +kernel
theorem dX8_pourAll_3 : decode cX8_pourAll 3 = .ok (.iload 4, 2) := by decide +kernel
theorem dX8_pourAll_5 : decode cX8_pourAll 5 = .ok (.aload_n 1, 1) := by decide +kernel
theorem dX8_pourAll_6 : decode cX8_pourAll 6 = .ok (.invokevirtual 36, 3) := by decide +kernel
theorem dX8_pourAll_9 : decode cX8_pourAll 9 = .ok (.if_icmp .ge 28, 3) := by decide +kernel
theorem dX8_pourAll_12 : decode cX8_pourAll 12 = .ok (.aload_n 0, 1) := by decide +kernel
theorem dX8_pourAll_13 : decode cX8_pourAll 13 = .ok (.aload_n 1, 1) := by decide +kernel
theorem dX8_pourAll_14 : decode cX8_pourAll 14 = .ok (.iload 4, 2) := by decide +kernel
theorem dX8_pourAll_16 : decode cX8_pourAll 16 = .ok (.invokevirtual 40, 3) := by decide +kernel
theorem dX8_pourAll_19 : decode cX8_pourAll 19 = .ok (.lload_n 2, 1) := by decide +kernel
theorem dX8_pourAll_20 : decode cX8_pourAll 20 = .ok (.aload_n 1, 1) := by decide +kernel
theorem dX8_pourAll_21 : decode cX8_pourAll 21 = .ok (.iload 4, 2) := by decide +kernel
theorem dX8_pourAll_23 : decode cX8_pourAll 23 = .ok (.invokevirtual 44, 3) := by decide +kernel
theorem dX8_pourAll_26 : decode cX8_pourAll 26 = .ok (.i2l, 1) := by decide +kernel
theorem dX8_pourAll_27 : decode cX8_pourAll 27 = .ok (.lmul, 1) := by decide +kernel
theorem dX8_pourAll_28 : decode cX8_pourAll 28 = .ok (.invokevirtual 47, 3) := by decide +kernel
theorem dX8_pourAll_31 : decode cX8_pourAll 31 = .ok (.iinc 4 1, 3) := by decide +kernel
theorem dX8_pourAll_34 : decode cX8_pourAll 34 = .ok (.goto (-31), 3) := by decide +kernel
theorem dX8_pourAll_37 : decode cX8_pourAll 37 = .ok (.return_, 1) := by decide +kernel
theorem dX8_settle_0 : decode cX8_settle 0 = .ok (.aload_n 0, 1) := by decide +kernel
theorem dX8_settle_1 : decode cX8_settle 1 = .ok (.getfield 23, 3) := by decide +kernel
theorem dX8_settle_4 : decode cX8_settle 4 = .ok (.invokevirtual 51, 3) := by decide +kernel
theorem dX8_settle_7 : decode cX8_settle 7 = .ok (.aload_n 0, 1) := by decide +kernel
theorem dX8_settle_8 : decode cX8_settle 8 = .ok (.iconst 0, 1) := by decide +kernel
theorem dX8_settle_9 : decode cX8_settle 9 = .ok (.putfield 27, 3) := by decide +kernel
theorem dX8_settle_12 : decode cX8_settle 12 = .ok (.aload_n 0, 1) := by decide +kernel
theorem dX8_settle_13 : decode cX8_settle 13 = .ok (.iconst 0, 1) := by decide +kernel
theorem dX8_settle_14 : decode cX8_settle 14 = .ok (.putfield 31, 3) := by decide +kernel
theorem dX8_settle_17 : decode cX8_settle 17 = .ok (.aload_n 0, 1) := by decide +kernel
theorem dX8_settle_18 : decode cX8_settle 18 = .ok (.getfield 16, 3) := by decide +kernel
theorem dX8_settle_21 : decode cX8_settle 21 = .ok (.arraylength, 1) := by decide +kernel
theorem dX8_settle_22 : decode cX8_settle 22 = .ok (.iconst 1, 1) := by decide +kernel
theorem dX8_settle_23 : decode cX8_settle 23 = .ok (.isub, 1) := by decide +kernel
theorem dX8_settle_24 : decode cX8_settle 24 = .ok (.istore_n 2, 1) := by decide +kernel
theorem dX8_settle_25 : decode cX8_settle 25 = .ok (.iload_n 2, 1) := by decide +kernel
theorem dX8_settle_26 : decode cX8_settle 26 = .ok (.ifCond .lt 23, 3) := by decide +kernel
theorem dX8_settle_29 : decode cX8_settle 29 = .ok (.aload_n 0, 1) := by decide +kernel
theorem dX8_settle_30 : decode cX8_settle 30 = .ok (.getfield 16, 3) := by decide +kernel
theorem dX8_settle_33 : decode cX8_settle 33 = .ok (.iload_n 2, 1) := by decide +kernel
theorem dX8_settle_34 : decode cX8_settle 34 = .ok (.baload, 1) := by decide +kernel
theorem dX8_settle_35 : decode cX8_settle 35 = .ok (.ifCond .eq 8, 3) := by decide +kernel
theorem dX8_settle_38 : decode cX8_settle 38 = .ok (.aload_n 0, 1) := by decide +kernel
theorem dX8_settle_39 : decode cX8_settle 39 = .ok (.iload_n 2, 1) := by decide +kernel
theorem dX8_settle_40 : decode cX8_settle 40 = .ok (.invokevirtual 54, 3) := by decide +kernel
theorem dX8_settle_43 : decode cX8_settle 43 = .ok (.iinc 2 (-1), 3) := by decide +kernel
theorem dX8_settle_46 : decode cX8_settle 46 = .ok (.goto (-21), 3) := by decide +kernel
theorem dX8_settle_49 : decode cX8_settle 49 = .ok (.aload_n 0, 1) := by decide +kernel
theorem dX8_settle_50 : decode cX8_settle 50 = .ok (.getfield 31, 3) := by decide +kernel
theorem dX8_settle_53 : decode cX8_settle 53 = .ok (.ifCond .eq 6, 3) := by decide +kernel
theorem dX8_settle_56 : decode cX8_settle 56 = .ok (.bipush (-5), 2) := by decide +kernel
theorem dX8_settle_58 : decode cX8_settle 58 = .ok (.ireturn, 1) := by decide +kernel
theorem dX8_settle_59 : decode cX8_settle 59 = .ok (.aload_n 0, 1) := by decide +kernel
theorem dX8_settle_60 : decode cX8_settle 60 = .ok (.getfield 27, 3) := by decide +kernel
theorem dX8_settle_63 : decode cX8_settle 63 = .ok (.sipush 600, 3) := by decide +kernel
theorem dX8_settle_66 : decode cX8_settle 66 = .ok (.if_icmp .le 6, 3) := by decide +kernel
theorem dX8_settle_69 : decode cX8_settle 69 = .ok (.bipush (-6), 2) := by decide +kernel
theorem dX8_settle_71 : decode cX8_settle 71 = .ok (.ireturn, 1) := by decide +kernel
theorem dX8_settle_72 : decode cX8_settle 72 = .ok (.aload_n 1, 1) := by decide +kernel
theorem dX8_settle_73 : decode cX8_settle 73 = .ok (.aload_n 0, 1) := by decide +kernel
theorem dX8_settle_74 : decode cX8_settle 74 = .ok (.getfield 23, 3) := by decide +kernel
theorem dX8_settle_77 : decode cX8_settle 77 = .ok (.invokevirtual 58, 3) := by decide +kernel
theorem dX8_settle_80 : decode cX8_settle 80 = .ok (.aload_n 0, 1) := by decide +kernel
theorem dX8_settle_81 : decode cX8_settle 81 = .ok (.getfield 27, 3) := by decide +kernel
theorem dX8_settle_84 : decode cX8_settle 84 = .ok (.ireturn, 1) := by decide +kernel
theorem dX8_takeOut_0 : decode cX8_takeOut 0 = .ok (.iload_n 1, 1) := by decide +kernel
theorem dX8_takeOut_1 : decode cX8_takeOut 1 = .ok (.bipush 100, 2) := by decide +kernel
theorem dX8_takeOut_3 : decode cX8_takeOut 3 = .ok (.imul, 1) := by decide +kernel
theorem dX8_takeOut_4 : decode cX8_takeOut 4 = .ok (.istore_n 2, 1) := by decide +kernel
theorem dX8_takeOut_5 : decode cX8_takeOut 5 = .ok (.iload_n 2, 1) := by decide +kernel
theorem dX8_takeOut_6 : decode cX8_takeOut 6 = .ok (.bipush 100, 2) := by decide +kernel
theorem dX8_takeOut_8 : decode cX8_takeOut 8 = .ok (.iadd, 1) := by decide +kernel
theorem dX8_takeOut_9 : decode cX8_takeOut 9 = .ok (.iconst 1, 1) := by decide +kernel
theorem dX8_takeOut_10 : decode cX8_takeOut 10 = .ok (.isub, 1) := by decide +kernel
theorem dX8_takeOut_11 : decode cX8_takeOut 11 = .ok (.ldc 35, 2) := by decide +kernel
theorem dX8_takeOut_13 : decode cX8_takeOut 13 = .ok (.invokestatic 62, 3) := by decide +kernel
theorem dX8_takeOut_16 : decode cX8_takeOut 16 = .ok (.istore_n 3, 1) := by decide +kernel
theorem dX8_takeOut_17 : decode cX8_takeOut 17 = .ok (.iload_n 3, 1) := by decide +kernel
theorem dX8_takeOut_18 : decode cX8_takeOut 18 = .ok (.iload_n 2, 1) := by decide +kernel
theorem dX8_takeOut_19 : decode cX8_takeOut 19 = .ok (.if_icmp .lt 70, 3) := by decide +kernel
theorem dX8_takeOut_22 : decode cX8_takeOut 22 = .ok (.aload_n 0, 1) := by decide +kernel
theorem dX8_takeOut_23 : decode cX8_takeOut 23 = .ok (.getfield 10, 3) := by decide +kernel
theorem dX8_takeOut_26 : decode cX8_takeOut 26 = .ok (.iload_n 3, 1) := by decide +kernel
theorem dX8_takeOut_27 : decode cX8_takeOut 27 = .ok (.laload, 1) := by decide +kernel
theorem dX8_takeOut_28 : decode cX8_takeOut 28 = .ok (.lconst 0, 1) := by decide +kernel
theorem dX8_takeOut_29 : decode cX8_takeOut 29 = .ok (.lcmp, 1) := by decide +kernel
theorem dX8_takeOut_30 : decode cX8_takeOut 30 = .ok (.ifCond .eq 53, 3) := by decide +kernel
theorem dX8_takeOut_33 : decode cX8_takeOut 33 = .ok (.aload_n 0, 1) := by decide +kernel
theorem dX8_takeOut_34 : decode cX8_takeOut 34 = .ok (.dup, 1) := by decide +kernel
theorem dX8_takeOut_35 : decode cX8_takeOut 35 = .ok (.getfield 31, 3) := by decide +kernel
theorem dX8_takeOut_38 : decode cX8_takeOut 38 = .ok (.aload_n 0, 1) := by decide +kernel
theorem dX8_takeOut_39 : decode cX8_takeOut 39 = .ok (.getfield 10, 3) := by decide +kernel
theorem dX8_takeOut_42 : decode cX8_takeOut 42 = .ok (.iload_n 3, 1) := by decide +kernel
theorem dX8_takeOut_43 : decode cX8_takeOut 43 = .ok (.laload, 1) := by decide +kernel
theorem dX8_takeOut_44 : decode cX8_takeOut 44 = .ok (.invokestatic 68, 3) := by decide +kernel
theorem dX8_takeOut_47 : decode cX8_takeOut 47 = .ok (.ior, 1) := by decide +kernel
theorem dX8_takeOut_48 : decode cX8_takeOut 48 = .ok (.putfield 31, 3) := by decide +kernel
theorem dX8_takeOut_51 : decode cX8_takeOut 51 = .ok (.aload_n 0, 1) := by decide +kernel
theorem dX8_takeOut_52 : decode cX8_takeOut 52 = .ok (.getfield 23, 3) := by decide +kernel
theorem dX8_takeOut_55 : decode cX8_takeOut 55 = .ok (.iload_n 3, 1) := by decide +kernel
theorem dX8_takeOut_56 : decode cX8_takeOut 56 = .ok (.aload_n 0, 1) := by decide +kernel
theorem dX8_takeOut_57 : decode cX8_takeOut 57 = .ok (.getfield 10, 3) := by decide +kernel
theorem dX8_takeOut_60 : decode cX8_takeOut 60 = .ok (.iload_n 3, 1) := by decide +kernel
theorem dX8_takeOut_61 : decode cX8_takeOut 61 = .ok (.laload, 1) := by decide +kernel
theorem dX8_takeOut_62 : decode cX8_takeOut 62 = .ok (.l2i, 1) := by decide +kernel
theorem dX8_takeOut_63 : decode cX8_takeOut 63 = .ok (.invokevirtual 72, 3) := by decide +kernel
theorem dX8_takeOut_66 : decode cX8_takeOut 66 = .ok (.aload_n 0, 1) := by decide +kernel
theorem dX8_takeOut_67 : decode cX8_takeOut 67 = .ok (.dup, 1) := by decide +kernel
theorem dX8_takeOut_68 : decode cX8_takeOut 68 = .ok (.getfield 27, 3) := by decide +kernel
theorem dX8_takeOut_71 : decode cX8_takeOut 71 = .ok (.iconst 1, 1) := by decide +kernel
theorem dX8_takeOut_72 : decode cX8_takeOut 72 = .ok (.iadd, 1) := by decide +kernel
theorem dX8_takeOut_73 : decode cX8_takeOut 73 = .ok (.putfield 27, 3) := by decide +kernel
theorem dX8_takeOut_76 : decode cX8_takeOut 76 = .ok (.aload_n 0, 1) := by decide +kernel
theorem dX8_takeOut_77 : decode cX8_takeOut 77 = .ok (.getfield 10, 3) := by decide +kernel
theorem dX8_takeOut_80 : decode cX8_takeOut 80 = .ok (.iload_n 3, 1) := by decide +kernel
theorem dX8_takeOut_81 : decode cX8_takeOut 81 = .ok (.lconst 0, 1) := by decide +kernel
theorem dX8_takeOut_82 : decode cX8_takeOut 82 = .ok (.lastore, 1) := by decide +kernel
theorem dX8_takeOut_83 : decode cX8_takeOut 83 = .ok (.iinc 3 (-1), 3) := by decide +kernel
theorem dX8_takeOut_86 : decode cX8_takeOut 86 = .ok (.goto (-69), 3) := by decide +kernel
theorem dX8_takeOut_89 : decode cX8_takeOut 89 = .ok (.aload_n 0, 1) := by decide +kernel
theorem dX8_takeOut_90 : decode cX8_takeOut 90 = .ok (.getfield 16, 3) := by decide +kernel
theorem dX8_takeOut_93 : decode cX8_takeOut 93 = .ok (.iload_n 1, 1) := by decide +kernel
theorem dX8_takeOut_94 : decode cX8_takeOut 94 = .ok (.iconst 0, 1) := by decide +kernel
theorem dX8_takeOut_95 : decode cX8_takeOut 95 = .ok (.bastore, 1) := by decide +kernel
theorem dX8_takeOut_96 : decode cX8_takeOut 96 = .ok (.return_, 1) := by decide +kernel
theorem dX9_init_0 : decode cX9_init 0 = .ok (.aload_n 0, 1) := by decide +kernel
theorem dX9_init_1 : decode cX9_init 1 = .ok (.invokespecial 3, 3) := by decide +kernel
theorem dX9_init_4 : decode cX9_init 4 = .ok (.aload_n 0, 1) := by decide +kernel
theorem dX9_init_5 : decode cX9_init 5 = .ok (.bipush 8, 2) := by decide +kernel
theorem dX9_init_7 : decode cX9_init 7 = .ok (.anewarray 11, 3) := by decide +kernel
theorem dX9_init_10 : decode cX9_init 10 = .ok (.putfield 13, 3) := by decide +kernel
theorem dX9_init_13 : decode cX9_init 13 = .ok (.aload_n 0, 1) := by decide +kernel
theorem dX9_init_14 : decode cX9_init 14 = .ok (.new 11, 3) := by decide +kernel
theorem dX9_init_17 : decode cX9_init 17 = .ok (.dup, 1) := by decide +kernel
theorem dX9_init_18 : decode cX9_init 18 = .ok (.invokespecial 17, 3) := by decide +kernel
theorem dX9_init_21 : decode cX9_init 21 = .ok (.putfield 18, 3) := by decide +kernel
theorem dX9_init_24 : decode cX9_init 24 = .ok (.aload_n 0, 1) := by decide +kernel
theorem dX9_init_25 : decode cX9_init 25 = .ok (.iconst 2, 1) := by decide +kernel
theorem dX9_init_26 : decode cX9_init 26 = .ok (.putfield 22, 3) := by decide +kernel
theorem dX9_init_29 : decode cX9_init 29 = .ok (.iconst 0, 1) := by decide +kernel
theorem dX9_init_30 : decode cX9_init 30 = .ok (.istore_n 1, 1) := by decide +kernel
theorem dX9_init_31 : decode cX9_init 31 = .ok (.iload_n 1, 1) := by decide +kernel
theorem dX9_init_32 : decode cX9_init 32 = .ok (.bipush 8, 2) := by decide +kernel
theorem dX9_init_34 : decode cX9_init 34 = .ok (.if_icmp .ge 22, 3) := by decide +kernel
theorem dX9_init_37 : decode cX9_init 37 = .ok (.aload_n 0, 1) := by decide +kernel
theorem dX9_init_38 : decode cX9_init 38 = .ok (.getfield 13, 3) := by decide +kernel
theorem dX9_init_41 : decode cX9_init 41 = .ok (.iload_n 1, 1) := by decide +kernel
theorem dX9_init_42 : decode cX9_init 42 = .ok (.new 11, 3) := by decide +kernel
theorem dX9_init_45 : decode cX9_init 45 = .ok (.dup, 1) := by decide +kernel
theorem dX9_init_46 : decode cX9_init 46 = .ok (.invokespecial 17, 3) := by decide +kernel
theorem dX9_init_49 : decode cX9_init 49 = .ok (.aastore, 1) := by decide +kernel
theorem dX9_init_50 : decode cX9_init 50 = .ok (.iinc 1 1, 3) := by decide +kernel
theorem dX9_init_53 : decode cX9_init 53 = .ok (.goto (-22), 3) := by decide +kernel
theorem dX9_init_56 : decode cX9_init 56 = .ok (.return_, 1) := by decide +kernel
theorem dX9_isRod_0 : decode cX9_isRod 0 = .ok (.iload_n 0, 1) := by decide +kernel
theorem dX9_isRod_1 : decode cX9_isRod 1 = .ok (.ifCond .lt 13, 3) := by decide +kernel
theorem dX9_isRod_4 : decode cX9_isRod 4 = .ok (.iload_n 0, 1) := by decide +kernel
theorem dX9_isRod_5 : decode cX9_isRod 5 = .ok (.bipush 8, 2) := by decide +kernel
theorem dX9_isRod_7 : decode cX9_isRod 7 = .ok (.if_icmp .ge 7, 3) := by decide +kernel
theorem dX9_isRod_10 : decode cX9_isRod 10 = .ok (.iconst 1, 1) := by decide +kernel
theorem dX9_isRod_11 : decode cX9_isRod 11 = .ok (.goto 4, 3) := by decide +kernel
theorem dX9_isRod_14 : decode cX9_isRod 14 = .ok (.iconst 0, 1) := by decide +kernel
theorem dX9_isRod_15 : decode cX9_isRod 15 = .ok (.ireturn, 1) := by decide +kernel
theorem dX9_areBits_0 : decode cX9_areBits 0 = .ok (.iload_n 0, 1) := by decide +kernel
theorem dX9_areBits_1 : decode cX9_areBits 1 = .ok (.ifCond .lt 14, 3) := by decide +kernel
theorem dX9_areBits_4 : decode cX9_areBits 4 = .ok (.iload_n 0, 1) := by decide +kernel
theorem dX9_areBits_5 : decode cX9_areBits 5 = .ok (.sipush 256, 3) := by decide +kernel
theorem dX9_areBits_8 : decode cX9_areBits 8 = .ok (.if_icmp .ge 7, 3) := by decide +kernel
theorem dX9_areBits_11 : decode cX9_areBits 11 = .ok (.iconst 1, 1) := by decide +kernel
theorem dX9_areBits_12 : decode cX9_areBits 12 = .ok (.goto 4, 3) := by decide +kernel
theorem dX9_areBits_15 : decode cX9_areBits 15 = .ok (.iconst 0, 1) := by decide +kernel
theorem dX9_areBits_16 : decode cX9_areBits 16 = .ok (.ireturn, 1) := by decide +kernel
theorem dX9_figure_0 : decode cX9_figure 0 = .ok (.iload_n 0, 1) := by decide +kernel
theorem dX9_figure_1 : decode cX9_figure 1 = .ok (.iconst 3, 1) := by decide +kernel
theorem dX9_figure_2 : decode cX9_figure 2 = .ok (.iload_n 1, 1) := by decide +kernel
theorem dX9_figure_3 : decode cX9_figure 3 = .ok (.isub, 1) := by decide +kernel
theorem dX9_figure_4 : decode cX9_figure 4 = .ok (.invokestatic 26, 3) := by decide +kernel
theorem dX9_figure_7 : decode cX9_figure 7 = .ok (.ireturn, 1) := by decide +kernel
theorem dX9_order_0 : decode cX9_order 0 = .ok (.aload_n 0, 1) := by decide +kernel
theorem dX9_order_1 : decode cX9_order 1 = .ok (.getfield 22, 3) := by decide +kernel
theorem dX9_order_4 : decode cX9_order 4 = .ok (.ireturn, 1) := by decide +kernel
theorem dX9_isPoint_0 : decode cX9_isPoint 0 = .ok (.iload_n 1, 1) := by decide +kernel
theorem dX9_isPoint_1 : decode cX9_isPoint 1 = .ok (.iconst 1, 1) := by decide +kernel
theorem dX9_isPoint_2 : decode cX9_isPoint 2 = .ok (.if_icmp .lt 13, 3) := by decide +kernel
theorem dX9_isPoint_5 : decode cX9_isPoint 5 = .ok (.iload_n 1, 1) := by decide +kernel
theorem dX9_isPoint_6 : decode cX9_isPoint 6 = .ok (.bipush 10, 2) := by decide +kernel
theorem dX9_isPoint_8 : decode cX9_isPoint 8 = .ok (.iconst 4, 1) := by decide +kernel
theorem dX9_isPoint_9 : decode cX9_isPoint 9 = .ok (.invokestatic 32, 3) := by decide +kernel
theorem dX9_isPoint_12 : decode cX9_isPoint 12 = .ok (.if_icmp .lt 5, 3) := by decide +kernel
theorem dX9_isPoint_15 : decode cX9_isPoint 15 = .ok (.iconst 0, 1) := by decide +kernel
theorem dX9_isPoint_16 : decode cX9_isPoint 16 = .ok (.ireturn, 1) := by decide +kernel
theorem dX9_isPoint_17 : decode cX9_isPoint 17 = .ok (.iconst 0, 1) := by decide +kernel
theorem dX9_isPoint_18 : decode cX9_isPoint 18 = .ok (.istore_n 2, 1) := by decide +kernel
theorem dX9_isPoint_19 : decode cX9_isPoint 19 = .ok (.iload_n 2, 1) := by decide +kernel
theorem dX9_isPoint_20 : decode cX9_isPoint 20 = .ok (.iconst 4, 1) := by decide +kernel
theorem dX9_isPoint_21 : decode cX9_isPoint 21 = .ok (.if_icmp .ge 23, 3) := by decide +kernel
theorem dX9_isPoint_24 : decode cX9_isPoint 24 = .ok (.iload_n 1, 1) := by decide +kernel
theorem dX9_isPoint_25 : decode cX9_isPoint 25 = .ok (.iload_n 2, 1) := by decide +kernel
theorem dX9_isPoint_26 : decode cX9_isPoint 26 = .ok (.invokestatic 35, 3) := by decide +kernel
theorem dX9_isPoint_29 : decode cX9_isPoint 29 = .ok (.aload_n 0, 1) := by decide +kernel
theorem dX9_isPoint_30 : decode cX9_isPoint 30 = .ok (.getfield 22, 3) := by decide +kernel
theorem dX9_isPoint_33 : decode cX9_isPoint 33 = .ok (.if_icmp .lt 5, 3) := by decide +kernel
theorem dX9_isPoint_36 : decode cX9_isPoint 36 = .ok (.iconst 0, 1) := by decide +kernel
theorem dX9_isPoint_37 : decode cX9_isPoint 37 = .ok (.ireturn, 1) := by decide +kernel
theorem dX9_isPoint_38 : decode cX9_isPoint 38 = .ok (.iinc 2 1, 3) := by decide +kernel
theorem dX9_isPoint_41 : decode cX9_isPoint 41 = .ok (.goto (-22), 3) := by decide +kernel
theorem dX9_isPoint_44 : decode cX9_isPoint 44 = .ok (.iconst 1, 1) := by decide +kernel
theorem dX9_isPoint_45 : decode cX9_isPoint 45 = .ok (.ireturn, 1) := by decide +kernel
theorem dX9_change_0 : decode cX9_change 0 = .ok (.aload_n 0, 1) := by decide +kernel
theorem dX9_change_1 : decode cX9_change 1 = .ok (.getfield 22, 3) := by decide +kernel
theorem dX9_change_4 : decode cX9_change 4 = .ok (.istore_n 2, 1) := by decide +kernel
theorem dX9_change_5 : decode cX9_change 5 = .ok (.aload_n 0, 1) := by decide +kernel
theorem dX9_change_6 : decode cX9_change 6 = .ok (.iload_n 1, 1) := by decide +kernel
theorem dX9_change_7 : decode cX9_change 7 = .ok (.putfield 22, 3) := by decide +kernel
theorem dX9_change_10 : decode cX9_change 10 = .ok (.iconst 0, 1) := by decide +kernel
theorem dX9_change_11 : decode cX9_change 11 = .ok (.istore_n 3, 1) := by decide +kernel
theorem dX9_change_12 : decode cX9_change 12 = .ok (.iload_n 3, 1) := by decide +kernel
theorem dX9_change_13 : decode cX9_change 13 = .ok (.bipush 8, 2) := by decide +kernel
theorem dX9_change_15 : decode cX9_change 15 = .ok (.if_icmp .ge 18, 3) := by decide +kernel
theorem dX9_change_18 : decode cX9_change 18 = .ok (.aload_n 0, 1) := by decide +kernel
theorem dX9_change_19 : decode cX9_change 19 = .ok (.getfield 13, 3) := by decide +kernel
theorem dX9_change_22 : decode cX9_change 22 = .ok (.iload_n 3, 1) := by decide +kernel
theorem dX9_change_23 : decode cX9_change 23 = .ok (.aaload, 1) := by decide +kernel
theorem dX9_change_24 : decode cX9_change 24 = .ok (.invokevirtual 38, 3) := by decide +kernel
theorem dX9_change_27 : decode cX9_change 27 = .ok (.iinc 3 1, 3) := by decide +kernel
theorem dX9_change_30 : decode cX9_change 30 = .ok (.goto (-18), 3) := by decide +kernel
theorem dX9_change_33 : decode cX9_change 33 = .ok (.iload_n 2, 1) := by decide +kernel
theorem dX9_change_34 : decode cX9_change 34 = .ok (.ireturn, 1) := by decide +kernel
theorem dX9_lay_0 : decode cX9_lay 0 = .ok (.iload_n 1, 1) := by decide +kernel
theorem dX9_lay_1 : decode cX9_lay 1 = .ok (.invokestatic 41, 3) := by decide +kernel
theorem dX9_lay_4 : decode cX9_lay 4 = .ok (.ifCond .eq 19, 3) := by decide +kernel
theorem dX9_lay_7 : decode cX9_lay 7 = .ok (.aload_n 0, 1) := by decide +kernel
theorem dX9_lay_8 : decode cX9_lay 8 = .ok (.getfield 18, 3) := by decide +kernel
theorem dX9_lay_11 : decode cX9_lay 11 = .ok (.iload_n 2, 1) := by decide +kernel
theorem dX9_lay_12 : decode cX9_lay 12 = .ok (.iload_n 3, 1) := by decide +kernel
theorem dX9_lay_13 : decode cX9_lay 13 = .ok (.aload_n 0, 1) := by decide +kernel
theorem dX9_lay_14 : decode cX9_lay 14 = .ok (.getfield 22, 3) := by decide +kernel
theorem dX9_lay_17 : decode cX9_lay 17 = .ok (.invokevirtual 45, 3) := by decide +kernel
theorem dX9_lay_20 : decode cX9_lay 20 = .ok (.ifCond .ne 5, 3) := by decide +kernel
theorem dX9_lay_23 : decode cX9_lay 23 = .ok (.iconst 0, 1) := by decide +kernel
theorem dX9_lay_24 : decode cX9_lay 24 = .ok (.ireturn, 1) := by decide +kernel
theorem dX9_lay_25 : decode cX9_lay 25 = .ok (.aload_n 0, 1) := by decide +kernel
theorem dX9_lay_26 : decode cX9_lay 26 = .ok (.getfield 13, 3) := by decide +kernel
theorem dX9_lay_29 : decode cX9_lay 29 = .ok (.iload_n 1, 1) := by decide +kernel
theorem dX9_lay_30 : decode cX9_lay 30 = .ok (.aaload, 1) := by decide +kernel
theorem dX9_lay_31 : decode cX9_lay 31 = .ok (.aload_n 0, 1) := by decide +kernel
theorem dX9_lay_32 : decode cX9_lay 32 = .ok (.getfield 18, 3) := by decide +kernel
theorem dX9_lay_35 : decode cX9_lay 35 = .ok (.invokevirtual 49, 3) := by decide +kernel
theorem dX9_lay_38 : decode cX9_lay 38 = .ok (.iconst 1, 1) := by decide +kernel
theorem dX9_lay_39 : decode cX9_lay 39 = .ok (.ireturn, 1) := by decide +kernel
theorem dX9_remove_0 : decode cX9_remove 0 = .ok (.iload_n 1, 1) := by decide +kernel
theorem dX9_remove_1 : decode cX9_remove 1 = .ok (.invokestatic 41, 3) := by decide +kernel
theorem dX9_remove_4 : decode cX9_remove 4 = .ok (.ifCond .eq 15, 3) := by decide +kernel
theorem dX9_remove_7 : decode cX9_remove 7 = .ok (.aload_n 0, 1) := by decide +kernel
theorem dX9_remove_8 : decode cX9_remove 8 = .ok (.getfield 13, 3) := by decide +kernel
theorem dX9_remove_11 : decode cX9_remove 11 = .ok (.iload_n 1, 1) := by decide +kernel
theorem dX9_remove_12 : decode cX9_remove 12 = .ok (.aaload, 1) := by decide +kernel
theorem dX9_remove_13 : decode cX9_remove 13 = .ok (.invokevirtual 53, 3) := by decide +kernel
theorem dX9_remove_16 : decode cX9_remove 16 = .ok (.ifCond .ne 5, 3) := by decide +kernel
theorem dX9_remove_19 : decode cX9_remove 19 = .ok (.iconst 0, 1) := by decide +kernel
theorem dX9_remove_20 : decode cX9_remove 20 = .ok (.ireturn, 1) := by decide +kernel
theorem dX9_remove_21 : decode cX9_remove 21 = .ok (.aload_n 0, 1) := by decide +kernel
theorem dX9_remove_22 : decode cX9_remove 22 = .ok (.getfield 13, 3) := by decide +kernel
theorem dX9_remove_25 : decode cX9_remove 25 = .ok (.iload_n 1, 1) := by decide +kernel
theorem dX9_remove_26 : decode cX9_remove 26 = .ok (.aaload, 1) := by decide +kernel
theorem dX9_remove_27 : decode cX9_remove 27 = .ok (.invokevirtual 38, 3) := by decide +kernel
theorem dX9_remove_30 : decode cX9_remove 30 = .ok (.iconst 1, 1) := by decide +kernel
theorem dX9_remove_31 : decode cX9_remove 31 = .ok (.ireturn, 1) := by decide +kernel
theorem dX9_howMet_0 : decode cX9_howMet 0 = .ok (.iload_n 1, 1) := by decide +kernel
theorem dX9_howMet_1 : decode cX9_howMet 1 = .ok (.invokestatic 41, 3) := by decide +kernel
theorem dX9_howMet_4 : decode cX9_howMet 4 = .ok (.ifCond .eq 34, 3) := by decide +kernel
theorem dX9_howMet_7 : decode cX9_howMet 7 = .ok (.iload_n 2, 1) := by decide +kernel
theorem dX9_howMet_8 : decode cX9_howMet 8 = .ok (.invokestatic 41, 3) := by decide +kernel
theorem dX9_howMet_11 : decode cX9_howMet 11 = .ok (.ifCond .eq 27, 3) := by decide +kernel
theorem dX9_howMet_14 : decode cX9_howMet 14 = .ok (.aload_n 0, 1) := by decide +kernel
theorem dX9_howMet_15 : decode cX9_howMet 15 = .ok (.getfield 13, 3) := by decide +kernel
theorem dX9_howMet_18 : decode cX9_howMet 18 = .ok (.iload_n 1, 1) := by decide +kernel
theorem dX9_howMet_19 : decode cX9_howMet 19 = .ok (.aaload, 1) := by decide +kernel
theorem dX9_howMet_20 : decode cX9_howMet 20 = .ok (.invokevirtual 53, 3) := by decide +kernel
theorem dX9_howMet_23 : decode cX9_howMet 23 = .ok (.ifCond .eq 15, 3) := by decide +kernel
theorem dX9_howMet_26 : decode cX9_howMet 26 = .ok (.aload_n 0, 1) := by decide +kernel
theorem dX9_howMet_27 : decode cX9_howMet 27 = .ok (.getfield 13, 3) := by decide +kernel
theorem dX9_howMet_30 : decode cX9_howMet 30 = .ok (.iload_n 2, 1) := by decide +kernel
theorem dX9_howMet_31 : decode cX9_howMet 31 = .ok (.aaload, 1) := by decide +kernel
theorem dX9_howMet_32 : decode cX9_howMet 32 = .ok (.invokevirtual 53, 3) := by decide +kernel
theorem dX9_howMet_35 : decode cX9_howMet 35 = .ok (.ifCond .ne 6, 3) := by decide +kernel
theorem dX9_howMet_38 : decode cX9_howMet 38 = .ok (.bipush (-3), 2) := by decide +kernel
theorem dX9_howMet_40 : decode cX9_howMet 40 = .ok (.ireturn, 1) := by decide +kernel
theorem dX9_howMet_41 : decode cX9_howMet 41 = .ok (.aload_n 0, 1) := by decide +kernel
theorem dX9_howMet_42 : decode cX9_howMet 42 = .ok (.getfield 13, 3) := by decide +kernel
theorem dX9_howMet_45 : decode cX9_howMet 45 = .ok (.iload_n 1, 1) := by decide +kernel
theorem dX9_howMet_46 : decode cX9_howMet 46 = .ok (.aaload, 1) := by decide +kernel
theorem dX9_howMet_47 : decode cX9_howMet 47 = .ok (.aload_n 0, 1) := by decide +kernel
theorem dX9_howMet_48 : decode cX9_howMet 48 = .ok (.getfield 13, 3) := by decide +kernel
theorem dX9_howMet_51 : decode cX9_howMet 51 = .ok (.iload_n 2, 1) := by decide +kernel
theorem dX9_howMet_52 : decode cX9_howMet 52 = .ok (.aaload, 1) := by decide +kernel
theorem dX9_howMet_53 : decode cX9_howMet 53 = .ok (.invokevirtual 57, 3) := by decide +kernel
theorem dX9_howMet_56 : decode cX9_howMet 56 = .ok (.ifCond .eq 5, 3) := by decide +kernel
theorem dX9_howMet_59 : decode cX9_howMet 59 = .ok (.iconst 2, 1) := by decide +kernel
theorem dX9_howMet_60 : decode cX9_howMet 60 = .ok (.ireturn, 1) := by decide +kernel
theorem dX9_howMet_61 : decode cX9_howMet 61 = .ok (.aload_n 0, 1) := by decide +kernel
theorem dX9_howMet_62 : decode cX9_howMet 62 = .ok (.getfield 13, 3) := by decide +kernel
theorem dX9_howMet_65 : decode cX9_howMet 65 = .ok (.iload_n 1, 1) := by decide +kernel
theorem dX9_howMet_66 : decode cX9_howMet 66 = .ok (.aaload, 1) := by decide +kernel
theorem dX9_howMet_67 : decode cX9_howMet 67 = .ok (.aload_n 0, 1) := by decide +kernel
theorem dX9_howMet_68 : decode cX9_howMet 68 = .ok (.getfield 13, 3) := by decide +kernel
theorem dX9_howMet_71 : decode cX9_howMet 71 = .ok (.iload_n 2, 1) := by decide +kernel
theorem dX9_howMet_72 : decode cX9_howMet 72 = .ok (.aaload, 1) := by decide +kernel
theorem dX9_howMet_73 : decode cX9_howMet 73 = .ok (.aload_n 0, 1) := by decide +kernel
theorem dX9_howMet_74 : decode cX9_howMet 74 = .ok (.getfield 22, 3) := by decide +kernel
theorem dX9_howMet_77 : decode cX9_howMet 77 = .ok (.invokevirtual 61, 3) := by decide +kernel
theorem dX9_howMet_80 : decode cX9_howMet 80 = .ok (.ifCond .eq 7, 3) := by decide +kernel
theorem dX9_howMet_83 : decode cX9_howMet 83 = .ok (.iconst 1, 1) := by decide +kernel
theorem dX9_howMet_84 : decode cX9_howMet 84 = .ok (.goto 4, 3) := by decide +kernel
theorem dX9_howMet_87 : decode cX9_howMet 87 = .ok (.iconst 0, 1) := by decide +kernel
theorem dX9_howMet_88 : decode cX9_howMet 88 = .ok (.ireturn, 1) := by decide +kernel
theorem dX9_rodsThere_0 : decode cX9_rodsThere 0 = .ok (.iconst 0, 1) := by decide +kernel
theorem dX9_rodsThere_1 : decode cX9_rodsThere 1 = .ok (.istore_n 1, 1) := by decide +kernel
theorem dX9_rodsThere_2 : decode cX9_rodsThere 2 = .ok (.iconst 0, 1) := by decide +kernel
theorem dX9_rodsThere_3 : decode cX9_rodsThere 3 = .ok (.istore_n 2, 1) := by decide +kernel
theorem dX9_rodsThere_4 : decode cX9_rodsThere 4 = .ok (.iload_n 2, 1) := by decide +kernel
theorem dX9_rodsThere_5 : decode cX9_rodsThere 5 = .ok (.bipush 8, 2) := by decide +kernel
theorem dX9_rodsThere_7 : decode cX9_rodsThere 7 = .ok (.if_icmp .ge 29, 3) := by decide +kernel
theorem dX9_rodsThere_10 : decode cX9_rodsThere 10 = .ok (.iload_n 1, 1) := by decide +kernel
theorem dX9_rodsThere_11 : decode cX9_rodsThere 11 = .ok (.aload_n 0, 1) := by decide +kernel
theorem dX9_rodsThere_12 : decode cX9_rodsThere 12 = .ok (.getfield 13, 3) := by decide +kernel
theorem dX9_rodsThere_15 : decode cX9_rodsThere 15 = .ok (.iload_n 2, 1) := by decide +kernel
theorem dX9_rodsThere_16 : decode cX9_rodsThere 16 = .ok (.aaload, 1) := by decide +kernel
theorem dX9_rodsThere_17 : decode cX9_rodsThere 17 = .ok (.invokevirtual 53, 3) := by decide +kernel
theorem dX9_rodsThere_20 : decode cX9_rodsThere 20 = .ok (.ifCond .eq 7, 3) := by decide +kernel
theorem dX9_rodsThere_23 : decode cX9_rodsThere 23 = .ok (.iconst 1, 1) := by decide +kernel
theorem dX9_rodsThere_24 : decode cX9_rodsThere 24 = .ok (.goto 4, 3) := by decide +kernel
theorem dX9_rodsThere_27 : decode cX9_rodsThere 27 = .ok (.iconst 0, 1) := by decide +kernel
theorem dX9_rodsThere_28 : decode cX9_rodsThere 28 = .ok (.iadd, 1) := by decide +kernel
theorem dX9_rodsThere_29 : decode cX9_rodsThere 29 = .ok (.istore_n 1, 1) := by decide +kernel
theorem dX9_rodsThere_30 : decode cX9_rodsThere 30 = .ok (.iinc 2 1, 3) := by decide +kernel
theorem dX9_rodsThere_33 : decode cX9_rodsThere 33 = .ok (.goto (-29), 3) := by decide +kernel
theorem dX9_rodsThere_36 : decode cX9_rodsThere 36 = .ok (.iload_n 1, 1) := by decide +kernel
theorem dX9_rodsThere_37 : decode cX9_rodsThere 37 = .ok (.ireturn, 1) := by decide +kernel
theorem dX9_areThere_0 : decode cX9_areThere 0 = .ok (.iconst 0, 1) := by decide +kernel
theorem dX9_areThere_1 : decode cX9_areThere 1 = .ok (.istore_n 2, 1) := by decide +kernel
theorem dX9_areThere_2 : decode cX9_areThere 2 = .ok (.iload_n 2, 1) := by decide +kernel
theorem dX9_areThere_3 : decode cX9_areThere 3 = .ok (.bipush 8, 2) := by decide +kernel
theorem dX9_areThere_5 : decode cX9_areThere 5 = .ok (.if_icmp .ge 31, 3) := by decide +kernel
theorem dX9_areThere_8 : decode cX9_areThere 8 = .ok (.iload_n 1, 1) := by decide +kernel
theorem dX9_areThere_9 : decode cX9_areThere 9 = .ok (.iload_n 2, 1) := by decide +kernel
theorem dX9_areThere_10 : decode cX9_areThere 10 = .ok (.invokestatic 65, 3) := by decide +kernel
theorem dX9_areThere_13 : decode cX9_areThere 13 = .ok (.ifCond .eq 17, 3) := by decide +kernel
theorem dX9_areThere_16 : decode cX9_areThere 16 = .ok (.aload_n 0, 1) := by decide +kernel
theorem dX9_areThere_17 : decode cX9_areThere 17 = .ok (.getfield 13, 3) := by decide +kernel
theorem dX9_areThere_20 : decode cX9_areThere 20 = .ok (.iload_n 2, 1) := by decide +kernel
theorem dX9_areThere_21 : decode cX9_areThere 21 = .ok (.aaload, 1) := by decide +kernel
theorem dX9_areThere_22 : decode cX9_areThere 22 = .ok (.invokevirtual 53, 3) := by decide +kernel
theorem dX9_areThere_25 : decode cX9_areThere 25 = .ok (.ifCond .ne 5, 3) := by decide +kernel
theorem dX9_areThere_28 : decode cX9_areThere 28 = .ok (.iconst 0, 1) := by decide +kernel
theorem dX9_areThere_29 : decode cX9_areThere 29 = .ok (.ireturn, 1) := by decide +kernel
theorem dX9_areThere_30 : decode cX9_areThere 30 = .ok (.iinc 2 1, 3) := by decide +kernel
theorem dX9_areThere_33 : decode cX9_areThere 33 = .ok (.goto (-31), 3) := by decide +kernel
theorem dX9_areThere_36 : decode cX9_areThere 36 = .ok (.iconst 1, 1) := by decide +kernel
theorem dX9_areThere_37 : decode cX9_areThere 37 = .ok (.ireturn, 1) := by decide +kernel
theorem dX9_isTold_0 : decode cX9_isTold 0 = .ok (.iload_n 0, 1) := by decide +kernel
theorem dX9_isTold_1 : decode cX9_isTold 1 = .ok (.iload_n 1, 1) := by decide +kernel
theorem dX9_isTold_2 : decode cX9_isTold 2 = .ok (.ishr, 1) := by decide +kernel
theorem dX9_isTold_3 : decode cX9_isTold 3 = .ok (.iconst 1, 1) := by decide +kernel
theorem dX9_isTold_4 : decode cX9_isTold 4 = .ok (.iand, 1) := by decide +kernel
theorem dX9_isTold_5 : decode cX9_isTold 5 = .ok (.iconst 1, 1) := by decide +kernel
theorem dX9_isTold_6 : decode cX9_isTold 6 = .ok (.if_icmp .ne 7, 3) := by decide +kernel
theorem dX9_isTold_9 : decode cX9_isTold 9 = .ok (.iconst 1, 1) := by decide +kernel
theorem dX9_isTold_10 : decode cX9_isTold 10 = .ok (.goto 4, 3) := by decide +kernel
theorem dX9_isTold_13 : decode cX9_isTold 13 = .ok (.iconst 0, 1) := by decide +kernel
theorem dX9_isTold_14 : decode cX9_isTold 14 = .ok (.ireturn, 1) := by decide +kernel
theorem dX9_linesMeeting_0 : decode cX9_linesMeeting 0 = .ok (.iconst 0, 1) := by decide +kernel
theorem dX9_linesMeeting_1 : decode cX9_linesMeeting 1 = .ok (.istore_n 2, 1) := by decide +kernel
theorem dX9_linesMeeting_2 : decode cX9_linesMeeting 2 = .ok (.iconst 0, 1) := by decide +kernel
theorem dX9_linesMeeting_3 : decode cX9_linesMeeting 3 = .ok (.istore_n 3, 1) := by decide +kernel
theorem dX9_linesMeeting_4 : decode cX9_linesMeeting 4 = .ok (.iload_n 3, 1) := by decide +kernel
theorem dX9_linesMeeting_5 : decode cX9_linesMeeting 5 = .ok (.iconst 3, 1) := by decide +kernel
theorem dX9_linesMeeting_6 : decode cX9_linesMeeting 6 = .ok (.if_icmp .ge 37, 3) := by decide +kernel
theorem dX9_linesMeeting_9 : decode cX9_linesMeeting 9 = .ok (.iload_n 3, 1) := by decide +kernel
theorem dX9_linesMeeting_10 : decode cX9_linesMeeting 10 = .ok (.iconst 1, 1) := by decide +kernel
theorem dX9_linesMeeting_11 : decode cX9_linesMeeting 11 = .ok (.iadd, 1) := by decide +kernel
theorem dX9_linesMeeting_12 : decode cX9_linesMeeting 12 = .ok (.istore 4, 2) := by decide +kernel
theorem dX9_linesMeeting_14 : decode cX9_linesMeeting 14 = .ok (.iload 4, 2) := by decide +kernel
theorem dX9_linesMeeting_16 : decode cX9_linesMeeting 16 = .ok (.iconst 4, 1) := by decide +kernel
theorem dX9_linesMeeting_17 : decode cX9_linesMeeting 17 = .ok (.if_icmp .ge 20, 3) := by decide +kernel
theorem dX9_linesMeeting_20 : decode cX9_linesMeeting 20 = .ok (.iload_n 2, 1) := by decide +kernel
theorem dX9_linesMeeting_21 : decode cX9_linesMeeting 21 = .ok (.aload_n 0, 1) := by decide +kernel
theorem dX9_linesMeeting_22 : decode cX9_linesMeeting 22 = .ok (.iload_n 3, 1) := by decide +kernel
theorem dX9_linesMeeting_23 : decode cX9_linesMeeting 23 = .ok (.iload 4, 2) := by decide +kernel
theorem dX9_linesMeeting_25 : decode cX9_linesMeeting 25 = .ok (.iload_n 1, 1) := by decide +kernel
theorem dX9_linesMeeting_26 : decode cX9_linesMeeting 26 = .ok (.invokevirtual 69, 3) := by decide +kernel
theorem dX9_linesMeeting_29 : decode cX9_linesMeeting 29 = .ok (.iadd, 1) := by decide +kernel
theorem dX9_linesMeeting_30 : decode cX9_linesMeeting 30 = .ok (.istore_n 2, 1) := by decide +kernel
theorem dX9_linesMeeting_31 : decode cX9_linesMeeting 31 = .ok (.iinc 4 1, 3) := by decide +kernel
theorem dX9_linesMeeting_34 : decode cX9_linesMeeting 34 = .ok (.goto (-20), 3) := by decide +kernel
theorem dX9_linesMeeting_37 : decode cX9_linesMeeting 37 = .ok (.iinc 3 1, 3) := by decide +kernel
theorem dX9_linesMeeting_40 : decode cX9_linesMeeting 40 = .ok (.goto (-36), 3) := by decide +kernel
theorem dX9_linesMeeting_43 : decode cX9_linesMeeting 43 = .ok (.iload_n 2, 1) := by decide +kernel
theorem dX9_linesMeeting_44 : decode cX9_linesMeeting 44 = .ok (.ireturn, 1) := by decide +kernel
theorem dX9_linesFrom_0 : decode cX9_linesFrom 0 = .ok (.iconst 0, 1) := by decide +kernel
theorem dX9_linesFrom_1 : decode cX9_linesFrom 1 = .ok (.istore 4, 2) := by decide +kernel
theorem dX9_linesFrom_3 : decode cX9_linesFrom 3 = .ok (.aload_n 0, 1) := by decide +kernel
theorem dX9_linesFrom_4 : decode cX9_linesFrom 4 = .ok (.getfield 22, 3) := by decide +kernel
theorem dX9_linesFrom_7 : decode cX9_linesFrom 7 = .ok (.iconst 2, 1) := by decide +kernel
theorem dX9_linesFrom_8 : decode cX9_linesFrom 8 = .ok (.iload_n 1, 1) := by decide +kernel
theorem dX9_linesFrom_9 : decode cX9_linesFrom 9 = .ok (.isub, 1) := by decide +kernel
theorem dX9_linesFrom_10 : decode cX9_linesFrom 10 = .ok (.invokestatic 32, 3) := by decide +kernel
theorem dX9_linesFrom_13 : decode cX9_linesFrom 13 = .ok (.istore 5, 2) := by decide +kernel
theorem dX9_linesFrom_15 : decode cX9_linesFrom 15 = .ok (.aload_n 0, 1) := by decide +kernel
theorem dX9_linesFrom_16 : decode cX9_linesFrom 16 = .ok (.getfield 22, 3) := by decide +kernel
theorem dX9_linesFrom_19 : decode cX9_linesFrom 19 = .ok (.iconst 3, 1) := by decide +kernel
theorem dX9_linesFrom_20 : decode cX9_linesFrom 20 = .ok (.iload_n 2, 1) := by decide +kernel
theorem dX9_linesFrom_21 : decode cX9_linesFrom 21 = .ok (.isub, 1) := by decide +kernel
theorem dX9_linesFrom_22 : decode cX9_linesFrom 22 = .ok (.invokestatic 32, 3) := by decide +kernel
theorem dX9_linesFrom_25 : decode cX9_linesFrom 25 = .ok (.istore 6, 2) := by decide +kernel
theorem dX9_linesFrom_27 : decode cX9_linesFrom 27 = .ok (.iconst 0, 1) := by decide +kernel
theorem dX9_linesFrom_28 : decode cX9_linesFrom 28 = .ok (.istore 7, 2) := by decide +kernel
theorem dX9_linesFrom_30 : decode cX9_linesFrom 30 = .ok (.iload 7, 2) := by decide +kernel
theorem dX9_linesFrom_32 : decode cX9_linesFrom 32 = .ok (.iload 5, 2) := by decide +kernel
theorem dX9_linesFrom_34 : decode cX9_linesFrom 34 = .ok (.if_icmp .ge 64, 3) := by decide +kernel
theorem dX9_linesFrom_37 : decode cX9_linesFrom 37 = .ok (.iconst 0, 1) := by decide +kernel
theorem dX9_linesFrom_38 : decode cX9_linesFrom 38 = .ok (.istore 8, 2) := by decide +kernel
theorem dX9_linesFrom_40 : decode cX9_linesFrom 40 = .ok (.iload 8, 2) := by decide +kernel
theorem dX9_linesFrom_42 : decode cX9_linesFrom 42 = .ok (.iload 6, 2) := by decide +kernel
theorem dX9_linesFrom_44 : decode cX9_linesFrom 44 = .ok (.if_icmp .ge 48, 3) := by decide +kernel
theorem dX9_linesFrom_47 : decode cX9_linesFrom 47 = .ok (.aload_n 0, 1) := by decide +kernel
theorem dX9_linesFrom_48 : decode cX9_linesFrom 48 = .ok (.getfield 18, 3) := by decide +kernel
theorem dX9_linesFrom_51 : decode cX9_linesFrom 51 = .ok (.aload_n 0, 1) := by decide +kernel
theorem dX9_linesFrom_52 : decode cX9_linesFrom 52 = .ok (.iload_n 1, 1) := by decide +kernel
theorem dX9_linesFrom_53 : decode cX9_linesFrom 53 = .ok (.iload_n 2, 1) := by decide +kernel
theorem dX9_linesFrom_54 : decode cX9_linesFrom 54 = .ok (.iload 7, 2) := by decide +kernel
theorem dX9_linesFrom_56 : decode cX9_linesFrom 56 = .ok (.invokevirtual 73, 3) := by decide +kernel
theorem dX9_linesFrom_59 : decode cX9_linesFrom 59 = .ok (.aload_n 0, 1) := by decide +kernel
theorem dX9_linesFrom_60 : decode cX9_linesFrom 60 = .ok (.iload_n 2, 1) := by decide +kernel
theorem dX9_linesFrom_61 : decode cX9_linesFrom 61 = .ok (.iconst (-1), 1) := by decide +kernel
theorem dX9_linesFrom_62 : decode cX9_linesFrom 62 = .ok (.iload 8, 2) := by decide +kernel
theorem dX9_linesFrom_64 : decode cX9_linesFrom 64 = .ok (.invokevirtual 73, 3) := by decide +kernel
theorem dX9_linesFrom_67 : decode cX9_linesFrom 67 = .ok (.aload_n 0, 1) := by decide +kernel
theorem dX9_linesFrom_68 : decode cX9_linesFrom 68 = .ok (.getfield 22, 3) := by decide +kernel
theorem dX9_linesFrom_71 : decode cX9_linesFrom 71 = .ok (.invokevirtual 45, 3) := by decide +kernel
theorem dX9_linesFrom_74 : decode cX9_linesFrom 74 = .ok (.pop, 1) := by decide +kernel
theorem dX9_linesFrom_75 : decode cX9_linesFrom 75 = .ok (.aload_n 0, 1) := by decide +kernel
theorem dX9_linesFrom_76 : decode cX9_linesFrom 76 = .ok (.iload_n 3, 1) := by decide +kernel
theorem dX9_linesFrom_77 : decode cX9_linesFrom 77 = .ok (.invokevirtual 76, 3) := by decide +kernel
theorem dX9_linesFrom_80 : decode cX9_linesFrom 80 = .ok (.ifCond .eq 6, 3) := by decide +kernel
theorem dX9_linesFrom_83 : decode cX9_linesFrom 83 = .ok (.iinc 4 1, 3) := by decide +kernel
theorem dX9_linesFrom_86 : decode cX9_linesFrom 86 = .ok (.iinc 8 1, 3) := by decide +kernel
theorem dX9_linesFrom_89 : decode cX9_linesFrom 89 = .ok (.goto (-49), 3) := by decide +kernel
theorem dX9_linesFrom_92 : decode cX9_linesFrom 92 = .ok (.iinc 7 1, 3) := by decide +kernel
theorem dX9_linesFrom_95 : decode cX9_linesFrom 95 = .ok (.goto (-65), 3) := by decide +kernel
theorem dX9_linesFrom_98 : decode cX9_linesFrom 98 = .ok (.iload 4, 2) := by decide +kernel
theorem dX9_linesFrom_100 : decode cX9_linesFrom 100 = .ok (.ireturn, 1) := by decide +kernel
theorem dX9_crossesAll_0 : decode cX9_crossesAll 0 = .ok (.iconst 0, 1) := by decide +kernel
theorem dX9_crossesAll_1 : decode cX9_crossesAll 1 = .ok (.istore_n 2, 1) := by decide +kernel
theorem dX9_crossesAll_2 : decode cX9_crossesAll 2 = .ok (.iload_n 2, 1) := by decide +kernel
theorem dX9_crossesAll_3 : decode cX9_crossesAll 3 = .ok (.bipush 8, 2) := by decide +kernel
theorem dX9_crossesAll_5 : decode cX9_crossesAll 5 = .ok (.if_icmp .ge 39, 3) := by decide +kernel
theorem dX9_crossesAll_8 : decode cX9_crossesAll 8 = .ok (.iload_n 1, 1) := by decide +kernel
theorem dX9_crossesAll_9 : decode cX9_crossesAll 9 = .ok (.iload_n 2, 1) := by decide +kernel
theorem dX9_crossesAll_10 : decode cX9_crossesAll 10 = .ok (.invokestatic 65, 3) := by decide +kernel
theorem dX9_crossesAll_13 : decode cX9_crossesAll 13 = .ok (.ifCond .eq 25, 3) := by decide +kernel
theorem dX9_crossesAll_16 : decode cX9_crossesAll 16 = .ok (.aload_n 0, 1) := by decide +kernel
theorem dX9_crossesAll_17 : decode cX9_crossesAll 17 = .ok (.getfield 18, 3) := by decide +kernel
theorem dX9_crossesAll_20 : decode cX9_crossesAll 20 = .ok (.aload_n 0, 1) := by decide +kernel
theorem dX9_crossesAll_21 : decode cX9_crossesAll 21 = .ok (.getfield 13, 3) := by decide +kernel
theorem dX9_crossesAll_24 : decode cX9_crossesAll 24 = .ok (.iload_n 2, 1) := by decide +kernel
theorem dX9_crossesAll_25 : decode cX9_crossesAll 25 = .ok (.aaload, 1) := by decide +kernel
theorem dX9_crossesAll_26 : decode cX9_crossesAll 26 = .ok (.aload_n 0, 1) := by decide +kernel
theorem dX9_crossesAll_27 : decode cX9_crossesAll 27 = .ok (.getfield 22, 3) := by decide +kernel
theorem dX9_crossesAll_30 : decode cX9_crossesAll 30 = .ok (.invokevirtual 61, 3) := by decide +kernel
theorem dX9_crossesAll_33 : decode cX9_crossesAll 33 = .ok (.ifCond .ne 5, 3) := by decide +kernel
theorem dX9_crossesAll_36 : decode cX9_crossesAll 36 = .ok (.iconst 0, 1) := by decide +kernel
theorem dX9_crossesAll_37 : decode cX9_crossesAll 37 = .ok (.ireturn, 1) := by decide +kernel
theorem dX9_crossesAll_38 : decode cX9_crossesAll 38 = .ok (.iinc 2 1, 3) := by decide +kernel
theorem dX9_crossesAll_41 : decode cX9_crossesAll 41 = .ok (.goto (-39), 3) := by decide +kernel
theorem dX9_crossesAll_44 : decode cX9_crossesAll 44 = .ok (.iconst 1, 1) := by decide +kernel
theorem dX9_crossesAll_45 : decode cX9_crossesAll 45 = .ok (.ireturn, 1) := by decide +kernel
theorem dX9_pointsOn_0 : decode cX9_pointsOn 0 = .ok (.iconst 0, 1) := by decide +kernel
theorem dX9_pointsOn_1 : decode cX9_pointsOn 1 = .ok (.istore_n 2, 1) := by decide +kernel
theorem dX9_pointsOn_2 : decode cX9_pointsOn 2 = .ok (.iconst 0, 1) := by decide +kernel
theorem dX9_pointsOn_3 : decode cX9_pointsOn 3 = .ok (.istore_n 3, 1) := by decide +kernel
theorem dX9_pointsOn_4 : decode cX9_pointsOn 4 = .ok (.iload_n 3, 1) := by decide +kernel
theorem dX9_pointsOn_5 : decode cX9_pointsOn 5 = .ok (.iconst 4, 1) := by decide +kernel
theorem dX9_pointsOn_6 : decode cX9_pointsOn 6 = .ok (.if_icmp .ge 56, 3) := by decide +kernel
theorem dX9_pointsOn_9 : decode cX9_pointsOn 9 = .ok (.aload_n 0, 1) := by decide +kernel
theorem dX9_pointsOn_10 : decode cX9_pointsOn 10 = .ok (.getfield 22, 3) := by decide +kernel
theorem dX9_pointsOn_13 : decode cX9_pointsOn 13 = .ok (.iconst 3, 1) := by decide +kernel
theorem dX9_pointsOn_14 : decode cX9_pointsOn 14 = .ok (.iload_n 3, 1) := by decide +kernel
theorem dX9_pointsOn_15 : decode cX9_pointsOn 15 = .ok (.isub, 1) := by decide +kernel
theorem dX9_pointsOn_16 : decode cX9_pointsOn 16 = .ok (.invokestatic 32, 3) := by decide +kernel
theorem dX9_pointsOn_19 : decode cX9_pointsOn 19 = .ok (.istore 4, 2) := by decide +kernel
theorem dX9_pointsOn_21 : decode cX9_pointsOn 21 = .ok (.iconst 0, 1) := by decide +kernel
theorem dX9_pointsOn_22 : decode cX9_pointsOn 22 = .ok (.istore 5, 2) := by decide +kernel
theorem dX9_pointsOn_24 : decode cX9_pointsOn 24 = .ok (.iload 5, 2) := by decide +kernel
theorem dX9_pointsOn_26 : decode cX9_pointsOn 26 = .ok (.iload 4, 2) := by decide +kernel
theorem dX9_pointsOn_28 : decode cX9_pointsOn 28 = .ok (.if_icmp .ge 28, 3) := by decide +kernel
theorem dX9_pointsOn_31 : decode cX9_pointsOn 31 = .ok (.aload_n 0, 1) := by decide +kernel
theorem dX9_pointsOn_32 : decode cX9_pointsOn 32 = .ok (.aload_n 0, 1) := by decide +kernel
theorem dX9_pointsOn_33 : decode cX9_pointsOn 33 = .ok (.iload_n 3, 1) := by decide +kernel
theorem dX9_pointsOn_34 : decode cX9_pointsOn 34 = .ok (.iconst (-1), 1) := by decide +kernel
theorem dX9_pointsOn_35 : decode cX9_pointsOn 35 = .ok (.iload 5, 2) := by decide +kernel
theorem dX9_pointsOn_37 : decode cX9_pointsOn 37 = .ok (.invokevirtual 73, 3) := by decide +kernel
theorem dX9_pointsOn_40 : decode cX9_pointsOn 40 = .ok (.iload_n 1, 1) := by decide +kernel
theorem dX9_pointsOn_41 : decode cX9_pointsOn 41 = .ok (.invokevirtual 79, 3) := by decide +kernel
theorem dX9_pointsOn_44 : decode cX9_pointsOn 44 = .ok (.ifCond .eq 6, 3) := by decide +kernel
theorem dX9_pointsOn_47 : decode cX9_pointsOn 47 = .ok (.iinc 2 1, 3) := by decide +kernel
theorem dX9_pointsOn_50 : decode cX9_pointsOn 50 = .ok (.iinc 5 1, 3) := by decide +kernel
theorem dX9_pointsOn_53 : decode cX9_pointsOn 53 = .ok (.goto (-29), 3) := by decide +kernel
theorem dX9_pointsOn_56 : decode cX9_pointsOn 56 = .ok (.iinc 3 1, 3) := by decide +kernel
theorem dX9_pointsOn_59 : decode cX9_pointsOn 59 = .ok (.goto (-55), 3) := by decide +kernel
theorem dX9_pointsOn_62 : decode cX9_pointsOn 62 = .ok (.iload_n 2, 1) := by decide +kernel
theorem dX9_pointsOn_63 : decode cX9_pointsOn 63 = .ok (.ireturn, 1) := by decide +kernel
theorem dX9_isOnOne_0 : decode cX9_isOnOne 0 = .ok (.iconst 0, 1) := by decide +kernel
theorem dX9_isOnOne_1 : decode cX9_isOnOne 1 = .ok (.istore_n 3, 1) := by decide +kernel
theorem dX9_isOnOne_2 : decode cX9_isOnOne 2 = .ok (.iload_n 3, 1) := by decide +kernel
theorem dX9_isOnOne_3 : decode cX9_isOnOne 3 = .ok (.bipush 8, 2) := by decide +kernel
theorem dX9_isOnOne_5 : decode cX9_isOnOne 5 = .ok (.if_icmp .ge 36, 3) := by decide +kernel
theorem dX9_isOnOne_8 : decode cX9_isOnOne 8 = .ok (.iload_n 2, 1) := by decide +kernel
theorem dX9_isOnOne_9 : decode cX9_isOnOne 9 = .ok (.iload_n 3, 1) := by decide +kernel
theorem dX9_isOnOne_10 : decode cX9_isOnOne 10 = .ok (.invokestatic 65, 3) := by decide +kernel
theorem dX9_isOnOne_13 : decode cX9_isOnOne 13 = .ok (.ifCond .eq 22, 3) := by decide +kernel
theorem dX9_isOnOne_16 : decode cX9_isOnOne 16 = .ok (.aload_n 0, 1) := by decide +kernel
theorem dX9_isOnOne_17 : decode cX9_isOnOne 17 = .ok (.getfield 13, 3) := by decide +kernel
theorem dX9_isOnOne_20 : decode cX9_isOnOne 20 = .ok (.iload_n 3, 1) := by decide +kernel
theorem dX9_isOnOne_21 : decode cX9_isOnOne 21 = .ok (.aaload, 1) := by decide +kernel
theorem dX9_isOnOne_22 : decode cX9_isOnOne 22 = .ok (.iload_n 1, 1) := by decide +kernel
theorem dX9_isOnOne_23 : decode cX9_isOnOne 23 = .ok (.aload_n 0, 1) := by decide +kernel
theorem dX9_isOnOne_24 : decode cX9_isOnOne 24 = .ok (.getfield 22, 3) := by decide +kernel
theorem dX9_isOnOne_27 : decode cX9_isOnOne 27 = .ok (.invokevirtual 82, 3) := by decide +kernel
theorem dX9_isOnOne_30 : decode cX9_isOnOne 30 = .ok (.ifCond .eq 5, 3) := by decide +kernel
theorem dX9_isOnOne_33 : decode cX9_isOnOne 33 = .ok (.iconst 1, 1) := by decide +kernel
theorem dX9_isOnOne_34 : decode cX9_isOnOne 34 = .ok (.ireturn, 1) := by decide +kernel
theorem dX9_isOnOne_35 : decode cX9_isOnOne 35 = .ok (.iinc 3 1, 3) := by decide +kernel
theorem dX9_isOnOne_38 : decode cX9_isOnOne 38 = .ok (.goto (-36), 3) := by decide +kernel
theorem dX9_isOnOne_41 : decode cX9_isOnOne 41 = .ok (.iconst 0, 1) := by decide +kernel
theorem dX9_isOnOne_42 : decode cX9_isOnOne 42 = .ok (.ireturn, 1) := by decide +kernel
theorem dX9_pointFrom_0 : decode cX9_pointFrom 0 = .ok (.iconst 0, 1) := by decide +kernel
theorem dX9_pointFrom_1 : decode cX9_pointFrom 1 = .ok (.istore 4, 2) := by decide +kernel
theorem dX9_pointFrom_3 : decode cX9_pointFrom 3 = .ok (.iload_n 3, 1) := by decide +kernel
theorem dX9_pointFrom_4 : decode cX9_pointFrom 4 = .ok (.istore 5, 2) := by decide +kernel
theorem dX9_pointFrom_6 : decode cX9_pointFrom 6 = .ok (.iconst 0, 1) := by decide +kernel
theorem dX9_pointFrom_7 : decode cX9_pointFrom 7 = .ok (.istore 6, 2) := by decide +kernel
theorem dX9_pointFrom_9 : decode cX9_pointFrom 9 = .ok (.iload 6, 2) := by decide +kernel
theorem dX9_pointFrom_11 : decode cX9_pointFrom 11 = .ok (.iconst 4, 1) := by decide +kernel
theorem dX9_pointFrom_12 : decode cX9_pointFrom 12 = .ok (.if_icmp .ge 69, 3) := by decide +kernel
theorem dX9_pointFrom_15 : decode cX9_pointFrom 15 = .ok (.iload 6, 2) := by decide +kernel
theorem dX9_pointFrom_17 : decode cX9_pointFrom 17 = .ok (.iload_n 1, 1) := by decide +kernel
theorem dX9_pointFrom_18 : decode cX9_pointFrom 18 = .ok (.if_icmp .ne 7, 3) := by decide +kernel
theorem dX9_pointFrom_21 : decode cX9_pointFrom 21 = .ok (.iconst 1, 1) := by decide +kernel
theorem dX9_pointFrom_22 : decode cX9_pointFrom 22 = .ok (.goto 4, 3) := by decide +kernel
theorem dX9_pointFrom_25 : decode cX9_pointFrom 25 = .ok (.iconst 0, 1) := by decide +kernel
theorem dX9_pointFrom_26 : decode cX9_pointFrom 26 = .ok (.istore 7, 2) := by decide +kernel
theorem dX9_pointFrom_28 : decode cX9_pointFrom 28 = .ok (.iload 6, 2) := by decide +kernel
theorem dX9_pointFrom_30 : decode cX9_pointFrom 30 = .ok (.iload_n 1, 1) := by decide +kernel
theorem dX9_pointFrom_31 : decode cX9_pointFrom 31 = .ok (.if_icmp .le 34, 3) := by decide +kernel
theorem dX9_pointFrom_34 : decode cX9_pointFrom 34 = .ok (.iload 6, 2) := by decide +kernel
theorem dX9_pointFrom_36 : decode cX9_pointFrom 36 = .ok (.iload_n 2, 1) := by decide +kernel
theorem dX9_pointFrom_37 : decode cX9_pointFrom 37 = .ok (.if_icmp .eq 28, 3) := by decide +kernel
theorem dX9_pointFrom_40 : decode cX9_pointFrom 40 = .ok (.aload_n 0, 1) := by decide +kernel
theorem dX9_pointFrom_41 : decode cX9_pointFrom 41 = .ok (.getfield 22, 3) := by decide +kernel
theorem dX9_pointFrom_44 : decode cX9_pointFrom 44 = .ok (.ifCond .le 21, 3) := by decide +kernel
theorem dX9_pointFrom_47 : decode cX9_pointFrom 47 = .ok (.iload 5, 2) := by decide +kernel
theorem dX9_pointFrom_49 : decode cX9_pointFrom 49 = .ok (.aload_n 0, 1) := by decide +kernel
theorem dX9_pointFrom_50 : decode cX9_pointFrom 50 = .ok (.getfield 22, 3) := by decide +kernel
theorem dX9_pointFrom_53 : decode cX9_pointFrom 53 = .ok (.irem, 1) := by decide +kernel
theorem dX9_pointFrom_54 : decode cX9_pointFrom 54 = .ok (.istore 7, 2) := by decide +kernel
theorem dX9_pointFrom_56 : decode cX9_pointFrom 56 = .ok (.iload 5, 2) := by decide +kernel
theorem dX9_pointFrom_58 : decode cX9_pointFrom 58 = .ok (.aload_n 0, 1) := by decide +kernel
theorem dX9_pointFrom_59 : decode cX9_pointFrom 59 = .ok (.getfield 22, 3) := by decide +kernel
theorem dX9_pointFrom_62 : decode cX9_pointFrom 62 = .ok (.idiv, 1) := by decide +kernel
theorem dX9_pointFrom_63 : decode cX9_pointFrom 63 = .ok (.istore 5, 2) := by decide +kernel
theorem dX9_pointFrom_65 : decode cX9_pointFrom 65 = .ok (.iload 4, 2) := by decide +kernel
theorem dX9_pointFrom_67 : decode cX9_pointFrom 67 = .ok (.bipush 10, 2) := by decide +kernel
theorem dX9_pointFrom_69 : decode cX9_pointFrom 69 = .ok (.imul, 1) := by decide +kernel
theorem dX9_pointFrom_70 : decode cX9_pointFrom 70 = .ok (.iload 7, 2) := by decide +kernel
theorem dX9_pointFrom_72 : decode cX9_pointFrom 72 = .ok (.iadd, 1) := by decide +kernel
theorem dX9_pointFrom_73 : decode cX9_pointFrom 73 = .ok (.istore 4, 2) := by decide +kernel
theorem dX9_pointFrom_75 : decode cX9_pointFrom 75 = .ok (.iinc 6 1, 3) := by decide +kernel
theorem dX9_pointFrom_78 : decode cX9_pointFrom 78 = .ok (.goto (-69), 3) := by decide +kernel
theorem dX9_pointFrom_81 : decode cX9_pointFrom 81 = .ok (.iload 4, 2) := by decide +kernel
theorem dX9_pointFrom_83 : decode cX9_pointFrom 83 = .ok (.ireturn, 1) := by decide +kernel
theorem dX10_init_0 : decode cX10_init 0 = .ok (.aload_n 0, 1) := by decide +kernel
theorem dX10_init_1 : decode cX10_init 1 = .ok (.invokespecial 1, 3) := by decide +kernel
theorem dX10_init_4 : decode cX10_init 4 = .ok (.aload_n 0, 1) := by decide +kernel
theorem dX10_init_5 : decode cX10_init 5 = .ok (.bipush 12, 2) := by decide +kernel
theorem dX10_init_7 : decode cX10_init 7 = .ok (.anewarray 9, 3) := by decide +kernel
theorem dX10_init_10 : decode cX10_init 10 = .ok (.putfield 11, 3) := by decide +kernel
theorem dX10_init_13 : decode cX10_init 13 = .ok (.aload_n 0, 1) := by decide +kernel
theorem dX10_init_14 : decode cX10_init 14 = .ok (.new 15, 3) := by decide +kernel
theorem dX10_init_17 : decode cX10_init 17 = .ok (.dup, 1) := by decide +kernel
theorem dX10_init_18 : decode cX10_init 18 = .ok (.invokespecial 17, 3) := by decide +kernel
theorem dX10_init_21 : decode cX10_init 21 = .ok (.putfield 18, 3) := by decide +kernel
theorem dX10_init_24 : decode cX10_init 24 = .ok (.aload_n 0, 1) := by decide +kernel
theorem dX10_init_25 : decode cX10_init 25 = .ok (.new 22, 3) := by decide +kernel
theorem dX10_init_28 : decode cX10_init 28 = .ok (.dup, 1) := by decide +kernel
theorem dX10_init_29 : decode cX10_init 29 = .ok (.invokespecial 24, 3) := by decide +kernel
theorem dX10_init_32 : decode cX10_init 32 = .ok (.putfield 25, 3) := by decide +kernel
theorem dX10_init_35 : decode cX10_init 35 = .ok (.aload_n 0, 1) := by decide +kernel
theorem dX10_init_36 : decode cX10_init 36 = .ok (.new 29, 3) := by decide +kernel
theorem dX10_init_39 : decode cX10_init 39 = .ok (.dup, 1) := by decide +kernel
theorem dX10_init_40 : decode cX10_init 40 = .ok (.invokespecial 31, 3) := by decide +kernel
theorem dX10_init_43 : decode cX10_init 43 = .ok (.putfield 32, 3) := by decide +kernel
theorem dX10_init_46 : decode cX10_init 46 = .ok (.iconst 0, 1) := by decide +kernel
theorem dX10_init_47 : decode cX10_init 47 = .ok (.istore_n 1, 1) := by decide +kernel
theorem dX10_init_48 : decode cX10_init 48 = .ok (.iload_n 1, 1) := by decide +kernel
theorem dX10_init_49 : decode cX10_init 49 = .ok (.bipush 12, 2) := by decide +kernel
theorem dX10_init_51 : decode cX10_init 51 = .ok (.if_icmp .ge 22, 3) := by decide +kernel
theorem dX10_init_54 : decode cX10_init 54 = .ok (.aload_n 0, 1) := by decide +kernel
theorem dX10_init_55 : decode cX10_init 55 = .ok (.getfield 11, 3) := by decide +kernel
theorem dX10_init_58 : decode cX10_init 58 = .ok (.iload_n 1, 1) := by decide +kernel
theorem dX10_init_59 : decode cX10_init 59 = .ok (.new 9, 3) := by decide +kernel
theorem dX10_init_62 : decode cX10_init 62 = .ok (.dup, 1) := by decide +kernel
theorem dX10_init_63 : decode cX10_init 63 = .ok (.invokespecial 36, 3) := by decide +kernel
theorem dX10_init_66 : decode cX10_init 66 = .ok (.aastore, 1) := by decide +kernel
theorem dX10_init_67 : decode cX10_init 67 = .ok (.iinc 1 1, 3) := by decide +kernel
theorem dX10_init_70 : decode cX10_init 70 = .ok (.goto (-22), 3) := by decide +kernel
theorem dX10_init_73 : decode cX10_init 73 = .ok (.return_, 1) := by decide +kernel
theorem dX10_length_0 : decode cX10_length 0 = .ok (.iload_n 1, 1) := by decide +kernel
theorem dX10_length_1 : decode cX10_length 1 = .ok (.invokestatic 37, 3) := by decide +kernel
theorem dX10_length_4 : decode cX10_length 4 = .ok (.istore_n 2, 1) := by decide +kernel
theorem dX10_length_5 : decode cX10_length 5 = .ok (.iload_n 2, 1) := by decide +kernel
theorem dX10_length_6 : decode cX10_length 6 = .ok (.ifCond .ne 8, 3) := by decide +kernel
theorem dX10_length_9 : decode cX10_length 9 = .ok (.bipush (-2), 2) := by decide +kernel
theorem dX10_length_11 : decode cX10_length 11 = .ok (.goto 8, 3) := by decide +kernel
theorem dX10_length_14 : decode cX10_length 14 = .ok (.iload_n 1, 1) := by decide +kernel
theorem dX10_length_15 : decode cX10_length 15 = .ok (.iload_n 2, 1) := by decide +kernel
theorem dX10_length_16 : decode cX10_length 16 = .ok (.invokestatic 43, 3) := by decide +kernel
theorem dX10_length_19 : decode cX10_length 19 = .ok (.ireturn, 1) := by decide +kernel
theorem dX10_exchange_0 : decode cX10_exchange 0 = .ok (.iload_n 1, 1) := by decide +kernel
theorem dX10_exchange_1 : decode cX10_exchange 1 = .ok (.invokestatic 37, 3) := by decide +kernel
theorem dX10_exchange_4 : decode cX10_exchange 4 = .ok (.istore_n 3, 1) := by decide +kernel
theorem dX10_exchange_5 : decode cX10_exchange 5 = .ok (.iload_n 2, 1) := by decide +kernel
theorem dX10_exchange_6 : decode cX10_exchange 6 = .ok (.iconst 1, 1) := by decide +kernel
theorem dX10_exchange_7 : decode cX10_exchange 7 = .ok (.if_icmp .lt 8, 3) := by decide +kernel
theorem dX10_exchange_10 : decode cX10_exchange 10 = .ok (.iload_n 2, 1) := by decide +kernel
theorem dX10_exchange_11 : decode cX10_exchange 11 = .ok (.iload_n 3, 1) := by decide +kernel
theorem dX10_exchange_12 : decode cX10_exchange 12 = .ok (.if_icmp .lt 6, 3) := by decide +kernel
theorem dX10_exchange_15 : decode cX10_exchange 15 = .ok (.bipush (-2), 2) := by decide +kernel
theorem dX10_exchange_17 : decode cX10_exchange 17 = .ok (.ireturn, 1) := by decide +kernel
theorem dX10_exchange_18 : decode cX10_exchange 18 = .ok (.iload_n 1, 1) := by decide +kernel
theorem dX10_exchange_19 : decode cX10_exchange 19 = .ok (.iload_n 3, 1) := by decide +kernel
theorem dX10_exchange_20 : decode cX10_exchange 20 = .ok (.iload_n 2, 1) := by decide +kernel
theorem dX10_exchange_21 : decode cX10_exchange 21 = .ok (.iload_n 2, 1) := by decide +kernel
theorem dX10_exchange_22 : decode cX10_exchange 22 = .ok (.iconst 1, 1) := by decide +kernel
theorem dX10_exchange_23 : decode cX10_exchange 23 = .ok (.iadd, 1) := by decide +kernel
theorem dX10_exchange_24 : decode cX10_exchange 24 = .ok (.invokestatic 47, 3) := by decide +kernel
theorem dX10_exchange_27 : decode cX10_exchange 27 = .ok (.ireturn, 1) := by decide +kernel
theorem dX10_inverse_0 : decode cX10_inverse 0 = .ok (.iload_n 1, 1) := by decide +kernel
theorem dX10_inverse_1 : decode cX10_inverse 1 = .ok (.invokestatic 37, 3) := by decide +kernel
theorem dX10_inverse_4 : decode cX10_inverse 4 = .ok (.istore_n 2, 1) := by decide +kernel
theorem dX10_inverse_5 : decode cX10_inverse 5 = .ok (.iload_n 2, 1) := by decide +kernel
theorem dX10_inverse_6 : decode cX10_inverse 6 = .ok (.ifCond .ne 8, 3) := by decide +kernel
theorem dX10_inverse_9 : decode cX10_inverse 9 = .ok (.bipush (-2), 2) := by decide +kernel
theorem dX10_inverse_11 : decode cX10_inverse 11 = .ok (.goto 8, 3) := by decide +kernel
theorem dX10_inverse_14 : decode cX10_inverse 14 = .ok (.iload_n 1, 1) := by decide +kernel
theorem dX10_inverse_15 : decode cX10_inverse 15 = .ok (.iload_n 2, 1) := by decide +kernel
theorem dX10_inverse_16 : decode cX10_inverse 16 = .ok (.invokestatic 51, 3) := by decide +kernel
theorem dX10_inverse_19 : decode cX10_inverse 19 = .ok (.ireturn, 1) := by decide +kernel
theorem dX10_orders_0 : decode cX10_orders 0 = .ok (.iload_n 1, 1) := by decide +kernel
theorem dX10_orders_1 : decode cX10_orders 1 = .ok (.iconst 1, 1) := by decide +kernel
theorem dX10_orders_2 : decode cX10_orders 2 = .ok (.if_icmp .lt 12, 3) := by decide +kernel
theorem dX10_orders_5 : decode cX10_orders 5 = .ok (.iload_n 1, 1) := by decide +kernel
theorem dX10_orders_6 : decode cX10_orders 6 = .ok (.iconst 5, 1) := by decide +kernel
theorem dX10_orders_7 : decode cX10_orders 7 = .ok (.if_icmp .gt 7, 3) := by decide +kernel
theorem dX10_orders_10 : decode cX10_orders 10 = .ok (.iload_n 2, 1) := by decide +kernel
theorem dX10_orders_11 : decode cX10_orders 11 = .ok (.ifCond .ge 6, 3) := by decide +kernel
theorem dX10_orders_14 : decode cX10_orders 14 = .ok (.bipush (-2), 2) := by decide +kernel
theorem dX10_orders_16 : decode cX10_orders 16 = .ok (.ireturn, 1) := by decide +kernel
theorem dX10_orders_17 : decode cX10_orders 17 = .ok (.iload_n 1, 1) := by decide +kernel
theorem dX10_orders_18 : decode cX10_orders 18 = .ok (.iload_n 2, 1) := by decide +kernel
theorem dX10_orders_19 : decode cX10_orders 19 = .ok (.invokestatic 54, 3) := by decide +kernel
theorem dX10_orders_22 : decode cX10_orders 22 = .ok (.ireturn, 1) := by decide +kernel
theorem dX10_step_0 : decode cX10_step 0 = .ok (.iload_n 1, 1) := by decide +kernel
theorem dX10_step_1 : decode cX10_step 1 = .ok (.invokestatic 37, 3) := by decide +kernel
theorem dX10_step_4 : decode cX10_step 4 = .ok (.istore 4, 2) := by decide +kernel
theorem dX10_step_6 : decode cX10_step 6 = .ok (.iload 4, 2) := by decide +kernel
theorem dX10_step_8 : decode cX10_step 8 = .ok (.ifCond .eq 20, 3) := by decide +kernel
theorem dX10_step_11 : decode cX10_step 11 = .ok (.iload 4, 2) := by decide +kernel
theorem dX10_step_13 : decode cX10_step 13 = .ok (.iconst 5, 1) := by decide +kernel
theorem dX10_step_14 : decode cX10_step 14 = .ok (.if_icmp .eq 14, 3) := by decide +kernel
theorem dX10_step_17 : decode cX10_step 17 = .ok (.iload_n 2, 1) := by decide +kernel
theorem dX10_step_18 : decode cX10_step 18 = .ok (.iconst 1, 1) := by decide +kernel
theorem dX10_step_19 : decode cX10_step 19 = .ok (.if_icmp .lt 9, 3) := by decide +kernel
theorem dX10_step_22 : decode cX10_step 22 = .ok (.iload_n 2, 1) := by decide +kernel
theorem dX10_step_23 : decode cX10_step 23 = .ok (.iload 4, 2) := by decide +kernel
theorem dX10_step_25 : decode cX10_step 25 = .ok (.if_icmp .le 6, 3) := by decide +kernel
theorem dX10_step_28 : decode cX10_step 28 = .ok (.bipush (-2), 2) := by decide +kernel
theorem dX10_step_30 : decode cX10_step 30 = .ok (.ireturn, 1) := by decide +kernel
theorem dX10_step_31 : decode cX10_step 31 = .ok (.iload_n 1, 1) := by decide +kernel
theorem dX10_step_32 : decode cX10_step 32 = .ok (.bipush 10, 2) := by decide +kernel
theorem dX10_step_34 : decode cX10_step 34 = .ok (.imul, 1) := by decide +kernel
theorem dX10_step_35 : decode cX10_step 35 = .ok (.iload 4, 2) := by decide +kernel
theorem dX10_step_37 : decode cX10_step 37 = .ok (.iadd, 1) := by decide +kernel
theorem dX10_step_38 : decode cX10_step 38 = .ok (.iconst 1, 1) := by decide +kernel
theorem dX10_step_39 : decode cX10_step 39 = .ok (.iadd, 1) := by decide +kernel
theorem dX10_step_40 : decode cX10_step 40 = .ok (.iload 4, 2) := by decide +kernel
theorem dX10_step_42 : decode cX10_step 42 = .ok (.iconst 1, 1) := by decide +kernel
theorem dX10_step_43 : decode cX10_step 43 = .ok (.iadd, 1) := by decide +kernel
theorem dX10_step_44 : decode cX10_step 44 = .ok (.iload_n 2, 1) := by decide +kernel
theorem dX10_step_45 : decode cX10_step 45 = .ok (.iload_n 3, 1) := by decide +kernel
theorem dX10_step_46 : decode cX10_step 46 = .ok (.invokestatic 57, 3) := by decide +kernel
theorem dX10_step_49 : decode cX10_step 49 = .ok (.ireturn, 1) := by decide +kernel
theorem dX10_blank_0 : decode cX10_blank 0 = .ok (.iload_n 1, 1) := by decide +kernel
theorem dX10_blank_1 : decode cX10_blank 1 = .ok (.invokestatic 60, 3) := by decide +kernel
theorem dX10_blank_4 : decode cX10_blank 4 = .ok (.ifCond .ne 6, 3) := by decide +kernel
theorem dX10_blank_7 : decode cX10_blank 7 = .ok (.bipush (-2), 2) := by decide +kernel
theorem dX10_blank_9 : decode cX10_blank 9 = .ok (.ireturn, 1) := by decide +kernel
theorem dX10_blank_10 : decode cX10_blank 10 = .ok (.aload_n 0, 1) := by decide +kernel
theorem dX10_blank_11 : decode cX10_blank 11 = .ok (.getfield 11, 3) := by decide +kernel
theorem dX10_blank_14 : decode cX10_blank 14 = .ok (.iload_n 1, 1) := by decide +kernel
theorem dX10_blank_15 : decode cX10_blank 15 = .ok (.aaload, 1) := by decide +kernel
theorem dX10_blank_16 : decode cX10_blank 16 = .ok (.invokevirtual 64, 3) := by decide +kernel
theorem dX10_blank_19 : decode cX10_blank 19 = .ok (.iconst 1, 1) := by decide +kernel
theorem dX10_blank_20 : decode cX10_blank 20 = .ok (.ireturn, 1) := by decide +kernel
theorem dX10_lose_0 : decode cX10_lose 0 = .ok (.iload_n 1, 1) := by decide +kernel
theorem dX10_lose_1 : decode cX10_lose 1 = .ok (.invokestatic 60, 3) := by decide +kernel
theorem dX10_lose_4 : decode cX10_lose 4 = .ok (.ifCond .ne 6, 3) := by decide +kernel
theorem dX10_lose_7 : decode cX10_lose 7 = .ok (.bipush (-2), 2) := by decide +kernel
theorem dX10_lose_9 : decode cX10_lose 9 = .ok (.ireturn, 1) := by decide +kernel
theorem dX10_lose_10 : decode cX10_lose 10 = .ok (.aload_n 0, 1) := by decide +kernel
theorem dX10_lose_11 : decode cX10_lose 11 = .ok (.iload_n 1, 1) := by decide +kernel
theorem dX10_lose_12 : decode cX10_lose 12 = .ok (.invokevirtual 67, 3) := by decide +kernel
theorem dX10_lose_15 : decode cX10_lose 15 = .ok (.ifCond .eq 6, 3) := by decide +kernel
theorem dX10_lose_18 : decode cX10_lose 18 = .ok (.bipush (-3), 2) := by decide +kernel
theorem dX10_lose_20 : decode cX10_lose 20 = .ok (.ireturn, 1) := by decide +kernel
theorem dX10_lose_21 : decode cX10_lose 21 = .ok (.aload_n 0, 1) := by decide +kernel
theorem dX10_lose_22 : decode cX10_lose 22 = .ok (.getfield 11, 3) := by decide +kernel
theorem dX10_lose_25 : decode cX10_lose 25 = .ok (.iload_n 1, 1) := by decide +kernel
theorem dX10_lose_26 : decode cX10_lose 26 = .ok (.aaload, 1) := by decide +kernel
theorem dX10_lose_27 : decode cX10_lose 27 = .ok (.invokevirtual 70, 3) := by decide +kernel
theorem dX10_lose_30 : decode cX10_lose 30 = .ok (.istore_n 2, 1) := by decide +kernel
theorem dX10_lose_31 : decode cX10_lose 31 = .ok (.aload_n 0, 1) := by decide +kernel
theorem dX10_lose_32 : decode cX10_lose 32 = .ok (.getfield 11, 3) := by decide +kernel
theorem dX10_lose_35 : decode cX10_lose 35 = .ok (.iload_n 1, 1) := by decide +kernel
theorem dX10_lose_36 : decode cX10_lose 36 = .ok (.aaload, 1) := by decide +kernel
theorem dX10_lose_37 : decode cX10_lose 37 = .ok (.invokevirtual 74, 3) := by decide +kernel
theorem dX10_lose_40 : decode cX10_lose 40 = .ok (.iload_n 2, 1) := by decide +kernel
theorem dX10_lose_41 : decode cX10_lose 41 = .ok (.ireturn, 1) := by decide +kernel
theorem dX10_add_0 : decode cX10_add 0 = .ok (.iload_n 1, 1) := by decide +kernel
theorem dX10_add_1 : decode cX10_add 1 = .ok (.invokestatic 60, 3) := by decide +kernel
theorem dX10_add_4 : decode cX10_add 4 = .ok (.ifCond .eq 18, 3) := by decide +kernel
theorem dX10_add_7 : decode cX10_add 7 = .ok (.lload_n 2, 1) := by decide +kernel
theorem dX10_add_8 : decode cX10_add 8 = .ok (.invokestatic 77, 3) := by decide +kernel
theorem dX10_add_11 : decode cX10_add 11 = .ok (.ifCond .ne 11, 3) := by decide +kernel
theorem dX10_add_14 : decode cX10_add 14 = .ok (.iload 4, 2) := by decide +kernel
theorem dX10_add_16 : decode cX10_add 16 = .ok (.invokestatic 81, 3) := by decide +kernel
theorem dX10_add_19 : decode cX10_add 19 = .ok (.ifCond .ne 6, 3) := by decide +kernel
theorem dX10_add_22 : decode cX10_add 22 = .ok (.bipush (-2), 2) := by decide +kernel
theorem dX10_add_24 : decode cX10_add 24 = .ok (.ireturn, 1) := by decide +kernel
theorem dX10_add_25 : decode cX10_add 25 = .ok (.aload_n 0, 1) := by decide +kernel
theorem dX10_add_26 : decode cX10_add 26 = .ok (.iload_n 1, 1) := by decide +kernel
theorem dX10_add_27 : decode cX10_add 27 = .ok (.invokevirtual 67, 3) := by decide +kernel
theorem dX10_add_30 : decode cX10_add 30 = .ok (.ifCond .eq 6, 3) := by decide +kernel
theorem dX10_add_33 : decode cX10_add 33 = .ok (.bipush (-3), 2) := by decide +kernel
theorem dX10_add_35 : decode cX10_add 35 = .ok (.ireturn, 1) := by decide +kernel
theorem dX10_add_36 : decode cX10_add 36 = .ok (.aload_n 0, 1) := by decide +kernel
theorem dX10_add_37 : decode cX10_add 37 = .ok (.getfield 18, 3) := by decide +kernel
theorem dX10_add_40 : decode cX10_add 40 = .ok (.aload_n 0, 1) := by decide +kernel
theorem dX10_add_41 : decode cX10_add 41 = .ok (.getfield 11, 3) := by decide +kernel
theorem dX10_add_44 : decode cX10_add 44 = .ok (.iload_n 1, 1) := by decide +kernel
theorem dX10_add_45 : decode cX10_add 45 = .ok (.aaload, 1) := by decide +kernel
theorem dX10_add_46 : decode cX10_add 46 = .ok (.lload_n 2, 1) := by decide +kernel
theorem dX10_add_47 : decode cX10_add 47 = .ok (.iload 4, 2) := by decide +kernel
theorem dX10_add_49 : decode cX10_add 49 = .ok (.invokevirtual 84, 3) := by decide +kernel
theorem dX10_add_52 : decode cX10_add 52 = .ok (.ireturn, 1) := by decide +kernel
theorem dX10_terms_0 : decode cX10_terms 0 = .ok (.iload_n 1, 1) := by decide +kernel
theorem dX10_terms_1 : decode cX10_terms 1 = .ok (.invokestatic 60, 3) := by decide +kernel
theorem dX10_terms_4 : decode cX10_terms 4 = .ok (.ifCond .ne 6, 3) := by decide +kernel
theorem dX10_terms_7 : decode cX10_terms 7 = .ok (.bipush (-2), 2) := by decide +kernel
theorem dX10_terms_9 : decode cX10_terms 9 = .ok (.ireturn, 1) := by decide +kernel
theorem dX10_terms_10 : decode cX10_terms 10 = .ok (.aload_n 0, 1) := by decide +kernel
theorem dX10_terms_11 : decode cX10_terms 11 = .ok (.iload_n 1, 1) := by decide +kernel
theorem dX10_terms_12 : decode cX10_terms 12 = .ok (.invokevirtual 67, 3) := by decide +kernel
theorem dX10_terms_15 : decode cX10_terms 15 = .ok (.ifCond .eq 8, 3) := by decide +kernel
theorem dX10_terms_18 : decode cX10_terms 18 = .ok (.bipush (-3), 2) := by decide +kernel
theorem dX10_terms_20 : decode cX10_terms 20 = .ok (.goto 12, 3) := by decide +kernel
theorem dX10_terms_23 : decode cX10_terms 23 = .ok (.aload_n 0, 1) := by decide +kernel
theorem dX10_terms_24 : decode cX10_terms 24 = .ok (.getfield 11, 3) := by decide +kernel
theorem dX10_terms_27 : decode cX10_terms 27 = .ok (.iload_n 1, 1) := by decide +kernel
theorem dX10_terms_28 : decode cX10_terms 28 = .ok (.aaload, 1) := by decide +kernel
theorem dX10_terms_29 : decode cX10_terms 29 = .ok (.invokevirtual 70, 3) := by decide +kernel
theorem dX10_terms_32 : decode cX10_terms 32 = .ok (.ireturn, 1) := by decide +kernel
theorem dX10_exponents_0 : decode cX10_exponents 0 = .ok (.iload_n 1, 1) := by decide +kernel
theorem dX10_exponents_1 : decode cX10_exponents 1 = .ok (.invokestatic 60, 3) := by decide +kernel
theorem dX10_exponents_4 : decode cX10_exponents 4 = .ok (.ifCond .ne 6, 3) := by decide +kernel
theorem dX10_exponents_7 : decode cX10_exponents 7 = .ok (.bipush (-2), 2) := by decide +kernel
theorem dX10_exponents_9 : decode cX10_exponents 9 = .ok (.ireturn, 1) := by decide +kernel
theorem dX10_exponents_10 : decode cX10_exponents 10 = .ok (.aload_n 0, 1) := by decide +kernel
theorem dX10_exponents_11 : decode cX10_exponents 11 = .ok (.iload_n 1, 1) := by decide +kernel
theorem dX10_exponents_12 : decode cX10_exponents 12 = .ok (.invokevirtual 67, 3) := by decide +kernel
theorem dX10_exponents_15 : decode cX10_exponents 15 = .ok (.ifCond .eq 6, 3) := by decide +kernel
theorem dX10_exponents_18 : decode cX10_exponents 18 = .ok (.bipush (-3), 2) := by decide +kernel
theorem dX10_exponents_20 : decode cX10_exponents 20 = .ok (.ireturn, 1) := by decide +kernel
theorem dX10_exponents_21 : decode cX10_exponents 21 = .ok (.iload_n 2, 1) := by decide +kernel
theorem dX10_exponents_22 : decode cX10_exponents 22 = .ok (.ifCond .lt 16, 3) := by decide +kernel
theorem dX10_exponents_25 : decode cX10_exponents 25 = .ok (.iload_n 2, 1) := by decide +kernel
theorem dX10_exponents_26 : decode cX10_exponents 26 = .ok (.aload_n 0, 1) := by decide +kernel
theorem dX10_exponents_27 : decode cX10_exponents 27 = .ok (.getfield 11, 3) := by decide +kernel
theorem dX10_exponents_30 : decode cX10_exponents 30 = .ok (.iload_n 1, 1) := by decide +kernel
theorem dX10_exponents_31 : decode cX10_exponents 31 = .ok (.aaload, 1) := by decide +kernel
theorem dX10_exponents_32 : decode cX10_exponents 32 = .ok (.invokevirtual 70, 3) := by decide +kernel
theorem dX10_exponents_35 : decode cX10_exponents 35 = .ok (.if_icmp .lt 6, 3) := by decide +kernel
theorem dX10_exponents_38 : decode cX10_exponents 38 = .ok (.bipush (-2), 2) := by decide +kernel
theorem dX10_exponents_40 : decode cX10_exponents 40 = .ok (.ireturn, 1) := by decide +kernel
theorem dX10_exponents_41 : decode cX10_exponents 41 = .ok (.aload_n 0, 1) := by decide +kernel
theorem dX10_exponents_42 : decode cX10_exponents 42 = .ok (.getfield 11, 3) := by decide +kernel
theorem dX10_exponents_45 : decode cX10_exponents 45 = .ok (.iload_n 1, 1) := by decide +kernel
theorem dX10_exponents_46 : decode cX10_exponents 46 = .ok (.aaload, 1) := by decide +kernel
theorem dX10_exponents_47 : decode cX10_exponents 47 = .ok (.iload_n 2, 1) := by decide +kernel
theorem dX10_exponents_48 : decode cX10_exponents 48 = .ok (.invokevirtual 88, 3) := by decide +kernel
theorem dX10_exponents_51 : decode cX10_exponents 51 = .ok (.ireturn, 1) := by decide +kernel
theorem dX10_number_0 : decode cX10_number 0 = .ok (.iload_n 1, 1) := by decide +kernel
theorem dX10_number_1 : decode cX10_number 1 = .ok (.invokestatic 60, 3) := by decide +kernel
theorem dX10_number_4 : decode cX10_number 4 = .ok (.ifCond .eq 10, 3) := by decide +kernel
theorem dX10_number_7 : decode cX10_number 7 = .ok (.iload_n 2, 1) := by decide +kernel
theorem dX10_number_8 : decode cX10_number 8 = .ok (.invokestatic 81, 3) := by decide +kernel
theorem dX10_number_11 : decode cX10_number 11 = .ok (.ifCond .ne 9, 3) := by decide +kernel
theorem dX10_number_14 : decode cX10_number 14 = .ok (.bipush (-2), 2) := by decide +kernel
theorem dX10_number_16 : decode cX10_number 16 = .ok (.invokestatic 91, 3) := by decide +kernel
theorem dX10_number_19 : decode cX10_number 19 = .ok (.lreturn, 1) := by decide +kernel
theorem dX10_number_20 : decode cX10_number 20 = .ok (.aload_n 0, 1) := by decide +kernel
theorem dX10_number_21 : decode cX10_number 21 = .ok (.iload_n 1, 1) := by decide +kernel
theorem dX10_number_22 : decode cX10_number 22 = .ok (.invokevirtual 67, 3) := by decide +kernel
theorem dX10_number_25 : decode cX10_number 25 = .ok (.ifCond .eq 11, 3) := by decide +kernel
theorem dX10_number_28 : decode cX10_number 28 = .ok (.bipush (-3), 2) := by decide +kernel
theorem dX10_number_30 : decode cX10_number 30 = .ok (.invokestatic 91, 3) := by decide +kernel
theorem dX10_number_33 : decode cX10_number 33 = .ok (.goto 14, 3) := by decide +kernel
theorem dX10_number_36 : decode cX10_number 36 = .ok (.aload_n 0, 1) := by decide +kernel
theorem dX10_number_37 : decode cX10_number 37 = .ok (.getfield 11, 3) := by decide +kernel
theorem dX10_number_40 : decode cX10_number 40 = .ok (.iload_n 1, 1) := by decide +kernel
theorem dX10_number_41 : decode cX10_number 41 = .ok (.aaload, 1) := by decide +kernel
theorem dX10_number_42 : decode cX10_number 42 = .ok (.iload_n 2, 1) := by decide +kernel
theorem dX10_number_43 : decode cX10_number 43 = .ok (.invokevirtual 95, 3) := by decide +kernel
theorem dX10_number_46 : decode cX10_number 46 = .ok (.i2l, 1) := by decide +kernel
theorem dX10_number_47 : decode cX10_number 47 = .ok (.lreturn, 1) := by decide +kernel
theorem dX10_sum_0 : decode cX10_sum 0 = .ok (.iload_n 1, 1) := by decide +kernel
theorem dX10_sum_1 : decode cX10_sum 1 = .ok (.invokestatic 60, 3) := by decide +kernel
theorem dX10_sum_4 : decode cX10_sum 4 = .ok (.ifCond .eq 31, 3) := by decide +kernel
theorem dX10_sum_7 : decode cX10_sum 7 = .ok (.iload_n 2, 1) := by decide +kernel
theorem dX10_sum_8 : decode cX10_sum 8 = .ok (.invokestatic 60, 3) := by decide +kernel
theorem dX10_sum_11 : decode cX10_sum 11 = .ok (.ifCond .eq 24, 3) := by decide +kernel
theorem dX10_sum_14 : decode cX10_sum 14 = .ok (.iload_n 3, 1) := by decide +kernel
theorem dX10_sum_15 : decode cX10_sum 15 = .ok (.invokestatic 60, 3) := by decide +kernel
theorem dX10_sum_18 : decode cX10_sum 18 = .ok (.ifCond .eq 17, 3) := by decide +kernel
theorem dX10_sum_21 : decode cX10_sum 21 = .ok (.iload 4, 2) := by decide +kernel
theorem dX10_sum_23 : decode cX10_sum 23 = .ok (.ldc 98, 2) := by decide +kernel
theorem dX10_sum_25 : decode cX10_sum 25 = .ok (.if_icmp .lt 10, 3) := by decide +kernel
theorem dX10_sum_28 : decode cX10_sum 28 = .ok (.iload 4, 2) := by decide +kernel
theorem dX10_sum_30 : decode cX10_sum 30 = .ok (.ldc 99, 2) := by decide +kernel
theorem dX10_sum_32 : decode cX10_sum 32 = .ok (.if_icmp .le 6, 3) := by decide +kernel
theorem dX10_sum_35 : decode cX10_sum 35 = .ok (.bipush (-2), 2) := by decide +kernel
theorem dX10_sum_37 : decode cX10_sum 37 = .ok (.ireturn, 1) := by decide +kernel
theorem dX10_sum_38 : decode cX10_sum 38 = .ok (.aload_n 0, 1) := by decide +kernel
theorem dX10_sum_39 : decode cX10_sum 39 = .ok (.iload_n 2, 1) := by decide +kernel
theorem dX10_sum_40 : decode cX10_sum 40 = .ok (.invokevirtual 67, 3) := by decide +kernel
theorem dX10_sum_43 : decode cX10_sum 43 = .ok (.ifCond .ne 11, 3) := by decide +kernel
theorem dX10_sum_46 : decode cX10_sum 46 = .ok (.aload_n 0, 1) := by decide +kernel
theorem dX10_sum_47 : decode cX10_sum 47 = .ok (.iload_n 3, 1) := by decide +kernel
theorem dX10_sum_48 : decode cX10_sum 48 = .ok (.invokevirtual 67, 3) := by decide +kernel
theorem dX10_sum_51 : decode cX10_sum 51 = .ok (.ifCond .eq 6, 3) := by decide +kernel
theorem dX10_sum_54 : decode cX10_sum 54 = .ok (.bipush (-3), 2) := by decide +kernel
theorem dX10_sum_56 : decode cX10_sum 56 = .ok (.ireturn, 1) := by decide +kernel
theorem dX10_sum_57 : decode cX10_sum 57 = .ok (.aload_n 0, 1) := by decide +kernel
theorem dX10_sum_58 : decode cX10_sum 58 = .ok (.getfield 18, 3) := by decide +kernel
theorem dX10_sum_61 : decode cX10_sum 61 = .ok (.aload_n 0, 1) := by decide +kernel
theorem dX10_sum_62 : decode cX10_sum 62 = .ok (.getfield 11, 3) := by decide +kernel
theorem dX10_sum_65 : decode cX10_sum 65 = .ok (.iload_n 1, 1) := by decide +kernel
theorem dX10_sum_66 : decode cX10_sum 66 = .ok (.aaload, 1) := by decide +kernel
theorem dX10_sum_67 : decode cX10_sum 67 = .ok (.aload_n 0, 1) := by decide +kernel
theorem dX10_sum_68 : decode cX10_sum 68 = .ok (.getfield 11, 3) := by decide +kernel
theorem dX10_sum_71 : decode cX10_sum 71 = .ok (.iload_n 2, 1) := by decide +kernel
theorem dX10_sum_72 : decode cX10_sum 72 = .ok (.aaload, 1) := by decide +kernel
theorem dX10_sum_73 : decode cX10_sum 73 = .ok (.aload_n 0, 1) := by decide +kernel
theorem dX10_sum_74 : decode cX10_sum 74 = .ok (.getfield 11, 3) := by decide +kernel
theorem dX10_sum_77 : decode cX10_sum 77 = .ok (.iload_n 3, 1) := by decide +kernel
theorem dX10_sum_78 : decode cX10_sum 78 = .ok (.aaload, 1) := by decide +kernel
theorem dX10_sum_79 : decode cX10_sum 79 = .ok (.iload 4, 2) := by decide +kernel
theorem dX10_sum_81 : decode cX10_sum 81 = .ok (.invokevirtual 100, 3) := by decide +kernel
theorem dX10_sum_84 : decode cX10_sum 84 = .ok (.ireturn, 1) := by decide +kernel
theorem dX10_product_0 : decode cX10_product 0 = .ok (.iload_n 1, 1) := by decide +kernel
theorem dX10_product_1 : decode cX10_product 1 = .ok (.invokestatic 60, 3) := by decide +kernel
theorem dX10_product_4 : decode cX10_product 4 = .ok (.ifCond .eq 17, 3) := by decide +kernel
theorem dX10_product_7 : decode cX10_product 7 = .ok (.iload_n 2, 1) := by decide +kernel
theorem dX10_product_8 : decode cX10_product 8 = .ok (.invokestatic 60, 3) := by decide +kernel
theorem dX10_product_11 : decode cX10_product 11 = .ok (.ifCond .eq 10, 3) := by decide +kernel
theorem dX10_product_14 : decode cX10_product 14 = .ok (.iload_n 3, 1) := by decide +kernel
theorem dX10_product_15 : decode cX10_product 15 = .ok (.invokestatic 60, 3) := by decide +kernel
theorem dX10_product_18 : decode cX10_product 18 = .ok (.ifCond .ne 6, 3) := by decide +kernel
theorem dX10_product_21 : decode cX10_product 21 = .ok (.bipush (-2), 2) := by decide +kernel
theorem dX10_product_23 : decode cX10_product 23 = .ok (.ireturn, 1) := by decide +kernel
theorem dX10_product_24 : decode cX10_product 24 = .ok (.aload_n 0, 1) := by decide +kernel
theorem dX10_product_25 : decode cX10_product 25 = .ok (.iload_n 2, 1) := by decide +kernel
theorem dX10_product_26 : decode cX10_product 26 = .ok (.invokevirtual 67, 3) := by decide +kernel
theorem dX10_product_29 : decode cX10_product 29 = .ok (.ifCond .ne 11, 3) := by decide +kernel
theorem dX10_product_32 : decode cX10_product 32 = .ok (.aload_n 0, 1) := by decide +kernel
theorem dX10_product_33 : decode cX10_product 33 = .ok (.iload_n 3, 1) := by decide +kernel
theorem dX10_product_34 : decode cX10_product 34 = .ok (.invokevirtual 67, 3) := by decide +kernel
theorem dX10_product_37 : decode cX10_product 37 = .ok (.ifCond .eq 6, 3) := by decide +kernel
theorem dX10_product_40 : decode cX10_product 40 = .ok (.bipush (-3), 2) := by decide +kernel
theorem dX10_product_42 : decode cX10_product 42 = .ok (.ireturn, 1) := by decide +kernel
theorem dX10_product_43 : decode cX10_product 43 = .ok (.aload_n 0, 1) := by decide +kernel
theorem dX10_product_44 : decode cX10_product 44 = .ok (.getfield 18, 3) := by decide +kernel
theorem dX10_product_47 : decode cX10_product 47 = .ok (.aload_n 0, 1) := by decide +kernel
theorem dX10_product_48 : decode cX10_product 48 = .ok (.getfield 11, 3) := by decide +kernel
theorem dX10_product_51 : decode cX10_product 51 = .ok (.iload_n 1, 1) := by decide +kernel
theorem dX10_product_52 : decode cX10_product 52 = .ok (.aaload, 1) := by decide +kernel
theorem dX10_product_53 : decode cX10_product 53 = .ok (.aload_n 0, 1) := by decide +kernel
theorem dX10_product_54 : decode cX10_product 54 = .ok (.getfield 11, 3) := by decide +kernel
theorem dX10_product_57 : decode cX10_product 57 = .ok (.iload_n 2, 1) := by decide +kernel
theorem dX10_product_58 : decode cX10_product 58 = .ok (.aaload, 1) := by decide +kernel
theorem dX10_product_59 : decode cX10_product 59 = .ok (.aload_n 0, 1) := by decide +kernel
theorem dX10_product_60 : decode cX10_product 60 = .ok (.getfield 11, 3) := by decide +kernel
theorem dX10_product_63 : decode cX10_product 63 = .ok (.iload_n 3, 1) := by decide +kernel
theorem dX10_product_64 : decode cX10_product 64 = .ok (.aaload, 1) := by decide +kernel
theorem dX10_product_65 : decode cX10_product 65 = .ok (.invokevirtual 104, 3) := by decide +kernel
theorem dX10_product_68 : decode cX10_product 68 = .ok (.ireturn, 1) := by decide +kernel
theorem dX10_turned_0 : decode cX10_turned 0 = .ok (.iload_n 1, 1) := by decide +kernel
theorem dX10_turned_1 : decode cX10_turned 1 = .ok (.invokestatic 60, 3) := by decide +kernel
theorem dX10_turned_4 : decode cX10_turned 4 = .ok (.ifCond .eq 20, 3) := by decide +kernel
theorem dX10_turned_7 : decode cX10_turned 7 = .ok (.iload_n 2, 1) := by decide +kernel
theorem dX10_turned_8 : decode cX10_turned 8 = .ok (.invokestatic 60, 3) := by decide +kernel
theorem dX10_turned_11 : decode cX10_turned 11 = .ok (.ifCond .eq 13, 3) := by decide +kernel
theorem dX10_turned_14 : decode cX10_turned 14 = .ok (.iload_n 3, 1) := by decide +kernel
theorem dX10_turned_15 : decode cX10_turned 15 = .ok (.iconst 1, 1) := by decide +kernel
theorem dX10_turned_16 : decode cX10_turned 16 = .ok (.if_icmp .lt 8, 3) := by decide +kernel
theorem dX10_turned_19 : decode cX10_turned 19 = .ok (.iload_n 3, 1) := by decide +kernel
theorem dX10_turned_20 : decode cX10_turned 20 = .ok (.iconst 5, 1) := by decide +kernel
theorem dX10_turned_21 : decode cX10_turned 21 = .ok (.if_icmp .lt 6, 3) := by decide +kernel
theorem dX10_turned_24 : decode cX10_turned 24 = .ok (.bipush (-2), 2) := by decide +kernel
theorem dX10_turned_26 : decode cX10_turned 26 = .ok (.ireturn, 1) := by decide +kernel
theorem dX10_turned_27 : decode cX10_turned 27 = .ok (.aload_n 0, 1) := by decide +kernel
theorem dX10_turned_28 : decode cX10_turned 28 = .ok (.iload_n 2, 1) := by decide +kernel
theorem dX10_turned_29 : decode cX10_turned 29 = .ok (.invokevirtual 67, 3) := by decide +kernel
theorem dX10_turned_32 : decode cX10_turned 32 = .ok (.ifCond .eq 8, 3) := by decide +kernel
theorem dX10_turned_35 : decode cX10_turned 35 = .ok (.bipush (-3), 2) := by decide +kernel
theorem dX10_turned_37 : decode cX10_turned 37 = .ok (.goto 23, 3) := by decide +kernel
theorem dX10_turned_40 : decode cX10_turned 40 = .ok (.aload_n 0, 1) := by decide +kernel
theorem dX10_turned_41 : decode cX10_turned 41 = .ok (.getfield 18, 3) := by decide +kernel
theorem dX10_turned_44 : decode cX10_turned 44 = .ok (.aload_n 0, 1) := by decide +kernel
theorem dX10_turned_45 : decode cX10_turned 45 = .ok (.getfield 11, 3) := by decide +kernel
theorem dX10_turned_48 : decode cX10_turned 48 = .ok (.iload_n 1, 1) := by decide +kernel
theorem dX10_turned_49 : decode cX10_turned 49 = .ok (.aaload, 1) := by decide +kernel
theorem dX10_turned_50 : decode cX10_turned 50 = .ok (.aload_n 0, 1) := by decide +kernel
theorem dX10_turned_51 : decode cX10_turned 51 = .ok (.getfield 11, 3) := by decide +kernel
theorem dX10_turned_54 : decode cX10_turned 54 = .ok (.iload_n 2, 1) := by decide +kernel
theorem dX10_turned_55 : decode cX10_turned 55 = .ok (.aaload, 1) := by decide +kernel
theorem dX10_turned_56 : decode cX10_turned 56 = .ok (.iload_n 3, 1) := by decide +kernel
theorem dX10_turned_57 : decode cX10_turned 57 = .ok (.invokevirtual 108, 3) := by decide +kernel
theorem dX10_turned_60 : decode cX10_turned 60 = .ok (.ireturn, 1) := by decide +kernel
theorem dX10_difference_0 : decode cX10_difference 0 = .ok (.iload_n 1, 1) := by decide +kernel
theorem dX10_difference_1 : decode cX10_difference 1 = .ok (.invokestatic 60, 3) := by decide +kernel
theorem dX10_difference_4 : decode cX10_difference 4 = .ok (.ifCond .eq 20, 3) := by decide +kernel
theorem dX10_difference_7 : decode cX10_difference 7 = .ok (.iload_n 2, 1) := by decide +kernel
theorem dX10_difference_8 : decode cX10_difference 8 = .ok (.invokestatic 60, 3) := by decide +kernel
theorem dX10_difference_11 : decode cX10_difference 11 = .ok (.ifCond .eq 13, 3) := by decide +kernel
theorem dX10_difference_14 : decode cX10_difference 14 = .ok (.iload_n 3, 1) := by decide +kernel
theorem dX10_difference_15 : decode cX10_difference 15 = .ok (.iconst 1, 1) := by decide +kernel
theorem dX10_difference_16 : decode cX10_difference 16 = .ok (.if_icmp .lt 8, 3) := by decide +kernel
theorem dX10_difference_19 : decode cX10_difference 19 = .ok (.iload_n 3, 1) := by decide +kernel
theorem dX10_difference_20 : decode cX10_difference 20 = .ok (.iconst 5, 1) := by decide +kernel
theorem dX10_difference_21 : decode cX10_difference 21 = .ok (.if_icmp .lt 6, 3) := by decide +kernel
theorem dX10_difference_24 : decode cX10_difference 24 = .ok (.bipush (-2), 2) := by decide +kernel
theorem dX10_difference_26 : decode cX10_difference 26 = .ok (.ireturn, 1) := by decide +kernel
theorem dX10_difference_27 : decode cX10_difference 27 = .ok (.aload_n 0, 1) := by decide +kernel
theorem dX10_difference_28 : decode cX10_difference 28 = .ok (.iload_n 2, 1) := by decide +kernel
theorem dX10_difference_29 : decode cX10_difference 29 = .ok (.invokevirtual 67, 3) := by decide +kernel
theorem dX10_difference_32 : decode cX10_difference 32 = .ok (.ifCond .eq 8, 3) := by decide +kernel
theorem dX10_difference_35 : decode cX10_difference 35 = .ok (.bipush (-3), 2) := by decide +kernel
theorem dX10_difference_37 : decode cX10_difference 37 = .ok (.goto 23, 3) := by decide +kernel
theorem dX10_difference_40 : decode cX10_difference 40 = .ok (.aload_n 0, 1) := by decide +kernel
theorem dX10_difference_41 : decode cX10_difference 41 = .ok (.getfield 18, 3) := by decide +kernel
theorem dX10_difference_44 : decode cX10_difference 44 = .ok (.aload_n 0, 1) := by decide +kernel
theorem dX10_difference_45 : decode cX10_difference 45 = .ok (.getfield 11, 3) := by decide +kernel
theorem dX10_difference_48 : decode cX10_difference 48 = .ok (.iload_n 1, 1) := by decide +kernel
theorem dX10_difference_49 : decode cX10_difference 49 = .ok (.aaload, 1) := by decide +kernel
theorem dX10_difference_50 : decode cX10_difference 50 = .ok (.aload_n 0, 1) := by decide +kernel
theorem dX10_difference_51 : decode cX10_difference 51 = .ok (.getfield 11, 3) := by decide +kernel
theorem dX10_difference_54 : decode cX10_difference 54 = .ok (.iload_n 2, 1) := by decide +kernel
theorem dX10_difference_55 : decode cX10_difference 55 = .ok (.aaload, 1) := by decide +kernel
theorem dX10_difference_56 : decode cX10_difference 56 = .ok (.iload_n 3, 1) := by decide +kernel
theorem dX10_difference_57 : decode cX10_difference 57 = .ok (.invokevirtual 112, 3) := by decide +kernel
theorem dX10_difference_60 : decode cX10_difference 60 = .ok (.ireturn, 1) := by decide +kernel
theorem dX10_polynomial_0 : decode cX10_polynomial 0 = .ok (.iload_n 2, 1) := by decide +kernel
theorem dX10_polynomial_1 : decode cX10_polynomial 1 = .ok (.invokestatic 37, 3) := by decide +kernel
theorem dX10_polynomial_4 : decode cX10_polynomial 4 = .ok (.istore_n 3, 1) := by decide +kernel
theorem dX10_polynomial_5 : decode cX10_polynomial 5 = .ok (.iload_n 1, 1) := by decide +kernel
theorem dX10_polynomial_6 : decode cX10_polynomial 6 = .ok (.invokestatic 60, 3) := by decide +kernel
theorem dX10_polynomial_9 : decode cX10_polynomial 9 = .ok (.ifCond .eq 7, 3) := by decide +kernel
theorem dX10_polynomial_12 : decode cX10_polynomial 12 = .ok (.iload_n 3, 1) := by decide +kernel
theorem dX10_polynomial_13 : decode cX10_polynomial 13 = .ok (.ifCond .ne 6, 3) := by decide +kernel
theorem dX10_polynomial_16 : decode cX10_polynomial 16 = .ok (.bipush (-2), 2) := by decide +kernel
theorem dX10_polynomial_18 : decode cX10_polynomial 18 = .ok (.ireturn, 1) := by decide +kernel
theorem dX10_polynomial_19 : decode cX10_polynomial 19 = .ok (.aload_n 0, 1) := by decide +kernel
theorem dX10_polynomial_20 : decode cX10_polynomial 20 = .ok (.getfield 18, 3) := by decide +kernel
theorem dX10_polynomial_23 : decode cX10_polynomial 23 = .ok (.aload_n 0, 1) := by decide +kernel
theorem dX10_polynomial_24 : decode cX10_polynomial 24 = .ok (.getfield 11, 3) := by decide +kernel
theorem dX10_polynomial_27 : decode cX10_polynomial 27 = .ok (.iload_n 1, 1) := by decide +kernel
theorem dX10_polynomial_28 : decode cX10_polynomial 28 = .ok (.aaload, 1) := by decide +kernel
theorem dX10_polynomial_29 : decode cX10_polynomial 29 = .ok (.iload_n 2, 1) := by decide +kernel
theorem dX10_polynomial_30 : decode cX10_polynomial 30 = .ok (.iload_n 3, 1) := by decide +kernel
theorem dX10_polynomial_31 : decode cX10_polynomial 31 = .ok (.invokevirtual 115, 3) := by decide +kernel
theorem dX10_polynomial_34 : decode cX10_polynomial 34 = .ok (.ireturn, 1) := by decide +kernel
theorem dX10_part_0 : decode cX10_part 0 = .ok (.iload_n 2, 1) := by decide +kernel
theorem dX10_part_1 : decode cX10_part 1 = .ok (.invokestatic 37, 3) := by decide +kernel
theorem dX10_part_4 : decode cX10_part 4 = .ok (.istore_n 3, 1) := by decide +kernel
theorem dX10_part_5 : decode cX10_part 5 = .ok (.iload_n 1, 1) := by decide +kernel
theorem dX10_part_6 : decode cX10_part 6 = .ok (.invokestatic 60, 3) := by decide +kernel
theorem dX10_part_9 : decode cX10_part 9 = .ok (.ifCond .eq 7, 3) := by decide +kernel
theorem dX10_part_12 : decode cX10_part 12 = .ok (.iload_n 3, 1) := by decide +kernel
theorem dX10_part_13 : decode cX10_part 13 = .ok (.ifCond .ne 9, 3) := by decide +kernel
theorem dX10_part_16 : decode cX10_part 16 = .ok (.bipush (-2), 2) := by decide +kernel
theorem dX10_part_18 : decode cX10_part 18 = .ok (.invokestatic 91, 3) := by decide +kernel
theorem dX10_part_21 : decode cX10_part 21 = .ok (.lreturn, 1) := by decide +kernel
theorem dX10_part_22 : decode cX10_part 22 = .ok (.aload_n 0, 1) := by decide +kernel
theorem dX10_part_23 : decode cX10_part 23 = .ok (.iload_n 1, 1) := by decide +kernel
theorem dX10_part_24 : decode cX10_part 24 = .ok (.invokevirtual 67, 3) := by decide +kernel
theorem dX10_part_27 : decode cX10_part 27 = .ok (.ifCond .eq 11, 3) := by decide +kernel
theorem dX10_part_30 : decode cX10_part 30 = .ok (.bipush (-3), 2) := by decide +kernel
theorem dX10_part_32 : decode cX10_part 32 = .ok (.invokestatic 91, 3) := by decide +kernel
theorem dX10_part_35 : decode cX10_part 35 = .ok (.goto 18, 3) := by decide +kernel
theorem dX10_part_38 : decode cX10_part 38 = .ok (.aload_n 0, 1) := by decide +kernel
theorem dX10_part_39 : decode cX10_part 39 = .ok (.getfield 18, 3) := by decide +kernel
theorem dX10_part_42 : decode cX10_part 42 = .ok (.aload_n 0, 1) := by decide +kernel
theorem dX10_part_43 : decode cX10_part 43 = .ok (.getfield 11, 3) := by decide +kernel
theorem dX10_part_46 : decode cX10_part 46 = .ok (.iload_n 1, 1) := by decide +kernel
theorem dX10_part_47 : decode cX10_part 47 = .ok (.aaload, 1) := by decide +kernel
theorem dX10_part_48 : decode cX10_part 48 = .ok (.iload_n 2, 1) := by decide +kernel
theorem dX10_part_49 : decode cX10_part 49 = .ok (.iload_n 3, 1) := by decide +kernel
theorem dX10_part_50 : decode cX10_part 50 = .ok (.invokevirtual 119, 3) := by decide +kernel
theorem dX10_part_53 : decode cX10_part 53 = .ok (.lreturn, 1) := by decide +kernel
theorem dX10_constant_0 : decode cX10_constant 0 = .ok (.iload_n 1, 1) := by decide +kernel
theorem dX10_constant_1 : decode cX10_constant 1 = .ok (.invokestatic 37, 3) := by decide +kernel
theorem dX10_constant_4 : decode cX10_constant 4 = .ok (.ifCond .eq 17, 3) := by decide +kernel
theorem dX10_constant_7 : decode cX10_constant 7 = .ok (.iload_n 2, 1) := by decide +kernel
theorem dX10_constant_8 : decode cX10_constant 8 = .ok (.invokestatic 37, 3) := by decide +kernel
theorem dX10_constant_11 : decode cX10_constant 11 = .ok (.ifCond .eq 10, 3) := by decide +kernel
theorem dX10_constant_14 : decode cX10_constant 14 = .ok (.iload_n 3, 1) := by decide +kernel
theorem dX10_constant_15 : decode cX10_constant 15 = .ok (.invokestatic 37, 3) := by decide +kernel
theorem dX10_constant_18 : decode cX10_constant 18 = .ok (.ifCond .ne 9, 3) := by decide +kernel
theorem dX10_constant_21 : decode cX10_constant 21 = .ok (.bipush (-2), 2) := by decide +kernel
theorem dX10_constant_23 : decode cX10_constant 23 = .ok (.invokestatic 91, 3) := by decide +kernel
theorem dX10_constant_26 : decode cX10_constant 26 = .ok (.lreturn, 1) := by decide +kernel
theorem dX10_constant_27 : decode cX10_constant 27 = .ok (.aload_n 0, 1) := by decide +kernel
theorem dX10_constant_28 : decode cX10_constant 28 = .ok (.getfield 18, 3) := by decide +kernel
theorem dX10_constant_31 : decode cX10_constant 31 = .ok (.iload_n 1, 1) := by decide +kernel
theorem dX10_constant_32 : decode cX10_constant 32 = .ok (.iload_n 2, 1) := by decide +kernel
theorem dX10_constant_33 : decode cX10_constant 33 = .ok (.iload_n 3, 1) := by decide +kernel
theorem dX10_constant_34 : decode cX10_constant 34 = .ok (.invokevirtual 123, 3) := by decide +kernel
theorem dX10_constant_37 : decode cX10_constant 37 = .ok (.lreturn, 1) := by decide +kernel
theorem dX10_same_0 : decode cX10_same 0 = .ok (.iload_n 1, 1) := by decide +kernel
theorem dX10_same_1 : decode cX10_same 1 = .ok (.invokestatic 60, 3) := by decide +kernel
theorem dX10_same_4 : decode cX10_same 4 = .ok (.ifCond .eq 10, 3) := by decide +kernel
theorem dX10_same_7 : decode cX10_same 7 = .ok (.iload_n 2, 1) := by decide +kernel
theorem dX10_same_8 : decode cX10_same 8 = .ok (.invokestatic 60, 3) := by decide +kernel
theorem dX10_same_11 : decode cX10_same 11 = .ok (.ifCond .ne 6, 3) := by decide +kernel
theorem dX10_same_14 : decode cX10_same 14 = .ok (.bipush (-2), 2) := by decide +kernel
theorem dX10_same_16 : decode cX10_same 16 = .ok (.ireturn, 1) := by decide +kernel
theorem dX10_same_17 : decode cX10_same 17 = .ok (.aload_n 0, 1) := by decide +kernel
theorem dX10_same_18 : decode cX10_same 18 = .ok (.iload_n 1, 1) := by decide +kernel
theorem dX10_same_19 : decode cX10_same 19 = .ok (.invokevirtual 67, 3) := by decide +kernel
theorem dX10_same_22 : decode cX10_same 22 = .ok (.ifCond .ne 11, 3) := by decide +kernel
theorem dX10_same_25 : decode cX10_same 25 = .ok (.aload_n 0, 1) := by decide +kernel
theorem dX10_same_26 : decode cX10_same 26 = .ok (.iload_n 2, 1) := by decide +kernel
theorem dX10_same_27 : decode cX10_same 27 = .ok (.invokevirtual 67, 3) := by decide +kernel
theorem dX10_same_30 : decode cX10_same 30 = .ok (.ifCond .eq 6, 3) := by decide +kernel
theorem dX10_same_33 : decode cX10_same 33 = .ok (.bipush (-3), 2) := by decide +kernel
theorem dX10_same_35 : decode cX10_same 35 = .ok (.ireturn, 1) := by decide +kernel
theorem dX10_same_36 : decode cX10_same 36 = .ok (.aload_n 0, 1) := by decide +kernel
theorem dX10_same_37 : decode cX10_same 37 = .ok (.getfield 11, 3) := by decide +kernel
theorem dX10_same_40 : decode cX10_same 40 = .ok (.iload_n 1, 1) := by decide +kernel
theorem dX10_same_41 : decode cX10_same 41 = .ok (.aaload, 1) := by decide +kernel
theorem dX10_same_42 : decode cX10_same 42 = .ok (.aload_n 0, 1) := by decide +kernel
theorem dX10_same_43 : decode cX10_same 43 = .ok (.getfield 11, 3) := by decide +kernel
theorem dX10_same_46 : decode cX10_same 46 = .ok (.iload_n 2, 1) := by decide +kernel
theorem dX10_same_47 : decode cX10_same 47 = .ok (.aaload, 1) := by decide +kernel
theorem dX10_same_48 : decode cX10_same 48 = .ok (.invokevirtual 127, 3) := by decide +kernel
theorem dX10_same_51 : decode cX10_same 51 = .ok (.ifCond .eq 7, 3) := by decide +kernel
theorem dX10_same_54 : decode cX10_same 54 = .ok (.iconst 1, 1) := by decide +kernel
theorem dX10_same_55 : decode cX10_same 55 = .ok (.goto 4, 3) := by decide +kernel
theorem dX10_same_58 : decode cX10_same 58 = .ok (.iconst 0, 1) := by decide +kernel
theorem dX10_same_59 : decode cX10_same 59 = .ok (.ireturn, 1) := by decide +kernel
theorem dX10_strip_0 : decode cX10_strip 0 = .ok (.iload_n 1, 1) := by decide +kernel
theorem dX10_strip_1 : decode cX10_strip 1 = .ok (.iload_n 2, 1) := by decide +kernel
theorem dX10_strip_2 : decode cX10_strip 2 = .ok (.iload_n 3, 1) := by decide +kernel
theorem dX10_strip_3 : decode cX10_strip 3 = .ok (.invokestatic 131, 3) := by decide +kernel
theorem dX10_strip_6 : decode cX10_strip 6 = .ok (.ifCond .eq 15, 3) := by decide +kernel
theorem dX10_strip_9 : decode cX10_strip 9 = .ok (.iload 4, 2) := by decide +kernel
theorem dX10_strip_11 : decode cX10_strip 11 = .ok (.ifCond .lt 10, 3) := by decide +kernel
theorem dX10_strip_14 : decode cX10_strip 14 = .ok (.iload 4, 2) := by decide +kernel
theorem dX10_strip_16 : decode cX10_strip 16 = .ok (.bipush 16, 2) := by decide +kernel
theorem dX10_strip_18 : decode cX10_strip 18 = .ok (.if_icmp .le 6, 3) := by decide +kernel
theorem dX10_strip_21 : decode cX10_strip 21 = .ok (.bipush (-2), 2) := by decide +kernel
theorem dX10_strip_23 : decode cX10_strip 23 = .ok (.ireturn, 1) := by decide +kernel
theorem dX10_strip_24 : decode cX10_strip 24 = .ok (.iload_n 1, 1) := by decide +kernel
theorem dX10_strip_25 : decode cX10_strip 25 = .ok (.iload_n 2, 1) := by decide +kernel
theorem dX10_strip_26 : decode cX10_strip 26 = .ok (.iload_n 3, 1) := by decide +kernel
theorem dX10_strip_27 : decode cX10_strip 27 = .ok (.iload 4, 2) := by decide +kernel
theorem dX10_strip_29 : decode cX10_strip 29 = .ok (.iload 5, 2) := by decide +kernel
theorem dX10_strip_31 : decode cX10_strip 31 = .ok (.invokestatic 137, 3) := by decide +kernel
theorem dX10_strip_34 : decode cX10_strip 34 = .ok (.ireturn, 1) := by decide +kernel
theorem dX10_fillings_0 : decode cX10_fillings 0 = .ok (.iload_n 1, 1) := by decide +kernel
theorem dX10_fillings_1 : decode cX10_fillings 1 = .ok (.iload_n 2, 1) := by decide +kernel
theorem dX10_fillings_2 : decode cX10_fillings 2 = .ok (.iload_n 3, 1) := by decide +kernel
theorem dX10_fillings_3 : decode cX10_fillings 3 = .ok (.invokestatic 131, 3) := by decide +kernel
theorem dX10_fillings_6 : decode cX10_fillings 6 = .ok (.ifCond .eq 23, 3) := by decide +kernel
theorem dX10_fillings_9 : decode cX10_fillings 9 = .ok (.iload_n 1, 1) := by decide +kernel
theorem dX10_fillings_10 : decode cX10_fillings 10 = .ok (.iload_n 2, 1) := by decide +kernel
theorem dX10_fillings_11 : decode cX10_fillings 11 = .ok (.iload 4, 2) := by decide +kernel
theorem dX10_fillings_13 : decode cX10_fillings 13 = .ok (.invokestatic 131, 3) := by decide +kernel
theorem dX10_fillings_16 : decode cX10_fillings 16 = .ok (.ifCond .eq 13, 3) := by decide +kernel
theorem dX10_fillings_19 : decode cX10_fillings 19 = .ok (.iload_n 1, 1) := by decide +kernel
theorem dX10_fillings_20 : decode cX10_fillings 20 = .ok (.iload_n 2, 1) := by decide +kernel
theorem dX10_fillings_21 : decode cX10_fillings 21 = .ok (.iload 5, 2) := by decide +kernel
theorem dX10_fillings_23 : decode cX10_fillings 23 = .ok (.invokestatic 131, 3) := by decide +kernel
theorem dX10_fillings_26 : decode cX10_fillings 26 = .ok (.ifCond .ne 6, 3) := by decide +kernel
theorem dX10_fillings_29 : decode cX10_fillings 29 = .ok (.bipush (-2), 2) := by decide +kernel
theorem dX10_fillings_31 : decode cX10_fillings 31 = .ok (.ireturn, 1) := by decide +kernel
theorem dX10_fillings_32 : decode cX10_fillings 32 = .ok (.aload_n 0, 1) := by decide +kernel
theorem dX10_fillings_33 : decode cX10_fillings 33 = .ok (.getfield 25, 3) := by decide +kernel
theorem dX10_fillings_36 : decode cX10_fillings 36 = .ok (.invokevirtual 141, 3) := by decide +kernel
theorem dX10_fillings_39 : decode cX10_fillings 39 = .ok (.iload_n 1, 1) := by decide +kernel
theorem dX10_fillings_40 : decode cX10_fillings 40 = .ok (.iload_n 3, 1) := by decide +kernel
theorem dX10_fillings_41 : decode cX10_fillings 41 = .ok (.iload 4, 2) := by decide +kernel
theorem dX10_fillings_43 : decode cX10_fillings 43 = .ok (.iload 5, 2) := by decide +kernel
theorem dX10_fillings_45 : decode cX10_fillings 45 = .ok (.invokevirtual 145, 3) := by decide +kernel
theorem dX10_fillings_48 : decode cX10_fillings 48 = .ok (.ireturn, 1) := by decide +kernel
theorem dX10_orderOf_0 : decode cX10_orderOf 0 = .ok (.iload_n 1, 1) := by decide +kernel
theorem dX10_orderOf_1 : decode cX10_orderOf 1 = .ok (.iload_n 2, 1) := by decide +kernel
theorem dX10_orderOf_2 : decode cX10_orderOf 2 = .ok (.iload_n 3, 1) := by decide +kernel
theorem dX10_orderOf_3 : decode cX10_orderOf 3 = .ok (.invokestatic 131, 3) := by decide +kernel
theorem dX10_orderOf_6 : decode cX10_orderOf 6 = .ok (.ifCond .eq 10, 3) := by decide +kernel
theorem dX10_orderOf_9 : decode cX10_orderOf 9 = .ok (.iload_n 1, 1) := by decide +kernel
theorem dX10_orderOf_10 : decode cX10_orderOf 10 = .ok (.iload_n 2, 1) := by decide +kernel
theorem dX10_orderOf_11 : decode cX10_orderOf 11 = .ok (.iadd, 1) := by decide +kernel
theorem dX10_orderOf_12 : decode cX10_orderOf 12 = .ok (.iconst 5, 1) := by decide +kernel
theorem dX10_orderOf_13 : decode cX10_orderOf 13 = .ok (.if_icmp .le 6, 3) := by decide +kernel
theorem dX10_orderOf_16 : decode cX10_orderOf 16 = .ok (.bipush (-2), 2) := by decide +kernel
theorem dX10_orderOf_18 : decode cX10_orderOf 18 = .ok (.ireturn, 1) := by decide +kernel
theorem dX10_orderOf_19 : decode cX10_orderOf 19 = .ok (.iload_n 1, 1) := by decide +kernel
theorem dX10_orderOf_20 : decode cX10_orderOf 20 = .ok (.iload_n 2, 1) := by decide +kernel
theorem dX10_orderOf_21 : decode cX10_orderOf 21 = .ok (.iload_n 3, 1) := by decide +kernel
theorem dX10_orderOf_22 : decode cX10_orderOf 22 = .ok (.invokestatic 150, 3) := by decide +kernel
theorem dX10_orderOf_25 : decode cX10_orderOf 25 = .ok (.ireturn, 1) := by decide +kernel
theorem dX10_begin_0 : decode cX10_begin 0 = .ok (.iload_n 1, 1) := by decide +kernel
theorem dX10_begin_1 : decode cX10_begin 1 = .ok (.iload_n 2, 1) := by decide +kernel
theorem dX10_begin_2 : decode cX10_begin 2 = .ok (.invokestatic 154, 3) := by decide +kernel
theorem dX10_begin_5 : decode cX10_begin 5 = .ok (.ifCond .ne 6, 3) := by decide +kernel
theorem dX10_begin_8 : decode cX10_begin 8 = .ok (.bipush (-2), 2) := by decide +kernel
theorem dX10_begin_10 : decode cX10_begin 10 = .ok (.ireturn, 1) := by decide +kernel
theorem dX10_begin_11 : decode cX10_begin 11 = .ok (.aload_n 0, 1) := by decide +kernel
theorem dX10_begin_12 : decode cX10_begin 12 = .ok (.getfield 25, 3) := by decide +kernel
theorem dX10_begin_15 : decode cX10_begin 15 = .ok (.iload_n 1, 1) := by decide +kernel
theorem dX10_begin_16 : decode cX10_begin 16 = .ok (.iload_n 2, 1) := by decide +kernel
theorem dX10_begin_17 : decode cX10_begin 17 = .ok (.invokevirtual 158, 3) := by decide +kernel
theorem dX10_begin_20 : decode cX10_begin 20 = .ok (.ireturn, 1) := by decide +kernel
theorem dX10_condition_0 : decode cX10_condition 0 = .ok (.aload_n 0, 1) := by decide +kernel
theorem dX10_condition_1 : decode cX10_condition 1 = .ok (.getfield 25, 3) := by decide +kernel
theorem dX10_condition_4 : decode cX10_condition 4 = .ok (.invokevirtual 161, 3) := by decide +kernel
theorem dX10_condition_7 : decode cX10_condition 7 = .ok (.aload_n 0, 1) := by decide +kernel
theorem dX10_condition_8 : decode cX10_condition 8 = .ok (.getfield 25, 3) := by decide +kernel
theorem dX10_condition_11 : decode cX10_condition 11 = .ok (.invokevirtual 164, 3) := by decide +kernel
theorem dX10_condition_14 : decode cX10_condition 14 = .ok (.iload_n 1, 1) := by decide +kernel
theorem dX10_condition_15 : decode cX10_condition 15 = .ok (.invokestatic 131, 3) := by decide +kernel
theorem dX10_condition_18 : decode cX10_condition 18 = .ok (.ifCond .ne 6, 3) := by decide +kernel
theorem dX10_condition_21 : decode cX10_condition 21 = .ok (.bipush (-2), 2) := by decide +kernel
theorem dX10_condition_23 : decode cX10_condition 23 = .ok (.ireturn, 1) := by decide +kernel
theorem dX10_condition_24 : decode cX10_condition 24 = .ok (.aload_n 0, 1) := by decide +kernel
theorem dX10_condition_25 : decode cX10_condition 25 = .ok (.getfield 25, 3) := by decide +kernel
theorem dX10_condition_28 : decode cX10_condition 28 = .ok (.iload_n 1, 1) := by decide +kernel
theorem dX10_condition_29 : decode cX10_condition 29 = .ok (.invokevirtual 167, 3) := by decide +kernel
theorem dX10_condition_32 : decode cX10_condition 32 = .ok (.ireturn, 1) := by decide +kernel
theorem dX10_meeting_0 : decode cX10_meeting 0 = .ok (.aload_n 0, 1) := by decide +kernel
theorem dX10_meeting_1 : decode cX10_meeting 1 = .ok (.getfield 25, 3) := by decide +kernel
theorem dX10_meeting_4 : decode cX10_meeting 4 = .ok (.invokevirtual 170, 3) := by decide +kernel
theorem dX10_meeting_7 : decode cX10_meeting 7 = .ok (.lreturn, 1) := by decide +kernel
theorem dX10_field_0 : decode cX10_field 0 = .ok (.iload_n 1, 1) := by decide +kernel
theorem dX10_field_1 : decode cX10_field 1 = .ok (.iconst 2, 1) := by decide +kernel
theorem dX10_field_2 : decode cX10_field 2 = .ok (.if_icmp .eq 16, 3) := by decide +kernel
theorem dX10_field_5 : decode cX10_field 5 = .ok (.iload_n 1, 1) := by decide +kernel
theorem dX10_field_6 : decode cX10_field 6 = .ok (.iconst 3, 1) := by decide +kernel
theorem dX10_field_7 : decode cX10_field 7 = .ok (.if_icmp .eq 11, 3) := by decide +kernel
theorem dX10_field_10 : decode cX10_field 10 = .ok (.iload_n 1, 1) := by decide +kernel
theorem dX10_field_11 : decode cX10_field 11 = .ok (.iconst 5, 1) := by decide +kernel
theorem dX10_field_12 : decode cX10_field 12 = .ok (.if_icmp .eq 6, 3) := by decide +kernel
theorem dX10_field_15 : decode cX10_field 15 = .ok (.bipush (-2), 2) := by decide +kernel
theorem dX10_field_17 : decode cX10_field 17 = .ok (.ireturn, 1) := by decide +kernel
theorem dX10_field_18 : decode cX10_field 18 = .ok (.aload_n 0, 1) := by decide +kernel
theorem dX10_field_19 : decode cX10_field 19 = .ok (.getfield 32, 3) := by decide +kernel
theorem dX10_field_22 : decode cX10_field 22 = .ok (.iload_n 1, 1) := by decide +kernel
theorem dX10_field_23 : decode cX10_field 23 = .ok (.invokevirtual 174, 3) := by decide +kernel
theorem dX10_field_26 : decode cX10_field 26 = .ok (.ireturn, 1) := by decide +kernel
theorem dX10_rod_0 : decode cX10_rod 0 = .ok (.iload_n 1, 1) := by decide +kernel
theorem dX10_rod_1 : decode cX10_rod 1 = .ok (.invokestatic 177, 3) := by decide +kernel
theorem dX10_rod_4 : decode cX10_rod 4 = .ok (.ifCond .eq 25, 3) := by decide +kernel
theorem dX10_rod_7 : decode cX10_rod 7 = .ok (.aload_n 0, 1) := by decide +kernel
theorem dX10_rod_8 : decode cX10_rod 8 = .ok (.getfield 32, 3) := by decide +kernel
theorem dX10_rod_11 : decode cX10_rod 11 = .ok (.iload_n 2, 1) := by decide +kernel
theorem dX10_rod_12 : decode cX10_rod 12 = .ok (.invokevirtual 180, 3) := by decide +kernel
theorem dX10_rod_15 : decode cX10_rod 15 = .ok (.ifCond .eq 14, 3) := by decide +kernel
theorem dX10_rod_18 : decode cX10_rod 18 = .ok (.aload_n 0, 1) := by decide +kernel
theorem dX10_rod_19 : decode cX10_rod 19 = .ok (.getfield 32, 3) := by decide +kernel
theorem dX10_rod_22 : decode cX10_rod 22 = .ok (.iload_n 3, 1) := by decide +kernel
theorem dX10_rod_23 : decode cX10_rod 23 = .ok (.invokevirtual 180, 3) := by decide +kernel
theorem dX10_rod_26 : decode cX10_rod 26 = .ok (.ifCond .ne 6, 3) := by decide +kernel
theorem dX10_rod_29 : decode cX10_rod 29 = .ok (.bipush (-2), 2) := by decide +kernel
theorem dX10_rod_31 : decode cX10_rod 31 = .ok (.ireturn, 1) := by decide +kernel
theorem dX10_rod_32 : decode cX10_rod 32 = .ok (.aload_n 0, 1) := by decide +kernel
theorem dX10_rod_33 : decode cX10_rod 33 = .ok (.getfield 32, 3) := by decide +kernel
theorem dX10_rod_36 : decode cX10_rod 36 = .ok (.iload_n 1, 1) := by decide +kernel
theorem dX10_rod_37 : decode cX10_rod 37 = .ok (.iload_n 2, 1) := by decide +kernel
theorem dX10_rod_38 : decode cX10_rod 38 = .ok (.iload_n 3, 1) := by decide +kernel
theorem dX10_rod_39 : decode cX10_rod 39 = .ok (.invokevirtual 183, 3) := by decide +kernel
theorem dX10_rod_42 : decode cX10_rod 42 = .ok (.ifCond .eq 7, 3) := by decide +kernel
theorem dX10_rod_45 : decode cX10_rod 45 = .ok (.iconst 1, 1) := by decide +kernel
theorem dX10_rod_46 : decode cX10_rod 46 = .ok (.goto 5, 3) := by decide +kernel
theorem dX10_rod_49 : decode cX10_rod 49 = .ok (.bipush (-2), 2) := by decide +kernel
theorem dX10_rod_51 : decode cX10_rod 51 = .ok (.ireturn, 1) := by decide +kernel
theorem dX10_drop_0 : decode cX10_drop 0 = .ok (.iload_n 1, 1) := by decide +kernel
theorem dX10_drop_1 : decode cX10_drop 1 = .ok (.invokestatic 177, 3) := by decide +kernel
theorem dX10_drop_4 : decode cX10_drop 4 = .ok (.ifCond .ne 6, 3) := by decide +kernel
theorem dX10_drop_7 : decode cX10_drop 7 = .ok (.bipush (-2), 2) := by decide +kernel
theorem dX10_drop_9 : decode cX10_drop 9 = .ok (.ireturn, 1) := by decide +kernel
theorem dX10_drop_10 : decode cX10_drop 10 = .ok (.aload_n 0, 1) := by decide +kernel
theorem dX10_drop_11 : decode cX10_drop 11 = .ok (.getfield 32, 3) := by decide +kernel
theorem dX10_drop_14 : decode cX10_drop 14 = .ok (.iload_n 1, 1) := by decide +kernel
theorem dX10_drop_15 : decode cX10_drop 15 = .ok (.invokevirtual 186, 3) := by decide +kernel
theorem dX10_drop_18 : decode cX10_drop 18 = .ok (.ifCond .eq 7, 3) := by decide +kernel
theorem dX10_drop_21 : decode cX10_drop 21 = .ok (.iconst 1, 1) := by decide +kernel
theorem dX10_drop_22 : decode cX10_drop 22 = .ok (.goto 5, 3) := by decide +kernel
theorem dX10_drop_25 : decode cX10_drop 25 = .ok (.bipush (-3), 2) := by decide +kernel
theorem dX10_drop_27 : decode cX10_drop 27 = .ok (.ireturn, 1) := by decide +kernel
theorem dX10_meet_0 : decode cX10_meet 0 = .ok (.iload_n 1, 1) := by decide +kernel
theorem dX10_meet_1 : decode cX10_meet 1 = .ok (.invokestatic 177, 3) := by decide +kernel
theorem dX10_meet_4 : decode cX10_meet 4 = .ok (.ifCond .eq 10, 3) := by decide +kernel
theorem dX10_meet_7 : decode cX10_meet 7 = .ok (.iload_n 2, 1) := by decide +kernel
theorem dX10_meet_8 : decode cX10_meet 8 = .ok (.invokestatic 177, 3) := by decide +kernel
theorem dX10_meet_11 : decode cX10_meet 11 = .ok (.ifCond .ne 6, 3) := by decide +kernel
theorem dX10_meet_14 : decode cX10_meet 14 = .ok (.bipush (-2), 2) := by decide +kernel
theorem dX10_meet_16 : decode cX10_meet 16 = .ok (.ireturn, 1) := by decide +kernel
theorem dX10_meet_17 : decode cX10_meet 17 = .ok (.aload_n 0, 1) := by decide +kernel
theorem dX10_meet_18 : decode cX10_meet 18 = .ok (.getfield 32, 3) := by decide +kernel
theorem dX10_meet_21 : decode cX10_meet 21 = .ok (.iload_n 1, 1) := by decide +kernel
theorem dX10_meet_22 : decode cX10_meet 22 = .ok (.iload_n 2, 1) := by decide +kernel
theorem dX10_meet_23 : decode cX10_meet 23 = .ok (.invokevirtual 189, 3) := by decide +kernel
theorem dX10_meet_26 : decode cX10_meet 26 = .ok (.ireturn, 1) := by decide +kernel
theorem dX10_lines_0 : decode cX10_lines 0 = .ok (.iload_n 1, 1) := by decide +kernel
theorem dX10_lines_1 : decode cX10_lines 1 = .ok (.invokestatic 192, 3) := by decide +kernel
theorem dX10_lines_4 : decode cX10_lines 4 = .ok (.ifCond .ne 6, 3) := by decide +kernel
theorem dX10_lines_7 : decode cX10_lines 7 = .ok (.bipush (-2), 2) := by decide +kernel
theorem dX10_lines_9 : decode cX10_lines 9 = .ok (.ireturn, 1) := by decide +kernel
theorem dX10_lines_10 : decode cX10_lines 10 = .ok (.aload_n 0, 1) := by decide +kernel
theorem dX10_lines_11 : decode cX10_lines 11 = .ok (.getfield 32, 3) := by decide +kernel
theorem dX10_lines_14 : decode cX10_lines 14 = .ok (.iload_n 1, 1) := by decide +kernel
theorem dX10_lines_15 : decode cX10_lines 15 = .ok (.invokevirtual 195, 3) := by decide +kernel
theorem dX10_lines_18 : decode cX10_lines 18 = .ok (.ifCond .eq 14, 3) := by decide +kernel
theorem dX10_lines_21 : decode cX10_lines 21 = .ok (.aload_n 0, 1) := by decide +kernel
theorem dX10_lines_22 : decode cX10_lines 22 = .ok (.getfield 32, 3) := by decide +kernel
theorem dX10_lines_25 : decode cX10_lines 25 = .ok (.iload_n 1, 1) := by decide +kernel
theorem dX10_lines_26 : decode cX10_lines 26 = .ok (.invokevirtual 198, 3) := by decide +kernel
theorem dX10_lines_29 : decode cX10_lines 29 = .ok (.goto 5, 3) := by decide +kernel
theorem dX10_lines_32 : decode cX10_lines 32 = .ok (.bipush (-3), 2) := by decide +kernel
theorem dX10_lines_34 : decode cX10_lines 34 = .ok (.ireturn, 1) := by decide +kernel
theorem dX10_points_0 : decode cX10_points 0 = .ok (.iload_n 1, 1) := by decide +kernel
theorem dX10_points_1 : decode cX10_points 1 = .ok (.invokestatic 192, 3) := by decide +kernel
theorem dX10_points_4 : decode cX10_points 4 = .ok (.ifCond .ne 6, 3) := by decide +kernel
theorem dX10_points_7 : decode cX10_points 7 = .ok (.bipush (-2), 2) := by decide +kernel
theorem dX10_points_9 : decode cX10_points 9 = .ok (.ireturn, 1) := by decide +kernel
theorem dX10_points_10 : decode cX10_points 10 = .ok (.aload_n 0, 1) := by decide +kernel
theorem dX10_points_11 : decode cX10_points 11 = .ok (.getfield 32, 3) := by decide +kernel
theorem dX10_points_14 : decode cX10_points 14 = .ok (.iload_n 1, 1) := by decide +kernel
theorem dX10_points_15 : decode cX10_points 15 = .ok (.invokevirtual 195, 3) := by decide +kernel
theorem dX10_points_18 : decode cX10_points 18 = .ok (.ifCond .eq 14, 3) := by decide +kernel
theorem dX10_points_21 : decode cX10_points 21 = .ok (.aload_n 0, 1) := by decide +kernel
theorem dX10_points_22 : decode cX10_points 22 = .ok (.getfield 32, 3) := by decide +kernel
theorem dX10_points_25 : decode cX10_points 25 = .ok (.iload_n 1, 1) := by decide +kernel
theorem dX10_points_26 : decode cX10_points 26 = .ok (.invokevirtual 201, 3) := by decide +kernel
theorem dX10_points_29 : decode cX10_points 29 = .ok (.goto 5, 3) := by decide +kernel
theorem dX10_points_32 : decode cX10_points 32 = .ok (.bipush (-3), 2) := by decide +kernel
theorem dX10_points_34 : decode cX10_points 34 = .ok (.ireturn, 1) := by decide +kernel
theorem dX10_count_0 : decode cX10_count 0 = .ok (.iload_n 1, 1) := by decide +kernel
theorem dX10_count_1 : decode cX10_count 1 = .ok (.tableswitch 84 0 5 #[39, 44, 52, 60, 68, 76], 39) := by decide +kernel
theorem dX10_count_40 : decode cX10_count 40 = .ok (.aload_n 0, 1) := by decide +kernel
theorem dX10_count_41 : decode cX10_count 41 = .ok (.invokevirtual 204, 3) := by decide +kernel
theorem dX10_count_44 : decode cX10_count 44 = .ok (.ireturn, 1) := by decide +kernel
theorem dX10_count_45 : decode cX10_count 45 = .ok (.aload_n 0, 1) := by decide +kernel
theorem dX10_count_46 : decode cX10_count 46 = .ok (.getfield 25, 3) := by decide +kernel
theorem dX10_count_49 : decode cX10_count 49 = .ok (.invokevirtual 207, 3) := by decide +kernel
theorem dX10_count_52 : decode cX10_count 52 = .ok (.ireturn, 1) := by decide +kernel
theorem dX10_count_53 : decode cX10_count 53 = .ok (.aload_n 0, 1) := by decide +kernel
theorem dX10_count_54 : decode cX10_count 54 = .ok (.getfield 25, 3) := by decide +kernel
theorem dX10_count_57 : decode cX10_count 57 = .ok (.invokevirtual 161, 3) := by decide +kernel
theorem dX10_count_60 : decode cX10_count 60 = .ok (.ireturn, 1) := by decide +kernel
theorem dX10_count_61 : decode cX10_count 61 = .ok (.aload_n 0, 1) := by decide +kernel
theorem dX10_count_62 : decode cX10_count 62 = .ok (.getfield 25, 3) := by decide +kernel
theorem dX10_count_65 : decode cX10_count 65 = .ok (.invokevirtual 164, 3) := by decide +kernel
theorem dX10_count_68 : decode cX10_count 68 = .ok (.ireturn, 1) := by decide +kernel
theorem dX10_count_69 : decode cX10_count 69 = .ok (.aload_n 0, 1) := by decide +kernel
theorem dX10_count_70 : decode cX10_count 70 = .ok (.getfield 32, 3) := by decide +kernel
theorem dX10_count_73 : decode cX10_count 73 = .ok (.invokevirtual 208, 3) := by decide +kernel
theorem dX10_count_76 : decode cX10_count 76 = .ok (.ireturn, 1) := by decide +kernel
theorem dX10_count_77 : decode cX10_count 77 = .ok (.aload_n 0, 1) := by decide +kernel
theorem dX10_count_78 : decode cX10_count 78 = .ok (.getfield 32, 3) := by decide +kernel
theorem dX10_count_81 : decode cX10_count 81 = .ok (.invokevirtual 211, 3) := by decide +kernel
theorem dX10_count_84 : decode cX10_count 84 = .ok (.ireturn, 1) := by decide +kernel
theorem dX10_count_85 : decode cX10_count 85 = .ok (.bipush (-2), 2) := by decide +kernel
theorem dX10_count_87 : decode cX10_count 87 = .ok (.ireturn, 1) := by decide +kernel
theorem dX10_digest_0 : decode cX10_digest 0 = .ok (.ldc2_w 214, 3) := by decide +kernel
theorem dX10_digest_3 : decode cX10_digest 3 = .ok (.lstore_n 1, 1) := by decide +kernel
theorem dX10_digest_4 : decode cX10_digest 4 = .ok (.iconst 0, 1) := by decide +kernel
theorem dX10_digest_5 : decode cX10_digest 5 = .ok (.istore_n 3, 1) := by decide +kernel
theorem dX10_digest_6 : decode cX10_digest 6 = .ok (.iload_n 3, 1) := by decide +kernel
theorem dX10_digest_7 : decode cX10_digest 7 = .ok (.iconst 5, 1) := by decide +kernel
theorem dX10_digest_8 : decode cX10_digest 8 = .ok (.if_icmp .gt 22, 3) := by decide +kernel
theorem dX10_digest_11 : decode cX10_digest 11 = .ok (.ldc2_w 216, 3) := by decide +kernel
theorem dX10_digest_14 : decode cX10_digest 14 = .ok (.lload_n 1, 1) := by decide +kernel
theorem dX10_digest_15 : decode cX10_digest 15 = .ok (.lmul, 1) := by decide +kernel
theorem dX10_digest_16 : decode cX10_digest 16 = .ok (.aload_n 0, 1) := by decide +kernel
theorem dX10_digest_17 : decode cX10_digest 17 = .ok (.iload_n 3, 1) := by decide +kernel
theorem dX10_digest_18 : decode cX10_digest 18 = .ok (.invokevirtual 218, 3) := by decide +kernel
theorem dX10_digest_21 : decode cX10_digest 21 = .ok (.i2l, 1) := by decide +kernel
theorem dX10_digest_22 : decode cX10_digest 22 = .ok (.ladd, 1) := by decide +kernel
theorem dX10_digest_23 : decode cX10_digest 23 = .ok (.lstore_n 1, 1) := by decide +kernel
theorem dX10_digest_24 : decode cX10_digest 24 = .ok (.iinc 3 1, 3) := by decide +kernel
theorem dX10_digest_27 : decode cX10_digest 27 = .ok (.goto (-21), 3) := by decide +kernel
theorem dX10_digest_30 : decode cX10_digest 30 = .ok (.iconst 0, 1) := by decide +kernel
theorem dX10_digest_31 : decode cX10_digest 31 = .ok (.istore_n 3, 1) := by decide +kernel
theorem dX10_digest_32 : decode cX10_digest 32 = .ok (.iload_n 3, 1) := by decide +kernel
theorem dX10_digest_33 : decode cX10_digest 33 = .ok (.bipush 12, 2) := by decide +kernel
theorem dX10_digest_35 : decode cX10_digest 35 = .ok (.if_icmp .ge 35, 3) := by decide +kernel
theorem dX10_digest_38 : decode cX10_digest 38 = .ok (.aload_n 0, 1) := by decide +kernel
theorem dX10_digest_39 : decode cX10_digest 39 = .ok (.iload_n 3, 1) := by decide +kernel
theorem dX10_digest_40 : decode cX10_digest 40 = .ok (.invokevirtual 67, 3) := by decide +kernel
theorem dX10_digest_43 : decode cX10_digest 43 = .ok (.ifCond .ne 21, 3) := by decide +kernel
theorem dX10_digest_46 : decode cX10_digest 46 = .ok (.aload_n 0, 1) := by decide +kernel
theorem dX10_digest_47 : decode cX10_digest 47 = .ok (.getfield 11, 3) := by decide +kernel
theorem dX10_digest_50 : decode cX10_digest 50 = .ok (.iload_n 3, 1) := by decide +kernel
theorem dX10_digest_51 : decode cX10_digest 51 = .ok (.aaload, 1) := by decide +kernel
theorem dX10_digest_52 : decode cX10_digest 52 = .ok (.ldc2_w 216, 3) := by decide +kernel
theorem dX10_digest_55 : decode cX10_digest 55 = .ok (.lload_n 1, 1) := by decide +kernel
theorem dX10_digest_56 : decode cX10_digest 56 = .ok (.lmul, 1) := by decide +kernel
theorem dX10_digest_57 : decode cX10_digest 57 = .ok (.iload_n 3, 1) := by decide +kernel
theorem dX10_digest_58 : decode cX10_digest 58 = .ok (.i2l, 1) := by decide +kernel
theorem dX10_digest_59 : decode cX10_digest 59 = .ok (.ladd, 1) := by decide +kernel
theorem dX10_digest_60 : decode cX10_digest 60 = .ok (.invokevirtual 221, 3) := by decide +kernel
theorem dX10_digest_63 : decode cX10_digest 63 = .ok (.lstore_n 1, 1) := by decide +kernel
theorem dX10_digest_64 : decode cX10_digest 64 = .ok (.iinc 3 1, 3) := by decide +kernel
theorem dX10_digest_67 : decode cX10_digest 67 = .ok (.goto (-35), 3) := by decide +kernel
theorem dX10_digest_70 : decode cX10_digest 70 = .ok (.aload_n 0, 1) := by decide +kernel
theorem dX10_digest_71 : decode cX10_digest 71 = .ok (.getfield 25, 3) := by decide +kernel
theorem dX10_digest_74 : decode cX10_digest 74 = .ok (.lload_n 1, 1) := by decide +kernel
theorem dX10_digest_75 : decode cX10_digest 75 = .ok (.invokevirtual 225, 3) := by decide +kernel
theorem dX10_digest_78 : decode cX10_digest 78 = .ok (.lreturn, 1) := by decide +kernel
theorem dX10_isSheet_0 : decode cX10_isSheet 0 = .ok (.iload_n 0, 1) := by decide +kernel
theorem dX10_isSheet_1 : decode cX10_isSheet 1 = .ok (.ifCond .lt 13, 3) := by decide +kernel
theorem dX10_isSheet_4 : decode cX10_isSheet 4 = .ok (.iload_n 0, 1) := by decide +kernel
theorem dX10_isSheet_5 : decode cX10_isSheet 5 = .ok (.bipush 12, 2) := by decide +kernel
theorem dX10_isSheet_7 : decode cX10_isSheet 7 = .ok (.if_icmp .ge 7, 3) := by decide +kernel
theorem dX10_isSheet_10 : decode cX10_isSheet 10 = .ok (.iconst 1, 1) := by decide +kernel
theorem dX10_isSheet_11 : decode cX10_isSheet 11 = .ok (.goto 4, 3) := by decide +kernel
theorem dX10_isSheet_14 : decode cX10_isSheet 14 = .ok (.iconst 0, 1) := by decide +kernel
theorem dX10_isSheet_15 : decode cX10_isSheet 15 = .ok (.ireturn, 1) := by decide +kernel
theorem dX10_isLost_0 : decode cX10_isLost 0 = .ok (.iload_n 1, 1) := by decide +kernel
theorem dX10_isLost_1 : decode cX10_isLost 1 = .ok (.invokestatic 60, 3) := by decide +kernel
theorem dX10_isLost_4 : decode cX10_isLost 4 = .ok (.ifCond .eq 15, 3) := by decide +kernel
theorem dX10_isLost_7 : decode cX10_isLost 7 = .ok (.aload_n 0, 1) := by decide +kernel
theorem dX10_isLost_8 : decode cX10_isLost 8 = .ok (.getfield 11, 3) := by decide +kernel
theorem dX10_isLost_11 : decode cX10_isLost 11 = .ok (.iload_n 1, 1) := by decide +kernel
theorem dX10_isLost_12 : decode cX10_isLost 12 = .ok (.aaload, 1) := by decide +kernel
theorem dX10_isLost_13 : decode cX10_isLost 13 = .ok (.invokevirtual 226, 3) := by decide +kernel
theorem dX10_isLost_16 : decode cX10_isLost 16 = .ok (.ifCond .ne 7, 3) := by decide +kernel
theorem dX10_isLost_19 : decode cX10_isLost 19 = .ok (.iconst 1, 1) := by decide +kernel
theorem dX10_isLost_20 : decode cX10_isLost 20 = .ok (.goto 4, 3) := by decide +kernel
theorem dX10_isLost_23 : decode cX10_isLost 23 = .ok (.iconst 0, 1) := by decide +kernel
theorem dX10_isLost_24 : decode cX10_isLost 24 = .ok (.ireturn, 1) := by decide +kernel
theorem dX10_keptSheets_0 : decode cX10_keptSheets 0 = .ok (.iconst 0, 1) := by decide +kernel
theorem dX10_keptSheets_1 : decode cX10_keptSheets 1 = .ok (.istore_n 1, 1) := by decide +kernel
theorem dX10_keptSheets_2 : decode cX10_keptSheets 2 = .ok (.iconst 0, 1) := by decide +kernel
theorem dX10_keptSheets_3 : decode cX10_keptSheets 3 = .ok (.istore_n 2, 1) := by decide +kernel
theorem dX10_keptSheets_4 : decode cX10_keptSheets 4 = .ok (.iload_n 2, 1) := by decide +kernel
theorem dX10_keptSheets_5 : decode cX10_keptSheets 5 = .ok (.bipush 12, 2) := by decide +kernel
theorem dX10_keptSheets_7 : decode cX10_keptSheets 7 = .ok (.if_icmp .ge 20, 3) := by decide +kernel
theorem dX10_keptSheets_10 : decode cX10_keptSheets 10 = .ok (.aload_n 0, 1) := by decide +kernel
theorem dX10_keptSheets_11 : decode cX10_keptSheets 11 = .ok (.iload_n 2, 1) := by decide +kernel
theorem dX10_keptSheets_12 : decode cX10_keptSheets 12 = .ok (.invokevirtual 67, 3) := by decide +kernel
theorem dX10_keptSheets_15 : decode cX10_keptSheets 15 = .ok (.ifCond .ne 6, 3) := by decide +kernel
theorem dX10_keptSheets_18 : decode cX10_keptSheets 18 = .ok (.iinc 1 1, 3) := by decide +kernel
theorem dX10_keptSheets_21 : decode cX10_keptSheets 21 = .ok (.iinc 2 1, 3) := by decide +kernel
theorem dX10_keptSheets_24 : decode cX10_keptSheets 24 = .ok (.goto (-20), 3) := by decide +kernel
theorem dX10_keptSheets_27 : decode cX10_keptSheets 27 = .ok (.iload_n 1, 1) := by decide +kernel
theorem dX10_keptSheets_28 : decode cX10_keptSheets 28 = .ok (.ireturn, 1) := by decide +kernel
theorem dX10_isBeyond_0 : decode cX10_isBeyond 0 = .ok (.lload_n 0, 1) := by decide +kernel
theorem dX10_isBeyond_1 : decode cX10_isBeyond 1 = .ok (.ldc2_w 230, 3) := by decide +kernel
theorem dX10_isBeyond_4 : decode cX10_isBeyond 4 = .ok (.lcmp, 1) := by decide +kernel
theorem dX10_isBeyond_5 : decode cX10_isBeyond 5 = .ok (.ifCond .lt 11, 3) := by decide +kernel
theorem dX10_isBeyond_8 : decode cX10_isBeyond 8 = .ok (.lload_n 0, 1) := by decide +kernel
theorem dX10_isBeyond_9 : decode cX10_isBeyond 9 = .ok (.ldc2_w 232, 3) := by decide +kernel
theorem dX10_isBeyond_12 : decode cX10_isBeyond 12 = .ok (.lcmp, 1) := by decide +kernel
theorem dX10_isBeyond_13 : decode cX10_isBeyond 13 = .ok (.ifCond .le 7, 3) := by decide +kernel
theorem dX10_isBeyond_16 : decode cX10_isBeyond 16 = .ok (.iconst 1, 1) := by decide +kernel
theorem dX10_isBeyond_17 : decode cX10_isBeyond 17 = .ok (.goto 4, 3) := by decide +kernel
theorem dX10_isBeyond_20 : decode cX10_isBeyond 20 = .ok (.iconst 0, 1) := by decide +kernel
theorem dX10_isBeyond_21 : decode cX10_isBeyond 21 = .ok (.ireturn, 1) := by decide +kernel
theorem dX10_areExponents_0 : decode cX10_areExponents 0 = .ok (.iload_n 0, 1) := by decide +kernel
theorem dX10_areExponents_1 : decode cX10_areExponents 1 = .ok (.ifCond .lt 9, 3) := by decide +kernel
theorem dX10_areExponents_4 : decode cX10_areExponents 4 = .ok (.iload_n 0, 1) := by decide +kernel
theorem dX10_areExponents_5 : decode cX10_areExponents 5 = .ok (.ldc 234, 2) := by decide +kernel
theorem dX10_areExponents_7 : decode cX10_areExponents 7 = .ok (.if_icmp .le 5, 3) := by decide +kernel
theorem dX10_areExponents_10 : decode cX10_areExponents 10 = .ok (.iconst 0, 1) := by decide +kernel
theorem dX10_areExponents_11 : decode cX10_areExponents 11 = .ok (.ireturn, 1) := by decide +kernel
theorem dX10_areExponents_12 : decode cX10_areExponents 12 = .ok (.iconst 1, 1) := by decide +kernel
theorem dX10_areExponents_13 : decode cX10_areExponents 13 = .ok (.istore_n 1, 1) := by decide +kernel
theorem dX10_areExponents_14 : decode cX10_areExponents 14 = .ok (.iload_n 1, 1) := by decide +kernel
theorem dX10_areExponents_15 : decode cX10_areExponents 15 = .ok (.iconst 5, 1) := by decide +kernel
theorem dX10_areExponents_16 : decode cX10_areExponents 16 = .ok (.if_icmp .gt 23, 3) := by decide +kernel
theorem dX10_areExponents_19 : decode cX10_areExponents 19 = .ok (.iload_n 0, 1) := by decide +kernel
theorem dX10_areExponents_20 : decode cX10_areExponents 20 = .ok (.iconst 5, 1) := by decide +kernel
theorem dX10_areExponents_21 : decode cX10_areExponents 21 = .ok (.iload_n 1, 1) := by decide +kernel
theorem dX10_areExponents_22 : decode cX10_areExponents 22 = .ok (.isub, 1) := by decide +kernel
theorem dX10_areExponents_23 : decode cX10_areExponents 23 = .ok (.invokestatic 235, 3) := by decide +kernel
theorem dX10_areExponents_26 : decode cX10_areExponents 26 = .ok (.bipush 8, 2) := by decide +kernel
theorem dX10_areExponents_28 : decode cX10_areExponents 28 = .ok (.if_icmp .le 5, 3) := by decide +kernel
theorem dX10_areExponents_31 : decode cX10_areExponents 31 = .ok (.iconst 0, 1) := by decide +kernel
theorem dX10_areExponents_32 : decode cX10_areExponents 32 = .ok (.ireturn, 1) := by decide +kernel
theorem dX10_areExponents_33 : decode cX10_areExponents 33 = .ok (.iinc 1 1, 3) := by decide +kernel
theorem dX10_areExponents_36 : decode cX10_areExponents 36 = .ok (.goto (-22), 3) := by decide +kernel
theorem dX10_areExponents_39 : decode cX10_areExponents 39 = .ok (.iconst 1, 1) := by decide +kernel
theorem dX10_areExponents_40 : decode cX10_areExponents 40 = .ok (.ireturn, 1) := by decide +kernel
theorem dX10_refusal_0 : decode cX10_refusal 0 = .ok (.ldc2_w 242, 3) := by decide +kernel
theorem dX10_refusal_3 : decode cX10_refusal 3 = .ok (.iload_n 0, 1) := by decide +kernel
theorem dX10_refusal_4 : decode cX10_refusal 4 = .ok (.i2l, 1) := by decide +kernel
theorem dX10_refusal_5 : decode cX10_refusal 5 = .ok (.lsub, 1) := by decide +kernel
theorem dX10_refusal_6 : decode cX10_refusal 6 = .ok (.lreturn, 1) := by decide +kernel
theorem dJ9_floorMod_0 : decode cJ9_floorMod_7cf53 0 = .ok (.iload_n 0, 1) := by decide +kernel
theorem dJ9_floorMod_1 : decode cJ9_floorMod_7cf53 1 = .ok (.iload_n 1, 1) := by decide +kernel
theorem dJ9_floorMod_2 : decode cJ9_floorMod_7cf53 2 = .ok (.irem, 1) := by decide +kernel
theorem dJ9_floorMod_3 : decode cJ9_floorMod_7cf53 3 = .ok (.istore_n 2, 1) := by decide +kernel
theorem dJ9_floorMod_4 : decode cJ9_floorMod_7cf53 4 = .ok (.iload_n 0, 1) := by decide +kernel
theorem dJ9_floorMod_5 : decode cJ9_floorMod_7cf53 5 = .ok (.iload_n 1, 1) := by decide +kernel
theorem dJ9_floorMod_6 : decode cJ9_floorMod_7cf53 6 = .ok (.ixor, 1) := by decide +kernel
theorem dJ9_floorMod_7 : decode cJ9_floorMod_7cf53 7 = .ok (.ifCond .ge 11, 3) := by decide +kernel
theorem dJ9_floorMod_10 : decode cJ9_floorMod_7cf53 10 = .ok (.iload_n 2, 1) := by decide +kernel
theorem dJ9_floorMod_11 : decode cJ9_floorMod_7cf53 11 = .ok (.ifCond .eq 7, 3) := by decide +kernel
theorem dJ9_floorMod_14 : decode cJ9_floorMod_7cf53 14 = .ok (.iload_n 2, 1) := by decide +kernel
theorem dJ9_floorMod_15 : decode cJ9_floorMod_7cf53 15 = .ok (.iload_n 1, 1) := by decide +kernel
theorem dJ9_floorMod_16 : decode cJ9_floorMod_7cf53 16 = .ok (.iadd, 1) := by decide +kernel
theorem dJ9_floorMod_17 : decode cJ9_floorMod_7cf53 17 = .ok (.ireturn, 1) := by decide +kernel
theorem dJ9_floorMod_18 : decode cJ9_floorMod_7cf53 18 = .ok (.iload_n 2, 1) := by decide +kernel
theorem dJ9_floorMod_19 : decode cJ9_floorMod_7cf53 19 = .ok (.ireturn, 1) := by decide +kernel
theorem dJ9_max_0 : decode cJ9_max_7cf53 0 = .ok (.iload_n 0, 1) := by decide +kernel
theorem dJ9_max_1 : decode cJ9_max_7cf53 1 = .ok (.iload_n 1, 1) := by decide +kernel
theorem dJ9_max_2 : decode cJ9_max_7cf53 2 = .ok (.if_icmp .lt 7, 3) := by decide +kernel
theorem dJ9_max_5 : decode cJ9_max_7cf53 5 = .ok (.iload_n 0, 1) := by decide +kernel
theorem dJ9_max_6 : decode cJ9_max_7cf53 6 = .ok (.goto 4, 3) := by decide +kernel
theorem dJ9_max_9 : decode cJ9_max_7cf53 9 = .ok (.iload_n 1, 1) := by decide +kernel
theorem dJ9_max_10 : decode cJ9_max_7cf53 10 = .ok (.ireturn, 1) := by decide +kernel
theorem dJ9_min_0 : decode cJ9_min_7cf53 0 = .ok (.iload_n 0, 1) := by decide +kernel
theorem dJ9_min_1 : decode cJ9_min_7cf53 1 = .ok (.iload_n 1, 1) := by decide +kernel
theorem dJ9_min_2 : decode cJ9_min_7cf53 2 = .ok (.if_icmp .gt 7, 3) := by decide +kernel
theorem dJ9_min_5 : decode cJ9_min_7cf53 5 = .ok (.iload_n 0, 1) := by decide +kernel
theorem dJ9_min_6 : decode cJ9_min_7cf53 6 = .ok (.goto 4, 3) := by decide +kernel
theorem dJ9_min_9 : decode cJ9_min_7cf53 9 = .ok (.iload_n 1, 1) := by decide +kernel
theorem dJ9_min_10 : decode cJ9_min_7cf53 10 = .ok (.ireturn, 1) := by decide +kernel
end
section
theorem dX11_init_0 : decode cX11_init 0 = .ok (.aload_n 0, 1) := by decide +kernel
theorem dX11_init_1 : decode cX11_init 1 = .ok (.invokespecial 1, 3) := by decide +kernel
theorem dX11_init_4 : decode cX11_init 4 = .ok (.aload_n 0, 1) := by decide +kernel
theorem dX11_init_5 : decode cX11_init 5 = .ok (.bipush 6, 2) := by decide +kernel
theorem dX11_init_7 : decode cX11_init 7 = .ok (.newarray .int, 2) := by decide +kernel
theorem dX11_init_9 : decode cX11_init 9 = .ok (.putfield 7, 3) := by decide +kernel
theorem dX11_init_12 : decode cX11_init 12 = .ok (.aload_n 0, 1) := by decide +kernel
theorem dX11_init_13 : decode cX11_init 13 = .ok (.bipush 16, 2) := by decide +kernel
theorem dX11_init_15 : decode cX11_init 15 = .ok (.newarray .int, 2) := by decide +kernel
theorem dX11_init_17 : decode cX11_init 17 = .ok (.putfield 13, 3) := by decide +kernel
theorem dX11_init_20 : decode cX11_init 20 = .ok (.aload_n 0, 1) := by decide +kernel
theorem dX11_init_21 : decode cX11_init 21 = .ok (.bipush 12, 2) := by decide +kernel
theorem dX11_init_23 : decode cX11_init 23 = .ok (.newarray .boolean, 2) := by decide +kernel
theorem dX11_init_25 : decode cX11_init 25 = .ok (.putfield 16, 3) := by decide +kernel
theorem dX11_init_28 : decode cX11_init 28 = .ok (.aload_n 0, 1) := by decide +kernel
theorem dX11_init_29 : decode cX11_init 29 = .ok (.bipush 12, 2) := by decide +kernel
theorem dX11_init_31 : decode cX11_init 31 = .ok (.newarray .int, 2) := by decide +kernel
theorem dX11_init_33 : decode cX11_init 33 = .ok (.putfield 20, 3) := by decide +kernel
theorem dX11_init_36 : decode cX11_init 36 = .ok (.aload_n 0, 1) := by decide +kernel
theorem dX11_init_37 : decode cX11_init 37 = .ok (.sipush 7200, 3) := by decide +kernel
theorem dX11_init_40 : decode cX11_init 40 = .ok (.newarray .int, 2) := by decide +kernel
theorem dX11_init_42 : decode cX11_init 42 = .ok (.putfield 23, 3) := by decide +kernel
theorem dX11_init_45 : decode cX11_init 45 = .ok (.aload_n 0, 1) := by decide +kernel
theorem dX11_init_46 : decode cX11_init 46 = .ok (.sipush 7200, 3) := by decide +kernel
theorem dX11_init_49 : decode cX11_init 49 = .ok (.newarray .long, 2) := by decide +kernel
theorem dX11_init_51 : decode cX11_init 51 = .ok (.putfield 26, 3) := by decide +kernel
theorem dX11_init_54 : decode cX11_init 54 = .ok (.aload_n 0, 1) := by decide +kernel
theorem dX11_init_55 : decode cX11_init 55 = .ok (.ldc 30, 2) := by decide +kernel
theorem dX11_init_57 : decode cX11_init 57 = .ok (.newarray .long, 2) := by decide +kernel
theorem dX11_init_59 : decode cX11_init 59 = .ok (.putfield 31, 3) := by decide +kernel
theorem dX11_init_62 : decode cX11_init 62 = .ok (.aload_n 0, 1) := by decide +kernel
theorem dX11_init_63 : decode cX11_init 63 = .ok (.ldc 30, 2) := by decide +kernel
theorem dX11_init_65 : decode cX11_init 65 = .ok (.newarray .long, 2) := by decide +kernel
theorem dX11_init_67 : decode cX11_init 67 = .ok (.putfield 34, 3) := by decide +kernel
theorem dX11_init_70 : decode cX11_init 70 = .ok (.aload_n 0, 1) := by decide +kernel
theorem dX11_init_71 : decode cX11_init 71 = .ok (.bipush 10, 2) := by decide +kernel
theorem dX11_init_73 : decode cX11_init 73 = .ok (.newarray .int, 2) := by decide +kernel
theorem dX11_init_75 : decode cX11_init 75 = .ok (.putfield 37, 3) := by decide +kernel
theorem dX11_init_78 : decode cX11_init 78 = .ok (.aload_n 0, 1) := by decide +kernel
theorem dX11_init_79 : decode cX11_init 79 = .ok (.ldc 30, 2) := by decide +kernel
theorem dX11_init_81 : decode cX11_init 81 = .ok (.newarray .long, 2) := by decide +kernel
theorem dX11_init_83 : decode cX11_init 83 = .ok (.putfield 40, 3) := by decide +kernel
theorem dX11_init_86 : decode cX11_init 86 = .ok (.aload_n 0, 1) := by decide +kernel
theorem dX11_init_87 : decode cX11_init 87 = .ok (.ldc 30, 2) := by decide +kernel
theorem dX11_init_89 : decode cX11_init 89 = .ok (.newarray .long, 2) := by decide +kernel
theorem dX11_init_91 : decode cX11_init 91 = .ok (.putfield 43, 3) := by decide +kernel
theorem dX11_init_94 : decode cX11_init 94 = .ok (.aload_n 0, 1) := by decide +kernel
theorem dX11_init_95 : decode cX11_init 95 = .ok (.iconst 4, 1) := by decide +kernel
theorem dX11_init_96 : decode cX11_init 96 = .ok (.newarray .int, 2) := by decide +kernel
theorem dX11_init_98 : decode cX11_init 98 = .ok (.putfield 46, 3) := by decide +kernel
theorem dX11_init_101 : decode cX11_init 101 = .ok (.aload_n 0, 1) := by decide +kernel
theorem dX11_init_102 : decode cX11_init 102 = .ok (.iconst 4, 1) := by decide +kernel
theorem dX11_init_103 : decode cX11_init 103 = .ok (.newarray .int, 2) := by decide +kernel
theorem dX11_init_105 : decode cX11_init 105 = .ok (.putfield 49, 3) := by decide +kernel
theorem dX11_init_108 : decode cX11_init 108 = .ok (.aload_n 0, 1) := by decide +kernel
theorem dX11_init_109 : decode cX11_init 109 = .ok (.iconst 4, 1) := by decide +kernel
theorem dX11_init_110 : decode cX11_init 110 = .ok (.newarray .int, 2) := by decide +kernel
theorem dX11_init_112 : decode cX11_init 112 = .ok (.putfield 52, 3) := by decide +kernel
theorem dX11_init_115 : decode cX11_init 115 = .ok (.aload_n 0, 1) := by decide +kernel
theorem dX11_init_116 : decode cX11_init 116 = .ok (.bipush 16, 2) := by decide +kernel
theorem dX11_init_118 : decode cX11_init 118 = .ok (.newarray .int, 2) := by decide +kernel
theorem dX11_init_120 : decode cX11_init 120 = .ok (.putfield 55, 3) := by decide +kernel
theorem dX11_init_123 : decode cX11_init 123 = .ok (.aload_n 0, 1) := by decide +kernel
theorem dX11_init_124 : decode cX11_init 124 = .ok (.bipush 16, 2) := by decide +kernel
theorem dX11_init_126 : decode cX11_init 126 = .ok (.newarray .int, 2) := by decide +kernel
theorem dX11_init_128 : decode cX11_init 128 = .ok (.putfield 58, 3) := by decide +kernel
theorem dX11_init_131 : decode cX11_init 131 = .ok (.aload_n 0, 1) := by decide +kernel
theorem dX11_init_132 : decode cX11_init 132 = .ok (.bipush 16, 2) := by decide +kernel
theorem dX11_init_134 : decode cX11_init 134 = .ok (.newarray .int, 2) := by decide +kernel
theorem dX11_init_136 : decode cX11_init 136 = .ok (.putfield 61, 3) := by decide +kernel
theorem dX11_init_139 : decode cX11_init 139 = .ok (.aload_n 0, 1) := by decide +kernel
theorem dX11_init_140 : decode cX11_init 140 = .ok (.bipush 16, 2) := by decide +kernel
theorem dX11_init_142 : decode cX11_init 142 = .ok (.newarray .int, 2) := by decide +kernel
theorem dX11_init_144 : decode cX11_init 144 = .ok (.putfield 64, 3) := by decide +kernel
theorem dX11_init_147 : decode cX11_init 147 = .ok (.aload_n 0, 1) := by decide +kernel
theorem dX11_init_148 : decode cX11_init 148 = .ok (.bipush 6, 2) := by decide +kernel
theorem dX11_init_150 : decode cX11_init 150 = .ok (.newarray .int, 2) := by decide +kernel
theorem dX11_init_152 : decode cX11_init 152 = .ok (.putfield 67, 3) := by decide +kernel
theorem dX11_init_155 : decode cX11_init 155 = .ok (.aload_n 0, 1) := by decide +kernel
theorem dX11_init_156 : decode cX11_init 156 = .ok (.bipush 16, 2) := by decide +kernel
theorem dX11_init_158 : decode cX11_init 158 = .ok (.newarray .int, 2) := by decide +kernel
theorem dX11_init_160 : decode cX11_init 160 = .ok (.putfield 70, 3) := by decide +kernel
theorem dX11_init_163 : decode cX11_init 163 = .ok (.aload_n 0, 1) := by decide +kernel
theorem dX11_init_164 : decode cX11_init 164 = .ok (.bipush 70, 2) := by decide +kernel
theorem dX11_init_166 : decode cX11_init 166 = .ok (.newarray .int, 2) := by decide +kernel
theorem dX11_init_168 : decode cX11_init 168 = .ok (.putfield 73, 3) := by decide +kernel
theorem dX11_init_171 : decode cX11_init 171 = .ok (.aload_n 0, 1) := by decide +kernel
theorem dX11_init_172 : decode cX11_init 172 = .ok (.bipush 70, 2) := by decide +kernel
theorem dX11_init_174 : decode cX11_init 174 = .ok (.newarray .long, 2) := by decide +kernel
theorem dX11_init_176 : decode cX11_init 176 = .ok (.putfield 76, 3) := by decide +kernel
theorem dX11_init_179 : decode cX11_init 179 = .ok (.aload_n 0, 1) := by decide +kernel
theorem dX11_init_180 : decode cX11_init 180 = .ok (.bipush 70, 2) := by decide +kernel
theorem dX11_init_182 : decode cX11_init 182 = .ok (.newarray .long, 2) := by decide +kernel
theorem dX11_init_184 : decode cX11_init 184 = .ok (.putfield 79, 3) := by decide +kernel
theorem dX11_init_187 : decode cX11_init 187 = .ok (.aload_n 0, 1) := by decide +kernel
theorem dX11_init_188 : decode cX11_init 188 = .ok (.bipush 8, 2) := by decide +kernel
theorem dX11_init_190 : decode cX11_init 190 = .ok (.newarray .boolean, 2) := by decide +kernel
theorem dX11_init_192 : decode cX11_init 192 = .ok (.putfield 82, 3) := by decide +kernel
theorem dX11_init_195 : decode cX11_init 195 = .ok (.aload_n 0, 1) := by decide +kernel
theorem dX11_init_196 : decode cX11_init 196 = .ok (.bipush 8, 2) := by decide +kernel
theorem dX11_init_198 : decode cX11_init 198 = .ok (.newarray .int, 2) := by decide +kernel
theorem dX11_init_200 : decode cX11_init 200 = .ok (.putfield 85, 3) := by decide +kernel
theorem dX11_init_203 : decode cX11_init 203 = .ok (.aload_n 0, 1) := by decide +kernel
theorem dX11_init_204 : decode cX11_init 204 = .ok (.bipush 8, 2) := by decide +kernel
theorem dX11_init_206 : decode cX11_init 206 = .ok (.newarray .int, 2) := by decide +kernel
theorem dX11_init_208 : decode cX11_init 208 = .ok (.putfield 88, 3) := by decide +kernel
theorem dX11_init_211 : decode cX11_init 211 = .ok (.aload_n 0, 1) := by decide +kernel
theorem dX11_init_212 : decode cX11_init 212 = .ok (.sipush 625, 3) := by decide +kernel
theorem dX11_init_215 : decode cX11_init 215 = .ok (.newarray .boolean, 2) := by decide +kernel
theorem dX11_init_217 : decode cX11_init 217 = .ok (.putfield 91, 3) := by decide +kernel
theorem dX11_init_220 : decode cX11_init 220 = .ok (.aload_n 0, 1) := by decide +kernel
theorem dX11_init_221 : decode cX11_init 221 = .ok (.sipush 625, 3) := by decide +kernel
theorem dX11_init_224 : decode cX11_init 224 = .ok (.newarray .boolean, 2) := by decide +kernel
theorem dX11_init_226 : decode cX11_init 226 = .ok (.putfield 94, 3) := by decide +kernel
theorem dX11_init_229 : decode cX11_init 229 = .ok (.aload_n 0, 1) := by decide +kernel
theorem dX11_init_230 : decode cX11_init 230 = .ok (.sipush 2500, 3) := by decide +kernel
theorem dX11_init_233 : decode cX11_init 233 = .ok (.newarray .int, 2) := by decide +kernel
theorem dX11_init_235 : decode cX11_init 235 = .ok (.putfield 97, 3) := by decide +kernel
theorem dX11_init_238 : decode cX11_init 238 = .ok (.aload_n 0, 1) := by decide +kernel
theorem dX11_init_239 : decode cX11_init 239 = .ok (.sipush 625, 3) := by decide +kernel
theorem dX11_init_242 : decode cX11_init 242 = .ok (.newarray .int, 2) := by decide +kernel
theorem dX11_init_244 : decode cX11_init 244 = .ok (.putfield 100, 3) := by decide +kernel
theorem dX11_init_247 : decode cX11_init 247 = .ok (.aload_n 0, 1) := by decide +kernel
theorem dX11_init_248 : decode cX11_init 248 = .ok (.sipush 625, 3) := by decide +kernel
theorem dX11_init_251 : decode cX11_init 251 = .ok (.newarray .int, 2) := by decide +kernel
theorem dX11_init_253 : decode cX11_init 253 = .ok (.putfield 103, 3) := by decide +kernel
theorem dX11_init_256 : decode cX11_init 256 = .ok (.aload_n 0, 1) := by decide +kernel
theorem dX11_init_257 : decode cX11_init 257 = .ok (.sipush 156, 3) := by decide +kernel
theorem dX11_init_260 : decode cX11_init 260 = .ok (.newarray .int, 2) := by decide +kernel
theorem dX11_init_262 : decode cX11_init 262 = .ok (.putfield 106, 3) := by decide +kernel
theorem dX11_init_265 : decode cX11_init 265 = .ok (.aload_n 0, 1) := by decide +kernel
theorem dX11_init_266 : decode cX11_init 266 = .ok (.iconst 2, 1) := by decide +kernel
theorem dX11_init_267 : decode cX11_init 267 = .ok (.putfield 109, 3) := by decide +kernel
theorem dX11_init_270 : decode cX11_init 270 = .ok (.aload_n 0, 1) := by decide +kernel
theorem dX11_init_271 : decode cX11_init 271 = .ok (.iconst 2, 1) := by decide +kernel
theorem dX11_init_272 : decode cX11_init 272 = .ok (.putfield 113, 3) := by decide +kernel
theorem dX11_init_275 : decode cX11_init 275 = .ok (.aload_n 0, 1) := by decide +kernel
theorem dX11_init_276 : decode cX11_init 276 = .ok (.iconst 2, 1) := by decide +kernel
theorem dX11_init_277 : decode cX11_init 277 = .ok (.putfield 116, 3) := by decide +kernel
theorem dX11_init_280 : decode cX11_init 280 = .ok (.aload_n 0, 1) := by decide +kernel
theorem dX11_init_281 : decode cX11_init 281 = .ok (.invokevirtual 119, 3) := by decide +kernel
theorem dX11_init_284 : decode cX11_init 284 = .ok (.return_, 1) := by decide +kernel
theorem dX11_in_0 : decode cX11_in 0 = .ok (.lload_n 0, 1) := by decide +kernel
theorem dX11_in_1 : decode cX11_in 1 = .ok (.lload_n 2, 1) := by decide +kernel
theorem dX11_in_2 : decode cX11_in 2 = .ok (.lcmp, 1) := by decide +kernel
theorem dX11_in_3 : decode cX11_in 3 = .ok (.ifCond .lt 14, 3) := by decide +kernel
theorem dX11_in_6 : decode cX11_in 6 = .ok (.lload_n 0, 1) := by decide +kernel
theorem dX11_in_7 : decode cX11_in 7 = .ok (.lload 4, 2) := by decide +kernel
theorem dX11_in_9 : decode cX11_in 9 = .ok (.lcmp, 1) := by decide +kernel
theorem dX11_in_10 : decode cX11_in 10 = .ok (.ifCond .gt 7, 3) := by decide +kernel
theorem dX11_in_13 : decode cX11_in 13 = .ok (.iconst 1, 1) := by decide +kernel
theorem dX11_in_14 : decode cX11_in 14 = .ok (.goto 4, 3) := by decide +kernel
theorem dX11_in_17 : decode cX11_in 17 = .ok (.iconst 0, 1) := by decide +kernel
theorem dX11_in_18 : decode cX11_in 18 = .ok (.ireturn, 1) := by decide +kernel
theorem dX11_no_0 : decode cX11_no 0 = .ok (.ldc2_w 122, 3) := by decide +kernel
theorem dX11_no_3 : decode cX11_no 3 = .ok (.iload_n 0, 1) := by decide +kernel
theorem dX11_no_4 : decode cX11_no 4 = .ok (.i2l, 1) := by decide +kernel
theorem dX11_no_5 : decode cX11_no 5 = .ok (.lsub, 1) := by decide +kernel
theorem dX11_no_6 : decode cX11_no 6 = .ok (.lreturn, 1) := by decide +kernel
theorem dX11_reads_0 : decode cX11_reads 0 = .ok (.iload_n 1, 1) := by decide +kernel
theorem dX11_reads_1 : decode cX11_reads 1 = .ok (.i2l, 1) := by decide +kernel
theorem dX11_reads_2 : decode cX11_reads 2 = .ok (.lconst 1, 1) := by decide +kernel
theorem dX11_reads_3 : decode cX11_reads 3 = .ok (.ldc2_w 124, 3) := by decide +kernel
theorem dX11_reads_6 : decode cX11_reads 6 = .ok (.invokestatic 126, 3) := by decide +kernel
theorem dX11_reads_9 : decode cX11_reads 9 = .ok (.ifCond .ne 5, 3) := by decide +kernel
theorem dX11_reads_12 : decode cX11_reads 12 = .ok (.iconst 0, 1) := by decide +kernel
theorem dX11_reads_13 : decode cX11_reads 13 = .ok (.ireturn, 1) := by decide +kernel
theorem dX11_reads_14 : decode cX11_reads 14 = .ok (.aload_n 0, 1) := by decide +kernel
theorem dX11_reads_15 : decode cX11_reads 15 = .ok (.iconst 0, 1) := by decide +kernel
theorem dX11_reads_16 : decode cX11_reads 16 = .ok (.putfield 130, 3) := by decide +kernel
theorem dX11_reads_19 : decode cX11_reads 19 = .ok (.iload_n 1, 1) := by decide +kernel
theorem dX11_reads_20 : decode cX11_reads 20 = .ok (.istore_n 2, 1) := by decide +kernel
theorem dX11_reads_21 : decode cX11_reads 21 = .ok (.iload_n 2, 1) := by decide +kernel
theorem dX11_reads_22 : decode cX11_reads 22 = .ok (.ifCond .le 21, 3) := by decide +kernel
theorem dX11_reads_25 : decode cX11_reads 25 = .ok (.aload_n 0, 1) := by decide +kernel
theorem dX11_reads_26 : decode cX11_reads 26 = .ok (.dup, 1) := by decide +kernel
theorem dX11_reads_27 : decode cX11_reads 27 = .ok (.getfield 130, 3) := by decide +kernel
theorem dX11_reads_30 : decode cX11_reads 30 = .ok (.iconst 1, 1) := by decide +kernel
theorem dX11_reads_31 : decode cX11_reads 31 = .ok (.iadd, 1) := by decide +kernel
theorem dX11_reads_32 : decode cX11_reads 32 = .ok (.putfield 130, 3) := by decide +kernel
theorem dX11_reads_35 : decode cX11_reads 35 = .ok (.iload_n 2, 1) := by decide +kernel
theorem dX11_reads_36 : decode cX11_reads 36 = .ok (.bipush 10, 2) := by decide +kernel
theorem dX11_reads_38 : decode cX11_reads 38 = .ok (.idiv, 1) := by decide +kernel
theorem dX11_reads_39 : decode cX11_reads 39 = .ok (.istore_n 2, 1) := by decide +kernel
theorem dX11_reads_40 : decode cX11_reads 40 = .ok (.goto (-19), 3) := by decide +kernel
theorem dX11_reads_43 : decode cX11_reads 43 = .ok (.iconst 0, 1) := by decide +kernel
theorem dX11_reads_44 : decode cX11_reads 44 = .ok (.istore_n 2, 1) := by decide +kernel
theorem dX11_reads_45 : decode cX11_reads 45 = .ok (.iload_n 1, 1) := by decide +kernel
theorem dX11_reads_46 : decode cX11_reads 46 = .ok (.istore_n 3, 1) := by decide +kernel
theorem dX11_reads_47 : decode cX11_reads 47 = .ok (.aload_n 0, 1) := by decide +kernel
theorem dX11_reads_48 : decode cX11_reads 48 = .ok (.getfield 130, 3) := by decide +kernel
theorem dX11_reads_51 : decode cX11_reads 51 = .ok (.iconst 1, 1) := by decide +kernel
theorem dX11_reads_52 : decode cX11_reads 52 = .ok (.isub, 1) := by decide +kernel
theorem dX11_reads_53 : decode cX11_reads 53 = .ok (.istore 4, 2) := by decide +kernel
theorem dX11_reads_55 : decode cX11_reads 55 = .ok (.iload 4, 2) := by decide +kernel
theorem dX11_reads_57 : decode cX11_reads 57 = .ok (.ifCond .lt 34, 3) := by decide +kernel
theorem dX11_reads_60 : decode cX11_reads 60 = .ok (.aload_n 0, 1) := by decide +kernel
theorem dX11_reads_61 : decode cX11_reads 61 = .ok (.getfield 7, 3) := by decide +kernel
theorem dX11_reads_64 : decode cX11_reads 64 = .ok (.iload 4, 2) := by decide +kernel
theorem dX11_reads_66 : decode cX11_reads 66 = .ok (.iload_n 3, 1) := by decide +kernel
theorem dX11_reads_67 : decode cX11_reads 67 = .ok (.bipush 10, 2) := by decide +kernel
theorem dX11_reads_69 : decode cX11_reads 69 = .ok (.irem, 1) := by decide +kernel
theorem dX11_reads_70 : decode cX11_reads 70 = .ok (.iastore, 1) := by decide +kernel
theorem dX11_reads_71 : decode cX11_reads 71 = .ok (.iload_n 2, 1) := by decide +kernel
theorem dX11_reads_72 : decode cX11_reads 72 = .ok (.iconst 1, 1) := by decide +kernel
theorem dX11_reads_73 : decode cX11_reads 73 = .ok (.iload_n 3, 1) := by decide +kernel
theorem dX11_reads_74 : decode cX11_reads 74 = .ok (.bipush 10, 2) := by decide +kernel
theorem dX11_reads_76 : decode cX11_reads 76 = .ok (.irem, 1) := by decide +kernel
theorem dX11_reads_77 : decode cX11_reads 77 = .ok (.ishl, 1) := by decide +kernel
theorem dX11_reads_78 : decode cX11_reads 78 = .ok (.ior, 1) := by decide +kernel
theorem dX11_reads_79 : decode cX11_reads 79 = .ok (.istore_n 2, 1) := by decide +kernel
theorem dX11_reads_80 : decode cX11_reads 80 = .ok (.iload_n 3, 1) := by decide +kernel
theorem dX11_reads_81 : decode cX11_reads 81 = .ok (.bipush 10, 2) := by decide +kernel
theorem dX11_reads_83 : decode cX11_reads 83 = .ok (.idiv, 1) := by decide +kernel
theorem dX11_reads_84 : decode cX11_reads 84 = .ok (.istore_n 3, 1) := by decide +kernel
theorem dX11_reads_85 : decode cX11_reads 85 = .ok (.iinc 4 (-1), 3) := by decide +kernel
theorem dX11_reads_88 : decode cX11_reads 88 = .ok (.goto (-33), 3) := by decide +kernel
theorem dX11_reads_91 : decode cX11_reads 91 = .ok (.iload_n 2, 1) := by decide +kernel
theorem dX11_reads_92 : decode cX11_reads 92 = .ok (.iconst 2, 1) := by decide +kernel
theorem dX11_reads_93 : decode cX11_reads 93 = .ok (.aload_n 0, 1) := by decide +kernel
theorem dX11_reads_94 : decode cX11_reads 94 = .ok (.getfield 130, 3) := by decide +kernel
theorem dX11_reads_97 : decode cX11_reads 97 = .ok (.ishl, 1) := by decide +kernel
theorem dX11_reads_98 : decode cX11_reads 98 = .ok (.iconst 2, 1) := by decide +kernel
theorem dX11_reads_99 : decode cX11_reads 99 = .ok (.isub, 1) := by decide +kernel
theorem dX11_reads_100 : decode cX11_reads 100 = .ok (.if_icmp .ne 7, 3) := by decide +kernel
theorem dX11_reads_103 : decode cX11_reads 103 = .ok (.iconst 1, 1) := by decide +kernel
theorem dX11_reads_104 : decode cX11_reads 104 = .ok (.goto 4, 3) := by decide +kernel
theorem dX11_reads_107 : decode cX11_reads 107 = .ok (.iconst 0, 1) := by decide +kernel
theorem dX11_reads_108 : decode cX11_reads 108 = .ok (.ireturn, 1) := by decide +kernel
theorem dX11_told_0 : decode cX11_told 0 = .ok (.iconst 0, 1) := by decide +kernel
theorem dX11_told_1 : decode cX11_told 1 = .ok (.istore_n 1, 1) := by decide +kernel
theorem dX11_told_2 : decode cX11_told 2 = .ok (.iconst 0, 1) := by decide +kernel
theorem dX11_told_3 : decode cX11_told 3 = .ok (.istore_n 2, 1) := by decide +kernel
theorem dX11_told_4 : decode cX11_told 4 = .ok (.iload_n 2, 1) := by decide +kernel
theorem dX11_told_5 : decode cX11_told 5 = .ok (.aload_n 0, 1) := by decide +kernel
theorem dX11_told_6 : decode cX11_told 6 = .ok (.getfield 130, 3) := by decide +kernel
theorem dX11_told_9 : decode cX11_told 9 = .ok (.if_icmp .ge 21, 3) := by decide +kernel
theorem dX11_told_12 : decode cX11_told 12 = .ok (.bipush 10, 2) := by decide +kernel
theorem dX11_told_14 : decode cX11_told 14 = .ok (.iload_n 1, 1) := by decide +kernel
theorem dX11_told_15 : decode cX11_told 15 = .ok (.imul, 1) := by decide +kernel
theorem dX11_told_16 : decode cX11_told 16 = .ok (.aload_n 0, 1) := by decide +kernel
theorem dX11_told_17 : decode cX11_told 17 = .ok (.getfield 7, 3) := by decide +kernel
theorem dX11_told_20 : decode cX11_told 20 = .ok (.iload_n 2, 1) := by decide +kernel
theorem dX11_told_21 : decode cX11_told 21 = .ok (.iaload, 1) := by decide +kernel
theorem dX11_told_22 : decode cX11_told 22 = .ok (.iadd, 1) := by decide +kernel
theorem dX11_told_23 : decode cX11_told 23 = .ok (.istore_n 1, 1) := by decide +kernel
theorem dX11_told_24 : decode cX11_told 24 = .ok (.iinc 2 1, 3) := by decide +kernel
theorem dX11_told_27 : decode cX11_told 27 = .ok (.goto (-23), 3) := by decide +kernel
theorem dX11_told_30 : decode cX11_told 30 = .ok (.iload_n 1, 1) := by decide +kernel
theorem dX11_told_31 : decode cX11_told 31 = .ok (.ireturn, 1) := by decide +kernel
theorem dX11_lengthNow_0 : decode cX11_lengthNow 0 = .ok (.iconst 0, 1) := by decide +kernel
theorem dX11_lengthNow_1 : decode cX11_lengthNow 1 = .ok (.istore_n 1, 1) := by decide +kernel
theorem dX11_lengthNow_2 : decode cX11_lengthNow 2 = .ok (.iconst 0, 1) := by decide +kernel
theorem dX11_lengthNow_3 : decode cX11_lengthNow 3 = .ok (.istore_n 2, 1) := by decide +kernel
theorem dX11_lengthNow_4 : decode cX11_lengthNow 4 = .ok (.iload_n 2, 1) := by decide +kernel
theorem dX11_lengthNow_5 : decode cX11_lengthNow 5 = .ok (.aload_n 0, 1) := by decide +kernel
theorem dX11_lengthNow_6 : decode cX11_lengthNow 6 = .ok (.getfield 130, 3) := by decide +kernel
theorem dX11_lengthNow_9 : decode cX11_lengthNow 9 = .ok (.if_icmp .ge 50, 3) := by decide +kernel
theorem dX11_lengthNow_12 : decode cX11_lengthNow 12 = .ok (.iload_n 2, 1) := by decide +kernel
theorem dX11_lengthNow_13 : decode cX11_lengthNow 13 = .ok (.iconst 1, 1) := by decide +kernel
theorem dX11_lengthNow_14 : decode cX11_lengthNow 14 = .ok (.iadd, 1) := by decide +kernel
theorem dX11_lengthNow_15 : decode cX11_lengthNow 15 = .ok (.istore_n 3, 1) := by decide +kernel
theorem dX11_lengthNow_16 : decode cX11_lengthNow 16 = .ok (.iload_n 3, 1) := by decide +kernel
theorem dX11_lengthNow_17 : decode cX11_lengthNow 17 = .ok (.aload_n 0, 1) := by decide +kernel
theorem dX11_lengthNow_18 : decode cX11_lengthNow 18 = .ok (.getfield 130, 3) := by decide +kernel
theorem dX11_lengthNow_21 : decode cX11_lengthNow 21 = .ok (.if_icmp .ge 32, 3) := by decide +kernel
theorem dX11_lengthNow_24 : decode cX11_lengthNow 24 = .ok (.iload_n 1, 1) := by decide +kernel
theorem dX11_lengthNow_25 : decode cX11_lengthNow 25 = .ok (.aload_n 0, 1) := by decide +kernel
theorem dX11_lengthNow_26 : decode cX11_lengthNow 26 = .ok (.getfield 7, 3) := by decide +kernel
theorem dX11_lengthNow_29 : decode cX11_lengthNow 29 = .ok (.iload_n 2, 1) := by decide +kernel
theorem dX11_lengthNow_30 : decode cX11_lengthNow 30 = .ok (.iaload, 1) := by decide +kernel
theorem dX11_lengthNow_31 : decode cX11_lengthNow 31 = .ok (.aload_n 0, 1) := by decide +kernel
theorem dX11_lengthNow_32 : decode cX11_lengthNow 32 = .ok (.getfield 7, 3) := by decide +kernel
theorem dX11_lengthNow_35 : decode cX11_lengthNow 35 = .ok (.iload_n 3, 1) := by decide +kernel
theorem dX11_lengthNow_36 : decode cX11_lengthNow 36 = .ok (.iaload, 1) := by decide +kernel
theorem dX11_lengthNow_37 : decode cX11_lengthNow 37 = .ok (.if_icmp .le 7, 3) := by decide +kernel
theorem dX11_lengthNow_40 : decode cX11_lengthNow 40 = .ok (.iconst 1, 1) := by decide +kernel
theorem dX11_lengthNow_41 : decode cX11_lengthNow 41 = .ok (.goto 4, 3) := by decide +kernel
theorem dX11_lengthNow_44 : decode cX11_lengthNow 44 = .ok (.iconst 0, 1) := by decide +kernel
theorem dX11_lengthNow_45 : decode cX11_lengthNow 45 = .ok (.iadd, 1) := by decide +kernel
theorem dX11_lengthNow_46 : decode cX11_lengthNow 46 = .ok (.istore_n 1, 1) := by decide +kernel
theorem dX11_lengthNow_47 : decode cX11_lengthNow 47 = .ok (.iinc 3 1, 3) := by decide +kernel
theorem dX11_lengthNow_50 : decode cX11_lengthNow 50 = .ok (.goto (-34), 3) := by decide +kernel
theorem dX11_lengthNow_53 : decode cX11_lengthNow 53 = .ok (.iinc 2 1, 3) := by decide +kernel
theorem dX11_lengthNow_56 : decode cX11_lengthNow 56 = .ok (.goto (-52), 3) := by decide +kernel
theorem dX11_lengthNow_59 : decode cX11_lengthNow 59 = .ok (.iload_n 1, 1) := by decide +kernel
theorem dX11_lengthNow_60 : decode cX11_lengthNow 60 = .ok (.ireturn, 1) := by decide +kernel
theorem dX11_change_0 : decode cX11_change 0 = .ok (.aload_n 0, 1) := by decide +kernel
theorem dX11_change_1 : decode cX11_change 1 = .ok (.getfield 7, 3) := by decide +kernel
theorem dX11_change_4 : decode cX11_change 4 = .ok (.iload_n 1, 1) := by decide +kernel
theorem dX11_change_5 : decode cX11_change 5 = .ok (.iaload, 1) := by decide +kernel
theorem dX11_change_6 : decode cX11_change 6 = .ok (.istore_n 3, 1) := by decide +kernel
theorem dX11_change_7 : decode cX11_change 7 = .ok (.aload_n 0, 1) := by decide +kernel
theorem dX11_change_8 : decode cX11_change 8 = .ok (.getfield 7, 3) := by decide +kernel
theorem dX11_change_11 : decode cX11_change 11 = .ok (.iload_n 1, 1) := by decide +kernel
theorem dX11_change_12 : decode cX11_change 12 = .ok (.aload_n 0, 1) := by decide +kernel
theorem dX11_change_13 : decode cX11_change 13 = .ok (.getfield 7, 3) := by decide +kernel
theorem dX11_change_16 : decode cX11_change 16 = .ok (.iload_n 2, 1) := by decide +kernel
theorem dX11_change_17 : decode cX11_change 17 = .ok (.iaload, 1) := by decide +kernel
theorem dX11_change_18 : decode cX11_change 18 = .ok (.iastore, 1) := by decide +kernel
theorem dX11_change_19 : decode cX11_change 19 = .ok (.aload_n 0, 1) := by decide +kernel
theorem dX11_change_20 : decode cX11_change 20 = .ok (.getfield 7, 3) := by decide +kernel
theorem dX11_change_23 : decode cX11_change 23 = .ok (.iload_n 2, 1) := by decide +kernel
theorem dX11_change_24 : decode cX11_change 24 = .ok (.iload_n 3, 1) := by decide +kernel
theorem dX11_change_25 : decode cX11_change 25 = .ok (.iastore, 1) := by decide +kernel
theorem dX11_change_26 : decode cX11_change 26 = .ok (.return_, 1) := by decide +kernel
theorem dX11_length_0 : decode cX11_length 0 = .ok (.aload_n 0, 1) := by decide +kernel
theorem dX11_length_1 : decode cX11_length 1 = .ok (.iload_n 1, 1) := by decide +kernel
theorem dX11_length_2 : decode cX11_length 2 = .ok (.invokevirtual 133, 3) := by decide +kernel
theorem dX11_length_5 : decode cX11_length 5 = .ok (.ifCond .eq 10, 3) := by decide +kernel
theorem dX11_length_8 : decode cX11_length 8 = .ok (.aload_n 0, 1) := by decide +kernel
theorem dX11_length_9 : decode cX11_length 9 = .ok (.invokevirtual 137, 3) := by decide +kernel
theorem dX11_length_12 : decode cX11_length 12 = .ok (.goto 5, 3) := by decide +kernel
theorem dX11_length_15 : decode cX11_length 15 = .ok (.bipush (-2), 2) := by decide +kernel
theorem dX11_length_17 : decode cX11_length 17 = .ok (.ireturn, 1) := by decide +kernel
theorem dX11_exchange_0 : decode cX11_exchange 0 = .ok (.aload_n 0, 1) := by decide +kernel
theorem dX11_exchange_1 : decode cX11_exchange 1 = .ok (.iload_n 1, 1) := by decide +kernel
theorem dX11_exchange_2 : decode cX11_exchange 2 = .ok (.invokevirtual 133, 3) := by decide +kernel
theorem dX11_exchange_5 : decode cX11_exchange 5 = .ok (.ifCond .eq 19, 3) := by decide +kernel
theorem dX11_exchange_8 : decode cX11_exchange 8 = .ok (.iload_n 2, 1) := by decide +kernel
theorem dX11_exchange_9 : decode cX11_exchange 9 = .ok (.i2l, 1) := by decide +kernel
theorem dX11_exchange_10 : decode cX11_exchange 10 = .ok (.lconst 1, 1) := by decide +kernel
theorem dX11_exchange_11 : decode cX11_exchange 11 = .ok (.aload_n 0, 1) := by decide +kernel
theorem dX11_exchange_12 : decode cX11_exchange 12 = .ok (.getfield 130, 3) := by decide +kernel
theorem dX11_exchange_15 : decode cX11_exchange 15 = .ok (.iconst 1, 1) := by decide +kernel
theorem dX11_exchange_16 : decode cX11_exchange 16 = .ok (.isub, 1) := by decide +kernel
theorem dX11_exchange_17 : decode cX11_exchange 17 = .ok (.i2l, 1) := by decide +kernel
theorem dX11_exchange_18 : decode cX11_exchange 18 = .ok (.invokestatic 126, 3) := by decide +kernel
theorem dX11_exchange_21 : decode cX11_exchange 21 = .ok (.ifCond .ne 6, 3) := by decide +kernel
theorem dX11_exchange_24 : decode cX11_exchange 24 = .ok (.bipush (-2), 2) := by decide +kernel
theorem dX11_exchange_26 : decode cX11_exchange 26 = .ok (.ireturn, 1) := by decide +kernel
theorem dX11_exchange_27 : decode cX11_exchange 27 = .ok (.aload_n 0, 1) := by decide +kernel
theorem dX11_exchange_28 : decode cX11_exchange 28 = .ok (.iload_n 2, 1) := by decide +kernel
theorem dX11_exchange_29 : decode cX11_exchange 29 = .ok (.iconst 1, 1) := by decide +kernel
theorem dX11_exchange_30 : decode cX11_exchange 30 = .ok (.isub, 1) := by decide +kernel
theorem dX11_exchange_31 : decode cX11_exchange 31 = .ok (.iload_n 2, 1) := by decide +kernel
theorem dX11_exchange_32 : decode cX11_exchange 32 = .ok (.invokevirtual 141, 3) := by decide +kernel
theorem dX11_exchange_35 : decode cX11_exchange 35 = .ok (.aload_n 0, 1) := by decide +kernel
theorem dX11_exchange_36 : decode cX11_exchange 36 = .ok (.invokevirtual 145, 3) := by decide +kernel
theorem dX11_exchange_39 : decode cX11_exchange 39 = .ok (.ireturn, 1) := by decide +kernel
theorem dX11_inverse_0 : decode cX11_inverse 0 = .ok (.aload_n 0, 1) := by decide +kernel
theorem dX11_inverse_1 : decode cX11_inverse 1 = .ok (.iload_n 1, 1) := by decide +kernel
theorem dX11_inverse_2 : decode cX11_inverse 2 = .ok (.invokevirtual 133, 3) := by decide +kernel
theorem dX11_inverse_5 : decode cX11_inverse 5 = .ok (.ifCond .ne 6, 3) := by decide +kernel
theorem dX11_inverse_8 : decode cX11_inverse 8 = .ok (.bipush (-2), 2) := by decide +kernel
theorem dX11_inverse_10 : decode cX11_inverse 10 = .ok (.ireturn, 1) := by decide +kernel
theorem dX11_inverse_11 : decode cX11_inverse 11 = .ok (.iconst 0, 1) := by decide +kernel
theorem dX11_inverse_12 : decode cX11_inverse 12 = .ok (.istore_n 2, 1) := by decide +kernel
theorem dX11_inverse_13 : decode cX11_inverse 13 = .ok (.iconst 1, 1) := by decide +kernel
theorem dX11_inverse_14 : decode cX11_inverse 14 = .ok (.istore_n 3, 1) := by decide +kernel
theorem dX11_inverse_15 : decode cX11_inverse 15 = .ok (.iload_n 3, 1) := by decide +kernel
theorem dX11_inverse_16 : decode cX11_inverse 16 = .ok (.aload_n 0, 1) := by decide +kernel
theorem dX11_inverse_17 : decode cX11_inverse 17 = .ok (.getfield 130, 3) := by decide +kernel
theorem dX11_inverse_20 : decode cX11_inverse 20 = .ok (.if_icmp .gt 52, 3) := by decide +kernel
theorem dX11_inverse_23 : decode cX11_inverse 23 = .ok (.iconst 0, 1) := by decide +kernel
theorem dX11_inverse_24 : decode cX11_inverse 24 = .ok (.istore 4, 2) := by decide +kernel
theorem dX11_inverse_26 : decode cX11_inverse 26 = .ok (.iload 4, 2) := by decide +kernel
theorem dX11_inverse_28 : decode cX11_inverse 28 = .ok (.aload_n 0, 1) := by decide +kernel
theorem dX11_inverse_29 : decode cX11_inverse 29 = .ok (.getfield 130, 3) := by decide +kernel
theorem dX11_inverse_32 : decode cX11_inverse 32 = .ok (.if_icmp .ge 34, 3) := by decide +kernel
theorem dX11_inverse_35 : decode cX11_inverse 35 = .ok (.aload_n 0, 1) := by decide +kernel
theorem dX11_inverse_36 : decode cX11_inverse 36 = .ok (.getfield 7, 3) := by decide +kernel
theorem dX11_inverse_39 : decode cX11_inverse 39 = .ok (.iload 4, 2) := by decide +kernel
theorem dX11_inverse_41 : decode cX11_inverse 41 = .ok (.iaload, 1) := by decide +kernel
theorem dX11_inverse_42 : decode cX11_inverse 42 = .ok (.iload_n 3, 1) := by decide +kernel
theorem dX11_inverse_43 : decode cX11_inverse 43 = .ok (.if_icmp .ne 15, 3) := by decide +kernel
theorem dX11_inverse_46 : decode cX11_inverse 46 = .ok (.bipush 10, 2) := by decide +kernel
theorem dX11_inverse_48 : decode cX11_inverse 48 = .ok (.iload_n 2, 1) := by decide +kernel
theorem dX11_inverse_49 : decode cX11_inverse 49 = .ok (.imul, 1) := by decide +kernel
theorem dX11_inverse_50 : decode cX11_inverse 50 = .ok (.iload 4, 2) := by decide +kernel
theorem dX11_inverse_52 : decode cX11_inverse 52 = .ok (.iadd, 1) := by decide +kernel
theorem dX11_inverse_53 : decode cX11_inverse 53 = .ok (.iconst 1, 1) := by decide +kernel
theorem dX11_inverse_54 : decode cX11_inverse 54 = .ok (.iadd, 1) := by decide +kernel
theorem dX11_inverse_55 : decode cX11_inverse 55 = .ok (.goto 4, 3) := by decide +kernel
theorem dX11_inverse_58 : decode cX11_inverse 58 = .ok (.iload_n 2, 1) := by decide +kernel
theorem dX11_inverse_59 : decode cX11_inverse 59 = .ok (.istore_n 2, 1) := by decide +kernel
theorem dX11_inverse_60 : decode cX11_inverse 60 = .ok (.iinc 4 1, 3) := by decide +kernel
theorem dX11_inverse_63 : decode cX11_inverse 63 = .ok (.goto (-37), 3) := by decide +kernel
theorem dX11_inverse_66 : decode cX11_inverse 66 = .ok (.iinc 3 1, 3) := by decide +kernel
theorem dX11_inverse_69 : decode cX11_inverse 69 = .ok (.goto (-54), 3) := by decide +kernel
theorem dX11_inverse_72 : decode cX11_inverse 72 = .ok (.iload_n 2, 1) := by decide +kernel
theorem dX11_inverse_73 : decode cX11_inverse 73 = .ok (.ireturn, 1) := by decide +kernel
theorem dX11_orders_0 : decode cX11_orders 0 = .ok (.iload_n 1, 1) := by decide +kernel
theorem dX11_orders_1 : decode cX11_orders 1 = .ok (.i2l, 1) := by decide +kernel
theorem dX11_orders_2 : decode cX11_orders 2 = .ok (.lconst 1, 1) := by decide +kernel
theorem dX11_orders_3 : decode cX11_orders 3 = .ok (.ldc2_w 148, 3) := by decide +kernel
theorem dX11_orders_6 : decode cX11_orders 6 = .ok (.invokestatic 126, 3) := by decide +kernel
theorem dX11_orders_9 : decode cX11_orders 9 = .ok (.ifCond .eq 7, 3) := by decide +kernel
theorem dX11_orders_12 : decode cX11_orders 12 = .ok (.iload_n 2, 1) := by decide +kernel
theorem dX11_orders_13 : decode cX11_orders 13 = .ok (.ifCond .ge 6, 3) := by decide +kernel
theorem dX11_orders_16 : decode cX11_orders 16 = .ok (.bipush (-2), 2) := by decide +kernel
theorem dX11_orders_18 : decode cX11_orders 18 = .ok (.ireturn, 1) := by decide +kernel
theorem dX11_orders_19 : decode cX11_orders 19 = .ok (.iconst 0, 1) := by decide +kernel
theorem dX11_orders_20 : decode cX11_orders 20 = .ok (.istore_n 3, 1) := by decide +kernel
theorem dX11_orders_21 : decode cX11_orders 21 = .ok (.iconst 1, 1) := by decide +kernel
theorem dX11_orders_22 : decode cX11_orders 22 = .ok (.istore 4, 2) := by decide +kernel
theorem dX11_orders_24 : decode cX11_orders 24 = .ok (.iconst 0, 1) := by decide +kernel
theorem dX11_orders_25 : decode cX11_orders 25 = .ok (.istore 5, 2) := by decide +kernel
theorem dX11_orders_27 : decode cX11_orders 27 = .ok (.iload 5, 2) := by decide +kernel
theorem dX11_orders_29 : decode cX11_orders 29 = .ok (.iload_n 1, 1) := by decide +kernel
theorem dX11_orders_30 : decode cX11_orders 30 = .ok (.if_icmp .ge 16, 3) := by decide +kernel
theorem dX11_orders_33 : decode cX11_orders 33 = .ok (.bipush 10, 2) := by decide +kernel
theorem dX11_orders_35 : decode cX11_orders 35 = .ok (.iload 4, 2) := by decide +kernel
theorem dX11_orders_37 : decode cX11_orders 37 = .ok (.imul, 1) := by decide +kernel
theorem dX11_orders_38 : decode cX11_orders 38 = .ok (.istore 4, 2) := by decide +kernel
theorem dX11_orders_40 : decode cX11_orders 40 = .ok (.iinc 5 1, 3) := by decide +kernel
theorem dX11_orders_43 : decode cX11_orders 43 = .ok (.goto (-16), 3) := by decide +kernel
theorem dX11_orders_46 : decode cX11_orders 46 = .ok (.iload 4, 2) := by decide +kernel
theorem dX11_orders_48 : decode cX11_orders 48 = .ok (.bipush 10, 2) := by decide +kernel
theorem dX11_orders_50 : decode cX11_orders 50 = .ok (.idiv, 1) := by decide +kernel
theorem dX11_orders_51 : decode cX11_orders 51 = .ok (.istore 5, 2) := by decide +kernel
theorem dX11_orders_53 : decode cX11_orders 53 = .ok (.iload 5, 2) := by decide +kernel
theorem dX11_orders_55 : decode cX11_orders 55 = .ok (.iload 4, 2) := by decide +kernel
theorem dX11_orders_57 : decode cX11_orders 57 = .ok (.if_icmp .ge 42, 3) := by decide +kernel
theorem dX11_orders_60 : decode cX11_orders 60 = .ok (.iload_n 3, 1) := by decide +kernel
theorem dX11_orders_61 : decode cX11_orders 61 = .ok (.aload_n 0, 1) := by decide +kernel
theorem dX11_orders_62 : decode cX11_orders 62 = .ok (.iload 5, 2) := by decide +kernel
theorem dX11_orders_64 : decode cX11_orders 64 = .ok (.invokevirtual 133, 3) := by decide +kernel
theorem dX11_orders_67 : decode cX11_orders 67 = .ok (.ifCond .eq 23, 3) := by decide +kernel
theorem dX11_orders_70 : decode cX11_orders 70 = .ok (.aload_n 0, 1) := by decide +kernel
theorem dX11_orders_71 : decode cX11_orders 71 = .ok (.getfield 130, 3) := by decide +kernel
theorem dX11_orders_74 : decode cX11_orders 74 = .ok (.iload_n 1, 1) := by decide +kernel
theorem dX11_orders_75 : decode cX11_orders 75 = .ok (.if_icmp .ne 15, 3) := by decide +kernel
theorem dX11_orders_78 : decode cX11_orders 78 = .ok (.aload_n 0, 1) := by decide +kernel
theorem dX11_orders_79 : decode cX11_orders 79 = .ok (.invokevirtual 137, 3) := by decide +kernel
theorem dX11_orders_82 : decode cX11_orders 82 = .ok (.iload_n 2, 1) := by decide +kernel
theorem dX11_orders_83 : decode cX11_orders 83 = .ok (.if_icmp .ne 7, 3) := by decide +kernel
theorem dX11_orders_86 : decode cX11_orders 86 = .ok (.iconst 1, 1) := by decide +kernel
theorem dX11_orders_87 : decode cX11_orders 87 = .ok (.goto 4, 3) := by decide +kernel
theorem dX11_orders_90 : decode cX11_orders 90 = .ok (.iconst 0, 1) := by decide +kernel
theorem dX11_orders_91 : decode cX11_orders 91 = .ok (.iadd, 1) := by decide +kernel
theorem dX11_orders_92 : decode cX11_orders 92 = .ok (.istore_n 3, 1) := by decide +kernel
theorem dX11_orders_93 : decode cX11_orders 93 = .ok (.iinc 5 1, 3) := by decide +kernel
theorem dX11_orders_96 : decode cX11_orders 96 = .ok (.goto (-43), 3) := by decide +kernel
theorem dX11_orders_99 : decode cX11_orders 99 = .ok (.iload_n 3, 1) := by decide +kernel
theorem dX11_orders_100 : decode cX11_orders 100 = .ok (.ireturn, 1) := by decide +kernel
theorem dX11_step_0 : decode cX11_step 0 = .ok (.aload_n 0, 1) := by decide +kernel
theorem dX11_step_1 : decode cX11_step 1 = .ok (.iload_n 1, 1) := by decide +kernel
theorem dX11_step_2 : decode cX11_step 2 = .ok (.invokevirtual 133, 3) := by decide +kernel
theorem dX11_step_5 : decode cX11_step 5 = .ok (.ifCond .eq 25, 3) := by decide +kernel
theorem dX11_step_8 : decode cX11_step 8 = .ok (.aload_n 0, 1) := by decide +kernel
theorem dX11_step_9 : decode cX11_step 9 = .ok (.getfield 130, 3) := by decide +kernel
theorem dX11_step_12 : decode cX11_step 12 = .ok (.iconst 4, 1) := by decide +kernel
theorem dX11_step_13 : decode cX11_step 13 = .ok (.if_icmp .gt 17, 3) := by decide +kernel
theorem dX11_step_16 : decode cX11_step 16 = .ok (.iload_n 2, 1) := by decide +kernel
theorem dX11_step_17 : decode cX11_step 17 = .ok (.i2l, 1) := by decide +kernel
theorem dX11_step_18 : decode cX11_step 18 = .ok (.lconst 1, 1) := by decide +kernel
theorem dX11_step_19 : decode cX11_step 19 = .ok (.aload_n 0, 1) := by decide +kernel
theorem dX11_step_20 : decode cX11_step 20 = .ok (.getfield 130, 3) := by decide +kernel
theorem dX11_step_23 : decode cX11_step 23 = .ok (.i2l, 1) := by decide +kernel
theorem dX11_step_24 : decode cX11_step 24 = .ok (.invokestatic 126, 3) := by decide +kernel
theorem dX11_step_27 : decode cX11_step 27 = .ok (.ifCond .ne 6, 3) := by decide +kernel
theorem dX11_step_30 : decode cX11_step 30 = .ok (.bipush (-2), 2) := by decide +kernel
theorem dX11_step_32 : decode cX11_step 32 = .ok (.ireturn, 1) := by decide +kernel
theorem dX11_step_33 : decode cX11_step 33 = .ok (.aload_n 0, 1) := by decide +kernel
theorem dX11_step_34 : decode cX11_step 34 = .ok (.getfield 7, 3) := by decide +kernel
theorem dX11_step_37 : decode cX11_step 37 = .ok (.aload_n 0, 1) := by decide +kernel
theorem dX11_step_38 : decode cX11_step 38 = .ok (.getfield 130, 3) := by decide +kernel
theorem dX11_step_41 : decode cX11_step 41 = .ok (.aload_n 0, 1) := by decide +kernel
theorem dX11_step_42 : decode cX11_step 42 = .ok (.getfield 130, 3) := by decide +kernel
theorem dX11_step_45 : decode cX11_step 45 = .ok (.iconst 1, 1) := by decide +kernel
theorem dX11_step_46 : decode cX11_step 46 = .ok (.iadd, 1) := by decide +kernel
theorem dX11_step_47 : decode cX11_step 47 = .ok (.iastore, 1) := by decide +kernel
theorem dX11_step_48 : decode cX11_step 48 = .ok (.aload_n 0, 1) := by decide +kernel
theorem dX11_step_49 : decode cX11_step 49 = .ok (.dup, 1) := by decide +kernel
theorem dX11_step_50 : decode cX11_step 50 = .ok (.getfield 130, 3) := by decide +kernel
theorem dX11_step_53 : decode cX11_step 53 = .ok (.iconst 1, 1) := by decide +kernel
theorem dX11_step_54 : decode cX11_step 54 = .ok (.iadd, 1) := by decide +kernel
theorem dX11_step_55 : decode cX11_step 55 = .ok (.putfield 130, 3) := by decide +kernel
theorem dX11_step_58 : decode cX11_step 58 = .ok (.aload_n 0, 1) := by decide +kernel
theorem dX11_step_59 : decode cX11_step 59 = .ok (.invokevirtual 137, 3) := by decide +kernel
theorem dX11_step_62 : decode cX11_step 62 = .ok (.istore 4, 2) := by decide +kernel
theorem dX11_step_64 : decode cX11_step 64 = .ok (.iconst 0, 1) := by decide +kernel
theorem dX11_step_65 : decode cX11_step 65 = .ok (.istore 5, 2) := by decide +kernel
theorem dX11_step_67 : decode cX11_step 67 = .ok (.iconst 0, 1) := by decide +kernel
theorem dX11_step_68 : decode cX11_step 68 = .ok (.istore 6, 2) := by decide +kernel
theorem dX11_step_70 : decode cX11_step 70 = .ok (.iload 6, 2) := by decide +kernel
theorem dX11_step_72 : decode cX11_step 72 = .ok (.iload_n 2, 1) := by decide +kernel
theorem dX11_step_73 : decode cX11_step 73 = .ok (.if_icmp .ge 115, 3) := by decide +kernel
theorem dX11_step_76 : decode cX11_step 76 = .ok (.iload_n 2, 1) := by decide +kernel
theorem dX11_step_77 : decode cX11_step 77 = .ok (.istore 7, 2) := by decide +kernel
theorem dX11_step_79 : decode cX11_step 79 = .ok (.iload 7, 2) := by decide +kernel
theorem dX11_step_81 : decode cX11_step 81 = .ok (.aload_n 0, 1) := by decide +kernel
theorem dX11_step_82 : decode cX11_step 82 = .ok (.getfield 130, 3) := by decide +kernel
theorem dX11_step_85 : decode cX11_step 85 = .ok (.if_icmp .ge 97, 3) := by decide +kernel
theorem dX11_step_88 : decode cX11_step 88 = .ok (.aload_n 0, 1) := by decide +kernel
theorem dX11_step_89 : decode cX11_step 89 = .ok (.iload 6, 2) := by decide +kernel
theorem dX11_step_91 : decode cX11_step 91 = .ok (.iload 7, 2) := by decide +kernel
theorem dX11_step_93 : decode cX11_step 93 = .ok (.invokevirtual 141, 3) := by decide +kernel
theorem dX11_step_96 : decode cX11_step 96 = .ok (.aload_n 0, 1) := by decide +kernel
theorem dX11_step_97 : decode cX11_step 97 = .ok (.invokevirtual 137, 3) := by decide +kernel
theorem dX11_step_100 : decode cX11_step 100 = .ok (.iload 4, 2) := by decide +kernel
theorem dX11_step_102 : decode cX11_step 102 = .ok (.iconst 1, 1) := by decide +kernel
theorem dX11_step_103 : decode cX11_step 103 = .ok (.iadd, 1) := by decide +kernel
theorem dX11_step_104 : decode cX11_step 104 = .ok (.if_icmp .ne 64, 3) := by decide +kernel
theorem dX11_step_107 : decode cX11_step 107 = .ok (.iload 5, 2) := by decide +kernel
theorem dX11_step_109 : decode cX11_step 109 = .ok (.istore 8, 2) := by decide +kernel
theorem dX11_step_111 : decode cX11_step 111 = .ok (.iload 8, 2) := by decide +kernel
theorem dX11_step_113 : decode cX11_step 113 = .ok (.ifCond .le 41, 3) := by decide +kernel
theorem dX11_step_116 : decode cX11_step 116 = .ok (.aload_n 0, 1) := by decide +kernel
theorem dX11_step_117 : decode cX11_step 117 = .ok (.getfield 13, 3) := by decide +kernel
theorem dX11_step_120 : decode cX11_step 120 = .ok (.iload 8, 2) := by decide +kernel
theorem dX11_step_122 : decode cX11_step 122 = .ok (.iconst 1, 1) := by decide +kernel
theorem dX11_step_123 : decode cX11_step 123 = .ok (.isub, 1) := by decide +kernel
theorem dX11_step_124 : decode cX11_step 124 = .ok (.iaload, 1) := by decide +kernel
theorem dX11_step_125 : decode cX11_step 125 = .ok (.aload_n 0, 1) := by decide +kernel
theorem dX11_step_126 : decode cX11_step 126 = .ok (.invokevirtual 145, 3) := by decide +kernel
theorem dX11_step_129 : decode cX11_step 129 = .ok (.if_icmp .le 25, 3) := by decide +kernel
theorem dX11_step_132 : decode cX11_step 132 = .ok (.aload_n 0, 1) := by decide +kernel
theorem dX11_step_133 : decode cX11_step 133 = .ok (.getfield 13, 3) := by decide +kernel
theorem dX11_step_136 : decode cX11_step 136 = .ok (.iload 8, 2) := by decide +kernel
theorem dX11_step_138 : decode cX11_step 138 = .ok (.aload_n 0, 1) := by decide +kernel
theorem dX11_step_139 : decode cX11_step 139 = .ok (.getfield 13, 3) := by decide +kernel
theorem dX11_step_142 : decode cX11_step 142 = .ok (.iload 8, 2) := by decide +kernel
theorem dX11_step_144 : decode cX11_step 144 = .ok (.iconst 1, 1) := by decide +kernel
theorem dX11_step_145 : decode cX11_step 145 = .ok (.isub, 1) := by decide +kernel
theorem dX11_step_146 : decode cX11_step 146 = .ok (.iaload, 1) := by decide +kernel
theorem dX11_step_147 : decode cX11_step 147 = .ok (.iastore, 1) := by decide +kernel
theorem dX11_step_148 : decode cX11_step 148 = .ok (.iinc 8 (-1), 3) := by decide +kernel
theorem dX11_step_151 : decode cX11_step 151 = .ok (.goto (-40), 3) := by decide +kernel
theorem dX11_step_154 : decode cX11_step 154 = .ok (.aload_n 0, 1) := by decide +kernel
theorem dX11_step_155 : decode cX11_step 155 = .ok (.getfield 13, 3) := by decide +kernel
theorem dX11_step_158 : decode cX11_step 158 = .ok (.iload 8, 2) := by decide +kernel
theorem dX11_step_160 : decode cX11_step 160 = .ok (.aload_n 0, 1) := by decide +kernel
theorem dX11_step_161 : decode cX11_step 161 = .ok (.invokevirtual 145, 3) := by decide +kernel
theorem dX11_step_164 : decode cX11_step 164 = .ok (.iastore, 1) := by decide +kernel
theorem dX11_step_165 : decode cX11_step 165 = .ok (.iinc 5 1, 3) := by decide +kernel
theorem dX11_step_168 : decode cX11_step 168 = .ok (.aload_n 0, 1) := by decide +kernel
theorem dX11_step_169 : decode cX11_step 169 = .ok (.iload 6, 2) := by decide +kernel
theorem dX11_step_171 : decode cX11_step 171 = .ok (.iload 7, 2) := by decide +kernel
theorem dX11_step_173 : decode cX11_step 173 = .ok (.invokevirtual 141, 3) := by decide +kernel
theorem dX11_step_176 : decode cX11_step 176 = .ok (.iinc 7 1, 3) := by decide +kernel
theorem dX11_step_179 : decode cX11_step 179 = .ok (.goto (-100), 3) := by decide +kernel
theorem dX11_step_182 : decode cX11_step 182 = .ok (.iinc 6 1, 3) := by decide +kernel
theorem dX11_step_185 : decode cX11_step 185 = .ok (.goto (-115), 3) := by decide +kernel
theorem dX11_step_188 : decode cX11_step 188 = .ok (.iload_n 3, 1) := by decide +kernel
theorem dX11_step_189 : decode cX11_step 189 = .ok (.i2l, 1) := by decide +kernel
theorem dX11_step_190 : decode cX11_step 190 = .ok (.lconst 0, 1) := by decide +kernel
theorem dX11_step_191 : decode cX11_step 191 = .ok (.iload 5, 2) := by decide +kernel
theorem dX11_step_193 : decode cX11_step 193 = .ok (.iconst 1, 1) := by decide +kernel
theorem dX11_step_194 : decode cX11_step 194 = .ok (.isub, 1) := by decide +kernel
theorem dX11_step_195 : decode cX11_step 195 = .ok (.i2l, 1) := by decide +kernel
theorem dX11_step_196 : decode cX11_step 196 = .ok (.invokestatic 126, 3) := by decide +kernel
theorem dX11_step_199 : decode cX11_step 199 = .ok (.ifCond .eq 12, 3) := by decide +kernel
theorem dX11_step_202 : decode cX11_step 202 = .ok (.aload_n 0, 1) := by decide +kernel
theorem dX11_step_203 : decode cX11_step 203 = .ok (.getfield 13, 3) := by decide +kernel
theorem dX11_step_206 : decode cX11_step 206 = .ok (.iload_n 3, 1) := by decide +kernel
theorem dX11_step_207 : decode cX11_step 207 = .ok (.iaload, 1) := by decide +kernel
theorem dX11_step_208 : decode cX11_step 208 = .ok (.goto 4, 3) := by decide +kernel
theorem dX11_step_211 : decode cX11_step 211 = .ok (.iconst (-1), 1) := by decide +kernel
theorem dX11_step_212 : decode cX11_step 212 = .ok (.ireturn, 1) := by decide +kernel
theorem dX11_isSheet_0 : decode cX11_isSheet 0 = .ok (.iload_n 0, 1) := by decide +kernel
theorem dX11_isSheet_1 : decode cX11_isSheet 1 = .ok (.i2l, 1) := by decide +kernel
theorem dX11_isSheet_2 : decode cX11_isSheet 2 = .ok (.lconst 0, 1) := by decide +kernel
theorem dX11_isSheet_3 : decode cX11_isSheet 3 = .ok (.ldc2_w 150, 3) := by decide +kernel
theorem dX11_isSheet_6 : decode cX11_isSheet 6 = .ok (.invokestatic 126, 3) := by decide +kernel
theorem dX11_isSheet_9 : decode cX11_isSheet 9 = .ok (.ireturn, 1) := by decide +kernel
theorem dX11_placeOf_0 : decode cX11_placeOf 0 = .ok (.iload_n 0, 1) := by decide +kernel
theorem dX11_placeOf_1 : decode cX11_placeOf 1 = .ok (.i2l, 1) := by decide +kernel
theorem dX11_placeOf_2 : decode cX11_placeOf 2 = .ok (.lconst 0, 1) := by decide +kernel
theorem dX11_placeOf_3 : decode cX11_placeOf 3 = .ok (.ldc2_w 152, 3) := by decide +kernel
theorem dX11_placeOf_6 : decode cX11_placeOf 6 = .ok (.invokestatic 126, 3) := by decide +kernel
theorem dX11_placeOf_9 : decode cX11_placeOf 9 = .ok (.ifCond .ne 5, 3) := by decide +kernel
theorem dX11_placeOf_12 : decode cX11_placeOf 12 = .ok (.iconst (-1), 1) := by decide +kernel
theorem dX11_placeOf_13 : decode cX11_placeOf 13 = .ok (.ireturn, 1) := by decide +kernel
theorem dX11_placeOf_14 : decode cX11_placeOf 14 = .ok (.iconst 0, 1) := by decide +kernel
theorem dX11_placeOf_15 : decode cX11_placeOf 15 = .ok (.istore_n 1, 1) := by decide +kernel
theorem dX11_placeOf_16 : decode cX11_placeOf 16 = .ok (.iconst 1, 1) := by decide +kernel
theorem dX11_placeOf_17 : decode cX11_placeOf 17 = .ok (.istore_n 2, 1) := by decide +kernel
theorem dX11_placeOf_18 : decode cX11_placeOf 18 = .ok (.iload_n 0, 1) := by decide +kernel
theorem dX11_placeOf_19 : decode cX11_placeOf 19 = .ok (.istore_n 3, 1) := by decide +kernel
theorem dX11_placeOf_20 : decode cX11_placeOf 20 = .ok (.iconst 0, 1) := by decide +kernel
theorem dX11_placeOf_21 : decode cX11_placeOf 21 = .ok (.istore 4, 2) := by decide +kernel
theorem dX11_placeOf_23 : decode cX11_placeOf 23 = .ok (.iload 4, 2) := by decide +kernel
theorem dX11_placeOf_25 : decode cX11_placeOf 25 = .ok (.iconst 5, 1) := by decide +kernel
theorem dX11_placeOf_26 : decode cX11_placeOf 26 = .ok (.if_icmp .ge 39, 3) := by decide +kernel
theorem dX11_placeOf_29 : decode cX11_placeOf 29 = .ok (.iload_n 3, 1) := by decide +kernel
theorem dX11_placeOf_30 : decode cX11_placeOf 30 = .ok (.bipush 10, 2) := by decide +kernel
theorem dX11_placeOf_32 : decode cX11_placeOf 32 = .ok (.irem, 1) := by decide +kernel
theorem dX11_placeOf_33 : decode cX11_placeOf 33 = .ok (.bipush 8, 2) := by decide +kernel
theorem dX11_placeOf_35 : decode cX11_placeOf 35 = .ok (.if_icmp .le 5, 3) := by decide +kernel
theorem dX11_placeOf_38 : decode cX11_placeOf 38 = .ok (.iconst (-1), 1) := by decide +kernel
theorem dX11_placeOf_39 : decode cX11_placeOf 39 = .ok (.ireturn, 1) := by decide +kernel
theorem dX11_placeOf_40 : decode cX11_placeOf 40 = .ok (.iload_n 1, 1) := by decide +kernel
theorem dX11_placeOf_41 : decode cX11_placeOf 41 = .ok (.iload_n 2, 1) := by decide +kernel
theorem dX11_placeOf_42 : decode cX11_placeOf 42 = .ok (.iload_n 3, 1) := by decide +kernel
theorem dX11_placeOf_43 : decode cX11_placeOf 43 = .ok (.bipush 10, 2) := by decide +kernel
theorem dX11_placeOf_45 : decode cX11_placeOf 45 = .ok (.irem, 1) := by decide +kernel
theorem dX11_placeOf_46 : decode cX11_placeOf 46 = .ok (.imul, 1) := by decide +kernel
theorem dX11_placeOf_47 : decode cX11_placeOf 47 = .ok (.iadd, 1) := by decide +kernel
theorem dX11_placeOf_48 : decode cX11_placeOf 48 = .ok (.istore_n 1, 1) := by decide +kernel
theorem dX11_placeOf_49 : decode cX11_placeOf 49 = .ok (.bipush 9, 2) := by decide +kernel
theorem dX11_placeOf_51 : decode cX11_placeOf 51 = .ok (.iload_n 2, 1) := by decide +kernel
theorem dX11_placeOf_52 : decode cX11_placeOf 52 = .ok (.imul, 1) := by decide +kernel
theorem dX11_placeOf_53 : decode cX11_placeOf 53 = .ok (.istore_n 2, 1) := by decide +kernel
theorem dX11_placeOf_54 : decode cX11_placeOf 54 = .ok (.iload_n 3, 1) := by decide +kernel
theorem dX11_placeOf_55 : decode cX11_placeOf 55 = .ok (.bipush 10, 2) := by decide +kernel
theorem dX11_placeOf_57 : decode cX11_placeOf 57 = .ok (.idiv, 1) := by decide +kernel
theorem dX11_placeOf_58 : decode cX11_placeOf 58 = .ok (.istore_n 3, 1) := by decide +kernel
theorem dX11_placeOf_59 : decode cX11_placeOf 59 = .ok (.iinc 4 1, 3) := by decide +kernel
theorem dX11_placeOf_62 : decode cX11_placeOf 62 = .ok (.goto (-39), 3) := by decide +kernel
theorem dX11_placeOf_65 : decode cX11_placeOf 65 = .ok (.iload_n 1, 1) := by decide +kernel
theorem dX11_placeOf_66 : decode cX11_placeOf 66 = .ok (.ireturn, 1) := by decide +kernel
theorem dX11_toldOf_0 : decode cX11_toldOf 0 = .ok (.iconst 0, 1) := by decide +kernel
theorem dX11_toldOf_1 : decode cX11_toldOf 1 = .ok (.istore_n 1, 1) := by decide +kernel
theorem dX11_toldOf_2 : decode cX11_toldOf 2 = .ok (.iconst 1, 1) := by decide +kernel
theorem dX11_toldOf_3 : decode cX11_toldOf 3 = .ok (.istore_n 2, 1) := by decide +kernel
theorem dX11_toldOf_4 : decode cX11_toldOf 4 = .ok (.iload_n 0, 1) := by decide +kernel
theorem dX11_toldOf_5 : decode cX11_toldOf 5 = .ok (.istore_n 3, 1) := by decide +kernel
theorem dX11_toldOf_6 : decode cX11_toldOf 6 = .ok (.iconst 0, 1) := by decide +kernel
theorem dX11_toldOf_7 : decode cX11_toldOf 7 = .ok (.istore 4, 2) := by decide +kernel
theorem dX11_toldOf_9 : decode cX11_toldOf 9 = .ok (.iload 4, 2) := by decide +kernel
theorem dX11_toldOf_11 : decode cX11_toldOf 11 = .ok (.iconst 5, 1) := by decide +kernel
theorem dX11_toldOf_12 : decode cX11_toldOf 12 = .ok (.if_icmp .ge 28, 3) := by decide +kernel
theorem dX11_toldOf_15 : decode cX11_toldOf 15 = .ok (.iload_n 1, 1) := by decide +kernel
theorem dX11_toldOf_16 : decode cX11_toldOf 16 = .ok (.iload_n 2, 1) := by decide +kernel
theorem dX11_toldOf_17 : decode cX11_toldOf 17 = .ok (.iload_n 3, 1) := by decide +kernel
theorem dX11_toldOf_18 : decode cX11_toldOf 18 = .ok (.bipush 9, 2) := by decide +kernel
theorem dX11_toldOf_20 : decode cX11_toldOf 20 = .ok (.irem, 1) := by decide +kernel
theorem dX11_toldOf_21 : decode cX11_toldOf 21 = .ok (.imul, 1) := by decide +kernel
theorem dX11_toldOf_22 : decode cX11_toldOf 22 = .ok (.iadd, 1) := by decide +kernel
theorem dX11_toldOf_23 : decode cX11_toldOf 23 = .ok (.istore_n 1, 1) := by decide +kernel
theorem dX11_toldOf_24 : decode cX11_toldOf 24 = .ok (.bipush 10, 2) := by decide +kernel
theorem dX11_toldOf_26 : decode cX11_toldOf 26 = .ok (.iload_n 2, 1) := by decide +kernel
theorem dX11_toldOf_27 : decode cX11_toldOf 27 = .ok (.imul, 1) := by decide +kernel
theorem dX11_toldOf_28 : decode cX11_toldOf 28 = .ok (.istore_n 2, 1) := by decide +kernel
theorem dX11_toldOf_29 : decode cX11_toldOf 29 = .ok (.iload_n 3, 1) := by decide +kernel
theorem dX11_toldOf_30 : decode cX11_toldOf 30 = .ok (.bipush 9, 2) := by decide +kernel
theorem dX11_toldOf_32 : decode cX11_toldOf 32 = .ok (.idiv, 1) := by decide +kernel
theorem dX11_toldOf_33 : decode cX11_toldOf 33 = .ok (.istore_n 3, 1) := by decide +kernel
theorem dX11_toldOf_34 : decode cX11_toldOf 34 = .ok (.iinc 4 1, 3) := by decide +kernel
theorem dX11_toldOf_37 : decode cX11_toldOf 37 = .ok (.goto (-28), 3) := by decide +kernel
theorem dX11_toldOf_40 : decode cX11_toldOf 40 = .ok (.iload_n 1, 1) := by decide +kernel
theorem dX11_toldOf_41 : decode cX11_toldOf 41 = .ok (.ireturn, 1) := by decide +kernel
theorem dX11_wipe_0 : decode cX11_wipe 0 = .ok (.iconst 0, 1) := by decide +kernel
theorem dX11_wipe_1 : decode cX11_wipe 1 = .ok (.istore_n 1, 1) := by decide +kernel
theorem dX11_wipe_2 : decode cX11_wipe 2 = .ok (.iload_n 1, 1) := by decide +kernel
theorem dX11_wipe_3 : decode cX11_wipe 3 = .ok (.ldc 30, 2) := by decide +kernel
theorem dX11_wipe_5 : decode cX11_wipe 5 = .ok (.if_icmp .ge 16, 3) := by decide +kernel
theorem dX11_wipe_8 : decode cX11_wipe 8 = .ok (.aload_n 0, 1) := by decide +kernel
theorem dX11_wipe_9 : decode cX11_wipe 9 = .ok (.getfield 31, 3) := by decide +kernel
theorem dX11_wipe_12 : decode cX11_wipe 12 = .ok (.iload_n 1, 1) := by decide +kernel
theorem dX11_wipe_13 : decode cX11_wipe 13 = .ok (.lconst 0, 1) := by decide +kernel
theorem dX11_wipe_14 : decode cX11_wipe 14 = .ok (.lastore, 1) := by decide +kernel
theorem dX11_wipe_15 : decode cX11_wipe 15 = .ok (.iinc 1 1, 3) := by decide +kernel
theorem dX11_wipe_18 : decode cX11_wipe 18 = .ok (.goto (-16), 3) := by decide +kernel
theorem dX11_wipe_21 : decode cX11_wipe 21 = .ok (.return_, 1) := by decide +kernel
theorem dX11_takes_0 : decode cX11_takes 0 = .ok (.iconst 0, 1) := by decide +kernel
theorem dX11_takes_1 : decode cX11_takes 1 = .ok (.istore 4, 2) := by decide +kernel
theorem dX11_takes_3 : decode cX11_takes 3 = .ok (.iload 4, 2) := by decide +kernel
theorem dX11_takes_5 : decode cX11_takes 5 = .ok (.aload_n 0, 1) := by decide +kernel
theorem dX11_takes_6 : decode cX11_takes 6 = .ok (.getfield 20, 3) := by decide +kernel
theorem dX11_takes_9 : decode cX11_takes 9 = .ok (.iload_n 1, 1) := by decide +kernel
theorem dX11_takes_10 : decode cX11_takes 10 = .ok (.iaload, 1) := by decide +kernel
theorem dX11_takes_11 : decode cX11_takes 11 = .ok (.if_icmp .ge 48, 3) := by decide +kernel
theorem dX11_takes_14 : decode cX11_takes 14 = .ok (.aload_n 0, 1) := by decide +kernel
theorem dX11_takes_15 : decode cX11_takes 15 = .ok (.getfield 31, 3) := by decide +kernel
theorem dX11_takes_18 : decode cX11_takes 18 = .ok (.aload_n 0, 1) := by decide +kernel
theorem dX11_takes_19 : decode cX11_takes 19 = .ok (.getfield 23, 3) := by decide +kernel
theorem dX11_takes_22 : decode cX11_takes 22 = .ok (.sipush 600, 3) := by decide +kernel
theorem dX11_takes_25 : decode cX11_takes 25 = .ok (.iload_n 1, 1) := by decide +kernel
theorem dX11_takes_26 : decode cX11_takes 26 = .ok (.imul, 1) := by decide +kernel
theorem dX11_takes_27 : decode cX11_takes 27 = .ok (.iload 4, 2) := by decide +kernel
theorem dX11_takes_29 : decode cX11_takes 29 = .ok (.iadd, 1) := by decide +kernel
theorem dX11_takes_30 : decode cX11_takes 30 = .ok (.iaload, 1) := by decide +kernel
theorem dX11_takes_31 : decode cX11_takes 31 = .ok (.invokestatic 154, 3) := by decide +kernel
theorem dX11_takes_34 : decode cX11_takes 34 = .ok (.dup2, 1) := by decide +kernel
theorem dX11_takes_35 : decode cX11_takes 35 = .ok (.laload, 1) := by decide +kernel
theorem dX11_takes_36 : decode cX11_takes 36 = .ok (.lload_n 2, 1) := by decide +kernel
theorem dX11_takes_37 : decode cX11_takes 37 = .ok (.aload_n 0, 1) := by decide +kernel
theorem dX11_takes_38 : decode cX11_takes 38 = .ok (.getfield 26, 3) := by decide +kernel
theorem dX11_takes_41 : decode cX11_takes 41 = .ok (.sipush 600, 3) := by decide +kernel
theorem dX11_takes_44 : decode cX11_takes 44 = .ok (.iload_n 1, 1) := by decide +kernel
theorem dX11_takes_45 : decode cX11_takes 45 = .ok (.imul, 1) := by decide +kernel
theorem dX11_takes_46 : decode cX11_takes 46 = .ok (.iload 4, 2) := by decide +kernel
theorem dX11_takes_48 : decode cX11_takes 48 = .ok (.iadd, 1) := by decide +kernel
theorem dX11_takes_49 : decode cX11_takes 49 = .ok (.laload, 1) := by decide +kernel
theorem dX11_takes_50 : decode cX11_takes 50 = .ok (.lmul, 1) := by decide +kernel
theorem dX11_takes_51 : decode cX11_takes 51 = .ok (.ladd, 1) := by decide +kernel
theorem dX11_takes_52 : decode cX11_takes 52 = .ok (.lastore, 1) := by decide +kernel
theorem dX11_takes_53 : decode cX11_takes 53 = .ok (.iinc 4 1, 3) := by decide +kernel
theorem dX11_takes_56 : decode cX11_takes 56 = .ok (.goto (-53), 3) := by decide +kernel
theorem dX11_takes_59 : decode cX11_takes 59 = .ok (.return_, 1) := by decide +kernel
theorem dX11_tooMuch_0 : decode cX11_tooMuch 0 = .ok (.iconst 0, 1) := by decide +kernel
theorem dX11_tooMuch_1 : decode cX11_tooMuch 1 = .ok (.istore_n 1, 1) := by decide +kernel
theorem dX11_tooMuch_2 : decode cX11_tooMuch 2 = .ok (.iconst 0, 1) := by decide +kernel
theorem dX11_tooMuch_3 : decode cX11_tooMuch 3 = .ok (.istore_n 2, 1) := by decide +kernel
theorem dX11_tooMuch_4 : decode cX11_tooMuch 4 = .ok (.iconst 0, 1) := by decide +kernel
theorem dX11_tooMuch_5 : decode cX11_tooMuch 5 = .ok (.istore_n 3, 1) := by decide +kernel
theorem dX11_tooMuch_6 : decode cX11_tooMuch 6 = .ok (.iload_n 3, 1) := by decide +kernel
theorem dX11_tooMuch_7 : decode cX11_tooMuch 7 = .ok (.ldc 30, 2) := by decide +kernel
theorem dX11_tooMuch_9 : decode cX11_tooMuch 9 = .ok (.if_icmp .ge 54, 3) := by decide +kernel
theorem dX11_tooMuch_12 : decode cX11_tooMuch 12 = .ok (.iload_n 1, 1) := by decide +kernel
theorem dX11_tooMuch_13 : decode cX11_tooMuch 13 = .ok (.aload_n 0, 1) := by decide +kernel
theorem dX11_tooMuch_14 : decode cX11_tooMuch 14 = .ok (.getfield 31, 3) := by decide +kernel
theorem dX11_tooMuch_17 : decode cX11_tooMuch 17 = .ok (.iload_n 3, 1) := by decide +kernel
theorem dX11_tooMuch_18 : decode cX11_tooMuch 18 = .ok (.laload, 1) := by decide +kernel
theorem dX11_tooMuch_19 : decode cX11_tooMuch 19 = .ok (.lconst 0, 1) := by decide +kernel
theorem dX11_tooMuch_20 : decode cX11_tooMuch 20 = .ok (.lcmp, 1) := by decide +kernel
theorem dX11_tooMuch_21 : decode cX11_tooMuch 21 = .ok (.ifCond .eq 7, 3) := by decide +kernel
theorem dX11_tooMuch_24 : decode cX11_tooMuch 24 = .ok (.iconst 1, 1) := by decide +kernel
theorem dX11_tooMuch_25 : decode cX11_tooMuch 25 = .ok (.goto 4, 3) := by decide +kernel
theorem dX11_tooMuch_28 : decode cX11_tooMuch 28 = .ok (.iconst 0, 1) := by decide +kernel
theorem dX11_tooMuch_29 : decode cX11_tooMuch 29 = .ok (.iadd, 1) := by decide +kernel
theorem dX11_tooMuch_30 : decode cX11_tooMuch 30 = .ok (.istore_n 1, 1) := by decide +kernel
theorem dX11_tooMuch_31 : decode cX11_tooMuch 31 = .ok (.iload_n 2, 1) := by decide +kernel
theorem dX11_tooMuch_32 : decode cX11_tooMuch 32 = .ok (.aload_n 0, 1) := by decide +kernel
theorem dX11_tooMuch_33 : decode cX11_tooMuch 33 = .ok (.getfield 31, 3) := by decide +kernel
theorem dX11_tooMuch_36 : decode cX11_tooMuch 36 = .ok (.iload_n 3, 1) := by decide +kernel
theorem dX11_tooMuch_37 : decode cX11_tooMuch 37 = .ok (.laload, 1) := by decide +kernel
theorem dX11_tooMuch_38 : decode cX11_tooMuch 38 = .ok (.ldc2_w 158, 3) := by decide +kernel
theorem dX11_tooMuch_41 : decode cX11_tooMuch 41 = .ok (.ldc2_w 160, 3) := by decide +kernel
theorem dX11_tooMuch_44 : decode cX11_tooMuch 44 = .ok (.invokestatic 126, 3) := by decide +kernel
theorem dX11_tooMuch_47 : decode cX11_tooMuch 47 = .ok (.ifCond .ne 7, 3) := by decide +kernel
theorem dX11_tooMuch_50 : decode cX11_tooMuch 50 = .ok (.iconst 1, 1) := by decide +kernel
theorem dX11_tooMuch_51 : decode cX11_tooMuch 51 = .ok (.goto 4, 3) := by decide +kernel
theorem dX11_tooMuch_54 : decode cX11_tooMuch 54 = .ok (.iconst 0, 1) := by decide +kernel
theorem dX11_tooMuch_55 : decode cX11_tooMuch 55 = .ok (.ior, 1) := by decide +kernel
theorem dX11_tooMuch_56 : decode cX11_tooMuch 56 = .ok (.istore_n 2, 1) := by decide +kernel
theorem dX11_tooMuch_57 : decode cX11_tooMuch 57 = .ok (.iinc 3 1, 3) := by decide +kernel
theorem dX11_tooMuch_60 : decode cX11_tooMuch 60 = .ok (.goto (-54), 3) := by decide +kernel
theorem dX11_tooMuch_63 : decode cX11_tooMuch 63 = .ok (.iload_n 2, 1) := by decide +kernel
theorem dX11_tooMuch_64 : decode cX11_tooMuch 64 = .ok (.ifCond .eq 8, 3) := by decide +kernel
theorem dX11_tooMuch_67 : decode cX11_tooMuch 67 = .ok (.bipush (-5), 2) := by decide +kernel
theorem dX11_tooMuch_69 : decode cX11_tooMuch 69 = .ok (.goto 16, 3) := by decide +kernel
theorem dX11_tooMuch_72 : decode cX11_tooMuch 72 = .ok (.iload_n 1, 1) := by decide +kernel
theorem dX11_tooMuch_73 : decode cX11_tooMuch 73 = .ok (.sipush 600, 3) := by decide +kernel
theorem dX11_tooMuch_76 : decode cX11_tooMuch 76 = .ok (.if_icmp .le 8, 3) := by decide +kernel
theorem dX11_tooMuch_79 : decode cX11_tooMuch 79 = .ok (.bipush (-6), 2) := by decide +kernel
theorem dX11_tooMuch_81 : decode cX11_tooMuch 81 = .ok (.goto 4, 3) := by decide +kernel
theorem dX11_tooMuch_84 : decode cX11_tooMuch 84 = .ok (.iconst 0, 1) := by decide +kernel
theorem dX11_tooMuch_85 : decode cX11_tooMuch 85 = .ok (.ireturn, 1) := by decide +kernel
theorem dX11_lays_0 : decode cX11_lays 0 = .ok (.aload_n 0, 1) := by decide +kernel
theorem dX11_lays_1 : decode cX11_lays 1 = .ok (.invokevirtual 162, 3) := by decide +kernel
theorem dX11_lays_4 : decode cX11_lays 4 = .ok (.istore_n 2, 1) := by decide +kernel
theorem dX11_lays_5 : decode cX11_lays 5 = .ok (.iload_n 2, 1) := by decide +kernel
theorem dX11_lays_6 : decode cX11_lays 6 = .ok (.ifCond .eq 5, 3) := by decide +kernel
theorem dX11_lays_9 : decode cX11_lays 9 = .ok (.iload_n 2, 1) := by decide +kernel
theorem dX11_lays_10 : decode cX11_lays 10 = .ok (.ireturn, 1) := by decide +kernel
theorem dX11_lays_11 : decode cX11_lays 11 = .ok (.iconst 0, 1) := by decide +kernel
theorem dX11_lays_12 : decode cX11_lays 12 = .ok (.istore_n 3, 1) := by decide +kernel
theorem dX11_lays_13 : decode cX11_lays 13 = .ok (.ldc 165, 2) := by decide +kernel
theorem dX11_lays_15 : decode cX11_lays 15 = .ok (.istore 4, 2) := by decide +kernel
theorem dX11_lays_17 : decode cX11_lays 17 = .ok (.iload 4, 2) := by decide +kernel
theorem dX11_lays_19 : decode cX11_lays 19 = .ok (.ifCond .lt 60, 3) := by decide +kernel
theorem dX11_lays_22 : decode cX11_lays 22 = .ok (.aload_n 0, 1) := by decide +kernel
theorem dX11_lays_23 : decode cX11_lays 23 = .ok (.getfield 31, 3) := by decide +kernel
theorem dX11_lays_26 : decode cX11_lays 26 = .ok (.iload 4, 2) := by decide +kernel
theorem dX11_lays_28 : decode cX11_lays 28 = .ok (.laload, 1) := by decide +kernel
theorem dX11_lays_29 : decode cX11_lays 29 = .ok (.lconst 0, 1) := by decide +kernel
theorem dX11_lays_30 : decode cX11_lays 30 = .ok (.lcmp, 1) := by decide +kernel
theorem dX11_lays_31 : decode cX11_lays 31 = .ok (.ifCond .eq 42, 3) := by decide +kernel
theorem dX11_lays_34 : decode cX11_lays 34 = .ok (.aload_n 0, 1) := by decide +kernel
theorem dX11_lays_35 : decode cX11_lays 35 = .ok (.getfield 23, 3) := by decide +kernel
theorem dX11_lays_38 : decode cX11_lays 38 = .ok (.sipush 600, 3) := by decide +kernel
theorem dX11_lays_41 : decode cX11_lays 41 = .ok (.iload_n 1, 1) := by decide +kernel
theorem dX11_lays_42 : decode cX11_lays 42 = .ok (.imul, 1) := by decide +kernel
theorem dX11_lays_43 : decode cX11_lays 43 = .ok (.iload_n 3, 1) := by decide +kernel
theorem dX11_lays_44 : decode cX11_lays 44 = .ok (.iadd, 1) := by decide +kernel
theorem dX11_lays_45 : decode cX11_lays 45 = .ok (.iload 4, 2) := by decide +kernel
theorem dX11_lays_47 : decode cX11_lays 47 = .ok (.invokestatic 166, 3) := by decide +kernel
theorem dX11_lays_50 : decode cX11_lays 50 = .ok (.iastore, 1) := by decide +kernel
theorem dX11_lays_51 : decode cX11_lays 51 = .ok (.aload_n 0, 1) := by decide +kernel
theorem dX11_lays_52 : decode cX11_lays 52 = .ok (.getfield 26, 3) := by decide +kernel
theorem dX11_lays_55 : decode cX11_lays 55 = .ok (.sipush 600, 3) := by decide +kernel
theorem dX11_lays_58 : decode cX11_lays 58 = .ok (.iload_n 1, 1) := by decide +kernel
theorem dX11_lays_59 : decode cX11_lays 59 = .ok (.imul, 1) := by decide +kernel
theorem dX11_lays_60 : decode cX11_lays 60 = .ok (.iload_n 3, 1) := by decide +kernel
theorem dX11_lays_61 : decode cX11_lays 61 = .ok (.iadd, 1) := by decide +kernel
theorem dX11_lays_62 : decode cX11_lays 62 = .ok (.aload_n 0, 1) := by decide +kernel
theorem dX11_lays_63 : decode cX11_lays 63 = .ok (.getfield 31, 3) := by decide +kernel
theorem dX11_lays_66 : decode cX11_lays 66 = .ok (.iload 4, 2) := by decide +kernel
theorem dX11_lays_68 : decode cX11_lays 68 = .ok (.laload, 1) := by decide +kernel
theorem dX11_lays_69 : decode cX11_lays 69 = .ok (.lastore, 1) := by decide +kernel
theorem dX11_lays_70 : decode cX11_lays 70 = .ok (.iinc 3 1, 3) := by decide +kernel
theorem dX11_lays_73 : decode cX11_lays 73 = .ok (.iinc 4 (-1), 3) := by decide +kernel
theorem dX11_lays_76 : decode cX11_lays 76 = .ok (.goto (-59), 3) := by decide +kernel
theorem dX11_lays_79 : decode cX11_lays 79 = .ok (.aload_n 0, 1) := by decide +kernel
theorem dX11_lays_80 : decode cX11_lays 80 = .ok (.getfield 16, 3) := by decide +kernel
theorem dX11_lays_83 : decode cX11_lays 83 = .ok (.iload_n 1, 1) := by decide +kernel
theorem dX11_lays_84 : decode cX11_lays 84 = .ok (.iconst 1, 1) := by decide +kernel
theorem dX11_lays_85 : decode cX11_lays 85 = .ok (.bastore, 1) := by decide +kernel
theorem dX11_lays_86 : decode cX11_lays 86 = .ok (.aload_n 0, 1) := by decide +kernel
theorem dX11_lays_87 : decode cX11_lays 87 = .ok (.getfield 20, 3) := by decide +kernel
theorem dX11_lays_90 : decode cX11_lays 90 = .ok (.iload_n 1, 1) := by decide +kernel
theorem dX11_lays_91 : decode cX11_lays 91 = .ok (.iload_n 3, 1) := by decide +kernel
theorem dX11_lays_92 : decode cX11_lays 92 = .ok (.iastore, 1) := by decide +kernel
theorem dX11_lays_93 : decode cX11_lays 93 = .ok (.iload_n 3, 1) := by decide +kernel
theorem dX11_lays_94 : decode cX11_lays 94 = .ok (.ireturn, 1) := by decide +kernel
theorem dX11_blank_0 : decode cX11_blank 0 = .ok (.iload_n 1, 1) := by decide +kernel
theorem dX11_blank_1 : decode cX11_blank 1 = .ok (.invokestatic 169, 3) := by decide +kernel
theorem dX11_blank_4 : decode cX11_blank 4 = .ok (.ifCond .ne 6, 3) := by decide +kernel
theorem dX11_blank_7 : decode cX11_blank 7 = .ok (.bipush (-2), 2) := by decide +kernel
theorem dX11_blank_9 : decode cX11_blank 9 = .ok (.ireturn, 1) := by decide +kernel
theorem dX11_blank_10 : decode cX11_blank 10 = .ok (.aload_n 0, 1) := by decide +kernel
theorem dX11_blank_11 : decode cX11_blank 11 = .ok (.getfield 16, 3) := by decide +kernel
theorem dX11_blank_14 : decode cX11_blank 14 = .ok (.iload_n 1, 1) := by decide +kernel
theorem dX11_blank_15 : decode cX11_blank 15 = .ok (.iconst 1, 1) := by decide +kernel
theorem dX11_blank_16 : decode cX11_blank 16 = .ok (.bastore, 1) := by decide +kernel
theorem dX11_blank_17 : decode cX11_blank 17 = .ok (.aload_n 0, 1) := by decide +kernel
theorem dX11_blank_18 : decode cX11_blank 18 = .ok (.getfield 20, 3) := by decide +kernel
theorem dX11_blank_21 : decode cX11_blank 21 = .ok (.iload_n 1, 1) := by decide +kernel
theorem dX11_blank_22 : decode cX11_blank 22 = .ok (.iconst 0, 1) := by decide +kernel
theorem dX11_blank_23 : decode cX11_blank 23 = .ok (.iastore, 1) := by decide +kernel
theorem dX11_blank_24 : decode cX11_blank 24 = .ok (.iconst 1, 1) := by decide +kernel
theorem dX11_blank_25 : decode cX11_blank 25 = .ok (.ireturn, 1) := by decide +kernel
theorem dX11_lose_0 : decode cX11_lose 0 = .ok (.iload_n 1, 1) := by decide +kernel
theorem dX11_lose_1 : decode cX11_lose 1 = .ok (.invokestatic 169, 3) := by decide +kernel
theorem dX11_lose_4 : decode cX11_lose 4 = .ok (.ifCond .ne 6, 3) := by decide +kernel
theorem dX11_lose_7 : decode cX11_lose 7 = .ok (.bipush (-2), 2) := by decide +kernel
theorem dX11_lose_9 : decode cX11_lose 9 = .ok (.ireturn, 1) := by decide +kernel
theorem dX11_lose_10 : decode cX11_lose 10 = .ok (.aload_n 0, 1) := by decide +kernel
theorem dX11_lose_11 : decode cX11_lose 11 = .ok (.getfield 16, 3) := by decide +kernel
theorem dX11_lose_14 : decode cX11_lose 14 = .ok (.iload_n 1, 1) := by decide +kernel
theorem dX11_lose_15 : decode cX11_lose 15 = .ok (.baload, 1) := by decide +kernel
theorem dX11_lose_16 : decode cX11_lose 16 = .ok (.ifCond .ne 6, 3) := by decide +kernel
theorem dX11_lose_19 : decode cX11_lose 19 = .ok (.bipush (-3), 2) := by decide +kernel
theorem dX11_lose_21 : decode cX11_lose 21 = .ok (.ireturn, 1) := by decide +kernel
theorem dX11_lose_22 : decode cX11_lose 22 = .ok (.aload_n 0, 1) := by decide +kernel
theorem dX11_lose_23 : decode cX11_lose 23 = .ok (.getfield 16, 3) := by decide +kernel
theorem dX11_lose_26 : decode cX11_lose 26 = .ok (.iload_n 1, 1) := by decide +kernel
theorem dX11_lose_27 : decode cX11_lose 27 = .ok (.iconst 0, 1) := by decide +kernel
theorem dX11_lose_28 : decode cX11_lose 28 = .ok (.bastore, 1) := by decide +kernel
theorem dX11_lose_29 : decode cX11_lose 29 = .ok (.aload_n 0, 1) := by decide +kernel
theorem dX11_lose_30 : decode cX11_lose 30 = .ok (.getfield 20, 3) := by decide +kernel
theorem dX11_lose_33 : decode cX11_lose 33 = .ok (.iload_n 1, 1) := by decide +kernel
theorem dX11_lose_34 : decode cX11_lose 34 = .ok (.iaload, 1) := by decide +kernel
theorem dX11_lose_35 : decode cX11_lose 35 = .ok (.ireturn, 1) := by decide +kernel
theorem dX11_add_0 : decode cX11_add 0 = .ok (.iload_n 1, 1) := by decide +kernel
theorem dX11_add_1 : decode cX11_add 1 = .ok (.invokestatic 169, 3) := by decide +kernel
theorem dX11_add_4 : decode cX11_add 4 = .ok (.ifCond .eq 25, 3) := by decide +kernel
theorem dX11_add_7 : decode cX11_add 7 = .ok (.lload_n 2, 1) := by decide +kernel
theorem dX11_add_8 : decode cX11_add 8 = .ok (.ldc2_w 158, 3) := by decide +kernel
theorem dX11_add_11 : decode cX11_add 11 = .ok (.ldc2_w 160, 3) := by decide +kernel
theorem dX11_add_14 : decode cX11_add 14 = .ok (.invokestatic 126, 3) := by decide +kernel
theorem dX11_add_17 : decode cX11_add 17 = .ok (.ifCond .eq 12, 3) := by decide +kernel
theorem dX11_add_20 : decode cX11_add 20 = .ok (.iload 4, 2) := by decide +kernel
theorem dX11_add_22 : decode cX11_add 22 = .ok (.invokestatic 154, 3) := by decide +kernel
theorem dX11_add_25 : decode cX11_add 25 = .ok (.iconst (-1), 1) := by decide +kernel
theorem dX11_add_26 : decode cX11_add 26 = .ok (.if_icmp .ne 6, 3) := by decide +kernel
theorem dX11_add_29 : decode cX11_add 29 = .ok (.bipush (-2), 2) := by decide +kernel
theorem dX11_add_31 : decode cX11_add 31 = .ok (.ireturn, 1) := by decide +kernel
theorem dX11_add_32 : decode cX11_add 32 = .ok (.aload_n 0, 1) := by decide +kernel
theorem dX11_add_33 : decode cX11_add 33 = .ok (.getfield 16, 3) := by decide +kernel
theorem dX11_add_36 : decode cX11_add 36 = .ok (.iload_n 1, 1) := by decide +kernel
theorem dX11_add_37 : decode cX11_add 37 = .ok (.baload, 1) := by decide +kernel
theorem dX11_add_38 : decode cX11_add 38 = .ok (.ifCond .ne 6, 3) := by decide +kernel
theorem dX11_add_41 : decode cX11_add 41 = .ok (.bipush (-3), 2) := by decide +kernel
theorem dX11_add_43 : decode cX11_add 43 = .ok (.ireturn, 1) := by decide +kernel
theorem dX11_add_44 : decode cX11_add 44 = .ok (.aload_n 0, 1) := by decide +kernel
theorem dX11_add_45 : decode cX11_add 45 = .ok (.invokevirtual 172, 3) := by decide +kernel
theorem dX11_add_48 : decode cX11_add 48 = .ok (.aload_n 0, 1) := by decide +kernel
theorem dX11_add_49 : decode cX11_add 49 = .ok (.iload_n 1, 1) := by decide +kernel
theorem dX11_add_50 : decode cX11_add 50 = .ok (.lconst 1, 1) := by decide +kernel
theorem dX11_add_51 : decode cX11_add 51 = .ok (.invokevirtual 175, 3) := by decide +kernel
theorem dX11_add_54 : decode cX11_add 54 = .ok (.aload_n 0, 1) := by decide +kernel
theorem dX11_add_55 : decode cX11_add 55 = .ok (.getfield 31, 3) := by decide +kernel
theorem dX11_add_58 : decode cX11_add 58 = .ok (.iload 4, 2) := by decide +kernel
theorem dX11_add_60 : decode cX11_add 60 = .ok (.invokestatic 154, 3) := by decide +kernel
theorem dX11_add_63 : decode cX11_add 63 = .ok (.dup2, 1) := by decide +kernel
theorem dX11_add_64 : decode cX11_add 64 = .ok (.laload, 1) := by decide +kernel
theorem dX11_add_65 : decode cX11_add 65 = .ok (.lload_n 2, 1) := by decide +kernel
theorem dX11_add_66 : decode cX11_add 66 = .ok (.ladd, 1) := by decide +kernel
theorem dX11_add_67 : decode cX11_add 67 = .ok (.lastore, 1) := by decide +kernel
theorem dX11_add_68 : decode cX11_add 68 = .ok (.aload_n 0, 1) := by decide +kernel
theorem dX11_add_69 : decode cX11_add 69 = .ok (.iload_n 1, 1) := by decide +kernel
theorem dX11_add_70 : decode cX11_add 70 = .ok (.invokevirtual 179, 3) := by decide +kernel
theorem dX11_add_73 : decode cX11_add 73 = .ok (.ireturn, 1) := by decide +kernel
theorem dX11_terms_0 : decode cX11_terms 0 = .ok (.iload_n 1, 1) := by decide +kernel
theorem dX11_terms_1 : decode cX11_terms 1 = .ok (.invokestatic 169, 3) := by decide +kernel
theorem dX11_terms_4 : decode cX11_terms 4 = .ok (.ifCond .ne 8, 3) := by decide +kernel
theorem dX11_terms_7 : decode cX11_terms 7 = .ok (.bipush (-2), 2) := by decide +kernel
theorem dX11_terms_9 : decode cX11_terms 9 = .ok (.goto 23, 3) := by decide +kernel
theorem dX11_terms_12 : decode cX11_terms 12 = .ok (.aload_n 0, 1) := by decide +kernel
theorem dX11_terms_13 : decode cX11_terms 13 = .ok (.getfield 16, 3) := by decide +kernel
theorem dX11_terms_16 : decode cX11_terms 16 = .ok (.iload_n 1, 1) := by decide +kernel
theorem dX11_terms_17 : decode cX11_terms 17 = .ok (.baload, 1) := by decide +kernel
theorem dX11_terms_18 : decode cX11_terms 18 = .ok (.ifCond .eq 12, 3) := by decide +kernel
theorem dX11_terms_21 : decode cX11_terms 21 = .ok (.aload_n 0, 1) := by decide +kernel
theorem dX11_terms_22 : decode cX11_terms 22 = .ok (.getfield 20, 3) := by decide +kernel
theorem dX11_terms_25 : decode cX11_terms 25 = .ok (.iload_n 1, 1) := by decide +kernel
theorem dX11_terms_26 : decode cX11_terms 26 = .ok (.iaload, 1) := by decide +kernel
theorem dX11_terms_27 : decode cX11_terms 27 = .ok (.goto 5, 3) := by decide +kernel
theorem dX11_terms_30 : decode cX11_terms 30 = .ok (.bipush (-3), 2) := by decide +kernel
theorem dX11_terms_32 : decode cX11_terms 32 = .ok (.ireturn, 1) := by decide +kernel
theorem dX11_exponents_0 : decode cX11_exponents 0 = .ok (.iload_n 1, 1) := by decide +kernel
theorem dX11_exponents_1 : decode cX11_exponents 1 = .ok (.invokestatic 169, 3) := by decide +kernel
theorem dX11_exponents_4 : decode cX11_exponents 4 = .ok (.ifCond .ne 6, 3) := by decide +kernel
theorem dX11_exponents_7 : decode cX11_exponents 7 = .ok (.bipush (-2), 2) := by decide +kernel
theorem dX11_exponents_9 : decode cX11_exponents 9 = .ok (.ireturn, 1) := by decide +kernel
theorem dX11_exponents_10 : decode cX11_exponents 10 = .ok (.aload_n 0, 1) := by decide +kernel
theorem dX11_exponents_11 : decode cX11_exponents 11 = .ok (.getfield 16, 3) := by decide +kernel
theorem dX11_exponents_14 : decode cX11_exponents 14 = .ok (.iload_n 1, 1) := by decide +kernel
theorem dX11_exponents_15 : decode cX11_exponents 15 = .ok (.baload, 1) := by decide +kernel
theorem dX11_exponents_16 : decode cX11_exponents 16 = .ok (.ifCond .ne 6, 3) := by decide +kernel
theorem dX11_exponents_19 : decode cX11_exponents 19 = .ok (.bipush (-3), 2) := by decide +kernel
theorem dX11_exponents_21 : decode cX11_exponents 21 = .ok (.ireturn, 1) := by decide +kernel
theorem dX11_exponents_22 : decode cX11_exponents 22 = .ok (.iload_n 2, 1) := by decide +kernel
theorem dX11_exponents_23 : decode cX11_exponents 23 = .ok (.i2l, 1) := by decide +kernel
theorem dX11_exponents_24 : decode cX11_exponents 24 = .ok (.lconst 0, 1) := by decide +kernel
theorem dX11_exponents_25 : decode cX11_exponents 25 = .ok (.aload_n 0, 1) := by decide +kernel
theorem dX11_exponents_26 : decode cX11_exponents 26 = .ok (.getfield 20, 3) := by decide +kernel
theorem dX11_exponents_29 : decode cX11_exponents 29 = .ok (.iload_n 1, 1) := by decide +kernel
theorem dX11_exponents_30 : decode cX11_exponents 30 = .ok (.iaload, 1) := by decide +kernel
theorem dX11_exponents_31 : decode cX11_exponents 31 = .ok (.iconst 1, 1) := by decide +kernel
theorem dX11_exponents_32 : decode cX11_exponents 32 = .ok (.isub, 1) := by decide +kernel
theorem dX11_exponents_33 : decode cX11_exponents 33 = .ok (.i2l, 1) := by decide +kernel
theorem dX11_exponents_34 : decode cX11_exponents 34 = .ok (.invokestatic 126, 3) := by decide +kernel
theorem dX11_exponents_37 : decode cX11_exponents 37 = .ok (.ifCond .eq 18, 3) := by decide +kernel
theorem dX11_exponents_40 : decode cX11_exponents 40 = .ok (.aload_n 0, 1) := by decide +kernel
theorem dX11_exponents_41 : decode cX11_exponents 41 = .ok (.getfield 23, 3) := by decide +kernel
theorem dX11_exponents_44 : decode cX11_exponents 44 = .ok (.sipush 600, 3) := by decide +kernel
theorem dX11_exponents_47 : decode cX11_exponents 47 = .ok (.iload_n 1, 1) := by decide +kernel
theorem dX11_exponents_48 : decode cX11_exponents 48 = .ok (.imul, 1) := by decide +kernel
theorem dX11_exponents_49 : decode cX11_exponents 49 = .ok (.iload_n 2, 1) := by decide +kernel
theorem dX11_exponents_50 : decode cX11_exponents 50 = .ok (.iadd, 1) := by decide +kernel
theorem dX11_exponents_51 : decode cX11_exponents 51 = .ok (.iaload, 1) := by decide +kernel
theorem dX11_exponents_52 : decode cX11_exponents 52 = .ok (.goto 5, 3) := by decide +kernel
theorem dX11_exponents_55 : decode cX11_exponents 55 = .ok (.bipush (-2), 2) := by decide +kernel
theorem dX11_exponents_57 : decode cX11_exponents 57 = .ok (.ireturn, 1) := by decide +kernel
theorem dX11_number_0 : decode cX11_number 0 = .ok (.iload_n 1, 1) := by decide +kernel
theorem dX11_number_1 : decode cX11_number 1 = .ok (.invokestatic 169, 3) := by decide +kernel
theorem dX11_number_4 : decode cX11_number 4 = .ok (.ifCond .eq 11, 3) := by decide +kernel
theorem dX11_number_7 : decode cX11_number 7 = .ok (.iload_n 2, 1) := by decide +kernel
theorem dX11_number_8 : decode cX11_number 8 = .ok (.invokestatic 154, 3) := by decide +kernel
theorem dX11_number_11 : decode cX11_number 11 = .ok (.iconst (-1), 1) := by decide +kernel
theorem dX11_number_12 : decode cX11_number 12 = .ok (.if_icmp .ne 9, 3) := by decide +kernel
theorem dX11_number_15 : decode cX11_number 15 = .ok (.bipush (-2), 2) := by decide +kernel
theorem dX11_number_17 : decode cX11_number 17 = .ok (.invokestatic 182, 3) := by decide +kernel
theorem dX11_number_20 : decode cX11_number 20 = .ok (.lreturn, 1) := by decide +kernel
theorem dX11_number_21 : decode cX11_number 21 = .ok (.aload_n 0, 1) := by decide +kernel
theorem dX11_number_22 : decode cX11_number 22 = .ok (.getfield 16, 3) := by decide +kernel
theorem dX11_number_25 : decode cX11_number 25 = .ok (.iload_n 1, 1) := by decide +kernel
theorem dX11_number_26 : decode cX11_number 26 = .ok (.baload, 1) := by decide +kernel
theorem dX11_number_27 : decode cX11_number 27 = .ok (.ifCond .ne 9, 3) := by decide +kernel
theorem dX11_number_30 : decode cX11_number 30 = .ok (.bipush (-3), 2) := by decide +kernel
theorem dX11_number_32 : decode cX11_number 32 = .ok (.invokestatic 182, 3) := by decide +kernel
theorem dX11_number_35 : decode cX11_number 35 = .ok (.lreturn, 1) := by decide +kernel
theorem dX11_number_36 : decode cX11_number 36 = .ok (.iconst 0, 1) := by decide +kernel
theorem dX11_number_37 : decode cX11_number 37 = .ok (.istore_n 3, 1) := by decide +kernel
theorem dX11_number_38 : decode cX11_number 38 = .ok (.iload_n 3, 1) := by decide +kernel
theorem dX11_number_39 : decode cX11_number 39 = .ok (.aload_n 0, 1) := by decide +kernel
theorem dX11_number_40 : decode cX11_number 40 = .ok (.getfield 20, 3) := by decide +kernel
theorem dX11_number_43 : decode cX11_number 43 = .ok (.iload_n 1, 1) := by decide +kernel
theorem dX11_number_44 : decode cX11_number 44 = .ok (.iaload, 1) := by decide +kernel
theorem dX11_number_45 : decode cX11_number 45 = .ok (.if_icmp .ge 38, 3) := by decide +kernel
theorem dX11_number_48 : decode cX11_number 48 = .ok (.aload_n 0, 1) := by decide +kernel
theorem dX11_number_49 : decode cX11_number 49 = .ok (.getfield 23, 3) := by decide +kernel
theorem dX11_number_52 : decode cX11_number 52 = .ok (.sipush 600, 3) := by decide +kernel
theorem dX11_number_55 : decode cX11_number 55 = .ok (.iload_n 1, 1) := by decide +kernel
theorem dX11_number_56 : decode cX11_number 56 = .ok (.imul, 1) := by decide +kernel
theorem dX11_number_57 : decode cX11_number 57 = .ok (.iload_n 3, 1) := by decide +kernel
theorem dX11_number_58 : decode cX11_number 58 = .ok (.iadd, 1) := by decide +kernel
theorem dX11_number_59 : decode cX11_number 59 = .ok (.iaload, 1) := by decide +kernel
theorem dX11_number_60 : decode cX11_number 60 = .ok (.iload_n 2, 1) := by decide +kernel
theorem dX11_number_61 : decode cX11_number 61 = .ok (.if_icmp .ne 16, 3) := by decide +kernel
theorem dX11_number_64 : decode cX11_number 64 = .ok (.aload_n 0, 1) := by decide +kernel
theorem dX11_number_65 : decode cX11_number 65 = .ok (.getfield 26, 3) := by decide +kernel
theorem dX11_number_68 : decode cX11_number 68 = .ok (.sipush 600, 3) := by decide +kernel
theorem dX11_number_71 : decode cX11_number 71 = .ok (.iload_n 1, 1) := by decide +kernel
theorem dX11_number_72 : decode cX11_number 72 = .ok (.imul, 1) := by decide +kernel
theorem dX11_number_73 : decode cX11_number 73 = .ok (.iload_n 3, 1) := by decide +kernel
theorem dX11_number_74 : decode cX11_number 74 = .ok (.iadd, 1) := by decide +kernel
theorem dX11_number_75 : decode cX11_number 75 = .ok (.laload, 1) := by decide +kernel
theorem dX11_number_76 : decode cX11_number 76 = .ok (.lreturn, 1) := by decide +kernel
theorem dX11_number_77 : decode cX11_number 77 = .ok (.iinc 3 1, 3) := by decide +kernel
theorem dX11_number_80 : decode cX11_number 80 = .ok (.goto (-42), 3) := by decide +kernel
theorem dX11_number_83 : decode cX11_number 83 = .ok (.lconst 0, 1) := by decide +kernel
theorem dX11_number_84 : decode cX11_number 84 = .ok (.lreturn, 1) := by decide +kernel
theorem dX11_sum_0 : decode cX11_sum 0 = .ok (.iload_n 1, 1) := by decide +kernel
theorem dX11_sum_1 : decode cX11_sum 1 = .ok (.invokestatic 169, 3) := by decide +kernel
theorem dX11_sum_4 : decode cX11_sum 4 = .ok (.ifCond .eq 32, 3) := by decide +kernel
theorem dX11_sum_7 : decode cX11_sum 7 = .ok (.iload_n 2, 1) := by decide +kernel
theorem dX11_sum_8 : decode cX11_sum 8 = .ok (.invokestatic 169, 3) := by decide +kernel
theorem dX11_sum_11 : decode cX11_sum 11 = .ok (.ifCond .eq 25, 3) := by decide +kernel
theorem dX11_sum_14 : decode cX11_sum 14 = .ok (.iload_n 3, 1) := by decide +kernel
theorem dX11_sum_15 : decode cX11_sum 15 = .ok (.invokestatic 169, 3) := by decide +kernel
theorem dX11_sum_18 : decode cX11_sum 18 = .ok (.ifCond .eq 18, 3) := by decide +kernel
theorem dX11_sum_21 : decode cX11_sum 21 = .ok (.iload 4, 2) := by decide +kernel
theorem dX11_sum_23 : decode cX11_sum 23 = .ok (.i2l, 1) := by decide +kernel
theorem dX11_sum_24 : decode cX11_sum 24 = .ok (.ldc2_w 186, 3) := by decide +kernel
theorem dX11_sum_27 : decode cX11_sum 27 = .ok (.ldc2_w 188, 3) := by decide +kernel
theorem dX11_sum_30 : decode cX11_sum 30 = .ok (.invokestatic 126, 3) := by decide +kernel
theorem dX11_sum_33 : decode cX11_sum 33 = .ok (.ifCond .ne 6, 3) := by decide +kernel
theorem dX11_sum_36 : decode cX11_sum 36 = .ok (.bipush (-2), 2) := by decide +kernel
theorem dX11_sum_38 : decode cX11_sum 38 = .ok (.ireturn, 1) := by decide +kernel
theorem dX11_sum_39 : decode cX11_sum 39 = .ok (.aload_n 0, 1) := by decide +kernel
theorem dX11_sum_40 : decode cX11_sum 40 = .ok (.getfield 16, 3) := by decide +kernel
theorem dX11_sum_43 : decode cX11_sum 43 = .ok (.iload_n 2, 1) := by decide +kernel
theorem dX11_sum_44 : decode cX11_sum 44 = .ok (.baload, 1) := by decide +kernel
theorem dX11_sum_45 : decode cX11_sum 45 = .ok (.ifCond .eq 12, 3) := by decide +kernel
theorem dX11_sum_48 : decode cX11_sum 48 = .ok (.aload_n 0, 1) := by decide +kernel
theorem dX11_sum_49 : decode cX11_sum 49 = .ok (.getfield 16, 3) := by decide +kernel
theorem dX11_sum_52 : decode cX11_sum 52 = .ok (.iload_n 3, 1) := by decide +kernel
theorem dX11_sum_53 : decode cX11_sum 53 = .ok (.baload, 1) := by decide +kernel
theorem dX11_sum_54 : decode cX11_sum 54 = .ok (.ifCond .ne 6, 3) := by decide +kernel
theorem dX11_sum_57 : decode cX11_sum 57 = .ok (.bipush (-3), 2) := by decide +kernel
theorem dX11_sum_59 : decode cX11_sum 59 = .ok (.ireturn, 1) := by decide +kernel
theorem dX11_sum_60 : decode cX11_sum 60 = .ok (.aload_n 0, 1) := by decide +kernel
theorem dX11_sum_61 : decode cX11_sum 61 = .ok (.invokevirtual 172, 3) := by decide +kernel
theorem dX11_sum_64 : decode cX11_sum 64 = .ok (.aload_n 0, 1) := by decide +kernel
theorem dX11_sum_65 : decode cX11_sum 65 = .ok (.iload_n 2, 1) := by decide +kernel
theorem dX11_sum_66 : decode cX11_sum 66 = .ok (.lconst 1, 1) := by decide +kernel
theorem dX11_sum_67 : decode cX11_sum 67 = .ok (.invokevirtual 175, 3) := by decide +kernel
theorem dX11_sum_70 : decode cX11_sum 70 = .ok (.aload_n 0, 1) := by decide +kernel
theorem dX11_sum_71 : decode cX11_sum 71 = .ok (.iload_n 3, 1) := by decide +kernel
theorem dX11_sum_72 : decode cX11_sum 72 = .ok (.iload 4, 2) := by decide +kernel
theorem dX11_sum_74 : decode cX11_sum 74 = .ok (.i2l, 1) := by decide +kernel
theorem dX11_sum_75 : decode cX11_sum 75 = .ok (.invokevirtual 175, 3) := by decide +kernel
theorem dX11_sum_78 : decode cX11_sum 78 = .ok (.aload_n 0, 1) := by decide +kernel
theorem dX11_sum_79 : decode cX11_sum 79 = .ok (.iload_n 1, 1) := by decide +kernel
theorem dX11_sum_80 : decode cX11_sum 80 = .ok (.invokevirtual 179, 3) := by decide +kernel
theorem dX11_sum_83 : decode cX11_sum 83 = .ok (.ireturn, 1) := by decide +kernel
theorem dX11_highest_0 : decode cX11_highest 0 = .ok (.iconst 1, 1) := by decide +kernel
theorem dX11_highest_1 : decode cX11_highest 1 = .ok (.istore_n 3, 1) := by decide +kernel
theorem dX11_highest_2 : decode cX11_highest 2 = .ok (.iconst 0, 1) := by decide +kernel
theorem dX11_highest_3 : decode cX11_highest 3 = .ok (.istore 4, 2) := by decide +kernel
theorem dX11_highest_5 : decode cX11_highest 5 = .ok (.iload 4, 2) := by decide +kernel
theorem dX11_highest_7 : decode cX11_highest 7 = .ok (.iload_n 2, 1) := by decide +kernel
theorem dX11_highest_8 : decode cX11_highest 8 = .ok (.if_icmp .ge 14, 3) := by decide +kernel
theorem dX11_highest_11 : decode cX11_highest 11 = .ok (.bipush 10, 2) := by decide +kernel
theorem dX11_highest_13 : decode cX11_highest 13 = .ok (.iload_n 3, 1) := by decide +kernel
theorem dX11_highest_14 : decode cX11_highest 14 = .ok (.imul, 1) := by decide +kernel
theorem dX11_highest_15 : decode cX11_highest 15 = .ok (.istore_n 3, 1) := by decide +kernel
theorem dX11_highest_16 : decode cX11_highest 16 = .ok (.iinc 4 1, 3) := by decide +kernel
theorem dX11_highest_19 : decode cX11_highest 19 = .ok (.goto (-14), 3) := by decide +kernel
theorem dX11_highest_22 : decode cX11_highest 22 = .ok (.iconst 0, 1) := by decide +kernel
theorem dX11_highest_23 : decode cX11_highest 23 = .ok (.istore 4, 2) := by decide +kernel
theorem dX11_highest_25 : decode cX11_highest 25 = .ok (.iconst 0, 1) := by decide +kernel
theorem dX11_highest_26 : decode cX11_highest 26 = .ok (.istore 5, 2) := by decide +kernel
theorem dX11_highest_28 : decode cX11_highest 28 = .ok (.iload 5, 2) := by decide +kernel
theorem dX11_highest_30 : decode cX11_highest 30 = .ok (.aload_n 0, 1) := by decide +kernel
theorem dX11_highest_31 : decode cX11_highest 31 = .ok (.getfield 20, 3) := by decide +kernel
theorem dX11_highest_34 : decode cX11_highest 34 = .ok (.iload_n 1, 1) := by decide +kernel
theorem dX11_highest_35 : decode cX11_highest 35 = .ok (.iaload, 1) := by decide +kernel
theorem dX11_highest_36 : decode cX11_highest 36 = .ok (.if_icmp .ge 45, 3) := by decide +kernel
theorem dX11_highest_39 : decode cX11_highest 39 = .ok (.aload_n 0, 1) := by decide +kernel
theorem dX11_highest_40 : decode cX11_highest 40 = .ok (.getfield 23, 3) := by decide +kernel
theorem dX11_highest_43 : decode cX11_highest 43 = .ok (.sipush 600, 3) := by decide +kernel
theorem dX11_highest_46 : decode cX11_highest 46 = .ok (.iload_n 1, 1) := by decide +kernel
theorem dX11_highest_47 : decode cX11_highest 47 = .ok (.imul, 1) := by decide +kernel
theorem dX11_highest_48 : decode cX11_highest 48 = .ok (.iload 5, 2) := by decide +kernel
theorem dX11_highest_50 : decode cX11_highest 50 = .ok (.iadd, 1) := by decide +kernel
theorem dX11_highest_51 : decode cX11_highest 51 = .ok (.iaload, 1) := by decide +kernel
theorem dX11_highest_52 : decode cX11_highest 52 = .ok (.iload_n 3, 1) := by decide +kernel
theorem dX11_highest_53 : decode cX11_highest 53 = .ok (.idiv, 1) := by decide +kernel
theorem dX11_highest_54 : decode cX11_highest 54 = .ok (.bipush 10, 2) := by decide +kernel
theorem dX11_highest_56 : decode cX11_highest 56 = .ok (.irem, 1) := by decide +kernel
theorem dX11_highest_57 : decode cX11_highest 57 = .ok (.istore 6, 2) := by decide +kernel
theorem dX11_highest_59 : decode cX11_highest 59 = .ok (.iload 6, 2) := by decide +kernel
theorem dX11_highest_61 : decode cX11_highest 61 = .ok (.iload 4, 2) := by decide +kernel
theorem dX11_highest_63 : decode cX11_highest 63 = .ok (.if_icmp .le 8, 3) := by decide +kernel
theorem dX11_highest_66 : decode cX11_highest 66 = .ok (.iload 6, 2) := by decide +kernel
theorem dX11_highest_68 : decode cX11_highest 68 = .ok (.goto 5, 3) := by decide +kernel
theorem dX11_highest_71 : decode cX11_highest 71 = .ok (.iload 4, 2) := by decide +kernel
theorem dX11_highest_73 : decode cX11_highest 73 = .ok (.istore 4, 2) := by decide +kernel
theorem dX11_highest_75 : decode cX11_highest 75 = .ok (.iinc 5 1, 3) := by decide +kernel
theorem dX11_highest_78 : decode cX11_highest 78 = .ok (.goto (-50), 3) := by decide +kernel
theorem dX11_highest_81 : decode cX11_highest 81 = .ok (.iload 4, 2) := by decide +kernel
theorem dX11_highest_83 : decode cX11_highest 83 = .ok (.ireturn, 1) := by decide +kernel
theorem dX11_product_0 : decode cX11_product 0 = .ok (.iload_n 1, 1) := by decide +kernel
theorem dX11_product_1 : decode cX11_product 1 = .ok (.invokestatic 169, 3) := by decide +kernel
theorem dX11_product_4 : decode cX11_product 4 = .ok (.ifCond .eq 17, 3) := by decide +kernel
theorem dX11_product_7 : decode cX11_product 7 = .ok (.iload_n 2, 1) := by decide +kernel
theorem dX11_product_8 : decode cX11_product 8 = .ok (.invokestatic 169, 3) := by decide +kernel
theorem dX11_product_11 : decode cX11_product 11 = .ok (.ifCond .eq 10, 3) := by decide +kernel
theorem dX11_product_14 : decode cX11_product 14 = .ok (.iload_n 3, 1) := by decide +kernel
theorem dX11_product_15 : decode cX11_product 15 = .ok (.invokestatic 169, 3) := by decide +kernel
theorem dX11_product_18 : decode cX11_product 18 = .ok (.ifCond .ne 6, 3) := by decide +kernel
theorem dX11_product_21 : decode cX11_product 21 = .ok (.bipush (-2), 2) := by decide +kernel
theorem dX11_product_23 : decode cX11_product 23 = .ok (.ireturn, 1) := by decide +kernel
theorem dX11_product_24 : decode cX11_product 24 = .ok (.aload_n 0, 1) := by decide +kernel
theorem dX11_product_25 : decode cX11_product 25 = .ok (.getfield 16, 3) := by decide +kernel
theorem dX11_product_28 : decode cX11_product 28 = .ok (.iload_n 2, 1) := by decide +kernel
theorem dX11_product_29 : decode cX11_product 29 = .ok (.baload, 1) := by decide +kernel
theorem dX11_product_30 : decode cX11_product 30 = .ok (.ifCond .eq 12, 3) := by decide +kernel
theorem dX11_product_33 : decode cX11_product 33 = .ok (.aload_n 0, 1) := by decide +kernel
theorem dX11_product_34 : decode cX11_product 34 = .ok (.getfield 16, 3) := by decide +kernel
theorem dX11_product_37 : decode cX11_product 37 = .ok (.iload_n 3, 1) := by decide +kernel
theorem dX11_product_38 : decode cX11_product 38 = .ok (.baload, 1) := by decide +kernel
theorem dX11_product_39 : decode cX11_product 39 = .ok (.ifCond .ne 6, 3) := by decide +kernel
theorem dX11_product_42 : decode cX11_product 42 = .ok (.bipush (-3), 2) := by decide +kernel
theorem dX11_product_44 : decode cX11_product 44 = .ok (.ireturn, 1) := by decide +kernel
theorem dX11_product_45 : decode cX11_product 45 = .ok (.iconst 0, 1) := by decide +kernel
theorem dX11_product_46 : decode cX11_product 46 = .ok (.istore 4, 2) := by decide +kernel
theorem dX11_product_48 : decode cX11_product 48 = .ok (.iload 4, 2) := by decide +kernel
theorem dX11_product_50 : decode cX11_product 50 = .ok (.iconst 5, 1) := by decide +kernel
theorem dX11_product_51 : decode cX11_product 51 = .ok (.if_icmp .ge 50, 3) := by decide +kernel
theorem dX11_product_54 : decode cX11_product 54 = .ok (.aload_n 0, 1) := by decide +kernel
theorem dX11_product_55 : decode cX11_product 55 = .ok (.getfield 20, 3) := by decide +kernel
theorem dX11_product_58 : decode cX11_product 58 = .ok (.iload_n 2, 1) := by decide +kernel
theorem dX11_product_59 : decode cX11_product 59 = .ok (.iaload, 1) := by decide +kernel
theorem dX11_product_60 : decode cX11_product 60 = .ok (.ifCond .le 41, 3) := by decide +kernel
theorem dX11_product_63 : decode cX11_product 63 = .ok (.aload_n 0, 1) := by decide +kernel
theorem dX11_product_64 : decode cX11_product 64 = .ok (.getfield 20, 3) := by decide +kernel
theorem dX11_product_67 : decode cX11_product 67 = .ok (.iload_n 3, 1) := by decide +kernel
theorem dX11_product_68 : decode cX11_product 68 = .ok (.iaload, 1) := by decide +kernel
theorem dX11_product_69 : decode cX11_product 69 = .ok (.ifCond .le 32, 3) := by decide +kernel
theorem dX11_product_72 : decode cX11_product 72 = .ok (.aload_n 0, 1) := by decide +kernel
theorem dX11_product_73 : decode cX11_product 73 = .ok (.iload_n 2, 1) := by decide +kernel
theorem dX11_product_74 : decode cX11_product 74 = .ok (.iload 4, 2) := by decide +kernel
theorem dX11_product_76 : decode cX11_product 76 = .ok (.invokevirtual 190, 3) := by decide +kernel
theorem dX11_product_79 : decode cX11_product 79 = .ok (.aload_n 0, 1) := by decide +kernel
theorem dX11_product_80 : decode cX11_product 80 = .ok (.iload_n 3, 1) := by decide +kernel
theorem dX11_product_81 : decode cX11_product 81 = .ok (.iload 4, 2) := by decide +kernel
theorem dX11_product_83 : decode cX11_product 83 = .ok (.invokevirtual 190, 3) := by decide +kernel
theorem dX11_product_86 : decode cX11_product 86 = .ok (.iadd, 1) := by decide +kernel
theorem dX11_product_87 : decode cX11_product 87 = .ok (.bipush 8, 2) := by decide +kernel
theorem dX11_product_89 : decode cX11_product 89 = .ok (.if_icmp .le 6, 3) := by decide +kernel
theorem dX11_product_92 : decode cX11_product 92 = .ok (.bipush (-4), 2) := by decide +kernel
theorem dX11_product_94 : decode cX11_product 94 = .ok (.ireturn, 1) := by decide +kernel
theorem dX11_product_95 : decode cX11_product 95 = .ok (.iinc 4 1, 3) := by decide +kernel
theorem dX11_product_98 : decode cX11_product 98 = .ok (.goto (-50), 3) := by decide +kernel
theorem dX11_product_101 : decode cX11_product 101 = .ok (.aload_n 0, 1) := by decide +kernel
theorem dX11_product_102 : decode cX11_product 102 = .ok (.invokevirtual 172, 3) := by decide +kernel
theorem dX11_product_105 : decode cX11_product 105 = .ok (.iconst 0, 1) := by decide +kernel
theorem dX11_product_106 : decode cX11_product 106 = .ok (.istore 4, 2) := by decide +kernel
theorem dX11_product_108 : decode cX11_product 108 = .ok (.iload 4, 2) := by decide +kernel
theorem dX11_product_110 : decode cX11_product 110 = .ok (.aload_n 0, 1) := by decide +kernel
theorem dX11_product_111 : decode cX11_product 111 = .ok (.getfield 20, 3) := by decide +kernel
theorem dX11_product_114 : decode cX11_product 114 = .ok (.iload_n 2, 1) := by decide +kernel
theorem dX11_product_115 : decode cX11_product 115 = .ok (.iaload, 1) := by decide +kernel
theorem dX11_product_116 : decode cX11_product 116 = .ok (.if_icmp .ge 94, 3) := by decide +kernel
theorem dX11_product_119 : decode cX11_product 119 = .ok (.iconst 0, 1) := by decide +kernel
theorem dX11_product_120 : decode cX11_product 120 = .ok (.istore 5, 2) := by decide +kernel
theorem dX11_product_122 : decode cX11_product 122 = .ok (.iload 5, 2) := by decide +kernel
theorem dX11_product_124 : decode cX11_product 124 = .ok (.aload_n 0, 1) := by decide +kernel
theorem dX11_product_125 : decode cX11_product 125 = .ok (.getfield 20, 3) := by decide +kernel
theorem dX11_product_128 : decode cX11_product 128 = .ok (.iload_n 3, 1) := by decide +kernel
theorem dX11_product_129 : decode cX11_product 129 = .ok (.iaload, 1) := by decide +kernel
theorem dX11_product_130 : decode cX11_product 130 = .ok (.if_icmp .ge 74, 3) := by decide +kernel
theorem dX11_product_133 : decode cX11_product 133 = .ok (.aload_n 0, 1) := by decide +kernel
theorem dX11_product_134 : decode cX11_product 134 = .ok (.getfield 31, 3) := by decide +kernel
theorem dX11_product_137 : decode cX11_product 137 = .ok (.aload_n 0, 1) := by decide +kernel
theorem dX11_product_138 : decode cX11_product 138 = .ok (.getfield 23, 3) := by decide +kernel
theorem dX11_product_141 : decode cX11_product 141 = .ok (.sipush 600, 3) := by decide +kernel
theorem dX11_product_144 : decode cX11_product 144 = .ok (.iload_n 2, 1) := by decide +kernel
theorem dX11_product_145 : decode cX11_product 145 = .ok (.imul, 1) := by decide +kernel
theorem dX11_product_146 : decode cX11_product 146 = .ok (.iload 4, 2) := by decide +kernel
theorem dX11_product_148 : decode cX11_product 148 = .ok (.iadd, 1) := by decide +kernel
theorem dX11_product_149 : decode cX11_product 149 = .ok (.iaload, 1) := by decide +kernel
theorem dX11_product_150 : decode cX11_product 150 = .ok (.aload_n 0, 1) := by decide +kernel
theorem dX11_product_151 : decode cX11_product 151 = .ok (.getfield 23, 3) := by decide +kernel
theorem dX11_product_154 : decode cX11_product 154 = .ok (.sipush 600, 3) := by decide +kernel
theorem dX11_product_157 : decode cX11_product 157 = .ok (.iload_n 3, 1) := by decide +kernel
theorem dX11_product_158 : decode cX11_product 158 = .ok (.imul, 1) := by decide +kernel
theorem dX11_product_159 : decode cX11_product 159 = .ok (.iload 5, 2) := by decide +kernel
theorem dX11_product_161 : decode cX11_product 161 = .ok (.iadd, 1) := by decide +kernel
theorem dX11_product_162 : decode cX11_product 162 = .ok (.iaload, 1) := by decide +kernel
theorem dX11_product_163 : decode cX11_product 163 = .ok (.iadd, 1) := by decide +kernel
theorem dX11_product_164 : decode cX11_product 164 = .ok (.invokestatic 154, 3) := by decide +kernel
theorem dX11_product_167 : decode cX11_product 167 = .ok (.dup2, 1) := by decide +kernel
theorem dX11_product_168 : decode cX11_product 168 = .ok (.laload, 1) := by decide +kernel
theorem dX11_product_169 : decode cX11_product 169 = .ok (.aload_n 0, 1) := by decide +kernel
theorem dX11_product_170 : decode cX11_product 170 = .ok (.getfield 26, 3) := by decide +kernel
theorem dX11_product_173 : decode cX11_product 173 = .ok (.sipush 600, 3) := by decide +kernel
theorem dX11_product_176 : decode cX11_product 176 = .ok (.iload_n 2, 1) := by decide +kernel
theorem dX11_product_177 : decode cX11_product 177 = .ok (.imul, 1) := by decide +kernel
theorem dX11_product_178 : decode cX11_product 178 = .ok (.iload 4, 2) := by decide +kernel
theorem dX11_product_180 : decode cX11_product 180 = .ok (.iadd, 1) := by decide +kernel
theorem dX11_product_181 : decode cX11_product 181 = .ok (.laload, 1) := by decide +kernel
theorem dX11_product_182 : decode cX11_product 182 = .ok (.aload_n 0, 1) := by decide +kernel
theorem dX11_product_183 : decode cX11_product 183 = .ok (.getfield 26, 3) := by decide +kernel
theorem dX11_product_186 : decode cX11_product 186 = .ok (.sipush 600, 3) := by decide +kernel
theorem dX11_product_189 : decode cX11_product 189 = .ok (.iload_n 3, 1) := by decide +kernel
theorem dX11_product_190 : decode cX11_product 190 = .ok (.imul, 1) := by decide +kernel
theorem dX11_product_191 : decode cX11_product 191 = .ok (.iload 5, 2) := by decide +kernel
theorem dX11_product_193 : decode cX11_product 193 = .ok (.iadd, 1) := by decide +kernel
theorem dX11_product_194 : decode cX11_product 194 = .ok (.laload, 1) := by decide +kernel
theorem dX11_product_195 : decode cX11_product 195 = .ok (.lmul, 1) := by decide +kernel
theorem dX11_product_196 : decode cX11_product 196 = .ok (.ladd, 1) := by decide +kernel
theorem dX11_product_197 : decode cX11_product 197 = .ok (.lastore, 1) := by decide +kernel
theorem dX11_product_198 : decode cX11_product 198 = .ok (.iinc 5 1, 3) := by decide +kernel
theorem dX11_product_201 : decode cX11_product 201 = .ok (.goto (-79), 3) := by decide +kernel
theorem dX11_product_204 : decode cX11_product 204 = .ok (.iinc 4 1, 3) := by decide +kernel
theorem dX11_product_207 : decode cX11_product 207 = .ok (.goto (-99), 3) := by decide +kernel
theorem dX11_product_210 : decode cX11_product 210 = .ok (.aload_n 0, 1) := by decide +kernel
theorem dX11_product_211 : decode cX11_product 211 = .ok (.iload_n 1, 1) := by decide +kernel
theorem dX11_product_212 : decode cX11_product 212 = .ok (.invokevirtual 179, 3) := by decide +kernel
theorem dX11_product_215 : decode cX11_product 215 = .ok (.ireturn, 1) := by decide +kernel
theorem dX11_nines_0 : decode cX11_nines 0 = .ok (.iconst 1, 1) := by decide +kernel
theorem dX11_nines_1 : decode cX11_nines 1 = .ok (.istore_n 1, 1) := by decide +kernel
theorem dX11_nines_2 : decode cX11_nines 2 = .ok (.iconst 0, 1) := by decide +kernel
theorem dX11_nines_3 : decode cX11_nines 3 = .ok (.istore_n 2, 1) := by decide +kernel
theorem dX11_nines_4 : decode cX11_nines 4 = .ok (.iload_n 2, 1) := by decide +kernel
theorem dX11_nines_5 : decode cX11_nines 5 = .ok (.iload_n 0, 1) := by decide +kernel
theorem dX11_nines_6 : decode cX11_nines 6 = .ok (.if_icmp .ge 14, 3) := by decide +kernel
theorem dX11_nines_9 : decode cX11_nines 9 = .ok (.bipush 9, 2) := by decide +kernel
theorem dX11_nines_11 : decode cX11_nines 11 = .ok (.iload_n 1, 1) := by decide +kernel
theorem dX11_nines_12 : decode cX11_nines 12 = .ok (.imul, 1) := by decide +kernel
theorem dX11_nines_13 : decode cX11_nines 13 = .ok (.istore_n 1, 1) := by decide +kernel
theorem dX11_nines_14 : decode cX11_nines 14 = .ok (.iinc 2 1, 3) := by decide +kernel
theorem dX11_nines_17 : decode cX11_nines 17 = .ok (.goto (-13), 3) := by decide +kernel
theorem dX11_nines_20 : decode cX11_nines 20 = .ok (.iload_n 1, 1) := by decide +kernel
theorem dX11_nines_21 : decode cX11_nines 21 = .ok (.ireturn, 1) := by decide +kernel
theorem dX11_turned_0 : decode cX11_turned 0 = .ok (.iload_n 1, 1) := by decide +kernel
theorem dX11_turned_1 : decode cX11_turned 1 = .ok (.invokestatic 169, 3) := by decide +kernel
theorem dX11_turned_4 : decode cX11_turned 4 = .ok (.ifCond .eq 22, 3) := by decide +kernel
theorem dX11_turned_7 : decode cX11_turned 7 = .ok (.iload_n 2, 1) := by decide +kernel
theorem dX11_turned_8 : decode cX11_turned 8 = .ok (.invokestatic 169, 3) := by decide +kernel
theorem dX11_turned_11 : decode cX11_turned 11 = .ok (.ifCond .eq 15, 3) := by decide +kernel
theorem dX11_turned_14 : decode cX11_turned 14 = .ok (.iload_n 3, 1) := by decide +kernel
theorem dX11_turned_15 : decode cX11_turned 15 = .ok (.i2l, 1) := by decide +kernel
theorem dX11_turned_16 : decode cX11_turned 16 = .ok (.lconst 1, 1) := by decide +kernel
theorem dX11_turned_17 : decode cX11_turned 17 = .ok (.ldc2_w 194, 3) := by decide +kernel
theorem dX11_turned_20 : decode cX11_turned 20 = .ok (.invokestatic 126, 3) := by decide +kernel
theorem dX11_turned_23 : decode cX11_turned 23 = .ok (.ifCond .ne 6, 3) := by decide +kernel
theorem dX11_turned_26 : decode cX11_turned 26 = .ok (.bipush (-2), 2) := by decide +kernel
theorem dX11_turned_28 : decode cX11_turned 28 = .ok (.ireturn, 1) := by decide +kernel
theorem dX11_turned_29 : decode cX11_turned 29 = .ok (.aload_n 0, 1) := by decide +kernel
theorem dX11_turned_30 : decode cX11_turned 30 = .ok (.getfield 16, 3) := by decide +kernel
theorem dX11_turned_33 : decode cX11_turned 33 = .ok (.iload_n 2, 1) := by decide +kernel
theorem dX11_turned_34 : decode cX11_turned 34 = .ok (.baload, 1) := by decide +kernel
theorem dX11_turned_35 : decode cX11_turned 35 = .ok (.ifCond .ne 6, 3) := by decide +kernel
theorem dX11_turned_38 : decode cX11_turned 38 = .ok (.bipush (-3), 2) := by decide +kernel
theorem dX11_turned_40 : decode cX11_turned 40 = .ok (.ireturn, 1) := by decide +kernel
theorem dX11_turned_41 : decode cX11_turned 41 = .ok (.aload_n 0, 1) := by decide +kernel
theorem dX11_turned_42 : decode cX11_turned 42 = .ok (.invokevirtual 172, 3) := by decide +kernel
theorem dX11_turned_45 : decode cX11_turned 45 = .ok (.iconst 5, 1) := by decide +kernel
theorem dX11_turned_46 : decode cX11_turned 46 = .ok (.iload_n 3, 1) := by decide +kernel
theorem dX11_turned_47 : decode cX11_turned 47 = .ok (.isub, 1) := by decide +kernel
theorem dX11_turned_48 : decode cX11_turned 48 = .ok (.invokestatic 196, 3) := by decide +kernel
theorem dX11_turned_51 : decode cX11_turned 51 = .ok (.istore 4, 2) := by decide +kernel
theorem dX11_turned_53 : decode cX11_turned 53 = .ok (.iconst 4, 1) := by decide +kernel
theorem dX11_turned_54 : decode cX11_turned 54 = .ok (.iload_n 3, 1) := by decide +kernel
theorem dX11_turned_55 : decode cX11_turned 55 = .ok (.isub, 1) := by decide +kernel
theorem dX11_turned_56 : decode cX11_turned 56 = .ok (.invokestatic 196, 3) := by decide +kernel
theorem dX11_turned_59 : decode cX11_turned 59 = .ok (.istore 5, 2) := by decide +kernel
theorem dX11_turned_61 : decode cX11_turned 61 = .ok (.iconst 0, 1) := by decide +kernel
theorem dX11_turned_62 : decode cX11_turned 62 = .ok (.istore 6, 2) := by decide +kernel
theorem dX11_turned_64 : decode cX11_turned 64 = .ok (.iload 6, 2) := by decide +kernel
theorem dX11_turned_66 : decode cX11_turned 66 = .ok (.aload_n 0, 1) := by decide +kernel
theorem dX11_turned_67 : decode cX11_turned 67 = .ok (.getfield 20, 3) := by decide +kernel
theorem dX11_turned_70 : decode cX11_turned 70 = .ok (.iload_n 2, 1) := by decide +kernel
theorem dX11_turned_71 : decode cX11_turned 71 = .ok (.iaload, 1) := by decide +kernel
theorem dX11_turned_72 : decode cX11_turned 72 = .ok (.if_icmp .ge 85, 3) := by decide +kernel
theorem dX11_turned_75 : decode cX11_turned 75 = .ok (.aload_n 0, 1) := by decide +kernel
theorem dX11_turned_76 : decode cX11_turned 76 = .ok (.getfield 23, 3) := by decide +kernel
theorem dX11_turned_79 : decode cX11_turned 79 = .ok (.sipush 600, 3) := by decide +kernel
theorem dX11_turned_82 : decode cX11_turned 82 = .ok (.iload_n 2, 1) := by decide +kernel
theorem dX11_turned_83 : decode cX11_turned 83 = .ok (.imul, 1) := by decide +kernel
theorem dX11_turned_84 : decode cX11_turned 84 = .ok (.iload 6, 2) := by decide +kernel
theorem dX11_turned_86 : decode cX11_turned 86 = .ok (.iadd, 1) := by decide +kernel
theorem dX11_turned_87 : decode cX11_turned 87 = .ok (.iaload, 1) := by decide +kernel
theorem dX11_turned_88 : decode cX11_turned 88 = .ok (.invokestatic 154, 3) := by decide +kernel
theorem dX11_turned_91 : decode cX11_turned 91 = .ok (.istore 7, 2) := by decide +kernel
theorem dX11_turned_93 : decode cX11_turned 93 = .ok (.iload 7, 2) := by decide +kernel
theorem dX11_turned_95 : decode cX11_turned 95 = .ok (.iload 4, 2) := by decide +kernel
theorem dX11_turned_97 : decode cX11_turned 97 = .ok (.idiv, 1) := by decide +kernel
theorem dX11_turned_98 : decode cX11_turned 98 = .ok (.bipush 9, 2) := by decide +kernel
theorem dX11_turned_100 : decode cX11_turned 100 = .ok (.irem, 1) := by decide +kernel
theorem dX11_turned_101 : decode cX11_turned 101 = .ok (.istore 8, 2) := by decide +kernel
theorem dX11_turned_103 : decode cX11_turned 103 = .ok (.iload 7, 2) := by decide +kernel
theorem dX11_turned_105 : decode cX11_turned 105 = .ok (.iload 5, 2) := by decide +kernel
theorem dX11_turned_107 : decode cX11_turned 107 = .ok (.idiv, 1) := by decide +kernel
theorem dX11_turned_108 : decode cX11_turned 108 = .ok (.bipush 9, 2) := by decide +kernel
theorem dX11_turned_110 : decode cX11_turned 110 = .ok (.irem, 1) := by decide +kernel
theorem dX11_turned_111 : decode cX11_turned 111 = .ok (.istore 9, 2) := by decide +kernel
theorem dX11_turned_113 : decode cX11_turned 113 = .ok (.aload_n 0, 1) := by decide +kernel
theorem dX11_turned_114 : decode cX11_turned 114 = .ok (.getfield 31, 3) := by decide +kernel
theorem dX11_turned_117 : decode cX11_turned 117 = .ok (.iload 7, 2) := by decide +kernel
theorem dX11_turned_119 : decode cX11_turned 119 = .ok (.iload 9, 2) := by decide +kernel
theorem dX11_turned_121 : decode cX11_turned 121 = .ok (.iload 8, 2) := by decide +kernel
theorem dX11_turned_123 : decode cX11_turned 123 = .ok (.isub, 1) := by decide +kernel
theorem dX11_turned_124 : decode cX11_turned 124 = .ok (.iload 4, 2) := by decide +kernel
theorem dX11_turned_126 : decode cX11_turned 126 = .ok (.imul, 1) := by decide +kernel
theorem dX11_turned_127 : decode cX11_turned 127 = .ok (.iadd, 1) := by decide +kernel
theorem dX11_turned_128 : decode cX11_turned 128 = .ok (.iload 8, 2) := by decide +kernel
theorem dX11_turned_130 : decode cX11_turned 130 = .ok (.iload 9, 2) := by decide +kernel
theorem dX11_turned_132 : decode cX11_turned 132 = .ok (.isub, 1) := by decide +kernel
theorem dX11_turned_133 : decode cX11_turned 133 = .ok (.iload 5, 2) := by decide +kernel
theorem dX11_turned_135 : decode cX11_turned 135 = .ok (.imul, 1) := by decide +kernel
theorem dX11_turned_136 : decode cX11_turned 136 = .ok (.iadd, 1) := by decide +kernel
theorem dX11_turned_137 : decode cX11_turned 137 = .ok (.aload_n 0, 1) := by decide +kernel
theorem dX11_turned_138 : decode cX11_turned 138 = .ok (.getfield 26, 3) := by decide +kernel
theorem dX11_turned_141 : decode cX11_turned 141 = .ok (.sipush 600, 3) := by decide +kernel
theorem dX11_turned_144 : decode cX11_turned 144 = .ok (.iload_n 2, 1) := by decide +kernel
theorem dX11_turned_145 : decode cX11_turned 145 = .ok (.imul, 1) := by decide +kernel
theorem dX11_turned_146 : decode cX11_turned 146 = .ok (.iload 6, 2) := by decide +kernel
theorem dX11_turned_148 : decode cX11_turned 148 = .ok (.iadd, 1) := by decide +kernel
theorem dX11_turned_149 : decode cX11_turned 149 = .ok (.laload, 1) := by decide +kernel
theorem dX11_turned_150 : decode cX11_turned 150 = .ok (.lastore, 1) := by decide +kernel
theorem dX11_turned_151 : decode cX11_turned 151 = .ok (.iinc 6 1, 3) := by decide +kernel
theorem dX11_turned_154 : decode cX11_turned 154 = .ok (.goto (-90), 3) := by decide +kernel
theorem dX11_turned_157 : decode cX11_turned 157 = .ok (.aload_n 0, 1) := by decide +kernel
theorem dX11_turned_158 : decode cX11_turned 158 = .ok (.iload_n 1, 1) := by decide +kernel
theorem dX11_turned_159 : decode cX11_turned 159 = .ok (.invokevirtual 179, 3) := by decide +kernel
theorem dX11_turned_162 : decode cX11_turned 162 = .ok (.ireturn, 1) := by decide +kernel
theorem dX11_differ_0 : decode cX11_differ 0 = .ok (.iconst 5, 1) := by decide +kernel
theorem dX11_differ_1 : decode cX11_differ 1 = .ok (.iload_n 1, 1) := by decide +kernel
theorem dX11_differ_2 : decode cX11_differ 2 = .ok (.isub, 1) := by decide +kernel
theorem dX11_differ_3 : decode cX11_differ 3 = .ok (.invokestatic 196, 3) := by decide +kernel
theorem dX11_differ_6 : decode cX11_differ 6 = .ok (.istore_n 2, 1) := by decide +kernel
theorem dX11_differ_7 : decode cX11_differ 7 = .ok (.iconst 4, 1) := by decide +kernel
theorem dX11_differ_8 : decode cX11_differ 8 = .ok (.iload_n 1, 1) := by decide +kernel
theorem dX11_differ_9 : decode cX11_differ 9 = .ok (.isub, 1) := by decide +kernel
theorem dX11_differ_10 : decode cX11_differ 10 = .ok (.invokestatic 196, 3) := by decide +kernel
theorem dX11_differ_13 : decode cX11_differ 13 = .ok (.istore_n 3, 1) := by decide +kernel
theorem dX11_differ_14 : decode cX11_differ 14 = .ok (.iconst 0, 1) := by decide +kernel
theorem dX11_differ_15 : decode cX11_differ 15 = .ok (.istore 4, 2) := by decide +kernel
theorem dX11_differ_17 : decode cX11_differ 17 = .ok (.iload 4, 2) := by decide +kernel
theorem dX11_differ_19 : decode cX11_differ 19 = .ok (.ldc 30, 2) := by decide +kernel
theorem dX11_differ_21 : decode cX11_differ 21 = .ok (.if_icmp .ge 17, 3) := by decide +kernel
theorem dX11_differ_24 : decode cX11_differ 24 = .ok (.aload_n 0, 1) := by decide +kernel
theorem dX11_differ_25 : decode cX11_differ 25 = .ok (.getfield 34, 3) := by decide +kernel
theorem dX11_differ_28 : decode cX11_differ 28 = .ok (.iload 4, 2) := by decide +kernel
theorem dX11_differ_30 : decode cX11_differ 30 = .ok (.lconst 0, 1) := by decide +kernel
theorem dX11_differ_31 : decode cX11_differ 31 = .ok (.lastore, 1) := by decide +kernel
theorem dX11_differ_32 : decode cX11_differ 32 = .ok (.iinc 4 1, 3) := by decide +kernel
theorem dX11_differ_35 : decode cX11_differ 35 = .ok (.goto (-18), 3) := by decide +kernel
theorem dX11_differ_38 : decode cX11_differ 38 = .ok (.iconst 0, 1) := by decide +kernel
theorem dX11_differ_39 : decode cX11_differ 39 = .ok (.istore 4, 2) := by decide +kernel
theorem dX11_differ_41 : decode cX11_differ 41 = .ok (.iload 4, 2) := by decide +kernel
theorem dX11_differ_43 : decode cX11_differ 43 = .ok (.ldc 30, 2) := by decide +kernel
theorem dX11_differ_45 : decode cX11_differ 45 = .ok (.if_icmp .ge 157, 3) := by decide +kernel
theorem dX11_differ_48 : decode cX11_differ 48 = .ok (.aload_n 0, 1) := by decide +kernel
theorem dX11_differ_49 : decode cX11_differ 49 = .ok (.getfield 31, 3) := by decide +kernel
theorem dX11_differ_52 : decode cX11_differ 52 = .ok (.iload 4, 2) := by decide +kernel
theorem dX11_differ_54 : decode cX11_differ 54 = .ok (.laload, 1) := by decide +kernel
theorem dX11_differ_55 : decode cX11_differ 55 = .ok (.lconst 0, 1) := by decide +kernel
theorem dX11_differ_56 : decode cX11_differ 56 = .ok (.lcmp, 1) := by decide +kernel
theorem dX11_differ_57 : decode cX11_differ 57 = .ok (.ifCond .eq 139, 3) := by decide +kernel
theorem dX11_differ_60 : decode cX11_differ 60 = .ok (.iload 4, 2) := by decide +kernel
theorem dX11_differ_62 : decode cX11_differ 62 = .ok (.iload_n 2, 1) := by decide +kernel
theorem dX11_differ_63 : decode cX11_differ 63 = .ok (.idiv, 1) := by decide +kernel
theorem dX11_differ_64 : decode cX11_differ 64 = .ok (.bipush 9, 2) := by decide +kernel
theorem dX11_differ_66 : decode cX11_differ 66 = .ok (.irem, 1) := by decide +kernel
theorem dX11_differ_67 : decode cX11_differ 67 = .ok (.istore 5, 2) := by decide +kernel
theorem dX11_differ_69 : decode cX11_differ 69 = .ok (.iload 4, 2) := by decide +kernel
theorem dX11_differ_71 : decode cX11_differ 71 = .ok (.iload_n 3, 1) := by decide +kernel
theorem dX11_differ_72 : decode cX11_differ 72 = .ok (.idiv, 1) := by decide +kernel
theorem dX11_differ_73 : decode cX11_differ 73 = .ok (.bipush 9, 2) := by decide +kernel
theorem dX11_differ_75 : decode cX11_differ 75 = .ok (.irem, 1) := by decide +kernel
theorem dX11_differ_76 : decode cX11_differ 76 = .ok (.istore 6, 2) := by decide +kernel
theorem dX11_differ_78 : decode cX11_differ 78 = .ok (.iload 4, 2) := by decide +kernel
theorem dX11_differ_80 : decode cX11_differ 80 = .ok (.iload 5, 2) := by decide +kernel
theorem dX11_differ_82 : decode cX11_differ 82 = .ok (.iload_n 2, 1) := by decide +kernel
theorem dX11_differ_83 : decode cX11_differ 83 = .ok (.imul, 1) := by decide +kernel
theorem dX11_differ_84 : decode cX11_differ 84 = .ok (.isub, 1) := by decide +kernel
theorem dX11_differ_85 : decode cX11_differ 85 = .ok (.iload 6, 2) := by decide +kernel
theorem dX11_differ_87 : decode cX11_differ 87 = .ok (.iload_n 3, 1) := by decide +kernel
theorem dX11_differ_88 : decode cX11_differ 88 = .ok (.imul, 1) := by decide +kernel
theorem dX11_differ_89 : decode cX11_differ 89 = .ok (.isub, 1) := by decide +kernel
theorem dX11_differ_90 : decode cX11_differ 90 = .ok (.istore 7, 2) := by decide +kernel
theorem dX11_differ_92 : decode cX11_differ 92 = .ok (.iload 5, 2) := by decide +kernel
theorem dX11_differ_94 : decode cX11_differ 94 = .ok (.iload 6, 2) := by decide +kernel
theorem dX11_differ_96 : decode cX11_differ 96 = .ok (.if_icmp .le 8, 3) := by decide +kernel
theorem dX11_differ_99 : decode cX11_differ 99 = .ok (.iload 5, 2) := by decide +kernel
theorem dX11_differ_101 : decode cX11_differ 101 = .ok (.goto 5, 3) := by decide +kernel
theorem dX11_differ_104 : decode cX11_differ 104 = .ok (.iload 6, 2) := by decide +kernel
theorem dX11_differ_106 : decode cX11_differ 106 = .ok (.istore 8, 2) := by decide +kernel
theorem dX11_differ_108 : decode cX11_differ 108 = .ok (.iload 5, 2) := by decide +kernel
theorem dX11_differ_110 : decode cX11_differ 110 = .ok (.iload 6, 2) := by decide +kernel
theorem dX11_differ_112 : decode cX11_differ 112 = .ok (.if_icmp .le 8, 3) := by decide +kernel
theorem dX11_differ_115 : decode cX11_differ 115 = .ok (.iload 6, 2) := by decide +kernel
theorem dX11_differ_117 : decode cX11_differ 117 = .ok (.goto 5, 3) := by decide +kernel
theorem dX11_differ_120 : decode cX11_differ 120 = .ok (.iload 5, 2) := by decide +kernel
theorem dX11_differ_122 : decode cX11_differ 122 = .ok (.istore 9, 2) := by decide +kernel
theorem dX11_differ_124 : decode cX11_differ 124 = .ok (.iconst 0, 1) := by decide +kernel
theorem dX11_differ_125 : decode cX11_differ 125 = .ok (.istore 10, 2) := by decide +kernel
theorem dX11_differ_127 : decode cX11_differ 127 = .ok (.iload 10, 2) := by decide +kernel
theorem dX11_differ_129 : decode cX11_differ 129 = .ok (.iload 8, 2) := by decide +kernel
theorem dX11_differ_131 : decode cX11_differ 131 = .ok (.iload 9, 2) := by decide +kernel
theorem dX11_differ_133 : decode cX11_differ 133 = .ok (.isub, 1) := by decide +kernel
theorem dX11_differ_134 : decode cX11_differ 134 = .ok (.if_icmp .ge 62, 3) := by decide +kernel
theorem dX11_differ_137 : decode cX11_differ 137 = .ok (.aload_n 0, 1) := by decide +kernel
theorem dX11_differ_138 : decode cX11_differ 138 = .ok (.getfield 34, 3) := by decide +kernel
theorem dX11_differ_141 : decode cX11_differ 141 = .ok (.iload 7, 2) := by decide +kernel
theorem dX11_differ_143 : decode cX11_differ 143 = .ok (.iload 8, 2) := by decide +kernel
theorem dX11_differ_145 : decode cX11_differ 145 = .ok (.iconst 1, 1) := by decide +kernel
theorem dX11_differ_146 : decode cX11_differ 146 = .ok (.isub, 1) := by decide +kernel
theorem dX11_differ_147 : decode cX11_differ 147 = .ok (.iload 10, 2) := by decide +kernel
theorem dX11_differ_149 : decode cX11_differ 149 = .ok (.isub, 1) := by decide +kernel
theorem dX11_differ_150 : decode cX11_differ 150 = .ok (.iload_n 2, 1) := by decide +kernel
theorem dX11_differ_151 : decode cX11_differ 151 = .ok (.imul, 1) := by decide +kernel
theorem dX11_differ_152 : decode cX11_differ 152 = .ok (.iadd, 1) := by decide +kernel
theorem dX11_differ_153 : decode cX11_differ 153 = .ok (.iload 9, 2) := by decide +kernel
theorem dX11_differ_155 : decode cX11_differ 155 = .ok (.iload 10, 2) := by decide +kernel
theorem dX11_differ_157 : decode cX11_differ 157 = .ok (.iadd, 1) := by decide +kernel
theorem dX11_differ_158 : decode cX11_differ 158 = .ok (.iload_n 3, 1) := by decide +kernel
theorem dX11_differ_159 : decode cX11_differ 159 = .ok (.imul, 1) := by decide +kernel
theorem dX11_differ_160 : decode cX11_differ 160 = .ok (.iadd, 1) := by decide +kernel
theorem dX11_differ_161 : decode cX11_differ 161 = .ok (.dup2, 1) := by decide +kernel
theorem dX11_differ_162 : decode cX11_differ 162 = .ok (.laload, 1) := by decide +kernel
theorem dX11_differ_163 : decode cX11_differ 163 = .ok (.iload 5, 2) := by decide +kernel
theorem dX11_differ_165 : decode cX11_differ 165 = .ok (.iload 6, 2) := by decide +kernel
theorem dX11_differ_167 : decode cX11_differ 167 = .ok (.if_icmp .le 13, 3) := by decide +kernel
theorem dX11_differ_170 : decode cX11_differ 170 = .ok (.aload_n 0, 1) := by decide +kernel
theorem dX11_differ_171 : decode cX11_differ 171 = .ok (.getfield 31, 3) := by decide +kernel
theorem dX11_differ_174 : decode cX11_differ 174 = .ok (.iload 4, 2) := by decide +kernel
theorem dX11_differ_176 : decode cX11_differ 176 = .ok (.laload, 1) := by decide +kernel
theorem dX11_differ_177 : decode cX11_differ 177 = .ok (.goto 11, 3) := by decide +kernel
theorem dX11_differ_180 : decode cX11_differ 180 = .ok (.aload_n 0, 1) := by decide +kernel
theorem dX11_differ_181 : decode cX11_differ 181 = .ok (.getfield 31, 3) := by decide +kernel
theorem dX11_differ_184 : decode cX11_differ 184 = .ok (.iload 4, 2) := by decide +kernel
theorem dX11_differ_186 : decode cX11_differ 186 = .ok (.laload, 1) := by decide +kernel
theorem dX11_differ_187 : decode cX11_differ 187 = .ok (.lneg, 1) := by decide +kernel
theorem dX11_differ_188 : decode cX11_differ 188 = .ok (.ladd, 1) := by decide +kernel
theorem dX11_differ_189 : decode cX11_differ 189 = .ok (.lastore, 1) := by decide +kernel
theorem dX11_differ_190 : decode cX11_differ 190 = .ok (.iinc 10 1, 3) := by decide +kernel
theorem dX11_differ_193 : decode cX11_differ 193 = .ok (.goto (-66), 3) := by decide +kernel
theorem dX11_differ_196 : decode cX11_differ 196 = .ok (.iinc 4 1, 3) := by decide +kernel
theorem dX11_differ_199 : decode cX11_differ 199 = .ok (.goto (-158), 3) := by decide +kernel
theorem dX11_differ_202 : decode cX11_differ 202 = .ok (.iconst 0, 1) := by decide +kernel
theorem dX11_differ_203 : decode cX11_differ 203 = .ok (.istore 4, 2) := by decide +kernel
theorem dX11_differ_205 : decode cX11_differ 205 = .ok (.iload 4, 2) := by decide +kernel
theorem dX11_differ_207 : decode cX11_differ 207 = .ok (.ldc 30, 2) := by decide +kernel
theorem dX11_differ_209 : decode cX11_differ 209 = .ok (.if_icmp .ge 23, 3) := by decide +kernel
theorem dX11_differ_212 : decode cX11_differ 212 = .ok (.aload_n 0, 1) := by decide +kernel
theorem dX11_differ_213 : decode cX11_differ 213 = .ok (.getfield 31, 3) := by decide +kernel
theorem dX11_differ_216 : decode cX11_differ 216 = .ok (.iload 4, 2) := by decide +kernel
theorem dX11_differ_218 : decode cX11_differ 218 = .ok (.aload_n 0, 1) := by decide +kernel
theorem dX11_differ_219 : decode cX11_differ 219 = .ok (.getfield 34, 3) := by decide +kernel
theorem dX11_differ_222 : decode cX11_differ 222 = .ok (.iload 4, 2) := by decide +kernel
theorem dX11_differ_224 : decode cX11_differ 224 = .ok (.laload, 1) := by decide +kernel
theorem dX11_differ_225 : decode cX11_differ 225 = .ok (.lastore, 1) := by decide +kernel
theorem dX11_differ_226 : decode cX11_differ 226 = .ok (.iinc 4 1, 3) := by decide +kernel
theorem dX11_differ_229 : decode cX11_differ 229 = .ok (.goto (-24), 3) := by decide +kernel
theorem dX11_differ_232 : decode cX11_differ 232 = .ok (.return_, 1) := by decide +kernel
theorem dX11_difference_0 : decode cX11_difference 0 = .ok (.iload_n 1, 1) := by decide +kernel
theorem dX11_difference_1 : decode cX11_difference 1 = .ok (.invokestatic 169, 3) := by decide +kernel
theorem dX11_difference_4 : decode cX11_difference 4 = .ok (.ifCond .eq 22, 3) := by decide +kernel
theorem dX11_difference_7 : decode cX11_difference 7 = .ok (.iload_n 2, 1) := by decide +kernel
theorem dX11_difference_8 : decode cX11_difference 8 = .ok (.invokestatic 169, 3) := by decide +kernel
theorem dX11_difference_11 : decode cX11_difference 11 = .ok (.ifCond .eq 15, 3) := by decide +kernel
theorem dX11_difference_14 : decode cX11_difference 14 = .ok (.iload_n 3, 1) := by decide +kernel
theorem dX11_difference_15 : decode cX11_difference 15 = .ok (.i2l, 1) := by decide +kernel
theorem dX11_difference_16 : decode cX11_difference 16 = .ok (.lconst 1, 1) := by decide +kernel
theorem dX11_difference_17 : decode cX11_difference 17 = .ok (.ldc2_w 194, 3) := by decide +kernel
theorem dX11_difference_20 : decode cX11_difference 20 = .ok (.invokestatic 126, 3) := by decide +kernel
theorem dX11_difference_23 : decode cX11_difference 23 = .ok (.ifCond .ne 6, 3) := by decide +kernel
theorem dX11_difference_26 : decode cX11_difference 26 = .ok (.bipush (-2), 2) := by decide +kernel
theorem dX11_difference_28 : decode cX11_difference 28 = .ok (.ireturn, 1) := by decide +kernel
theorem dX11_difference_29 : decode cX11_difference 29 = .ok (.aload_n 0, 1) := by decide +kernel
theorem dX11_difference_30 : decode cX11_difference 30 = .ok (.getfield 16, 3) := by decide +kernel
theorem dX11_difference_33 : decode cX11_difference 33 = .ok (.iload_n 2, 1) := by decide +kernel
theorem dX11_difference_34 : decode cX11_difference 34 = .ok (.baload, 1) := by decide +kernel
theorem dX11_difference_35 : decode cX11_difference 35 = .ok (.ifCond .ne 6, 3) := by decide +kernel
theorem dX11_difference_38 : decode cX11_difference 38 = .ok (.bipush (-3), 2) := by decide +kernel
theorem dX11_difference_40 : decode cX11_difference 40 = .ok (.ireturn, 1) := by decide +kernel
theorem dX11_difference_41 : decode cX11_difference 41 = .ok (.aload_n 0, 1) := by decide +kernel
theorem dX11_difference_42 : decode cX11_difference 42 = .ok (.invokevirtual 172, 3) := by decide +kernel
theorem dX11_difference_45 : decode cX11_difference 45 = .ok (.aload_n 0, 1) := by decide +kernel
theorem dX11_difference_46 : decode cX11_difference 46 = .ok (.iload_n 2, 1) := by decide +kernel
theorem dX11_difference_47 : decode cX11_difference 47 = .ok (.lconst 1, 1) := by decide +kernel
theorem dX11_difference_48 : decode cX11_difference 48 = .ok (.invokevirtual 175, 3) := by decide +kernel
theorem dX11_difference_51 : decode cX11_difference 51 = .ok (.aload_n 0, 1) := by decide +kernel
theorem dX11_difference_52 : decode cX11_difference 52 = .ok (.iload_n 3, 1) := by decide +kernel
theorem dX11_difference_53 : decode cX11_difference 53 = .ok (.invokevirtual 199, 3) := by decide +kernel
theorem dX11_difference_56 : decode cX11_difference 56 = .ok (.aload_n 0, 1) := by decide +kernel
theorem dX11_difference_57 : decode cX11_difference 57 = .ok (.iload_n 1, 1) := by decide +kernel
theorem dX11_difference_58 : decode cX11_difference 58 = .ok (.invokevirtual 179, 3) := by decide +kernel
theorem dX11_difference_61 : decode cX11_difference 61 = .ok (.ireturn, 1) := by decide +kernel
theorem dX11_makes_0 : decode cX11_makes 0 = .ok (.aload_n 0, 1) := by decide +kernel
theorem dX11_makes_1 : decode cX11_makes 1 = .ok (.iload_n 1, 1) := by decide +kernel
theorem dX11_makes_2 : decode cX11_makes 2 = .ok (.invokevirtual 133, 3) := by decide +kernel
theorem dX11_makes_5 : decode cX11_makes 5 = .ok (.istore_n 2, 1) := by decide +kernel
theorem dX11_makes_6 : decode cX11_makes 6 = .ok (.iconst 0, 1) := by decide +kernel
theorem dX11_makes_7 : decode cX11_makes 7 = .ok (.istore_n 3, 1) := by decide +kernel
theorem dX11_makes_8 : decode cX11_makes 8 = .ok (.iconst 1, 1) := by decide +kernel
theorem dX11_makes_9 : decode cX11_makes 9 = .ok (.istore 4, 2) := by decide +kernel
theorem dX11_makes_11 : decode cX11_makes 11 = .ok (.iload 4, 2) := by decide +kernel
theorem dX11_makes_13 : decode cX11_makes 13 = .ok (.ifCond .eq 79, 3) := by decide +kernel
theorem dX11_makes_16 : decode cX11_makes 16 = .ok (.iconst 0, 1) := by decide +kernel
theorem dX11_makes_17 : decode cX11_makes 17 = .ok (.istore 4, 2) := by decide +kernel
theorem dX11_makes_19 : decode cX11_makes 19 = .ok (.iconst 0, 1) := by decide +kernel
theorem dX11_makes_20 : decode cX11_makes 20 = .ok (.istore 5, 2) := by decide +kernel
theorem dX11_makes_22 : decode cX11_makes 22 = .ok (.iload 5, 2) := by decide +kernel
theorem dX11_makes_24 : decode cX11_makes 24 = .ok (.iconst 1, 1) := by decide +kernel
theorem dX11_makes_25 : decode cX11_makes 25 = .ok (.iadd, 1) := by decide +kernel
theorem dX11_makes_26 : decode cX11_makes 26 = .ok (.aload_n 0, 1) := by decide +kernel
theorem dX11_makes_27 : decode cX11_makes 27 = .ok (.getfield 130, 3) := by decide +kernel
theorem dX11_makes_30 : decode cX11_makes 30 = .ok (.if_icmp .ge 59, 3) := by decide +kernel
theorem dX11_makes_33 : decode cX11_makes 33 = .ok (.iload 4, 2) := by decide +kernel
theorem dX11_makes_35 : decode cX11_makes 35 = .ok (.ifCond .ne 54, 3) := by decide +kernel
theorem dX11_makes_38 : decode cX11_makes 38 = .ok (.aload_n 0, 1) := by decide +kernel
theorem dX11_makes_39 : decode cX11_makes 39 = .ok (.getfield 7, 3) := by decide +kernel
theorem dX11_makes_42 : decode cX11_makes 42 = .ok (.iload 5, 2) := by decide +kernel
theorem dX11_makes_44 : decode cX11_makes 44 = .ok (.iaload, 1) := by decide +kernel
theorem dX11_makes_45 : decode cX11_makes 45 = .ok (.aload_n 0, 1) := by decide +kernel
theorem dX11_makes_46 : decode cX11_makes 46 = .ok (.getfield 7, 3) := by decide +kernel
theorem dX11_makes_49 : decode cX11_makes 49 = .ok (.iload 5, 2) := by decide +kernel
theorem dX11_makes_51 : decode cX11_makes 51 = .ok (.iconst 1, 1) := by decide +kernel
theorem dX11_makes_52 : decode cX11_makes 52 = .ok (.iadd, 1) := by decide +kernel
theorem dX11_makes_53 : decode cX11_makes 53 = .ok (.iaload, 1) := by decide +kernel
theorem dX11_makes_54 : decode cX11_makes 54 = .ok (.if_icmp .ge 29, 3) := by decide +kernel
theorem dX11_makes_57 : decode cX11_makes 57 = .ok (.aload_n 0, 1) := by decide +kernel
theorem dX11_makes_58 : decode cX11_makes 58 = .ok (.iload 5, 2) := by decide +kernel
theorem dX11_makes_60 : decode cX11_makes 60 = .ok (.iload 5, 2) := by decide +kernel
theorem dX11_makes_62 : decode cX11_makes 62 = .ok (.iconst 1, 1) := by decide +kernel
theorem dX11_makes_63 : decode cX11_makes 63 = .ok (.iadd, 1) := by decide +kernel
theorem dX11_makes_64 : decode cX11_makes 64 = .ok (.invokevirtual 141, 3) := by decide +kernel
theorem dX11_makes_67 : decode cX11_makes 67 = .ok (.aload_n 0, 1) := by decide +kernel
theorem dX11_makes_68 : decode cX11_makes 68 = .ok (.getfield 37, 3) := by decide +kernel
theorem dX11_makes_71 : decode cX11_makes 71 = .ok (.iload_n 3, 1) := by decide +kernel
theorem dX11_makes_72 : decode cX11_makes 72 = .ok (.iload 5, 2) := by decide +kernel
theorem dX11_makes_74 : decode cX11_makes 74 = .ok (.iconst 1, 1) := by decide +kernel
theorem dX11_makes_75 : decode cX11_makes 75 = .ok (.iadd, 1) := by decide +kernel
theorem dX11_makes_76 : decode cX11_makes 76 = .ok (.iastore, 1) := by decide +kernel
theorem dX11_makes_77 : decode cX11_makes 77 = .ok (.iinc 3 1, 3) := by decide +kernel
theorem dX11_makes_80 : decode cX11_makes 80 = .ok (.iconst 1, 1) := by decide +kernel
theorem dX11_makes_81 : decode cX11_makes 81 = .ok (.istore 4, 2) := by decide +kernel
theorem dX11_makes_83 : decode cX11_makes 83 = .ok (.iinc 5 1, 3) := by decide +kernel
theorem dX11_makes_86 : decode cX11_makes 86 = .ok (.goto (-64), 3) := by decide +kernel
theorem dX11_makes_89 : decode cX11_makes 89 = .ok (.goto (-78), 3) := by decide +kernel
theorem dX11_makes_92 : decode cX11_makes 92 = .ok (.aload_n 0, 1) := by decide +kernel
theorem dX11_makes_93 : decode cX11_makes 93 = .ok (.invokevirtual 172, 3) := by decide +kernel
theorem dX11_makes_96 : decode cX11_makes 96 = .ok (.iconst 0, 1) := by decide +kernel
theorem dX11_makes_97 : decode cX11_makes 97 = .ok (.istore 5, 2) := by decide +kernel
theorem dX11_makes_99 : decode cX11_makes 99 = .ok (.iconst 0, 1) := by decide +kernel
theorem dX11_makes_100 : decode cX11_makes 100 = .ok (.istore 6, 2) := by decide +kernel
theorem dX11_makes_102 : decode cX11_makes 102 = .ok (.iload 6, 2) := by decide +kernel
theorem dX11_makes_104 : decode cX11_makes 104 = .ok (.aload_n 0, 1) := by decide +kernel
theorem dX11_makes_105 : decode cX11_makes 105 = .ok (.getfield 130, 3) := by decide +kernel
theorem dX11_makes_108 : decode cX11_makes 108 = .ok (.if_icmp .ge 31, 3) := by decide +kernel
theorem dX11_makes_111 : decode cX11_makes 111 = .ok (.iload 5, 2) := by decide +kernel
theorem dX11_makes_113 : decode cX11_makes 113 = .ok (.aload_n 0, 1) := by decide +kernel
theorem dX11_makes_114 : decode cX11_makes 114 = .ok (.getfield 130, 3) := by decide +kernel
theorem dX11_makes_117 : decode cX11_makes 117 = .ok (.iconst 1, 1) := by decide +kernel
theorem dX11_makes_118 : decode cX11_makes 118 = .ok (.isub, 1) := by decide +kernel
theorem dX11_makes_119 : decode cX11_makes 119 = .ok (.iload 6, 2) := by decide +kernel
theorem dX11_makes_121 : decode cX11_makes 121 = .ok (.isub, 1) := by decide +kernel
theorem dX11_makes_122 : decode cX11_makes 122 = .ok (.iconst 4, 1) := by decide +kernel
theorem dX11_makes_123 : decode cX11_makes 123 = .ok (.iload 6, 2) := by decide +kernel
theorem dX11_makes_125 : decode cX11_makes 125 = .ok (.isub, 1) := by decide +kernel
theorem dX11_makes_126 : decode cX11_makes 126 = .ok (.invokestatic 196, 3) := by decide +kernel
theorem dX11_makes_129 : decode cX11_makes 129 = .ok (.imul, 1) := by decide +kernel
theorem dX11_makes_130 : decode cX11_makes 130 = .ok (.iadd, 1) := by decide +kernel
theorem dX11_makes_131 : decode cX11_makes 131 = .ok (.istore 5, 2) := by decide +kernel
theorem dX11_makes_133 : decode cX11_makes 133 = .ok (.iinc 6 1, 3) := by decide +kernel
theorem dX11_makes_136 : decode cX11_makes 136 = .ok (.goto (-34), 3) := by decide +kernel
theorem dX11_makes_139 : decode cX11_makes 139 = .ok (.aload_n 0, 1) := by decide +kernel
theorem dX11_makes_140 : decode cX11_makes 140 = .ok (.getfield 31, 3) := by decide +kernel
theorem dX11_makes_143 : decode cX11_makes 143 = .ok (.iload 5, 2) := by decide +kernel
theorem dX11_makes_145 : decode cX11_makes 145 = .ok (.lconst 1, 1) := by decide +kernel
theorem dX11_makes_146 : decode cX11_makes 146 = .ok (.lastore, 1) := by decide +kernel
theorem dX11_makes_147 : decode cX11_makes 147 = .ok (.iload_n 3, 1) := by decide +kernel
theorem dX11_makes_148 : decode cX11_makes 148 = .ok (.iconst 1, 1) := by decide +kernel
theorem dX11_makes_149 : decode cX11_makes 149 = .ok (.isub, 1) := by decide +kernel
theorem dX11_makes_150 : decode cX11_makes 150 = .ok (.istore 6, 2) := by decide +kernel
theorem dX11_makes_152 : decode cX11_makes 152 = .ok (.iload 6, 2) := by decide +kernel
theorem dX11_makes_154 : decode cX11_makes 154 = .ok (.ifCond .lt 20, 3) := by decide +kernel
theorem dX11_makes_157 : decode cX11_makes 157 = .ok (.aload_n 0, 1) := by decide +kernel
theorem dX11_makes_158 : decode cX11_makes 158 = .ok (.aload_n 0, 1) := by decide +kernel
theorem dX11_makes_159 : decode cX11_makes 159 = .ok (.getfield 37, 3) := by decide +kernel
theorem dX11_makes_162 : decode cX11_makes 162 = .ok (.iload 6, 2) := by decide +kernel
theorem dX11_makes_164 : decode cX11_makes 164 = .ok (.iaload, 1) := by decide +kernel
theorem dX11_makes_165 : decode cX11_makes 165 = .ok (.invokevirtual 199, 3) := by decide +kernel
theorem dX11_makes_168 : decode cX11_makes 168 = .ok (.iinc 6 (-1), 3) := by decide +kernel
theorem dX11_makes_171 : decode cX11_makes 171 = .ok (.goto (-19), 3) := by decide +kernel
theorem dX11_makes_174 : decode cX11_makes 174 = .ok (.return_, 1) := by decide +kernel
theorem dX11_polynomial_0 : decode cX11_polynomial 0 = .ok (.iload_n 1, 1) := by decide +kernel
theorem dX11_polynomial_1 : decode cX11_polynomial 1 = .ok (.invokestatic 169, 3) := by decide +kernel
theorem dX11_polynomial_4 : decode cX11_polynomial 4 = .ok (.ifCond .eq 11, 3) := by decide +kernel
theorem dX11_polynomial_7 : decode cX11_polynomial 7 = .ok (.aload_n 0, 1) := by decide +kernel
theorem dX11_polynomial_8 : decode cX11_polynomial 8 = .ok (.iload_n 2, 1) := by decide +kernel
theorem dX11_polynomial_9 : decode cX11_polynomial 9 = .ok (.invokevirtual 133, 3) := by decide +kernel
theorem dX11_polynomial_12 : decode cX11_polynomial 12 = .ok (.ifCond .ne 6, 3) := by decide +kernel
theorem dX11_polynomial_15 : decode cX11_polynomial 15 = .ok (.bipush (-2), 2) := by decide +kernel
theorem dX11_polynomial_17 : decode cX11_polynomial 17 = .ok (.ireturn, 1) := by decide +kernel
theorem dX11_polynomial_18 : decode cX11_polynomial 18 = .ok (.aload_n 0, 1) := by decide +kernel
theorem dX11_polynomial_19 : decode cX11_polynomial 19 = .ok (.iload_n 2, 1) := by decide +kernel
theorem dX11_polynomial_20 : decode cX11_polynomial 20 = .ok (.invokevirtual 203, 3) := by decide +kernel
theorem dX11_polynomial_23 : decode cX11_polynomial 23 = .ok (.aload_n 0, 1) := by decide +kernel
theorem dX11_polynomial_24 : decode cX11_polynomial 24 = .ok (.iload_n 1, 1) := by decide +kernel
theorem dX11_polynomial_25 : decode cX11_polynomial 25 = .ok (.invokevirtual 179, 3) := by decide +kernel
theorem dX11_polynomial_28 : decode cX11_polynomial 28 = .ok (.ireturn, 1) := by decide +kernel
theorem dX11_parts_0 : decode cX11_parts 0 = .ok (.aload_n 0, 1) := by decide +kernel
theorem dX11_parts_1 : decode cX11_parts 1 = .ok (.iload_n 1, 1) := by decide +kernel
theorem dX11_parts_2 : decode cX11_parts 2 = .ok (.invokevirtual 133, 3) := by decide +kernel
theorem dX11_parts_5 : decode cX11_parts 5 = .ok (.istore_n 3, 1) := by decide +kernel
theorem dX11_parts_6 : decode cX11_parts 6 = .ok (.iconst 0, 1) := by decide +kernel
theorem dX11_parts_7 : decode cX11_parts 7 = .ok (.istore 4, 2) := by decide +kernel
theorem dX11_parts_9 : decode cX11_parts 9 = .ok (.iload 4, 2) := by decide +kernel
theorem dX11_parts_11 : decode cX11_parts 11 = .ok (.iconst 1, 1) := by decide +kernel
theorem dX11_parts_12 : decode cX11_parts 12 = .ok (.iadd, 1) := by decide +kernel
theorem dX11_parts_13 : decode cX11_parts 13 = .ok (.aload_n 0, 1) := by decide +kernel
theorem dX11_parts_14 : decode cX11_parts 14 = .ok (.getfield 130, 3) := by decide +kernel
theorem dX11_parts_17 : decode cX11_parts 17 = .ok (.if_icmp .ge 77, 3) := by decide +kernel
theorem dX11_parts_20 : decode cX11_parts 20 = .ok (.aload_n 0, 1) := by decide +kernel
theorem dX11_parts_21 : decode cX11_parts 21 = .ok (.getfield 7, 3) := by decide +kernel
theorem dX11_parts_24 : decode cX11_parts 24 = .ok (.iload 4, 2) := by decide +kernel
theorem dX11_parts_26 : decode cX11_parts 26 = .ok (.iaload, 1) := by decide +kernel
theorem dX11_parts_27 : decode cX11_parts 27 = .ok (.aload_n 0, 1) := by decide +kernel
theorem dX11_parts_28 : decode cX11_parts 28 = .ok (.getfield 7, 3) := by decide +kernel
theorem dX11_parts_31 : decode cX11_parts 31 = .ok (.iload 4, 2) := by decide +kernel
theorem dX11_parts_33 : decode cX11_parts 33 = .ok (.iconst 1, 1) := by decide +kernel
theorem dX11_parts_34 : decode cX11_parts 34 = .ok (.iadd, 1) := by decide +kernel
theorem dX11_parts_35 : decode cX11_parts 35 = .ok (.iaload, 1) := by decide +kernel
theorem dX11_parts_36 : decode cX11_parts 36 = .ok (.if_icmp .le 52, 3) := by decide +kernel
theorem dX11_parts_39 : decode cX11_parts 39 = .ok (.aload_n 0, 1) := by decide +kernel
theorem dX11_parts_40 : decode cX11_parts 40 = .ok (.iload 4, 2) := by decide +kernel
theorem dX11_parts_42 : decode cX11_parts 42 = .ok (.iconst 1, 1) := by decide +kernel
theorem dX11_parts_43 : decode cX11_parts 43 = .ok (.iadd, 1) := by decide +kernel
theorem dX11_parts_44 : decode cX11_parts 44 = .ok (.invokevirtual 199, 3) := by decide +kernel
theorem dX11_parts_47 : decode cX11_parts 47 = .ok (.aload_n 0, 1) := by decide +kernel
theorem dX11_parts_48 : decode cX11_parts 48 = .ok (.iload 4, 2) := by decide +kernel
theorem dX11_parts_50 : decode cX11_parts 50 = .ok (.iload 4, 2) := by decide +kernel
theorem dX11_parts_52 : decode cX11_parts 52 = .ok (.iconst 1, 1) := by decide +kernel
theorem dX11_parts_53 : decode cX11_parts 53 = .ok (.iadd, 1) := by decide +kernel
theorem dX11_parts_54 : decode cX11_parts 54 = .ok (.invokevirtual 141, 3) := by decide +kernel
theorem dX11_parts_57 : decode cX11_parts 57 = .ok (.iload_n 2, 1) := by decide +kernel
theorem dX11_parts_58 : decode cX11_parts 58 = .ok (.ifCond .eq 10, 3) := by decide +kernel
theorem dX11_parts_61 : decode cX11_parts 61 = .ok (.aload_n 0, 1) := by decide +kernel
theorem dX11_parts_62 : decode cX11_parts 62 = .ok (.invokevirtual 162, 3) := by decide +kernel
theorem dX11_parts_65 : decode cX11_parts 65 = .ok (.goto 4, 3) := by decide +kernel
theorem dX11_parts_68 : decode cX11_parts 68 = .ok (.iconst 0, 1) := by decide +kernel
theorem dX11_parts_69 : decode cX11_parts 69 = .ok (.istore 5, 2) := by decide +kernel
theorem dX11_parts_71 : decode cX11_parts 71 = .ok (.iload 5, 2) := by decide +kernel
theorem dX11_parts_73 : decode cX11_parts 73 = .ok (.ifCond .eq 9, 3) := by decide +kernel
theorem dX11_parts_76 : decode cX11_parts 76 = .ok (.iload 5, 2) := by decide +kernel
theorem dX11_parts_78 : decode cX11_parts 78 = .ok (.invokestatic 182, 3) := by decide +kernel
theorem dX11_parts_81 : decode cX11_parts 81 = .ok (.lreturn, 1) := by decide +kernel
theorem dX11_parts_82 : decode cX11_parts 82 = .ok (.iconst 0, 1) := by decide +kernel
theorem dX11_parts_83 : decode cX11_parts 83 = .ok (.istore 4, 2) := by decide +kernel
theorem dX11_parts_85 : decode cX11_parts 85 = .ok (.goto (-76), 3) := by decide +kernel
theorem dX11_parts_88 : decode cX11_parts 88 = .ok (.iinc 4 1, 3) := by decide +kernel
theorem dX11_parts_91 : decode cX11_parts 91 = .ok (.goto (-82), 3) := by decide +kernel
theorem dX11_parts_94 : decode cX11_parts 94 = .ok (.aload_n 0, 1) := by decide +kernel
theorem dX11_parts_95 : decode cX11_parts 95 = .ok (.getfield 31, 3) := by decide +kernel
theorem dX11_parts_98 : decode cX11_parts 98 = .ok (.iconst 0, 1) := by decide +kernel
theorem dX11_parts_99 : decode cX11_parts 99 = .ok (.laload, 1) := by decide +kernel
theorem dX11_parts_100 : decode cX11_parts 100 = .ok (.lreturn, 1) := by decide +kernel
theorem dX11_part_0 : decode cX11_part 0 = .ok (.iload_n 1, 1) := by decide +kernel
theorem dX11_part_1 : decode cX11_part 1 = .ok (.invokestatic 169, 3) := by decide +kernel
theorem dX11_part_4 : decode cX11_part 4 = .ok (.ifCond .eq 11, 3) := by decide +kernel
theorem dX11_part_7 : decode cX11_part 7 = .ok (.aload_n 0, 1) := by decide +kernel
theorem dX11_part_8 : decode cX11_part 8 = .ok (.iload_n 2, 1) := by decide +kernel
theorem dX11_part_9 : decode cX11_part 9 = .ok (.invokevirtual 133, 3) := by decide +kernel
theorem dX11_part_12 : decode cX11_part 12 = .ok (.ifCond .ne 9, 3) := by decide +kernel
theorem dX11_part_15 : decode cX11_part 15 = .ok (.bipush (-2), 2) := by decide +kernel
theorem dX11_part_17 : decode cX11_part 17 = .ok (.invokestatic 182, 3) := by decide +kernel
theorem dX11_part_20 : decode cX11_part 20 = .ok (.lreturn, 1) := by decide +kernel
theorem dX11_part_21 : decode cX11_part 21 = .ok (.aload_n 0, 1) := by decide +kernel
theorem dX11_part_22 : decode cX11_part 22 = .ok (.getfield 16, 3) := by decide +kernel
theorem dX11_part_25 : decode cX11_part 25 = .ok (.iload_n 1, 1) := by decide +kernel
theorem dX11_part_26 : decode cX11_part 26 = .ok (.baload, 1) := by decide +kernel
theorem dX11_part_27 : decode cX11_part 27 = .ok (.ifCond .ne 9, 3) := by decide +kernel
theorem dX11_part_30 : decode cX11_part 30 = .ok (.bipush (-3), 2) := by decide +kernel
theorem dX11_part_32 : decode cX11_part 32 = .ok (.invokestatic 182, 3) := by decide +kernel
theorem dX11_part_35 : decode cX11_part 35 = .ok (.lreturn, 1) := by decide +kernel
theorem dX11_part_36 : decode cX11_part 36 = .ok (.aload_n 0, 1) := by decide +kernel
theorem dX11_part_37 : decode cX11_part 37 = .ok (.invokevirtual 172, 3) := by decide +kernel
theorem dX11_part_40 : decode cX11_part 40 = .ok (.aload_n 0, 1) := by decide +kernel
theorem dX11_part_41 : decode cX11_part 41 = .ok (.iload_n 1, 1) := by decide +kernel
theorem dX11_part_42 : decode cX11_part 42 = .ok (.lconst 1, 1) := by decide +kernel
theorem dX11_part_43 : decode cX11_part 43 = .ok (.invokevirtual 175, 3) := by decide +kernel
theorem dX11_part_46 : decode cX11_part 46 = .ok (.aload_n 0, 1) := by decide +kernel
theorem dX11_part_47 : decode cX11_part 47 = .ok (.iload_n 2, 1) := by decide +kernel
theorem dX11_part_48 : decode cX11_part 48 = .ok (.iconst 1, 1) := by decide +kernel
theorem dX11_part_49 : decode cX11_part 49 = .ok (.invokevirtual 206, 3) := by decide +kernel
theorem dX11_part_52 : decode cX11_part 52 = .ok (.lreturn, 1) := by decide +kernel
theorem dX11_constant_0 : decode cX11_constant 0 = .ok (.aload_n 0, 1) := by decide +kernel
theorem dX11_constant_1 : decode cX11_constant 1 = .ok (.iload_n 1, 1) := by decide +kernel
theorem dX11_constant_2 : decode cX11_constant 2 = .ok (.invokevirtual 133, 3) := by decide +kernel
theorem dX11_constant_5 : decode cX11_constant 5 = .ok (.ifCond .eq 19, 3) := by decide +kernel
theorem dX11_constant_8 : decode cX11_constant 8 = .ok (.aload_n 0, 1) := by decide +kernel
theorem dX11_constant_9 : decode cX11_constant 9 = .ok (.iload_n 2, 1) := by decide +kernel
theorem dX11_constant_10 : decode cX11_constant 10 = .ok (.invokevirtual 133, 3) := by decide +kernel
theorem dX11_constant_13 : decode cX11_constant 13 = .ok (.ifCond .eq 11, 3) := by decide +kernel
theorem dX11_constant_16 : decode cX11_constant 16 = .ok (.aload_n 0, 1) := by decide +kernel
theorem dX11_constant_17 : decode cX11_constant 17 = .ok (.iload_n 3, 1) := by decide +kernel
theorem dX11_constant_18 : decode cX11_constant 18 = .ok (.invokevirtual 133, 3) := by decide +kernel
theorem dX11_constant_21 : decode cX11_constant 21 = .ok (.ifCond .ne 9, 3) := by decide +kernel
theorem dX11_constant_24 : decode cX11_constant 24 = .ok (.bipush (-2), 2) := by decide +kernel
theorem dX11_constant_26 : decode cX11_constant 26 = .ok (.invokestatic 182, 3) := by decide +kernel
theorem dX11_constant_29 : decode cX11_constant 29 = .ok (.lreturn, 1) := by decide +kernel
theorem dX11_constant_30 : decode cX11_constant 30 = .ok (.aload_n 0, 1) := by decide +kernel
theorem dX11_constant_31 : decode cX11_constant 31 = .ok (.iload_n 1, 1) := by decide +kernel
theorem dX11_constant_32 : decode cX11_constant 32 = .ok (.invokevirtual 203, 3) := by decide +kernel
theorem dX11_constant_35 : decode cX11_constant 35 = .ok (.iconst 0, 1) := by decide +kernel
theorem dX11_constant_36 : decode cX11_constant 36 = .ok (.istore 4, 2) := by decide +kernel
theorem dX11_constant_38 : decode cX11_constant 38 = .ok (.iload 4, 2) := by decide +kernel
theorem dX11_constant_40 : decode cX11_constant 40 = .ok (.ldc 30, 2) := by decide +kernel
theorem dX11_constant_42 : decode cX11_constant 42 = .ok (.if_icmp .ge 23, 3) := by decide +kernel
theorem dX11_constant_45 : decode cX11_constant 45 = .ok (.aload_n 0, 1) := by decide +kernel
theorem dX11_constant_46 : decode cX11_constant 46 = .ok (.getfield 40, 3) := by decide +kernel
theorem dX11_constant_49 : decode cX11_constant 49 = .ok (.iload 4, 2) := by decide +kernel
theorem dX11_constant_51 : decode cX11_constant 51 = .ok (.aload_n 0, 1) := by decide +kernel
theorem dX11_constant_52 : decode cX11_constant 52 = .ok (.getfield 31, 3) := by decide +kernel
theorem dX11_constant_55 : decode cX11_constant 55 = .ok (.iload 4, 2) := by decide +kernel
theorem dX11_constant_57 : decode cX11_constant 57 = .ok (.laload, 1) := by decide +kernel
theorem dX11_constant_58 : decode cX11_constant 58 = .ok (.lastore, 1) := by decide +kernel
theorem dX11_constant_59 : decode cX11_constant 59 = .ok (.iinc 4 1, 3) := by decide +kernel
theorem dX11_constant_62 : decode cX11_constant 62 = .ok (.goto (-24), 3) := by decide +kernel
theorem dX11_constant_65 : decode cX11_constant 65 = .ok (.aload_n 0, 1) := by decide +kernel
theorem dX11_constant_66 : decode cX11_constant 66 = .ok (.iload_n 2, 1) := by decide +kernel
theorem dX11_constant_67 : decode cX11_constant 67 = .ok (.invokevirtual 203, 3) := by decide +kernel
theorem dX11_constant_70 : decode cX11_constant 70 = .ok (.iconst 0, 1) := by decide +kernel
theorem dX11_constant_71 : decode cX11_constant 71 = .ok (.istore 4, 2) := by decide +kernel
theorem dX11_constant_73 : decode cX11_constant 73 = .ok (.iload 4, 2) := by decide +kernel
theorem dX11_constant_75 : decode cX11_constant 75 = .ok (.ldc 30, 2) := by decide +kernel
theorem dX11_constant_77 : decode cX11_constant 77 = .ok (.if_icmp .ge 23, 3) := by decide +kernel
theorem dX11_constant_80 : decode cX11_constant 80 = .ok (.aload_n 0, 1) := by decide +kernel
theorem dX11_constant_81 : decode cX11_constant 81 = .ok (.getfield 43, 3) := by decide +kernel
theorem dX11_constant_84 : decode cX11_constant 84 = .ok (.iload 4, 2) := by decide +kernel
theorem dX11_constant_86 : decode cX11_constant 86 = .ok (.aload_n 0, 1) := by decide +kernel
theorem dX11_constant_87 : decode cX11_constant 87 = .ok (.getfield 31, 3) := by decide +kernel
theorem dX11_constant_90 : decode cX11_constant 90 = .ok (.iload 4, 2) := by decide +kernel
theorem dX11_constant_92 : decode cX11_constant 92 = .ok (.laload, 1) := by decide +kernel
theorem dX11_constant_93 : decode cX11_constant 93 = .ok (.lastore, 1) := by decide +kernel
theorem dX11_constant_94 : decode cX11_constant 94 = .ok (.iinc 4 1, 3) := by decide +kernel
theorem dX11_constant_97 : decode cX11_constant 97 = .ok (.goto (-24), 3) := by decide +kernel
theorem dX11_constant_100 : decode cX11_constant 100 = .ok (.aload_n 0, 1) := by decide +kernel
theorem dX11_constant_101 : decode cX11_constant 101 = .ok (.invokevirtual 172, 3) := by decide +kernel
theorem dX11_constant_104 : decode cX11_constant 104 = .ok (.iconst 0, 1) := by decide +kernel
theorem dX11_constant_105 : decode cX11_constant 105 = .ok (.istore 4, 2) := by decide +kernel
theorem dX11_constant_107 : decode cX11_constant 107 = .ok (.iload 4, 2) := by decide +kernel
theorem dX11_constant_109 : decode cX11_constant 109 = .ok (.ldc 30, 2) := by decide +kernel
theorem dX11_constant_111 : decode cX11_constant 111 = .ok (.if_icmp .ge 81, 3) := by decide +kernel
theorem dX11_constant_114 : decode cX11_constant 114 = .ok (.iconst 0, 1) := by decide +kernel
theorem dX11_constant_115 : decode cX11_constant 115 = .ok (.istore 5, 2) := by decide +kernel
theorem dX11_constant_117 : decode cX11_constant 117 = .ok (.iload 5, 2) := by decide +kernel
theorem dX11_constant_119 : decode cX11_constant 119 = .ok (.ldc 30, 2) := by decide +kernel
theorem dX11_constant_121 : decode cX11_constant 121 = .ok (.if_icmp .ge 65, 3) := by decide +kernel
theorem dX11_constant_124 : decode cX11_constant 124 = .ok (.aload_n 0, 1) := by decide +kernel
theorem dX11_constant_125 : decode cX11_constant 125 = .ok (.getfield 40, 3) := by decide +kernel
theorem dX11_constant_128 : decode cX11_constant 128 = .ok (.iload 4, 2) := by decide +kernel
theorem dX11_constant_130 : decode cX11_constant 130 = .ok (.laload, 1) := by decide +kernel
theorem dX11_constant_131 : decode cX11_constant 131 = .ok (.lconst 0, 1) := by decide +kernel
theorem dX11_constant_132 : decode cX11_constant 132 = .ok (.lcmp, 1) := by decide +kernel
theorem dX11_constant_133 : decode cX11_constant 133 = .ok (.ifCond .eq 53, 3) := by decide +kernel
theorem dX11_constant_136 : decode cX11_constant 136 = .ok (.aload_n 0, 1) := by decide +kernel
theorem dX11_constant_137 : decode cX11_constant 137 = .ok (.getfield 31, 3) := by decide +kernel
theorem dX11_constant_140 : decode cX11_constant 140 = .ok (.aload_n 0, 1) := by decide +kernel
theorem dX11_constant_141 : decode cX11_constant 141 = .ok (.getfield 43, 3) := by decide +kernel
theorem dX11_constant_144 : decode cX11_constant 144 = .ok (.iload 5, 2) := by decide +kernel
theorem dX11_constant_146 : decode cX11_constant 146 = .ok (.laload, 1) := by decide +kernel
theorem dX11_constant_147 : decode cX11_constant 147 = .ok (.lconst 0, 1) := by decide +kernel
theorem dX11_constant_148 : decode cX11_constant 148 = .ok (.lcmp, 1) := by decide +kernel
theorem dX11_constant_149 : decode cX11_constant 149 = .ok (.ifCond .eq 11, 3) := by decide +kernel
theorem dX11_constant_152 : decode cX11_constant 152 = .ok (.iload 4, 2) := by decide +kernel
theorem dX11_constant_154 : decode cX11_constant 154 = .ok (.iload 5, 2) := by decide +kernel
theorem dX11_constant_156 : decode cX11_constant 156 = .ok (.iadd, 1) := by decide +kernel
theorem dX11_constant_157 : decode cX11_constant 157 = .ok (.goto 4, 3) := by decide +kernel
theorem dX11_constant_160 : decode cX11_constant 160 = .ok (.iconst 0, 1) := by decide +kernel
theorem dX11_constant_161 : decode cX11_constant 161 = .ok (.dup2, 1) := by decide +kernel
theorem dX11_constant_162 : decode cX11_constant 162 = .ok (.laload, 1) := by decide +kernel
theorem dX11_constant_163 : decode cX11_constant 163 = .ok (.aload_n 0, 1) := by decide +kernel
theorem dX11_constant_164 : decode cX11_constant 164 = .ok (.getfield 40, 3) := by decide +kernel
theorem dX11_constant_167 : decode cX11_constant 167 = .ok (.iload 4, 2) := by decide +kernel
theorem dX11_constant_169 : decode cX11_constant 169 = .ok (.laload, 1) := by decide +kernel
theorem dX11_constant_170 : decode cX11_constant 170 = .ok (.aload_n 0, 1) := by decide +kernel
theorem dX11_constant_171 : decode cX11_constant 171 = .ok (.getfield 43, 3) := by decide +kernel
theorem dX11_constant_174 : decode cX11_constant 174 = .ok (.iload 5, 2) := by decide +kernel
theorem dX11_constant_176 : decode cX11_constant 176 = .ok (.laload, 1) := by decide +kernel
theorem dX11_constant_177 : decode cX11_constant 177 = .ok (.lmul, 1) := by decide +kernel
theorem dX11_constant_178 : decode cX11_constant 178 = .ok (.ladd, 1) := by decide +kernel
theorem dX11_constant_179 : decode cX11_constant 179 = .ok (.lastore, 1) := by decide +kernel
theorem dX11_constant_180 : decode cX11_constant 180 = .ok (.iinc 5 1, 3) := by decide +kernel
theorem dX11_constant_183 : decode cX11_constant 183 = .ok (.goto (-66), 3) := by decide +kernel
theorem dX11_constant_186 : decode cX11_constant 186 = .ok (.iinc 4 1, 3) := by decide +kernel
theorem dX11_constant_189 : decode cX11_constant 189 = .ok (.goto (-82), 3) := by decide +kernel
theorem dX11_constant_192 : decode cX11_constant 192 = .ok (.aload_n 0, 1) := by decide +kernel
theorem dX11_constant_193 : decode cX11_constant 193 = .ok (.iload_n 3, 1) := by decide +kernel
theorem dX11_constant_194 : decode cX11_constant 194 = .ok (.iconst 0, 1) := by decide +kernel
theorem dX11_constant_195 : decode cX11_constant 195 = .ok (.invokevirtual 206, 3) := by decide +kernel
theorem dX11_constant_198 : decode cX11_constant 198 = .ok (.lreturn, 1) := by decide +kernel
theorem dX11_same_0 : decode cX11_same 0 = .ok (.iload_n 1, 1) := by decide +kernel
theorem dX11_same_1 : decode cX11_same 1 = .ok (.invokestatic 169, 3) := by decide +kernel
theorem dX11_same_4 : decode cX11_same 4 = .ok (.ifCond .eq 10, 3) := by decide +kernel
theorem dX11_same_7 : decode cX11_same 7 = .ok (.iload_n 2, 1) := by decide +kernel
theorem dX11_same_8 : decode cX11_same 8 = .ok (.invokestatic 169, 3) := by decide +kernel
theorem dX11_same_11 : decode cX11_same 11 = .ok (.ifCond .ne 6, 3) := by decide +kernel
theorem dX11_same_14 : decode cX11_same 14 = .ok (.bipush (-2), 2) := by decide +kernel
theorem dX11_same_16 : decode cX11_same 16 = .ok (.ireturn, 1) := by decide +kernel
theorem dX11_same_17 : decode cX11_same 17 = .ok (.aload_n 0, 1) := by decide +kernel
theorem dX11_same_18 : decode cX11_same 18 = .ok (.getfield 16, 3) := by decide +kernel
theorem dX11_same_21 : decode cX11_same 21 = .ok (.iload_n 1, 1) := by decide +kernel
theorem dX11_same_22 : decode cX11_same 22 = .ok (.baload, 1) := by decide +kernel
theorem dX11_same_23 : decode cX11_same 23 = .ok (.ifCond .eq 12, 3) := by decide +kernel
theorem dX11_same_26 : decode cX11_same 26 = .ok (.aload_n 0, 1) := by decide +kernel
theorem dX11_same_27 : decode cX11_same 27 = .ok (.getfield 16, 3) := by decide +kernel
theorem dX11_same_30 : decode cX11_same 30 = .ok (.iload_n 2, 1) := by decide +kernel
theorem dX11_same_31 : decode cX11_same 31 = .ok (.baload, 1) := by decide +kernel
theorem dX11_same_32 : decode cX11_same 32 = .ok (.ifCond .ne 6, 3) := by decide +kernel
theorem dX11_same_35 : decode cX11_same 35 = .ok (.bipush (-3), 2) := by decide +kernel
theorem dX11_same_37 : decode cX11_same 37 = .ok (.ireturn, 1) := by decide +kernel
theorem dX11_same_38 : decode cX11_same 38 = .ok (.aload_n 0, 1) := by decide +kernel
theorem dX11_same_39 : decode cX11_same 39 = .ok (.getfield 20, 3) := by decide +kernel
theorem dX11_same_42 : decode cX11_same 42 = .ok (.iload_n 1, 1) := by decide +kernel
theorem dX11_same_43 : decode cX11_same 43 = .ok (.iaload, 1) := by decide +kernel
theorem dX11_same_44 : decode cX11_same 44 = .ok (.aload_n 0, 1) := by decide +kernel
theorem dX11_same_45 : decode cX11_same 45 = .ok (.getfield 20, 3) := by decide +kernel
theorem dX11_same_48 : decode cX11_same 48 = .ok (.iload_n 2, 1) := by decide +kernel
theorem dX11_same_49 : decode cX11_same 49 = .ok (.iaload, 1) := by decide +kernel
theorem dX11_same_50 : decode cX11_same 50 = .ok (.if_icmp .ne 7, 3) := by decide +kernel
theorem dX11_same_53 : decode cX11_same 53 = .ok (.iconst 1, 1) := by decide +kernel
theorem dX11_same_54 : decode cX11_same 54 = .ok (.goto 4, 3) := by decide +kernel
theorem dX11_same_57 : decode cX11_same 57 = .ok (.iconst 0, 1) := by decide +kernel
theorem dX11_same_58 : decode cX11_same 58 = .ok (.istore_n 3, 1) := by decide +kernel
theorem dX11_same_59 : decode cX11_same 59 = .ok (.iconst 0, 1) := by decide +kernel
theorem dX11_same_60 : decode cX11_same 60 = .ok (.istore 4, 2) := by decide +kernel
theorem dX11_same_62 : decode cX11_same 62 = .ok (.iload 4, 2) := by decide +kernel
theorem dX11_same_64 : decode cX11_same 64 = .ok (.aload_n 0, 1) := by decide +kernel
theorem dX11_same_65 : decode cX11_same 65 = .ok (.getfield 20, 3) := by decide +kernel
theorem dX11_same_68 : decode cX11_same 68 = .ok (.iload_n 1, 1) := by decide +kernel
theorem dX11_same_69 : decode cX11_same 69 = .ok (.iaload, 1) := by decide +kernel
theorem dX11_same_70 : decode cX11_same 70 = .ok (.if_icmp .ge 78, 3) := by decide +kernel
theorem dX11_same_73 : decode cX11_same 73 = .ok (.iload_n 3, 1) := by decide +kernel
theorem dX11_same_74 : decode cX11_same 74 = .ok (.ifCond .eq 74, 3) := by decide +kernel
theorem dX11_same_77 : decode cX11_same 77 = .ok (.aload_n 0, 1) := by decide +kernel
theorem dX11_same_78 : decode cX11_same 78 = .ok (.getfield 23, 3) := by decide +kernel
theorem dX11_same_81 : decode cX11_same 81 = .ok (.sipush 600, 3) := by decide +kernel
theorem dX11_same_84 : decode cX11_same 84 = .ok (.iload_n 1, 1) := by decide +kernel
theorem dX11_same_85 : decode cX11_same 85 = .ok (.imul, 1) := by decide +kernel
theorem dX11_same_86 : decode cX11_same 86 = .ok (.iload 4, 2) := by decide +kernel
theorem dX11_same_88 : decode cX11_same 88 = .ok (.iadd, 1) := by decide +kernel
theorem dX11_same_89 : decode cX11_same 89 = .ok (.iaload, 1) := by decide +kernel
theorem dX11_same_90 : decode cX11_same 90 = .ok (.aload_n 0, 1) := by decide +kernel
theorem dX11_same_91 : decode cX11_same 91 = .ok (.getfield 23, 3) := by decide +kernel
theorem dX11_same_94 : decode cX11_same 94 = .ok (.sipush 600, 3) := by decide +kernel
theorem dX11_same_97 : decode cX11_same 97 = .ok (.iload_n 2, 1) := by decide +kernel
theorem dX11_same_98 : decode cX11_same 98 = .ok (.imul, 1) := by decide +kernel
theorem dX11_same_99 : decode cX11_same 99 = .ok (.iload 4, 2) := by decide +kernel
theorem dX11_same_101 : decode cX11_same 101 = .ok (.iadd, 1) := by decide +kernel
theorem dX11_same_102 : decode cX11_same 102 = .ok (.iaload, 1) := by decide +kernel
theorem dX11_same_103 : decode cX11_same 103 = .ok (.if_icmp .ne 37, 3) := by decide +kernel
theorem dX11_same_106 : decode cX11_same 106 = .ok (.aload_n 0, 1) := by decide +kernel
theorem dX11_same_107 : decode cX11_same 107 = .ok (.getfield 26, 3) := by decide +kernel
theorem dX11_same_110 : decode cX11_same 110 = .ok (.sipush 600, 3) := by decide +kernel
theorem dX11_same_113 : decode cX11_same 113 = .ok (.iload_n 1, 1) := by decide +kernel
theorem dX11_same_114 : decode cX11_same 114 = .ok (.imul, 1) := by decide +kernel
theorem dX11_same_115 : decode cX11_same 115 = .ok (.iload 4, 2) := by decide +kernel
theorem dX11_same_117 : decode cX11_same 117 = .ok (.iadd, 1) := by decide +kernel
theorem dX11_same_118 : decode cX11_same 118 = .ok (.laload, 1) := by decide +kernel
theorem dX11_same_119 : decode cX11_same 119 = .ok (.aload_n 0, 1) := by decide +kernel
theorem dX11_same_120 : decode cX11_same 120 = .ok (.getfield 26, 3) := by decide +kernel
theorem dX11_same_123 : decode cX11_same 123 = .ok (.sipush 600, 3) := by decide +kernel
theorem dX11_same_126 : decode cX11_same 126 = .ok (.iload_n 2, 1) := by decide +kernel
theorem dX11_same_127 : decode cX11_same 127 = .ok (.imul, 1) := by decide +kernel
theorem dX11_same_128 : decode cX11_same 128 = .ok (.iload 4, 2) := by decide +kernel
theorem dX11_same_130 : decode cX11_same 130 = .ok (.iadd, 1) := by decide +kernel
theorem dX11_same_131 : decode cX11_same 131 = .ok (.laload, 1) := by decide +kernel
theorem dX11_same_132 : decode cX11_same 132 = .ok (.lcmp, 1) := by decide +kernel
theorem dX11_same_133 : decode cX11_same 133 = .ok (.ifCond .ne 7, 3) := by decide +kernel
theorem dX11_same_136 : decode cX11_same 136 = .ok (.iconst 1, 1) := by decide +kernel
theorem dX11_same_137 : decode cX11_same 137 = .ok (.goto 4, 3) := by decide +kernel
theorem dX11_same_140 : decode cX11_same 140 = .ok (.iconst 0, 1) := by decide +kernel
theorem dX11_same_141 : decode cX11_same 141 = .ok (.istore_n 3, 1) := by decide +kernel
theorem dX11_same_142 : decode cX11_same 142 = .ok (.iinc 4 1, 3) := by decide +kernel
theorem dX11_same_145 : decode cX11_same 145 = .ok (.goto (-83), 3) := by decide +kernel
theorem dX11_same_148 : decode cX11_same 148 = .ok (.iload_n 3, 1) := by decide +kernel
theorem dX11_same_149 : decode cX11_same 149 = .ok (.ifCond .eq 7, 3) := by decide +kernel
theorem dX11_same_152 : decode cX11_same 152 = .ok (.iconst 1, 1) := by decide +kernel
theorem dX11_same_153 : decode cX11_same 153 = .ok (.goto 4, 3) := by decide +kernel
theorem dX11_same_156 : decode cX11_same 156 = .ok (.iconst 0, 1) := by decide +kernel
theorem dX11_same_157 : decode cX11_same 157 = .ok (.ireturn, 1) := by decide +kernel
theorem dX11_isBox_0 : decode cX11_isBox 0 = .ok (.iload_n 2, 1) := by decide +kernel
theorem dX11_isBox_1 : decode cX11_isBox 1 = .ok (.istore 4, 2) := by decide +kernel
theorem dX11_isBox_3 : decode cX11_isBox 3 = .ok (.iload_n 0, 1) := by decide +kernel
theorem dX11_isBox_4 : decode cX11_isBox 4 = .ok (.iconst 1, 1) := by decide +kernel
theorem dX11_isBox_5 : decode cX11_isBox 5 = .ok (.isub, 1) := by decide +kernel
theorem dX11_isBox_6 : decode cX11_isBox 6 = .ok (.istore 5, 2) := by decide +kernel
theorem dX11_isBox_8 : decode cX11_isBox 8 = .ok (.iload 5, 2) := by decide +kernel
theorem dX11_isBox_10 : decode cX11_isBox 10 = .ok (.ifCond .lt 25, 3) := by decide +kernel
theorem dX11_isBox_13 : decode cX11_isBox 13 = .ok (.aload_n 3, 1) := by decide +kernel
theorem dX11_isBox_14 : decode cX11_isBox 14 = .ok (.iload 5, 2) := by decide +kernel
theorem dX11_isBox_16 : decode cX11_isBox 16 = .ok (.iload 4, 2) := by decide +kernel
theorem dX11_isBox_18 : decode cX11_isBox 18 = .ok (.bipush 10, 2) := by decide +kernel
theorem dX11_isBox_20 : decode cX11_isBox 20 = .ok (.irem, 1) := by decide +kernel
theorem dX11_isBox_21 : decode cX11_isBox 21 = .ok (.iastore, 1) := by decide +kernel
theorem dX11_isBox_22 : decode cX11_isBox 22 = .ok (.iload 4, 2) := by decide +kernel
theorem dX11_isBox_24 : decode cX11_isBox 24 = .ok (.bipush 10, 2) := by decide +kernel
theorem dX11_isBox_26 : decode cX11_isBox 26 = .ok (.idiv, 1) := by decide +kernel
theorem dX11_isBox_27 : decode cX11_isBox 27 = .ok (.istore 4, 2) := by decide +kernel
theorem dX11_isBox_29 : decode cX11_isBox 29 = .ok (.iinc 5 (-1), 3) := by decide +kernel
theorem dX11_isBox_32 : decode cX11_isBox 32 = .ok (.goto (-24), 3) := by decide +kernel
theorem dX11_isBox_35 : decode cX11_isBox 35 = .ok (.iload_n 2, 1) := by decide +kernel
theorem dX11_isBox_36 : decode cX11_isBox 36 = .ok (.ifCond .lt 15, 3) := by decide +kernel
theorem dX11_isBox_39 : decode cX11_isBox 39 = .ok (.iload 4, 2) := by decide +kernel
theorem dX11_isBox_41 : decode cX11_isBox 41 = .ok (.ifCond .ne 10, 3) := by decide +kernel
theorem dX11_isBox_44 : decode cX11_isBox 44 = .ok (.aload_n 3, 1) := by decide +kernel
theorem dX11_isBox_45 : decode cX11_isBox 45 = .ok (.iconst 0, 1) := by decide +kernel
theorem dX11_isBox_46 : decode cX11_isBox 46 = .ok (.iaload, 1) := by decide +kernel
theorem dX11_isBox_47 : decode cX11_isBox 47 = .ok (.iload_n 1, 1) := by decide +kernel
theorem dX11_isBox_48 : decode cX11_isBox 48 = .ok (.if_icmp .le 5, 3) := by decide +kernel
theorem dX11_isBox_51 : decode cX11_isBox 51 = .ok (.iconst 0, 1) := by decide +kernel
theorem dX11_isBox_52 : decode cX11_isBox 52 = .ok (.ireturn, 1) := by decide +kernel
theorem dX11_isBox_53 : decode cX11_isBox 53 = .ok (.iconst 1, 1) := by decide +kernel
theorem dX11_isBox_54 : decode cX11_isBox 54 = .ok (.istore 5, 2) := by decide +kernel
theorem dX11_isBox_56 : decode cX11_isBox 56 = .ok (.iload 5, 2) := by decide +kernel
theorem dX11_isBox_58 : decode cX11_isBox 58 = .ok (.iload_n 0, 1) := by decide +kernel
theorem dX11_isBox_59 : decode cX11_isBox 59 = .ok (.if_icmp .ge 24, 3) := by decide +kernel
theorem dX11_isBox_62 : decode cX11_isBox 62 = .ok (.aload_n 3, 1) := by decide +kernel
theorem dX11_isBox_63 : decode cX11_isBox 63 = .ok (.iload 5, 2) := by decide +kernel
theorem dX11_isBox_65 : decode cX11_isBox 65 = .ok (.iaload, 1) := by decide +kernel
theorem dX11_isBox_66 : decode cX11_isBox 66 = .ok (.aload_n 3, 1) := by decide +kernel
theorem dX11_isBox_67 : decode cX11_isBox 67 = .ok (.iload 5, 2) := by decide +kernel
theorem dX11_isBox_69 : decode cX11_isBox 69 = .ok (.iconst 1, 1) := by decide +kernel
theorem dX11_isBox_70 : decode cX11_isBox 70 = .ok (.isub, 1) := by decide +kernel
theorem dX11_isBox_71 : decode cX11_isBox 71 = .ok (.iaload, 1) := by decide +kernel
theorem dX11_isBox_72 : decode cX11_isBox 72 = .ok (.if_icmp .le 5, 3) := by decide +kernel
theorem dX11_isBox_75 : decode cX11_isBox 75 = .ok (.iconst 0, 1) := by decide +kernel
theorem dX11_isBox_76 : decode cX11_isBox 76 = .ok (.ireturn, 1) := by decide +kernel
theorem dX11_isBox_77 : decode cX11_isBox 77 = .ok (.iinc 5 1, 3) := by decide +kernel
theorem dX11_isBox_80 : decode cX11_isBox 80 = .ok (.goto (-24), 3) := by decide +kernel
theorem dX11_isBox_83 : decode cX11_isBox 83 = .ok (.iconst 1, 1) := by decide +kernel
theorem dX11_isBox_84 : decode cX11_isBox 84 = .ok (.ireturn, 1) := by decide +kernel
theorem dX11_areSides_0 : decode cX11_areSides 0 = .ok (.iload_n 0, 1) := by decide +kernel
theorem dX11_areSides_1 : decode cX11_areSides 1 = .ok (.i2l, 1) := by decide +kernel
theorem dX11_areSides_2 : decode cX11_areSides 2 = .ok (.lconst 1, 1) := by decide +kernel
theorem dX11_areSides_3 : decode cX11_areSides 3 = .ok (.ldc2_w 194, 3) := by decide +kernel
theorem dX11_areSides_6 : decode cX11_areSides 6 = .ok (.invokestatic 126, 3) := by decide +kernel
theorem dX11_areSides_9 : decode cX11_areSides 9 = .ok (.ifCond .eq 19, 3) := by decide +kernel
theorem dX11_areSides_12 : decode cX11_areSides 12 = .ok (.iload_n 1, 1) := by decide +kernel
theorem dX11_areSides_13 : decode cX11_areSides 13 = .ok (.i2l, 1) := by decide +kernel
theorem dX11_areSides_14 : decode cX11_areSides 14 = .ok (.lconst 1, 1) := by decide +kernel
theorem dX11_areSides_15 : decode cX11_areSides 15 = .ok (.ldc2_w 194, 3) := by decide +kernel
theorem dX11_areSides_18 : decode cX11_areSides 18 = .ok (.invokestatic 126, 3) := by decide +kernel
theorem dX11_areSides_21 : decode cX11_areSides 21 = .ok (.ifCond .eq 7, 3) := by decide +kernel
theorem dX11_areSides_24 : decode cX11_areSides 24 = .ok (.iconst 1, 1) := by decide +kernel
theorem dX11_areSides_25 : decode cX11_areSides 25 = .ok (.goto 4, 3) := by decide +kernel
theorem dX11_areSides_28 : decode cX11_areSides 28 = .ok (.iconst 0, 1) := by decide +kernel
theorem dX11_areSides_29 : decode cX11_areSides 29 = .ok (.ireturn, 1) := by decide +kernel
theorem dX11_tens_0 : decode cX11_tens 0 = .ok (.iconst 1, 1) := by decide +kernel
theorem dX11_tens_1 : decode cX11_tens 1 = .ok (.istore_n 1, 1) := by decide +kernel
theorem dX11_tens_2 : decode cX11_tens 2 = .ok (.iconst 0, 1) := by decide +kernel
theorem dX11_tens_3 : decode cX11_tens 3 = .ok (.istore_n 2, 1) := by decide +kernel
theorem dX11_tens_4 : decode cX11_tens 4 = .ok (.iload_n 2, 1) := by decide +kernel
theorem dX11_tens_5 : decode cX11_tens 5 = .ok (.iload_n 0, 1) := by decide +kernel
theorem dX11_tens_6 : decode cX11_tens 6 = .ok (.if_icmp .ge 14, 3) := by decide +kernel
theorem dX11_tens_9 : decode cX11_tens 9 = .ok (.bipush 10, 2) := by decide +kernel
theorem dX11_tens_11 : decode cX11_tens 11 = .ok (.iload_n 1, 1) := by decide +kernel
theorem dX11_tens_12 : decode cX11_tens 12 = .ok (.imul, 1) := by decide +kernel
theorem dX11_tens_13 : decode cX11_tens 13 = .ok (.istore_n 1, 1) := by decide +kernel
theorem dX11_tens_14 : decode cX11_tens 14 = .ok (.iinc 2 1, 3) := by decide +kernel
theorem dX11_tens_17 : decode cX11_tens 17 = .ok (.goto (-13), 3) := by decide +kernel
theorem dX11_tens_20 : decode cX11_tens 20 = .ok (.iload_n 1, 1) := by decide +kernel
theorem dX11_tens_21 : decode cX11_tens 21 = .ok (.ireturn, 1) := by decide +kernel
theorem dX11_sizeOf_0 : decode cX11_sizeOf 0 = .ok (.iconst 0, 1) := by decide +kernel
theorem dX11_sizeOf_1 : decode cX11_sizeOf 1 = .ok (.istore_n 2, 1) := by decide +kernel
theorem dX11_sizeOf_2 : decode cX11_sizeOf 2 = .ok (.iconst 0, 1) := by decide +kernel
theorem dX11_sizeOf_3 : decode cX11_sizeOf 3 = .ok (.istore_n 3, 1) := by decide +kernel
theorem dX11_sizeOf_4 : decode cX11_sizeOf 4 = .ok (.iload_n 3, 1) := by decide +kernel
theorem dX11_sizeOf_5 : decode cX11_sizeOf 5 = .ok (.iload_n 0, 1) := by decide +kernel
theorem dX11_sizeOf_6 : decode cX11_sizeOf 6 = .ok (.if_icmp .ge 15, 3) := by decide +kernel
theorem dX11_sizeOf_9 : decode cX11_sizeOf 9 = .ok (.iload_n 2, 1) := by decide +kernel
theorem dX11_sizeOf_10 : decode cX11_sizeOf 10 = .ok (.aload_n 1, 1) := by decide +kernel
theorem dX11_sizeOf_11 : decode cX11_sizeOf 11 = .ok (.iload_n 3, 1) := by decide +kernel
theorem dX11_sizeOf_12 : decode cX11_sizeOf 12 = .ok (.iaload, 1) := by decide +kernel
theorem dX11_sizeOf_13 : decode cX11_sizeOf 13 = .ok (.iadd, 1) := by decide +kernel
theorem dX11_sizeOf_14 : decode cX11_sizeOf 14 = .ok (.istore_n 2, 1) := by decide +kernel
theorem dX11_sizeOf_15 : decode cX11_sizeOf 15 = .ok (.iinc 3 1, 3) := by decide +kernel
theorem dX11_sizeOf_18 : decode cX11_sizeOf 18 = .ok (.goto (-14), 3) := by decide +kernel
theorem dX11_sizeOf_21 : decode cX11_sizeOf 21 = .ok (.iload_n 2, 1) := by decide +kernel
theorem dX11_sizeOf_22 : decode cX11_sizeOf 22 = .ok (.ireturn, 1) := by decide +kernel
theorem dX11_strip_0 : decode cX11_strip 0 = .ok (.iload_n 1, 1) := by decide +kernel
theorem dX11_strip_1 : decode cX11_strip 1 = .ok (.iload_n 2, 1) := by decide +kernel
theorem dX11_strip_2 : decode cX11_strip 2 = .ok (.invokestatic 210, 3) := by decide +kernel
theorem dX11_strip_5 : decode cX11_strip 5 = .ok (.ifCond .eq 29, 3) := by decide +kernel
theorem dX11_strip_8 : decode cX11_strip 8 = .ok (.iload_n 1, 1) := by decide +kernel
theorem dX11_strip_9 : decode cX11_strip 9 = .ok (.iload_n 2, 1) := by decide +kernel
theorem dX11_strip_10 : decode cX11_strip 10 = .ok (.iload_n 3, 1) := by decide +kernel
theorem dX11_strip_11 : decode cX11_strip 11 = .ok (.aload_n 0, 1) := by decide +kernel
theorem dX11_strip_12 : decode cX11_strip 12 = .ok (.getfield 46, 3) := by decide +kernel
theorem dX11_strip_15 : decode cX11_strip 15 = .ok (.invokestatic 214, 3) := by decide +kernel
theorem dX11_strip_18 : decode cX11_strip 18 = .ok (.ifCond .eq 16, 3) := by decide +kernel
theorem dX11_strip_21 : decode cX11_strip 21 = .ok (.iload 4, 2) := by decide +kernel
theorem dX11_strip_23 : decode cX11_strip 23 = .ok (.i2l, 1) := by decide +kernel
theorem dX11_strip_24 : decode cX11_strip 24 = .ok (.lconst 0, 1) := by decide +kernel
theorem dX11_strip_25 : decode cX11_strip 25 = .ok (.ldc2_w 218, 3) := by decide +kernel
theorem dX11_strip_28 : decode cX11_strip 28 = .ok (.invokestatic 126, 3) := by decide +kernel
theorem dX11_strip_31 : decode cX11_strip 31 = .ok (.ifCond .ne 6, 3) := by decide +kernel
theorem dX11_strip_34 : decode cX11_strip 34 = .ok (.bipush (-2), 2) := by decide +kernel
theorem dX11_strip_36 : decode cX11_strip 36 = .ok (.ireturn, 1) := by decide +kernel
theorem dX11_strip_37 : decode cX11_strip 37 = .ok (.iload 5, 2) := by decide +kernel
theorem dX11_strip_39 : decode cX11_strip 39 = .ok (.istore 6, 2) := by decide +kernel
theorem dX11_strip_41 : decode cX11_strip 41 = .ok (.iconst 0, 1) := by decide +kernel
theorem dX11_strip_42 : decode cX11_strip 42 = .ok (.istore 7, 2) := by decide +kernel
theorem dX11_strip_44 : decode cX11_strip 44 = .ok (.iload 7, 2) := by decide +kernel
theorem dX11_strip_46 : decode cX11_strip 46 = .ok (.iload_n 1, 1) := by decide +kernel
theorem dX11_strip_47 : decode cX11_strip 47 = .ok (.invokestatic 220, 3) := by decide +kernel
theorem dX11_strip_50 : decode cX11_strip 50 = .ok (.if_icmp .ge 147, 3) := by decide +kernel
theorem dX11_strip_53 : decode cX11_strip 53 = .ok (.iload 5, 2) := by decide +kernel
theorem dX11_strip_55 : decode cX11_strip 55 = .ok (.ifCond .lt 142, 3) := by decide +kernel
theorem dX11_strip_58 : decode cX11_strip 58 = .ok (.iload_n 1, 1) := by decide +kernel
theorem dX11_strip_59 : decode cX11_strip 59 = .ok (.iload_n 2, 1) := by decide +kernel
theorem dX11_strip_60 : decode cX11_strip 60 = .ok (.iload 7, 2) := by decide +kernel
theorem dX11_strip_62 : decode cX11_strip 62 = .ok (.aload_n 0, 1) := by decide +kernel
theorem dX11_strip_63 : decode cX11_strip 63 = .ok (.getfield 52, 3) := by decide +kernel
theorem dX11_strip_66 : decode cX11_strip 66 = .ok (.invokestatic 214, 3) := by decide +kernel
theorem dX11_strip_69 : decode cX11_strip 69 = .ok (.ifCond .eq 122, 3) := by decide +kernel
theorem dX11_strip_72 : decode cX11_strip 72 = .ok (.iload_n 1, 1) := by decide +kernel
theorem dX11_strip_73 : decode cX11_strip 73 = .ok (.aload_n 0, 1) := by decide +kernel
theorem dX11_strip_74 : decode cX11_strip 74 = .ok (.getfield 52, 3) := by decide +kernel
theorem dX11_strip_77 : decode cX11_strip 77 = .ok (.invokestatic 223, 3) := by decide +kernel
theorem dX11_strip_80 : decode cX11_strip 80 = .ok (.iload_n 1, 1) := by decide +kernel
theorem dX11_strip_81 : decode cX11_strip 81 = .ok (.aload_n 0, 1) := by decide +kernel
theorem dX11_strip_82 : decode cX11_strip 82 = .ok (.getfield 46, 3) := by decide +kernel
theorem dX11_strip_85 : decode cX11_strip 85 = .ok (.invokestatic 223, 3) := by decide +kernel
theorem dX11_strip_88 : decode cX11_strip 88 = .ok (.isub, 1) := by decide +kernel
theorem dX11_strip_89 : decode cX11_strip 89 = .ok (.iload 4, 2) := by decide +kernel
theorem dX11_strip_91 : decode cX11_strip 91 = .ok (.if_icmp .ne 100, 3) := by decide +kernel
theorem dX11_strip_94 : decode cX11_strip 94 = .ok (.iconst 1, 1) := by decide +kernel
theorem dX11_strip_95 : decode cX11_strip 95 = .ok (.istore 8, 2) := by decide +kernel
theorem dX11_strip_97 : decode cX11_strip 97 = .ok (.iconst 0, 1) := by decide +kernel
theorem dX11_strip_98 : decode cX11_strip 98 = .ok (.istore 9, 2) := by decide +kernel
theorem dX11_strip_100 : decode cX11_strip 100 = .ok (.iload 9, 2) := by decide +kernel
theorem dX11_strip_102 : decode cX11_strip 102 = .ok (.iload_n 1, 1) := by decide +kernel
theorem dX11_strip_103 : decode cX11_strip 103 = .ok (.if_icmp .ge 60, 3) := by decide +kernel
theorem dX11_strip_106 : decode cX11_strip 106 = .ok (.iload 8, 2) := by decide +kernel
theorem dX11_strip_108 : decode cX11_strip 108 = .ok (.aload_n 0, 1) := by decide +kernel
theorem dX11_strip_109 : decode cX11_strip 109 = .ok (.getfield 52, 3) := by decide +kernel
theorem dX11_strip_112 : decode cX11_strip 112 = .ok (.iload 9, 2) := by decide +kernel
theorem dX11_strip_114 : decode cX11_strip 114 = .ok (.iaload, 1) := by decide +kernel
theorem dX11_strip_115 : decode cX11_strip 115 = .ok (.aload_n 0, 1) := by decide +kernel
theorem dX11_strip_116 : decode cX11_strip 116 = .ok (.getfield 46, 3) := by decide +kernel
theorem dX11_strip_119 : decode cX11_strip 119 = .ok (.iload 9, 2) := by decide +kernel
theorem dX11_strip_121 : decode cX11_strip 121 = .ok (.iaload, 1) := by decide +kernel
theorem dX11_strip_122 : decode cX11_strip 122 = .ok (.if_icmp .lt 31, 3) := by decide +kernel
theorem dX11_strip_125 : decode cX11_strip 125 = .ok (.iload 9, 2) := by decide +kernel
theorem dX11_strip_127 : decode cX11_strip 127 = .ok (.ifCond .eq 22, 3) := by decide +kernel
theorem dX11_strip_130 : decode cX11_strip 130 = .ok (.aload_n 0, 1) := by decide +kernel
theorem dX11_strip_131 : decode cX11_strip 131 = .ok (.getfield 52, 3) := by decide +kernel
theorem dX11_strip_134 : decode cX11_strip 134 = .ok (.iload 9, 2) := by decide +kernel
theorem dX11_strip_136 : decode cX11_strip 136 = .ok (.iaload, 1) := by decide +kernel
theorem dX11_strip_137 : decode cX11_strip 137 = .ok (.aload_n 0, 1) := by decide +kernel
theorem dX11_strip_138 : decode cX11_strip 138 = .ok (.getfield 46, 3) := by decide +kernel
theorem dX11_strip_141 : decode cX11_strip 141 = .ok (.iload 9, 2) := by decide +kernel
theorem dX11_strip_143 : decode cX11_strip 143 = .ok (.iconst 1, 1) := by decide +kernel
theorem dX11_strip_144 : decode cX11_strip 144 = .ok (.isub, 1) := by decide +kernel
theorem dX11_strip_145 : decode cX11_strip 145 = .ok (.iaload, 1) := by decide +kernel
theorem dX11_strip_146 : decode cX11_strip 146 = .ok (.if_icmp .gt 7, 3) := by decide +kernel
theorem dX11_strip_149 : decode cX11_strip 149 = .ok (.iconst 1, 1) := by decide +kernel
theorem dX11_strip_150 : decode cX11_strip 150 = .ok (.goto 4, 3) := by decide +kernel
theorem dX11_strip_153 : decode cX11_strip 153 = .ok (.iconst 0, 1) := by decide +kernel
theorem dX11_strip_154 : decode cX11_strip 154 = .ok (.iand, 1) := by decide +kernel
theorem dX11_strip_155 : decode cX11_strip 155 = .ok (.istore 8, 2) := by decide +kernel
theorem dX11_strip_157 : decode cX11_strip 157 = .ok (.iinc 9 1, 3) := by decide +kernel
theorem dX11_strip_160 : decode cX11_strip 160 = .ok (.goto (-60), 3) := by decide +kernel
theorem dX11_strip_163 : decode cX11_strip 163 = .ok (.iload 8, 2) := by decide +kernel
theorem dX11_strip_165 : decode cX11_strip 165 = .ok (.ifCond .eq 11, 3) := by decide +kernel
theorem dX11_strip_168 : decode cX11_strip 168 = .ok (.iload 6, 2) := by decide +kernel
theorem dX11_strip_170 : decode cX11_strip 170 = .ok (.ifCond .ne 6, 3) := by decide +kernel
theorem dX11_strip_173 : decode cX11_strip 173 = .ok (.iload 7, 2) := by decide +kernel
theorem dX11_strip_175 : decode cX11_strip 175 = .ok (.ireturn, 1) := by decide +kernel
theorem dX11_strip_176 : decode cX11_strip 176 = .ok (.iload 6, 2) := by decide +kernel
theorem dX11_strip_178 : decode cX11_strip 178 = .ok (.iload 8, 2) := by decide +kernel
theorem dX11_strip_180 : decode cX11_strip 180 = .ok (.ifCond .eq 7, 3) := by decide +kernel
theorem dX11_strip_183 : decode cX11_strip 183 = .ok (.iconst 1, 1) := by decide +kernel
theorem dX11_strip_184 : decode cX11_strip 184 = .ok (.goto 4, 3) := by decide +kernel
theorem dX11_strip_187 : decode cX11_strip 187 = .ok (.iconst 0, 1) := by decide +kernel
theorem dX11_strip_188 : decode cX11_strip 188 = .ok (.isub, 1) := by decide +kernel
theorem dX11_strip_189 : decode cX11_strip 189 = .ok (.istore 6, 2) := by decide +kernel
theorem dX11_strip_191 : decode cX11_strip 191 = .ok (.iinc 7 1, 3) := by decide +kernel
theorem dX11_strip_194 : decode cX11_strip 194 = .ok (.goto (-150), 3) := by decide +kernel
theorem dX11_strip_197 : decode cX11_strip 197 = .ok (.iconst (-1), 1) := by decide +kernel
theorem dX11_strip_198 : decode cX11_strip 198 = .ok (.ireturn, 1) := by decide +kernel
theorem dX11_mayStand_0 : decode cX11_mayStand 0 = .ok (.aload_n 0, 1) := by decide +kernel
theorem dX11_mayStand_1 : decode cX11_mayStand 1 = .ok (.getfield 55, 3) := by decide +kernel
theorem dX11_mayStand_4 : decode cX11_mayStand 4 = .ok (.iload_n 2, 1) := by decide +kernel
theorem dX11_mayStand_5 : decode cX11_mayStand 5 = .ok (.iaload, 1) := by decide +kernel
theorem dX11_mayStand_6 : decode cX11_mayStand 6 = .ok (.istore 4, 2) := by decide +kernel
theorem dX11_mayStand_8 : decode cX11_mayStand 8 = .ok (.aload_n 0, 1) := by decide +kernel
theorem dX11_mayStand_9 : decode cX11_mayStand 9 = .ok (.getfield 58, 3) := by decide +kernel
theorem dX11_mayStand_12 : decode cX11_mayStand 12 = .ok (.iload_n 2, 1) := by decide +kernel
theorem dX11_mayStand_13 : decode cX11_mayStand 13 = .ok (.iaload, 1) := by decide +kernel
theorem dX11_mayStand_14 : decode cX11_mayStand 14 = .ok (.istore 5, 2) := by decide +kernel
theorem dX11_mayStand_16 : decode cX11_mayStand 16 = .ok (.aload_n 0, 1) := by decide +kernel
theorem dX11_mayStand_17 : decode cX11_mayStand 17 = .ok (.getfield 67, 3) := by decide +kernel
theorem dX11_mayStand_20 : decode cX11_mayStand 20 = .ok (.iload_n 3, 1) := by decide +kernel
theorem dX11_mayStand_21 : decode cX11_mayStand 21 = .ok (.iaload, 1) := by decide +kernel
theorem dX11_mayStand_22 : decode cX11_mayStand 22 = .ok (.aload_n 0, 1) := by decide +kernel
theorem dX11_mayStand_23 : decode cX11_mayStand 23 = .ok (.getfield 49, 3) := by decide +kernel
theorem dX11_mayStand_26 : decode cX11_mayStand 26 = .ok (.iload_n 3, 1) := by decide +kernel
theorem dX11_mayStand_27 : decode cX11_mayStand 27 = .ok (.iconst 1, 1) := by decide +kernel
theorem dX11_mayStand_28 : decode cX11_mayStand 28 = .ok (.isub, 1) := by decide +kernel
theorem dX11_mayStand_29 : decode cX11_mayStand 29 = .ok (.iaload, 1) := by decide +kernel
theorem dX11_mayStand_30 : decode cX11_mayStand 30 = .ok (.if_icmp .eq 25, 3) := by decide +kernel
theorem dX11_mayStand_33 : decode cX11_mayStand 33 = .ok (.iload_n 3, 1) := by decide +kernel
theorem dX11_mayStand_34 : decode cX11_mayStand 34 = .ok (.iconst 1, 1) := by decide +kernel
theorem dX11_mayStand_35 : decode cX11_mayStand 35 = .ok (.if_icmp .le 22, 3) := by decide +kernel
theorem dX11_mayStand_38 : decode cX11_mayStand 38 = .ok (.aload_n 0, 1) := by decide +kernel
theorem dX11_mayStand_39 : decode cX11_mayStand 39 = .ok (.getfield 67, 3) := by decide +kernel
theorem dX11_mayStand_42 : decode cX11_mayStand 42 = .ok (.iload_n 3, 1) := by decide +kernel
theorem dX11_mayStand_43 : decode cX11_mayStand 43 = .ok (.iaload, 1) := by decide +kernel
theorem dX11_mayStand_44 : decode cX11_mayStand 44 = .ok (.aload_n 0, 1) := by decide +kernel
theorem dX11_mayStand_45 : decode cX11_mayStand 45 = .ok (.getfield 67, 3) := by decide +kernel
theorem dX11_mayStand_48 : decode cX11_mayStand 48 = .ok (.iload_n 3, 1) := by decide +kernel
theorem dX11_mayStand_49 : decode cX11_mayStand 49 = .ok (.iconst 1, 1) := by decide +kernel
theorem dX11_mayStand_50 : decode cX11_mayStand 50 = .ok (.isub, 1) := by decide +kernel
theorem dX11_mayStand_51 : decode cX11_mayStand 51 = .ok (.iaload, 1) := by decide +kernel
theorem dX11_mayStand_52 : decode cX11_mayStand 52 = .ok (.if_icmp .ne 5, 3) := by decide +kernel
theorem dX11_mayStand_55 : decode cX11_mayStand 55 = .ok (.iconst 0, 1) := by decide +kernel
theorem dX11_mayStand_56 : decode cX11_mayStand 56 = .ok (.ireturn, 1) := by decide +kernel
theorem dX11_mayStand_57 : decode cX11_mayStand 57 = .ok (.iload 5, 2) := by decide +kernel
theorem dX11_mayStand_59 : decode cX11_mayStand 59 = .ok (.iconst 1, 1) := by decide +kernel
theorem dX11_mayStand_60 : decode cX11_mayStand 60 = .ok (.iadd, 1) := by decide +kernel
theorem dX11_mayStand_61 : decode cX11_mayStand 61 = .ok (.aload_n 0, 1) := by decide +kernel
theorem dX11_mayStand_62 : decode cX11_mayStand 62 = .ok (.getfield 52, 3) := by decide +kernel
theorem dX11_mayStand_65 : decode cX11_mayStand 65 = .ok (.iload 4, 2) := by decide +kernel
theorem dX11_mayStand_67 : decode cX11_mayStand 67 = .ok (.iaload, 1) := by decide +kernel
theorem dX11_mayStand_68 : decode cX11_mayStand 68 = .ok (.if_icmp .ge 23, 3) := by decide +kernel
theorem dX11_mayStand_71 : decode cX11_mayStand 71 = .ok (.aload_n 0, 1) := by decide +kernel
theorem dX11_mayStand_72 : decode cX11_mayStand 72 = .ok (.getfield 64, 3) := by decide +kernel
theorem dX11_mayStand_75 : decode cX11_mayStand 75 = .ok (.iconst 4, 1) := by decide +kernel
theorem dX11_mayStand_76 : decode cX11_mayStand 76 = .ok (.iload 4, 2) := by decide +kernel
theorem dX11_mayStand_78 : decode cX11_mayStand 78 = .ok (.imul, 1) := by decide +kernel
theorem dX11_mayStand_79 : decode cX11_mayStand 79 = .ok (.iload 5, 2) := by decide +kernel
theorem dX11_mayStand_81 : decode cX11_mayStand 81 = .ok (.iadd, 1) := by decide +kernel
theorem dX11_mayStand_82 : decode cX11_mayStand 82 = .ok (.iconst 1, 1) := by decide +kernel
theorem dX11_mayStand_83 : decode cX11_mayStand 83 = .ok (.iadd, 1) := by decide +kernel
theorem dX11_mayStand_84 : decode cX11_mayStand 84 = .ok (.iaload, 1) := by decide +kernel
theorem dX11_mayStand_85 : decode cX11_mayStand 85 = .ok (.iload_n 3, 1) := by decide +kernel
theorem dX11_mayStand_86 : decode cX11_mayStand 86 = .ok (.if_icmp .ge 5, 3) := by decide +kernel
theorem dX11_mayStand_89 : decode cX11_mayStand 89 = .ok (.iconst 0, 1) := by decide +kernel
theorem dX11_mayStand_90 : decode cX11_mayStand 90 = .ok (.ireturn, 1) := by decide +kernel
theorem dX11_mayStand_91 : decode cX11_mayStand 91 = .ok (.iload 4, 2) := by decide +kernel
theorem dX11_mayStand_93 : decode cX11_mayStand 93 = .ok (.ifCond .eq 35, 3) := by decide +kernel
theorem dX11_mayStand_96 : decode cX11_mayStand 96 = .ok (.iload 5, 2) := by decide +kernel
theorem dX11_mayStand_98 : decode cX11_mayStand 98 = .ok (.aload_n 0, 1) := by decide +kernel
theorem dX11_mayStand_99 : decode cX11_mayStand 99 = .ok (.getfield 46, 3) := by decide +kernel
theorem dX11_mayStand_102 : decode cX11_mayStand 102 = .ok (.iload 4, 2) := by decide +kernel
theorem dX11_mayStand_104 : decode cX11_mayStand 104 = .ok (.iconst 1, 1) := by decide +kernel
theorem dX11_mayStand_105 : decode cX11_mayStand 105 = .ok (.isub, 1) := by decide +kernel
theorem dX11_mayStand_106 : decode cX11_mayStand 106 = .ok (.iaload, 1) := by decide +kernel
theorem dX11_mayStand_107 : decode cX11_mayStand 107 = .ok (.if_icmp .lt 21, 3) := by decide +kernel
theorem dX11_mayStand_110 : decode cX11_mayStand 110 = .ok (.aload_n 0, 1) := by decide +kernel
theorem dX11_mayStand_111 : decode cX11_mayStand 111 = .ok (.getfield 64, 3) := by decide +kernel
theorem dX11_mayStand_114 : decode cX11_mayStand 114 = .ok (.iconst 4, 1) := by decide +kernel
theorem dX11_mayStand_115 : decode cX11_mayStand 115 = .ok (.iload 4, 2) := by decide +kernel
theorem dX11_mayStand_117 : decode cX11_mayStand 117 = .ok (.imul, 1) := by decide +kernel
theorem dX11_mayStand_118 : decode cX11_mayStand 118 = .ok (.iconst 4, 1) := by decide +kernel
theorem dX11_mayStand_119 : decode cX11_mayStand 119 = .ok (.isub, 1) := by decide +kernel
theorem dX11_mayStand_120 : decode cX11_mayStand 120 = .ok (.iload 5, 2) := by decide +kernel
theorem dX11_mayStand_122 : decode cX11_mayStand 122 = .ok (.iadd, 1) := by decide +kernel
theorem dX11_mayStand_123 : decode cX11_mayStand 123 = .ok (.iaload, 1) := by decide +kernel
theorem dX11_mayStand_124 : decode cX11_mayStand 124 = .ok (.iload_n 3, 1) := by decide +kernel
theorem dX11_mayStand_125 : decode cX11_mayStand 125 = .ok (.if_icmp .ge 7, 3) := by decide +kernel
theorem dX11_mayStand_128 : decode cX11_mayStand 128 = .ok (.iconst 1, 1) := by decide +kernel
theorem dX11_mayStand_129 : decode cX11_mayStand 129 = .ok (.goto 4, 3) := by decide +kernel
theorem dX11_mayStand_132 : decode cX11_mayStand 132 = .ok (.iconst 0, 1) := by decide +kernel
theorem dX11_mayStand_133 : decode cX11_mayStand 133 = .ok (.ireturn, 1) := by decide +kernel
theorem dX11_fills_0 : decode cX11_fills 0 = .ok (.iconst 0, 1) := by decide +kernel
theorem dX11_fills_1 : decode cX11_fills 1 = .ok (.istore_n 2, 1) := by decide +kernel
theorem dX11_fills_2 : decode cX11_fills 2 = .ok (.iconst 0, 1) := by decide +kernel
theorem dX11_fills_3 : decode cX11_fills 3 = .ok (.istore_n 3, 1) := by decide +kernel
theorem dX11_fills_4 : decode cX11_fills 4 = .ok (.iload_n 3, 1) := by decide +kernel
theorem dX11_fills_5 : decode cX11_fills 5 = .ok (.iload_n 1, 1) := by decide +kernel
theorem dX11_fills_6 : decode cX11_fills 6 = .ok (.if_icmp .ge 71, 3) := by decide +kernel
theorem dX11_fills_9 : decode cX11_fills 9 = .ok (.aload_n 0, 1) := by decide +kernel
theorem dX11_fills_10 : decode cX11_fills 10 = .ok (.getfield 46, 3) := by decide +kernel
theorem dX11_fills_13 : decode cX11_fills 13 = .ok (.iload_n 3, 1) := by decide +kernel
theorem dX11_fills_14 : decode cX11_fills 14 = .ok (.iaload, 1) := by decide +kernel
theorem dX11_fills_15 : decode cX11_fills 15 = .ok (.aload_n 0, 1) := by decide +kernel
theorem dX11_fills_16 : decode cX11_fills 16 = .ok (.getfield 52, 3) := by decide +kernel
theorem dX11_fills_19 : decode cX11_fills 19 = .ok (.iload_n 3, 1) := by decide +kernel
theorem dX11_fills_20 : decode cX11_fills 20 = .ok (.iaload, 1) := by decide +kernel
theorem dX11_fills_21 : decode cX11_fills 21 = .ok (.if_icmp .le 5, 3) := by decide +kernel
theorem dX11_fills_24 : decode cX11_fills 24 = .ok (.iconst 0, 1) := by decide +kernel
theorem dX11_fills_25 : decode cX11_fills 25 = .ok (.ireturn, 1) := by decide +kernel
theorem dX11_fills_26 : decode cX11_fills 26 = .ok (.aload_n 0, 1) := by decide +kernel
theorem dX11_fills_27 : decode cX11_fills 27 = .ok (.getfield 52, 3) := by decide +kernel
theorem dX11_fills_30 : decode cX11_fills 30 = .ok (.iload_n 3, 1) := by decide +kernel
theorem dX11_fills_31 : decode cX11_fills 31 = .ok (.iaload, 1) := by decide +kernel
theorem dX11_fills_32 : decode cX11_fills 32 = .ok (.iconst 1, 1) := by decide +kernel
theorem dX11_fills_33 : decode cX11_fills 33 = .ok (.isub, 1) := by decide +kernel
theorem dX11_fills_34 : decode cX11_fills 34 = .ok (.istore 4, 2) := by decide +kernel
theorem dX11_fills_36 : decode cX11_fills 36 = .ok (.iload 4, 2) := by decide +kernel
theorem dX11_fills_38 : decode cX11_fills 38 = .ok (.aload_n 0, 1) := by decide +kernel
theorem dX11_fills_39 : decode cX11_fills 39 = .ok (.getfield 46, 3) := by decide +kernel
theorem dX11_fills_42 : decode cX11_fills 42 = .ok (.iload_n 3, 1) := by decide +kernel
theorem dX11_fills_43 : decode cX11_fills 43 = .ok (.iaload, 1) := by decide +kernel
theorem dX11_fills_44 : decode cX11_fills 44 = .ok (.if_icmp .lt 27, 3) := by decide +kernel
theorem dX11_fills_47 : decode cX11_fills 47 = .ok (.aload_n 0, 1) := by decide +kernel
theorem dX11_fills_48 : decode cX11_fills 48 = .ok (.getfield 55, 3) := by decide +kernel
theorem dX11_fills_51 : decode cX11_fills 51 = .ok (.iload_n 2, 1) := by decide +kernel
theorem dX11_fills_52 : decode cX11_fills 52 = .ok (.iload_n 3, 1) := by decide +kernel
theorem dX11_fills_53 : decode cX11_fills 53 = .ok (.iastore, 1) := by decide +kernel
theorem dX11_fills_54 : decode cX11_fills 54 = .ok (.aload_n 0, 1) := by decide +kernel
theorem dX11_fills_55 : decode cX11_fills 55 = .ok (.getfield 58, 3) := by decide +kernel
theorem dX11_fills_58 : decode cX11_fills 58 = .ok (.iload_n 2, 1) := by decide +kernel
theorem dX11_fills_59 : decode cX11_fills 59 = .ok (.iload 4, 2) := by decide +kernel
theorem dX11_fills_61 : decode cX11_fills 61 = .ok (.iastore, 1) := by decide +kernel
theorem dX11_fills_62 : decode cX11_fills 62 = .ok (.iinc 2 1, 3) := by decide +kernel
theorem dX11_fills_65 : decode cX11_fills 65 = .ok (.iinc 4 (-1), 3) := by decide +kernel
theorem dX11_fills_68 : decode cX11_fills 68 = .ok (.goto (-32), 3) := by decide +kernel
theorem dX11_fills_71 : decode cX11_fills 71 = .ok (.iinc 3 1, 3) := by decide +kernel
theorem dX11_fills_74 : decode cX11_fills 74 = .ok (.goto (-70), 3) := by decide +kernel
theorem dX11_fills_77 : decode cX11_fills 77 = .ok (.iload_n 2, 1) := by decide +kernel
theorem dX11_fills_78 : decode cX11_fills 78 = .ok (.iload_n 1, 1) := by decide +kernel
theorem dX11_fills_79 : decode cX11_fills 79 = .ok (.aload_n 0, 1) := by decide +kernel
theorem dX11_fills_80 : decode cX11_fills 80 = .ok (.getfield 49, 3) := by decide +kernel
theorem dX11_fills_83 : decode cX11_fills 83 = .ok (.invokestatic 223, 3) := by decide +kernel
theorem dX11_fills_86 : decode cX11_fills 86 = .ok (.if_icmp .eq 5, 3) := by decide +kernel
theorem dX11_fills_89 : decode cX11_fills 89 = .ok (.iconst 0, 1) := by decide +kernel
theorem dX11_fills_90 : decode cX11_fills 90 = .ok (.ireturn, 1) := by decide +kernel
theorem dX11_fills_91 : decode cX11_fills 91 = .ok (.iconst 0, 1) := by decide +kernel
theorem dX11_fills_92 : decode cX11_fills 92 = .ok (.istore_n 3, 1) := by decide +kernel
theorem dX11_fills_93 : decode cX11_fills 93 = .ok (.iload_n 3, 1) := by decide +kernel
theorem dX11_fills_94 : decode cX11_fills 94 = .ok (.bipush 6, 2) := by decide +kernel
theorem dX11_fills_96 : decode cX11_fills 96 = .ok (.if_icmp .ge 16, 3) := by decide +kernel
theorem dX11_fills_99 : decode cX11_fills 99 = .ok (.aload_n 0, 1) := by decide +kernel
theorem dX11_fills_100 : decode cX11_fills 100 = .ok (.getfield 67, 3) := by decide +kernel
theorem dX11_fills_103 : decode cX11_fills 103 = .ok (.iload_n 3, 1) := by decide +kernel
theorem dX11_fills_104 : decode cX11_fills 104 = .ok (.iconst 0, 1) := by decide +kernel
theorem dX11_fills_105 : decode cX11_fills 105 = .ok (.iastore, 1) := by decide +kernel
theorem dX11_fills_106 : decode cX11_fills 106 = .ok (.iinc 3 1, 3) := by decide +kernel
theorem dX11_fills_109 : decode cX11_fills 109 = .ok (.goto (-16), 3) := by decide +kernel
theorem dX11_fills_112 : decode cX11_fills 112 = .ok (.iload_n 2, 1) := by decide +kernel
theorem dX11_fills_113 : decode cX11_fills 113 = .ok (.ifCond .ne 5, 3) := by decide +kernel
theorem dX11_fills_116 : decode cX11_fills 116 = .ok (.iconst 1, 1) := by decide +kernel
theorem dX11_fills_117 : decode cX11_fills 117 = .ok (.ireturn, 1) := by decide +kernel
theorem dX11_fills_118 : decode cX11_fills 118 = .ok (.iconst 0, 1) := by decide +kernel
theorem dX11_fills_119 : decode cX11_fills 119 = .ok (.istore_n 3, 1) := by decide +kernel
theorem dX11_fills_120 : decode cX11_fills 120 = .ok (.iconst 0, 1) := by decide +kernel
theorem dX11_fills_121 : decode cX11_fills 121 = .ok (.istore 4, 2) := by decide +kernel
theorem dX11_fills_123 : decode cX11_fills 123 = .ok (.aload_n 0, 1) := by decide +kernel
theorem dX11_fills_124 : decode cX11_fills 124 = .ok (.getfield 61, 3) := by decide +kernel
theorem dX11_fills_127 : decode cX11_fills 127 = .ok (.iconst 0, 1) := by decide +kernel
theorem dX11_fills_128 : decode cX11_fills 128 = .ok (.iconst 0, 1) := by decide +kernel
theorem dX11_fills_129 : decode cX11_fills 129 = .ok (.iastore, 1) := by decide +kernel
theorem dX11_fills_130 : decode cX11_fills 130 = .ok (.iload 4, 2) := by decide +kernel
theorem dX11_fills_132 : decode cX11_fills 132 = .ok (.ifCond .lt 148, 3) := by decide +kernel
theorem dX11_fills_135 : decode cX11_fills 135 = .ok (.aload_n 0, 1) := by decide +kernel
theorem dX11_fills_136 : decode cX11_fills 136 = .ok (.getfield 61, 3) := by decide +kernel
theorem dX11_fills_139 : decode cX11_fills 139 = .ok (.iload 4, 2) := by decide +kernel
theorem dX11_fills_141 : decode cX11_fills 141 = .ok (.iaload, 1) := by decide +kernel
theorem dX11_fills_142 : decode cX11_fills 142 = .ok (.ifCond .le 19, 3) := by decide +kernel
theorem dX11_fills_145 : decode cX11_fills 145 = .ok (.aload_n 0, 1) := by decide +kernel
theorem dX11_fills_146 : decode cX11_fills 146 = .ok (.getfield 67, 3) := by decide +kernel
theorem dX11_fills_149 : decode cX11_fills 149 = .ok (.aload_n 0, 1) := by decide +kernel
theorem dX11_fills_150 : decode cX11_fills 150 = .ok (.getfield 61, 3) := by decide +kernel
theorem dX11_fills_153 : decode cX11_fills 153 = .ok (.iload 4, 2) := by decide +kernel
theorem dX11_fills_155 : decode cX11_fills 155 = .ok (.iaload, 1) := by decide +kernel
theorem dX11_fills_156 : decode cX11_fills 156 = .ok (.dup2, 1) := by decide +kernel
theorem dX11_fills_157 : decode cX11_fills 157 = .ok (.iaload, 1) := by decide +kernel
theorem dX11_fills_158 : decode cX11_fills 158 = .ok (.iconst 1, 1) := by decide +kernel
theorem dX11_fills_159 : decode cX11_fills 159 = .ok (.isub, 1) := by decide +kernel
theorem dX11_fills_160 : decode cX11_fills 160 = .ok (.iastore, 1) := by decide +kernel
theorem dX11_fills_161 : decode cX11_fills 161 = .ok (.aload_n 0, 1) := by decide +kernel
theorem dX11_fills_162 : decode cX11_fills 162 = .ok (.getfield 61, 3) := by decide +kernel
theorem dX11_fills_165 : decode cX11_fills 165 = .ok (.iload 4, 2) := by decide +kernel
theorem dX11_fills_167 : decode cX11_fills 167 = .ok (.iaload, 1) := by decide +kernel
theorem dX11_fills_168 : decode cX11_fills 168 = .ok (.iconst 1, 1) := by decide +kernel
theorem dX11_fills_169 : decode cX11_fills 169 = .ok (.iadd, 1) := by decide +kernel
theorem dX11_fills_170 : decode cX11_fills 170 = .ok (.istore 5, 2) := by decide +kernel
theorem dX11_fills_172 : decode cX11_fills 172 = .ok (.iload 5, 2) := by decide +kernel
theorem dX11_fills_174 : decode cX11_fills 174 = .ok (.iload_n 1, 1) := by decide +kernel
theorem dX11_fills_175 : decode cX11_fills 175 = .ok (.if_icmp .gt 21, 3) := by decide +kernel
theorem dX11_fills_178 : decode cX11_fills 178 = .ok (.aload_n 0, 1) := by decide +kernel
theorem dX11_fills_179 : decode cX11_fills 179 = .ok (.iload_n 1, 1) := by decide +kernel
theorem dX11_fills_180 : decode cX11_fills 180 = .ok (.iload 4, 2) := by decide +kernel
theorem dX11_fills_182 : decode cX11_fills 182 = .ok (.iload 5, 2) := by decide +kernel
theorem dX11_fills_184 : decode cX11_fills 184 = .ok (.invokevirtual 227, 3) := by decide +kernel
theorem dX11_fills_187 : decode cX11_fills 187 = .ok (.ifCond .ne 9, 3) := by decide +kernel
theorem dX11_fills_190 : decode cX11_fills 190 = .ok (.iinc 5 1, 3) := by decide +kernel
theorem dX11_fills_193 : decode cX11_fills 193 = .ok (.goto (-21), 3) := by decide +kernel
theorem dX11_fills_196 : decode cX11_fills 196 = .ok (.iload 5, 2) := by decide +kernel
theorem dX11_fills_198 : decode cX11_fills 198 = .ok (.iload_n 1, 1) := by decide +kernel
theorem dX11_fills_199 : decode cX11_fills 199 = .ok (.if_icmp .le 9, 3) := by decide +kernel
theorem dX11_fills_202 : decode cX11_fills 202 = .ok (.iinc 4 (-1), 3) := by decide +kernel
theorem dX11_fills_205 : decode cX11_fills 205 = .ok (.goto 72, 3) := by decide +kernel
theorem dX11_fills_208 : decode cX11_fills 208 = .ok (.aload_n 0, 1) := by decide +kernel
theorem dX11_fills_209 : decode cX11_fills 209 = .ok (.getfield 61, 3) := by decide +kernel
theorem dX11_fills_212 : decode cX11_fills 212 = .ok (.iload 4, 2) := by decide +kernel
theorem dX11_fills_214 : decode cX11_fills 214 = .ok (.iload 5, 2) := by decide +kernel
theorem dX11_fills_216 : decode cX11_fills 216 = .ok (.iastore, 1) := by decide +kernel
theorem dX11_fills_217 : decode cX11_fills 217 = .ok (.aload_n 0, 1) := by decide +kernel
theorem dX11_fills_218 : decode cX11_fills 218 = .ok (.getfield 64, 3) := by decide +kernel
theorem dX11_fills_221 : decode cX11_fills 221 = .ok (.iconst 4, 1) := by decide +kernel
theorem dX11_fills_222 : decode cX11_fills 222 = .ok (.aload_n 0, 1) := by decide +kernel
theorem dX11_fills_223 : decode cX11_fills 223 = .ok (.getfield 55, 3) := by decide +kernel
theorem dX11_fills_226 : decode cX11_fills 226 = .ok (.iload 4, 2) := by decide +kernel
theorem dX11_fills_228 : decode cX11_fills 228 = .ok (.iaload, 1) := by decide +kernel
theorem dX11_fills_229 : decode cX11_fills 229 = .ok (.imul, 1) := by decide +kernel
theorem dX11_fills_230 : decode cX11_fills 230 = .ok (.aload_n 0, 1) := by decide +kernel
theorem dX11_fills_231 : decode cX11_fills 231 = .ok (.getfield 58, 3) := by decide +kernel
theorem dX11_fills_234 : decode cX11_fills 234 = .ok (.iload 4, 2) := by decide +kernel
theorem dX11_fills_236 : decode cX11_fills 236 = .ok (.iaload, 1) := by decide +kernel
theorem dX11_fills_237 : decode cX11_fills 237 = .ok (.iadd, 1) := by decide +kernel
theorem dX11_fills_238 : decode cX11_fills 238 = .ok (.iload 5, 2) := by decide +kernel
theorem dX11_fills_240 : decode cX11_fills 240 = .ok (.iastore, 1) := by decide +kernel
theorem dX11_fills_241 : decode cX11_fills 241 = .ok (.aload_n 0, 1) := by decide +kernel
theorem dX11_fills_242 : decode cX11_fills 242 = .ok (.getfield 67, 3) := by decide +kernel
theorem dX11_fills_245 : decode cX11_fills 245 = .ok (.iload 5, 2) := by decide +kernel
theorem dX11_fills_247 : decode cX11_fills 247 = .ok (.dup2, 1) := by decide +kernel
theorem dX11_fills_248 : decode cX11_fills 248 = .ok (.iaload, 1) := by decide +kernel
theorem dX11_fills_249 : decode cX11_fills 249 = .ok (.iconst 1, 1) := by decide +kernel
theorem dX11_fills_250 : decode cX11_fills 250 = .ok (.iadd, 1) := by decide +kernel
theorem dX11_fills_251 : decode cX11_fills 251 = .ok (.iastore, 1) := by decide +kernel
theorem dX11_fills_252 : decode cX11_fills 252 = .ok (.iload 4, 2) := by decide +kernel
theorem dX11_fills_254 : decode cX11_fills 254 = .ok (.iconst 1, 1) := by decide +kernel
theorem dX11_fills_255 : decode cX11_fills 255 = .ok (.iadd, 1) := by decide +kernel
theorem dX11_fills_256 : decode cX11_fills 256 = .ok (.iload_n 2, 1) := by decide +kernel
theorem dX11_fills_257 : decode cX11_fills 257 = .ok (.if_icmp .ne 9, 3) := by decide +kernel
theorem dX11_fills_260 : decode cX11_fills 260 = .ok (.iinc 3 1, 3) := by decide +kernel
theorem dX11_fills_263 : decode cX11_fills 263 = .ok (.goto 14, 3) := by decide +kernel
theorem dX11_fills_266 : decode cX11_fills 266 = .ok (.iinc 4 1, 3) := by decide +kernel
theorem dX11_fills_269 : decode cX11_fills 269 = .ok (.aload_n 0, 1) := by decide +kernel
theorem dX11_fills_270 : decode cX11_fills 270 = .ok (.getfield 61, 3) := by decide +kernel
theorem dX11_fills_273 : decode cX11_fills 273 = .ok (.iload 4, 2) := by decide +kernel
theorem dX11_fills_275 : decode cX11_fills 275 = .ok (.iconst 0, 1) := by decide +kernel
theorem dX11_fills_276 : decode cX11_fills 276 = .ok (.iastore, 1) := by decide +kernel
theorem dX11_fills_277 : decode cX11_fills 277 = .ok (.goto (-147), 3) := by decide +kernel
theorem dX11_fills_280 : decode cX11_fills 280 = .ok (.iload_n 3, 1) := by decide +kernel
theorem dX11_fills_281 : decode cX11_fills 281 = .ok (.ireturn, 1) := by decide +kernel
theorem dX11_fillings_0 : decode cX11_fillings 0 = .ok (.iload_n 1, 1) := by decide +kernel
theorem dX11_fillings_1 : decode cX11_fillings 1 = .ok (.iload_n 2, 1) := by decide +kernel
theorem dX11_fillings_2 : decode cX11_fillings 2 = .ok (.invokestatic 210, 3) := by decide +kernel
theorem dX11_fillings_5 : decode cX11_fillings 5 = .ok (.ifCond .eq 48, 3) := by decide +kernel
theorem dX11_fillings_8 : decode cX11_fillings 8 = .ok (.iload_n 1, 1) := by decide +kernel
theorem dX11_fillings_9 : decode cX11_fillings 9 = .ok (.iload_n 2, 1) := by decide +kernel
theorem dX11_fillings_10 : decode cX11_fillings 10 = .ok (.iload_n 3, 1) := by decide +kernel
theorem dX11_fillings_11 : decode cX11_fillings 11 = .ok (.aload_n 0, 1) := by decide +kernel
theorem dX11_fillings_12 : decode cX11_fillings 12 = .ok (.getfield 46, 3) := by decide +kernel
theorem dX11_fillings_15 : decode cX11_fillings 15 = .ok (.invokestatic 214, 3) := by decide +kernel
theorem dX11_fillings_18 : decode cX11_fillings 18 = .ok (.ifCond .eq 35, 3) := by decide +kernel
theorem dX11_fillings_21 : decode cX11_fillings 21 = .ok (.iload_n 1, 1) := by decide +kernel
theorem dX11_fillings_22 : decode cX11_fillings 22 = .ok (.iload_n 2, 1) := by decide +kernel
theorem dX11_fillings_23 : decode cX11_fillings 23 = .ok (.iload 4, 2) := by decide +kernel
theorem dX11_fillings_25 : decode cX11_fillings 25 = .ok (.aload_n 0, 1) := by decide +kernel
theorem dX11_fillings_26 : decode cX11_fillings 26 = .ok (.getfield 49, 3) := by decide +kernel
theorem dX11_fillings_29 : decode cX11_fillings 29 = .ok (.invokestatic 214, 3) := by decide +kernel
theorem dX11_fillings_32 : decode cX11_fillings 32 = .ok (.ifCond .eq 21, 3) := by decide +kernel
theorem dX11_fillings_35 : decode cX11_fillings 35 = .ok (.iload_n 1, 1) := by decide +kernel
theorem dX11_fillings_36 : decode cX11_fillings 36 = .ok (.iload_n 2, 1) := by decide +kernel
theorem dX11_fillings_37 : decode cX11_fillings 37 = .ok (.iload 5, 2) := by decide +kernel
theorem dX11_fillings_39 : decode cX11_fillings 39 = .ok (.aload_n 0, 1) := by decide +kernel
theorem dX11_fillings_40 : decode cX11_fillings 40 = .ok (.getfield 52, 3) := by decide +kernel
theorem dX11_fillings_43 : decode cX11_fillings 43 = .ok (.invokestatic 214, 3) := by decide +kernel
theorem dX11_fillings_46 : decode cX11_fillings 46 = .ok (.ifCond .eq 7, 3) := by decide +kernel
theorem dX11_fillings_49 : decode cX11_fillings 49 = .ok (.iconst 1, 1) := by decide +kernel
theorem dX11_fillings_50 : decode cX11_fillings 50 = .ok (.goto 4, 3) := by decide +kernel
theorem dX11_fillings_53 : decode cX11_fillings 53 = .ok (.iconst 0, 1) := by decide +kernel
theorem dX11_fillings_54 : decode cX11_fillings 54 = .ok (.istore 6, 2) := by decide +kernel
theorem dX11_fillings_56 : decode cX11_fillings 56 = .ok (.iload 6, 2) := by decide +kernel
theorem dX11_fillings_58 : decode cX11_fillings 58 = .ok (.ifCond .eq 11, 3) := by decide +kernel
theorem dX11_fillings_61 : decode cX11_fillings 61 = .ok (.aload_n 0, 1) := by decide +kernel
theorem dX11_fillings_62 : decode cX11_fillings 62 = .ok (.iload_n 1, 1) := by decide +kernel
theorem dX11_fillings_63 : decode cX11_fillings 63 = .ok (.invokevirtual 231, 3) := by decide +kernel
theorem dX11_fillings_66 : decode cX11_fillings 66 = .ok (.goto 5, 3) := by decide +kernel
theorem dX11_fillings_69 : decode cX11_fillings 69 = .ok (.bipush (-2), 2) := by decide +kernel
theorem dX11_fillings_71 : decode cX11_fillings 71 = .ok (.ireturn, 1) := by decide +kernel
theorem dX11_orderOf_0 : decode cX11_orderOf 0 = .ok (.iload_n 1, 1) := by decide +kernel
theorem dX11_orderOf_1 : decode cX11_orderOf 1 = .ok (.iload_n 2, 1) := by decide +kernel
theorem dX11_orderOf_2 : decode cX11_orderOf 2 = .ok (.invokestatic 210, 3) := by decide +kernel
theorem dX11_orderOf_5 : decode cX11_orderOf 5 = .ok (.ifCond .eq 23, 3) := by decide +kernel
theorem dX11_orderOf_8 : decode cX11_orderOf 8 = .ok (.iload_n 1, 1) := by decide +kernel
theorem dX11_orderOf_9 : decode cX11_orderOf 9 = .ok (.iload_n 2, 1) := by decide +kernel
theorem dX11_orderOf_10 : decode cX11_orderOf 10 = .ok (.iadd, 1) := by decide +kernel
theorem dX11_orderOf_11 : decode cX11_orderOf 11 = .ok (.iconst 5, 1) := by decide +kernel
theorem dX11_orderOf_12 : decode cX11_orderOf 12 = .ok (.if_icmp .gt 16, 3) := by decide +kernel
theorem dX11_orderOf_15 : decode cX11_orderOf 15 = .ok (.iload_n 1, 1) := by decide +kernel
theorem dX11_orderOf_16 : decode cX11_orderOf 16 = .ok (.iload_n 2, 1) := by decide +kernel
theorem dX11_orderOf_17 : decode cX11_orderOf 17 = .ok (.iload_n 3, 1) := by decide +kernel
theorem dX11_orderOf_18 : decode cX11_orderOf 18 = .ok (.aload_n 0, 1) := by decide +kernel
theorem dX11_orderOf_19 : decode cX11_orderOf 19 = .ok (.getfield 46, 3) := by decide +kernel
theorem dX11_orderOf_22 : decode cX11_orderOf 22 = .ok (.invokestatic 214, 3) := by decide +kernel
theorem dX11_orderOf_25 : decode cX11_orderOf 25 = .ok (.ifCond .ne 6, 3) := by decide +kernel
theorem dX11_orderOf_28 : decode cX11_orderOf 28 = .ok (.bipush (-2), 2) := by decide +kernel
theorem dX11_orderOf_30 : decode cX11_orderOf 30 = .ok (.ireturn, 1) := by decide +kernel
theorem dX11_orderOf_31 : decode cX11_orderOf 31 = .ok (.iconst 0, 1) := by decide +kernel
theorem dX11_orderOf_32 : decode cX11_orderOf 32 = .ok (.istore 4, 2) := by decide +kernel
theorem dX11_orderOf_34 : decode cX11_orderOf 34 = .ok (.iconst 0, 1) := by decide +kernel
theorem dX11_orderOf_35 : decode cX11_orderOf 35 = .ok (.istore 5, 2) := by decide +kernel
theorem dX11_orderOf_37 : decode cX11_orderOf 37 = .ok (.iconst 1, 1) := by decide +kernel
theorem dX11_orderOf_38 : decode cX11_orderOf 38 = .ok (.istore 6, 2) := by decide +kernel
theorem dX11_orderOf_40 : decode cX11_orderOf 40 = .ok (.iload 6, 2) := by decide +kernel
theorem dX11_orderOf_42 : decode cX11_orderOf 42 = .ok (.iload_n 1, 1) := by decide +kernel
theorem dX11_orderOf_43 : decode cX11_orderOf 43 = .ok (.if_icmp .gt 42, 3) := by decide +kernel
theorem dX11_orderOf_46 : decode cX11_orderOf 46 = .ok (.iload 6, 2) := by decide +kernel
theorem dX11_orderOf_48 : decode cX11_orderOf 48 = .ok (.aload_n 0, 1) := by decide +kernel
theorem dX11_orderOf_49 : decode cX11_orderOf 49 = .ok (.getfield 46, 3) := by decide +kernel
theorem dX11_orderOf_52 : decode cX11_orderOf 52 = .ok (.iload_n 1, 1) := by decide +kernel
theorem dX11_orderOf_53 : decode cX11_orderOf 53 = .ok (.iload 6, 2) := by decide +kernel
theorem dX11_orderOf_55 : decode cX11_orderOf 55 = .ok (.isub, 1) := by decide +kernel
theorem dX11_orderOf_56 : decode cX11_orderOf 56 = .ok (.iaload, 1) := by decide +kernel
theorem dX11_orderOf_57 : decode cX11_orderOf 57 = .ok (.iadd, 1) := by decide +kernel
theorem dX11_orderOf_58 : decode cX11_orderOf 58 = .ok (.istore 7, 2) := by decide +kernel
theorem dX11_orderOf_60 : decode cX11_orderOf 60 = .ok (.bipush 10, 2) := by decide +kernel
theorem dX11_orderOf_62 : decode cX11_orderOf 62 = .ok (.iload 4, 2) := by decide +kernel
theorem dX11_orderOf_64 : decode cX11_orderOf 64 = .ok (.imul, 1) := by decide +kernel
theorem dX11_orderOf_65 : decode cX11_orderOf 65 = .ok (.iload 7, 2) := by decide +kernel
theorem dX11_orderOf_67 : decode cX11_orderOf 67 = .ok (.iadd, 1) := by decide +kernel
theorem dX11_orderOf_68 : decode cX11_orderOf 68 = .ok (.istore 4, 2) := by decide +kernel
theorem dX11_orderOf_70 : decode cX11_orderOf 70 = .ok (.iload 5, 2) := by decide +kernel
theorem dX11_orderOf_72 : decode cX11_orderOf 72 = .ok (.iconst 1, 1) := by decide +kernel
theorem dX11_orderOf_73 : decode cX11_orderOf 73 = .ok (.iload 7, 2) := by decide +kernel
theorem dX11_orderOf_75 : decode cX11_orderOf 75 = .ok (.ishl, 1) := by decide +kernel
theorem dX11_orderOf_76 : decode cX11_orderOf 76 = .ok (.ior, 1) := by decide +kernel
theorem dX11_orderOf_77 : decode cX11_orderOf 77 = .ok (.istore 5, 2) := by decide +kernel
theorem dX11_orderOf_79 : decode cX11_orderOf 79 = .ok (.iinc 6 1, 3) := by decide +kernel
theorem dX11_orderOf_82 : decode cX11_orderOf 82 = .ok (.goto (-42), 3) := by decide +kernel
theorem dX11_orderOf_85 : decode cX11_orderOf 85 = .ok (.iconst 1, 1) := by decide +kernel
theorem dX11_orderOf_86 : decode cX11_orderOf 86 = .ok (.istore 6, 2) := by decide +kernel
theorem dX11_orderOf_88 : decode cX11_orderOf 88 = .ok (.iload 6, 2) := by decide +kernel
theorem dX11_orderOf_90 : decode cX11_orderOf 90 = .ok (.iload_n 1, 1) := by decide +kernel
theorem dX11_orderOf_91 : decode cX11_orderOf 91 = .ok (.iload_n 2, 1) := by decide +kernel
theorem dX11_orderOf_92 : decode cX11_orderOf 92 = .ok (.iadd, 1) := by decide +kernel
theorem dX11_orderOf_93 : decode cX11_orderOf 93 = .ok (.if_icmp .gt 34, 3) := by decide +kernel
theorem dX11_orderOf_96 : decode cX11_orderOf 96 = .ok (.iload 5, 2) := by decide +kernel
theorem dX11_orderOf_98 : decode cX11_orderOf 98 = .ok (.iload 6, 2) := by decide +kernel
theorem dX11_orderOf_100 : decode cX11_orderOf 100 = .ok (.ishr, 1) := by decide +kernel
theorem dX11_orderOf_101 : decode cX11_orderOf 101 = .ok (.iconst 1, 1) := by decide +kernel
theorem dX11_orderOf_102 : decode cX11_orderOf 102 = .ok (.iand, 1) := by decide +kernel
theorem dX11_orderOf_103 : decode cX11_orderOf 103 = .ok (.ifCond .ne 14, 3) := by decide +kernel
theorem dX11_orderOf_106 : decode cX11_orderOf 106 = .ok (.bipush 10, 2) := by decide +kernel
theorem dX11_orderOf_108 : decode cX11_orderOf 108 = .ok (.iload 4, 2) := by decide +kernel
theorem dX11_orderOf_110 : decode cX11_orderOf 110 = .ok (.imul, 1) := by decide +kernel
theorem dX11_orderOf_111 : decode cX11_orderOf 111 = .ok (.iload 6, 2) := by decide +kernel
theorem dX11_orderOf_113 : decode cX11_orderOf 113 = .ok (.iadd, 1) := by decide +kernel
theorem dX11_orderOf_114 : decode cX11_orderOf 114 = .ok (.goto 5, 3) := by decide +kernel
theorem dX11_orderOf_117 : decode cX11_orderOf 117 = .ok (.iload 4, 2) := by decide +kernel
theorem dX11_orderOf_119 : decode cX11_orderOf 119 = .ok (.istore 4, 2) := by decide +kernel
theorem dX11_orderOf_121 : decode cX11_orderOf 121 = .ok (.iinc 6 1, 3) := by decide +kernel
theorem dX11_orderOf_124 : decode cX11_orderOf 124 = .ok (.goto (-36), 3) := by decide +kernel
theorem dX11_orderOf_127 : decode cX11_orderOf 127 = .ok (.iload 4, 2) := by decide +kernel
theorem dX11_orderOf_129 : decode cX11_orderOf 129 = .ok (.ireturn, 1) := by decide +kernel
theorem dX11_begin_0 : decode cX11_begin 0 = .ok (.iload_n 1, 1) := by decide +kernel
theorem dX11_begin_1 : decode cX11_begin 1 = .ok (.iload_n 2, 1) := by decide +kernel
theorem dX11_begin_2 : decode cX11_begin 2 = .ok (.invokestatic 210, 3) := by decide +kernel
theorem dX11_begin_5 : decode cX11_begin 5 = .ok (.ifCond .ne 6, 3) := by decide +kernel
theorem dX11_begin_8 : decode cX11_begin 8 = .ok (.bipush (-2), 2) := by decide +kernel
theorem dX11_begin_10 : decode cX11_begin 10 = .ok (.ireturn, 1) := by decide +kernel
theorem dX11_begin_11 : decode cX11_begin 11 = .ok (.aload_n 0, 1) := by decide +kernel
theorem dX11_begin_12 : decode cX11_begin 12 = .ok (.getfield 234, 3) := by decide +kernel
theorem dX11_begin_15 : decode cX11_begin 15 = .ok (.istore_n 3, 1) := by decide +kernel
theorem dX11_begin_16 : decode cX11_begin 16 = .ok (.aload_n 0, 1) := by decide +kernel
theorem dX11_begin_17 : decode cX11_begin 17 = .ok (.iload_n 1, 1) := by decide +kernel
theorem dX11_begin_18 : decode cX11_begin 18 = .ok (.putfield 109, 3) := by decide +kernel
theorem dX11_begin_21 : decode cX11_begin 21 = .ok (.aload_n 0, 1) := by decide +kernel
theorem dX11_begin_22 : decode cX11_begin 22 = .ok (.iload_n 2, 1) := by decide +kernel
theorem dX11_begin_23 : decode cX11_begin 23 = .ok (.putfield 113, 3) := by decide +kernel
theorem dX11_begin_26 : decode cX11_begin 26 = .ok (.aload_n 0, 1) := by decide +kernel
theorem dX11_begin_27 : decode cX11_begin 27 = .ok (.iconst 0, 1) := by decide +kernel
theorem dX11_begin_28 : decode cX11_begin 28 = .ok (.putfield 234, 3) := by decide +kernel
theorem dX11_begin_31 : decode cX11_begin 31 = .ok (.iload_n 3, 1) := by decide +kernel
theorem dX11_begin_32 : decode cX11_begin 32 = .ok (.ireturn, 1) := by decide +kernel
theorem dX11_condition_0 : decode cX11_condition 0 = .ok (.aload_n 0, 1) := by decide +kernel
theorem dX11_condition_1 : decode cX11_condition 1 = .ok (.getfield 109, 3) := by decide +kernel
theorem dX11_condition_4 : decode cX11_condition 4 = .ok (.aload_n 0, 1) := by decide +kernel
theorem dX11_condition_5 : decode cX11_condition 5 = .ok (.getfield 113, 3) := by decide +kernel
theorem dX11_condition_8 : decode cX11_condition 8 = .ok (.iload_n 1, 1) := by decide +kernel
theorem dX11_condition_9 : decode cX11_condition 9 = .ok (.aload_n 0, 1) := by decide +kernel
theorem dX11_condition_10 : decode cX11_condition 10 = .ok (.getfield 46, 3) := by decide +kernel
theorem dX11_condition_13 : decode cX11_condition 13 = .ok (.invokestatic 214, 3) := by decide +kernel
theorem dX11_condition_16 : decode cX11_condition 16 = .ok (.ifCond .ne 6, 3) := by decide +kernel
theorem dX11_condition_19 : decode cX11_condition 19 = .ok (.bipush (-2), 2) := by decide +kernel
theorem dX11_condition_21 : decode cX11_condition 21 = .ok (.ireturn, 1) := by decide +kernel
theorem dX11_condition_22 : decode cX11_condition 22 = .ok (.aload_n 0, 1) := by decide +kernel
theorem dX11_condition_23 : decode cX11_condition 23 = .ok (.getfield 234, 3) := by decide +kernel
theorem dX11_condition_26 : decode cX11_condition 26 = .ok (.bipush 16, 2) := by decide +kernel
theorem dX11_condition_28 : decode cX11_condition 28 = .ok (.if_icmp .ne 6, 3) := by decide +kernel
theorem dX11_condition_31 : decode cX11_condition 31 = .ok (.bipush (-7), 2) := by decide +kernel
theorem dX11_condition_33 : decode cX11_condition 33 = .ok (.ireturn, 1) := by decide +kernel
theorem dX11_condition_34 : decode cX11_condition 34 = .ok (.aload_n 0, 1) := by decide +kernel
theorem dX11_condition_35 : decode cX11_condition 35 = .ok (.getfield 70, 3) := by decide +kernel
theorem dX11_condition_38 : decode cX11_condition 38 = .ok (.aload_n 0, 1) := by decide +kernel
theorem dX11_condition_39 : decode cX11_condition 39 = .ok (.getfield 234, 3) := by decide +kernel
theorem dX11_condition_42 : decode cX11_condition 42 = .ok (.iload_n 1, 1) := by decide +kernel
theorem dX11_condition_43 : decode cX11_condition 43 = .ok (.iastore, 1) := by decide +kernel
theorem dX11_condition_44 : decode cX11_condition 44 = .ok (.aload_n 0, 1) := by decide +kernel
theorem dX11_condition_45 : decode cX11_condition 45 = .ok (.dup, 1) := by decide +kernel
theorem dX11_condition_46 : decode cX11_condition 46 = .ok (.getfield 234, 3) := by decide +kernel
theorem dX11_condition_49 : decode cX11_condition 49 = .ok (.iconst 1, 1) := by decide +kernel
theorem dX11_condition_50 : decode cX11_condition 50 = .ok (.iadd, 1) := by decide +kernel
theorem dX11_condition_51 : decode cX11_condition 51 = .ok (.putfield 234, 3) := by decide +kernel
theorem dX11_condition_54 : decode cX11_condition 54 = .ok (.aload_n 0, 1) := by decide +kernel
theorem dX11_condition_55 : decode cX11_condition 55 = .ok (.getfield 234, 3) := by decide +kernel
theorem dX11_condition_58 : decode cX11_condition 58 = .ok (.ireturn, 1) := by decide +kernel
theorem dX11_meeting_0 : decode cX11_meeting 0 = .ok (.aload_n 0, 1) := by decide +kernel
theorem dX11_meeting_1 : decode cX11_meeting 1 = .ok (.getfield 109, 3) := by decide +kernel
theorem dX11_meeting_4 : decode cX11_meeting 4 = .ok (.istore_n 1, 1) := by decide +kernel
theorem dX11_meeting_5 : decode cX11_meeting 5 = .ok (.iconst 0, 1) := by decide +kernel
theorem dX11_meeting_6 : decode cX11_meeting 6 = .ok (.istore_n 2, 1) := by decide +kernel
theorem dX11_meeting_7 : decode cX11_meeting 7 = .ok (.iconst 0, 1) := by decide +kernel
theorem dX11_meeting_8 : decode cX11_meeting 8 = .ok (.istore_n 3, 1) := by decide +kernel
theorem dX11_meeting_9 : decode cX11_meeting 9 = .ok (.iload_n 3, 1) := by decide +kernel
theorem dX11_meeting_10 : decode cX11_meeting 10 = .ok (.iload_n 1, 1) := by decide +kernel
theorem dX11_meeting_11 : decode cX11_meeting 11 = .ok (.invokestatic 220, 3) := by decide +kernel
theorem dX11_meeting_14 : decode cX11_meeting 14 = .ok (.if_icmp .ge 50, 3) := by decide +kernel
theorem dX11_meeting_17 : decode cX11_meeting 17 = .ok (.iload_n 1, 1) := by decide +kernel
theorem dX11_meeting_18 : decode cX11_meeting 18 = .ok (.aload_n 0, 1) := by decide +kernel
theorem dX11_meeting_19 : decode cX11_meeting 19 = .ok (.getfield 113, 3) := by decide +kernel
theorem dX11_meeting_22 : decode cX11_meeting 22 = .ok (.iload_n 3, 1) := by decide +kernel
theorem dX11_meeting_23 : decode cX11_meeting 23 = .ok (.aload_n 0, 1) := by decide +kernel
theorem dX11_meeting_24 : decode cX11_meeting 24 = .ok (.getfield 52, 3) := by decide +kernel
theorem dX11_meeting_27 : decode cX11_meeting 27 = .ok (.invokestatic 214, 3) := by decide +kernel
theorem dX11_meeting_30 : decode cX11_meeting 30 = .ok (.ifCond .eq 28, 3) := by decide +kernel
theorem dX11_meeting_33 : decode cX11_meeting 33 = .ok (.aload_n 0, 1) := by decide +kernel
theorem dX11_meeting_34 : decode cX11_meeting 34 = .ok (.getfield 73, 3) := by decide +kernel
theorem dX11_meeting_37 : decode cX11_meeting 37 = .ok (.iload_n 2, 1) := by decide +kernel
theorem dX11_meeting_38 : decode cX11_meeting 38 = .ok (.iload_n 3, 1) := by decide +kernel
theorem dX11_meeting_39 : decode cX11_meeting 39 = .ok (.iastore, 1) := by decide +kernel
theorem dX11_meeting_40 : decode cX11_meeting 40 = .ok (.aload_n 0, 1) := by decide +kernel
theorem dX11_meeting_41 : decode cX11_meeting 41 = .ok (.getfield 76, 3) := by decide +kernel
theorem dX11_meeting_44 : decode cX11_meeting 44 = .ok (.iload_n 2, 1) := by decide +kernel
theorem dX11_meeting_45 : decode cX11_meeting 45 = .ok (.iload_n 2, 1) := by decide +kernel
theorem dX11_meeting_46 : decode cX11_meeting 46 = .ok (.ifCond .ne 7, 3) := by decide +kernel
theorem dX11_meeting_49 : decode cX11_meeting 49 = .ok (.lconst 1, 1) := by decide +kernel
theorem dX11_meeting_50 : decode cX11_meeting 50 = .ok (.goto 4, 3) := by decide +kernel
theorem dX11_meeting_53 : decode cX11_meeting 53 = .ok (.lconst 0, 1) := by decide +kernel
theorem dX11_meeting_54 : decode cX11_meeting 54 = .ok (.lastore, 1) := by decide +kernel
theorem dX11_meeting_55 : decode cX11_meeting 55 = .ok (.iinc 2 1, 3) := by decide +kernel
theorem dX11_meeting_58 : decode cX11_meeting 58 = .ok (.iinc 3 1, 3) := by decide +kernel
theorem dX11_meeting_61 : decode cX11_meeting 61 = .ok (.goto (-52), 3) := by decide +kernel
theorem dX11_meeting_64 : decode cX11_meeting 64 = .ok (.iconst 0, 1) := by decide +kernel
theorem dX11_meeting_65 : decode cX11_meeting 65 = .ok (.istore_n 3, 1) := by decide +kernel
theorem dX11_meeting_66 : decode cX11_meeting 66 = .ok (.iload_n 3, 1) := by decide +kernel
theorem dX11_meeting_67 : decode cX11_meeting 67 = .ok (.aload_n 0, 1) := by decide +kernel
theorem dX11_meeting_68 : decode cX11_meeting 68 = .ok (.getfield 234, 3) := by decide +kernel
theorem dX11_meeting_71 : decode cX11_meeting 71 = .ok (.if_icmp .ge 176, 3) := by decide +kernel
theorem dX11_meeting_74 : decode cX11_meeting 74 = .ok (.iload_n 1, 1) := by decide +kernel
theorem dX11_meeting_75 : decode cX11_meeting 75 = .ok (.aload_n 0, 1) := by decide +kernel
theorem dX11_meeting_76 : decode cX11_meeting 76 = .ok (.getfield 113, 3) := by decide +kernel
theorem dX11_meeting_79 : decode cX11_meeting 79 = .ok (.aload_n 0, 1) := by decide +kernel
theorem dX11_meeting_80 : decode cX11_meeting 80 = .ok (.getfield 70, 3) := by decide +kernel
theorem dX11_meeting_83 : decode cX11_meeting 83 = .ok (.iload_n 3, 1) := by decide +kernel
theorem dX11_meeting_84 : decode cX11_meeting 84 = .ok (.iaload, 1) := by decide +kernel
theorem dX11_meeting_85 : decode cX11_meeting 85 = .ok (.aload_n 0, 1) := by decide +kernel
theorem dX11_meeting_86 : decode cX11_meeting 86 = .ok (.getfield 49, 3) := by decide +kernel
theorem dX11_meeting_89 : decode cX11_meeting 89 = .ok (.invokestatic 214, 3) := by decide +kernel
theorem dX11_meeting_92 : decode cX11_meeting 92 = .ok (.istore 4, 2) := by decide +kernel
theorem dX11_meeting_94 : decode cX11_meeting 94 = .ok (.iconst 0, 1) := by decide +kernel
theorem dX11_meeting_95 : decode cX11_meeting 95 = .ok (.istore 5, 2) := by decide +kernel
theorem dX11_meeting_97 : decode cX11_meeting 97 = .ok (.iload 5, 2) := by decide +kernel
theorem dX11_meeting_99 : decode cX11_meeting 99 = .ok (.iload_n 2, 1) := by decide +kernel
theorem dX11_meeting_100 : decode cX11_meeting 100 = .ok (.if_icmp .ge 112, 3) := by decide +kernel
theorem dX11_meeting_103 : decode cX11_meeting 103 = .ok (.iload_n 1, 1) := by decide +kernel
theorem dX11_meeting_104 : decode cX11_meeting 104 = .ok (.aload_n 0, 1) := by decide +kernel
theorem dX11_meeting_105 : decode cX11_meeting 105 = .ok (.getfield 113, 3) := by decide +kernel
theorem dX11_meeting_108 : decode cX11_meeting 108 = .ok (.aload_n 0, 1) := by decide +kernel
theorem dX11_meeting_109 : decode cX11_meeting 109 = .ok (.getfield 73, 3) := by decide +kernel
theorem dX11_meeting_112 : decode cX11_meeting 112 = .ok (.iload 5, 2) := by decide +kernel
theorem dX11_meeting_114 : decode cX11_meeting 114 = .ok (.iaload, 1) := by decide +kernel
theorem dX11_meeting_115 : decode cX11_meeting 115 = .ok (.aload_n 0, 1) := by decide +kernel
theorem dX11_meeting_116 : decode cX11_meeting 116 = .ok (.getfield 52, 3) := by decide +kernel
theorem dX11_meeting_119 : decode cX11_meeting 119 = .ok (.invokestatic 214, 3) := by decide +kernel
theorem dX11_meeting_122 : decode cX11_meeting 122 = .ok (.istore 4, 2) := by decide +kernel
theorem dX11_meeting_124 : decode cX11_meeting 124 = .ok (.aload_n 0, 1) := by decide +kernel
theorem dX11_meeting_125 : decode cX11_meeting 125 = .ok (.getfield 79, 3) := by decide +kernel
theorem dX11_meeting_128 : decode cX11_meeting 128 = .ok (.iload 5, 2) := by decide +kernel
theorem dX11_meeting_130 : decode cX11_meeting 130 = .ok (.lconst 0, 1) := by decide +kernel
theorem dX11_meeting_131 : decode cX11_meeting 131 = .ok (.lastore, 1) := by decide +kernel
theorem dX11_meeting_132 : decode cX11_meeting 132 = .ok (.iconst 0, 1) := by decide +kernel
theorem dX11_meeting_133 : decode cX11_meeting 133 = .ok (.istore 6, 2) := by decide +kernel
theorem dX11_meeting_135 : decode cX11_meeting 135 = .ok (.iload 6, 2) := by decide +kernel
theorem dX11_meeting_137 : decode cX11_meeting 137 = .ok (.iload 5, 2) := by decide +kernel
theorem dX11_meeting_139 : decode cX11_meeting 139 = .ok (.if_icmp .gt 67, 3) := by decide +kernel
theorem dX11_meeting_142 : decode cX11_meeting 142 = .ok (.aload_n 0, 1) := by decide +kernel
theorem dX11_meeting_143 : decode cX11_meeting 143 = .ok (.getfield 76, 3) := by decide +kernel
theorem dX11_meeting_146 : decode cX11_meeting 146 = .ok (.iload 6, 2) := by decide +kernel
theorem dX11_meeting_148 : decode cX11_meeting 148 = .ok (.laload, 1) := by decide +kernel
theorem dX11_meeting_149 : decode cX11_meeting 149 = .ok (.lconst 0, 1) := by decide +kernel
theorem dX11_meeting_150 : decode cX11_meeting 150 = .ok (.lcmp, 1) := by decide +kernel
theorem dX11_meeting_151 : decode cX11_meeting 151 = .ok (.ifCond .eq 49, 3) := by decide +kernel
theorem dX11_meeting_154 : decode cX11_meeting 154 = .ok (.iload_n 1, 1) := by decide +kernel
theorem dX11_meeting_155 : decode cX11_meeting 155 = .ok (.aload_n 0, 1) := by decide +kernel
theorem dX11_meeting_156 : decode cX11_meeting 156 = .ok (.getfield 113, 3) := by decide +kernel
theorem dX11_meeting_159 : decode cX11_meeting 159 = .ok (.aload_n 0, 1) := by decide +kernel
theorem dX11_meeting_160 : decode cX11_meeting 160 = .ok (.getfield 73, 3) := by decide +kernel
theorem dX11_meeting_163 : decode cX11_meeting 163 = .ok (.iload 6, 2) := by decide +kernel
theorem dX11_meeting_165 : decode cX11_meeting 165 = .ok (.iaload, 1) := by decide +kernel
theorem dX11_meeting_166 : decode cX11_meeting 166 = .ok (.aload_n 0, 1) := by decide +kernel
theorem dX11_meeting_167 : decode cX11_meeting 167 = .ok (.getfield 46, 3) := by decide +kernel
theorem dX11_meeting_170 : decode cX11_meeting 170 = .ok (.invokestatic 214, 3) := by decide +kernel
theorem dX11_meeting_173 : decode cX11_meeting 173 = .ok (.ifCond .eq 27, 3) := by decide +kernel
theorem dX11_meeting_176 : decode cX11_meeting 176 = .ok (.aload_n 0, 1) := by decide +kernel
theorem dX11_meeting_177 : decode cX11_meeting 177 = .ok (.getfield 79, 3) := by decide +kernel
theorem dX11_meeting_180 : decode cX11_meeting 180 = .ok (.iload 5, 2) := by decide +kernel
theorem dX11_meeting_182 : decode cX11_meeting 182 = .ok (.dup2, 1) := by decide +kernel
theorem dX11_meeting_183 : decode cX11_meeting 183 = .ok (.laload, 1) := by decide +kernel
theorem dX11_meeting_184 : decode cX11_meeting 184 = .ok (.aload_n 0, 1) := by decide +kernel
theorem dX11_meeting_185 : decode cX11_meeting 185 = .ok (.getfield 76, 3) := by decide +kernel
theorem dX11_meeting_188 : decode cX11_meeting 188 = .ok (.iload 6, 2) := by decide +kernel
theorem dX11_meeting_190 : decode cX11_meeting 190 = .ok (.laload, 1) := by decide +kernel
theorem dX11_meeting_191 : decode cX11_meeting 191 = .ok (.aload_n 0, 1) := by decide +kernel
theorem dX11_meeting_192 : decode cX11_meeting 192 = .ok (.iload_n 1, 1) := by decide +kernel
theorem dX11_meeting_193 : decode cX11_meeting 193 = .ok (.invokevirtual 231, 3) := by decide +kernel
theorem dX11_meeting_196 : decode cX11_meeting 196 = .ok (.i2l, 1) := by decide +kernel
theorem dX11_meeting_197 : decode cX11_meeting 197 = .ok (.lmul, 1) := by decide +kernel
theorem dX11_meeting_198 : decode cX11_meeting 198 = .ok (.ladd, 1) := by decide +kernel
theorem dX11_meeting_199 : decode cX11_meeting 199 = .ok (.lastore, 1) := by decide +kernel
theorem dX11_meeting_200 : decode cX11_meeting 200 = .ok (.iinc 6 1, 3) := by decide +kernel
theorem dX11_meeting_203 : decode cX11_meeting 203 = .ok (.goto (-68), 3) := by decide +kernel
theorem dX11_meeting_206 : decode cX11_meeting 206 = .ok (.iinc 5 1, 3) := by decide +kernel
theorem dX11_meeting_209 : decode cX11_meeting 209 = .ok (.goto (-112), 3) := by decide +kernel
theorem dX11_meeting_212 : decode cX11_meeting 212 = .ok (.iconst 0, 1) := by decide +kernel
theorem dX11_meeting_213 : decode cX11_meeting 213 = .ok (.istore 5, 2) := by decide +kernel
theorem dX11_meeting_215 : decode cX11_meeting 215 = .ok (.iload 5, 2) := by decide +kernel
theorem dX11_meeting_217 : decode cX11_meeting 217 = .ok (.iload_n 2, 1) := by decide +kernel
theorem dX11_meeting_218 : decode cX11_meeting 218 = .ok (.if_icmp .ge 23, 3) := by decide +kernel
theorem dX11_meeting_221 : decode cX11_meeting 221 = .ok (.aload_n 0, 1) := by decide +kernel
theorem dX11_meeting_222 : decode cX11_meeting 222 = .ok (.getfield 76, 3) := by decide +kernel
theorem dX11_meeting_225 : decode cX11_meeting 225 = .ok (.iload 5, 2) := by decide +kernel
theorem dX11_meeting_227 : decode cX11_meeting 227 = .ok (.aload_n 0, 1) := by decide +kernel
theorem dX11_meeting_228 : decode cX11_meeting 228 = .ok (.getfield 79, 3) := by decide +kernel
theorem dX11_meeting_231 : decode cX11_meeting 231 = .ok (.iload 5, 2) := by decide +kernel
theorem dX11_meeting_233 : decode cX11_meeting 233 = .ok (.laload, 1) := by decide +kernel
theorem dX11_meeting_234 : decode cX11_meeting 234 = .ok (.lastore, 1) := by decide +kernel
theorem dX11_meeting_235 : decode cX11_meeting 235 = .ok (.iinc 5 1, 3) := by decide +kernel
theorem dX11_meeting_238 : decode cX11_meeting 238 = .ok (.goto (-23), 3) := by decide +kernel
theorem dX11_meeting_241 : decode cX11_meeting 241 = .ok (.iinc 3 1, 3) := by decide +kernel
theorem dX11_meeting_244 : decode cX11_meeting 244 = .ok (.goto (-178), 3) := by decide +kernel
theorem dX11_meeting_247 : decode cX11_meeting 247 = .ok (.aload_n 0, 1) := by decide +kernel
theorem dX11_meeting_248 : decode cX11_meeting 248 = .ok (.getfield 76, 3) := by decide +kernel
theorem dX11_meeting_251 : decode cX11_meeting 251 = .ok (.iload_n 2, 1) := by decide +kernel
theorem dX11_meeting_252 : decode cX11_meeting 252 = .ok (.iconst 1, 1) := by decide +kernel
theorem dX11_meeting_253 : decode cX11_meeting 253 = .ok (.isub, 1) := by decide +kernel
theorem dX11_meeting_254 : decode cX11_meeting 254 = .ok (.laload, 1) := by decide +kernel
theorem dX11_meeting_255 : decode cX11_meeting 255 = .ok (.lreturn, 1) := by decide +kernel
theorem dX11_lookAtPoints_0 : decode cX11_lookAtPoints 0 = .ok (.aload_n 0, 1) := by decide +kernel
theorem dX11_lookAtPoints_1 : decode cX11_lookAtPoints 1 = .ok (.getfield 116, 3) := by decide +kernel
theorem dX11_lookAtPoints_4 : decode cX11_lookAtPoints 4 = .ok (.aload_n 0, 1) := by decide +kernel
theorem dX11_lookAtPoints_5 : decode cX11_lookAtPoints 5 = .ok (.getfield 116, 3) := by decide +kernel
theorem dX11_lookAtPoints_8 : decode cX11_lookAtPoints 8 = .ok (.imul, 1) := by decide +kernel
theorem dX11_lookAtPoints_9 : decode cX11_lookAtPoints 9 = .ok (.aload_n 0, 1) := by decide +kernel
theorem dX11_lookAtPoints_10 : decode cX11_lookAtPoints 10 = .ok (.getfield 116, 3) := by decide +kernel
theorem dX11_lookAtPoints_13 : decode cX11_lookAtPoints 13 = .ok (.imul, 1) := by decide +kernel
theorem dX11_lookAtPoints_14 : decode cX11_lookAtPoints 14 = .ok (.aload_n 0, 1) := by decide +kernel
theorem dX11_lookAtPoints_15 : decode cX11_lookAtPoints 15 = .ok (.getfield 116, 3) := by decide +kernel
theorem dX11_lookAtPoints_18 : decode cX11_lookAtPoints 18 = .ok (.imul, 1) := by decide +kernel
theorem dX11_lookAtPoints_19 : decode cX11_lookAtPoints 19 = .ok (.istore_n 1, 1) := by decide +kernel
theorem dX11_lookAtPoints_20 : decode cX11_lookAtPoints 20 = .ok (.iconst 0, 1) := by decide +kernel
theorem dX11_lookAtPoints_21 : decode cX11_lookAtPoints 21 = .ok (.istore_n 2, 1) := by decide +kernel
theorem dX11_lookAtPoints_22 : decode cX11_lookAtPoints 22 = .ok (.iload_n 2, 1) := by decide +kernel
theorem dX11_lookAtPoints_23 : decode cX11_lookAtPoints 23 = .ok (.iload_n 1, 1) := by decide +kernel
theorem dX11_lookAtPoints_24 : decode cX11_lookAtPoints 24 = .ok (.if_icmp .ge 56, 3) := by decide +kernel
theorem dX11_lookAtPoints_27 : decode cX11_lookAtPoints 27 = .ok (.iload_n 2, 1) := by decide +kernel
theorem dX11_lookAtPoints_28 : decode cX11_lookAtPoints 28 = .ok (.istore_n 3, 1) := by decide +kernel
theorem dX11_lookAtPoints_29 : decode cX11_lookAtPoints 29 = .ok (.iconst 3, 1) := by decide +kernel
theorem dX11_lookAtPoints_30 : decode cX11_lookAtPoints 30 = .ok (.istore 4, 2) := by decide +kernel
theorem dX11_lookAtPoints_32 : decode cX11_lookAtPoints 32 = .ok (.iload 4, 2) := by decide +kernel
theorem dX11_lookAtPoints_34 : decode cX11_lookAtPoints 34 = .ok (.ifCond .lt 33, 3) := by decide +kernel
theorem dX11_lookAtPoints_37 : decode cX11_lookAtPoints 37 = .ok (.aload_n 0, 1) := by decide +kernel
theorem dX11_lookAtPoints_38 : decode cX11_lookAtPoints 38 = .ok (.getfield 97, 3) := by decide +kernel
theorem dX11_lookAtPoints_41 : decode cX11_lookAtPoints 41 = .ok (.iconst 4, 1) := by decide +kernel
theorem dX11_lookAtPoints_42 : decode cX11_lookAtPoints 42 = .ok (.iload_n 2, 1) := by decide +kernel
theorem dX11_lookAtPoints_43 : decode cX11_lookAtPoints 43 = .ok (.imul, 1) := by decide +kernel
theorem dX11_lookAtPoints_44 : decode cX11_lookAtPoints 44 = .ok (.iload 4, 2) := by decide +kernel
theorem dX11_lookAtPoints_46 : decode cX11_lookAtPoints 46 = .ok (.iadd, 1) := by decide +kernel
theorem dX11_lookAtPoints_47 : decode cX11_lookAtPoints 47 = .ok (.iload_n 3, 1) := by decide +kernel
theorem dX11_lookAtPoints_48 : decode cX11_lookAtPoints 48 = .ok (.aload_n 0, 1) := by decide +kernel
theorem dX11_lookAtPoints_49 : decode cX11_lookAtPoints 49 = .ok (.getfield 116, 3) := by decide +kernel
theorem dX11_lookAtPoints_52 : decode cX11_lookAtPoints 52 = .ok (.irem, 1) := by decide +kernel
theorem dX11_lookAtPoints_53 : decode cX11_lookAtPoints 53 = .ok (.iastore, 1) := by decide +kernel
theorem dX11_lookAtPoints_54 : decode cX11_lookAtPoints 54 = .ok (.iload_n 3, 1) := by decide +kernel
theorem dX11_lookAtPoints_55 : decode cX11_lookAtPoints 55 = .ok (.aload_n 0, 1) := by decide +kernel
theorem dX11_lookAtPoints_56 : decode cX11_lookAtPoints 56 = .ok (.getfield 116, 3) := by decide +kernel
theorem dX11_lookAtPoints_59 : decode cX11_lookAtPoints 59 = .ok (.idiv, 1) := by decide +kernel
theorem dX11_lookAtPoints_60 : decode cX11_lookAtPoints 60 = .ok (.istore_n 3, 1) := by decide +kernel
theorem dX11_lookAtPoints_61 : decode cX11_lookAtPoints 61 = .ok (.iinc 4 (-1), 3) := by decide +kernel
theorem dX11_lookAtPoints_64 : decode cX11_lookAtPoints 64 = .ok (.goto (-32), 3) := by decide +kernel
theorem dX11_lookAtPoints_67 : decode cX11_lookAtPoints 67 = .ok (.aload_n 0, 1) := by decide +kernel
theorem dX11_lookAtPoints_68 : decode cX11_lookAtPoints 68 = .ok (.getfield 100, 3) := by decide +kernel
theorem dX11_lookAtPoints_71 : decode cX11_lookAtPoints 71 = .ok (.iload_n 2, 1) := by decide +kernel
theorem dX11_lookAtPoints_72 : decode cX11_lookAtPoints 72 = .ok (.iload_n 2, 1) := by decide +kernel
theorem dX11_lookAtPoints_73 : decode cX11_lookAtPoints 73 = .ok (.iastore, 1) := by decide +kernel
theorem dX11_lookAtPoints_74 : decode cX11_lookAtPoints 74 = .ok (.iinc 2 1, 3) := by decide +kernel
theorem dX11_lookAtPoints_77 : decode cX11_lookAtPoints 77 = .ok (.goto (-55), 3) := by decide +kernel
theorem dX11_lookAtPoints_80 : decode cX11_lookAtPoints 80 = .ok (.iconst 1, 1) := by decide +kernel
theorem dX11_lookAtPoints_81 : decode cX11_lookAtPoints 81 = .ok (.istore_n 2, 1) := by decide +kernel
theorem dX11_lookAtPoints_82 : decode cX11_lookAtPoints 82 = .ok (.iload_n 2, 1) := by decide +kernel
theorem dX11_lookAtPoints_83 : decode cX11_lookAtPoints 83 = .ok (.iload_n 1, 1) := by decide +kernel
theorem dX11_lookAtPoints_84 : decode cX11_lookAtPoints 84 = .ok (.if_icmp .ge 94, 3) := by decide +kernel
theorem dX11_lookAtPoints_87 : decode cX11_lookAtPoints 87 = .ok (.iconst 0, 1) := by decide +kernel
theorem dX11_lookAtPoints_88 : decode cX11_lookAtPoints 88 = .ok (.istore_n 3, 1) := by decide +kernel
theorem dX11_lookAtPoints_89 : decode cX11_lookAtPoints 89 = .ok (.aload_n 0, 1) := by decide +kernel
theorem dX11_lookAtPoints_90 : decode cX11_lookAtPoints 90 = .ok (.getfield 97, 3) := by decide +kernel
theorem dX11_lookAtPoints_93 : decode cX11_lookAtPoints 93 = .ok (.iconst 4, 1) := by decide +kernel
theorem dX11_lookAtPoints_94 : decode cX11_lookAtPoints 94 = .ok (.iload_n 2, 1) := by decide +kernel
theorem dX11_lookAtPoints_95 : decode cX11_lookAtPoints 95 = .ok (.imul, 1) := by decide +kernel
theorem dX11_lookAtPoints_96 : decode cX11_lookAtPoints 96 = .ok (.iload_n 3, 1) := by decide +kernel
theorem dX11_lookAtPoints_97 : decode cX11_lookAtPoints 97 = .ok (.iadd, 1) := by decide +kernel
theorem dX11_lookAtPoints_98 : decode cX11_lookAtPoints 98 = .ok (.iaload, 1) := by decide +kernel
theorem dX11_lookAtPoints_99 : decode cX11_lookAtPoints 99 = .ok (.ifCond .ne 9, 3) := by decide +kernel
theorem dX11_lookAtPoints_102 : decode cX11_lookAtPoints 102 = .ok (.iinc 3 1, 3) := by decide +kernel
theorem dX11_lookAtPoints_105 : decode cX11_lookAtPoints 105 = .ok (.goto (-16), 3) := by decide +kernel
theorem dX11_lookAtPoints_108 : decode cX11_lookAtPoints 108 = .ok (.iconst 1, 1) := by decide +kernel
theorem dX11_lookAtPoints_109 : decode cX11_lookAtPoints 109 = .ok (.istore 4, 2) := by decide +kernel
theorem dX11_lookAtPoints_111 : decode cX11_lookAtPoints 111 = .ok (.iload 4, 2) := by decide +kernel
theorem dX11_lookAtPoints_113 : decode cX11_lookAtPoints 113 = .ok (.aload_n 0, 1) := by decide +kernel
theorem dX11_lookAtPoints_114 : decode cX11_lookAtPoints 114 = .ok (.getfield 116, 3) := by decide +kernel
theorem dX11_lookAtPoints_117 : decode cX11_lookAtPoints 117 = .ok (.if_icmp .ge 55, 3) := by decide +kernel
theorem dX11_lookAtPoints_120 : decode cX11_lookAtPoints 120 = .ok (.aload_n 0, 1) := by decide +kernel
theorem dX11_lookAtPoints_121 : decode cX11_lookAtPoints 121 = .ok (.getfield 100, 3) := by decide +kernel
theorem dX11_lookAtPoints_124 : decode cX11_lookAtPoints 124 = .ok (.iload_n 2, 1) := by decide +kernel
theorem dX11_lookAtPoints_125 : decode cX11_lookAtPoints 125 = .ok (.iload 4, 2) := by decide +kernel
theorem dX11_lookAtPoints_127 : decode cX11_lookAtPoints 127 = .ok (.aload_n 0, 1) := by decide +kernel
theorem dX11_lookAtPoints_128 : decode cX11_lookAtPoints 128 = .ok (.getfield 97, 3) := by decide +kernel
theorem dX11_lookAtPoints_131 : decode cX11_lookAtPoints 131 = .ok (.iconst 4, 1) := by decide +kernel
theorem dX11_lookAtPoints_132 : decode cX11_lookAtPoints 132 = .ok (.iload_n 2, 1) := by decide +kernel
theorem dX11_lookAtPoints_133 : decode cX11_lookAtPoints 133 = .ok (.imul, 1) := by decide +kernel
theorem dX11_lookAtPoints_134 : decode cX11_lookAtPoints 134 = .ok (.iload_n 3, 1) := by decide +kernel
theorem dX11_lookAtPoints_135 : decode cX11_lookAtPoints 135 = .ok (.iadd, 1) := by decide +kernel
theorem dX11_lookAtPoints_136 : decode cX11_lookAtPoints 136 = .ok (.iaload, 1) := by decide +kernel
theorem dX11_lookAtPoints_137 : decode cX11_lookAtPoints 137 = .ok (.imul, 1) := by decide +kernel
theorem dX11_lookAtPoints_138 : decode cX11_lookAtPoints 138 = .ok (.aload_n 0, 1) := by decide +kernel
theorem dX11_lookAtPoints_139 : decode cX11_lookAtPoints 139 = .ok (.getfield 116, 3) := by decide +kernel
theorem dX11_lookAtPoints_142 : decode cX11_lookAtPoints 142 = .ok (.irem, 1) := by decide +kernel
theorem dX11_lookAtPoints_143 : decode cX11_lookAtPoints 143 = .ok (.iconst 1, 1) := by decide +kernel
theorem dX11_lookAtPoints_144 : decode cX11_lookAtPoints 144 = .ok (.if_icmp .ne 15, 3) := by decide +kernel
theorem dX11_lookAtPoints_147 : decode cX11_lookAtPoints 147 = .ok (.aload_n 0, 1) := by decide +kernel
theorem dX11_lookAtPoints_148 : decode cX11_lookAtPoints 148 = .ok (.iload_n 2, 1) := by decide +kernel
theorem dX11_lookAtPoints_149 : decode cX11_lookAtPoints 149 = .ok (.iload 4, 2) := by decide +kernel
theorem dX11_lookAtPoints_151 : decode cX11_lookAtPoints 151 = .ok (.iconst 0, 1) := by decide +kernel
theorem dX11_lookAtPoints_152 : decode cX11_lookAtPoints 152 = .ok (.iconst 0, 1) := by decide +kernel
theorem dX11_lookAtPoints_153 : decode cX11_lookAtPoints 153 = .ok (.invokevirtual 237, 3) := by decide +kernel
theorem dX11_lookAtPoints_156 : decode cX11_lookAtPoints 156 = .ok (.goto 9, 3) := by decide +kernel
theorem dX11_lookAtPoints_159 : decode cX11_lookAtPoints 159 = .ok (.aload_n 0, 1) := by decide +kernel
theorem dX11_lookAtPoints_160 : decode cX11_lookAtPoints 160 = .ok (.getfield 100, 3) := by decide +kernel
theorem dX11_lookAtPoints_163 : decode cX11_lookAtPoints 163 = .ok (.iload_n 2, 1) := by decide +kernel
theorem dX11_lookAtPoints_164 : decode cX11_lookAtPoints 164 = .ok (.iaload, 1) := by decide +kernel
theorem dX11_lookAtPoints_165 : decode cX11_lookAtPoints 165 = .ok (.iastore, 1) := by decide +kernel
theorem dX11_lookAtPoints_166 : decode cX11_lookAtPoints 166 = .ok (.iinc 4 1, 3) := by decide +kernel
theorem dX11_lookAtPoints_169 : decode cX11_lookAtPoints 169 = .ok (.goto (-58), 3) := by decide +kernel
theorem dX11_lookAtPoints_172 : decode cX11_lookAtPoints 172 = .ok (.iinc 2 1, 3) := by decide +kernel
theorem dX11_lookAtPoints_175 : decode cX11_lookAtPoints 175 = .ok (.goto (-93), 3) := by decide +kernel
theorem dX11_lookAtPoints_178 : decode cX11_lookAtPoints 178 = .ok (.return_, 1) := by decide +kernel
theorem dX11_pointOf_0 : decode cX11_pointOf 0 = .ok (.iload_n 1, 1) := by decide +kernel
theorem dX11_pointOf_1 : decode cX11_pointOf 1 = .ok (.i2l, 1) := by decide +kernel
theorem dX11_pointOf_2 : decode cX11_pointOf 2 = .ok (.lconst 1, 1) := by decide +kernel
theorem dX11_pointOf_3 : decode cX11_pointOf 3 = .ok (.ldc2_w 241, 3) := by decide +kernel
theorem dX11_pointOf_6 : decode cX11_pointOf 6 = .ok (.invokestatic 126, 3) := by decide +kernel
theorem dX11_pointOf_9 : decode cX11_pointOf 9 = .ok (.ifCond .ne 5, 3) := by decide +kernel
theorem dX11_pointOf_12 : decode cX11_pointOf 12 = .ok (.iconst (-1), 1) := by decide +kernel
theorem dX11_pointOf_13 : decode cX11_pointOf 13 = .ok (.ireturn, 1) := by decide +kernel
theorem dX11_pointOf_14 : decode cX11_pointOf 14 = .ok (.iconst 0, 1) := by decide +kernel
theorem dX11_pointOf_15 : decode cX11_pointOf 15 = .ok (.istore_n 2, 1) := by decide +kernel
theorem dX11_pointOf_16 : decode cX11_pointOf 16 = .ok (.sipush 1000, 3) := by decide +kernel
theorem dX11_pointOf_19 : decode cX11_pointOf 19 = .ok (.istore_n 3, 1) := by decide +kernel
theorem dX11_pointOf_20 : decode cX11_pointOf 20 = .ok (.iload_n 3, 1) := by decide +kernel
theorem dX11_pointOf_21 : decode cX11_pointOf 21 = .ok (.ifCond .le 40, 3) := by decide +kernel
theorem dX11_pointOf_24 : decode cX11_pointOf 24 = .ok (.iload_n 1, 1) := by decide +kernel
theorem dX11_pointOf_25 : decode cX11_pointOf 25 = .ok (.iload_n 3, 1) := by decide +kernel
theorem dX11_pointOf_26 : decode cX11_pointOf 26 = .ok (.idiv, 1) := by decide +kernel
theorem dX11_pointOf_27 : decode cX11_pointOf 27 = .ok (.bipush 10, 2) := by decide +kernel
theorem dX11_pointOf_29 : decode cX11_pointOf 29 = .ok (.irem, 1) := by decide +kernel
theorem dX11_pointOf_30 : decode cX11_pointOf 30 = .ok (.istore 4, 2) := by decide +kernel
theorem dX11_pointOf_32 : decode cX11_pointOf 32 = .ok (.iload 4, 2) := by decide +kernel
theorem dX11_pointOf_34 : decode cX11_pointOf 34 = .ok (.aload_n 0, 1) := by decide +kernel
theorem dX11_pointOf_35 : decode cX11_pointOf 35 = .ok (.getfield 116, 3) := by decide +kernel
theorem dX11_pointOf_38 : decode cX11_pointOf 38 = .ok (.if_icmp .lt 5, 3) := by decide +kernel
theorem dX11_pointOf_41 : decode cX11_pointOf 41 = .ok (.iconst (-1), 1) := by decide +kernel
theorem dX11_pointOf_42 : decode cX11_pointOf 42 = .ok (.ireturn, 1) := by decide +kernel
theorem dX11_pointOf_43 : decode cX11_pointOf 43 = .ok (.aload_n 0, 1) := by decide +kernel
theorem dX11_pointOf_44 : decode cX11_pointOf 44 = .ok (.getfield 116, 3) := by decide +kernel
theorem dX11_pointOf_47 : decode cX11_pointOf 47 = .ok (.iload_n 2, 1) := by decide +kernel
theorem dX11_pointOf_48 : decode cX11_pointOf 48 = .ok (.imul, 1) := by decide +kernel
theorem dX11_pointOf_49 : decode cX11_pointOf 49 = .ok (.iload 4, 2) := by decide +kernel
theorem dX11_pointOf_51 : decode cX11_pointOf 51 = .ok (.iadd, 1) := by decide +kernel
theorem dX11_pointOf_52 : decode cX11_pointOf 52 = .ok (.istore_n 2, 1) := by decide +kernel
theorem dX11_pointOf_53 : decode cX11_pointOf 53 = .ok (.iload_n 3, 1) := by decide +kernel
theorem dX11_pointOf_54 : decode cX11_pointOf 54 = .ok (.bipush 10, 2) := by decide +kernel
theorem dX11_pointOf_56 : decode cX11_pointOf 56 = .ok (.idiv, 1) := by decide +kernel
theorem dX11_pointOf_57 : decode cX11_pointOf 57 = .ok (.istore_n 3, 1) := by decide +kernel
theorem dX11_pointOf_58 : decode cX11_pointOf 58 = .ok (.goto (-38), 3) := by decide +kernel
theorem dX11_pointOf_61 : decode cX11_pointOf 61 = .ok (.iload_n 2, 1) := by decide +kernel
theorem dX11_pointOf_62 : decode cX11_pointOf 62 = .ok (.ireturn, 1) := by decide +kernel
theorem dX11_mixed_0 : decode cX11_mixed 0 = .ok (.iconst 0, 1) := by decide +kernel
theorem dX11_mixed_1 : decode cX11_mixed 1 = .ok (.istore 5, 2) := by decide +kernel
theorem dX11_mixed_3 : decode cX11_mixed 3 = .ok (.iconst 0, 1) := by decide +kernel
theorem dX11_mixed_4 : decode cX11_mixed 4 = .ok (.istore 6, 2) := by decide +kernel
theorem dX11_mixed_6 : decode cX11_mixed 6 = .ok (.iload 6, 2) := by decide +kernel
theorem dX11_mixed_8 : decode cX11_mixed 8 = .ok (.iconst 4, 1) := by decide +kernel
theorem dX11_mixed_9 : decode cX11_mixed 9 = .ok (.if_icmp .ge 52, 3) := by decide +kernel
theorem dX11_mixed_12 : decode cX11_mixed 12 = .ok (.aload_n 0, 1) := by decide +kernel
theorem dX11_mixed_13 : decode cX11_mixed 13 = .ok (.getfield 116, 3) := by decide +kernel
theorem dX11_mixed_16 : decode cX11_mixed 16 = .ok (.iload 5, 2) := by decide +kernel
theorem dX11_mixed_18 : decode cX11_mixed 18 = .ok (.imul, 1) := by decide +kernel
theorem dX11_mixed_19 : decode cX11_mixed 19 = .ok (.iload_n 2, 1) := by decide +kernel
theorem dX11_mixed_20 : decode cX11_mixed 20 = .ok (.aload_n 0, 1) := by decide +kernel
theorem dX11_mixed_21 : decode cX11_mixed 21 = .ok (.getfield 97, 3) := by decide +kernel
theorem dX11_mixed_24 : decode cX11_mixed 24 = .ok (.iconst 4, 1) := by decide +kernel
theorem dX11_mixed_25 : decode cX11_mixed 25 = .ok (.iload_n 1, 1) := by decide +kernel
theorem dX11_mixed_26 : decode cX11_mixed 26 = .ok (.imul, 1) := by decide +kernel
theorem dX11_mixed_27 : decode cX11_mixed 27 = .ok (.iload 6, 2) := by decide +kernel
theorem dX11_mixed_29 : decode cX11_mixed 29 = .ok (.iadd, 1) := by decide +kernel
theorem dX11_mixed_30 : decode cX11_mixed 30 = .ok (.iaload, 1) := by decide +kernel
theorem dX11_mixed_31 : decode cX11_mixed 31 = .ok (.imul, 1) := by decide +kernel
theorem dX11_mixed_32 : decode cX11_mixed 32 = .ok (.iload 4, 2) := by decide +kernel
theorem dX11_mixed_34 : decode cX11_mixed 34 = .ok (.aload_n 0, 1) := by decide +kernel
theorem dX11_mixed_35 : decode cX11_mixed 35 = .ok (.getfield 97, 3) := by decide +kernel
theorem dX11_mixed_38 : decode cX11_mixed 38 = .ok (.iconst 4, 1) := by decide +kernel
theorem dX11_mixed_39 : decode cX11_mixed 39 = .ok (.iload_n 3, 1) := by decide +kernel
theorem dX11_mixed_40 : decode cX11_mixed 40 = .ok (.imul, 1) := by decide +kernel
theorem dX11_mixed_41 : decode cX11_mixed 41 = .ok (.iload 6, 2) := by decide +kernel
theorem dX11_mixed_43 : decode cX11_mixed 43 = .ok (.iadd, 1) := by decide +kernel
theorem dX11_mixed_44 : decode cX11_mixed 44 = .ok (.iaload, 1) := by decide +kernel
theorem dX11_mixed_45 : decode cX11_mixed 45 = .ok (.imul, 1) := by decide +kernel
theorem dX11_mixed_46 : decode cX11_mixed 46 = .ok (.iadd, 1) := by decide +kernel
theorem dX11_mixed_47 : decode cX11_mixed 47 = .ok (.aload_n 0, 1) := by decide +kernel
theorem dX11_mixed_48 : decode cX11_mixed 48 = .ok (.getfield 116, 3) := by decide +kernel
theorem dX11_mixed_51 : decode cX11_mixed 51 = .ok (.irem, 1) := by decide +kernel
theorem dX11_mixed_52 : decode cX11_mixed 52 = .ok (.iadd, 1) := by decide +kernel
theorem dX11_mixed_53 : decode cX11_mixed 53 = .ok (.istore 5, 2) := by decide +kernel
theorem dX11_mixed_55 : decode cX11_mixed 55 = .ok (.iinc 6 1, 3) := by decide +kernel
theorem dX11_mixed_58 : decode cX11_mixed 58 = .ok (.goto (-52), 3) := by decide +kernel
theorem dX11_mixed_61 : decode cX11_mixed 61 = .ok (.iload 5, 2) := by decide +kernel
theorem dX11_mixed_63 : decode cX11_mixed 63 = .ok (.ireturn, 1) := by decide +kernel
theorem dX11_evened_0 : decode cX11_evened 0 = .ok (.aload_n 0, 1) := by decide +kernel
theorem dX11_evened_1 : decode cX11_evened 1 = .ok (.getfield 100, 3) := by decide +kernel
theorem dX11_evened_4 : decode cX11_evened 4 = .ok (.iload_n 1, 1) := by decide +kernel
theorem dX11_evened_5 : decode cX11_evened 5 = .ok (.iaload, 1) := by decide +kernel
theorem dX11_evened_6 : decode cX11_evened 6 = .ok (.ireturn, 1) := by decide +kernel
theorem dX11_onLine_0 : decode cX11_onLine 0 = .ok (.iload_n 3, 1) := by decide +kernel
theorem dX11_onLine_1 : decode cX11_onLine 1 = .ok (.aload_n 0, 1) := by decide +kernel
theorem dX11_onLine_2 : decode cX11_onLine 2 = .ok (.getfield 116, 3) := by decide +kernel
theorem dX11_onLine_5 : decode cX11_onLine 5 = .ok (.if_icmp .ne 12, 3) := by decide +kernel
theorem dX11_onLine_8 : decode cX11_onLine 8 = .ok (.aload_n 0, 1) := by decide +kernel
theorem dX11_onLine_9 : decode cX11_onLine 9 = .ok (.getfield 100, 3) := by decide +kernel
theorem dX11_onLine_12 : decode cX11_onLine 12 = .ok (.iload_n 1, 1) := by decide +kernel
theorem dX11_onLine_13 : decode cX11_onLine 13 = .ok (.iaload, 1) := by decide +kernel
theorem dX11_onLine_14 : decode cX11_onLine 14 = .ok (.goto 16, 3) := by decide +kernel
theorem dX11_onLine_17 : decode cX11_onLine 17 = .ok (.aload_n 0, 1) := by decide +kernel
theorem dX11_onLine_18 : decode cX11_onLine 18 = .ok (.getfield 100, 3) := by decide +kernel
theorem dX11_onLine_21 : decode cX11_onLine 21 = .ok (.aload_n 0, 1) := by decide +kernel
theorem dX11_onLine_22 : decode cX11_onLine 22 = .ok (.iload_n 1, 1) := by decide +kernel
theorem dX11_onLine_23 : decode cX11_onLine 23 = .ok (.iload_n 3, 1) := by decide +kernel
theorem dX11_onLine_24 : decode cX11_onLine 24 = .ok (.iload_n 2, 1) := by decide +kernel
theorem dX11_onLine_25 : decode cX11_onLine 25 = .ok (.iconst 1, 1) := by decide +kernel
theorem dX11_onLine_26 : decode cX11_onLine 26 = .ok (.invokevirtual 237, 3) := by decide +kernel
theorem dX11_onLine_29 : decode cX11_onLine 29 = .ok (.iaload, 1) := by decide +kernel
theorem dX11_onLine_30 : decode cX11_onLine 30 = .ok (.ireturn, 1) := by decide +kernel
theorem dX11_drops_0 : decode cX11_drops 0 = .ok (.iconst 0, 1) := by decide +kernel
theorem dX11_drops_1 : decode cX11_drops 1 = .ok (.istore_n 1, 1) := by decide +kernel
theorem dX11_drops_2 : decode cX11_drops 2 = .ok (.iload_n 1, 1) := by decide +kernel
theorem dX11_drops_3 : decode cX11_drops 3 = .ok (.bipush 8, 2) := by decide +kernel
theorem dX11_drops_5 : decode cX11_drops 5 = .ok (.if_icmp .ge 16, 3) := by decide +kernel
theorem dX11_drops_8 : decode cX11_drops 8 = .ok (.aload_n 0, 1) := by decide +kernel
theorem dX11_drops_9 : decode cX11_drops 9 = .ok (.getfield 82, 3) := by decide +kernel
theorem dX11_drops_12 : decode cX11_drops 12 = .ok (.iload_n 1, 1) := by decide +kernel
theorem dX11_drops_13 : decode cX11_drops 13 = .ok (.iconst 0, 1) := by decide +kernel
theorem dX11_drops_14 : decode cX11_drops 14 = .ok (.bastore, 1) := by decide +kernel
theorem dX11_drops_15 : decode cX11_drops 15 = .ok (.iinc 1 1, 3) := by decide +kernel
theorem dX11_drops_18 : decode cX11_drops 18 = .ok (.goto (-16), 3) := by decide +kernel
theorem dX11_drops_21 : decode cX11_drops 21 = .ok (.return_, 1) := by decide +kernel
theorem dX11_field_0 : decode cX11_field 0 = .ok (.iload_n 1, 1) := by decide +kernel
theorem dX11_field_1 : decode cX11_field 1 = .ok (.iconst 2, 1) := by decide +kernel
theorem dX11_field_2 : decode cX11_field 2 = .ok (.if_icmp .eq 16, 3) := by decide +kernel
theorem dX11_field_5 : decode cX11_field 5 = .ok (.iload_n 1, 1) := by decide +kernel
theorem dX11_field_6 : decode cX11_field 6 = .ok (.iconst 3, 1) := by decide +kernel
theorem dX11_field_7 : decode cX11_field 7 = .ok (.if_icmp .eq 11, 3) := by decide +kernel
theorem dX11_field_10 : decode cX11_field 10 = .ok (.iload_n 1, 1) := by decide +kernel
theorem dX11_field_11 : decode cX11_field 11 = .ok (.iconst 5, 1) := by decide +kernel
theorem dX11_field_12 : decode cX11_field 12 = .ok (.if_icmp .eq 6, 3) := by decide +kernel
theorem dX11_field_15 : decode cX11_field 15 = .ok (.bipush (-2), 2) := by decide +kernel
theorem dX11_field_17 : decode cX11_field 17 = .ok (.ireturn, 1) := by decide +kernel
theorem dX11_field_18 : decode cX11_field 18 = .ok (.aload_n 0, 1) := by decide +kernel
theorem dX11_field_19 : decode cX11_field 19 = .ok (.getfield 116, 3) := by decide +kernel
theorem dX11_field_22 : decode cX11_field 22 = .ok (.istore_n 2, 1) := by decide +kernel
theorem dX11_field_23 : decode cX11_field 23 = .ok (.aload_n 0, 1) := by decide +kernel
theorem dX11_field_24 : decode cX11_field 24 = .ok (.iload_n 1, 1) := by decide +kernel
theorem dX11_field_25 : decode cX11_field 25 = .ok (.putfield 116, 3) := by decide +kernel
theorem dX11_field_28 : decode cX11_field 28 = .ok (.aload_n 0, 1) := by decide +kernel
theorem dX11_field_29 : decode cX11_field 29 = .ok (.invokevirtual 119, 3) := by decide +kernel
theorem dX11_field_32 : decode cX11_field 32 = .ok (.aload_n 0, 1) := by decide +kernel
theorem dX11_field_33 : decode cX11_field 33 = .ok (.invokevirtual 243, 3) := by decide +kernel
theorem dX11_field_36 : decode cX11_field 36 = .ok (.iload_n 2, 1) := by decide +kernel
theorem dX11_field_37 : decode cX11_field 37 = .ok (.ireturn, 1) := by decide +kernel
theorem dX11_rod_0 : decode cX11_rod 0 = .ok (.iload_n 1, 1) := by decide +kernel
theorem dX11_rod_1 : decode cX11_rod 1 = .ok (.i2l, 1) := by decide +kernel
theorem dX11_rod_2 : decode cX11_rod 2 = .ok (.lconst 0, 1) := by decide +kernel
theorem dX11_rod_3 : decode cX11_rod 3 = .ok (.ldc2_w 246, 3) := by decide +kernel
theorem dX11_rod_6 : decode cX11_rod 6 = .ok (.invokestatic 126, 3) := by decide +kernel
theorem dX11_rod_9 : decode cX11_rod 9 = .ok (.ifCond .eq 42, 3) := by decide +kernel
theorem dX11_rod_12 : decode cX11_rod 12 = .ok (.aload_n 0, 1) := by decide +kernel
theorem dX11_rod_13 : decode cX11_rod 13 = .ok (.iload_n 2, 1) := by decide +kernel
theorem dX11_rod_14 : decode cX11_rod 14 = .ok (.invokevirtual 248, 3) := by decide +kernel
theorem dX11_rod_17 : decode cX11_rod 17 = .ok (.iconst (-1), 1) := by decide +kernel
theorem dX11_rod_18 : decode cX11_rod 18 = .ok (.if_icmp .eq 33, 3) := by decide +kernel
theorem dX11_rod_21 : decode cX11_rod 21 = .ok (.aload_n 0, 1) := by decide +kernel
theorem dX11_rod_22 : decode cX11_rod 22 = .ok (.iload_n 3, 1) := by decide +kernel
theorem dX11_rod_23 : decode cX11_rod 23 = .ok (.invokevirtual 248, 3) := by decide +kernel
theorem dX11_rod_26 : decode cX11_rod 26 = .ok (.iconst (-1), 1) := by decide +kernel
theorem dX11_rod_27 : decode cX11_rod 27 = .ok (.if_icmp .eq 24, 3) := by decide +kernel
theorem dX11_rod_30 : decode cX11_rod 30 = .ok (.aload_n 0, 1) := by decide +kernel
theorem dX11_rod_31 : decode cX11_rod 31 = .ok (.aload_n 0, 1) := by decide +kernel
theorem dX11_rod_32 : decode cX11_rod 32 = .ok (.iload_n 2, 1) := by decide +kernel
theorem dX11_rod_33 : decode cX11_rod 33 = .ok (.invokevirtual 248, 3) := by decide +kernel
theorem dX11_rod_36 : decode cX11_rod 36 = .ok (.invokevirtual 251, 3) := by decide +kernel
theorem dX11_rod_39 : decode cX11_rod 39 = .ok (.aload_n 0, 1) := by decide +kernel
theorem dX11_rod_40 : decode cX11_rod 40 = .ok (.aload_n 0, 1) := by decide +kernel
theorem dX11_rod_41 : decode cX11_rod 41 = .ok (.iload_n 3, 1) := by decide +kernel
theorem dX11_rod_42 : decode cX11_rod 42 = .ok (.invokevirtual 248, 3) := by decide +kernel
theorem dX11_rod_45 : decode cX11_rod 45 = .ok (.invokevirtual 251, 3) := by decide +kernel
theorem dX11_rod_48 : decode cX11_rod 48 = .ok (.if_icmp .ne 6, 3) := by decide +kernel
theorem dX11_rod_51 : decode cX11_rod 51 = .ok (.bipush (-2), 2) := by decide +kernel
theorem dX11_rod_53 : decode cX11_rod 53 = .ok (.ireturn, 1) := by decide +kernel
theorem dX11_rod_54 : decode cX11_rod 54 = .ok (.aload_n 0, 1) := by decide +kernel
theorem dX11_rod_55 : decode cX11_rod 55 = .ok (.getfield 82, 3) := by decide +kernel
theorem dX11_rod_58 : decode cX11_rod 58 = .ok (.iload_n 1, 1) := by decide +kernel
theorem dX11_rod_59 : decode cX11_rod 59 = .ok (.iconst 1, 1) := by decide +kernel
theorem dX11_rod_60 : decode cX11_rod 60 = .ok (.bastore, 1) := by decide +kernel
theorem dX11_rod_61 : decode cX11_rod 61 = .ok (.aload_n 0, 1) := by decide +kernel
theorem dX11_rod_62 : decode cX11_rod 62 = .ok (.getfield 85, 3) := by decide +kernel
theorem dX11_rod_65 : decode cX11_rod 65 = .ok (.iload_n 1, 1) := by decide +kernel
theorem dX11_rod_66 : decode cX11_rod 66 = .ok (.aload_n 0, 1) := by decide +kernel
theorem dX11_rod_67 : decode cX11_rod 67 = .ok (.aload_n 0, 1) := by decide +kernel
theorem dX11_rod_68 : decode cX11_rod 68 = .ok (.iload_n 2, 1) := by decide +kernel
theorem dX11_rod_69 : decode cX11_rod 69 = .ok (.invokevirtual 248, 3) := by decide +kernel
theorem dX11_rod_72 : decode cX11_rod 72 = .ok (.invokevirtual 251, 3) := by decide +kernel
theorem dX11_rod_75 : decode cX11_rod 75 = .ok (.iastore, 1) := by decide +kernel
theorem dX11_rod_76 : decode cX11_rod 76 = .ok (.aload_n 0, 1) := by decide +kernel
theorem dX11_rod_77 : decode cX11_rod 77 = .ok (.getfield 88, 3) := by decide +kernel
theorem dX11_rod_80 : decode cX11_rod 80 = .ok (.iload_n 1, 1) := by decide +kernel
theorem dX11_rod_81 : decode cX11_rod 81 = .ok (.aload_n 0, 1) := by decide +kernel
theorem dX11_rod_82 : decode cX11_rod 82 = .ok (.aload_n 0, 1) := by decide +kernel
theorem dX11_rod_83 : decode cX11_rod 83 = .ok (.iload_n 3, 1) := by decide +kernel
theorem dX11_rod_84 : decode cX11_rod 84 = .ok (.invokevirtual 248, 3) := by decide +kernel
theorem dX11_rod_87 : decode cX11_rod 87 = .ok (.invokevirtual 251, 3) := by decide +kernel
theorem dX11_rod_90 : decode cX11_rod 90 = .ok (.iastore, 1) := by decide +kernel
theorem dX11_rod_91 : decode cX11_rod 91 = .ok (.iconst 1, 1) := by decide +kernel
theorem dX11_rod_92 : decode cX11_rod 92 = .ok (.ireturn, 1) := by decide +kernel
theorem dX11_drop_0 : decode cX11_drop 0 = .ok (.iload_n 1, 1) := by decide +kernel
theorem dX11_drop_1 : decode cX11_drop 1 = .ok (.i2l, 1) := by decide +kernel
theorem dX11_drop_2 : decode cX11_drop 2 = .ok (.lconst 0, 1) := by decide +kernel
theorem dX11_drop_3 : decode cX11_drop 3 = .ok (.ldc2_w 246, 3) := by decide +kernel
theorem dX11_drop_6 : decode cX11_drop 6 = .ok (.invokestatic 126, 3) := by decide +kernel
theorem dX11_drop_9 : decode cX11_drop 9 = .ok (.ifCond .ne 6, 3) := by decide +kernel
theorem dX11_drop_12 : decode cX11_drop 12 = .ok (.bipush (-2), 2) := by decide +kernel
theorem dX11_drop_14 : decode cX11_drop 14 = .ok (.ireturn, 1) := by decide +kernel
theorem dX11_drop_15 : decode cX11_drop 15 = .ok (.aload_n 0, 1) := by decide +kernel
theorem dX11_drop_16 : decode cX11_drop 16 = .ok (.getfield 82, 3) := by decide +kernel
theorem dX11_drop_19 : decode cX11_drop 19 = .ok (.iload_n 1, 1) := by decide +kernel
theorem dX11_drop_20 : decode cX11_drop 20 = .ok (.baload, 1) := by decide +kernel
theorem dX11_drop_21 : decode cX11_drop 21 = .ok (.ifCond .ne 6, 3) := by decide +kernel
theorem dX11_drop_24 : decode cX11_drop 24 = .ok (.bipush (-3), 2) := by decide +kernel
theorem dX11_drop_26 : decode cX11_drop 26 = .ok (.ireturn, 1) := by decide +kernel
theorem dX11_drop_27 : decode cX11_drop 27 = .ok (.aload_n 0, 1) := by decide +kernel
theorem dX11_drop_28 : decode cX11_drop 28 = .ok (.getfield 82, 3) := by decide +kernel
theorem dX11_drop_31 : decode cX11_drop 31 = .ok (.iload_n 1, 1) := by decide +kernel
theorem dX11_drop_32 : decode cX11_drop 32 = .ok (.iconst 0, 1) := by decide +kernel
theorem dX11_drop_33 : decode cX11_drop 33 = .ok (.bastore, 1) := by decide +kernel
theorem dX11_drop_34 : decode cX11_drop 34 = .ok (.iconst 1, 1) := by decide +kernel
theorem dX11_drop_35 : decode cX11_drop 35 = .ok (.ireturn, 1) := by decide +kernel
theorem dX11_marks_0 : decode cX11_marks 0 = .ok (.iconst 0, 1) := by decide +kernel
theorem dX11_marks_1 : decode cX11_marks 1 = .ok (.istore 4, 2) := by decide +kernel
theorem dX11_marks_3 : decode cX11_marks 3 = .ok (.iconst 0, 1) := by decide +kernel
theorem dX11_marks_4 : decode cX11_marks 4 = .ok (.istore 5, 2) := by decide +kernel
theorem dX11_marks_6 : decode cX11_marks 6 = .ok (.iload 5, 2) := by decide +kernel
theorem dX11_marks_8 : decode cX11_marks 8 = .ok (.aload_n 0, 1) := by decide +kernel
theorem dX11_marks_9 : decode cX11_marks 9 = .ok (.getfield 116, 3) := by decide +kernel
theorem dX11_marks_12 : decode cX11_marks 12 = .ok (.if_icmp .gt 41, 3) := by decide +kernel
theorem dX11_marks_15 : decode cX11_marks 15 = .ok (.aload_n 0, 1) := by decide +kernel
theorem dX11_marks_16 : decode cX11_marks 16 = .ok (.iload_n 2, 1) := by decide +kernel
theorem dX11_marks_17 : decode cX11_marks 17 = .ok (.iload_n 3, 1) := by decide +kernel
theorem dX11_marks_18 : decode cX11_marks 18 = .ok (.iload 5, 2) := by decide +kernel
theorem dX11_marks_20 : decode cX11_marks 20 = .ok (.invokevirtual 254, 3) := by decide +kernel
theorem dX11_marks_23 : decode cX11_marks 23 = .ok (.istore 6, 2) := by decide +kernel
theorem dX11_marks_25 : decode cX11_marks 25 = .ok (.iload 4, 2) := by decide +kernel
theorem dX11_marks_27 : decode cX11_marks 27 = .ok (.aload_n 1, 1) := by decide +kernel
theorem dX11_marks_28 : decode cX11_marks 28 = .ok (.iload 6, 2) := by decide +kernel
theorem dX11_marks_30 : decode cX11_marks 30 = .ok (.baload, 1) := by decide +kernel
theorem dX11_marks_31 : decode cX11_marks 31 = .ok (.ifCond .eq 7, 3) := by decide +kernel
theorem dX11_marks_34 : decode cX11_marks 34 = .ok (.iconst 0, 1) := by decide +kernel
theorem dX11_marks_35 : decode cX11_marks 35 = .ok (.goto 4, 3) := by decide +kernel
theorem dX11_marks_38 : decode cX11_marks 38 = .ok (.iconst 1, 1) := by decide +kernel
theorem dX11_marks_39 : decode cX11_marks 39 = .ok (.iadd, 1) := by decide +kernel
theorem dX11_marks_40 : decode cX11_marks 40 = .ok (.istore 4, 2) := by decide +kernel
theorem dX11_marks_42 : decode cX11_marks 42 = .ok (.aload_n 1, 1) := by decide +kernel
theorem dX11_marks_43 : decode cX11_marks 43 = .ok (.iload 6, 2) := by decide +kernel
theorem dX11_marks_45 : decode cX11_marks 45 = .ok (.iconst 1, 1) := by decide +kernel
theorem dX11_marks_46 : decode cX11_marks 46 = .ok (.bastore, 1) := by decide +kernel
theorem dX11_marks_47 : decode cX11_marks 47 = .ok (.iinc 5 1, 3) := by decide +kernel
theorem dX11_marks_50 : decode cX11_marks 50 = .ok (.goto (-44), 3) := by decide +kernel
theorem dX11_marks_53 : decode cX11_marks 53 = .ok (.iload 4, 2) := by decide +kernel
theorem dX11_marks_55 : decode cX11_marks 55 = .ok (.ireturn, 1) := by decide +kernel
theorem dX11_wipeMarks_0 : decode cX11_wipeMarks 0 = .ok (.iconst 0, 1) := by decide +kernel
theorem dX11_wipeMarks_1 : decode cX11_wipeMarks 1 = .ok (.istore_n 2, 1) := by decide +kernel
theorem dX11_wipeMarks_2 : decode cX11_wipeMarks 2 = .ok (.iload_n 2, 1) := by decide +kernel
theorem dX11_wipeMarks_3 : decode cX11_wipeMarks 3 = .ok (.sipush 625, 3) := by decide +kernel
theorem dX11_wipeMarks_6 : decode cX11_wipeMarks 6 = .ok (.if_icmp .ge 13, 3) := by decide +kernel
theorem dX11_wipeMarks_9 : decode cX11_wipeMarks 9 = .ok (.aload_n 1, 1) := by decide +kernel
theorem dX11_wipeMarks_10 : decode cX11_wipeMarks 10 = .ok (.iload_n 2, 1) := by decide +kernel
theorem dX11_wipeMarks_11 : decode cX11_wipeMarks 11 = .ok (.iconst 0, 1) := by decide +kernel
theorem dX11_wipeMarks_12 : decode cX11_wipeMarks 12 = .ok (.bastore, 1) := by decide +kernel
theorem dX11_wipeMarks_13 : decode cX11_wipeMarks 13 = .ok (.iinc 2 1, 3) := by decide +kernel
theorem dX11_wipeMarks_16 : decode cX11_wipeMarks 16 = .ok (.goto (-14), 3) := by decide +kernel
theorem dX11_wipeMarks_19 : decode cX11_wipeMarks 19 = .ok (.return_, 1) := by decide +kernel
theorem dX11_meet_0 : decode cX11_meet 0 = .ok (.iload_n 1, 1) := by decide +kernel
theorem dX11_meet_1 : decode cX11_meet 1 = .ok (.i2l, 1) := by decide +kernel
theorem dX11_meet_2 : decode cX11_meet 2 = .ok (.lconst 0, 1) := by decide +kernel
theorem dX11_meet_3 : decode cX11_meet 3 = .ok (.ldc2_w 246, 3) := by decide +kernel
theorem dX11_meet_6 : decode cX11_meet 6 = .ok (.invokestatic 126, 3) := by decide +kernel
theorem dX11_meet_9 : decode cX11_meet 9 = .ok (.ifCond .eq 15, 3) := by decide +kernel
theorem dX11_meet_12 : decode cX11_meet 12 = .ok (.iload_n 2, 1) := by decide +kernel
theorem dX11_meet_13 : decode cX11_meet 13 = .ok (.i2l, 1) := by decide +kernel
theorem dX11_meet_14 : decode cX11_meet 14 = .ok (.lconst 0, 1) := by decide +kernel
theorem dX11_meet_15 : decode cX11_meet 15 = .ok (.ldc2_w 246, 3) := by decide +kernel
theorem dX11_meet_18 : decode cX11_meet 18 = .ok (.invokestatic 126, 3) := by decide +kernel
theorem dX11_meet_21 : decode cX11_meet 21 = .ok (.ifCond .ne 6, 3) := by decide +kernel
theorem dX11_meet_24 : decode cX11_meet 24 = .ok (.bipush (-2), 2) := by decide +kernel
theorem dX11_meet_26 : decode cX11_meet 26 = .ok (.ireturn, 1) := by decide +kernel
theorem dX11_meet_27 : decode cX11_meet 27 = .ok (.aload_n 0, 1) := by decide +kernel
theorem dX11_meet_28 : decode cX11_meet 28 = .ok (.getfield 82, 3) := by decide +kernel
theorem dX11_meet_31 : decode cX11_meet 31 = .ok (.iload_n 1, 1) := by decide +kernel
theorem dX11_meet_32 : decode cX11_meet 32 = .ok (.baload, 1) := by decide +kernel
theorem dX11_meet_33 : decode cX11_meet 33 = .ok (.ifCond .eq 12, 3) := by decide +kernel
theorem dX11_meet_36 : decode cX11_meet 36 = .ok (.aload_n 0, 1) := by decide +kernel
theorem dX11_meet_37 : decode cX11_meet 37 = .ok (.getfield 82, 3) := by decide +kernel
theorem dX11_meet_40 : decode cX11_meet 40 = .ok (.iload_n 2, 1) := by decide +kernel
theorem dX11_meet_41 : decode cX11_meet 41 = .ok (.baload, 1) := by decide +kernel
theorem dX11_meet_42 : decode cX11_meet 42 = .ok (.ifCond .ne 6, 3) := by decide +kernel
theorem dX11_meet_45 : decode cX11_meet 45 = .ok (.bipush (-3), 2) := by decide +kernel
theorem dX11_meet_47 : decode cX11_meet 47 = .ok (.ireturn, 1) := by decide +kernel
theorem dX11_meet_48 : decode cX11_meet 48 = .ok (.aload_n 0, 1) := by decide +kernel
theorem dX11_meet_49 : decode cX11_meet 49 = .ok (.aload_n 0, 1) := by decide +kernel
theorem dX11_meet_50 : decode cX11_meet 50 = .ok (.getfield 91, 3) := by decide +kernel
theorem dX11_meet_53 : decode cX11_meet 53 = .ok (.invokevirtual 258, 3) := by decide +kernel
theorem dX11_meet_56 : decode cX11_meet 56 = .ok (.aload_n 0, 1) := by decide +kernel
theorem dX11_meet_57 : decode cX11_meet 57 = .ok (.aload_n 0, 1) := by decide +kernel
theorem dX11_meet_58 : decode cX11_meet 58 = .ok (.getfield 91, 3) := by decide +kernel
theorem dX11_meet_61 : decode cX11_meet 61 = .ok (.aload_n 0, 1) := by decide +kernel
theorem dX11_meet_62 : decode cX11_meet 62 = .ok (.getfield 85, 3) := by decide +kernel
theorem dX11_meet_65 : decode cX11_meet 65 = .ok (.iload_n 1, 1) := by decide +kernel
theorem dX11_meet_66 : decode cX11_meet 66 = .ok (.iaload, 1) := by decide +kernel
theorem dX11_meet_67 : decode cX11_meet 67 = .ok (.aload_n 0, 1) := by decide +kernel
theorem dX11_meet_68 : decode cX11_meet 68 = .ok (.getfield 88, 3) := by decide +kernel
theorem dX11_meet_71 : decode cX11_meet 71 = .ok (.iload_n 1, 1) := by decide +kernel
theorem dX11_meet_72 : decode cX11_meet 72 = .ok (.iaload, 1) := by decide +kernel
theorem dX11_meet_73 : decode cX11_meet 73 = .ok (.invokevirtual 262, 3) := by decide +kernel
theorem dX11_meet_76 : decode cX11_meet 76 = .ok (.istore_n 3, 1) := by decide +kernel
theorem dX11_meet_77 : decode cX11_meet 77 = .ok (.aload_n 0, 1) := by decide +kernel
theorem dX11_meet_78 : decode cX11_meet 78 = .ok (.aload_n 0, 1) := by decide +kernel
theorem dX11_meet_79 : decode cX11_meet 79 = .ok (.getfield 94, 3) := by decide +kernel
theorem dX11_meet_82 : decode cX11_meet 82 = .ok (.invokevirtual 258, 3) := by decide +kernel
theorem dX11_meet_85 : decode cX11_meet 85 = .ok (.aload_n 0, 1) := by decide +kernel
theorem dX11_meet_86 : decode cX11_meet 86 = .ok (.aload_n 0, 1) := by decide +kernel
theorem dX11_meet_87 : decode cX11_meet 87 = .ok (.getfield 94, 3) := by decide +kernel
theorem dX11_meet_90 : decode cX11_meet 90 = .ok (.aload_n 0, 1) := by decide +kernel
theorem dX11_meet_91 : decode cX11_meet 91 = .ok (.getfield 85, 3) := by decide +kernel
theorem dX11_meet_94 : decode cX11_meet 94 = .ok (.iload_n 2, 1) := by decide +kernel
theorem dX11_meet_95 : decode cX11_meet 95 = .ok (.iaload, 1) := by decide +kernel
theorem dX11_meet_96 : decode cX11_meet 96 = .ok (.aload_n 0, 1) := by decide +kernel
theorem dX11_meet_97 : decode cX11_meet 97 = .ok (.getfield 88, 3) := by decide +kernel
theorem dX11_meet_100 : decode cX11_meet 100 = .ok (.iload_n 2, 1) := by decide +kernel
theorem dX11_meet_101 : decode cX11_meet 101 = .ok (.iaload, 1) := by decide +kernel
theorem dX11_meet_102 : decode cX11_meet 102 = .ok (.invokevirtual 262, 3) := by decide +kernel
theorem dX11_meet_105 : decode cX11_meet 105 = .ok (.istore 4, 2) := by decide +kernel
theorem dX11_meet_107 : decode cX11_meet 107 = .ok (.iconst 0, 1) := by decide +kernel
theorem dX11_meet_108 : decode cX11_meet 108 = .ok (.istore 5, 2) := by decide +kernel
theorem dX11_meet_110 : decode cX11_meet 110 = .ok (.iconst 0, 1) := by decide +kernel
theorem dX11_meet_111 : decode cX11_meet 111 = .ok (.istore 6, 2) := by decide +kernel
theorem dX11_meet_113 : decode cX11_meet 113 = .ok (.iload 6, 2) := by decide +kernel
theorem dX11_meet_115 : decode cX11_meet 115 = .ok (.sipush 625, 3) := by decide +kernel
theorem dX11_meet_118 : decode cX11_meet 118 = .ok (.if_icmp .ge 39, 3) := by decide +kernel
theorem dX11_meet_121 : decode cX11_meet 121 = .ok (.iload 5, 2) := by decide +kernel
theorem dX11_meet_123 : decode cX11_meet 123 = .ok (.aload_n 0, 1) := by decide +kernel
theorem dX11_meet_124 : decode cX11_meet 124 = .ok (.getfield 91, 3) := by decide +kernel
theorem dX11_meet_127 : decode cX11_meet 127 = .ok (.iload 6, 2) := by decide +kernel
theorem dX11_meet_129 : decode cX11_meet 129 = .ok (.baload, 1) := by decide +kernel
theorem dX11_meet_130 : decode cX11_meet 130 = .ok (.ifCond .eq 17, 3) := by decide +kernel
theorem dX11_meet_133 : decode cX11_meet 133 = .ok (.aload_n 0, 1) := by decide +kernel
theorem dX11_meet_134 : decode cX11_meet 134 = .ok (.getfield 94, 3) := by decide +kernel
theorem dX11_meet_137 : decode cX11_meet 137 = .ok (.iload 6, 2) := by decide +kernel
theorem dX11_meet_139 : decode cX11_meet 139 = .ok (.baload, 1) := by decide +kernel
theorem dX11_meet_140 : decode cX11_meet 140 = .ok (.ifCond .eq 7, 3) := by decide +kernel
theorem dX11_meet_143 : decode cX11_meet 143 = .ok (.iconst 1, 1) := by decide +kernel
theorem dX11_meet_144 : decode cX11_meet 144 = .ok (.goto 4, 3) := by decide +kernel
theorem dX11_meet_147 : decode cX11_meet 147 = .ok (.iconst 0, 1) := by decide +kernel
theorem dX11_meet_148 : decode cX11_meet 148 = .ok (.iadd, 1) := by decide +kernel
theorem dX11_meet_149 : decode cX11_meet 149 = .ok (.istore 5, 2) := by decide +kernel
theorem dX11_meet_151 : decode cX11_meet 151 = .ok (.iinc 6 1, 3) := by decide +kernel
theorem dX11_meet_154 : decode cX11_meet 154 = .ok (.goto (-41), 3) := by decide +kernel
theorem dX11_meet_157 : decode cX11_meet 157 = .ok (.iload 5, 2) := by decide +kernel
theorem dX11_meet_159 : decode cX11_meet 159 = .ok (.iload 4, 2) := by decide +kernel
theorem dX11_meet_161 : decode cX11_meet 161 = .ok (.if_icmp .ne 7, 3) := by decide +kernel
theorem dX11_meet_164 : decode cX11_meet 164 = .ok (.iconst 2, 1) := by decide +kernel
theorem dX11_meet_165 : decode cX11_meet 165 = .ok (.goto 13, 3) := by decide +kernel
theorem dX11_meet_168 : decode cX11_meet 168 = .ok (.iload 5, 2) := by decide +kernel
theorem dX11_meet_170 : decode cX11_meet 170 = .ok (.ifCond .le 7, 3) := by decide +kernel
theorem dX11_meet_173 : decode cX11_meet 173 = .ok (.iconst 1, 1) := by decide +kernel
theorem dX11_meet_174 : decode cX11_meet 174 = .ok (.goto 4, 3) := by decide +kernel
theorem dX11_meet_177 : decode cX11_meet 177 = .ok (.iconst 0, 1) := by decide +kernel
theorem dX11_meet_178 : decode cX11_meet 178 = .ok (.ireturn, 1) := by decide +kernel
theorem dX11_areThere_0 : decode cX11_areThere 0 = .ok (.iconst 1, 1) := by decide +kernel
theorem dX11_areThere_1 : decode cX11_areThere 1 = .ok (.istore_n 2, 1) := by decide +kernel
theorem dX11_areThere_2 : decode cX11_areThere 2 = .ok (.iconst 0, 1) := by decide +kernel
theorem dX11_areThere_3 : decode cX11_areThere 3 = .ok (.istore_n 3, 1) := by decide +kernel
theorem dX11_areThere_4 : decode cX11_areThere 4 = .ok (.iload_n 3, 1) := by decide +kernel
theorem dX11_areThere_5 : decode cX11_areThere 5 = .ok (.bipush 8, 2) := by decide +kernel
theorem dX11_areThere_7 : decode cX11_areThere 7 = .ok (.if_icmp .ge 34, 3) := by decide +kernel
theorem dX11_areThere_10 : decode cX11_areThere 10 = .ok (.iload_n 2, 1) := by decide +kernel
theorem dX11_areThere_11 : decode cX11_areThere 11 = .ok (.iload_n 1, 1) := by decide +kernel
theorem dX11_areThere_12 : decode cX11_areThere 12 = .ok (.iload_n 3, 1) := by decide +kernel
theorem dX11_areThere_13 : decode cX11_areThere 13 = .ok (.ishr, 1) := by decide +kernel
theorem dX11_areThere_14 : decode cX11_areThere 14 = .ok (.iconst 1, 1) := by decide +kernel
theorem dX11_areThere_15 : decode cX11_areThere 15 = .ok (.iand, 1) := by decide +kernel
theorem dX11_areThere_16 : decode cX11_areThere 16 = .ok (.ifCond .eq 12, 3) := by decide +kernel
theorem dX11_areThere_19 : decode cX11_areThere 19 = .ok (.aload_n 0, 1) := by decide +kernel
theorem dX11_areThere_20 : decode cX11_areThere 20 = .ok (.getfield 82, 3) := by decide +kernel
theorem dX11_areThere_23 : decode cX11_areThere 23 = .ok (.iload_n 3, 1) := by decide +kernel
theorem dX11_areThere_24 : decode cX11_areThere 24 = .ok (.baload, 1) := by decide +kernel
theorem dX11_areThere_25 : decode cX11_areThere 25 = .ok (.ifCond .eq 7, 3) := by decide +kernel
theorem dX11_areThere_28 : decode cX11_areThere 28 = .ok (.iconst 1, 1) := by decide +kernel
theorem dX11_areThere_29 : decode cX11_areThere 29 = .ok (.goto 4, 3) := by decide +kernel
theorem dX11_areThere_32 : decode cX11_areThere 32 = .ok (.iconst 0, 1) := by decide +kernel
theorem dX11_areThere_33 : decode cX11_areThere 33 = .ok (.iand, 1) := by decide +kernel
theorem dX11_areThere_34 : decode cX11_areThere 34 = .ok (.istore_n 2, 1) := by decide +kernel
theorem dX11_areThere_35 : decode cX11_areThere 35 = .ok (.iinc 3 1, 3) := by decide +kernel
theorem dX11_areThere_38 : decode cX11_areThere 38 = .ok (.goto (-34), 3) := by decide +kernel
theorem dX11_areThere_41 : decode cX11_areThere 41 = .ok (.iload_n 2, 1) := by decide +kernel
theorem dX11_areThere_42 : decode cX11_areThere 42 = .ok (.ireturn, 1) := by decide +kernel
theorem dX11_lookAtRods_0 : decode cX11_lookAtRods 0 = .ok (.iconst 0, 1) := by decide +kernel
theorem dX11_lookAtRods_1 : decode cX11_lookAtRods 1 = .ok (.istore_n 2, 1) := by decide +kernel
theorem dX11_lookAtRods_2 : decode cX11_lookAtRods 2 = .ok (.iload_n 2, 1) := by decide +kernel
theorem dX11_lookAtRods_3 : decode cX11_lookAtRods 3 = .ok (.sipush 625, 3) := by decide +kernel
theorem dX11_lookAtRods_6 : decode cX11_lookAtRods 6 = .ok (.if_icmp .ge 16, 3) := by decide +kernel
theorem dX11_lookAtRods_9 : decode cX11_lookAtRods 9 = .ok (.aload_n 0, 1) := by decide +kernel
theorem dX11_lookAtRods_10 : decode cX11_lookAtRods 10 = .ok (.getfield 103, 3) := by decide +kernel
theorem dX11_lookAtRods_13 : decode cX11_lookAtRods 13 = .ok (.iload_n 2, 1) := by decide +kernel
theorem dX11_lookAtRods_14 : decode cX11_lookAtRods 14 = .ok (.iconst 0, 1) := by decide +kernel
theorem dX11_lookAtRods_15 : decode cX11_lookAtRods 15 = .ok (.iastore, 1) := by decide +kernel
theorem dX11_lookAtRods_16 : decode cX11_lookAtRods 16 = .ok (.iinc 2 1, 3) := by decide +kernel
theorem dX11_lookAtRods_19 : decode cX11_lookAtRods 19 = .ok (.goto (-17), 3) := by decide +kernel
theorem dX11_lookAtRods_22 : decode cX11_lookAtRods 22 = .ok (.iconst 0, 1) := by decide +kernel
theorem dX11_lookAtRods_23 : decode cX11_lookAtRods 23 = .ok (.istore_n 2, 1) := by decide +kernel
theorem dX11_lookAtRods_24 : decode cX11_lookAtRods 24 = .ok (.iload_n 2, 1) := by decide +kernel
theorem dX11_lookAtRods_25 : decode cX11_lookAtRods 25 = .ok (.bipush 8, 2) := by decide +kernel
theorem dX11_lookAtRods_27 : decode cX11_lookAtRods 27 = .ok (.if_icmp .ge 62, 3) := by decide +kernel
theorem dX11_lookAtRods_30 : decode cX11_lookAtRods 30 = .ok (.iload_n 1, 1) := by decide +kernel
theorem dX11_lookAtRods_31 : decode cX11_lookAtRods 31 = .ok (.iload_n 2, 1) := by decide +kernel
theorem dX11_lookAtRods_32 : decode cX11_lookAtRods 32 = .ok (.ishr, 1) := by decide +kernel
theorem dX11_lookAtRods_33 : decode cX11_lookAtRods 33 = .ok (.iconst 1, 1) := by decide +kernel
theorem dX11_lookAtRods_34 : decode cX11_lookAtRods 34 = .ok (.iand, 1) := by decide +kernel
theorem dX11_lookAtRods_35 : decode cX11_lookAtRods 35 = .ok (.iconst 1, 1) := by decide +kernel
theorem dX11_lookAtRods_36 : decode cX11_lookAtRods 36 = .ok (.if_icmp .ne 47, 3) := by decide +kernel
theorem dX11_lookAtRods_39 : decode cX11_lookAtRods 39 = .ok (.iconst 0, 1) := by decide +kernel
theorem dX11_lookAtRods_40 : decode cX11_lookAtRods 40 = .ok (.istore_n 3, 1) := by decide +kernel
theorem dX11_lookAtRods_41 : decode cX11_lookAtRods 41 = .ok (.iload_n 3, 1) := by decide +kernel
theorem dX11_lookAtRods_42 : decode cX11_lookAtRods 42 = .ok (.aload_n 0, 1) := by decide +kernel
theorem dX11_lookAtRods_43 : decode cX11_lookAtRods 43 = .ok (.getfield 116, 3) := by decide +kernel
theorem dX11_lookAtRods_46 : decode cX11_lookAtRods 46 = .ok (.if_icmp .gt 37, 3) := by decide +kernel
theorem dX11_lookAtRods_49 : decode cX11_lookAtRods 49 = .ok (.aload_n 0, 1) := by decide +kernel
theorem dX11_lookAtRods_50 : decode cX11_lookAtRods 50 = .ok (.getfield 103, 3) := by decide +kernel
theorem dX11_lookAtRods_53 : decode cX11_lookAtRods 53 = .ok (.aload_n 0, 1) := by decide +kernel
theorem dX11_lookAtRods_54 : decode cX11_lookAtRods 54 = .ok (.aload_n 0, 1) := by decide +kernel
theorem dX11_lookAtRods_55 : decode cX11_lookAtRods 55 = .ok (.getfield 85, 3) := by decide +kernel
theorem dX11_lookAtRods_58 : decode cX11_lookAtRods 58 = .ok (.iload_n 2, 1) := by decide +kernel
theorem dX11_lookAtRods_59 : decode cX11_lookAtRods 59 = .ok (.iaload, 1) := by decide +kernel
theorem dX11_lookAtRods_60 : decode cX11_lookAtRods 60 = .ok (.aload_n 0, 1) := by decide +kernel
theorem dX11_lookAtRods_61 : decode cX11_lookAtRods 61 = .ok (.getfield 88, 3) := by decide +kernel
theorem dX11_lookAtRods_64 : decode cX11_lookAtRods 64 = .ok (.iload_n 2, 1) := by decide +kernel
theorem dX11_lookAtRods_65 : decode cX11_lookAtRods 65 = .ok (.iaload, 1) := by decide +kernel
theorem dX11_lookAtRods_66 : decode cX11_lookAtRods 66 = .ok (.iload_n 3, 1) := by decide +kernel
theorem dX11_lookAtRods_67 : decode cX11_lookAtRods 67 = .ok (.invokevirtual 254, 3) := by decide +kernel
theorem dX11_lookAtRods_70 : decode cX11_lookAtRods 70 = .ok (.dup2, 1) := by decide +kernel
theorem dX11_lookAtRods_71 : decode cX11_lookAtRods 71 = .ok (.iaload, 1) := by decide +kernel
theorem dX11_lookAtRods_72 : decode cX11_lookAtRods 72 = .ok (.iconst 1, 1) := by decide +kernel
theorem dX11_lookAtRods_73 : decode cX11_lookAtRods 73 = .ok (.iload_n 2, 1) := by decide +kernel
theorem dX11_lookAtRods_74 : decode cX11_lookAtRods 74 = .ok (.ishl, 1) := by decide +kernel
theorem dX11_lookAtRods_75 : decode cX11_lookAtRods 75 = .ok (.ior, 1) := by decide +kernel
theorem dX11_lookAtRods_76 : decode cX11_lookAtRods 76 = .ok (.iastore, 1) := by decide +kernel
theorem dX11_lookAtRods_77 : decode cX11_lookAtRods 77 = .ok (.iinc 3 1, 3) := by decide +kernel
theorem dX11_lookAtRods_80 : decode cX11_lookAtRods 80 = .ok (.goto (-39), 3) := by decide +kernel
theorem dX11_lookAtRods_83 : decode cX11_lookAtRods 83 = .ok (.iinc 2 1, 3) := by decide +kernel
theorem dX11_lookAtRods_86 : decode cX11_lookAtRods 86 = .ok (.goto (-62), 3) := by decide +kernel
theorem dX11_lookAtRods_89 : decode cX11_lookAtRods 89 = .ok (.return_, 1) := by decide +kernel
theorem dX11_areLeast_0 : decode cX11_areLeast 0 = .ok (.aload_n 0, 1) := by decide +kernel
theorem dX11_areLeast_1 : decode cX11_areLeast 1 = .ok (.iconst 0, 1) := by decide +kernel
theorem dX11_areLeast_2 : decode cX11_areLeast 2 = .ok (.putfield 266, 3) := by decide +kernel
theorem dX11_areLeast_5 : decode cX11_areLeast 5 = .ok (.iconst 0, 1) := by decide +kernel
theorem dX11_areLeast_6 : decode cX11_areLeast 6 = .ok (.istore_n 3, 1) := by decide +kernel
theorem dX11_areLeast_7 : decode cX11_areLeast 7 = .ok (.iload_n 3, 1) := by decide +kernel
theorem dX11_areLeast_8 : decode cX11_areLeast 8 = .ok (.aload_n 0, 1) := by decide +kernel
theorem dX11_areLeast_9 : decode cX11_areLeast 9 = .ok (.getfield 116, 3) := by decide +kernel
theorem dX11_areLeast_12 : decode cX11_areLeast 12 = .ok (.if_icmp .gt 54, 3) := by decide +kernel
theorem dX11_areLeast_15 : decode cX11_areLeast 15 = .ok (.aload_n 0, 1) := by decide +kernel
theorem dX11_areLeast_16 : decode cX11_areLeast 16 = .ok (.iload_n 1, 1) := by decide +kernel
theorem dX11_areLeast_17 : decode cX11_areLeast 17 = .ok (.iload_n 2, 1) := by decide +kernel
theorem dX11_areLeast_18 : decode cX11_areLeast 18 = .ok (.iload_n 3, 1) := by decide +kernel
theorem dX11_areLeast_19 : decode cX11_areLeast 19 = .ok (.invokevirtual 254, 3) := by decide +kernel
theorem dX11_areLeast_22 : decode cX11_areLeast 22 = .ok (.istore 4, 2) := by decide +kernel
theorem dX11_areLeast_24 : decode cX11_areLeast 24 = .ok (.iload 4, 2) := by decide +kernel
theorem dX11_areLeast_26 : decode cX11_areLeast 26 = .ok (.iload_n 1, 1) := by decide +kernel
theorem dX11_areLeast_27 : decode cX11_areLeast 27 = .ok (.if_icmp .lt 15, 3) := by decide +kernel
theorem dX11_areLeast_30 : decode cX11_areLeast 30 = .ok (.iload 4, 2) := by decide +kernel
theorem dX11_areLeast_32 : decode cX11_areLeast 32 = .ok (.iload_n 1, 1) := by decide +kernel
theorem dX11_areLeast_33 : decode cX11_areLeast 33 = .ok (.if_icmp .le 11, 3) := by decide +kernel
theorem dX11_areLeast_36 : decode cX11_areLeast 36 = .ok (.iload 4, 2) := by decide +kernel
theorem dX11_areLeast_38 : decode cX11_areLeast 38 = .ok (.iload_n 2, 1) := by decide +kernel
theorem dX11_areLeast_39 : decode cX11_areLeast 39 = .ok (.if_icmp .ge 5, 3) := by decide +kernel
theorem dX11_areLeast_42 : decode cX11_areLeast 42 = .ok (.iconst 0, 1) := by decide +kernel
theorem dX11_areLeast_43 : decode cX11_areLeast 43 = .ok (.ireturn, 1) := by decide +kernel
theorem dX11_areLeast_44 : decode cX11_areLeast 44 = .ok (.aload_n 0, 1) := by decide +kernel
theorem dX11_areLeast_45 : decode cX11_areLeast 45 = .ok (.dup, 1) := by decide +kernel
theorem dX11_areLeast_46 : decode cX11_areLeast 46 = .ok (.getfield 266, 3) := by decide +kernel
theorem dX11_areLeast_49 : decode cX11_areLeast 49 = .ok (.aload_n 0, 1) := by decide +kernel
theorem dX11_areLeast_50 : decode cX11_areLeast 50 = .ok (.getfield 103, 3) := by decide +kernel
theorem dX11_areLeast_53 : decode cX11_areLeast 53 = .ok (.iload 4, 2) := by decide +kernel
theorem dX11_areLeast_55 : decode cX11_areLeast 55 = .ok (.iaload, 1) := by decide +kernel
theorem dX11_areLeast_56 : decode cX11_areLeast 56 = .ok (.ior, 1) := by decide +kernel
theorem dX11_areLeast_57 : decode cX11_areLeast 57 = .ok (.putfield 266, 3) := by decide +kernel
theorem dX11_areLeast_60 : decode cX11_areLeast 60 = .ok (.iinc 3 1, 3) := by decide +kernel
theorem dX11_areLeast_63 : decode cX11_areLeast 63 = .ok (.goto (-56), 3) := by decide +kernel
theorem dX11_areLeast_66 : decode cX11_areLeast 66 = .ok (.iconst 1, 1) := by decide +kernel
theorem dX11_areLeast_67 : decode cX11_areLeast 67 = .ok (.ireturn, 1) := by decide +kernel
theorem dX11_lines_0 : decode cX11_lines 0 = .ok (.iload_n 1, 1) := by decide +kernel
theorem dX11_lines_1 : decode cX11_lines 1 = .ok (.i2l, 1) := by decide +kernel
theorem dX11_lines_2 : decode cX11_lines 2 = .ok (.lconst 0, 1) := by decide +kernel
theorem dX11_lines_3 : decode cX11_lines 3 = .ok (.ldc2_w 269, 3) := by decide +kernel
theorem dX11_lines_6 : decode cX11_lines 6 = .ok (.invokestatic 126, 3) := by decide +kernel
theorem dX11_lines_9 : decode cX11_lines 9 = .ok (.ifCond .ne 6, 3) := by decide +kernel
theorem dX11_lines_12 : decode cX11_lines 12 = .ok (.bipush (-2), 2) := by decide +kernel
theorem dX11_lines_14 : decode cX11_lines 14 = .ok (.ireturn, 1) := by decide +kernel
theorem dX11_lines_15 : decode cX11_lines 15 = .ok (.aload_n 0, 1) := by decide +kernel
theorem dX11_lines_16 : decode cX11_lines 16 = .ok (.iload_n 1, 1) := by decide +kernel
theorem dX11_lines_17 : decode cX11_lines 17 = .ok (.invokevirtual 271, 3) := by decide +kernel
theorem dX11_lines_20 : decode cX11_lines 20 = .ok (.ifCond .ne 6, 3) := by decide +kernel
theorem dX11_lines_23 : decode cX11_lines 23 = .ok (.bipush (-3), 2) := by decide +kernel
theorem dX11_lines_25 : decode cX11_lines 25 = .ok (.ireturn, 1) := by decide +kernel
theorem dX11_lines_26 : decode cX11_lines 26 = .ok (.aload_n 0, 1) := by decide +kernel
theorem dX11_lines_27 : decode cX11_lines 27 = .ok (.iload_n 1, 1) := by decide +kernel
theorem dX11_lines_28 : decode cX11_lines 28 = .ok (.invokevirtual 274, 3) := by decide +kernel
theorem dX11_lines_31 : decode cX11_lines 31 = .ok (.iconst 0, 1) := by decide +kernel
theorem dX11_lines_32 : decode cX11_lines 32 = .ok (.istore_n 2, 1) := by decide +kernel
theorem dX11_lines_33 : decode cX11_lines 33 = .ok (.iconst 1, 1) := by decide +kernel
theorem dX11_lines_34 : decode cX11_lines 34 = .ok (.istore_n 3, 1) := by decide +kernel
theorem dX11_lines_35 : decode cX11_lines 35 = .ok (.iload_n 3, 1) := by decide +kernel
theorem dX11_lines_36 : decode cX11_lines 36 = .ok (.aload_n 0, 1) := by decide +kernel
theorem dX11_lines_37 : decode cX11_lines 37 = .ok (.getfield 116, 3) := by decide +kernel
theorem dX11_lines_40 : decode cX11_lines 40 = .ok (.aload_n 0, 1) := by decide +kernel
theorem dX11_lines_41 : decode cX11_lines 41 = .ok (.getfield 116, 3) := by decide +kernel
theorem dX11_lines_44 : decode cX11_lines 44 = .ok (.imul, 1) := by decide +kernel
theorem dX11_lines_45 : decode cX11_lines 45 = .ok (.aload_n 0, 1) := by decide +kernel
theorem dX11_lines_46 : decode cX11_lines 46 = .ok (.getfield 116, 3) := by decide +kernel
theorem dX11_lines_49 : decode cX11_lines 49 = .ok (.imul, 1) := by decide +kernel
theorem dX11_lines_50 : decode cX11_lines 50 = .ok (.aload_n 0, 1) := by decide +kernel
theorem dX11_lines_51 : decode cX11_lines 51 = .ok (.getfield 116, 3) := by decide +kernel
theorem dX11_lines_54 : decode cX11_lines 54 = .ok (.imul, 1) := by decide +kernel
theorem dX11_lines_55 : decode cX11_lines 55 = .ok (.if_icmp .ge 28, 3) := by decide +kernel
theorem dX11_lines_58 : decode cX11_lines 58 = .ok (.aload_n 0, 1) := by decide +kernel
theorem dX11_lines_59 : decode cX11_lines 59 = .ok (.iload_n 3, 1) := by decide +kernel
theorem dX11_lines_60 : decode cX11_lines 60 = .ok (.invokevirtual 251, 3) := by decide +kernel
theorem dX11_lines_63 : decode cX11_lines 63 = .ok (.iload_n 3, 1) := by decide +kernel
theorem dX11_lines_64 : decode cX11_lines 64 = .ok (.if_icmp .ne 13, 3) := by decide +kernel
theorem dX11_lines_67 : decode cX11_lines 67 = .ok (.aload_n 0, 1) := by decide +kernel
theorem dX11_lines_68 : decode cX11_lines 68 = .ok (.getfield 106, 3) := by decide +kernel
theorem dX11_lines_71 : decode cX11_lines 71 = .ok (.iload_n 2, 1) := by decide +kernel
theorem dX11_lines_72 : decode cX11_lines 72 = .ok (.iload_n 3, 1) := by decide +kernel
theorem dX11_lines_73 : decode cX11_lines 73 = .ok (.iastore, 1) := by decide +kernel
theorem dX11_lines_74 : decode cX11_lines 74 = .ok (.iinc 2 1, 3) := by decide +kernel
theorem dX11_lines_77 : decode cX11_lines 77 = .ok (.iinc 3 1, 3) := by decide +kernel
theorem dX11_lines_80 : decode cX11_lines 80 = .ok (.goto (-45), 3) := by decide +kernel
theorem dX11_lines_83 : decode cX11_lines 83 = .ok (.iconst 0, 1) := by decide +kernel
theorem dX11_lines_84 : decode cX11_lines 84 = .ok (.istore_n 3, 1) := by decide +kernel
theorem dX11_lines_85 : decode cX11_lines 85 = .ok (.iconst 0, 1) := by decide +kernel
theorem dX11_lines_86 : decode cX11_lines 86 = .ok (.istore 4, 2) := by decide +kernel
theorem dX11_lines_88 : decode cX11_lines 88 = .ok (.iload 4, 2) := by decide +kernel
theorem dX11_lines_90 : decode cX11_lines 90 = .ok (.iload_n 2, 1) := by decide +kernel
theorem dX11_lines_91 : decode cX11_lines 91 = .ok (.if_icmp .ge 66, 3) := by decide +kernel
theorem dX11_lines_94 : decode cX11_lines 94 = .ok (.iload 4, 2) := by decide +kernel
theorem dX11_lines_96 : decode cX11_lines 96 = .ok (.iconst 1, 1) := by decide +kernel
theorem dX11_lines_97 : decode cX11_lines 97 = .ok (.iadd, 1) := by decide +kernel
theorem dX11_lines_98 : decode cX11_lines 98 = .ok (.istore 5, 2) := by decide +kernel
theorem dX11_lines_100 : decode cX11_lines 100 = .ok (.iload 5, 2) := by decide +kernel
theorem dX11_lines_102 : decode cX11_lines 102 = .ok (.iload_n 2, 1) := by decide +kernel
theorem dX11_lines_103 : decode cX11_lines 103 = .ok (.if_icmp .ge 48, 3) := by decide +kernel
theorem dX11_lines_106 : decode cX11_lines 106 = .ok (.iload_n 3, 1) := by decide +kernel
theorem dX11_lines_107 : decode cX11_lines 107 = .ok (.aload_n 0, 1) := by decide +kernel
theorem dX11_lines_108 : decode cX11_lines 108 = .ok (.aload_n 0, 1) := by decide +kernel
theorem dX11_lines_109 : decode cX11_lines 109 = .ok (.getfield 106, 3) := by decide +kernel
theorem dX11_lines_112 : decode cX11_lines 112 = .ok (.iload 4, 2) := by decide +kernel
theorem dX11_lines_114 : decode cX11_lines 114 = .ok (.iaload, 1) := by decide +kernel
theorem dX11_lines_115 : decode cX11_lines 115 = .ok (.aload_n 0, 1) := by decide +kernel
theorem dX11_lines_116 : decode cX11_lines 116 = .ok (.getfield 106, 3) := by decide +kernel
theorem dX11_lines_119 : decode cX11_lines 119 = .ok (.iload 5, 2) := by decide +kernel
theorem dX11_lines_121 : decode cX11_lines 121 = .ok (.iaload, 1) := by decide +kernel
theorem dX11_lines_122 : decode cX11_lines 122 = .ok (.invokevirtual 277, 3) := by decide +kernel
theorem dX11_lines_125 : decode cX11_lines 125 = .ok (.ifCond .eq 17, 3) := by decide +kernel
theorem dX11_lines_128 : decode cX11_lines 128 = .ok (.aload_n 0, 1) := by decide +kernel
theorem dX11_lines_129 : decode cX11_lines 129 = .ok (.getfield 266, 3) := by decide +kernel
theorem dX11_lines_132 : decode cX11_lines 132 = .ok (.iload_n 1, 1) := by decide +kernel
theorem dX11_lines_133 : decode cX11_lines 133 = .ok (.iand, 1) := by decide +kernel
theorem dX11_lines_134 : decode cX11_lines 134 = .ok (.iload_n 1, 1) := by decide +kernel
theorem dX11_lines_135 : decode cX11_lines 135 = .ok (.if_icmp .ne 7, 3) := by decide +kernel
theorem dX11_lines_138 : decode cX11_lines 138 = .ok (.iconst 1, 1) := by decide +kernel
theorem dX11_lines_139 : decode cX11_lines 139 = .ok (.goto 4, 3) := by decide +kernel
theorem dX11_lines_142 : decode cX11_lines 142 = .ok (.iconst 0, 1) := by decide +kernel
theorem dX11_lines_143 : decode cX11_lines 143 = .ok (.iadd, 1) := by decide +kernel
theorem dX11_lines_144 : decode cX11_lines 144 = .ok (.istore_n 3, 1) := by decide +kernel
theorem dX11_lines_145 : decode cX11_lines 145 = .ok (.iinc 5 1, 3) := by decide +kernel
theorem dX11_lines_148 : decode cX11_lines 148 = .ok (.goto (-48), 3) := by decide +kernel
theorem dX11_lines_151 : decode cX11_lines 151 = .ok (.iinc 4 1, 3) := by decide +kernel
theorem dX11_lines_154 : decode cX11_lines 154 = .ok (.goto (-66), 3) := by decide +kernel
theorem dX11_lines_157 : decode cX11_lines 157 = .ok (.iload_n 3, 1) := by decide +kernel
theorem dX11_lines_158 : decode cX11_lines 158 = .ok (.ireturn, 1) := by decide +kernel
theorem dX11_points_0 : decode cX11_points 0 = .ok (.iload_n 1, 1) := by decide +kernel
theorem dX11_points_1 : decode cX11_points 1 = .ok (.i2l, 1) := by decide +kernel
theorem dX11_points_2 : decode cX11_points 2 = .ok (.lconst 0, 1) := by decide +kernel
theorem dX11_points_3 : decode cX11_points 3 = .ok (.ldc2_w 269, 3) := by decide +kernel
theorem dX11_points_6 : decode cX11_points 6 = .ok (.invokestatic 126, 3) := by decide +kernel
theorem dX11_points_9 : decode cX11_points 9 = .ok (.ifCond .ne 6, 3) := by decide +kernel
theorem dX11_points_12 : decode cX11_points 12 = .ok (.bipush (-2), 2) := by decide +kernel
theorem dX11_points_14 : decode cX11_points 14 = .ok (.ireturn, 1) := by decide +kernel
theorem dX11_points_15 : decode cX11_points 15 = .ok (.aload_n 0, 1) := by decide +kernel
theorem dX11_points_16 : decode cX11_points 16 = .ok (.iload_n 1, 1) := by decide +kernel
theorem dX11_points_17 : decode cX11_points 17 = .ok (.invokevirtual 271, 3) := by decide +kernel
theorem dX11_points_20 : decode cX11_points 20 = .ok (.ifCond .ne 6, 3) := by decide +kernel
theorem dX11_points_23 : decode cX11_points 23 = .ok (.bipush (-3), 2) := by decide +kernel
theorem dX11_points_25 : decode cX11_points 25 = .ok (.ireturn, 1) := by decide +kernel
theorem dX11_points_26 : decode cX11_points 26 = .ok (.aload_n 0, 1) := by decide +kernel
theorem dX11_points_27 : decode cX11_points 27 = .ok (.iload_n 1, 1) := by decide +kernel
theorem dX11_points_28 : decode cX11_points 28 = .ok (.invokevirtual 274, 3) := by decide +kernel
theorem dX11_points_31 : decode cX11_points 31 = .ok (.iconst 0, 1) := by decide +kernel
theorem dX11_points_32 : decode cX11_points 32 = .ok (.istore_n 2, 1) := by decide +kernel
theorem dX11_points_33 : decode cX11_points 33 = .ok (.iconst 0, 1) := by decide +kernel
theorem dX11_points_34 : decode cX11_points 34 = .ok (.istore_n 3, 1) := by decide +kernel
theorem dX11_points_35 : decode cX11_points 35 = .ok (.iload_n 3, 1) := by decide +kernel
theorem dX11_points_36 : decode cX11_points 36 = .ok (.sipush 625, 3) := by decide +kernel
theorem dX11_points_39 : decode cX11_points 39 = .ok (.if_icmp .ge 26, 3) := by decide +kernel
theorem dX11_points_42 : decode cX11_points 42 = .ok (.iload_n 2, 1) := by decide +kernel
theorem dX11_points_43 : decode cX11_points 43 = .ok (.aload_n 0, 1) := by decide +kernel
theorem dX11_points_44 : decode cX11_points 44 = .ok (.getfield 103, 3) := by decide +kernel
theorem dX11_points_47 : decode cX11_points 47 = .ok (.iload_n 3, 1) := by decide +kernel
theorem dX11_points_48 : decode cX11_points 48 = .ok (.iaload, 1) := by decide +kernel
theorem dX11_points_49 : decode cX11_points 49 = .ok (.ifCond .eq 7, 3) := by decide +kernel
theorem dX11_points_52 : decode cX11_points 52 = .ok (.iconst 1, 1) := by decide +kernel
theorem dX11_points_53 : decode cX11_points 53 = .ok (.goto 4, 3) := by decide +kernel
theorem dX11_points_56 : decode cX11_points 56 = .ok (.iconst 0, 1) := by decide +kernel
theorem dX11_points_57 : decode cX11_points 57 = .ok (.iadd, 1) := by decide +kernel
theorem dX11_points_58 : decode cX11_points 58 = .ok (.istore_n 2, 1) := by decide +kernel
theorem dX11_points_59 : decode cX11_points 59 = .ok (.iinc 3 1, 3) := by decide +kernel
theorem dX11_points_62 : decode cX11_points 62 = .ok (.goto (-27), 3) := by decide +kernel
theorem dX11_points_65 : decode cX11_points 65 = .ok (.iload_n 2, 1) := by decide +kernel
theorem dX11_points_66 : decode cX11_points 66 = .ok (.ireturn, 1) := by decide +kernel
theorem dX11_count_0 : decode cX11_count 0 = .ok (.iconst 0, 1) := by decide +kernel
theorem dX11_count_1 : decode cX11_count 1 = .ok (.istore_n 2, 1) := by decide +kernel
theorem dX11_count_2 : decode cX11_count 2 = .ok (.iload_n 1, 1) := by decide +kernel
theorem dX11_count_3 : decode cX11_count 3 = .ok (.tableswitch 123 0 5 #[37, 70, 75, 80, 85, 90], 37) := by decide +kernel
theorem dX11_count_40 : decode cX11_count 40 = .ok (.iconst 0, 1) := by decide +kernel
theorem dX11_count_41 : decode cX11_count 41 = .ok (.istore_n 3, 1) := by decide +kernel
theorem dX11_count_42 : decode cX11_count 42 = .ok (.iload_n 3, 1) := by decide +kernel
theorem dX11_count_43 : decode cX11_count 43 = .ok (.bipush 12, 2) := by decide +kernel
theorem dX11_count_45 : decode cX11_count 45 = .ok (.if_icmp .ge 26, 3) := by decide +kernel
theorem dX11_count_48 : decode cX11_count 48 = .ok (.iload_n 2, 1) := by decide +kernel
theorem dX11_count_49 : decode cX11_count 49 = .ok (.aload_n 0, 1) := by decide +kernel
theorem dX11_count_50 : decode cX11_count 50 = .ok (.getfield 16, 3) := by decide +kernel
theorem dX11_count_53 : decode cX11_count 53 = .ok (.iload_n 3, 1) := by decide +kernel
theorem dX11_count_54 : decode cX11_count 54 = .ok (.baload, 1) := by decide +kernel
theorem dX11_count_55 : decode cX11_count 55 = .ok (.ifCond .eq 7, 3) := by decide +kernel
theorem dX11_count_58 : decode cX11_count 58 = .ok (.iconst 1, 1) := by decide +kernel
theorem dX11_count_59 : decode cX11_count 59 = .ok (.goto 4, 3) := by decide +kernel
theorem dX11_count_62 : decode cX11_count 62 = .ok (.iconst 0, 1) := by decide +kernel
theorem dX11_count_63 : decode cX11_count 63 = .ok (.iadd, 1) := by decide +kernel
theorem dX11_count_64 : decode cX11_count 64 = .ok (.istore_n 2, 1) := by decide +kernel
theorem dX11_count_65 : decode cX11_count 65 = .ok (.iinc 3 1, 3) := by decide +kernel
theorem dX11_count_68 : decode cX11_count 68 = .ok (.goto (-26), 3) := by decide +kernel
theorem dX11_count_71 : decode cX11_count 71 = .ok (.iload_n 2, 1) := by decide +kernel
theorem dX11_count_72 : decode cX11_count 72 = .ok (.ireturn, 1) := by decide +kernel
theorem dX11_count_73 : decode cX11_count 73 = .ok (.aload_n 0, 1) := by decide +kernel
theorem dX11_count_74 : decode cX11_count 74 = .ok (.getfield 234, 3) := by decide +kernel
theorem dX11_count_77 : decode cX11_count 77 = .ok (.ireturn, 1) := by decide +kernel
theorem dX11_count_78 : decode cX11_count 78 = .ok (.aload_n 0, 1) := by decide +kernel
theorem dX11_count_79 : decode cX11_count 79 = .ok (.getfield 109, 3) := by decide +kernel
theorem dX11_count_82 : decode cX11_count 82 = .ok (.ireturn, 1) := by decide +kernel
theorem dX11_count_83 : decode cX11_count 83 = .ok (.aload_n 0, 1) := by decide +kernel
theorem dX11_count_84 : decode cX11_count 84 = .ok (.getfield 113, 3) := by decide +kernel
theorem dX11_count_87 : decode cX11_count 87 = .ok (.ireturn, 1) := by decide +kernel
theorem dX11_count_88 : decode cX11_count 88 = .ok (.aload_n 0, 1) := by decide +kernel
theorem dX11_count_89 : decode cX11_count 89 = .ok (.getfield 116, 3) := by decide +kernel
theorem dX11_count_92 : decode cX11_count 92 = .ok (.ireturn, 1) := by decide +kernel
theorem dX11_count_93 : decode cX11_count 93 = .ok (.iconst 0, 1) := by decide +kernel
theorem dX11_count_94 : decode cX11_count 94 = .ok (.istore_n 3, 1) := by decide +kernel
theorem dX11_count_95 : decode cX11_count 95 = .ok (.iload_n 3, 1) := by decide +kernel
theorem dX11_count_96 : decode cX11_count 96 = .ok (.bipush 8, 2) := by decide +kernel
theorem dX11_count_98 : decode cX11_count 98 = .ok (.if_icmp .ge 26, 3) := by decide +kernel
theorem dX11_count_101 : decode cX11_count 101 = .ok (.iload_n 2, 1) := by decide +kernel
theorem dX11_count_102 : decode cX11_count 102 = .ok (.aload_n 0, 1) := by decide +kernel
theorem dX11_count_103 : decode cX11_count 103 = .ok (.getfield 82, 3) := by decide +kernel
theorem dX11_count_106 : decode cX11_count 106 = .ok (.iload_n 3, 1) := by decide +kernel
theorem dX11_count_107 : decode cX11_count 107 = .ok (.baload, 1) := by decide +kernel
theorem dX11_count_108 : decode cX11_count 108 = .ok (.ifCond .eq 7, 3) := by decide +kernel
theorem dX11_count_111 : decode cX11_count 111 = .ok (.iconst 1, 1) := by decide +kernel
theorem dX11_count_112 : decode cX11_count 112 = .ok (.goto 4, 3) := by decide +kernel
theorem dX11_count_115 : decode cX11_count 115 = .ok (.iconst 0, 1) := by decide +kernel
theorem dX11_count_116 : decode cX11_count 116 = .ok (.iadd, 1) := by decide +kernel
theorem dX11_count_117 : decode cX11_count 117 = .ok (.istore_n 2, 1) := by decide +kernel
theorem dX11_count_118 : decode cX11_count 118 = .ok (.iinc 3 1, 3) := by decide +kernel
theorem dX11_count_121 : decode cX11_count 121 = .ok (.goto (-26), 3) := by decide +kernel
theorem dX11_count_124 : decode cX11_count 124 = .ok (.iload_n 2, 1) := by decide +kernel
theorem dX11_count_125 : decode cX11_count 125 = .ok (.ireturn, 1) := by decide +kernel
theorem dX11_count_126 : decode cX11_count 126 = .ok (.bipush (-2), 2) := by decide +kernel
theorem dX11_count_128 : decode cX11_count 128 = .ok (.ireturn, 1) := by decide +kernel
theorem dX11_digest_0 : decode cX11_digest 0 = .ok (.ldc2_w 280, 3) := by decide +kernel
theorem dX11_digest_3 : decode cX11_digest 3 = .ok (.lstore_n 1, 1) := by decide +kernel
theorem dX11_digest_4 : decode cX11_digest 4 = .ok (.iconst 0, 1) := by decide +kernel
theorem dX11_digest_5 : decode cX11_digest 5 = .ok (.istore_n 3, 1) := by decide +kernel
theorem dX11_digest_6 : decode cX11_digest 6 = .ok (.iload_n 3, 1) := by decide +kernel
theorem dX11_digest_7 : decode cX11_digest 7 = .ok (.bipush 6, 2) := by decide +kernel
theorem dX11_digest_9 : decode cX11_digest 9 = .ok (.if_icmp .ge 22, 3) := by decide +kernel
theorem dX11_digest_12 : decode cX11_digest 12 = .ok (.ldc2_w 282, 3) := by decide +kernel
theorem dX11_digest_15 : decode cX11_digest 15 = .ok (.lload_n 1, 1) := by decide +kernel
theorem dX11_digest_16 : decode cX11_digest 16 = .ok (.lmul, 1) := by decide +kernel
theorem dX11_digest_17 : decode cX11_digest 17 = .ok (.aload_n 0, 1) := by decide +kernel
theorem dX11_digest_18 : decode cX11_digest 18 = .ok (.iload_n 3, 1) := by decide +kernel
theorem dX11_digest_19 : decode cX11_digest 19 = .ok (.invokevirtual 284, 3) := by decide +kernel
theorem dX11_digest_22 : decode cX11_digest 22 = .ok (.i2l, 1) := by decide +kernel
theorem dX11_digest_23 : decode cX11_digest 23 = .ok (.ladd, 1) := by decide +kernel
theorem dX11_digest_24 : decode cX11_digest 24 = .ok (.lstore_n 1, 1) := by decide +kernel
theorem dX11_digest_25 : decode cX11_digest 25 = .ok (.iinc 3 1, 3) := by decide +kernel
theorem dX11_digest_28 : decode cX11_digest 28 = .ok (.goto (-22), 3) := by decide +kernel
theorem dX11_digest_31 : decode cX11_digest 31 = .ok (.iconst 0, 1) := by decide +kernel
theorem dX11_digest_32 : decode cX11_digest 32 = .ok (.istore_n 3, 1) := by decide +kernel
theorem dX11_digest_33 : decode cX11_digest 33 = .ok (.iload_n 3, 1) := by decide +kernel
theorem dX11_digest_34 : decode cX11_digest 34 = .ok (.bipush 12, 2) := by decide +kernel
theorem dX11_digest_36 : decode cX11_digest 36 = .ok (.if_icmp .ge 102, 3) := by decide +kernel
theorem dX11_digest_39 : decode cX11_digest 39 = .ok (.aload_n 0, 1) := by decide +kernel
theorem dX11_digest_40 : decode cX11_digest 40 = .ok (.getfield 16, 3) := by decide +kernel
theorem dX11_digest_43 : decode cX11_digest 43 = .ok (.iload_n 3, 1) := by decide +kernel
theorem dX11_digest_44 : decode cX11_digest 44 = .ok (.baload, 1) := by decide +kernel
theorem dX11_digest_45 : decode cX11_digest 45 = .ok (.ifCond .eq 87, 3) := by decide +kernel
theorem dX11_digest_48 : decode cX11_digest 48 = .ok (.ldc2_w 282, 3) := by decide +kernel
theorem dX11_digest_51 : decode cX11_digest 51 = .ok (.lload_n 1, 1) := by decide +kernel
theorem dX11_digest_52 : decode cX11_digest 52 = .ok (.lmul, 1) := by decide +kernel
theorem dX11_digest_53 : decode cX11_digest 53 = .ok (.iload_n 3, 1) := by decide +kernel
theorem dX11_digest_54 : decode cX11_digest 54 = .ok (.i2l, 1) := by decide +kernel
theorem dX11_digest_55 : decode cX11_digest 55 = .ok (.ladd, 1) := by decide +kernel
theorem dX11_digest_56 : decode cX11_digest 56 = .ok (.lstore_n 1, 1) := by decide +kernel
theorem dX11_digest_57 : decode cX11_digest 57 = .ok (.ldc2_w 282, 3) := by decide +kernel
theorem dX11_digest_60 : decode cX11_digest 60 = .ok (.lload_n 1, 1) := by decide +kernel
theorem dX11_digest_61 : decode cX11_digest 61 = .ok (.lmul, 1) := by decide +kernel
theorem dX11_digest_62 : decode cX11_digest 62 = .ok (.aload_n 0, 1) := by decide +kernel
theorem dX11_digest_63 : decode cX11_digest 63 = .ok (.getfield 20, 3) := by decide +kernel
theorem dX11_digest_66 : decode cX11_digest 66 = .ok (.iload_n 3, 1) := by decide +kernel
theorem dX11_digest_67 : decode cX11_digest 67 = .ok (.iaload, 1) := by decide +kernel
theorem dX11_digest_68 : decode cX11_digest 68 = .ok (.i2l, 1) := by decide +kernel
theorem dX11_digest_69 : decode cX11_digest 69 = .ok (.ladd, 1) := by decide +kernel
theorem dX11_digest_70 : decode cX11_digest 70 = .ok (.lstore_n 1, 1) := by decide +kernel
theorem dX11_digest_71 : decode cX11_digest 71 = .ok (.iconst 0, 1) := by decide +kernel
theorem dX11_digest_72 : decode cX11_digest 72 = .ok (.istore 4, 2) := by decide +kernel
theorem dX11_digest_74 : decode cX11_digest 74 = .ok (.iload 4, 2) := by decide +kernel
theorem dX11_digest_76 : decode cX11_digest 76 = .ok (.aload_n 0, 1) := by decide +kernel
theorem dX11_digest_77 : decode cX11_digest 77 = .ok (.getfield 20, 3) := by decide +kernel
theorem dX11_digest_80 : decode cX11_digest 80 = .ok (.iload_n 3, 1) := by decide +kernel
theorem dX11_digest_81 : decode cX11_digest 81 = .ok (.iaload, 1) := by decide +kernel
theorem dX11_digest_82 : decode cX11_digest 82 = .ok (.if_icmp .ge 50, 3) := by decide +kernel
theorem dX11_digest_85 : decode cX11_digest 85 = .ok (.ldc2_w 282, 3) := by decide +kernel
theorem dX11_digest_88 : decode cX11_digest 88 = .ok (.lload_n 1, 1) := by decide +kernel
theorem dX11_digest_89 : decode cX11_digest 89 = .ok (.lmul, 1) := by decide +kernel
theorem dX11_digest_90 : decode cX11_digest 90 = .ok (.aload_n 0, 1) := by decide +kernel
theorem dX11_digest_91 : decode cX11_digest 91 = .ok (.getfield 23, 3) := by decide +kernel
theorem dX11_digest_94 : decode cX11_digest 94 = .ok (.sipush 600, 3) := by decide +kernel
theorem dX11_digest_97 : decode cX11_digest 97 = .ok (.iload_n 3, 1) := by decide +kernel
theorem dX11_digest_98 : decode cX11_digest 98 = .ok (.imul, 1) := by decide +kernel
theorem dX11_digest_99 : decode cX11_digest 99 = .ok (.iload 4, 2) := by decide +kernel
theorem dX11_digest_101 : decode cX11_digest 101 = .ok (.iadd, 1) := by decide +kernel
theorem dX11_digest_102 : decode cX11_digest 102 = .ok (.iaload, 1) := by decide +kernel
theorem dX11_digest_103 : decode cX11_digest 103 = .ok (.i2l, 1) := by decide +kernel
theorem dX11_digest_104 : decode cX11_digest 104 = .ok (.ladd, 1) := by decide +kernel
theorem dX11_digest_105 : decode cX11_digest 105 = .ok (.lstore_n 1, 1) := by decide +kernel
theorem dX11_digest_106 : decode cX11_digest 106 = .ok (.ldc2_w 282, 3) := by decide +kernel
theorem dX11_digest_109 : decode cX11_digest 109 = .ok (.lload_n 1, 1) := by decide +kernel
theorem dX11_digest_110 : decode cX11_digest 110 = .ok (.lmul, 1) := by decide +kernel
theorem dX11_digest_111 : decode cX11_digest 111 = .ok (.aload_n 0, 1) := by decide +kernel
theorem dX11_digest_112 : decode cX11_digest 112 = .ok (.getfield 26, 3) := by decide +kernel
theorem dX11_digest_115 : decode cX11_digest 115 = .ok (.sipush 600, 3) := by decide +kernel
theorem dX11_digest_118 : decode cX11_digest 118 = .ok (.iload_n 3, 1) := by decide +kernel
theorem dX11_digest_119 : decode cX11_digest 119 = .ok (.imul, 1) := by decide +kernel
theorem dX11_digest_120 : decode cX11_digest 120 = .ok (.iload 4, 2) := by decide +kernel
theorem dX11_digest_122 : decode cX11_digest 122 = .ok (.iadd, 1) := by decide +kernel
theorem dX11_digest_123 : decode cX11_digest 123 = .ok (.laload, 1) := by decide +kernel
theorem dX11_digest_124 : decode cX11_digest 124 = .ok (.ladd, 1) := by decide +kernel
theorem dX11_digest_125 : decode cX11_digest 125 = .ok (.lstore_n 1, 1) := by decide +kernel
theorem dX11_digest_126 : decode cX11_digest 126 = .ok (.iinc 4 1, 3) := by decide +kernel
theorem dX11_digest_129 : decode cX11_digest 129 = .ok (.goto (-55), 3) := by decide +kernel
theorem dX11_digest_132 : decode cX11_digest 132 = .ok (.iinc 3 1, 3) := by decide +kernel
theorem dX11_digest_135 : decode cX11_digest 135 = .ok (.goto (-102), 3) := by decide +kernel
theorem dX11_digest_138 : decode cX11_digest 138 = .ok (.iconst 0, 1) := by decide +kernel
theorem dX11_digest_139 : decode cX11_digest 139 = .ok (.istore_n 3, 1) := by decide +kernel
theorem dX11_digest_140 : decode cX11_digest 140 = .ok (.iload_n 3, 1) := by decide +kernel
theorem dX11_digest_141 : decode cX11_digest 141 = .ok (.aload_n 0, 1) := by decide +kernel
theorem dX11_digest_142 : decode cX11_digest 142 = .ok (.getfield 234, 3) := by decide +kernel
theorem dX11_digest_145 : decode cX11_digest 145 = .ok (.if_icmp .ge 23, 3) := by decide +kernel
theorem dX11_digest_148 : decode cX11_digest 148 = .ok (.ldc2_w 282, 3) := by decide +kernel
theorem dX11_digest_151 : decode cX11_digest 151 = .ok (.lload_n 1, 1) := by decide +kernel
theorem dX11_digest_152 : decode cX11_digest 152 = .ok (.lmul, 1) := by decide +kernel
theorem dX11_digest_153 : decode cX11_digest 153 = .ok (.aload_n 0, 1) := by decide +kernel
theorem dX11_digest_154 : decode cX11_digest 154 = .ok (.getfield 70, 3) := by decide +kernel
theorem dX11_digest_157 : decode cX11_digest 157 = .ok (.iload_n 3, 1) := by decide +kernel
theorem dX11_digest_158 : decode cX11_digest 158 = .ok (.iaload, 1) := by decide +kernel
theorem dX11_digest_159 : decode cX11_digest 159 = .ok (.i2l, 1) := by decide +kernel
theorem dX11_digest_160 : decode cX11_digest 160 = .ok (.ladd, 1) := by decide +kernel
theorem dX11_digest_161 : decode cX11_digest 161 = .ok (.lstore_n 1, 1) := by decide +kernel
theorem dX11_digest_162 : decode cX11_digest 162 = .ok (.iinc 3 1, 3) := by decide +kernel
theorem dX11_digest_165 : decode cX11_digest 165 = .ok (.goto (-25), 3) := by decide +kernel
theorem dX11_digest_168 : decode cX11_digest 168 = .ok (.lload_n 1, 1) := by decide +kernel
theorem dX11_digest_169 : decode cX11_digest 169 = .ok (.lreturn, 1) := by decide +kernel
end
section
/-! ===== worlds of fixed shape: the references stay as they are made; what changes are ints (G: cell, place) and longs (L) ===== -/
/-- a cell's shape: 0 ints (tag, length), 1 longs, 2 references, 3 an object (class; of each field its reference, or none: an int) -/
abbrev fw_T : Type := Nat → Option (Nat × Nat × Nat × List (Option Nat))
def fw_fs (g : Nat → Int32) : Nat → List (Option Nat) → List Value
  | _, [] => []
  | k, some r :: rs => .ref r :: fw_fs g (k + 1) rs
  | k, none :: rs => .int (g k) :: fw_fs g (k + 1) rs
def fw_c (i : Nat) (G : Nat → Nat → Int32) (L : Nat → Nat → Int64) : Nat × Nat × Nat × List (Option Nat) → fv_C
  | (0, t, n, _) => .inl (t, n, .inl (G i))
  | (1, t, n, _) => .inl (t, n, .inr (.inl (L i)))
  | (2, t, n, rs) => .inl (t, n, .inr (.inr (.inr (.inr (fun j => rs.getD j none)))))
  | (_, c, _, rs) => .inr (c, fw_fs (G i) 0 rs)
def fw (T : fw_T) (G : Nat → Nat → Int32) (L : Nat → Nat → Int64) : fv_F := fun i => (T i).map (fw_c i G L)
def g2 {α : Type} (G : Nat → Nat → α) (a k : Nat) (x : α) : Nat → Nat → α := fun i j => if i = a ∧ j = k then x else G i j
theorem g2_eq {α : Type} (G : Nat → Nat → α) (a k : Nat) (x : α) : g2 G a k x a k = x := if_pos ⟨rfl, rfl⟩
theorem g2_ne {α : Type} (G : Nat → Nat → α) {a k i j : Nat} (x : α) (h : ¬ (i = a ∧ j = k)) : g2 G a k x i j = G i j := if_neg h
theorem g2_row {α : Type} (G : Nat → Nat → α) {a k i : Nat} (x : α) (h : i ≠ a) : g2 G a k x i = G i := funext fun j => if_neg fun q => h q.1
theorem fw_at {T : fw_T} {G : Nat → Nat → Int32} {L : Nat → Nat → Int64} {a : Nat} {c : Nat × Nat × Nat × List (Option Nat)} (h : T a = some c) : fw T G L a = some (fw_c a G L c) := by
  unfold fw
  rw [h]
  rfl
theorem fw_fsN {g : Nat → Int32} {rs : List (Option Nat)} {j : Nat} (h : rs[j]? = some none) : ∀ k, (fw_fs g k rs)[j]? = some (.int (g (k + j))) := by
  induction rs generalizing j with
  | nil => cases h
  | cons r rs ih =>
    intro k
    cases j with
    | zero =>
      cases h
      rfl
    | succ j =>
      have h2 : rs[j]? = some none := h
      cases r with
      | none =>
        show (fw_fs g (k + 1) rs)[j]? = _
        rw [ih h2 (k + 1), Nat.add_assoc, Nat.add_comm 1 j]
      | some r =>
        show (fw_fs g (k + 1) rs)[j]? = _
        rw [ih h2 (k + 1), Nat.add_assoc, Nat.add_comm 1 j]
theorem fw_fsR {g : Nat → Int32} {rs : List (Option Nat)} {j r : Nat} (h : rs[j]? = some (some r)) : ∀ k, (fw_fs g k rs)[j]? = some (.ref r) := by
  induction rs generalizing j with
  | nil => cases h
  | cons r0 rs ih =>
    intro k
    cases j with
    | zero =>
      cases h
      rfl
    | succ j =>
      have h2 : rs[j]? = some (some r) := h
      cases r0 <;> exact ih h2 (k + 1)
theorem fw_fsS {g g' : Nat → Int32} {rs : List (Option Nat)} {j : Nat} {x : Int32} (h : rs[j]? = some none) : ∀ k, (∀ i, i ≠ k + j → g' i = g i) → g' (k + j) = x → (fw_fs g k rs).set j (.int x) = fw_fs g' k rs := by
  induction rs generalizing j with
  | nil => cases h
  | cons r0 rs ih =>
    intro k h1 h2
    have same : ∀ (rs : List (Option Nat)) (k0 : Nat), k + j < k0 → fw_fs g k0 rs = fw_fs g' k0 rs := by
      intro rs
      induction rs with
      | nil => intro _ _; rfl
      | cons r rs ih2 =>
        intro k0 hk
        cases r with
        | none =>
          show Value.int (g k0) :: fw_fs g (k0 + 1) rs = Value.int (g' k0) :: fw_fs g' (k0 + 1) rs
          rw [ih2 (k0 + 1) (by omega), h1 k0 (by omega)]
        | some r =>
          show Value.ref r :: fw_fs g (k0 + 1) rs = Value.ref r :: fw_fs g' (k0 + 1) rs
          rw [ih2 (k0 + 1) (by omega)]
    cases j with
    | zero =>
      cases h
      show Value.int x :: fw_fs g (k + 1) rs = Value.int (g' k) :: fw_fs g' (k + 1) rs
      rw [same rs (k + 1) (by omega), show g' k = x from h2]
    | succ j =>
      have h3 : rs[j]? = some none := h
      have e : k + (j + 1) = (k + 1) + j := by omega
      rw [e] at h1 h2
      cases r0 with
      | none =>
        show Value.int (g k) :: (fw_fs g (k + 1) rs).set j (.int x) = Value.int (g' k) :: fw_fs g' (k + 1) rs
        rw [ih h3 (k + 1) h1 h2, h1 k (by omega)]
      | some r =>
        show Value.ref r :: (fw_fs g (k + 1) rs).set j (.int x) = Value.ref r :: fw_fs g' (k + 1) rs
        rw [ih h3 (k + 1) h1 h2]
theorem fw_fsL {g : Nat → Int32} {rs : List (Option Nat)} : ∀ k, (fw_fs g k rs).length = rs.length := by
  induction rs with
  | nil => intro _; rfl
  | cons r rs ih => intro k; cases r <;> exact congrArg (· + 1) (ih (k + 1))
theorem fw_other {T : fw_T} {G G' : Nat → Nat → Int32} {L L' : Nat → Nat → Int64} {a : Nat} {c : Nat × Nat × Nat × List (Option Nat)} {cell : fv_C} (hT : T a = some c) (h : fw_c a G' L' c = cell) (hG : ∀ i, i ≠ a → G' i = G i) (hL : ∀ i, i ≠ a → L' i = L i) : fv_set (fw T G L) a cell = fw T G' L' := by
  funext i
  by_cases e : i = a
  · subst e
    rw [fv_set_self, fw_at hT, h]
  · rw [fv_set_ne _ _ e]
    unfold fw
    cases T i with
    | none => rfl
    | some c =>
      show some (fw_c i G L c) = some (fw_c i G' L' c)
      obtain ⟨q, t, n, rs⟩ := c
      match q with
      | 0 => simp only [fw_c, hG i e]
      | 1 => simp only [fw_c, hL i e]
      | 2 => rfl
      | q + 3 => simp only [fw_c, hG i e]
theorem fw_setI {T : fw_T} {G : Nat → Nat → Int32} {L : Nat → Nat → Int64} {a t n j : Nat} {rs : List (Option Nat)} {x : Int32} (hT : T a = some (0, t, n, rs)) : fv_set (fw T G L) a (.inl (t, n, .inl (upd (G a) j x))) = fw T (g2 G a j x) L := by
  refine fw_other hT ?_ (fun i e => g2_row G x e) (fun _ _ => rfl)
  show (Sum.inl (t, n, .inl (g2 G a j x a)) : fv_C) = _
  congr 4
  funext k
  by_cases e : k = j
  · subst e; simp [g2, upd]
  · simp [g2, upd, e]
theorem fw_setL {T : fw_T} {G : Nat → Nat → Int32} {L : Nat → Nat → Int64} {a t n j : Nat} {rs : List (Option Nat)} {x : Int64} (hT : T a = some (1, t, n, rs)) : fv_set (fw T G L) a (.inl (t, n, .inr (.inl (vp_updL (L a) j x)))) = fw T G (g2 L a j x) := by
  refine fw_other hT ?_ (fun _ _ => rfl) (fun i e => g2_row L x e)
  show (Sum.inl (t, n, .inr (.inl (g2 L a j x a))) : fv_C) = _
  congr 5
  funext k
  by_cases e : k = j
  · subst e; simp [g2, vp_updL]
  · simp [g2, vp_updL, e]
theorem fw_setF {T : fw_T} {G : Nat → Nat → Int32} {L : Nat → Nat → Int64} {a c n j : Nat} {rs : List (Option Nat)} {x : Int32} (hT : T a = some (3, c, n, rs)) (hj : rs[j]? = some none) : fv_set (fw T G L) a (.inr (c, (fw_fs (G a) 0 rs).set j (.int x))) = fw T (g2 G a j x) L := by
  refine fw_other hT ?_ (fun i e => g2_row G x e) (fun _ _ => rfl)
  show (Sum.inr (c, fw_fs (g2 G a j x a) 0 rs) : fv_C) = _
  rw [fw_fsS hj 0 (g' := g2 G a j x a) (x := x) (fun i hi => g2_ne G x (by omega)) (by rw [Nat.zero_add]; exact g2_eq G a j x)]
section FW
variable {y : fv_Y} {d mc ms : Nat} {Q : Option Value → fv_F → Option Nat → Prop} {pc : Nat} {lv : fv_L} {st : List Value} {T : fw_T} {G : Nat → Nat → Int32} {L : Nat → Nat → Int64} {al : Option Nat} {k t : Nat}
theorem fw_geti {a idx ci j n : Nat} {fin : Bool} {ty : FieldType} {rs : List (Option Nat)} (hd : decode y.2.1 pc = .ok (.getfield idx, 3)) (hp : fv_fd y.1.cls idx ci j fin ty) (hT : T a = some (3, ci, n, rs)) (hj : rs[j]? = some none) (kk : fv_At y d mc ms Q (pc + 3) lv (.int (G a j) :: st) (fw T G L) al k t) : fv_At y d mc ms Q pc lv (.ref a :: st) (fw T G L) al k t :=
  fx_getf hd hp (fw_at hT) (v := .int (G a j)) ((fw_fsN hj 0).trans (by rw [Nat.zero_add])) kk
theorem fw_getr {a idx ci j n r : Nat} {fin : Bool} {ty : FieldType} {rs : List (Option Nat)} (hd : decode y.2.1 pc = .ok (.getfield idx, 3)) (hp : fv_fd y.1.cls idx ci j fin ty) (hT : T a = some (3, ci, n, rs)) (hj : rs[j]? = some (some r)) (kk : fv_At y d mc ms Q (pc + 3) lv (.ref r :: st) (fw T G L) al k t) : fv_At y d mc ms Q pc lv (.ref a :: st) (fw T G L) al k t :=
  fx_getf hd hp (fw_at hT) (fw_fsR hj 0) kk
theorem fw_puti {a idx ci j n : Nat} {rs : List (Option Nat)} {x : Int32} (hd : decode y.2.1 pc = .ok (.putfield idx, 3)) (hp : fv_fd y.1.cls idx ci j false .int) (hT : T a = some (3, ci, n, rs)) (hj : rs[j]? = some none) (kk : fv_At y d mc ms Q (pc + 3) lv st (fw T (g2 G a j x) L) al k t) : fv_At y d mc ms Q pc lv (.int x :: .ref a :: st) (fw T G L) al k t :=
  fx_putf hd hp (fw_at hT) (fun _ => rfl) (fun _ => rfl) (by rw [fw_fsL]; exact (List.getElem?_eq_some_iff.mp hj).1) (by rw [fw_setF hT hj]; exact kk)
theorem fw_putz {a idx ci j n : Nat} {rs : List (Option Nat)} {x : Int32} (hd : decode y.2.1 pc = .ok (.putfield idx, 3)) (hp : fv_fd y.1.cls idx ci j false .boolean) (hx : x = 0 ∨ x = 1) (hT : T a = some (3, ci, n, rs)) (hj : rs[j]? = some none) (kk : fv_At y d mc ms Q (pc + 3) lv st (fw T (g2 G a j x) L) al k t) : fv_At y d mc ms Q pc lv (.int x :: .ref a :: st) (fw T G L) al k t :=
  fx_putf hd hp (fw_at hT) (fun _ => by rcases hx with h | h <;> subst h <;> rfl) (fun _ => by rcases hx with h | h <;> subst h <;> rfl) (by rw [fw_fsL]; exact (List.getElem?_eq_some_iff.mp hj).1) (by rw [fw_setF hT hj]; exact kk)
theorem fw_iald {a n : Nat} {rs : List (Option Nat)} {i : Int32} (j : Nat) (hd : decode y.2.1 pc = .ok (.iaload, 1)) (hT : T a = some (0, 0, n, rs)) (hi : i = nI j) (hj : j < n) (hn : n < 2 ^ 31) (kk : fv_At y d mc ms Q (pc + 1) lv (.int (G a j) :: st) (fw T G L) al k t) : fv_At y d mc ms Q pc lv (.int i :: .ref a :: st) (fw T G L) al k t :=
  fx_iald j hd (fw_at hT) hi hj hn kk
theorem fw_zald {a n : Nat} {rs : List (Option Nat)} {i : Int32} (j : Nat) (hd : decode y.2.1 pc = .ok (.baload, 1)) (hT : T a = some (0, 2, n, rs)) (hi : i = nI j) (hj : j < n) (hn : n < 2 ^ 31) (kk : fv_At y d mc ms Q (pc + 1) lv (.int (G a j) :: st) (fw T G L) al k t) : fv_At y d mc ms Q pc lv (.int i :: .ref a :: st) (fw T G L) al k t :=
  fx_zald j hd (fw_at hT) hi hj hn kk
theorem fw_lald {a n : Nat} {rs : List (Option Nat)} {i : Int32} (j : Nat) (hd : decode y.2.1 pc = .ok (.laload, 1)) (hT : T a = some (1, 1, n, rs)) (hi : i = nI j) (hj : j < n) (hn : n < 2 ^ 31) (kk : fv_At y d mc ms Q (pc + 1) lv (.long (L a j) :: st) (fw T G L) al k t) : fv_At y d mc ms Q pc lv (.int i :: .ref a :: st) (fw T G L) al k t :=
  fx_lald j hd (fw_at hT) hi hj hn kk
theorem fw_aald {a n ta r : Nat} {rs : List (Option Nat)} {i : Int32} (j : Nat) (hd : decode y.2.1 pc = .ok (.aaload, 1)) (hT : T a = some (2, ta, n, rs)) (hta : ta = 3 ∨ ta = 4 ∨ ta = 5) (hi : i = nI j) (hj : j < n) (hn : n < 2 ^ 31) (hr : rs.getD j none = some r) (kk : fv_At y d mc ms Q (pc + 1) lv (.ref r :: st) (fw T G L) al k t) : fv_At y d mc ms Q pc lv (.int i :: .ref a :: st) (fw T G L) al k t :=
  fx_aald j hd (fw_at hT) hta hi hj hn (by rw [hr]; exact kk)
theorem fw_iast {a n : Nat} {rs : List (Option Nat)} {i x : Int32} (j : Nat) (hd : decode y.2.1 pc = .ok (.iastore, 1)) (hT : T a = some (0, 0, n, rs)) (hi : i = nI j) (hj : j < n) (hn : n < 2 ^ 31) (kk : fv_At y d mc ms Q (pc + 1) lv st (fw T (g2 G a j x) L) al k t) : fv_At y d mc ms Q pc lv (.int x :: .int i :: .ref a :: st) (fw T G L) al k t :=
  fx_iast j hd (fw_at hT) hi hj hn (by rw [fw_setI hT]; exact kk)
theorem fw_zast {a n : Nat} {rs : List (Option Nat)} {i x : Int32} (j : Nat) (hd : decode y.2.1 pc = .ok (.bastore, 1)) (hx : x = 0 ∨ x = 1) (hT : T a = some (0, 2, n, rs)) (hi : i = nI j) (hj : j < n) (hn : n < 2 ^ 31) (kk : fv_At y d mc ms Q (pc + 1) lv st (fw T (g2 G a j x) L) al k t) : fv_At y d mc ms Q pc lv (.int x :: .int i :: .ref a :: st) (fw T G L) al k t := by
  have e : vp_nar .boolean x = x := by rcases hx with h | h <;> subst h <;> rfl
  exact fx_zast j hd (fw_at hT) hi hj hn (by rw [e, fw_setI hT]; exact kk)
theorem fw_last {a n : Nat} {rs : List (Option Nat)} {i : Int32} {x : Int64} (j : Nat) (hd : decode y.2.1 pc = .ok (.lastore, 1)) (hT : T a = some (1, 1, n, rs)) (hi : i = nI j) (hj : j < n) (hn : n < 2 ^ 31) (kk : fv_At y d mc ms Q (pc + 1) lv st (fw T G (g2 L a j x)) al k t) : fv_At y d mc ms Q pc lv (.long x :: .int i :: .ref a :: st) (fw T G L) al k t :=
  fx_last j hd (fw_at hT) hi hj hn (by rw [fw_setL hT]; exact kk)
theorem fw_alen {a q ta n : Nat} {rs : List (Option Nat)} (hd : decode y.2.1 pc = .ok (.arraylength, 1)) (hT : T a = some (q, ta, n, rs)) (hq : q < 3) (hta : ta < 6) (kk : fv_At y d mc ms Q (pc + 1) lv (.int (nI n) :: st) (fw T G L) al k t) : fv_At y d mc ms Q pc lv (.ref a :: st) (fw T G L) al k t := by
  match q, hq with
  | 0, _ => exact fx_alen hd (fw_at hT) hta rfl kk
  | 1, _ => exact fx_alen hd (fw_at hT) hta rfl kk
  | 2, _ => exact fx_alen hd (fw_at hT) hta rfl kk
end FW
/-! ===== small numbers ===== -/
def iI (z : Int) : Int32 := Int32.ofInt z
theorem iI_n (n : Nat) : iI (n : Int) = nI n := rfl
def bI (b : Bool) : Int32 := if b then 1 else 0
theorem bI_01 (b : Bool) : bI b = 0 ∨ bI b = 1 := by cases b <;> simp [bI]
theorem iI_of (x : Int32) : iI x.toInt = x := Int32.ofInt_toInt x
theorem iI_rng (x : Int32) : -2147483648 ≤ x.toInt ∧ x.toInt < 2147483648 := by
  have h1 := Int32.le_toInt x
  have h2 := Int32.toInt_lt x
  omega
theorem iI_t {z : Int} (h1 : -2147483648 ≤ z) (h2 : z < 2147483648) : (iI z).toInt = z := by
  unfold iI
  rw [Int32.toInt_ofInt, show Int32.size = 4294967296 from rfl]
  exact Int.bmod_eq_of_le (by omega) (by omega)
theorem iI_add (a b : Int) : iI a + iI b = iI (a + b) := (Int32.ofInt_add a b).symm
theorem iI_mul (a b : Int) : iI a * iI b = iI (a * b) := (Int32.ofInt_mul a b).symm
theorem iI_sub (a b : Int) : iI a - iI b = iI (a - b) := (Int32.ofInt_sub a b).symm
theorem iI_lt {a b : Int} (a1 : -2147483648 ≤ a) (a2 : a < 2147483648) (b1 : -2147483648 ≤ b) (b2 : b < 2147483648) : iI a < iI b ↔ a < b := by rw [Int32.lt_iff_toInt_lt, iI_t a1 a2, iI_t b1 b2]
theorem iI_le {a b : Int} (a1 : -2147483648 ≤ a) (a2 : a < 2147483648) (b1 : -2147483648 ≤ b) (b2 : b < 2147483648) : iI a ≤ iI b ↔ a ≤ b := by rw [Int32.le_iff_toInt_le, iI_t a1 a2, iI_t b1 b2]
theorem iI_eq {a b : Int} (a1 : -2147483648 ≤ a) (a2 : a < 2147483648) (b1 : -2147483648 ≤ b) (b2 : b < 2147483648) : iI a = iI b ↔ a = b := by rw [← Int32.toInt_inj, iI_t a1 a2, iI_t b1 b2]
end
section
/-! ===== rows over small numbers ===== -/
section FN
variable {y : fv_Y} {d mc ms : Nat} {Q : Option Value → fv_F → Option Nat → Prop} {pc : Nat} {lv : fv_L} {st : List Value} {f : fv_F} {al : Option Nat} {k t : Nat}
/-- fewer locals, by their places -/
theorem fn_sub {lv' : fv_L} (ks : List Nat) (hs : ks.filterMap (fun i => lv[i]?) = lv') (kk : fv_At y d mc ms Q pc lv' st f al k t) : fv_At y d mc ms Q pc lv st f al k t := by
  refine fx_sub (fun q hq => ?_) kk
  rw [← hs] at hq
  obtain ⟨i, -, hi⟩ := List.mem_filterMap.mp hq
  exact List.mem_of_getElem? hi
/-- a number in another form -/
theorem fn_to {x z : Int32} (h : x = z) (kk : fv_At y d mc ms Q pc lv (.int z :: st) f al k t) : fv_At y d mc ms Q pc lv (.int x :: st) f al k t := h ▸ kk
theorem fn_toL {x z : Int64} (h : x = z) (kk : fv_At y d mc ms Q pc lv (.long z :: st) f al k t) : fv_At y d mc ms Q pc lv (.long x :: st) f al k t := h ▸ kk
theorem fn_iadd {a b : Nat} (hd : decode y.2.1 pc = .ok (.iadd, 1)) (kk : fv_At y d mc ms Q (pc + 1) lv (.int (nI (a + b)) :: st) f al k t) : fv_At y d mc ms Q pc lv (.int (nI b) :: .int (nI a) :: st) f al k t :=
  fx_iadd hd (fn_to (nI_add a b) kk)
theorem fn_isub {a b : Nat} (hd : decode y.2.1 pc = .ok (.isub, 1)) (h : b ≤ a) (kk : fv_At y d mc ms Q (pc + 1) lv (.int (nI (a - b)) :: st) f al k t) : fv_At y d mc ms Q pc lv (.int (nI b) :: .int (nI a) :: st) f al k t :=
  fx_isub hd (fn_to (pk_sub h) kk)
theorem fn_imul {a b : Nat} (hd : decode y.2.1 pc = .ok (.imul, 1)) (kk : fv_At y d mc ms Q (pc + 1) lv (.int (nI (a * b)) :: st) f al k t) : fv_At y d mc ms Q pc lv (.int (nI b) :: .int (nI a) :: st) f al k t :=
  fx_imul hd (fn_to (pk_mul a b) kk)
theorem fn_idiv {a b : Nat} (hd : decode y.2.1 pc = .ok (.idiv, 1)) (h0 : 0 < b) (ha : a < 2147483648) (hb : b < 2147483648) (kk : fv_At y d mc ms Q (pc + 1) lv (.int (nI (a / b)) :: st) f al k t) : fv_At y d mc ms Q pc lv (.int (nI b) :: .int (nI a) :: st) f al k t :=
  fx_idiv hd (nI_ne0 h0 hb) (fn_to (pk_div ha h0 hb) kk)
theorem fn_irem {a b : Nat} (hd : decode y.2.1 pc = .ok (.irem, 1)) (h0 : 0 < b) (ha : a < 2147483648) (hb : b < 2147483648) (kk : fv_At y d mc ms Q (pc + 1) lv (.int (nI (a % b)) :: st) f al k t) : fv_At y d mc ms Q pc lv (.int (nI b) :: .int (nI a) :: st) f al k t :=
  fx_irem hd (nI_ne0 h0 hb) (fn_to (pk_rem ha h0 hb) kk)
theorem fn_iaddZ {a b : Int} (hd : decode y.2.1 pc = .ok (.iadd, 1)) (kk : fv_At y d mc ms Q (pc + 1) lv (.int (iI (a + b)) :: st) f al k t) : fv_At y d mc ms Q pc lv (.int (iI b) :: .int (iI a) :: st) f al k t :=
  fx_iadd hd (fn_to (iI_add a b) kk)
theorem fn_isubZ {a b : Int} (hd : decode y.2.1 pc = .ok (.isub, 1)) (kk : fv_At y d mc ms Q (pc + 1) lv (.int (iI (a - b)) :: st) f al k t) : fv_At y d mc ms Q pc lv (.int (iI b) :: .int (iI a) :: st) f al k t :=
  fx_isub hd (fn_to (iI_sub a b) kk)
theorem fn_imulZ {a b : Int} (hd : decode y.2.1 pc = .ok (.imul, 1)) (kk : fv_At y d mc ms Q (pc + 1) lv (.int (iI (a * b)) :: st) f al k t) : fv_At y d mc ms Q pc lv (.int (iI b) :: .int (iI a) :: st) f al k t :=
  fx_imul hd (fn_to (iI_mul a b) kk)
theorem fn_iinc {i a : Nat} {n : Int} {c : Nat} {lv2 : fv_L} (hd : decode y.2.1 pc = .ok (.iinc i n, 3)) (hc : Int32.ofInt n = nI c) (hg : fv_g lv i = some (.int (nI a))) (hn : i < y.2.2.1) (hp : fv_p1 lv i (.int (nI (a + c))) = lv2) (kk : fv_At y d mc ms Q (pc + 3) lv2 st f al k t) : fv_At y d mc ms Q pc lv st f al k t :=
  fx_iinc hd hg (by rw [hc, nI_add]) hn hp kk
theorem fn_idec {i a : Nat} {n : Int} {c : Nat} {lv2 : fv_L} (hd : decode y.2.1 pc = .ok (.iinc i n, 3)) (hc : Int32.ofInt n = 0 - nI c) (h : c ≤ a) (hg : fv_g lv i = some (.int (nI a))) (hn : i < y.2.2.1) (hp : fv_p1 lv i (.int (nI (a - c))) = lv2) (kk : fv_At y d mc ms Q (pc + 3) lv2 st f al k t) : fv_At y d mc ms Q pc lv st f al k t :=
  fx_iinc hd hg (by rw [hc, ← pk_sub h, Int32.zero_sub, ← Int32.sub_eq_add_neg]) hn hp kk
theorem fn_iincZ {i : Nat} {a c : Int} {lv2 : fv_L} (hd : decode y.2.1 pc = .ok (.iinc i c, 3)) (hg : fv_g lv i = some (.int (iI a))) (hn : i < y.2.2.1) (hp : fv_p1 lv i (.int (iI (a + c))) = lv2) (kk : fv_At y d mc ms Q (pc + 3) lv2 st f al k t) : fv_At y d mc ms Q pc lv st f al k t :=
  fx_iinc hd hg (iI_add a c) hn hp kk
theorem fn_icmp_eq {a b : Nat} {off : Int} {tgt : Nat} (hd : decode y.2.1 pc = .ok (.if_icmp .eq off, 3)) (ht : (pc : Int) + off = (tgt : Int)) (ha : a < 2147483648) (hb : b < 2147483648) (kt : a = b → fv_At y d mc ms Q tgt lv st f al k t) (kf : a ≠ b → fv_At y d mc ms Q (pc + 3) lv st f al k t) : fv_At y d mc ms Q pc lv (.int (nI b) :: .int (nI a) :: st) f al k t :=
  fx_icmp_eq hd ht (fun h => kt ((nI_eq ha hb).mp h)) (fun h => kf (fun e => h ((nI_eq ha hb).mpr e)))
theorem fn_icmp_eqZ {a b : Int} {off : Int} {tgt : Nat} (hd : decode y.2.1 pc = .ok (.if_icmp .eq off, 3)) (ht : (pc : Int) + off = (tgt : Int)) (a1 : -2147483648 ≤ a) (a2 : a < 2147483648) (b1 : -2147483648 ≤ b) (b2 : b < 2147483648) (kt : a = b → fv_At y d mc ms Q tgt lv st f al k t) (kf : a ≠ b → fv_At y d mc ms Q (pc + 3) lv st f al k t) : fv_At y d mc ms Q pc lv (.int (iI b) :: .int (iI a) :: st) f al k t :=
  fx_icmp_eq hd ht (fun h => kt ((iI_eq a1 a2 b1 b2).mp h)) (fun h => kf (fun e => h ((iI_eq a1 a2 b1 b2).mpr e)))
theorem fn_icmp_ne {a b : Nat} {off : Int} {tgt : Nat} (hd : decode y.2.1 pc = .ok (.if_icmp .ne off, 3)) (ht : (pc : Int) + off = (tgt : Int)) (ha : a < 2147483648) (hb : b < 2147483648) (kt : a ≠ b → fv_At y d mc ms Q tgt lv st f al k t) (kf : a = b → fv_At y d mc ms Q (pc + 3) lv st f al k t) : fv_At y d mc ms Q pc lv (.int (nI b) :: .int (nI a) :: st) f al k t :=
  fx_icmp_ne hd ht (fun h => kt (fun e => h ((nI_eq ha hb).mpr e))) (fun h => kf ((nI_eq ha hb).mp h))
theorem fn_icmp_neZ {a b : Int} {off : Int} {tgt : Nat} (hd : decode y.2.1 pc = .ok (.if_icmp .ne off, 3)) (ht : (pc : Int) + off = (tgt : Int)) (a1 : -2147483648 ≤ a) (a2 : a < 2147483648) (b1 : -2147483648 ≤ b) (b2 : b < 2147483648) (kt : a ≠ b → fv_At y d mc ms Q tgt lv st f al k t) (kf : a = b → fv_At y d mc ms Q (pc + 3) lv st f al k t) : fv_At y d mc ms Q pc lv (.int (iI b) :: .int (iI a) :: st) f al k t :=
  fx_icmp_ne hd ht (fun h => kt (fun e => h ((iI_eq a1 a2 b1 b2).mpr e))) (fun h => kf ((iI_eq a1 a2 b1 b2).mp h))
theorem fn_icmp_lt {a b : Nat} {off : Int} {tgt : Nat} (hd : decode y.2.1 pc = .ok (.if_icmp .lt off, 3)) (ht : (pc : Int) + off = (tgt : Int)) (ha : a < 2147483648) (hb : b < 2147483648) (kt : a < b → fv_At y d mc ms Q tgt lv st f al k t) (kf : b ≤ a → fv_At y d mc ms Q (pc + 3) lv st f al k t) : fv_At y d mc ms Q pc lv (.int (nI b) :: .int (nI a) :: st) f al k t :=
  fx_icmp_lt hd ht (fun h => kt ((nI_ltI ha hb).mp h)) (fun h => kf (by have := mt (nI_ltI ha hb).mpr h; omega))
theorem fn_icmp_ltZ {a b : Int} {off : Int} {tgt : Nat} (hd : decode y.2.1 pc = .ok (.if_icmp .lt off, 3)) (ht : (pc : Int) + off = (tgt : Int)) (a1 : -2147483648 ≤ a) (a2 : a < 2147483648) (b1 : -2147483648 ≤ b) (b2 : b < 2147483648) (kt : a < b → fv_At y d mc ms Q tgt lv st f al k t) (kf : b ≤ a → fv_At y d mc ms Q (pc + 3) lv st f al k t) : fv_At y d mc ms Q pc lv (.int (iI b) :: .int (iI a) :: st) f al k t :=
  fx_icmp_lt hd ht (fun h => kt ((iI_lt a1 a2 b1 b2).mp h)) (fun h => kf (by have := mt (iI_lt a1 a2 b1 b2).mpr h; omega))
theorem fn_icmp_ge {a b : Nat} {off : Int} {tgt : Nat} (hd : decode y.2.1 pc = .ok (.if_icmp .ge off, 3)) (ht : (pc : Int) + off = (tgt : Int)) (ha : a < 2147483648) (hb : b < 2147483648) (kt : b ≤ a → fv_At y d mc ms Q tgt lv st f al k t) (kf : a < b → fv_At y d mc ms Q (pc + 3) lv st f al k t) : fv_At y d mc ms Q pc lv (.int (nI b) :: .int (nI a) :: st) f al k t :=
  fx_icmp_ge hd ht (fun h => kt ((nI_leI hb ha).mp h)) (fun h => kf (by have := mt (nI_leI hb ha).mpr h; omega))
theorem fn_icmp_geZ {a b : Int} {off : Int} {tgt : Nat} (hd : decode y.2.1 pc = .ok (.if_icmp .ge off, 3)) (ht : (pc : Int) + off = (tgt : Int)) (a1 : -2147483648 ≤ a) (a2 : a < 2147483648) (b1 : -2147483648 ≤ b) (b2 : b < 2147483648) (kt : b ≤ a → fv_At y d mc ms Q tgt lv st f al k t) (kf : a < b → fv_At y d mc ms Q (pc + 3) lv st f al k t) : fv_At y d mc ms Q pc lv (.int (iI b) :: .int (iI a) :: st) f al k t :=
  fx_icmp_ge hd ht (fun h => kt ((iI_le b1 b2 a1 a2).mp h)) (fun h => kf (by have := mt (iI_le b1 b2 a1 a2).mpr h; omega))
theorem fn_icmp_gt {a b : Nat} {off : Int} {tgt : Nat} (hd : decode y.2.1 pc = .ok (.if_icmp .gt off, 3)) (ht : (pc : Int) + off = (tgt : Int)) (ha : a < 2147483648) (hb : b < 2147483648) (kt : b < a → fv_At y d mc ms Q tgt lv st f al k t) (kf : a ≤ b → fv_At y d mc ms Q (pc + 3) lv st f al k t) : fv_At y d mc ms Q pc lv (.int (nI b) :: .int (nI a) :: st) f al k t :=
  fx_icmp_gt hd ht (fun h => kt ((nI_ltI hb ha).mp h)) (fun h => kf (by have := mt (nI_ltI hb ha).mpr h; omega))
theorem fn_icmp_gtZ {a b : Int} {off : Int} {tgt : Nat} (hd : decode y.2.1 pc = .ok (.if_icmp .gt off, 3)) (ht : (pc : Int) + off = (tgt : Int)) (a1 : -2147483648 ≤ a) (a2 : a < 2147483648) (b1 : -2147483648 ≤ b) (b2 : b < 2147483648) (kt : b < a → fv_At y d mc ms Q tgt lv st f al k t) (kf : a ≤ b → fv_At y d mc ms Q (pc + 3) lv st f al k t) : fv_At y d mc ms Q pc lv (.int (iI b) :: .int (iI a) :: st) f al k t :=
  fx_icmp_gt hd ht (fun h => kt ((iI_lt b1 b2 a1 a2).mp h)) (fun h => kf (by have := mt (iI_lt b1 b2 a1 a2).mpr h; omega))
theorem fn_icmp_le {a b : Nat} {off : Int} {tgt : Nat} (hd : decode y.2.1 pc = .ok (.if_icmp .le off, 3)) (ht : (pc : Int) + off = (tgt : Int)) (ha : a < 2147483648) (hb : b < 2147483648) (kt : a ≤ b → fv_At y d mc ms Q tgt lv st f al k t) (kf : b < a → fv_At y d mc ms Q (pc + 3) lv st f al k t) : fv_At y d mc ms Q pc lv (.int (nI b) :: .int (nI a) :: st) f al k t :=
  fx_icmp_le hd ht (fun h => kt ((nI_leI ha hb).mp h)) (fun h => kf (by have := mt (nI_leI ha hb).mpr h; omega))
theorem fn_icmp_leZ {a b : Int} {off : Int} {tgt : Nat} (hd : decode y.2.1 pc = .ok (.if_icmp .le off, 3)) (ht : (pc : Int) + off = (tgt : Int)) (a1 : -2147483648 ≤ a) (a2 : a < 2147483648) (b1 : -2147483648 ≤ b) (b2 : b < 2147483648) (kt : a ≤ b → fv_At y d mc ms Q tgt lv st f al k t) (kf : b < a → fv_At y d mc ms Q (pc + 3) lv st f al k t) : fv_At y d mc ms Q pc lv (.int (iI b) :: .int (iI a) :: st) f al k t :=
  fx_icmp_le hd ht (fun h => kt ((iI_le a1 a2 b1 b2).mp h)) (fun h => kf (by have := mt (iI_le a1 a2 b1 b2).mpr h; omega))
theorem fn_if_eqZ {a : Int} {off : Int} {tgt : Nat} (hd : decode y.2.1 pc = .ok (.ifCond .eq off, 3)) (ht : (pc : Int) + off = (tgt : Int)) (a1 : -2147483648 ≤ a) (a2 : a < 2147483648) (kt : a = 0 → fv_At y d mc ms Q tgt lv st f al k t) (kf : a ≠ 0 → fv_At y d mc ms Q (pc + 3) lv st f al k t) : fv_At y d mc ms Q pc lv (.int (iI a) :: st) f al k t :=
  fx_if_eq hd ht (fun h => kt ((iI_eq a1 a2 (b := 0) (by decide) (by decide)).mp h)) (fun h => kf (fun e => h ((iI_eq a1 a2 (b := 0) (by decide) (by decide)).mpr e)))
theorem fn_if_eq {a : Nat} {off : Int} {tgt : Nat} (hd : decode y.2.1 pc = .ok (.ifCond .eq off, 3)) (ht : (pc : Int) + off = (tgt : Int)) (ha : a < 2147483648) (kt : a = 0 → fv_At y d mc ms Q tgt lv st f al k t) (kf : a ≠ 0 → fv_At y d mc ms Q (pc + 3) lv st f al k t) : fv_At y d mc ms Q pc lv (.int (nI a) :: st) f al k t :=
  fn_if_eqZ (a := (a : Int)) hd ht (by omega) (by omega) (fun h => kt (by omega)) (fun h => kf (by omega))
theorem fn_if_neZ {a : Int} {off : Int} {tgt : Nat} (hd : decode y.2.1 pc = .ok (.ifCond .ne off, 3)) (ht : (pc : Int) + off = (tgt : Int)) (a1 : -2147483648 ≤ a) (a2 : a < 2147483648) (kt : a ≠ 0 → fv_At y d mc ms Q tgt lv st f al k t) (kf : a = 0 → fv_At y d mc ms Q (pc + 3) lv st f al k t) : fv_At y d mc ms Q pc lv (.int (iI a) :: st) f al k t :=
  fx_if_ne hd ht (fun h => kt (fun e => h ((iI_eq a1 a2 (b := 0) (by decide) (by decide)).mpr e))) (fun h => kf ((iI_eq a1 a2 (b := 0) (by decide) (by decide)).mp h))
theorem fn_if_ne {a : Nat} {off : Int} {tgt : Nat} (hd : decode y.2.1 pc = .ok (.ifCond .ne off, 3)) (ht : (pc : Int) + off = (tgt : Int)) (ha : a < 2147483648) (kt : a ≠ 0 → fv_At y d mc ms Q tgt lv st f al k t) (kf : a = 0 → fv_At y d mc ms Q (pc + 3) lv st f al k t) : fv_At y d mc ms Q pc lv (.int (nI a) :: st) f al k t :=
  fn_if_neZ (a := (a : Int)) hd ht (by omega) (by omega) (fun h => kt (by omega)) (fun h => kf (by omega))
theorem fn_if_ltZ {a : Int} {off : Int} {tgt : Nat} (hd : decode y.2.1 pc = .ok (.ifCond .lt off, 3)) (ht : (pc : Int) + off = (tgt : Int)) (a1 : -2147483648 ≤ a) (a2 : a < 2147483648) (kt : a < 0 → fv_At y d mc ms Q tgt lv st f al k t) (kf : 0 ≤ a → fv_At y d mc ms Q (pc + 3) lv st f al k t) : fv_At y d mc ms Q pc lv (.int (iI a) :: st) f al k t :=
  fx_if_lt hd ht (fun h => kt ((iI_lt a1 a2 (b := 0) (by decide) (by decide)).mp h)) (fun h => kf (by have := mt (iI_lt a1 a2 (b := 0) (by decide) (by decide)).mpr h; omega))
theorem fn_if_lt {a : Nat} {off : Int} {tgt : Nat} (hd : decode y.2.1 pc = .ok (.ifCond .lt off, 3)) (ht : (pc : Int) + off = (tgt : Int)) (ha : a < 2147483648) (kt : a < 0 → fv_At y d mc ms Q tgt lv st f al k t) (kf : 0 ≤ a → fv_At y d mc ms Q (pc + 3) lv st f al k t) : fv_At y d mc ms Q pc lv (.int (nI a) :: st) f al k t :=
  fn_if_ltZ (a := (a : Int)) hd ht (by omega) (by omega) (fun h => kt (by omega)) (fun h => kf (by omega))
theorem fn_if_geZ {a : Int} {off : Int} {tgt : Nat} (hd : decode y.2.1 pc = .ok (.ifCond .ge off, 3)) (ht : (pc : Int) + off = (tgt : Int)) (a1 : -2147483648 ≤ a) (a2 : a < 2147483648) (kt : 0 ≤ a → fv_At y d mc ms Q tgt lv st f al k t) (kf : a < 0 → fv_At y d mc ms Q (pc + 3) lv st f al k t) : fv_At y d mc ms Q pc lv (.int (iI a) :: st) f al k t :=
  fx_if_ge hd ht (fun h => kt ((iI_le (a := 0) (by decide) (by decide) a1 a2).mp h)) (fun h => kf (by have := mt (iI_le (a := 0) (by decide) (by decide) a1 a2).mpr h; omega))
theorem fn_if_ge {a : Nat} {off : Int} {tgt : Nat} (hd : decode y.2.1 pc = .ok (.ifCond .ge off, 3)) (ht : (pc : Int) + off = (tgt : Int)) (ha : a < 2147483648) (kt : 0 ≤ a → fv_At y d mc ms Q tgt lv st f al k t) (kf : a < 0 → fv_At y d mc ms Q (pc + 3) lv st f al k t) : fv_At y d mc ms Q pc lv (.int (nI a) :: st) f al k t :=
  fn_if_geZ (a := (a : Int)) hd ht (by omega) (by omega) (fun h => kt (by omega)) (fun h => kf (by omega))
theorem fn_if_gtZ {a : Int} {off : Int} {tgt : Nat} (hd : decode y.2.1 pc = .ok (.ifCond .gt off, 3)) (ht : (pc : Int) + off = (tgt : Int)) (a1 : -2147483648 ≤ a) (a2 : a < 2147483648) (kt : 0 < a → fv_At y d mc ms Q tgt lv st f al k t) (kf : a ≤ 0 → fv_At y d mc ms Q (pc + 3) lv st f al k t) : fv_At y d mc ms Q pc lv (.int (iI a) :: st) f al k t :=
  fx_if_gt hd ht (fun h => kt ((iI_lt (a := 0) (by decide) (by decide) a1 a2).mp h)) (fun h => kf (by have := mt (iI_lt (a := 0) (by decide) (by decide) a1 a2).mpr h; omega))
theorem fn_if_gt {a : Nat} {off : Int} {tgt : Nat} (hd : decode y.2.1 pc = .ok (.ifCond .gt off, 3)) (ht : (pc : Int) + off = (tgt : Int)) (ha : a < 2147483648) (kt : 0 < a → fv_At y d mc ms Q tgt lv st f al k t) (kf : a ≤ 0 → fv_At y d mc ms Q (pc + 3) lv st f al k t) : fv_At y d mc ms Q pc lv (.int (nI a) :: st) f al k t :=
  fn_if_gtZ (a := (a : Int)) hd ht (by omega) (by omega) (fun h => kt (by omega)) (fun h => kf (by omega))
theorem fn_if_leZ {a : Int} {off : Int} {tgt : Nat} (hd : decode y.2.1 pc = .ok (.ifCond .le off, 3)) (ht : (pc : Int) + off = (tgt : Int)) (a1 : -2147483648 ≤ a) (a2 : a < 2147483648) (kt : a ≤ 0 → fv_At y d mc ms Q tgt lv st f al k t) (kf : 0 < a → fv_At y d mc ms Q (pc + 3) lv st f al k t) : fv_At y d mc ms Q pc lv (.int (iI a) :: st) f al k t :=
  fx_if_le hd ht (fun h => kt ((iI_le a1 a2 (b := 0) (by decide) (by decide)).mp h)) (fun h => kf (by have := mt (iI_le a1 a2 (b := 0) (by decide) (by decide)).mpr h; omega))
theorem fn_if_le {a : Nat} {off : Int} {tgt : Nat} (hd : decode y.2.1 pc = .ok (.ifCond .le off, 3)) (ht : (pc : Int) + off = (tgt : Int)) (ha : a < 2147483648) (kt : a ≤ 0 → fv_At y d mc ms Q tgt lv st f al k t) (kf : 0 < a → fv_At y d mc ms Q (pc + 3) lv st f al k t) : fv_At y d mc ms Q pc lv (.int (nI a) :: st) f al k t :=
  fn_if_leZ (a := (a : Int)) hd ht (by omega) (by omega) (fun h => kt (by omega)) (fun h => kf (by omega))
theorem fn_if_eqB {c : Bool} {off : Int} {tgt : Nat} (hd : decode y.2.1 pc = .ok (.ifCond .eq off, 3)) (ht : (pc : Int) + off = (tgt : Int)) (kt : c = false → fv_At y d mc ms Q tgt lv st f al k t) (kf : c = true → fv_At y d mc ms Q (pc + 3) lv st f al k t) : fv_At y d mc ms Q pc lv (.int (bI c) :: st) f al k t := by
  cases c
  · exact fx_if_eq hd ht (fun _ => kt rfl) (fun h => absurd rfl h)
  · exact fx_if_eq hd ht (fun h => absurd h (by decide)) (fun _ => kf rfl)
theorem fn_if_neB {c : Bool} {off : Int} {tgt : Nat} (hd : decode y.2.1 pc = .ok (.ifCond .ne off, 3)) (ht : (pc : Int) + off = (tgt : Int)) (kt : c = true → fv_At y d mc ms Q tgt lv st f al k t) (kf : c = false → fv_At y d mc ms Q (pc + 3) lv st f al k t) : fv_At y d mc ms Q pc lv (.int (bI c) :: st) f al k t := by
  cases c
  · exact fx_if_ne hd ht (fun h => absurd rfl h) (fun _ => kf rfl)
  · exact fx_if_ne hd ht (fun _ => kt rfl) (fun h => absurd h (by decide))
theorem fn_if_eqC {x z : Int64} {off : Int} {tgt : Nat} (hd : decode y.2.1 pc = .ok (.ifCond .eq off, 3)) (ht : (pc : Int) + off = (tgt : Int)) (kt : x = z → fv_At y d mc ms Q tgt lv st f al k t) (kf : x ≠ z → fv_At y d mc ms Q (pc + 3) lv st f al k t) : fv_At y d mc ms Q pc lv (.int (lg_cmp x z) :: st) f al k t :=
  fx_if_eq hd ht (fun h => kt ((lg_cmp_eq x z).mp h)) (fun h => kf (fun e => h ((lg_cmp_eq x z).mpr e)))
theorem fn_if_neC {x z : Int64} {off : Int} {tgt : Nat} (hd : decode y.2.1 pc = .ok (.ifCond .ne off, 3)) (ht : (pc : Int) + off = (tgt : Int)) (kt : x ≠ z → fv_At y d mc ms Q tgt lv st f al k t) (kf : x = z → fv_At y d mc ms Q (pc + 3) lv st f al k t) : fv_At y d mc ms Q pc lv (.int (lg_cmp x z) :: st) f al k t :=
  fx_if_ne hd ht (fun h => kt (fun e => h ((lg_cmp_eq x z).mpr e))) (fun h => kf ((lg_cmp_eq x z).mp h))
theorem fn_if_ltC {x z : Int64} {off : Int} {tgt : Nat} (hd : decode y.2.1 pc = .ok (.ifCond .lt off, 3)) (ht : (pc : Int) + off = (tgt : Int)) (kt : x < z → fv_At y d mc ms Q tgt lv st f al k t) (kf : ¬ x < z → fv_At y d mc ms Q (pc + 3) lv st f al k t) : fv_At y d mc ms Q pc lv (.int (lg_cmp x z) :: st) f al k t :=
  fx_if_lt hd ht (fun h => kt ((lg_cmp_lt x z).mp h)) (fun h => kf (fun e => h ((lg_cmp_lt x z).mpr e)))
theorem fn_if_geC {x z : Int64} {off : Int} {tgt : Nat} (hd : decode y.2.1 pc = .ok (.ifCond .ge off, 3)) (ht : (pc : Int) + off = (tgt : Int)) (kt : z ≤ x → fv_At y d mc ms Q tgt lv st f al k t) (kf : ¬ z ≤ x → fv_At y d mc ms Q (pc + 3) lv st f al k t) : fv_At y d mc ms Q pc lv (.int (lg_cmp x z) :: st) f al k t :=
  fx_if_ge hd ht (fun h => kt ((lg_cmp_ge x z).mp h)) (fun h => kf (fun e => h ((lg_cmp_ge x z).mpr e)))
theorem fn_if_gtC {x z : Int64} {off : Int} {tgt : Nat} (hd : decode y.2.1 pc = .ok (.ifCond .gt off, 3)) (ht : (pc : Int) + off = (tgt : Int)) (kt : z < x → fv_At y d mc ms Q tgt lv st f al k t) (kf : ¬ z < x → fv_At y d mc ms Q (pc + 3) lv st f al k t) : fv_At y d mc ms Q pc lv (.int (lg_cmp x z) :: st) f al k t :=
  fx_if_gt hd ht (fun h => kt ((lg_cmp_gt x z).mp h)) (fun h => kf (fun e => h ((lg_cmp_gt x z).mpr e)))
theorem fn_if_leC {x z : Int64} {off : Int} {tgt : Nat} (hd : decode y.2.1 pc = .ok (.ifCond .le off, 3)) (ht : (pc : Int) + off = (tgt : Int)) (kt : x ≤ z → fv_At y d mc ms Q tgt lv st f al k t) (kf : ¬ x ≤ z → fv_At y d mc ms Q (pc + 3) lv st f al k t) : fv_At y d mc ms Q pc lv (.int (lg_cmp x z) :: st) f al k t :=
  fx_if_le hd ht (fun h => kt ((lg_cmp_le x z).mp h)) (fun h => kf (fun e => h ((lg_cmp_le x z).mpr e)))
theorem fn_cS {idx n d2 : Nat} {y2 : fv_Y} {as rest : List Value} {r : Option Value} {f2 : fv_F} (hd : decode y.2.1 pc = .ok (.invokestatic idx, 3)) (hp : fv_mS y.1.cls idx y2 n) (hM : fv_M y2 d2 0 0 as f none (fv_eq r f2)) (hst : st = as.reverse ++ rest) (hn : as.length = n) (hdep : d2 < d) (hcat : (rest.map fun v => v.category).sum ≤ 8) (kk : fv_At y d 0 0 Q (pc + 3) lv (r.toList ++ rest) f2 none 0 0) : fv_At y d 0 0 Q pc lv st f none 0 0 :=
  fx_callS hd hp hM hst hn hdep hcat (Nat.le_refl _) (Nat.le_refl _) (fun r' f' al' h => by
    obtain ⟨rfl, rfl, rfl⟩ := h
    exact kk)
theorem fn_cSN {idx n d2 : Nat} {y2 : fv_Y} {as rest : List Value} {r : Option Value} {f2 : fv_F} (hd : decode y.2.1 pc = .ok (.invokestatic idx, 3)) (hp : fv_mSN y.1.cls idx y2 n) (hM : fv_M y2 d2 0 0 as f none (fv_eq r f2)) (hst : st = as.reverse ++ rest) (hn : as.length = n) (hdep : d2 < d) (hcat : (rest.map fun v => v.category).sum ≤ 8) (kk : fv_At y d 0 0 Q (pc + 3) lv (r.toList ++ rest) f2 none 0 0) : fv_At y d 0 0 Q pc lv st f none 0 0 :=
  fx_callSN hd hp hM hst hn hdep hcat (Nat.le_refl _) (Nat.le_refl _) (fun r' f' al' h => by
    obtain ⟨rfl, rfl, rfl⟩ := h
    exact kk)
theorem fn_cV {idx n d2 b ci nf : Nat} {y2 : fv_Y} {C : String} {T : u_T} {ty0 : Nat → FieldType} {fs as rest : List Value} {r : Option Value} {f2 : fv_F} (hd : decode y.2.1 pc = .ok (.invokevirtual idx, 3)) (hp : fv_mV y.1.cls idx y2 n) (hc : fv_cls ci C T nf ty0) (hC : y2.1.cls = C) (hf : f b = some (.inr (ci, fs))) (hM : fv_M y2 d2 0 0 (.ref b :: as) f none (fv_eq r f2)) (hst : st = as.reverse ++ .ref b :: rest) (hn : as.length = n) (hdep : d2 < d) (hcat : (rest.map fun v => v.category).sum ≤ 8) (kk : fv_At y d 0 0 Q (pc + 3) lv (r.toList ++ rest) f2 none 0 0) : fv_At y d 0 0 Q pc lv st f none 0 0 :=
  fx_callV hd hp hc hC hf hM hst hn hdep hcat (Nat.le_refl _) (Nat.le_refl _) (fun r' f' al' h => by
    obtain ⟨rfl, rfl, rfl⟩ := h
    exact kk)
end FN
end
section
/-! ===== constants that the pools name; numbers ===== -/
theorem kc10_98 : Jvm.Cond.constant RX10 98 (-1000000) ∈ fv_tbl := fv_at 395 (by decide +kernel) (by decide +kernel)
theorem kc10_99 : Jvm.Cond.constant RX10 99 (1000000) ∈ fv_tbl := fv_at 396 (by decide +kernel) (by decide +kernel)
theorem kc10_214 : Jvm.Cond.constantLong RX10 214 (17) ∈ fv_tbl := fv_at 754 (by decide +kernel) (by decide +kernel)
theorem kc10_216 : Jvm.Cond.constantLong RX10 216 (31) ∈ fv_tbl := fv_at 755 (by decide +kernel) (by decide +kernel)
theorem kc10_230 : Jvm.Cond.constantLong RX10 230 (-100000000) ∈ fv_tbl := fv_at 315 (by decide +kernel) (by decide +kernel)
theorem kc10_232 : Jvm.Cond.constantLong RX10 232 (100000000) ∈ fv_tbl := fv_at 316 (by decide +kernel) (by decide +kernel)
theorem kc10_234 : Jvm.Cond.constant RX10 234 (88888) ∈ fv_tbl := fv_at 320 (by decide +kernel) (by decide +kernel)
theorem kc10_242 : Jvm.Cond.constantLong RX10 242 (-9223372036854775808) ∈ fv_tbl := fv_at 386 (by decide +kernel) (by decide +kernel)
theorem kc11_30 : Jvm.Cond.constant RX11 30 (59049) ∈ fv_tbl := fv_at 773 (by decide +kernel) (by decide +kernel)
theorem kc11_122 : Jvm.Cond.constantLong RX11 122 (-9223372036854775808) ∈ fv_tbl := fv_at 995 (by decide +kernel) (by decide +kernel)
theorem kc11_124 : Jvm.Cond.constantLong RX11 124 (54321) ∈ fv_tbl := fv_at 905 (by decide +kernel) (by decide +kernel)
theorem kc11_148 : Jvm.Cond.constantLong RX11 148 (5) ∈ fv_tbl := fv_at 933 (by decide +kernel) (by decide +kernel)
theorem kc11_150 : Jvm.Cond.constantLong RX11 150 (11) ∈ fv_tbl := fv_at 945 (by decide +kernel) (by decide +kernel)
theorem kc11_152 : Jvm.Cond.constantLong RX11 152 (88888) ∈ fv_tbl := fv_at 959 (by decide +kernel) (by decide +kernel)
theorem kc11_158 : Jvm.Cond.constantLong RX11 158 (-100000000) ∈ fv_tbl := fv_at 954 (by decide +kernel) (by decide +kernel)
theorem kc11_160 : Jvm.Cond.constantLong RX11 160 (100000000) ∈ fv_tbl := fv_at 955 (by decide +kernel) (by decide +kernel)
theorem kc11_165 : Jvm.Cond.constant RX11 165 (59048) ∈ fv_tbl := fv_at 976 (by decide +kernel) (by decide +kernel)
theorem kc11_186 : Jvm.Cond.constantLong RX11 186 (-1000000) ∈ fv_tbl := fv_at 1000 (by decide +kernel) (by decide +kernel)
theorem kc11_188 : Jvm.Cond.constantLong RX11 188 (1000000) ∈ fv_tbl := fv_at 1001 (by decide +kernel) (by decide +kernel)
theorem kc11_194 : Jvm.Cond.constantLong RX11 194 (4) ∈ fv_tbl := fv_at 1014 (by decide +kernel) (by decide +kernel)
theorem kc11_218 : Jvm.Cond.constantLong RX11 218 (16) ∈ fv_tbl := fv_at 1060 (by decide +kernel) (by decide +kernel)
theorem kc11_241 : Jvm.Cond.constantLong RX11 241 (9999) ∈ fv_tbl := fv_at 1112 (by decide +kernel) (by decide +kernel)
theorem kc11_246 : Jvm.Cond.constantLong RX11 246 (7) ∈ fv_tbl := fv_at 1107 (by decide +kernel) (by decide +kernel)
theorem kc11_269 : Jvm.Cond.constantLong RX11 269 (255) ∈ fv_tbl := fv_at 1141 (by decide +kernel) (by decide +kernel)
theorem kc11_280 : Jvm.Cond.constantLong RX11 280 (17) ∈ fv_tbl := fv_at 1166 (by decide +kernel) (by decide +kernel)
theorem kc11_282 : Jvm.Cond.constantLong RX11 282 (31) ∈ fv_tbl := fv_at 1167 (by decide +kernel) (by decide +kernel)
theorem kc0_89 : Jvm.Cond.constantLong RX0 89 (10) ∈ fv_tbl := fv_at 463 (by decide +kernel) (by decide +kernel)
theorem kc2_62 : Jvm.Cond.constantLong RX2 62 (31) ∈ fv_tbl := fv_at 766 (by decide +kernel) (by decide +kernel)
theorem kc6_9 : Jvm.Cond.constant RX6 9 (54321) ∈ fv_tbl := fv_at 230 (by decide +kernel) (by decide +kernel)
theorem kc7_54 : Jvm.Cond.constantLong RX7 54 (31) ∈ fv_tbl := fv_at 761 (by decide +kernel) (by decide +kernel)
theorem kc8_9 : Jvm.Cond.constant RX8 9 (88889) ∈ fv_tbl := fv_at 73 (by decide +kernel) (by decide +kernel)
theorem kc8_35 : Jvm.Cond.constant RX8 35 (88888) ∈ fv_tbl := fv_at 343 (by decide +kernel) (by decide +kernel)
section FB
variable {y : fv_Y} {d mc ms : Nat} {Q : Option Value → fv_F → Option Nat → Prop} {pc : Nat} {lv : fv_L} {st : List Value} {f : fv_F} {al : Option Nat} {k t : Nat}
theorem fn_icmp_neB {a b : Bool} {off : Int} {tgt : Nat} (hd : decode y.2.1 pc = .ok (.if_icmp .ne off, 3)) (ht : (pc : Int) + off = (tgt : Int)) (kt : a ≠ b → fv_At y d mc ms Q tgt lv st f al k t) (kf : a = b → fv_At y d mc ms Q (pc + 3) lv st f al k t) : fv_At y d mc ms Q pc lv (.int (bI b) :: .int (bI a) :: st) f al k t :=
  fx_icmp_ne hd ht (fun h => kt (fun e => h (by rw [e]))) (fun h => kf (by cases a <;> cases b <;> first | rfl | exact absurd h (by decide)))
theorem fn_icmp_eqB {a b : Bool} {off : Int} {tgt : Nat} (hd : decode y.2.1 pc = .ok (.if_icmp .eq off, 3)) (ht : (pc : Int) + off = (tgt : Int)) (kt : a = b → fv_At y d mc ms Q tgt lv st f al k t) (kf : a ≠ b → fv_At y d mc ms Q (pc + 3) lv st f al k t) : fv_At y d mc ms Q pc lv (.int (bI b) :: .int (bI a) :: st) f al k t :=
  fx_icmp_eq hd ht (fun h => kt (by cases a <;> cases b <;> first | rfl | exact absurd h (by decide))) (fun h => kf (fun e => h (by rw [e])))
end FB
theorem nI_or (a b : Nat) : nI a ||| nI b = nI (a ||| b) := by
  unfold nI
  rw [← Int32.toBitVec_inj, Int32.toBitVec_or]
  simp only [Int32.toBitVec_ofNat', BitVec.ofNat_or]
theorem nI_and (a b : Nat) : nI a &&& nI b = nI (a &&& b) := by
  unfold nI
  rw [← Int32.toBitVec_inj, Int32.toBitVec_and]
  simp only [Int32.toBitVec_ofNat', BitVec.ofNat_and]
theorem nI_shl1 : ∀ d, d < 31 → nI 1 <<< (nI d &&& 31) = nI (2 ^ d) := by decide +kernel
theorem nI_shl2 : ∀ d, d < 30 → nI 2 <<< (nI d &&& 31) = nI (2 ^ (d + 1)) := by decide +kernel
def fat (a k : Nat) : Nat := a / 10 ^ k % 10
theorem fat_lt (a k : Nat) : fat a k < 10 := Nat.mod_lt _ (by decide)
end
section
set_option maxRecDepth 4000 in
set_option maxHeartbeats 1000000 in
theorem C3_at (a k : Nat) (ha : a < 2147483648) (hk : k < 2147483648) (f : fv_F) : fv_M Y3_at 0 0 0 [.int (nI a), .int (nI k)] f none (fv_eq (some (.int (nI (fat a k)))) f) := by
  refine fv_enter rfl (Nat.le_of_ble_eq_true rfl) ?_
  obtain ⟨Q, hQ⟩ : ∃ Q : Option Value → fv_F → Option Nat → Prop, Q = (fv_eq (some (.int (nI (fat a k)))) f) := ⟨_, rfl⟩
  rw [← hQ]
  show fv_At Y3_at 0 0 0 Q 0 [(0, .int (nI a)), (1, .int (nI k))] [] f none 0 0
  refine fx_iload_n dX3_at_0 rfl (i := 0) rfl ?_
  refine fx_istore_n (lv2 := [(0, .int (nI a)), (1, .int (nI k)), (2, .int (nI a))]) dX3_at_1 (i := 2) rfl (by decide) rfl ?_
  refine fx_iconst (v := (nI 0)) dX3_at_2 (by decide) ?_
  refine fx_istore_n (lv2 := [(0, .int (nI a)), (1, .int (nI k)), (2, .int (nI a)), (3, .int (nI 0))]) dX3_at_3 (i := 3) rfl (by decide) rfl ?_
  have L4 : ∀ (n : Nat) (r : Nat) (i : Nat), (i + n = k) → (r = a / 10 ^ i) → (r < 2147483648) → fv_At Y3_at 0 0 0 Q 4 [(0, .int (nI a)), (1, .int (nI k)), (2, .int (nI r)), (3, .int (nI i))] [] f none 0 0 := by
    intro n
    induction n with
    | zero =>
      intro r i hi hr hb
      refine fx_iload_n dX3_at_4 rfl (i := 3) rfl ?_
      refine fx_iload_n dX3_at_5 rfl (i := 1) rfl ?_
      refine fn_icmp_ge (tgt := 20) dX3_at_6 (by decide) (by omega) (by omega) (fun c6 => ?_) (fun c6 => ?_)
      · skip
        refine fx_iload_n dX3_at_20 rfl (i := 2) rfl ?_
        refine fx_bipush (v := (nI 10)) dX3_at_21 (by decide) ?_
        refine fn_irem dX3_at_23 (by omega) (by omega) (by omega) ?_
        exact fx_iret dX3_at_24 rfl rfl rfl (by rw [hQ]; exact ⟨by rw [hr, show i = k by omega]; rfl, rfl, rfl⟩)
      · exfalso; omega
    | succ n ih4 =>
      intro r i hi hr hb
      refine fx_iload_n dX3_at_4 rfl (i := 3) rfl ?_
      refine fx_iload_n dX3_at_5 rfl (i := 1) rfl ?_
      refine fn_icmp_ge (tgt := 20) dX3_at_6 (by decide) (by omega) (by omega) (fun c6 => ?_) (fun c6 => ?_)
      · exfalso; omega
      · skip
        refine fx_iload_n dX3_at_9 rfl (i := 2) rfl ?_
        refine fx_bipush (v := (nI 10)) dX3_at_10 (by decide) ?_
        refine fn_idiv dX3_at_12 (by omega) (by omega) (by omega) ?_
        refine fx_istore_n (lv2 := [(0, .int (nI a)), (1, .int (nI k)), (2, .int (nI (r / 10))), (3, .int (nI i))]) dX3_at_13 (i := 2) rfl (by decide) rfl ?_
        refine fn_iinc (c := 1) (lv2 := [(0, .int (nI a)), (1, .int (nI k)), (2, .int (nI (r / 10))), (3, .int (nI (i + 1)))]) dX3_at_14 (by decide) rfl (by decide) rfl ?_
        refine fx_goto (tgt := 4) dX3_at_17 (by decide) ?_
        exact (ih4 (r / 10) (i + 1) (by omega) (by rw [hr, Nat.div_div_eq_div_mul, Nat.pow_succ]) (by omega))
  exact (L4 k a 0 (by omega) (by simp) ha)

set_option maxRecDepth 4000 in
set_option maxHeartbeats 1000000 in
theorem C3_power (b k : Nat) (hk : k < 2147483648) (f : fv_F) : fv_M Y3_power 0 0 0 [.int (nI b), .int (nI k)] f none (fv_eq (some (.int (nI (b ^ k)))) f) := by
  refine fv_enter rfl (Nat.le_of_ble_eq_true rfl) ?_
  obtain ⟨Q, hQ⟩ : ∃ Q : Option Value → fv_F → Option Nat → Prop, Q = (fv_eq (some (.int (nI (b ^ k)))) f) := ⟨_, rfl⟩
  rw [← hQ]
  show fv_At Y3_power 0 0 0 Q 0 [(0, .int (nI b)), (1, .int (nI k))] [] f none 0 0
  refine fx_iconst (v := (nI 1)) dX3_power_0 (by decide) ?_
  refine fx_istore_n (lv2 := [(0, .int (nI b)), (1, .int (nI k)), (2, .int (nI 1))]) dX3_power_1 (i := 2) rfl (by decide) rfl ?_
  refine fx_iconst (v := (nI 0)) dX3_power_2 (by decide) ?_
  refine fx_istore_n (lv2 := [(0, .int (nI b)), (1, .int (nI k)), (2, .int (nI 1)), (3, .int (nI 0))]) dX3_power_3 (i := 3) rfl (by decide) rfl ?_
  have L4 : ∀ (n : Nat) (r : Nat) (i : Nat), (i + n = k) → (r = b ^ i) → fv_At Y3_power 0 0 0 Q 4 [(0, .int (nI b)), (1, .int (nI k)), (2, .int (nI r)), (3, .int (nI i))] [] f none 0 0 := by
    intro n
    induction n with
    | zero =>
      intro r i hi hr
      refine fx_iload_n dX3_power_4 rfl (i := 3) rfl ?_
      refine fx_iload_n dX3_power_5 rfl (i := 1) rfl ?_
      refine fn_icmp_ge (tgt := 19) dX3_power_6 (by decide) (by omega) (by omega) (fun c6 => ?_) (fun c6 => ?_)
      · skip
        refine fx_iload_n dX3_power_19 rfl (i := 2) rfl ?_
        exact fx_iret dX3_power_20 rfl rfl rfl (by rw [hQ]; exact ⟨by rw [hr, show i = k by omega], rfl, rfl⟩)
      · exfalso; omega
    | succ n ih4 =>
      intro r i hi hr
      refine fx_iload_n dX3_power_4 rfl (i := 3) rfl ?_
      refine fx_iload_n dX3_power_5 rfl (i := 1) rfl ?_
      refine fn_icmp_ge (tgt := 19) dX3_power_6 (by decide) (by omega) (by omega) (fun c6 => ?_) (fun c6 => ?_)
      · exfalso; omega
      · skip
        refine fx_iload_n dX3_power_9 rfl (i := 2) rfl ?_
        refine fx_iload_n dX3_power_10 rfl (i := 0) rfl ?_
        refine fn_imul dX3_power_11 ?_
        refine fx_istore_n (lv2 := [(0, .int (nI b)), (1, .int (nI k)), (2, .int (nI (r * b))), (3, .int (nI i))]) dX3_power_12 (i := 2) rfl (by decide) rfl ?_
        refine fn_iinc (c := 1) (lv2 := [(0, .int (nI b)), (1, .int (nI k)), (2, .int (nI (r * b))), (3, .int (nI (i + 1)))]) dX3_power_13 (by decide) rfl (by decide) rfl ?_
        refine fx_goto (tgt := 4) dX3_power_16 (by decide) ?_
        exact (ih4 (r * b) (i + 1) (by omega) (by rw [hr, Nat.pow_succ]))
  exact (L4 k 1 0 (by omega) (by simp))

/-- the figure at a place from 0 of a number of n figures -/
def dgt (a n p : Nat) : Nat := fat a (n - 1 - p)
theorem fat_dgt (a n p : Nat) : fat a (n - (p + 1)) = dgt a n p := by unfold dgt; congr 1; omega
theorem dgt_lt (a n p : Nat) : dgt a n p < 10 := fat_lt _ _

set_option maxRecDepth 4000 in
set_option maxHeartbeats 1000000 in
theorem C6_figure (a n p : Nat) (ha : a < 2147483648) (hn : n < 2147483648) (hp : p < n) (f : fv_F) : fv_M Y6_figure 1 0 0 [.int (nI a), .int (nI n), .int (nI (p + 1))] f none (fv_eq (some (.int (nI (dgt a n p)))) f) := by
  refine fv_enter rfl (Nat.le_of_ble_eq_true rfl) ?_
  obtain ⟨Q, hQ⟩ : ∃ Q : Option Value → fv_F → Option Nat → Prop, Q = (fv_eq (some (.int (nI (dgt a n p)))) f) := ⟨_, rfl⟩
  rw [← hQ]
  show fv_At Y6_figure 1 0 0 Q 0 [(0, .int (nI a)), (1, .int (nI n)), (2, .int (nI (p + 1)))] [] f none 0 0
  refine fx_iload_n dX6_figure_0 rfl (i := 0) rfl ?_
  refine fx_iload_n dX6_figure_1 rfl (i := 1) rfl ?_
  refine fx_iload_n dX6_figure_2 rfl (i := 2) rfl ?_
  refine fn_isub dX6_figure_3 (by omega) ?_
  refine fn_cS dX6_figure_4 lk6_10 (C3_at (a := a) (k := n - (p + 1)) (by omega) (by omega) (f := f)) rfl rfl (by decide) (Nat.le_of_ble_eq_true rfl) ?_
  show fv_At Y6_figure 1 0 0 Q 7 [(0, .int (nI a)), (1, .int (nI n)), (2, .int (nI (p + 1)))] [.int (nI (fat a (n - (p + 1))))] f none 0 0
  exact fx_iret dX6_figure_7 rfl rfl rfl (by rw [hQ]; exact ⟨by rw [fat_dgt], rfl, rfl⟩)

/-- pairs of places with the greater figure ahead -/
def ofal2 (h : Nat → Nat) (i : Nat) : Nat → Nat → Nat → Nat
  | 0, _, c => c
  | k + 1, j, c => ofal2 h i k (j + 1) (if h j < h i then c + 1 else c)
def ofal1 (h : Nat → Nat) (n : Nat) : Nat → Nat → Nat → Nat
  | 0, _, c => c
  | k + 1, i, c => ofal1 h n k (i + 1) (ofal2 h i (n - (i + 1)) (i + 1) c)
def ofal (h : Nat → Nat) (n : Nat) : Nat := ofal1 h n n 0 0
theorem fat_two {a x z : Nat} (h : z < x) : fat a x * 10 ^ x + fat a z * 10 ^ z ≤ a := by
  have e1 : fat a z * 10 ^ z ≤ a % 10 ^ x := by
    have h1 : 10 ^ x = 10 ^ z * 10 ^ (x - z) := by rw [← Nat.pow_add]; congr 1; omega
    have h2 : a % 10 ^ x / 10 ^ z = a / 10 ^ z % 10 ^ (x - z) := by rw [h1, Nat.mod_mul_right_div_self]
    have h3 : fat a z ≤ a % 10 ^ x / 10 ^ z := by
      rw [h2]
      unfold fat
      rw [← Nat.mod_mod_of_dvd (a / 10 ^ z) (show 10 ∣ 10 ^ (x - z) from ⟨10 ^ (x - z - 1), by rw [← Nat.pow_succ']; congr 1; omega⟩)]
      exact Nat.mod_le _ _
    exact Nat.le_trans (Nat.mul_le_mul_right _ h3) (Nat.div_mul_le_self _ _)
  have e2 : fat a x * 10 ^ x ≤ a / 10 ^ x * 10 ^ x := Nat.mul_le_mul_right _ (Nat.mod_le _ _)
  have e3 := Nat.div_add_mod a (10 ^ x)
  rw [Nat.mul_comm] at e3
  omega
/-- two figures, at places a and b from 0, change places -/
def swp (o n a b : Nat) : Nat := (o + ((dgt o n b : Int) - dgt o n a) * (10 ^ (n - 1 - a) - 10 ^ (n - 1 - b))).toNat
theorem swp_eq {o n a b : Nat} (h : a < b) (hb : b < n) : ((swp o n a b : Nat) : Int) = o + ((dgt o n b : Int) - dgt o n a) * (10 ^ (n - 1 - a) - 10 ^ (n - 1 - b)) := by
  unfold swp
  refine Int.toNat_of_nonneg ?_
  have h1 := fat_two (a := o) (show n - 1 - b < n - 1 - a by omega)
  rw [Int.sub_mul, Int.mul_sub, Int.mul_sub]
  have h2 : (fat o (n - 1 - a) : Int) * 10 ^ (n - 1 - a) + fat o (n - 1 - b) * 10 ^ (n - 1 - b) ≤ o := by exact_mod_cast h1
  have h3 : (0 : Int) ≤ (dgt o n b : Int) * 10 ^ (n - 1 - a) := Int.mul_nonneg (Int.natCast_nonneg _) (Int.pow_nonneg (by decide))
  have h4 : (0 : Int) ≤ (dgt o n a : Int) * 10 ^ (n - 1 - b) := Int.mul_nonneg (Int.natCast_nonneg _) (Int.pow_nonneg (by decide))
  unfold dgt at *
  omega
theorem swp_lt {o n a b : Nat} (h : a < b) (hb : b < n) : swp o n a b ≤ o + 9 * 10 ^ (n - 1 - a) + 9 * 10 ^ (n - 1 - b) := by
  have h0 := swp_eq (o := o) h hb
  rw [Int.sub_mul, Int.mul_sub, Int.mul_sub] at h0
  have h1 : dgt o n b * 10 ^ (n - 1 - a) ≤ 9 * 10 ^ (n - 1 - a) := Nat.mul_le_mul_right _ (Nat.le_of_lt_succ (fat_lt _ _))
  have h2 : dgt o n a * 10 ^ (n - 1 - b) ≤ 9 * 10 ^ (n - 1 - b) := Nat.mul_le_mul_right _ (Nat.le_of_lt_succ (fat_lt _ _))
  have h3 : (0 : Int) ≤ (dgt o n b : Int) * 10 ^ (n - 1 - b) := Int.mul_nonneg (Int.natCast_nonneg _) (Int.pow_nonneg (by decide))
  have h4 : (0 : Int) ≤ (dgt o n a : Int) * 10 ^ (n - 1 - a) := Int.mul_nonneg (Int.natCast_nonneg _) (Int.pow_nonneg (by decide))
  have h5 : (dgt o n b : Int) * 10 ^ (n - 1 - a) ≤ 9 * 10 ^ (n - 1 - a) := by exact_mod_cast h1
  have h6 : (dgt o n a : Int) * 10 ^ (n - 1 - b) ≤ 9 * 10 ^ (n - 1 - b) := by exact_mod_cast h2
  have h7 : ((swp o n a b : Nat) : Int) ≤ ((o + 9 * 10 ^ (n - 1 - a) + 9 * 10 ^ (n - 1 - b) : Nat) : Int) := by
    rw [h0]
    push_cast
    omega
  exact_mod_cast h7

set_option maxRecDepth 4000 in
set_option maxHeartbeats 1000000 in
theorem C6_falls (a n : Nat) (ha : a < 2147483648) (hn : n < 100) (f : fv_F) : fv_M Y6_falls 2 0 0 [.int (nI a), .int (nI n)] f none (fv_eq (some (.int (nI (ofal (dgt a n) n)))) f) := by
  refine fv_enter rfl (Nat.le_of_ble_eq_true rfl) ?_
  obtain ⟨Q, hQ⟩ : ∃ Q : Option Value → fv_F → Option Nat → Prop, Q = (fv_eq (some (.int (nI (ofal (dgt a n) n)))) f) := ⟨_, rfl⟩
  rw [← hQ]
  show fv_At Y6_falls 2 0 0 Q 0 [(0, .int (nI a)), (1, .int (nI n))] [] f none 0 0
  refine fx_iconst (v := (nI 0)) dX6_falls_0 (by decide) ?_
  refine fx_istore_n (lv2 := [(0, .int (nI a)), (1, .int (nI n)), (2, .int (nI 0))]) dX6_falls_1 (i := 2) rfl (by decide) rfl ?_
  refine fx_iconst (v := (nI 1)) dX6_falls_2 (by decide) ?_
  refine fx_istore_n (lv2 := [(0, .int (nI a)), (1, .int (nI n)), (2, .int (nI 0)), (3, .int (nI 1))]) dX6_falls_3 (i := 3) rfl (by decide) rfl ?_
  have L4 : ∀ (k : Nat) (c : Nat) (i : Nat), (i + 1 + k = n ∨ (n = 0 ∧ i = 0 ∧ k = 0)) → (ofal1 (dgt a n) n (n - i) i c = ofal (dgt a n) n) → fv_At Y6_falls 2 0 0 Q 4 [(0, .int (nI a)), (1, .int (nI n)), (2, .int (nI c)), (3, .int (nI (i + 1)))] [] f none 0 0 := by
    intro k
    induction k with
    | zero =>
      intro c i hi hR
      refine fx_iload_n dX6_falls_4 rfl (i := 3) rfl ?_
      refine fx_iload_n dX6_falls_5 rfl (i := 1) rfl ?_
      refine fn_icmp_ge (tgt := 51) dX6_falls_6 (by decide) (by omega) (by omega) (fun c6 => ?_) (fun c6 => ?_)
      · skip
        have hR2 : c = ofal (dgt a n) n := by
          rcases hi with h | h
          · rw [← hR, show n - i = 0 + 1 by omega, ofal1, show n - (i + 1) = 0 by omega]; rfl
          · rw [← hR, h.1, h.2.1]; rfl
        refine fx_iload_n dX6_falls_51 rfl (i := 2) rfl ?_
        exact fx_iret dX6_falls_52 rfl rfl rfl (by rw [hQ]; exact ⟨by rw [hR2], rfl, rfl⟩)
      · exfalso; omega
    | succ k ih4 =>
      intro c i hi hR
      refine fx_iload_n dX6_falls_4 rfl (i := 3) rfl ?_
      refine fx_iload_n dX6_falls_5 rfl (i := 1) rfl ?_
      refine fn_icmp_ge (tgt := 51) dX6_falls_6 (by decide) (by omega) (by omega) (fun c6 => ?_) (fun c6 => ?_)
      · exfalso; omega
      · skip
        refine fx_iload_n dX6_falls_9 rfl (i := 3) rfl ?_
        refine fx_iconst (v := (nI 1)) dX6_falls_10 (by decide) ?_
        refine fn_iadd dX6_falls_11 ?_
        refine fx_istore (lv2 := [(0, .int (nI a)), (1, .int (nI n)), (2, .int (nI c)), (3, .int (nI (i + 1))), (4, .int (nI ((i + 1) + 1)))]) dX6_falls_12 (by decide) rfl ?_
        have L14 : ∀ (k2 : Nat) (c2 : Nat) (j : Nat), (j + k2 = n) → (ofal2 (dgt a n) i k2 j c2 = ofal2 (dgt a n) i (n - (i + 1)) (i + 1) c) → fv_At Y6_falls 2 0 0 Q 14 [(0, .int (nI a)), (1, .int (nI n)), (2, .int (nI c2)), (3, .int (nI (i + 1))), (4, .int (nI (j + 1)))] [] f none 0 0 := by
          intro k2
          induction k2 with
          | zero =>
            intro c2 j hj hR14
            refine fx_iload dX6_falls_14 rfl ?_
            refine fx_iload_n dX6_falls_16 rfl (i := 1) rfl ?_
            refine fn_icmp_gt (tgt := 45) dX6_falls_17 (by decide) (by omega) (by omega) (fun c17 => ?_) (fun c17 => ?_)
            · skip
              refine fn_iinc (c := 1) (lv2 := [(0, .int (nI a)), (1, .int (nI n)), (2, .int (nI c2)), (3, .int (nI (i + 1 + 1))), (4, .int (nI (j + 1)))]) dX6_falls_45 (by decide) rfl (by decide) rfl ?_
              refine fx_goto (tgt := 4) dX6_falls_48 (by decide) ?_
              exact fn_sub [0, 1, 2, 3] rfl (ih4 c2 (i + 1) (by omega) (by rw [← hR, show n - i = n - (i + 1) + 1 by omega, ofal1]; exact congrArg _ hR14))
            · exfalso; omega
          | succ k2 ih14 =>
            intro c2 j hj hR14
            refine fx_iload dX6_falls_14 rfl ?_
            refine fx_iload_n dX6_falls_16 rfl (i := 1) rfl ?_
            refine fn_icmp_gt (tgt := 45) dX6_falls_17 (by decide) (by omega) (by omega) (fun c17 => ?_) (fun c17 => ?_)
            · exfalso; omega
            · skip
              refine fx_iload_n dX6_falls_20 rfl (i := 0) rfl ?_
              refine fx_iload_n dX6_falls_21 rfl (i := 1) rfl ?_
              refine fx_iload_n dX6_falls_22 rfl (i := 3) rfl ?_
              refine fn_cS dX6_falls_23 lk6_16 (C6_figure (a := a) (n := n) (p := i) (by omega) (by omega) (by omega) (f := f)) rfl rfl (by decide) (Nat.le_of_ble_eq_true rfl) ?_
              show fv_At Y6_falls 2 0 0 Q 26 [(0, .int (nI a)), (1, .int (nI n)), (2, .int (nI c2)), (3, .int (nI (i + 1))), (4, .int (nI (j + 1)))] [.int (nI (dgt a n i))] f none 0 0
              refine fx_iload_n dX6_falls_26 rfl (i := 0) rfl ?_
              refine fx_iload_n dX6_falls_27 rfl (i := 1) rfl ?_
              refine fx_iload dX6_falls_28 rfl ?_
              refine fn_cS dX6_falls_30 lk6_16 (C6_figure (a := a) (n := n) (p := j) (by omega) (by omega) (by omega) (f := f)) rfl rfl (by decide) (Nat.le_of_ble_eq_true rfl) ?_
              show fv_At Y6_falls 2 0 0 Q 33 [(0, .int (nI a)), (1, .int (nI n)), (2, .int (nI c2)), (3, .int (nI (i + 1))), (4, .int (nI (j + 1)))] [.int (nI (dgt a n j)), .int (nI (dgt a n i))] f none 0 0
              refine fn_icmp_le (tgt := 39) dX6_falls_33 (by decide) (Nat.lt_trans (fat_lt _ _) (by decide)) (Nat.lt_trans (fat_lt _ _) (by decide)) (fun c33 => ?_) (fun c33 => ?_)
              · skip
                refine fn_iinc (c := 1) (lv2 := [(0, .int (nI a)), (1, .int (nI n)), (2, .int (nI c2)), (3, .int (nI (i + 1))), (4, .int (nI (j + 1 + 1)))]) dX6_falls_39 (by decide) rfl (by decide) rfl ?_
                refine fx_goto (tgt := 14) dX6_falls_42 (by decide) ?_
                exact (ih14 c2 (j + 1) (by omega) (by rw [← hR14, ofal2]; split <;> first | rfl | omega))
              · skip
                refine fn_iinc (c := 1) (lv2 := [(0, .int (nI a)), (1, .int (nI n)), (2, .int (nI (c2 + 1))), (3, .int (nI (i + 1))), (4, .int (nI (j + 1)))]) dX6_falls_36 (by decide) rfl (by decide) rfl ?_
                refine fn_iinc (c := 1) (lv2 := [(0, .int (nI a)), (1, .int (nI n)), (2, .int (nI (c2 + 1))), (3, .int (nI (i + 1))), (4, .int (nI (j + 1 + 1)))]) dX6_falls_39 (by decide) rfl (by decide) rfl ?_
                refine fx_goto (tgt := 14) dX6_falls_42 (by decide) ?_
                exact (ih14 (c2 + 1) (j + 1) (by omega) (by rw [← hR14, ofal2]; split <;> first | rfl | omega))
        exact (L14 (n - (i + 1)) c (i + 1) (by omega) rfl)
  exact (L4 (n - 1) 0 0 (by omega) rfl)

set_option maxRecDepth 4000 in
set_option maxHeartbeats 1000000 in
theorem C6_swapped (o n a b : Nat) (ho : o < 2147483648) (hn : n < 100) (hab : a < b) (hb : b < n) (f : fv_F) : fv_M Y6_swapped 2 0 0 [.int (nI o), .int (nI n), .int (nI (a + 1)), .int (nI (b + 1))] f none (fv_eq (some (.int (nI (swp o n a b)))) f) := by
  refine fv_enter rfl (Nat.le_of_ble_eq_true rfl) ?_
  obtain ⟨Q, hQ⟩ : ∃ Q : Option Value → fv_F → Option Nat → Prop, Q = (fv_eq (some (.int (nI (swp o n a b)))) f) := ⟨_, rfl⟩
  rw [← hQ]
  show fv_At Y6_swapped 2 0 0 Q 0 [(0, .int (nI o)), (1, .int (nI n)), (2, .int (nI (a + 1))), (3, .int (nI (b + 1)))] [] f none 0 0
  refine fx_iload_n dX6_swapped_0 rfl (i := 0) rfl ?_
  refine fx_iload_n dX6_swapped_1 rfl (i := 1) rfl ?_
  refine fx_iload_n dX6_swapped_2 rfl (i := 3) rfl ?_
  refine fn_cS dX6_swapped_3 lk6_16 (C6_figure (a := o) (n := n) (p := b) (by omega) (by omega) (by omega) (f := f)) rfl rfl (by decide) (Nat.le_of_ble_eq_true rfl) ?_
  show fv_At Y6_swapped 2 0 0 Q 6 [(0, .int (nI o)), (1, .int (nI n)), (2, .int (nI (a + 1))), (3, .int (nI (b + 1)))] [.int (nI (dgt o n b))] f none 0 0
  refine fx_iload_n dX6_swapped_6 rfl (i := 0) rfl ?_
  refine fx_iload_n dX6_swapped_7 rfl (i := 1) rfl ?_
  refine fx_iload_n dX6_swapped_8 rfl (i := 2) rfl ?_
  refine fn_cS dX6_swapped_9 lk6_16 (C6_figure (a := o) (n := n) (p := a) (by omega) (by omega) (by omega) (f := f)) rfl rfl (by decide) (Nat.le_of_ble_eq_true rfl) ?_
  show fv_At Y6_swapped 2 0 0 Q 12 [(0, .int (nI o)), (1, .int (nI n)), (2, .int (nI (a + 1))), (3, .int (nI (b + 1)))] [.int (nI (dgt o n a)), .int (nI (dgt o n b))] f none 0 0
  refine fn_isubZ (a := ((dgt o n b : Nat) : Int)) (b := ((dgt o n a : Nat) : Int)) dX6_swapped_12 ?_
  refine fx_istore (lv2 := [(0, .int (nI o)), (1, .int (nI n)), (2, .int (nI (a + 1))), (3, .int (nI (b + 1))), (4, .int (iI ((((dgt o n b : Nat) : Int)) - (((dgt o n a : Nat) : Int)))))]) dX6_swapped_13 (by decide) rfl ?_
  refine fx_iload_n dX6_swapped_15 rfl (i := 0) rfl ?_
  refine fx_iload dX6_swapped_16 rfl ?_
  refine fx_bipush (v := (nI 10)) dX6_swapped_18 (by decide) ?_
  refine fx_iload_n dX6_swapped_20 rfl (i := 1) rfl ?_
  refine fx_iload_n dX6_swapped_21 rfl (i := 2) rfl ?_
  refine fn_isub dX6_swapped_22 (by omega) ?_
  refine fn_cS dX6_swapped_23 lk6_22 (C3_power (b := 10) (k := n - (a + 1)) (by omega) (f := f)) rfl rfl (by decide) (Nat.le_of_ble_eq_true rfl) ?_
  show fv_At Y6_swapped 2 0 0 Q 26 [(0, .int (nI o)), (1, .int (nI n)), (2, .int (nI (a + 1))), (3, .int (nI (b + 1))), (4, .int (iI ((((dgt o n b : Nat) : Int)) - (((dgt o n a : Nat) : Int)))))] [.int (nI (10 ^ (n - (a + 1)))), .int (iI ((((dgt o n b : Nat) : Int)) - (((dgt o n a : Nat) : Int)))), .int (nI o)] f none 0 0
  refine fx_bipush (v := (nI 10)) dX6_swapped_26 (by decide) ?_
  refine fx_iload_n dX6_swapped_28 rfl (i := 1) rfl ?_
  refine fx_iload_n dX6_swapped_29 rfl (i := 3) rfl ?_
  refine fn_isub dX6_swapped_30 (by omega) ?_
  refine fn_cS dX6_swapped_31 lk6_22 (C3_power (b := 10) (k := n - (b + 1)) (by omega) (f := f)) rfl rfl (by decide) (Nat.le_of_ble_eq_true rfl) ?_
  show fv_At Y6_swapped 2 0 0 Q 34 [(0, .int (nI o)), (1, .int (nI n)), (2, .int (nI (a + 1))), (3, .int (nI (b + 1))), (4, .int (iI ((((dgt o n b : Nat) : Int)) - (((dgt o n a : Nat) : Int)))))] [.int (nI (10 ^ (n - (b + 1)))), .int (nI (10 ^ (n - (a + 1)))), .int (iI ((((dgt o n b : Nat) : Int)) - (((dgt o n a : Nat) : Int)))), .int (nI o)] f none 0 0
  refine fn_isubZ (a := ((10 ^ (n - (a + 1)) : Nat) : Int)) (b := ((10 ^ (n - (b + 1)) : Nat) : Int)) dX6_swapped_34 ?_
  refine fn_imulZ (a := (((dgt o n b : Nat) : Int)) - (((dgt o n a : Nat) : Int))) (b := (((10 ^ (n - (a + 1)) : Nat) : Int)) - (((10 ^ (n - (b + 1)) : Nat) : Int))) dX6_swapped_35 ?_
  refine fn_iaddZ (a := ((o : Nat) : Int)) (b := ((((dgt o n b : Nat) : Int)) - (((dgt o n a : Nat) : Int))) * ((((10 ^ (n - (a + 1)) : Nat) : Int)) - (((10 ^ (n - (b + 1)) : Nat) : Int)))) dX6_swapped_36 ?_
  exact fx_iret dX6_swapped_37 rfl rfl rfl (by rw [hQ]; exact ⟨by rw [← iI_n, swp_eq hab hb]; push_cast; rw [show n - (a + 1) = n - 1 - a by omega, show n - (b + 1) = n - 1 - b by omega], rfl, rfl⟩)

/-- the inverse: place i + 1 comes to the place that its figure tells -/
def oinv (h : Nat → Nat) (n : Nat) : Nat → Nat → Nat → Nat
  | 0, _, c => c
  | k + 1, i, c => oinv h n k (i + 1) (c + (i + 1) * 10 ^ (n - h i))
set_option maxRecDepth 4000 in
set_option maxHeartbeats 1000000 in
theorem C6_inverted (a n : Nat) (ha : a < 2147483648) (hn : n < 100) (hv : ∀ p, p < n → dgt a n p ≤ n) (f : fv_F) : fv_M Y6_inverted 2 0 0 [.int (nI a), .int (nI n)] f none (fv_eq (some (.int (nI (oinv (dgt a n) n n 0 0)))) f) := by
  refine fv_enter rfl (Nat.le_of_ble_eq_true rfl) ?_
  obtain ⟨Q, hQ⟩ : ∃ Q : Option Value → fv_F → Option Nat → Prop, Q = (fv_eq (some (.int (nI (oinv (dgt a n) n n 0 0)))) f) := ⟨_, rfl⟩
  rw [← hQ]
  show fv_At Y6_inverted 2 0 0 Q 0 [(0, .int (nI a)), (1, .int (nI n))] [] f none 0 0
  refine fx_iconst (v := (nI 0)) dX6_inverted_0 (by decide) ?_
  refine fx_istore_n (lv2 := [(0, .int (nI a)), (1, .int (nI n)), (2, .int (nI 0))]) dX6_inverted_1 (i := 2) rfl (by decide) rfl ?_
  refine fx_iconst (v := (nI 1)) dX6_inverted_2 (by decide) ?_
  refine fx_istore_n (lv2 := [(0, .int (nI a)), (1, .int (nI n)), (2, .int (nI 0)), (3, .int (nI 1))]) dX6_inverted_3 (i := 3) rfl (by decide) rfl ?_
  have L4 : ∀ (k : Nat) (c : Nat) (i : Nat), (i + k = n) → (oinv (dgt a n) n k i c = oinv (dgt a n) n n 0 0) → fv_At Y6_inverted 2 0 0 Q 4 [(0, .int (nI a)), (1, .int (nI n)), (2, .int (nI c)), (3, .int (nI (i + 1)))] [] f none 0 0 := by
    intro k
    induction k with
    | zero =>
      intro c i hi hR
      refine fx_iload_n dX6_inverted_4 rfl (i := 3) rfl ?_
      refine fx_iload_n dX6_inverted_5 rfl (i := 1) rfl ?_
      refine fn_icmp_gt (tgt := 33) dX6_inverted_6 (by decide) (by omega) (by omega) (fun c6 => ?_) (fun c6 => ?_)
      · skip
        refine fx_iload_n dX6_inverted_33 rfl (i := 2) rfl ?_
        exact fx_iret dX6_inverted_34 rfl rfl rfl (by rw [hQ]; exact ⟨by rw [← hR]; rfl, rfl, rfl⟩)
      · exfalso; omega
    | succ k ih4 =>
      intro c i hi hR
      refine fx_iload_n dX6_inverted_4 rfl (i := 3) rfl ?_
      refine fx_iload_n dX6_inverted_5 rfl (i := 1) rfl ?_
      refine fn_icmp_gt (tgt := 33) dX6_inverted_6 (by decide) (by omega) (by omega) (fun c6 => ?_) (fun c6 => ?_)
      · exfalso; omega
      · skip
        refine fx_iload_n dX6_inverted_9 rfl (i := 2) rfl ?_
        refine fx_iload_n dX6_inverted_10 rfl (i := 3) rfl ?_
        refine fx_bipush (v := (nI 10)) dX6_inverted_11 (by decide) ?_
        refine fx_iload_n dX6_inverted_13 rfl (i := 1) rfl ?_
        refine fx_iload_n dX6_inverted_14 rfl (i := 0) rfl ?_
        refine fx_iload_n dX6_inverted_15 rfl (i := 1) rfl ?_
        refine fx_iload_n dX6_inverted_16 rfl (i := 3) rfl ?_
        refine fn_cS dX6_inverted_17 lk6_16 (C6_figure (a := a) (n := n) (p := i) (by omega) (by omega) (by omega) (f := f)) rfl rfl (by decide) (Nat.le_of_ble_eq_true rfl) ?_
        show fv_At Y6_inverted 2 0 0 Q 20 [(0, .int (nI a)), (1, .int (nI n)), (2, .int (nI c)), (3, .int (nI (i + 1)))] [.int (nI (dgt a n i)), .int (nI n), .int (nI 10), .int (nI (i + 1)), .int (nI c)] f none 0 0
        refine fn_isub dX6_inverted_20 (hv i (by omega)) ?_
        refine fn_cS dX6_inverted_21 lk6_22 (C3_power (b := 10) (k := n - (dgt a n i)) (by omega) (f := f)) rfl rfl (by decide) (Nat.le_of_ble_eq_true rfl) ?_
        show fv_At Y6_inverted 2 0 0 Q 24 [(0, .int (nI a)), (1, .int (nI n)), (2, .int (nI c)), (3, .int (nI (i + 1)))] [.int (nI (10 ^ (n - (dgt a n i)))), .int (nI (i + 1)), .int (nI c)] f none 0 0
        refine fn_imul dX6_inverted_24 ?_
        refine fn_iadd dX6_inverted_25 ?_
        refine fx_istore_n (lv2 := [(0, .int (nI a)), (1, .int (nI n)), (2, .int (nI (c + ((i + 1) * (10 ^ (n - (dgt a n i))))))), (3, .int (nI (i + 1)))]) dX6_inverted_26 (i := 2) rfl (by decide) rfl ?_
        refine fn_iinc (c := 1) (lv2 := [(0, .int (nI a)), (1, .int (nI n)), (2, .int (nI (c + ((i + 1) * (10 ^ (n - (dgt a n i))))))), (3, .int (nI (i + 1 + 1)))]) dX6_inverted_27 (by decide) rfl (by decide) rfl ?_
        refine fx_goto (tgt := 4) dX6_inverted_30 (by decide) ?_
        exact (ih4 (c + ((i + 1) * (10 ^ (n - (dgt a n i))))) (i + 1) (by omega) hR)
  exact (L4 n 0 0 (by omega) rfl)

/-- the first place whose figure is above the next one, or not; 0: there is none -/
def ofst (h : Nat → Nat) (b : Bool) : Nat → Nat → Nat
  | 0, _ => 0
  | k + 1, i => if decide (h (i + 1) < h i) = b then i + 1 else ofst h b k (i + 1)
set_option maxRecDepth 4000 in
set_option maxHeartbeats 1000000 in
theorem C6_firstStep (a n : Nat) (b : Bool) (ha : a < 2147483648) (hn : n < 100) (f : fv_F) : fv_M Y6_firstStep 2 0 0 [.int (nI a), .int (nI n), .int (bI b)] f none (fv_eq (some (.int (nI (ofst (dgt a n) b (n - 1) 0)))) f) := by
  refine fv_enter rfl (Nat.le_of_ble_eq_true rfl) ?_
  obtain ⟨Q, hQ⟩ : ∃ Q : Option Value → fv_F → Option Nat → Prop, Q = (fv_eq (some (.int (nI (ofst (dgt a n) b (n - 1) 0)))) f) := ⟨_, rfl⟩
  rw [← hQ]
  show fv_At Y6_firstStep 2 0 0 Q 0 [(0, .int (nI a)), (1, .int (nI n)), (2, .int (bI b))] [] f none 0 0
  refine fx_iconst (v := (nI 1)) dX6_firstStep_0 (by decide) ?_
  refine fx_istore_n (lv2 := [(0, .int (nI a)), (1, .int (nI n)), (2, .int (bI b)), (3, .int (nI 1))]) dX6_firstStep_1 (i := 3) rfl (by decide) rfl ?_
  have L2 : ∀ (k : Nat) (i : Nat), (i + 1 + k = n ∨ (n = 0 ∧ i = 0 ∧ k = 0)) → (ofst (dgt a n) b k i = ofst (dgt a n) b (n - 1) 0) → fv_At Y6_firstStep 2 0 0 Q 2 [(0, .int (nI a)), (1, .int (nI n)), (2, .int (bI b)), (3, .int (nI (i + 1)))] [] f none 0 0 := by
    intro k
    induction k with
    | zero =>
      intro i hi hR
      refine fx_iload_n dX6_firstStep_2 rfl (i := 3) rfl ?_
      refine fx_iload_n dX6_firstStep_3 rfl (i := 1) rfl ?_
      refine fn_icmp_ge (tgt := 41) dX6_firstStep_4 (by decide) (by omega) (by omega) (fun c4 => ?_) (fun c4 => ?_)
      · skip
        refine fx_iconst (v := (nI 0)) dX6_firstStep_41 (by decide) ?_
        exact fx_iret dX6_firstStep_42 rfl rfl rfl (by rw [hQ]; exact ⟨by rw [← hR]; rfl, rfl, rfl⟩)
      · exfalso; omega
    | succ k ih2 =>
      intro i hi hR
      refine fx_iload_n dX6_firstStep_2 rfl (i := 3) rfl ?_
      refine fx_iload_n dX6_firstStep_3 rfl (i := 1) rfl ?_
      refine fn_icmp_ge (tgt := 41) dX6_firstStep_4 (by decide) (by omega) (by omega) (fun c4 => ?_) (fun c4 => ?_)
      · exfalso; omega
      · skip
        refine fx_iload_n dX6_firstStep_7 rfl (i := 0) rfl ?_
        refine fx_iload_n dX6_firstStep_8 rfl (i := 1) rfl ?_
        refine fx_iload_n dX6_firstStep_9 rfl (i := 3) rfl ?_
        refine fn_cS dX6_firstStep_10 lk6_16 (C6_figure (a := a) (n := n) (p := i) (by omega) (by omega) (by omega) (f := f)) rfl rfl (by decide) (Nat.le_of_ble_eq_true rfl) ?_
        show fv_At Y6_firstStep 2 0 0 Q 13 [(0, .int (nI a)), (1, .int (nI n)), (2, .int (bI b)), (3, .int (nI (i + 1)))] [.int (nI (dgt a n i))] f none 0 0
        refine fx_iload_n dX6_firstStep_13 rfl (i := 0) rfl ?_
        refine fx_iload_n dX6_firstStep_14 rfl (i := 1) rfl ?_
        refine fx_iload_n dX6_firstStep_15 rfl (i := 3) rfl ?_
        refine fx_iconst (v := (nI 1)) dX6_firstStep_16 (by decide) ?_
        refine fn_iadd dX6_firstStep_17 ?_
        refine fn_cS dX6_firstStep_18 lk6_16 (C6_figure (a := a) (n := n) (p := i + 1) (by omega) (by omega) (by omega) (f := f)) rfl rfl (by decide) (Nat.le_of_ble_eq_true rfl) ?_
        show fv_At Y6_firstStep 2 0 0 Q 21 [(0, .int (nI a)), (1, .int (nI n)), (2, .int (bI b)), (3, .int (nI (i + 1)))] [.int (nI (dgt a n (i + 1))), .int (nI (dgt a n i))] f none 0 0
        refine fn_icmp_le (tgt := 28) dX6_firstStep_21 (by decide) (Nat.lt_trans (dgt_lt _ _ _) (by decide)) (Nat.lt_trans (dgt_lt _ _ _) (by decide)) (fun c21 => ?_) (fun c21 => ?_)
        · skip
          refine fx_iconst (v := (nI 0)) dX6_firstStep_28 (by decide) ?_
          refine fn_to (show _ = (bI false) from rfl) ?_
          refine fx_iload_n dX6_firstStep_29 rfl (i := 2) rfl ?_
          refine fn_icmp_neB (tgt := 35) dX6_firstStep_30 (by decide) (fun c30 => ?_) (fun c30 => ?_)
          · skip
            refine fn_iinc (c := 1) (lv2 := [(0, .int (nI a)), (1, .int (nI n)), (2, .int (bI b)), (3, .int (nI (i + 1 + 1)))]) dX6_firstStep_35 (by decide) rfl (by decide) rfl ?_
            refine fx_goto (tgt := 2) dX6_firstStep_38 (by decide) ?_
            exact (ih2 (i + 1) (by omega) (by rw [← hR, ofst, if_neg (by cases b <;> simp_all)]))
          · skip
            refine fx_iload_n dX6_firstStep_33 rfl (i := 3) rfl ?_
            exact fx_iret dX6_firstStep_34 rfl rfl rfl (by rw [hQ]; exact ⟨by rw [← hR, ofst, if_pos (by cases b <;> simp_all)], rfl, rfl⟩)
        · skip
          refine fx_iconst (v := (nI 1)) dX6_firstStep_24 (by decide) ?_
          refine fn_to (show _ = (bI true) from rfl) ?_
          refine fx_goto (tgt := 29) dX6_firstStep_25 (by decide) ?_
          refine fx_iload_n dX6_firstStep_29 rfl (i := 2) rfl ?_
          refine fn_icmp_neB (tgt := 35) dX6_firstStep_30 (by decide) (fun c30 => ?_) (fun c30 => ?_)
          · skip
            refine fn_iinc (c := 1) (lv2 := [(0, .int (nI a)), (1, .int (nI n)), (2, .int (bI b)), (3, .int (nI (i + 1 + 1)))]) dX6_firstStep_35 (by decide) rfl (by decide) rfl ?_
            refine fx_goto (tgt := 2) dX6_firstStep_38 (by decide) ?_
            exact (ih2 (i + 1) (by omega) (by rw [← hR, ofst, if_neg (by cases b <;> simp_all)]))
          · skip
            refine fx_iload_n dX6_firstStep_33 rfl (i := 3) rfl ?_
            exact fx_iret dX6_firstStep_34 rfl rfl rfl (by rw [hQ]; exact ⟨by rw [← hR, ofst, if_pos (by cases b <;> simp_all)], rfl, rfl⟩)
  exact (L2 (n - 1) 0 (by omega) rfl)

/-- how many figures, and which -/
def figl : Nat → Nat → Nat → Nat → Nat × Nat
  | 0, n, s, _ => (n, s)
  | k + 1, n, s, r => if 0 < r then figl k (n + 1) (s ||| 2 ^ (r % 10)) (r / 10) else (n, s)
def figN (o : Nat) : Nat := if (figl 5 0 0 o).2 = 2 ^ ((figl 5 0 0 o).1 + 1) - 2 then (figl 5 0 0 o).1 else 0
def figs (o : Int) : Nat := if o < 1 ∨ 54321 < o then 0 else figN o.toNat

set_option maxRecDepth 4000 in
set_option maxHeartbeats 1000000 in
theorem C6_figures (o : Int) (h1 : -2147483648 ≤ o) (h2 : o < 2147483648) (f : fv_F) : fv_M Y6_figures 0 0 0 [.int (iI o)] f none (fv_eq (some (.int (nI (figs o)))) f) := by
  refine fv_enter rfl (Nat.le_of_ble_eq_true rfl) ?_
  obtain ⟨Q, hQ⟩ : ∃ Q : Option Value → fv_F → Option Nat → Prop, Q = (fv_eq (some (.int (nI (figs o)))) f) := ⟨_, rfl⟩
  rw [← hQ]
  show fv_At Y6_figures 0 0 0 Q 0 [(0, .int (iI o))] [] f none 0 0
  refine fx_iload_n dX6_figures_0 rfl (i := 0) rfl ?_
  refine fx_iconst (v := (nI 1)) dX6_figures_1 (by decide) ?_
  refine fn_icmp_ltZ (a := o) (b := ((1 : Nat) : Int)) (tgt := 11) dX6_figures_2 (by decide) (by omega) (by omega) (by omega) (by omega) (fun c2 => ?_) (fun c2 => ?_)
  · skip
    refine fx_iconst (v := (nI 0)) dX6_figures_11 (by decide) ?_
    exact fx_iret dX6_figures_12 rfl rfl rfl (by rw [hQ]; exact ⟨by unfold figs; rw [if_pos (by omega)], rfl, rfl⟩)
  · skip
    refine fx_iload_n dX6_figures_5 rfl (i := 0) rfl ?_
    refine fx_ldc dX6_figures_6 kc6_9 (fn_to (show _ = (nI 54321) by decide) ?_)
    refine fn_icmp_leZ (a := o) (b := ((54321 : Nat) : Int)) (tgt := 13) dX6_figures_8 (by decide) (by omega) (by omega) (by omega) (by omega) (fun c8 => ?_) (fun c8 => ?_)
    · skip
      obtain ⟨w, rfl⟩ : ∃ w : Nat, o = (w : Int) := ⟨o.toNat, by omega⟩
      have hf : figs (w : Int) = figN w := by unfold figs; rw [if_neg (by omega)]; rfl
      show fv_At Y6_figures 0 0 0 Q 13 [(0, .int (nI w))] [] f none 0 0
      refine fx_iconst (v := (nI 0)) dX6_figures_13 (by decide) ?_
      refine fx_istore_n (lv2 := [(0, .int (nI w)), (1, .int (nI 0))]) dX6_figures_14 (i := 1) rfl (by decide) rfl ?_
      refine fx_iconst (v := (nI 0)) dX6_figures_15 (by decide) ?_
      refine fx_istore_n (lv2 := [(0, .int (nI w)), (1, .int (nI 0)), (2, .int (nI 0))]) dX6_figures_16 (i := 2) rfl (by decide) rfl ?_
      refine fx_iload_n dX6_figures_17 rfl (i := 0) rfl ?_
      refine fx_istore_n (lv2 := [(0, .int (nI w)), (1, .int (nI 0)), (2, .int (nI 0)), (3, .int (nI w))]) dX6_figures_18 (i := 3) rfl (by decide) rfl ?_
      have L19 : ∀ (k : Nat) (n : Nat) (s : Nat) (r : Nat), (n + k = 5) → (r < 100000) → (s < 1024) → (figl k n s r = figl 5 0 0 w) → fv_At Y6_figures 0 0 0 Q 19 [(0, .int (nI w)), (1, .int (nI n)), (2, .int (nI s)), (3, .int (nI r))] [] f none 0 0 := by
        intro k
        induction k with
        | zero =>
          intro n s r hn hb hs hR
          refine fx_iload_n dX6_figures_19 rfl (i := 1) rfl ?_
          refine fx_iconst (v := (nI 5)) dX6_figures_20 (by decide) ?_
          refine fn_icmp_ge (tgt := 48) dX6_figures_21 (by decide) (by omega) (by omega) (fun c21 => ?_) (fun c21 => ?_)
          · skip
            have hq : figl 5 0 0 w = (n, s) := by first | exact hR.symm | rw [← hR, figl, if_neg (by omega)]
            have e2 : 2 ^ (n + 1) ≤ 2 ^ 6 := Nat.pow_le_pow_right (by decide) (by omega)
            have e3 : 2 ^ 1 ≤ 2 ^ (n + 1) := Nat.pow_le_pow_right (by decide) (by omega)
            refine fx_iload_n dX6_figures_48 rfl (i := 2) rfl ?_
            refine fx_iconst (v := (nI 1)) dX6_figures_49 (by decide) ?_
            refine fx_iload_n dX6_figures_50 rfl (i := 1) rfl ?_
            refine fx_iconst (v := (nI 1)) dX6_figures_51 (by decide) ?_
            refine fn_iadd dX6_figures_52 ?_
            refine fx_ishl dX6_figures_53 ?_
            refine fn_to (show _ = (nI (2 ^ (n + 1))) from (nI_shl1 _ (by omega))) ?_
            refine fx_iconst (v := (nI 2)) dX6_figures_54 (by decide) ?_
            refine fn_isub dX6_figures_55 (by omega) ?_
            refine fn_icmp_ne (tgt := 63) dX6_figures_56 (by decide) (by omega) (by omega) (fun c56 => ?_) (fun c56 => ?_)
            · skip
              refine fx_iconst (v := (nI 0)) dX6_figures_63 (by decide) ?_
              exact fx_iret dX6_figures_64 rfl rfl rfl (by rw [hQ]; exact ⟨by rw [hf]; unfold figN; simp only [hq]; first | rw [if_pos c56] | rw [if_neg c56], rfl, rfl⟩)
            · skip
              refine fx_iload_n dX6_figures_59 rfl (i := 1) rfl ?_
              refine fx_goto (tgt := 64) dX6_figures_60 (by decide) ?_
              exact fx_iret dX6_figures_64 rfl rfl rfl (by rw [hQ]; exact ⟨by rw [hf]; unfold figN; simp only [hq]; first | rw [if_pos c56] | rw [if_neg c56], rfl, rfl⟩)
          · exfalso; omega
        | succ k ih19 =>
          intro n s r hn hb hs hR
          refine fx_iload_n dX6_figures_19 rfl (i := 1) rfl ?_
          refine fx_iconst (v := (nI 5)) dX6_figures_20 (by decide) ?_
          refine fn_icmp_ge (tgt := 48) dX6_figures_21 (by decide) (by omega) (by omega) (fun c21 => ?_) (fun c21 => ?_)
          · exfalso; omega
          · skip
            refine fx_iload_n dX6_figures_24 rfl (i := 3) rfl ?_
            refine fn_if_le (tgt := 48) dX6_figures_25 (by decide) (by omega) (fun c25 => ?_) (fun c25 => ?_)
            · skip
              have hq : figl 5 0 0 w = (n, s) := by first | exact hR.symm | rw [← hR, figl, if_neg (by omega)]
              have e2 : 2 ^ (n + 1) ≤ 2 ^ 6 := Nat.pow_le_pow_right (by decide) (by omega)
              have e3 : 2 ^ 1 ≤ 2 ^ (n + 1) := Nat.pow_le_pow_right (by decide) (by omega)
              refine fx_iload_n dX6_figures_48 rfl (i := 2) rfl ?_
              refine fx_iconst (v := (nI 1)) dX6_figures_49 (by decide) ?_
              refine fx_iload_n dX6_figures_50 rfl (i := 1) rfl ?_
              refine fx_iconst (v := (nI 1)) dX6_figures_51 (by decide) ?_
              refine fn_iadd dX6_figures_52 ?_
              refine fx_ishl dX6_figures_53 ?_
              refine fn_to (show _ = (nI (2 ^ (n + 1))) from (nI_shl1 _ (by omega))) ?_
              refine fx_iconst (v := (nI 2)) dX6_figures_54 (by decide) ?_
              refine fn_isub dX6_figures_55 (by omega) ?_
              refine fn_icmp_ne (tgt := 63) dX6_figures_56 (by decide) (by omega) (by omega) (fun c56 => ?_) (fun c56 => ?_)
              · skip
                refine fx_iconst (v := (nI 0)) dX6_figures_63 (by decide) ?_
                exact fx_iret dX6_figures_64 rfl rfl rfl (by rw [hQ]; exact ⟨by rw [hf]; unfold figN; simp only [hq]; first | rw [if_pos c56] | rw [if_neg c56], rfl, rfl⟩)
              · skip
                refine fx_iload_n dX6_figures_59 rfl (i := 1) rfl ?_
                refine fx_goto (tgt := 64) dX6_figures_60 (by decide) ?_
                exact fx_iret dX6_figures_64 rfl rfl rfl (by rw [hQ]; exact ⟨by rw [hf]; unfold figN; simp only [hq]; first | rw [if_pos c56] | rw [if_neg c56], rfl, rfl⟩)
            · skip
              refine fx_iload_n dX6_figures_28 rfl (i := 2) rfl ?_
              refine fx_iconst (v := (nI 1)) dX6_figures_29 (by decide) ?_
              refine fx_iload_n dX6_figures_30 rfl (i := 3) rfl ?_
              refine fx_bipush (v := (nI 10)) dX6_figures_31 (by decide) ?_
              refine fn_irem dX6_figures_33 (by omega) (by omega) (by omega) ?_
              refine fx_ishl dX6_figures_34 ?_
              refine fn_to (show _ = (nI (2 ^ (r % 10))) from (nI_shl1 _ (by omega))) ?_
              refine fx_ior dX6_figures_35 ?_
              refine fn_to (show _ = (nI (s ||| 2 ^ (r % 10))) from (nI_or _ _)) ?_
              refine fx_istore_n (lv2 := [(0, .int (nI w)), (1, .int (nI n)), (2, .int (nI (s ||| 2 ^ (r % 10)))), (3, .int (nI r))]) dX6_figures_36 (i := 2) rfl (by decide) rfl ?_
              refine fx_iload_n dX6_figures_37 rfl (i := 3) rfl ?_
              refine fx_bipush (v := (nI 10)) dX6_figures_38 (by decide) ?_
              refine fn_idiv dX6_figures_40 (by omega) (by omega) (by omega) ?_
              refine fx_istore_n (lv2 := [(0, .int (nI w)), (1, .int (nI n)), (2, .int (nI (s ||| 2 ^ (r % 10)))), (3, .int (nI (r / 10)))]) dX6_figures_41 (i := 3) rfl (by decide) rfl ?_
              refine fn_iinc (c := 1) (lv2 := [(0, .int (nI w)), (1, .int (nI (n + 1))), (2, .int (nI (s ||| 2 ^ (r % 10)))), (3, .int (nI (r / 10)))]) dX6_figures_42 (by decide) rfl (by decide) rfl ?_
              refine fx_goto (tgt := 19) dX6_figures_45 (by decide) ?_
              exact (ih19 (n + 1) (s ||| 2 ^ (r % 10)) (r / 10) (by omega) (by omega) (Nat.or_lt_two_pow (n := 10) hs (Nat.pow_lt_pow_right (by decide) (by omega))) (by rw [← hR, figl, if_pos (by omega)]))
      exact (L19 5 0 0 w (by omega) (by omega) (by omega) rfl)
    · skip
      refine fx_iconst (v := (nI 0)) dX6_figures_11 (by decide) ?_
      exact fx_iret dX6_figures_12 rfl rfl rfl (by rw [hQ]; exact ⟨by unfold figs; rw [if_pos (by omega)], rfl, rfl⟩)
end
section
/-- how many orders have a length -/
def olenS (g : Nat → Nat) (len : Nat) : Nat → Nat → Nat → Nat
  | 0, _, c => c
  | k + 1, b, c => if b ≤ len then olenS g len k (b + 1) (c + g (len - b)) else c
def olen : Nat → Nat → Nat
  | 0, len => if len = 0 then 1 else 0
  | 1, len => if len = 0 then 1 else 0
  | n + 2, len => olenS (olen (n + 1)) len (n + 2) 0 0
theorem olen_2 (n len : Nat) (h : 1 < n) : olen n len = olenS (olen (n - 1)) len n 0 0 := by
  match n, h with
  | n + 2, _ => rfl
theorem olen_1 (n len : Nat) (h : n ≤ 1) : olen n len = if len = 0 then 1 else 0 := by
  match n, h with
  | 0, _ => rfl
  | 1, _ => rfl

set_option maxRecDepth 4000 in
set_option maxHeartbeats 1000000 in
theorem C6_ofLength_1 (n l : Nat) (hn : n < 100) (hl : l < 2147483648) (ih : ∀ (m l : Nat) (f : fv_F), m < n → l < 2147483648 → fv_M Y6_ofLength m 0 0 [.int (nI m), .int (nI l)] f none (fv_eq (some (.int (nI (olen m l)))) f)) (f : fv_F) : fv_M Y6_ofLength n 0 0 [.int (nI n), .int (nI l)] f none (fv_eq (some (.int (nI (olen n l)))) f) := by
  refine fv_enter rfl (Nat.le_of_ble_eq_true rfl) ?_
  obtain ⟨Q, hQ⟩ : ∃ Q : Option Value → fv_F → Option Nat → Prop, Q = (fv_eq (some (.int (nI (olen n l)))) f) := ⟨_, rfl⟩
  rw [← hQ]
  show fv_At Y6_ofLength n 0 0 Q 0 [(0, .int (nI n)), (1, .int (nI l))] [] f none 0 0
  refine fx_iload_n dX6_ofLength_0 rfl (i := 0) rfl ?_
  refine fx_iconst (v := (nI 1)) dX6_ofLength_1 (by decide) ?_
  refine fn_icmp_gt (tgt := 15) dX6_ofLength_2 (by decide) (by omega) (by omega) (fun c2 => ?_) (fun c2 => ?_)
  · skip
    refine fx_iconst (v := (nI 0)) dX6_ofLength_15 (by decide) ?_
    refine fx_istore_n (lv2 := [(0, .int (nI n)), (1, .int (nI l)), (2, .int (nI 0))]) dX6_ofLength_16 (i := 2) rfl (by decide) rfl ?_
    refine fx_iconst (v := (nI 0)) dX6_ofLength_17 (by decide) ?_
    refine fx_istore_n (lv2 := [(0, .int (nI n)), (1, .int (nI l)), (2, .int (nI 0)), (3, .int (nI 0))]) dX6_ofLength_18 (i := 3) rfl (by decide) rfl ?_
    have L19 : ∀ (k : Nat) (c : Nat) (b : Nat), (b + k = n) → (olenS (olen (n - 1)) l k b c = olen n l) → fv_At Y6_ofLength n 0 0 Q 19 [(0, .int (nI n)), (1, .int (nI l)), (2, .int (nI c)), (3, .int (nI b))] [] f none 0 0 := by
      intro k
      induction k with
      | zero =>
        intro c b hb hR
        refine fx_iload_n dX6_ofLength_19 rfl (i := 3) rfl ?_
        refine fx_iload_n dX6_ofLength_20 rfl (i := 0) rfl ?_
        refine fn_icmp_ge (tgt := 47) dX6_ofLength_21 (by decide) (by omega) (by omega) (fun c21 => ?_) (fun c21 => ?_)
        · skip
          refine fx_iload_n dX6_ofLength_47 rfl (i := 2) rfl ?_
          exact fx_iret dX6_ofLength_48 rfl rfl rfl (by rw [hQ]; exact ⟨by rw [← hR]; first | rfl | rw [olenS, if_neg (by omega)], rfl, rfl⟩)
        · exfalso; omega
      | succ k ih19 =>
        intro c b hb hR
        refine fx_iload_n dX6_ofLength_19 rfl (i := 3) rfl ?_
        refine fx_iload_n dX6_ofLength_20 rfl (i := 0) rfl ?_
        refine fn_icmp_ge (tgt := 47) dX6_ofLength_21 (by decide) (by omega) (by omega) (fun c21 => ?_) (fun c21 => ?_)
        · exfalso; omega
        · skip
          refine fx_iload_n dX6_ofLength_24 rfl (i := 3) rfl ?_
          refine fx_iload_n dX6_ofLength_25 rfl (i := 1) rfl ?_
          refine fn_icmp_gt (tgt := 47) dX6_ofLength_26 (by decide) (by omega) (by omega) (fun c26 => ?_) (fun c26 => ?_)
          · skip
            refine fx_iload_n dX6_ofLength_47 rfl (i := 2) rfl ?_
            exact fx_iret dX6_ofLength_48 rfl rfl rfl (by rw [hQ]; exact ⟨by rw [← hR]; first | rfl | rw [olenS, if_neg (by omega)], rfl, rfl⟩)
          · skip
            refine fx_iload_n dX6_ofLength_29 rfl (i := 2) rfl ?_
            refine fx_iload_n dX6_ofLength_30 rfl (i := 0) rfl ?_
            refine fx_iconst (v := (nI 1)) dX6_ofLength_31 (by decide) ?_
            refine fn_isub dX6_ofLength_32 (by omega) ?_
            refine fx_iload_n dX6_ofLength_33 rfl (i := 1) rfl ?_
            refine fx_iload_n dX6_ofLength_34 rfl (i := 3) rfl ?_
            refine fn_isub dX6_ofLength_35 (by omega) ?_
            refine fn_cS dX6_ofLength_36 lk6_25 (ih (n - 1) (l - b) f (by omega) (by omega)) rfl rfl (by omega) (Nat.le_of_ble_eq_true rfl) ?_
            show fv_At Y6_ofLength n 0 0 Q 39 [(0, .int (nI n)), (1, .int (nI l)), (2, .int (nI c)), (3, .int (nI b))] [.int (nI (olen (n - 1) (l - b))), .int (nI c)] f none 0 0
            refine fn_iadd dX6_ofLength_39 ?_
            refine fx_istore_n (lv2 := [(0, .int (nI n)), (1, .int (nI l)), (2, .int (nI (c + (olen (n - 1) (l - b))))), (3, .int (nI b))]) dX6_ofLength_40 (i := 2) rfl (by decide) rfl ?_
            refine fn_iinc (c := 1) (lv2 := [(0, .int (nI n)), (1, .int (nI l)), (2, .int (nI (c + (olen (n - 1) (l - b))))), (3, .int (nI (b + 1)))]) dX6_ofLength_41 (by decide) rfl (by decide) rfl ?_
            refine fx_goto (tgt := 19) dX6_ofLength_44 (by decide) ?_
            exact (ih19 (c + (olen (n - 1) (l - b))) (b + 1) (by omega) (by rw [← hR, olenS, if_pos (by omega)]))
    exact (L19 n 0 0 (by omega) (olen_2 n l (by omega)).symm)
  · skip
    refine fx_iload_n dX6_ofLength_5 rfl (i := 1) rfl ?_
    refine fn_if_ne (tgt := 13) dX6_ofLength_6 (by decide) (by omega) (fun c6 => ?_) (fun c6 => ?_)
    · skip
      refine fx_iconst (v := (nI 0)) dX6_ofLength_13 (by decide) ?_
      exact fx_iret dX6_ofLength_14 rfl rfl rfl (by rw [hQ]; exact ⟨by rw [olen_1 n l (by omega)]; first | rw [if_pos c6] | rw [if_neg (by omega)], rfl, rfl⟩)
    · skip
      refine fx_iconst (v := (nI 1)) dX6_ofLength_9 (by decide) ?_
      refine fx_goto (tgt := 14) dX6_ofLength_10 (by decide) ?_
      exact fx_iret dX6_ofLength_14 rfl rfl rfl (by rw [hQ]; exact ⟨by rw [olen_1 n l (by omega)]; first | rw [if_pos c6] | rw [if_neg (by omega)], rfl, rfl⟩)

theorem C6_ofLength (n l : Nat) (f : fv_F) (hn : n < 100) (hl : l < 2147483648) : fv_M Y6_ofLength n 0 0 [.int (nI n), .int (nI l)] f none (fv_eq (some (.int (nI (olen n l)))) f) := by
  induction n using Nat.strongRecOn generalizing l f with
  | _ n ih => exact C6_ofLength_1 n l hn hl (fun m l2 f2 h h2 => ih m h l2 f2 (by omega) h2) f

theorem swp_b {o n a b : Nat} (h : a < b) (hb : b < n) (hn : n ≤ 5) (ho : o < 100000) : swp o n a b < 10000000 := by
  have h1 := swp_lt (o := o) h hb
  have h2 : 10 ^ (n - 1 - a) ≤ 10 ^ 4 := Nat.pow_le_pow_right (by decide) (by omega)
  have h3 : 10 ^ (n - 1 - b) ≤ 10 ^ 4 := Nat.pow_le_pow_right (by decide) (by omega)
  omega
/-- the least order above a number that comes by an exchange across r and has a length; -1: there is none -/
def oleI (o n i due ab : Nat) : Nat → Nat → Int → Int
  | 0, _, l => l
  | k + 1, j, l => oleI o n i due ab k (j + 1) (if ab < swp o n i j ∧ (l = -1 ∨ (swp o n i j : Int) < l) ∧ ofal (dgt (swp o n i j) n) n = due then (swp o n i j : Int) else l)
def oleO (o n r due ab : Nat) : Nat → Nat → Int → Int
  | 0, _, l => l
  | k + 1, i, l => oleO o n r due ab k (i + 1) (oleI o n i due ab (n - r) r l)
def ole (o n r ab : Nat) : Int := oleO o n r (ofal (dgt o n) n + 1) ab r 0 (-1)
theorem ofal2_le (h : Nat → Nat) (i : Nat) : ∀ k j c, ofal2 h i k j c ≤ c + k
  | 0, _, _ => Nat.le_refl _
  | k + 1, j, c => by
    refine Nat.le_trans (ofal2_le h i k (j + 1) _) ?_
    split <;> omega
theorem ofal1_le (h : Nat → Nat) (n : Nat) : ∀ k i c, ofal1 h n k i c ≤ c + k * n
  | 0, _, c => Nat.le_add_right _ _
  | k + 1, i, c => by
    refine Nat.le_trans (ofal1_le h n k (i + 1) _) ?_
    have := ofal2_le h i (n - (i + 1)) (i + 1) c
    rw [Nat.succ_mul]
    omega
theorem ofal_le (h : Nat → Nat) {n : Nat} (hn : n ≤ 5) : ofal h n ≤ 25 := by
  have h1 := ofal1_le h n n 0 0
  have h2 : n * n ≤ 5 * 5 := Nat.mul_le_mul hn hn
  unfold ofal
  omega

set_option maxRecDepth 4000 in
set_option maxHeartbeats 1000000 in
theorem C6_leastRisen (o n r ab : Nat) (ho : o < 100000) (hn : n ≤ 5) (hr : r ≤ n) (hab : ab < 2147483648) (f : fv_F) : fv_M Y6_leastRisen 3 0 0 [.int (nI o), .int (nI n), .int (nI r), .int (nI ab)] f none (fv_eq (some (.int (iI (ole o n r ab)))) f) := by
  refine fv_enter rfl (Nat.le_of_ble_eq_true rfl) ?_
  obtain ⟨Q, hQ⟩ : ∃ Q : Option Value → fv_F → Option Nat → Prop, Q = (fv_eq (some (.int (iI (ole o n r ab)))) f) := ⟨_, rfl⟩
  rw [← hQ]
  show fv_At Y6_leastRisen 3 0 0 Q 0 [(0, .int (nI o)), (1, .int (nI n)), (2, .int (nI r)), (3, .int (nI ab))] [] f none 0 0
  refine fx_iload_n dX6_leastRisen_0 rfl (i := 0) rfl ?_
  refine fx_iload_n dX6_leastRisen_1 rfl (i := 1) rfl ?_
  refine fn_cS dX6_leastRisen_2 lk6_32 (C6_falls (a := o) (n := n) (by omega) (by omega) (f := f)) rfl rfl (by decide) (Nat.le_of_ble_eq_true rfl) ?_
  show fv_At Y6_leastRisen 3 0 0 Q 5 [(0, .int (nI o)), (1, .int (nI n)), (2, .int (nI r)), (3, .int (nI ab))] [.int (nI (ofal (dgt o n) n))] f none 0 0
  refine fx_iconst (v := (nI 1)) dX6_leastRisen_5 (by decide) ?_
  refine fn_iadd dX6_leastRisen_6 ?_
  have hfal := ofal_le (dgt o n) hn
  refine fx_istore (lv2 := [(0, .int (nI o)), (1, .int (nI n)), (2, .int (nI r)), (3, .int (nI ab)), (4, .int (nI ((ofal (dgt o n) n) + 1)))]) dX6_leastRisen_7 (by decide) rfl ?_
  refine fx_iconst (v := (iI (-1))) dX6_leastRisen_9 (by decide) ?_
  refine fx_istore (lv2 := [(0, .int (nI o)), (1, .int (nI n)), (2, .int (nI r)), (3, .int (nI ab)), (4, .int (nI ((ofal (dgt o n) n) + 1))), (5, .int (iI (-1)))]) dX6_leastRisen_10 (by decide) rfl ?_
  refine fx_iconst (v := (nI 1)) dX6_leastRisen_12 (by decide) ?_
  refine fx_istore (lv2 := [(0, .int (nI o)), (1, .int (nI n)), (2, .int (nI r)), (3, .int (nI ab)), (4, .int (nI ((ofal (dgt o n) n) + 1))), (5, .int (iI (-1))), (6, .int (nI 1))]) dX6_leastRisen_13 (by decide) rfl ?_
  have L15 : ∀ (k : Nat) (l : Int) (i : Nat), (i + k = r) → (-1 ≤ l ∧ l < 10000000) → (oleO o n r (ofal (dgt o n) n + 1) ab k i l = ole o n r ab) → fv_At Y6_leastRisen 3 0 0 Q 15 [(0, .int (nI o)), (1, .int (nI n)), (2, .int (nI r)), (3, .int (nI ab)), (4, .int (nI ((ofal (dgt o n) n) + 1))), (5, .int (iI l)), (6, .int (nI (i + 1)))] [] f none 0 0 := by
    intro k
    induction k with
    | zero =>
      intro l i hi hl hR
      refine fx_iload dX6_leastRisen_15 rfl ?_
      refine fx_iload_n dX6_leastRisen_17 rfl (i := 2) rfl ?_
      refine fn_icmp_gt (tgt := 89) dX6_leastRisen_18 (by decide) (by omega) (by omega) (fun c18 => ?_) (fun c18 => ?_)
      · skip
        refine fx_iload dX6_leastRisen_89 rfl ?_
        exact fx_iret dX6_leastRisen_91 rfl rfl rfl (by rw [hQ]; exact ⟨by rw [← hR]; rfl, rfl, rfl⟩)
      · exfalso; omega
    | succ k ih15 =>
      intro l i hi hl hR
      refine fx_iload dX6_leastRisen_15 rfl ?_
      refine fx_iload_n dX6_leastRisen_17 rfl (i := 2) rfl ?_
      refine fn_icmp_gt (tgt := 89) dX6_leastRisen_18 (by decide) (by omega) (by omega) (fun c18 => ?_) (fun c18 => ?_)
      · exfalso; omega
      · skip
        refine fx_iload_n dX6_leastRisen_21 rfl (i := 2) rfl ?_
        refine fx_iconst (v := (nI 1)) dX6_leastRisen_22 (by decide) ?_
        refine fn_iadd dX6_leastRisen_23 ?_
        refine fx_istore (lv2 := [(0, .int (nI o)), (1, .int (nI n)), (2, .int (nI r)), (3, .int (nI ab)), (4, .int (nI ((ofal (dgt o n) n) + 1))), (5, .int (iI l)), (6, .int (nI (i + 1))), (7, .int (nI (r + 1)))]) dX6_leastRisen_24 (by decide) rfl ?_
        have L26 : ∀ (k2 : Nat) (l2 : Int) (j : Nat), (j + k2 = n) → (r ≤ j) → (-1 ≤ l2 ∧ l2 < 10000000) → (oleI o n i (ofal (dgt o n) n + 1) ab k2 j l2 = oleI o n i (ofal (dgt o n) n + 1) ab (n - r) r l) → fv_At Y6_leastRisen 3 0 0 Q 26 [(0, .int (nI o)), (1, .int (nI n)), (2, .int (nI r)), (3, .int (nI ab)), (4, .int (nI ((ofal (dgt o n) n) + 1))), (5, .int (iI l2)), (6, .int (nI (i + 1))), (7, .int (nI (j + 1)))] [] f none 0 0 := by
          intro k2
          induction k2 with
          | zero =>
            intro l2 j hj hjr hl2 hR26
            refine fx_iload dX6_leastRisen_26 rfl ?_
            refine fx_iload_n dX6_leastRisen_28 rfl (i := 1) rfl ?_
            refine fn_icmp_gt (tgt := 83) dX6_leastRisen_29 (by decide) (by omega) (by omega) (fun c29 => ?_) (fun c29 => ?_)
            · skip
              refine fn_iinc (c := 1) (lv2 := [(0, .int (nI o)), (1, .int (nI n)), (2, .int (nI r)), (3, .int (nI ab)), (4, .int (nI ((ofal (dgt o n) n) + 1))), (5, .int (iI l2)), (6, .int (nI (i + 1 + 1))), (7, .int (nI (j + 1)))]) dX6_leastRisen_83 (by decide) rfl (by decide) rfl ?_
              refine fx_goto (tgt := 15) dX6_leastRisen_86 (by decide) ?_
              exact fn_sub [0, 1, 2, 3, 4, 5, 6] rfl (ih15 l2 (i + 1) (by omega) hl2 (by rw [← hR, oleO]; exact congrArg _ hR26))
            · exfalso; omega
          | succ k2 ih26 =>
            intro l2 j hj hjr hl2 hR26
            refine fx_iload dX6_leastRisen_26 rfl ?_
            refine fx_iload_n dX6_leastRisen_28 rfl (i := 1) rfl ?_
            refine fn_icmp_gt (tgt := 83) dX6_leastRisen_29 (by decide) (by omega) (by omega) (fun c29 => ?_) (fun c29 => ?_)
            · exfalso; omega
            · skip
              refine fx_iload_n dX6_leastRisen_32 rfl (i := 0) rfl ?_
              refine fx_iload_n dX6_leastRisen_33 rfl (i := 1) rfl ?_
              refine fx_iload dX6_leastRisen_34 rfl ?_
              refine fx_iload dX6_leastRisen_36 rfl ?_
              refine fn_cS dX6_leastRisen_38 lk6_35 (C6_swapped (o := o) (n := n) (a := i) (b := j) (by omega) (by omega) (by omega) (by omega) (f := f)) rfl rfl (by decide) (Nat.le_of_ble_eq_true rfl) ?_
              show fv_At Y6_leastRisen 3 0 0 Q 41 [(0, .int (nI o)), (1, .int (nI n)), (2, .int (nI r)), (3, .int (nI ab)), (4, .int (nI ((ofal (dgt o n) n) + 1))), (5, .int (iI l2)), (6, .int (nI (i + 1))), (7, .int (nI (j + 1)))] [.int (nI (swp o n i j))] f none 0 0
              have hsw := swp_b (o := o) (show i < j by omega) (show j < n by omega) hn ho
              refine fx_istore (lv2 := [(0, .int (nI o)), (1, .int (nI n)), (2, .int (nI r)), (3, .int (nI ab)), (4, .int (nI ((ofal (dgt o n) n) + 1))), (5, .int (iI l2)), (6, .int (nI (i + 1))), (7, .int (nI (j + 1))), (8, .int (nI (swp o n i j)))]) dX6_leastRisen_41 (by decide) rfl ?_
              refine fx_iload dX6_leastRisen_43 rfl ?_
              refine fx_iload_n dX6_leastRisen_45 rfl (i := 3) rfl ?_
              refine fn_icmp_le (tgt := 77) dX6_leastRisen_46 (by decide) (by omega) (by omega) (fun c46 => ?_) (fun c46 => ?_)
              · skip
                refine fn_iinc (c := 1) (lv2 := [(0, .int (nI o)), (1, .int (nI n)), (2, .int (nI r)), (3, .int (nI ab)), (4, .int (nI ((ofal (dgt o n) n) + 1))), (5, .int (iI l2)), (6, .int (nI (i + 1))), (7, .int (nI (j + 1 + 1))), (8, .int (nI (swp o n i j)))]) dX6_leastRisen_77 (by decide) rfl (by decide) rfl ?_
                refine fx_goto (tgt := 26) dX6_leastRisen_80 (by decide) ?_
                exact fn_sub [0, 1, 2, 3, 4, 5, 6, 7] rfl (ih26 l2 (j + 1) (by omega) (by omega) (by omega) (by rw [← hR26, oleI]; split <;> first | rfl | (exfalso; omega)))
              · skip
                refine fx_iload dX6_leastRisen_49 rfl ?_
                refine fx_iconst (v := (iI (-1))) dX6_leastRisen_51 (by decide) ?_
                refine fn_icmp_eqZ (a := l2) (b := -1) (tgt := 62) dX6_leastRisen_52 (by decide) (by omega) (by omega) (by omega) (by omega) (fun c52 => ?_) (fun c52 => ?_)
                · skip
                  refine fx_iload dX6_leastRisen_62 rfl ?_
                  skip
                  refine fx_iload_n dX6_leastRisen_64 rfl (i := 1) rfl ?_
                  refine fn_cS dX6_leastRisen_65 lk6_32 (C6_falls (a := swp o n i j) (n := n) (by omega) (by omega) (f := f)) rfl rfl (by decide) (Nat.le_of_ble_eq_true rfl) ?_
                  show fv_At Y6_leastRisen 3 0 0 Q 68 [(0, .int (nI o)), (1, .int (nI n)), (2, .int (nI r)), (3, .int (nI ab)), (4, .int (nI ((ofal (dgt o n) n) + 1))), (5, .int (iI l2)), (6, .int (nI (i + 1))), (7, .int (nI (j + 1))), (8, .int (nI (swp o n i j)))] [.int (nI (ofal (dgt (swp o n i j) n) n))] f none 0 0
                  have hfa2 := ofal_le (dgt (swp o n i j) n) hn
                  refine fx_iload dX6_leastRisen_68 rfl ?_
                  refine fn_icmp_ne (tgt := 77) dX6_leastRisen_70 (by decide) (by omega) (by omega) (fun c70 => ?_) (fun c70 => ?_)
                  · skip
                    refine fn_iinc (c := 1) (lv2 := [(0, .int (nI o)), (1, .int (nI n)), (2, .int (nI r)), (3, .int (nI ab)), (4, .int (nI ((ofal (dgt o n) n) + 1))), (5, .int (iI l2)), (6, .int (nI (i + 1))), (7, .int (nI (j + 1 + 1))), (8, .int (nI (swp o n i j)))]) dX6_leastRisen_77 (by decide) rfl (by decide) rfl ?_
                    refine fx_goto (tgt := 26) dX6_leastRisen_80 (by decide) ?_
                    exact fn_sub [0, 1, 2, 3, 4, 5, 6, 7] rfl (ih26 l2 (j + 1) (by omega) (by omega) (by omega) (by rw [← hR26, oleI]; split <;> first | rfl | (exfalso; omega)))
                  · skip
                    refine fx_iload dX6_leastRisen_73 rfl ?_
                    refine fx_istore (lv2 := [(0, .int (nI o)), (1, .int (nI n)), (2, .int (nI r)), (3, .int (nI ab)), (4, .int (nI ((ofal (dgt o n) n) + 1))), (5, .int (nI (swp o n i j))), (6, .int (nI (i + 1))), (7, .int (nI (j + 1))), (8, .int (nI (swp o n i j)))]) dX6_leastRisen_75 (by decide) rfl ?_
                    refine fn_iinc (c := 1) (lv2 := [(0, .int (nI o)), (1, .int (nI n)), (2, .int (nI r)), (3, .int (nI ab)), (4, .int (nI ((ofal (dgt o n) n) + 1))), (5, .int (nI (swp o n i j))), (6, .int (nI (i + 1))), (7, .int (nI (j + 1 + 1))), (8, .int (nI (swp o n i j)))]) dX6_leastRisen_77 (by decide) rfl (by decide) rfl ?_
                    refine fx_goto (tgt := 26) dX6_leastRisen_80 (by decide) ?_
                    exact fn_sub [0, 1, 2, 3, 4, 5, 6, 7] rfl (ih26 (((swp o n i j : Nat) : Int)) (j + 1) (by omega) (by omega) (by omega) (by rw [← hR26, oleI]; split <;> first | rfl | (exfalso; omega)))
                · skip
                  refine fx_iload dX6_leastRisen_55 rfl ?_
                  refine fx_iload dX6_leastRisen_57 rfl ?_
                  refine fn_icmp_geZ (a := ((swp o n i j : Nat) : Int)) (b := l2) (tgt := 77) dX6_leastRisen_59 (by decide) (by omega) (by omega) (by omega) (by omega) (fun c59 => ?_) (fun c59 => ?_)
                  · skip
                    refine fn_iinc (c := 1) (lv2 := [(0, .int (nI o)), (1, .int (nI n)), (2, .int (nI r)), (3, .int (nI ab)), (4, .int (nI ((ofal (dgt o n) n) + 1))), (5, .int (iI l2)), (6, .int (nI (i + 1))), (7, .int (nI (j + 1 + 1))), (8, .int (nI (swp o n i j)))]) dX6_leastRisen_77 (by decide) rfl (by decide) rfl ?_
                    refine fx_goto (tgt := 26) dX6_leastRisen_80 (by decide) ?_
                    exact fn_sub [0, 1, 2, 3, 4, 5, 6, 7] rfl (ih26 l2 (j + 1) (by omega) (by omega) (by omega) (by rw [← hR26, oleI]; split <;> first | rfl | (exfalso; omega)))
                  · skip
                    refine fx_iload dX6_leastRisen_62 rfl ?_
                    skip
                    refine fx_iload_n dX6_leastRisen_64 rfl (i := 1) rfl ?_
                    refine fn_cS dX6_leastRisen_65 lk6_32 (C6_falls (a := swp o n i j) (n := n) (by omega) (by omega) (f := f)) rfl rfl (by decide) (Nat.le_of_ble_eq_true rfl) ?_
                    show fv_At Y6_leastRisen 3 0 0 Q 68 [(0, .int (nI o)), (1, .int (nI n)), (2, .int (nI r)), (3, .int (nI ab)), (4, .int (nI ((ofal (dgt o n) n) + 1))), (5, .int (iI l2)), (6, .int (nI (i + 1))), (7, .int (nI (j + 1))), (8, .int (nI (swp o n i j)))] [.int (nI (ofal (dgt (swp o n i j) n) n))] f none 0 0
                    have hfa2 := ofal_le (dgt (swp o n i j) n) hn
                    refine fx_iload dX6_leastRisen_68 rfl ?_
                    refine fn_icmp_ne (tgt := 77) dX6_leastRisen_70 (by decide) (by omega) (by omega) (fun c70 => ?_) (fun c70 => ?_)
                    · skip
                      refine fn_iinc (c := 1) (lv2 := [(0, .int (nI o)), (1, .int (nI n)), (2, .int (nI r)), (3, .int (nI ab)), (4, .int (nI ((ofal (dgt o n) n) + 1))), (5, .int (iI l2)), (6, .int (nI (i + 1))), (7, .int (nI (j + 1 + 1))), (8, .int (nI (swp o n i j)))]) dX6_leastRisen_77 (by decide) rfl (by decide) rfl ?_
                      refine fx_goto (tgt := 26) dX6_leastRisen_80 (by decide) ?_
                      exact fn_sub [0, 1, 2, 3, 4, 5, 6, 7] rfl (ih26 l2 (j + 1) (by omega) (by omega) (by omega) (by rw [← hR26, oleI]; split <;> first | rfl | (exfalso; omega)))
                    · skip
                      refine fx_iload dX6_leastRisen_73 rfl ?_
                      refine fx_istore (lv2 := [(0, .int (nI o)), (1, .int (nI n)), (2, .int (nI r)), (3, .int (nI ab)), (4, .int (nI ((ofal (dgt o n) n) + 1))), (5, .int (nI (swp o n i j))), (6, .int (nI (i + 1))), (7, .int (nI (j + 1))), (8, .int (nI (swp o n i j)))]) dX6_leastRisen_75 (by decide) rfl ?_
                      refine fn_iinc (c := 1) (lv2 := [(0, .int (nI o)), (1, .int (nI n)), (2, .int (nI r)), (3, .int (nI ab)), (4, .int (nI ((ofal (dgt o n) n) + 1))), (5, .int (nI (swp o n i j))), (6, .int (nI (i + 1))), (7, .int (nI (j + 1 + 1))), (8, .int (nI (swp o n i j)))]) dX6_leastRisen_77 (by decide) rfl (by decide) rfl ?_
                      refine fx_goto (tgt := 26) dX6_leastRisen_80 (by decide) ?_
                      exact fn_sub [0, 1, 2, 3, 4, 5, 6, 7] rfl (ih26 (((swp o n i j : Nat) : Int)) (j + 1) (by omega) (by omega) (by omega) (by rw [← hR26, oleI]; split <;> first | rfl | (exfalso; omega)))
        exact (L26 (n - r) l r (by omega) (by omega) hl rfl)
  exact (L15 r (-1) 0 (by omega) (by omega) rfl)

theorem oleI_b {o n i due ab : Nat} (hn : n ≤ 5) (ho : o < 100000) : ∀ k j l, i < j → j + k ≤ n → (-1 ≤ l ∧ l < 10000000) → -1 ≤ oleI o n i due ab k j l ∧ oleI o n i due ab k j l < 10000000
  | 0, _, _, _, _, h => h
  | k + 1, j, l, h1, h2, h => by
    have := swp_b (o := o) h1 (show j < n by omega) hn ho
    exact oleI_b hn ho k (j + 1) _ (by omega) (by omega) (by split <;> omega)
theorem oleO_b {o n r due ab : Nat} (hn : n ≤ 5) (ho : o < 100000) (hr : r ≤ n) : ∀ k i l, i + k ≤ r → (-1 ≤ l ∧ l < 10000000) → -1 ≤ oleO o n r due ab k i l ∧ oleO o n r due ab k i l < 10000000
  | 0, _, _, _, h => h
  | k + 1, i, l, h2, h => oleO_b hn ho hr k (i + 1) _ (by omega) (oleI_b hn ho (n - r) r l (by omega) (by omega) h)
theorem ole_b {o n r ab : Nat} (hn : n ≤ 5) (ho : o < 100000) (hr : r ≤ n) : -1 ≤ ole o n r ab ∧ ole o n r ab < 10000000 := oleO_b hn ho hr r 0 (-1) (by omega) (by decide)
/-- the k-th of these -/
def oriS (o n r : Nat) : Nat → Int → Int
  | 0, x => x
  | k + 1, x => if x = -1 then x else oriS o n r k (ole o n r x.toNat)
def ori (o n r : Nat) (q : Int) : Int := if q < 0 ∨ 10 ≤ q then -1 else oriS o n r (q.toNat + 1) 0

set_option maxRecDepth 4000 in
set_option maxHeartbeats 1000000 in
theorem C6_risen (o n r : Nat) (q : Int) (ho : o < 100000) (hn : n ≤ 5) (hr : r ≤ n) (h1 : -2147483648 ≤ q) (h2 : q < 2147483648) (f : fv_F) : fv_M Y6_risen 4 0 0 [.int (nI o), .int (nI n), .int (nI r), .int (iI q)] f none (fv_eq (some (.int (iI (ori o n r q)))) f) := by
  refine fv_enter rfl (Nat.le_of_ble_eq_true rfl) ?_
  obtain ⟨Q, hQ⟩ : ∃ Q : Option Value → fv_F → Option Nat → Prop, Q = (fv_eq (some (.int (iI (ori o n r q)))) f) := ⟨_, rfl⟩
  rw [← hQ]
  show fv_At Y6_risen 4 0 0 Q 0 [(0, .int (nI o)), (1, .int (nI n)), (2, .int (nI r)), (3, .int (iI q))] [] f none 0 0
  refine fx_iload_n dX6_risen_0 rfl (i := 3) rfl ?_
  refine fn_if_ltZ (tgt := 10) dX6_risen_1 (by decide) (by omega) (by omega) (fun c1 => ?_) (fun c1 => ?_)
  · skip
    refine fx_iconst (v := (iI (-1))) dX6_risen_10 (by decide) ?_
    exact fx_iret dX6_risen_11 rfl rfl rfl (by rw [hQ]; exact ⟨by unfold ori; rw [if_pos (by omega)], rfl, rfl⟩)
  · skip
    refine fx_iload_n dX6_risen_4 rfl (i := 3) rfl ?_
    refine fx_bipush (v := (nI 10)) dX6_risen_5 (by decide) ?_
    refine fn_icmp_ltZ (a := q) (b := ((10 : Nat) : Int)) (tgt := 12) dX6_risen_7 (by decide) (by omega) (by omega) (by omega) (by omega) (fun c7 => ?_) (fun c7 => ?_)
    · skip
      obtain ⟨w, rfl⟩ : ∃ w : Nat, q = (w : Int) := ⟨q.toNat, by omega⟩
      have hq : ori o n r (w : Int) = oriS o n r (w + 1) 0 := by unfold ori; rw [if_neg (by omega)]; rfl
      show fv_At Y6_risen 4 0 0 Q 12 [(0, .int (nI o)), (1, .int (nI n)), (2, .int (nI r)), (3, .int (nI w))] [] f none 0 0
      refine fx_iconst (v := (nI 0)) dX6_risen_12 (by decide) ?_
      refine fx_istore (lv2 := [(0, .int (nI o)), (1, .int (nI n)), (2, .int (nI r)), (3, .int (nI w)), (4, .int (nI 0))]) dX6_risen_13 (by decide) rfl ?_
      refine fx_iconst (v := (nI 0)) dX6_risen_15 (by decide) ?_
      refine fx_istore (lv2 := [(0, .int (nI o)), (1, .int (nI n)), (2, .int (nI r)), (3, .int (nI w)), (4, .int (nI 0)), (5, .int (nI 0))]) dX6_risen_16 (by decide) rfl ?_
      have L18 : ∀ (k : Nat) (x : Int) (i : Nat), (i + k = w + 1) → (-1 ≤ x ∧ x < 10000000) → (oriS o n r k x = oriS o n r (w + 1) 0) → fv_At Y6_risen 4 0 0 Q 18 [(0, .int (nI o)), (1, .int (nI n)), (2, .int (nI r)), (3, .int (nI w)), (4, .int (iI x)), (5, .int (nI i))] [] f none 0 0 := by
        intro k
        induction k with
        | zero =>
          intro x i hi hx hR
          refine fx_iload dX6_risen_18 rfl ?_
          refine fx_iload_n dX6_risen_20 rfl (i := 3) rfl ?_
          refine fn_icmp_gt (tgt := 46) dX6_risen_21 (by decide) (by omega) (by omega) (fun c21 => ?_) (fun c21 => ?_)
          · skip
            refine fx_iload dX6_risen_46 rfl ?_
            exact fx_iret dX6_risen_48 rfl rfl rfl (by rw [hQ]; exact ⟨by rw [hq, ← hR]; first | rfl | rw [oriS, if_pos (by omega)], rfl, rfl⟩)
          · exfalso; omega
        | succ k ih18 =>
          intro x i hi hx hR
          refine fx_iload dX6_risen_18 rfl ?_
          refine fx_iload_n dX6_risen_20 rfl (i := 3) rfl ?_
          refine fn_icmp_gt (tgt := 46) dX6_risen_21 (by decide) (by omega) (by omega) (fun c21 => ?_) (fun c21 => ?_)
          · exfalso; omega
          · skip
            refine fx_iload dX6_risen_24 rfl ?_
            refine fx_iconst (v := (iI (-1))) dX6_risen_26 (by decide) ?_
            refine fn_icmp_eqZ (a := x) (b := -1) (tgt := 46) dX6_risen_27 (by decide) (by omega) (by omega) (by omega) (by omega) (fun c27 => ?_) (fun c27 => ?_)
            · skip
              refine fx_iload dX6_risen_46 rfl ?_
              exact fx_iret dX6_risen_48 rfl rfl rfl (by rw [hQ]; exact ⟨by rw [hq, ← hR]; first | rfl | rw [oriS, if_pos (by omega)], rfl, rfl⟩)
            · skip
              obtain ⟨v, rfl⟩ : ∃ v : Nat, x = (v : Int) := ⟨x.toNat, by omega⟩
              have hv := ole_b (ab := v) hn ho hr
              show fv_At Y6_risen 4 0 0 Q 30 [(0, .int (nI o)), (1, .int (nI n)), (2, .int (nI r)), (3, .int (nI w)), (4, .int (nI v)), (5, .int (nI i))] [] f none 0 0
              refine fx_iload_n dX6_risen_30 rfl (i := 0) rfl ?_
              refine fx_iload_n dX6_risen_31 rfl (i := 1) rfl ?_
              refine fx_iload_n dX6_risen_32 rfl (i := 2) rfl ?_
              refine fx_iload dX6_risen_33 rfl ?_
              refine fn_cS dX6_risen_35 lk6_28 (C6_leastRisen (o := o) (n := n) (r := r) (ab := v) (by omega) (by omega) (by omega) (by omega) (f := f)) rfl rfl (by decide) (Nat.le_of_ble_eq_true rfl) ?_
              show fv_At Y6_risen 4 0 0 Q 38 [(0, .int (nI o)), (1, .int (nI n)), (2, .int (nI r)), (3, .int (nI w)), (4, .int (nI v)), (5, .int (nI i))] [.int (iI (ole o n r v))] f none 0 0
              refine fx_istore (lv2 := [(0, .int (nI o)), (1, .int (nI n)), (2, .int (nI r)), (3, .int (nI w)), (4, .int (iI (ole o n r v))), (5, .int (nI i))]) dX6_risen_38 (by decide) rfl ?_
              refine fn_iinc (c := 1) (lv2 := [(0, .int (nI o)), (1, .int (nI n)), (2, .int (nI r)), (3, .int (nI w)), (4, .int (iI (ole o n r v))), (5, .int (nI (i + 1)))]) dX6_risen_40 (by decide) rfl (by decide) rfl ?_
              refine fx_goto (tgt := 18) dX6_risen_43 (by decide) ?_
              exact (ih18 (ole o n r v) (i + 1) (by omega) hv (by rw [← hR, oriS, if_neg (by omega)]; rfl))
      exact (L18 (w + 1) 0 0 (by omega) (by decide) rfl)
    · skip
      refine fx_iconst (v := (iI (-1))) dX6_risen_10 (by decide) ?_
      exact fx_iret dX6_risen_11 rfl rfl rfl (by rw [hQ]; exact ⟨by unfold ori; rw [if_pos (by omega)], rfl, rfl⟩)
end
