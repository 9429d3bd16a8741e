section
-- ===== PART A: goes FIRST, ahead of the names: the tables' words, and 'selects' of the private methods out of them =====
/-- a private method of a class that the tables say can be made, by its rows of tables_1 -/
def lw_okq (q : MethodName × Nat) : Prop := (q.1.cls ≠ "java/lang/invoke/MethodHandle" ∧ q.1.cls ≠ "java/lang/invoke/VarHandle") ∧ Cond.instantiable q.1.cls q.2 ∈ tables_1 ∧ Cond.privateMethod q.1 ∈ tables_1 ∧ Cond.instanceMethod q.1 ∈ tables_1
theorem lw_p0 : lw_okq (⟨"MeetHouse", "isLost", "(I)Z"⟩, 4) := ⟨⟨by decide +kernel, by decide +kernel⟩, List.mem_of_getElem? (i := 15) (by decide +kernel), List.mem_of_getElem? (i := 256) (by decide +kernel), List.mem_of_getElem? (i := 257) (by decide +kernel)⟩
theorem lw_p1 : lw_okq (⟨"MeetHouse$Pot", "takeOut", "(I)V"⟩, 5) := ⟨⟨by decide +kernel, by decide +kernel⟩, List.mem_of_getElem? (i := 31) (by decide +kernel), List.mem_of_getElem? (i := 314) (by decide +kernel), List.mem_of_getElem? (i := 315) (by decide +kernel)⟩
theorem lw_p2 : lw_okq (⟨"MeetHouse$Algebra", "pourDifference", "(LMeetHouse$Polynomial;II)V"⟩, 3) := ⟨⟨by decide +kernel, by decide +kernel⟩, List.mem_of_getElem? (i := 25) (by decide +kernel), List.mem_of_getElem? (i := 408) (by decide +kernel), List.mem_of_getElem? (i := 409) (by decide +kernel)⟩
theorem lw_p3 : lw_okq (⟨"MeetHouse$Algebra", "partOfLeft", "(II)J"⟩, 3) := ⟨⟨by decide +kernel, by decide +kernel⟩, List.mem_of_getElem? (i := 25) (by decide +kernel), List.mem_of_getElem? (i := 443) (by decide +kernel), List.mem_of_getElem? (i := 444) (by decide +kernel)⟩
theorem lw_p4 : lw_okq (⟨"MeetHouse$Conditions", "putOn", "(II)V"⟩, 8) := ⟨⟨by decide +kernel, by decide +kernel⟩, List.mem_of_getElem? (i := 88) (by decide +kernel), List.mem_of_getElem? (i := 559) (by decide +kernel), List.mem_of_getElem? (i := 560) (by decide +kernel)⟩
theorem lw_p5 : lw_okq (⟨"MeetHouse$Line", "normalize", "(I)Z"⟩, 2) := ⟨⟨by decide +kernel, by decide +kernel⟩, List.mem_of_getElem? (i := 150) (by decide +kernel), List.mem_of_getElem? (i := 608) (by decide +kernel), List.mem_of_getElem? (i := 609) (by decide +kernel)⟩
theorem lw_p6 : lw_okq (⟨"MeetHouse$Space", "linesFrom", "(III)I"⟩, 3) := ⟨⟨by decide +kernel, by decide +kernel⟩, List.mem_of_getElem? (i := 143) (by decide +kernel), List.mem_of_getElem? (i := 662) (by decide +kernel), List.mem_of_getElem? (i := 663) (by decide +kernel)⟩
theorem lw_p7 : lw_okq (⟨"MeetHouse$Space", "pointFrom", "(III)I"⟩, 3) := ⟨⟨by decide +kernel, by decide +kernel⟩, List.mem_of_getElem? (i := 143) (by decide +kernel), List.mem_of_getElem? (i := 666) (by decide +kernel), List.mem_of_getElem? (i := 667) (by decide +kernel)⟩
theorem lw_p8 : lw_okq (⟨"MeetHouse$Space", "crossesAll", "(I)Z"⟩, 3) := ⟨⟨by decide +kernel, by decide +kernel⟩, List.mem_of_getElem? (i := 143) (by decide +kernel), List.mem_of_getElem? (i := 670) (by decide +kernel), List.mem_of_getElem? (i := 671) (by decide +kernel)⟩
theorem lw_p9 : lw_okq (⟨"MeetHouse$Space", "isOnOne", "(II)Z"⟩, 3) := ⟨⟨by decide +kernel, by decide +kernel⟩, List.mem_of_getElem? (i := 143) (by decide +kernel), List.mem_of_getElem? (i := 682) (by decide +kernel), List.mem_of_getElem? (i := 683) (by decide +kernel)⟩
theorem lw_p10 : lw_okq (⟨"MeetHouse$Line", "pair", "(II)I"⟩, 2) := ⟨⟨by decide +kernel, by decide +kernel⟩, List.mem_of_getElem? (i := 150) (by decide +kernel), List.mem_of_getElem? (i := 690) (by decide +kernel), List.mem_of_getElem? (i := 691) (by decide +kernel)⟩
theorem lw_p11 : lw_okq (⟨"MeetHouse", "keptSheets", "()I"⟩, 4) := ⟨⟨by decide +kernel, by decide +kernel⟩, List.mem_of_getElem? (i := 15) (by decide +kernel), List.mem_of_getElem? (i := 698) (by decide +kernel), List.mem_of_getElem? (i := 699) (by decide +kernel)⟩
theorem lw_p12 : lw_okq (⟨"MeetHouseModel", "lookAtPoints", "()V"⟩, 38) := ⟨⟨by decide +kernel, by decide +kernel⟩, List.mem_of_getElem? (i := 731) (by decide +kernel), List.mem_of_getElem? (i := 738) (by decide +kernel), List.mem_of_getElem? (i := 739) (by decide +kernel)⟩
theorem lw_p13 : lw_okq (⟨"MeetHouseModel", "mixed", "(IIII)I"⟩, 38) := ⟨⟨by decide +kernel, by decide +kernel⟩, List.mem_of_getElem? (i := 731) (by decide +kernel), List.mem_of_getElem? (i := 742) (by decide +kernel), List.mem_of_getElem? (i := 743) (by decide +kernel)⟩
theorem lw_p14 : lw_okq (⟨"MeetHouseModel", "reads", "(I)Z"⟩, 38) := ⟨⟨by decide +kernel, by decide +kernel⟩, List.mem_of_getElem? (i := 731) (by decide +kernel), List.mem_of_getElem? (i := 865) (by decide +kernel), List.mem_of_getElem? (i := 866) (by decide +kernel)⟩
theorem lw_p15 : lw_okq (⟨"MeetHouseModel", "lengthNow", "()I"⟩, 38) := ⟨⟨by decide +kernel, by decide +kernel⟩, List.mem_of_getElem? (i := 731) (by decide +kernel), List.mem_of_getElem? (i := 873) (by decide +kernel), List.mem_of_getElem? (i := 874) (by decide +kernel)⟩
def lw_privs_1 : List (MethodName × Nat) := [(⟨"MeetHouse", "isLost", "(I)Z"⟩, 4), (⟨"MeetHouse$Pot", "takeOut", "(I)V"⟩, 5), (⟨"MeetHouse$Algebra", "pourDifference", "(LMeetHouse$Polynomial;II)V"⟩, 3), (⟨"MeetHouse$Algebra", "partOfLeft", "(II)J"⟩, 3), (⟨"MeetHouse$Conditions", "putOn", "(II)V"⟩, 8), (⟨"MeetHouse$Line", "normalize", "(I)Z"⟩, 2), (⟨"MeetHouse$Space", "linesFrom", "(III)I"⟩, 3), (⟨"MeetHouse$Space", "pointFrom", "(III)I"⟩, 3), (⟨"MeetHouse$Space", "crossesAll", "(I)Z"⟩, 3), (⟨"MeetHouse$Space", "isOnOne", "(II)Z"⟩, 3), (⟨"MeetHouse$Line", "pair", "(II)I"⟩, 2), (⟨"MeetHouse", "keptSheets", "()I"⟩, 4), (⟨"MeetHouseModel", "lookAtPoints", "()V"⟩, 38), (⟨"MeetHouseModel", "mixed", "(IIII)I"⟩, 38), (⟨"MeetHouseModel", "reads", "(I)Z"⟩, 38), (⟨"MeetHouseModel", "lengthNow", "()I"⟩, 38)]
theorem lw_r1 : ∀ q ∈ lw_privs_1, lw_okq q := List.forall_mem_cons.mpr ⟨lw_p0, List.forall_mem_cons.mpr ⟨lw_p1, List.forall_mem_cons.mpr ⟨lw_p2, List.forall_mem_cons.mpr ⟨lw_p3, List.forall_mem_cons.mpr ⟨lw_p4, List.forall_mem_cons.mpr ⟨lw_p5, List.forall_mem_cons.mpr ⟨lw_p6, List.forall_mem_cons.mpr ⟨lw_p7, List.forall_mem_cons.mpr ⟨lw_p8, List.forall_mem_cons.mpr ⟨lw_p9, List.forall_mem_cons.mpr ⟨lw_p10, List.forall_mem_cons.mpr ⟨lw_p11, List.forall_mem_cons.mpr ⟨lw_p12, List.forall_mem_cons.mpr ⟨lw_p13, List.forall_mem_cons.mpr ⟨lw_p14, List.forall_mem_cons.mpr ⟨lw_p15, fun _ h => absurd h List.not_mem_nil⟩⟩⟩⟩⟩⟩⟩⟩⟩⟩⟩⟩⟩⟩⟩⟩
theorem lw_p16 : lw_okq (⟨"MeetHouseModel", "change", "(II)V"⟩, 38) := ⟨⟨by decide +kernel, by decide +kernel⟩, List.mem_of_getElem? (i := 731) (by decide +kernel), List.mem_of_getElem? (i := 881) (by decide +kernel), List.mem_of_getElem? (i := 882) (by decide +kernel)⟩
theorem lw_p17 : lw_okq (⟨"MeetHouseModel", "told", "()I"⟩, 38) := ⟨⟨by decide +kernel, by decide +kernel⟩, List.mem_of_getElem? (i := 731) (by decide +kernel), List.mem_of_getElem? (i := 885) (by decide +kernel), List.mem_of_getElem? (i := 886) (by decide +kernel)⟩
theorem lw_p18 : lw_okq (⟨"MeetHouseModel", "wipe", "()V"⟩, 38) := ⟨⟨by decide +kernel, by decide +kernel⟩, List.mem_of_getElem? (i := 731) (by decide +kernel), List.mem_of_getElem? (i := 924) (by decide +kernel), List.mem_of_getElem? (i := 925) (by decide +kernel)⟩
theorem lw_p19 : lw_okq (⟨"MeetHouseModel", "takes", "(IJ)V"⟩, 38) := ⟨⟨by decide +kernel, by decide +kernel⟩, List.mem_of_getElem? (i := 731) (by decide +kernel), List.mem_of_getElem? (i := 928) (by decide +kernel), List.mem_of_getElem? (i := 929) (by decide +kernel)⟩
theorem lw_p20 : lw_okq (⟨"MeetHouseModel", "lays", "(I)I"⟩, 38) := ⟨⟨by decide +kernel, by decide +kernel⟩, List.mem_of_getElem? (i := 731) (by decide +kernel), List.mem_of_getElem? (i := 932) (by decide +kernel), List.mem_of_getElem? (i := 933) (by decide +kernel)⟩
theorem lw_p21 : lw_okq (⟨"MeetHouseModel", "tooMuch", "()I"⟩, 38) := ⟨⟨by decide +kernel, by decide +kernel⟩, List.mem_of_getElem? (i := 731) (by decide +kernel), List.mem_of_getElem? (i := 936) (by decide +kernel), List.mem_of_getElem? (i := 937) (by decide +kernel)⟩
theorem lw_p22 : lw_okq (⟨"MeetHouseModel", "highest", "(II)I"⟩, 38) := ⟨⟨by decide +kernel, by decide +kernel⟩, List.mem_of_getElem? (i := 731) (by decide +kernel), List.mem_of_getElem? (i := 970) (by decide +kernel), List.mem_of_getElem? (i := 971) (by decide +kernel)⟩
theorem lw_p23 : lw_okq (⟨"MeetHouseModel", "differ", "(I)V"⟩, 38) := ⟨⟨by decide +kernel, by decide +kernel⟩, List.mem_of_getElem? (i := 731) (by decide +kernel), List.mem_of_getElem? (i := 986) (by decide +kernel), List.mem_of_getElem? (i := 987) (by decide +kernel)⟩
theorem lw_p24 : lw_okq (⟨"MeetHouseModel", "makes", "(I)V"⟩, 38) := ⟨⟨by decide +kernel, by decide +kernel⟩, List.mem_of_getElem? (i := 731) (by decide +kernel), List.mem_of_getElem? (i := 994) (by decide +kernel), List.mem_of_getElem? (i := 995) (by decide +kernel)⟩
theorem lw_p25 : lw_okq (⟨"MeetHouseModel", "parts", "(IZ)J"⟩, 38) := ⟨⟨by decide +kernel, by decide +kernel⟩, List.mem_of_getElem? (i := 731) (by decide +kernel), List.mem_of_getElem? (i := 1002) (by decide +kernel), List.mem_of_getElem? (i := 1003) (by decide +kernel)⟩
theorem lw_p26 : lw_okq (⟨"MeetHouseModel", "fills", "(I)I"⟩, 38) := ⟨⟨by decide +kernel, by decide +kernel⟩, List.mem_of_getElem? (i := 731) (by decide +kernel), List.mem_of_getElem? (i := 1035) (by decide +kernel), List.mem_of_getElem? (i := 1036) (by decide +kernel)⟩
theorem lw_p27 : lw_okq (⟨"MeetHouseModel", "mayStand", "(III)Z"⟩, 38) := ⟨⟨by decide +kernel, by decide +kernel⟩, List.mem_of_getElem? (i := 731) (by decide +kernel), List.mem_of_getElem? (i := 1039) (by decide +kernel), List.mem_of_getElem? (i := 1040) (by decide +kernel)⟩
theorem lw_p28 : lw_okq (⟨"MeetHouseModel", "drops", "()V"⟩, 38) := ⟨⟨by decide +kernel, by decide +kernel⟩, List.mem_of_getElem? (i := 731) (by decide +kernel), List.mem_of_getElem? (i := 1063) (by decide +kernel), List.mem_of_getElem? (i := 1064) (by decide +kernel)⟩
theorem lw_p29 : lw_okq (⟨"MeetHouseModel", "pointOf", "(I)I"⟩, 38) := ⟨⟨by decide +kernel, by decide +kernel⟩, List.mem_of_getElem? (i := 731) (by decide +kernel), List.mem_of_getElem? (i := 1072) (by decide +kernel), List.mem_of_getElem? (i := 1073) (by decide +kernel)⟩
theorem lw_p30 : lw_okq (⟨"MeetHouseModel", "evened", "(I)I"⟩, 38) := ⟨⟨by decide +kernel, by decide +kernel⟩, List.mem_of_getElem? (i := 731) (by decide +kernel), List.mem_of_getElem? (i := 1077) (by decide +kernel), List.mem_of_getElem? (i := 1078) (by decide +kernel)⟩
theorem lw_p31 : lw_okq (⟨"MeetHouseModel", "wipeMarks", "([Z)V"⟩, 38) := ⟨⟨by decide +kernel, by decide +kernel⟩, List.mem_of_getElem? (i := 731) (by decide +kernel), List.mem_of_getElem? (i := 1089) (by decide +kernel), List.mem_of_getElem? (i := 1090) (by decide +kernel)⟩
def lw_privs_2 : List (MethodName × Nat) := [(⟨"MeetHouseModel", "change", "(II)V"⟩, 38), (⟨"MeetHouseModel", "told", "()I"⟩, 38), (⟨"MeetHouseModel", "wipe", "()V"⟩, 38), (⟨"MeetHouseModel", "takes", "(IJ)V"⟩, 38), (⟨"MeetHouseModel", "lays", "(I)I"⟩, 38), (⟨"MeetHouseModel", "tooMuch", "()I"⟩, 38), (⟨"MeetHouseModel", "highest", "(II)I"⟩, 38), (⟨"MeetHouseModel", "differ", "(I)V"⟩, 38), (⟨"MeetHouseModel", "makes", "(I)V"⟩, 38), (⟨"MeetHouseModel", "parts", "(IZ)J"⟩, 38), (⟨"MeetHouseModel", "fills", "(I)I"⟩, 38), (⟨"MeetHouseModel", "mayStand", "(III)Z"⟩, 38), (⟨"MeetHouseModel", "drops", "()V"⟩, 38), (⟨"MeetHouseModel", "pointOf", "(I)I"⟩, 38), (⟨"MeetHouseModel", "evened", "(I)I"⟩, 38), (⟨"MeetHouseModel", "wipeMarks", "([Z)V"⟩, 38)]
theorem lw_r2 : ∀ q ∈ lw_privs_2, lw_okq q := List.forall_mem_cons.mpr ⟨lw_p16, List.forall_mem_cons.mpr ⟨lw_p17, List.forall_mem_cons.mpr ⟨lw_p18, List.forall_mem_cons.mpr ⟨lw_p19, List.forall_mem_cons.mpr ⟨lw_p20, List.forall_mem_cons.mpr ⟨lw_p21, List.forall_mem_cons.mpr ⟨lw_p22, List.forall_mem_cons.mpr ⟨lw_p23, List.forall_mem_cons.mpr ⟨lw_p24, List.forall_mem_cons.mpr ⟨lw_p25, List.forall_mem_cons.mpr ⟨lw_p26, List.forall_mem_cons.mpr ⟨lw_p27, List.forall_mem_cons.mpr ⟨lw_p28, List.forall_mem_cons.mpr ⟨lw_p29, List.forall_mem_cons.mpr ⟨lw_p30, List.forall_mem_cons.mpr ⟨lw_p31, fun _ h => absurd h List.not_mem_nil⟩⟩⟩⟩⟩⟩⟩⟩⟩⟩⟩⟩⟩⟩⟩⟩
theorem lw_p32 : lw_okq (⟨"MeetHouseModel", "marks", "([ZII)I"⟩, 38) := ⟨⟨by decide +kernel, by decide +kernel⟩, List.mem_of_getElem? (i := 731) (by decide +kernel), List.mem_of_getElem? (i := 1093) (by decide +kernel), List.mem_of_getElem? (i := 1094) (by decide +kernel)⟩
theorem lw_p33 : lw_okq (⟨"MeetHouseModel", "onLine", "(III)I"⟩, 38) := ⟨⟨by decide +kernel, by decide +kernel⟩, List.mem_of_getElem? (i := 731) (by decide +kernel), List.mem_of_getElem? (i := 1097) (by decide +kernel), List.mem_of_getElem? (i := 1098) (by decide +kernel)⟩
theorem lw_p34 : lw_okq (⟨"MeetHouseModel", "areThere", "(I)Z"⟩, 38) := ⟨⟨by decide +kernel, by decide +kernel⟩, List.mem_of_getElem? (i := 731) (by decide +kernel), List.mem_of_getElem? (i := 1106) (by decide +kernel), List.mem_of_getElem? (i := 1107) (by decide +kernel)⟩
theorem lw_p35 : lw_okq (⟨"MeetHouseModel", "lookAtRods", "(I)V"⟩, 38) := ⟨⟨by decide +kernel, by decide +kernel⟩, List.mem_of_getElem? (i := 731) (by decide +kernel), List.mem_of_getElem? (i := 1110) (by decide +kernel), List.mem_of_getElem? (i := 1111) (by decide +kernel)⟩
theorem lw_p36 : lw_okq (⟨"MeetHouseModel", "areLeast", "(II)Z"⟩, 38) := ⟨⟨by decide +kernel, by decide +kernel⟩, List.mem_of_getElem? (i := 731) (by decide +kernel), List.mem_of_getElem? (i := 1114) (by decide +kernel), List.mem_of_getElem? (i := 1115) (by decide +kernel)⟩
def lw_privs_3 : List (MethodName × Nat) := [(⟨"MeetHouseModel", "marks", "([ZII)I"⟩, 38), (⟨"MeetHouseModel", "onLine", "(III)I"⟩, 38), (⟨"MeetHouseModel", "areThere", "(I)Z"⟩, 38), (⟨"MeetHouseModel", "lookAtRods", "(I)V"⟩, 38), (⟨"MeetHouseModel", "areLeast", "(II)Z"⟩, 38)]
theorem lw_r3 : ∀ q ∈ lw_privs_3, lw_okq q := List.forall_mem_cons.mpr ⟨lw_p32, List.forall_mem_cons.mpr ⟨lw_p33, List.forall_mem_cons.mpr ⟨lw_p34, List.forall_mem_cons.mpr ⟨lw_p35, List.forall_mem_cons.mpr ⟨lw_p36, fun _ h => absurd h List.not_mem_nil⟩⟩⟩⟩⟩
def lw_privs : List (MethodName × Nat) := lw_privs_1 ++ (lw_privs_2 ++ (lw_privs_3))
def lw_tbl : List Cond := k2_sels lw_privs ++ tables_1
theorem lw_privs_ok : ∀ q ∈ lw_privs, lw_okq q := by
  show ∀ q ∈ lw_privs_1 ++ (lw_privs_2 ++ (lw_privs_3)), lw_okq q
  exact List.forall_mem_append.mpr ⟨lw_r1, List.forall_mem_append.mpr ⟨lw_r2, lw_r3⟩⟩
-- ===== end of PART A; then your names; then what follows =====
-- printed names
def RX0 : String := "MeetHouse$Algebra"
def TX0 : u_T := fun k => match k with
  | 0 => ("MeetHouse$Algebra", "pot", "LMeetHouse$Pot;", true)
  | 1 => ("MeetHouse$Algebra", "left", "LMeetHouse$Polynomial;", true)
  | _ => ("MeetHouse$Algebra", "right", "LMeetHouse$Polynomial;", true)
def tyX0 : Nat → FieldType := fun k => match k with
  | 0 => .object "MeetHouse$Pot"
  | 1 => .object "MeetHouse$Polynomial"
  | _ => .object "MeetHouse$Polynomial"
abbrev wsX00 : List Cond := u_ws RX0 TX0 3
theorem nmX0 : ∀ a, a < 3 → ∀ b, b < 3 → a ≠ b → (TX0 a).2.1 ≠ (TX0 b).2.1 := by decide +kernel
theorem tyX0_ok : ∀ k, k < 3 → parseFieldDescriptor (TX0 k).2.2.1 = some (tyX0 k) := by decide +kernel
abbrev cX0_init : ByteArray := prog_2_method_1_code
def yX0_init : MethodName := ⟨RX0, "<init>", "()V"⟩
abbrev cX0_join : ByteArray := prog_2_method_2_code
def yX0_join : MethodName := ⟨RX0, "join", "(LMeetHouse$Polynomial;JI)I"⟩
abbrev cX0_combine : ByteArray := prog_2_method_3_code
def yX0_combine : MethodName := ⟨RX0, "combine", "(LMeetHouse$Polynomial;LMeetHouse$Polynomial;LMeetHouse$Polynomial;I)I"⟩
abbrev cX0_multiply : ByteArray := prog_2_method_4_code
def yX0_multiply : MethodName := ⟨RX0, "multiply", "(LMeetHouse$Polynomial;LMeetHouse$Polynomial;LMeetHouse$Polynomial;)I"⟩
abbrev cX0_isTooHigh : ByteArray := prog_2_method_5_code
def yX0_isTooHigh : MethodName := ⟨RX0, "isTooHigh", "(LMeetHouse$Polynomial;LMeetHouse$Polynomial;)Z"⟩
abbrev cX0_swapLetters : ByteArray := prog_2_method_6_code
def yX0_swapLetters : MethodName := ⟨RX0, "swapLetters", "(LMeetHouse$Polynomial;LMeetHouse$Polynomial;I)I"⟩
abbrev cX0_differ : ByteArray := prog_2_method_7_code
def yX0_differ : MethodName := ⟨RX0, "differ", "(LMeetHouse$Polynomial;LMeetHouse$Polynomial;I)I"⟩
abbrev cX0_pourDifference : ByteArray := prog_2_method_8_code
def yX0_pourDifference : MethodName := ⟨RX0, "pourDifference", "(LMeetHouse$Polynomial;II)V"⟩
abbrev cX0_compose : ByteArray := prog_2_method_9_code
def yX0_compose : MethodName := ⟨RX0, "compose", "(LMeetHouse$Polynomial;II)I"⟩
abbrev cX0_staircase : ByteArray := prog_2_method_10_code
def yX0_staircase : MethodName := ⟨RX0, "staircase", "(I)I"⟩
abbrev cX0_partOf : ByteArray := prog_2_method_11_code
def yX0_partOf : MethodName := ⟨RX0, "partOf", "(LMeetHouse$Polynomial;II)J"⟩
abbrev cX0_partOfProduct : ByteArray := prog_2_method_12_code
def yX0_partOfProduct : MethodName := ⟨RX0, "partOfProduct", "(III)J"⟩
abbrev cX0_partOfLeft : ByteArray := prog_2_method_13_code
def yX0_partOfLeft : MethodName := ⟨RX0, "partOfLeft", "(II)J"⟩
def RX1 : String := "MeetHouse$Boxes"
def TX1 : u_T := fun k => match k with
  | _ => ("", "", "", false)
def tyX1 : Nat → FieldType := fun k => match k with
  | _ => .int
abbrev wsX10 : List Cond := u_ws RX1 TX1 0
theorem nmX1 : ∀ a, a < 0 → ∀ b, b < 0 → a ≠ b → (TX1 a).2.1 ≠ (TX1 b).2.1 := by decide +kernel
theorem tyX1_ok : ∀ k, k < 0 → parseFieldDescriptor (TX1 k).2.2.1 = some (tyX1 k) := by decide +kernel
abbrev cX1_isShape : ByteArray := prog_3_method_2_code
def yX1_isShape : MethodName := ⟨RX1, "isShape", "(II)Z"⟩
abbrev cX1_isBox : ByteArray := prog_3_method_3_code
def yX1_isBox : MethodName := ⟨RX1, "isBox", "(III)Z"⟩
abbrev cX1_figure : ByteArray := prog_3_method_4_code
def yX1_figure : MethodName := ⟨RX1, "figure", "(III)I"⟩
abbrev cX1_places : ByteArray := prog_3_method_5_code
def yX1_places : MethodName := ⟨RX1, "places", "(II)I"⟩
abbrev cX1_stripAt : ByteArray := prog_3_method_6_code
def yX1_stripAt : MethodName := ⟨RX1, "stripAt", "(IIIII)I"⟩
abbrev cX1_room : ByteArray := prog_3_method_7_code
def yX1_room : MethodName := ⟨RX1, "room", "(IIII)I"⟩
abbrev cX1_strips : ByteArray := prog_3_method_8_code
def yX1_strips : MethodName := ⟨RX1, "strips", "(IIIII)I"⟩
abbrev cX1_toOrder : ByteArray := prog_3_method_9_code
def yX1_toOrder : MethodName := ⟨RX1, "toOrder", "(III)I"⟩
abbrev cX1_gather : ByteArray := prog_3_method_10_code
def yX1_gather : MethodName := ⟨RX1, "gather", "([IIIII)I"⟩
def RX2 : String := "MeetHouse$Conditions"
def TX2 : u_T := fun k => match k with
  | 0 => ("MeetHouse$Conditions", "filler", "LMeetHouse$Filler;", true)
  | 1 => ("MeetHouse$Conditions", "boxes", "[I", true)
  | 2 => ("MeetHouse$Conditions", "all", "[I", true)
  | 3 => ("MeetHouse$Conditions", "often", "[J", true)
  | 4 => ("MeetHouse$Conditions", "next", "[J", true)
  | 5 => ("MeetHouse$Conditions", "k", "I", false)
  | 6 => ("MeetHouse$Conditions", "m", "I", false)
  | _ => ("MeetHouse$Conditions", "size", "I", false)
def tyX2 : Nat → FieldType := fun k => match k with
  | 0 => .object "MeetHouse$Filler"
  | 1 => .array .int
  | 2 => .array .int
  | 3 => .array .long
  | 4 => .array .long
  | 5 => .int
  | 6 => .int
  | _ => .int
abbrev wsX20 : List Cond := u_ws RX2 TX2 8
theorem nmX2 : ∀ a, a < 8 → ∀ b, b < 8 → a ≠ b → (TX2 a).2.1 ≠ (TX2 b).2.1 := by decide +kernel
theorem tyX2_ok : ∀ k, k < 8 → parseFieldDescriptor (TX2 k).2.2.1 = some (tyX2 k) := by decide +kernel
abbrev cX2_init : ByteArray := prog_4_method_1_code
def yX2_init : MethodName := ⟨RX2, "<init>", "()V"⟩
abbrev cX2_filler : ByteArray := prog_4_method_2_code
def yX2_filler : MethodName := ⟨RX2, "filler", "()LMeetHouse$Filler;"⟩
abbrev cX2_rows : ByteArray := prog_4_method_3_code
def yX2_rows : MethodName := ⟨RX2, "rows", "()I"⟩
abbrev cX2_columns : ByteArray := prog_4_method_4_code
def yX2_columns : MethodName := ⟨RX2, "columns", "()I"⟩
abbrev cX2_size : ByteArray := prog_4_method_5_code
def yX2_size : MethodName := ⟨RX2, "size", "()I"⟩
abbrev cX2_restart : ByteArray := prog_4_method_6_code
def yX2_restart : MethodName := ⟨RX2, "restart", "(II)I"⟩
abbrev cX2_append : ByteArray := prog_4_method_7_code
def yX2_append : MethodName := ⟨RX2, "append", "(I)I"⟩
abbrev cX2_total : ByteArray := prog_4_method_8_code
def yX2_total : MethodName := ⟨RX2, "total", "()J"⟩
abbrev cX2_putOn : ByteArray := prog_4_method_9_code
def yX2_putOn : MethodName := ⟨RX2, "putOn", "(II)V"⟩
abbrev cX2_digestOn : ByteArray := prog_4_method_10_code
def yX2_digestOn : MethodName := ⟨RX2, "digestOn", "(J)J"⟩
def RX3 : String := "MeetHouse$Figures"
def TX3 : u_T := fun k => match k with
  | _ => ("", "", "", false)
def tyX3 : Nat → FieldType := fun k => match k with
  | _ => .int
abbrev wsX30 : List Cond := u_ws RX3 TX3 0
theorem nmX3 : ∀ a, a < 0 → ∀ b, b < 0 → a ≠ b → (TX3 a).2.1 ≠ (TX3 b).2.1 := by decide +kernel
theorem tyX3_ok : ∀ k, k < 0 → parseFieldDescriptor (TX3 k).2.2.1 = some (tyX3 k) := by decide +kernel
abbrev cX3_at : ByteArray := prog_5_method_2_code
def yX3_at : MethodName := ⟨RX3, "at", "(II)I"⟩
abbrev cX3_power : ByteArray := prog_5_method_3_code
def yX3_power : MethodName := ⟨RX3, "power", "(II)I"⟩
def RX4 : String := "MeetHouse$Filler"
def TX4 : u_T := fun k => match k with
  | 0 => ("MeetHouse$Filler", "inner", "[I", true)
  | 1 => ("MeetHouse$Filler", "outer", "[I", true)
  | 2 => ("MeetHouse$Filler", "left", "[I", true)
  | 3 => ("MeetHouse$Filler", "used", "[I", true)
  | _ => ("MeetHouse$Filler", "cells", "[[I", true)
def tyX4 : Nat → FieldType := fun k => match k with
  | 0 => .array .int
  | 1 => .array .int
  | 2 => .array .int
  | 3 => .array .int
  | _ => .array (.array .int)
abbrev wsX40 : List Cond := u_ws RX4 TX4 5
theorem nmX4 : ∀ a, a < 5 → ∀ b, b < 5 → a ≠ b → (TX4 a).2.1 ≠ (TX4 b).2.1 := by decide +kernel
theorem tyX4_ok : ∀ k, k < 5 → parseFieldDescriptor (TX4 k).2.2.1 = some (tyX4 k) := by decide +kernel
abbrev cX4_init : ByteArray := prog_6_method_1_code
def yX4_init : MethodName := ⟨RX4, "<init>", "()V"⟩
abbrev cX4_howMany : ByteArray := prog_6_method_2_code
def yX4_howMany : MethodName := ⟨RX4, "howMany", "(IIII)I"⟩
abbrev cX4_fill : ByteArray := prog_6_method_3_code
def yX4_fill : MethodName := ⟨RX4, "fill", "(LMeetHouse$Filler;III)I"⟩
def RX5 : String := "MeetHouse$Line"
def TX5 : u_T := fun k => match k with
  | 0 => ("MeetHouse$Line", "rests", "[I", true)
  | _ => ("MeetHouse$Line", "there", "Z", false)
def tyX5 : Nat → FieldType := fun k => match k with
  | 0 => .array .int
  | _ => .boolean
abbrev wsX50 : List Cond := u_ws RX5 TX5 2
theorem nmX5 : ∀ a, a < 2 → ∀ b, b < 2 → a ≠ b → (TX5 a).2.1 ≠ (TX5 b).2.1 := by decide +kernel
theorem tyX5_ok : ∀ k, k < 2 → parseFieldDescriptor (TX5 k).2.2.1 = some (tyX5 k) := by decide +kernel
abbrev cX5_init : ByteArray := prog_7_method_1_code
def yX5_init : MethodName := ⟨RX5, "<init>", "()V"⟩
abbrev cX5_isThere : ByteArray := prog_7_method_2_code
def yX5_isThere : MethodName := ⟨RX5, "isThere", "()Z"⟩
abbrev cX5_vanish : ByteArray := prog_7_method_3_code
def yX5_vanish : MethodName := ⟨RX5, "vanish", "()V"⟩
abbrev cX5_span : ByteArray := prog_7_method_4_code
def yX5_span : MethodName := ⟨RX5, "span", "(III)Z"⟩
abbrev cX5_normalize : ByteArray := prog_7_method_5_code
def yX5_normalize : MethodName := ⟨RX5, "normalize", "(I)Z"⟩
abbrev cX5_copy : ByteArray := prog_7_method_6_code
def yX5_copy : MethodName := ⟨RX5, "copy", "(LMeetHouse$Line;)V"⟩
abbrev cX5_isLike : ByteArray := prog_7_method_7_code
def yX5_isLike : MethodName := ⟨RX5, "isLike", "(LMeetHouse$Line;)Z"⟩
abbrev cX5_crosses : ByteArray := prog_7_method_8_code
def yX5_crosses : MethodName := ⟨RX5, "crosses", "(LMeetHouse$Line;I)Z"⟩
abbrev cX5_holds : ByteArray := prog_7_method_9_code
def yX5_holds : MethodName := ⟨RX5, "holds", "(II)Z"⟩
abbrev cX5_pair : ByteArray := prog_7_method_10_code
def yX5_pair : MethodName := ⟨RX5, "pair", "(II)I"⟩
abbrev cX5_rest : ByteArray := prog_7_method_11_code
def yX5_rest : MethodName := ⟨RX5, "rest", "(II)I"⟩
def RX6 : String := "MeetHouse$Orders"
def TX6 : u_T := fun k => match k with
  | _ => ("", "", "", false)
def tyX6 : Nat → FieldType := fun k => match k with
  | _ => .int
abbrev wsX60 : List Cond := u_ws RX6 TX6 0
theorem nmX6 : ∀ a, a < 0 → ∀ b, b < 0 → a ≠ b → (TX6 a).2.1 ≠ (TX6 b).2.1 := by decide +kernel
theorem tyX6_ok : ∀ k, k < 0 → parseFieldDescriptor (TX6 k).2.2.1 = some (tyX6 k) := by decide +kernel
abbrev cX6_figures : ByteArray := prog_8_method_2_code
def yX6_figures : MethodName := ⟨RX6, "figures", "(I)I"⟩
abbrev cX6_figure : ByteArray := prog_8_method_3_code
def yX6_figure : MethodName := ⟨RX6, "figure", "(III)I"⟩
abbrev cX6_falls : ByteArray := prog_8_method_4_code
def yX6_falls : MethodName := ⟨RX6, "falls", "(II)I"⟩
abbrev cX6_swapped : ByteArray := prog_8_method_5_code
def yX6_swapped : MethodName := ⟨RX6, "swapped", "(IIII)I"⟩
abbrev cX6_inverted : ByteArray := prog_8_method_6_code
def yX6_inverted : MethodName := ⟨RX6, "inverted", "(II)I"⟩
abbrev cX6_firstStep : ByteArray := prog_8_method_7_code
def yX6_firstStep : MethodName := ⟨RX6, "firstStep", "(IIZ)I"⟩
abbrev cX6_ofLength : ByteArray := prog_8_method_8_code
def yX6_ofLength : MethodName := ⟨RX6, "ofLength", "(II)I"⟩
abbrev cX6_risen : ByteArray := prog_8_method_9_code
def yX6_risen : MethodName := ⟨RX6, "risen", "(IIII)I"⟩
abbrev cX6_leastRisen : ByteArray := prog_8_method_10_code
def yX6_leastRisen : MethodName := ⟨RX6, "leastRisen", "(IIII)I"⟩
def RX7 : String := "MeetHouse$Polynomial"
def TX7 : u_T := fun k => match k with
  | 0 => ("MeetHouse$Polynomial", "exponents", "[I", true)
  | 1 => ("MeetHouse$Polynomial", "numbers", "[I", true)
  | 2 => ("MeetHouse$Polynomial", "size", "I", false)
  | _ => ("MeetHouse$Polynomial", "there", "Z", false)
def tyX7 : Nat → FieldType := fun k => match k with
  | 0 => .array .int
  | 1 => .array .int
  | 2 => .int
  | _ => .boolean
abbrev wsX70 : List Cond := u_ws RX7 TX7 4
theorem nmX7 : ∀ a, a < 4 → ∀ b, b < 4 → a ≠ b → (TX7 a).2.1 ≠ (TX7 b).2.1 := by decide +kernel
theorem tyX7_ok : ∀ k, k < 4 → parseFieldDescriptor (TX7 k).2.2.1 = some (tyX7 k) := by decide +kernel
abbrev cX7_init : ByteArray := prog_9_method_1_code
def yX7_init : MethodName := ⟨RX7, "<init>", "()V"⟩
abbrev cX7_size : ByteArray := prog_9_method_2_code
def yX7_size : MethodName := ⟨RX7, "size", "()I"⟩
abbrev cX7_isThere : ByteArray := prog_9_method_3_code
def yX7_isThere : MethodName := ⟨RX7, "isThere", "()Z"⟩
abbrev cX7_vanish : ByteArray := prog_9_method_4_code
def yX7_vanish : MethodName := ⟨RX7, "vanish", "()V"⟩
abbrev cX7_clear : ByteArray := prog_9_method_5_code
def yX7_clear : MethodName := ⟨RX7, "clear", "()V"⟩
abbrev cX7_append : ByteArray := prog_9_method_6_code
def yX7_append : MethodName := ⟨RX7, "append", "(II)V"⟩
abbrev cX7_exponentsAt : ByteArray := prog_9_method_7_code
def yX7_exponentsAt : MethodName := ⟨RX7, "exponentsAt", "(I)I"⟩
abbrev cX7_numberAt : ByteArray := prog_9_method_8_code
def yX7_numberAt : MethodName := ⟨RX7, "numberAt", "(I)I"⟩
abbrev cX7_numberOf : ByteArray := prog_9_method_9_code
def yX7_numberOf : MethodName := ⟨RX7, "numberOf", "(I)I"⟩
abbrev cX7_exponentAt : ByteArray := prog_9_method_10_code
def yX7_exponentAt : MethodName := ⟨RX7, "exponentAt", "(II)I"⟩
abbrev cX7_topExponent : ByteArray := prog_9_method_11_code
def yX7_topExponent : MethodName := ⟨RX7, "topExponent", "(I)I"⟩
abbrev cX7_isLike : ByteArray := prog_9_method_12_code
def yX7_isLike : MethodName := ⟨RX7, "isLike", "(LMeetHouse$Polynomial;)Z"⟩
abbrev cX7_copy : ByteArray := prog_9_method_13_code
def yX7_copy : MethodName := ⟨RX7, "copy", "(LMeetHouse$Polynomial;)V"⟩
abbrev cX7_digestOn : ByteArray := prog_9_method_14_code
def yX7_digestOn : MethodName := ⟨RX7, "digestOn", "(J)J"⟩
def RX8 : String := "MeetHouse$Pot"
def TX8 : u_T := fun k => match k with
  | 0 => ("MeetHouse$Pot", "sums", "[J", true)
  | 1 => ("MeetHouse$Pot", "used", "[Z", true)
  | 2 => ("MeetHouse$Pot", "draft", "LMeetHouse$Polynomial;", true)
  | 3 => ("MeetHouse$Pot", "terms", "I", false)
  | _ => ("MeetHouse$Pot", "isGreat", "Z", false)
def tyX8 : Nat → FieldType := fun k => match k with
  | 0 => .array .long
  | 1 => .array .boolean
  | 2 => .object "MeetHouse$Polynomial"
  | 3 => .int
  | _ => .boolean
abbrev wsX80 : List Cond := u_ws RX8 TX8 5
theorem nmX8 : ∀ a, a < 5 → ∀ b, b < 5 → a ≠ b → (TX8 a).2.1 ≠ (TX8 b).2.1 := by decide +kernel
theorem tyX8_ok : ∀ k, k < 5 → parseFieldDescriptor (TX8 k).2.2.1 = some (tyX8 k) := by decide +kernel
abbrev cX8_init : ByteArray := prog_10_method_1_code
def yX8_init : MethodName := ⟨RX8, "<init>", "()V"⟩
abbrev cX8_pour : ByteArray := prog_10_method_2_code
def yX8_pour : MethodName := ⟨RX8, "pour", "(IJ)V"⟩
abbrev cX8_pourAll : ByteArray := prog_10_method_3_code
def yX8_pourAll : MethodName := ⟨RX8, "pourAll", "(LMeetHouse$Polynomial;J)V"⟩
abbrev cX8_settle : ByteArray := prog_10_method_4_code
def yX8_settle : MethodName := ⟨RX8, "settle", "(LMeetHouse$Polynomial;)I"⟩
abbrev cX8_takeOut : ByteArray := prog_10_method_5_code
def yX8_takeOut : MethodName := ⟨RX8, "takeOut", "(I)V"⟩
def RX9 : String := "MeetHouse$Space"
def TX9 : u_T := fun k => match k with
  | 0 => ("MeetHouse$Space", "rods", "[LMeetHouse$Line;", true)
  | 1 => ("MeetHouse$Space", "probe", "LMeetHouse$Line;", true)
  | _ => ("MeetHouse$Space", "q", "I", false)
def tyX9 : Nat → FieldType := fun k => match k with
  | 0 => .array (.object "MeetHouse$Line")
  | 1 => .object "MeetHouse$Line"
  | _ => .int
abbrev wsX90 : List Cond := u_ws RX9 TX9 3
theorem nmX9 : ∀ a, a < 3 → ∀ b, b < 3 → a ≠ b → (TX9 a).2.1 ≠ (TX9 b).2.1 := by decide +kernel
theorem tyX9_ok : ∀ k, k < 3 → parseFieldDescriptor (TX9 k).2.2.1 = some (tyX9 k) := by decide +kernel
abbrev cX9_init : ByteArray := prog_11_method_1_code
def yX9_init : MethodName := ⟨RX9, "<init>", "()V"⟩
abbrev cX9_isRod : ByteArray := prog_11_method_2_code
def yX9_isRod : MethodName := ⟨RX9, "isRod", "(I)Z"⟩
abbrev cX9_areBits : ByteArray := prog_11_method_3_code
def yX9_areBits : MethodName := ⟨RX9, "areBits", "(I)Z"⟩
abbrev cX9_figure : ByteArray := prog_11_method_4_code
def yX9_figure : MethodName := ⟨RX9, "figure", "(II)I"⟩
abbrev cX9_order : ByteArray := prog_11_method_5_code
def yX9_order : MethodName := ⟨RX9, "order", "()I"⟩
abbrev cX9_isPoint : ByteArray := prog_11_method_6_code
def yX9_isPoint : MethodName := ⟨RX9, "isPoint", "(I)Z"⟩
abbrev cX9_change : ByteArray := prog_11_method_7_code
def yX9_change : MethodName := ⟨RX9, "change", "(I)I"⟩
abbrev cX9_lay : ByteArray := prog_11_method_8_code
def yX9_lay : MethodName := ⟨RX9, "lay", "(III)Z"⟩
abbrev cX9_remove : ByteArray := prog_11_method_9_code
def yX9_remove : MethodName := ⟨RX9, "remove", "(I)Z"⟩
abbrev cX9_howMet : ByteArray := prog_11_method_10_code
def yX9_howMet : MethodName := ⟨RX9, "howMet", "(II)I"⟩
abbrev cX9_rodsThere : ByteArray := prog_11_method_11_code
def yX9_rodsThere : MethodName := ⟨RX9, "rodsThere", "()I"⟩
abbrev cX9_areThere : ByteArray := prog_11_method_12_code
def yX9_areThere : MethodName := ⟨RX9, "areThere", "(I)Z"⟩
abbrev cX9_isTold : ByteArray := prog_11_method_13_code
def yX9_isTold : MethodName := ⟨RX9, "isTold", "(II)Z"⟩
abbrev cX9_linesMeeting : ByteArray := prog_11_method_14_code
def yX9_linesMeeting : MethodName := ⟨RX9, "linesMeeting", "(I)I"⟩
abbrev cX9_linesFrom : ByteArray := prog_11_method_15_code
def yX9_linesFrom : MethodName := ⟨RX9, "linesFrom", "(III)I"⟩
abbrev cX9_crossesAll : ByteArray := prog_11_method_16_code
def yX9_crossesAll : MethodName := ⟨RX9, "crossesAll", "(I)Z"⟩
abbrev cX9_pointsOn : ByteArray := prog_11_method_17_code
def yX9_pointsOn : MethodName := ⟨RX9, "pointsOn", "(I)I"⟩
abbrev cX9_isOnOne : ByteArray := prog_11_method_18_code
def yX9_isOnOne : MethodName := ⟨RX9, "isOnOne", "(II)Z"⟩
abbrev cX9_pointFrom : ByteArray := prog_11_method_19_code
def yX9_pointFrom : MethodName := ⟨RX9, "pointFrom", "(III)I"⟩
def RX10 : String := "MeetHouse"
def TX10 : u_T := fun k => match k with
  | 0 => ("MeetHouse", "sheets", "[LMeetHouse$Polynomial;", true)
  | 1 => ("MeetHouse", "algebra", "LMeetHouse$Algebra;", true)
  | 2 => ("MeetHouse", "list", "LMeetHouse$Conditions;", true)
  | _ => ("MeetHouse", "space", "LMeetHouse$Space;", true)
def tyX10 : Nat → FieldType := fun k => match k with
  | 0 => .array (.object "MeetHouse$Polynomial")
  | 1 => .object "MeetHouse$Algebra"
  | 2 => .object "MeetHouse$Conditions"
  | _ => .object "MeetHouse$Space"
abbrev wsX100 : List Cond := u_ws RX10 TX10 4
theorem nmX10 : ∀ a, a < 4 → ∀ b, b < 4 → a ≠ b → (TX10 a).2.1 ≠ (TX10 b).2.1 := by decide +kernel
theorem tyX10_ok : ∀ k, k < 4 → parseFieldDescriptor (TX10 k).2.2.1 = some (tyX10 k) := by decide +kernel
abbrev cX10_init : ByteArray := prog_1_method_1_code
def yX10_init : MethodName := ⟨RX10, "<init>", "()V"⟩
abbrev cX10_length : ByteArray := prog_1_method_2_code
def yX10_length : MethodName := ⟨RX10, "length", "(I)I"⟩
abbrev cX10_exchange : ByteArray := prog_1_method_3_code
def yX10_exchange : MethodName := ⟨RX10, "exchange", "(II)I"⟩
abbrev cX10_inverse : ByteArray := prog_1_method_4_code
def yX10_inverse : MethodName := ⟨RX10, "inverse", "(I)I"⟩
abbrev cX10_orders : ByteArray := prog_1_method_5_code
def yX10_orders : MethodName := ⟨RX10, "orders", "(II)I"⟩
abbrev cX10_step : ByteArray := prog_1_method_6_code
def yX10_step : MethodName := ⟨RX10, "step", "(III)I"⟩
abbrev cX10_blank : ByteArray := prog_1_method_7_code
def yX10_blank : MethodName := ⟨RX10, "blank", "(I)I"⟩
abbrev cX10_lose : ByteArray := prog_1_method_8_code
def yX10_lose : MethodName := ⟨RX10, "lose", "(I)I"⟩
abbrev cX10_add : ByteArray := prog_1_method_9_code
def yX10_add : MethodName := ⟨RX10, "add", "(IJI)I"⟩
abbrev cX10_terms : ByteArray := prog_1_method_10_code
def yX10_terms : MethodName := ⟨RX10, "terms", "(I)I"⟩
abbrev cX10_exponents : ByteArray := prog_1_method_11_code
def yX10_exponents : MethodName := ⟨RX10, "exponents", "(II)I"⟩
abbrev cX10_number : ByteArray := prog_1_method_12_code
def yX10_number : MethodName := ⟨RX10, "number", "(II)J"⟩
abbrev cX10_sum : ByteArray := prog_1_method_13_code
def yX10_sum : MethodName := ⟨RX10, "sum", "(IIII)I"⟩
abbrev cX10_product : ByteArray := prog_1_method_14_code
def yX10_product : MethodName := ⟨RX10, "product", "(III)I"⟩
abbrev cX10_turned : ByteArray := prog_1_method_15_code
def yX10_turned : MethodName := ⟨RX10, "turned", "(III)I"⟩
abbrev cX10_difference : ByteArray := prog_1_method_16_code
def yX10_difference : MethodName := ⟨RX10, "difference", "(III)I"⟩
abbrev cX10_polynomial : ByteArray := prog_1_method_17_code
def yX10_polynomial : MethodName := ⟨RX10, "polynomial", "(II)I"⟩
abbrev cX10_part : ByteArray := prog_1_method_18_code
def yX10_part : MethodName := ⟨RX10, "part", "(II)J"⟩
abbrev cX10_constant : ByteArray := prog_1_method_19_code
def yX10_constant : MethodName := ⟨RX10, "constant", "(III)J"⟩
abbrev cX10_same : ByteArray := prog_1_method_20_code
def yX10_same : MethodName := ⟨RX10, "same", "(II)I"⟩
abbrev cX10_strip : ByteArray := prog_1_method_21_code
def yX10_strip : MethodName := ⟨RX10, "strip", "(IIIII)I"⟩
abbrev cX10_fillings : ByteArray := prog_1_method_22_code
def yX10_fillings : MethodName := ⟨RX10, "fillings", "(IIIII)I"⟩
abbrev cX10_orderOf : ByteArray := prog_1_method_23_code
def yX10_orderOf : MethodName := ⟨RX10, "orderOf", "(III)I"⟩
abbrev cX10_begin : ByteArray := prog_1_method_24_code
def yX10_begin : MethodName := ⟨RX10, "begin", "(II)I"⟩
abbrev cX10_condition : ByteArray := prog_1_method_25_code
def yX10_condition : MethodName := ⟨RX10, "condition", "(I)I"⟩
abbrev cX10_meeting : ByteArray := prog_1_method_26_code
def yX10_meeting : MethodName := ⟨RX10, "meeting", "()J"⟩
abbrev cX10_field : ByteArray := prog_1_method_27_code
def yX10_field : MethodName := ⟨RX10, "field", "(I)I"⟩
abbrev cX10_rod : ByteArray := prog_1_method_28_code
def yX10_rod : MethodName := ⟨RX10, "rod", "(III)I"⟩
abbrev cX10_drop : ByteArray := prog_1_method_29_code
def yX10_drop : MethodName := ⟨RX10, "drop", "(I)I"⟩
abbrev cX10_meet : ByteArray := prog_1_method_30_code
def yX10_meet : MethodName := ⟨RX10, "meet", "(II)I"⟩
abbrev cX10_lines : ByteArray := prog_1_method_31_code
def yX10_lines : MethodName := ⟨RX10, "lines", "(I)I"⟩
abbrev cX10_points : ByteArray := prog_1_method_32_code
def yX10_points : MethodName := ⟨RX10, "points", "(I)I"⟩
abbrev cX10_count : ByteArray := prog_1_method_33_code
def yX10_count : MethodName := ⟨RX10, "count", "(I)I"⟩
abbrev cX10_digest : ByteArray := prog_1_method_34_code
def yX10_digest : MethodName := ⟨RX10, "digest", "()J"⟩
abbrev cX10_isSheet : ByteArray := prog_1_method_35_code
def yX10_isSheet : MethodName := ⟨RX10, "isSheet", "(I)Z"⟩
abbrev cX10_isLost : ByteArray := prog_1_method_36_code
def yX10_isLost : MethodName := ⟨RX10, "isLost", "(I)Z"⟩
abbrev cX10_keptSheets : ByteArray := prog_1_method_37_code
def yX10_keptSheets : MethodName := ⟨RX10, "keptSheets", "()I"⟩
abbrev cX10_isBeyond : ByteArray := prog_1_method_38_code
def yX10_isBeyond : MethodName := ⟨RX10, "isBeyond", "(J)Z"⟩
abbrev cX10_areExponents : ByteArray := prog_1_method_39_code
def yX10_areExponents : MethodName := ⟨RX10, "areExponents", "(I)Z"⟩
abbrev cX10_refusal : ByteArray := prog_1_method_40_code
def yX10_refusal : MethodName := ⟨RX10, "refusal", "(I)J"⟩
def RX11 : String := "MeetHouseModel"
def TX11 : u_T := fun k => match k with
  | 0 => ("MeetHouseModel", "figures", "[I", true)
  | 1 => ("MeetHouseModel", "orderN", "I", false)
  | 2 => ("MeetHouseModel", "found", "[I", true)
  | 3 => ("MeetHouseModel", "isThere", "[Z", true)
  | 4 => ("MeetHouseModel", "many", "[I", true)
  | 5 => ("MeetHouseModel", "exponents", "[I", true)
  | 6 => ("MeetHouseModel", "numbers", "[J", true)
  | 7 => ("MeetHouseModel", "work", "[J", true)
  | 8 => ("MeetHouseModel", "next", "[J", true)
  | 9 => ("MeetHouseModel", "ups", "[I", true)
  | 10 => ("MeetHouseModel", "first", "[J", true)
  | 11 => ("MeetHouseModel", "second", "[J", true)
  | 12 => ("MeetHouseModel", "boxA", "[I", true)
  | 13 => ("MeetHouseModel", "boxB", "[I", true)
  | 14 => ("MeetHouseModel", "boxC", "[I", true)
  | 15 => ("MeetHouseModel", "placeRow", "[I", true)
  | 16 => ("MeetHouseModel", "placeColumn", "[I", true)
  | 17 => ("MeetHouseModel", "stands", "[I", true)
  | 18 => ("MeetHouseModel", "atPlace", "[I", true)
  | 19 => ("MeetHouseModel", "often", "[I", true)
  | 20 => ("MeetHouseModel", "listK", "I", false)
  | 21 => ("MeetHouseModel", "listM", "I", false)
  | 22 => ("MeetHouseModel", "listed", "I", false)
  | 23 => ("MeetHouseModel", "list", "[I", true)
  | 24 => ("MeetHouseModel", "boxes", "[I", true)
  | 25 => ("MeetHouseModel", "times", "[J", true)
  | 26 => ("MeetHouseModel", "nextTimes", "[J", true)
  | 27 => ("MeetHouseModel", "q", "I", false)
  | 28 => ("MeetHouseModel", "isRod", "[Z", true)
  | 29 => ("MeetHouseModel", "rodOne", "[I", true)
  | 30 => ("MeetHouseModel", "rodTwo", "[I", true)
  | 31 => ("MeetHouseModel", "isOn", "[Z", true)
  | 32 => ("MeetHouseModel", "isIn", "[Z", true)
  | 33 => ("MeetHouseModel", "figuresAt", "[I", true)
  | 34 => ("MeetHouseModel", "evenedAt", "[I", true)
  | 35 => ("MeetHouseModel", "rodsAt", "[I", true)
  | 36 => ("MeetHouseModel", "rodsMet", "I", false)
  | _ => ("MeetHouseModel", "points", "[I", true)
def tyX11 : Nat → FieldType := fun k => match k with
  | 0 => .array .int
  | 1 => .int
  | 2 => .array .int
  | 3 => .array .boolean
  | 4 => .array .int
  | 5 => .array .int
  | 6 => .array .long
  | 7 => .array .long
  | 8 => .array .long
  | 9 => .array .int
  | 10 => .array .long
  | 11 => .array .long
  | 12 => .array .int
  | 13 => .array .int
  | 14 => .array .int
  | 15 => .array .int
  | 16 => .array .int
  | 17 => .array .int
  | 18 => .array .int
  | 19 => .array .int
  | 20 => .int
  | 21 => .int
  | 22 => .int
  | 23 => .array .int
  | 24 => .array .int
  | 25 => .array .long
  | 26 => .array .long
  | 27 => .int
  | 28 => .array .boolean
  | 29 => .array .int
  | 30 => .array .int
  | 31 => .array .boolean
  | 32 => .array .boolean
  | 33 => .array .int
  | 34 => .array .int
  | 35 => .array .int
  | 36 => .int
  | _ => .array .int
abbrev wsX110 : List Cond := u_ws RX11 TX11 38
theorem nmX11 : ∀ a, a < 38 → ∀ b, b < 38 → a ≠ b → (TX11 a).2.1 ≠ (TX11 b).2.1 := by decide +kernel
theorem tyX11_ok : ∀ k, k < 38 → parseFieldDescriptor (TX11 k).2.2.1 = some (tyX11 k) := by decide +kernel
abbrev cX11_init : ByteArray := prog_13_method_1_code
def yX11_init : MethodName := ⟨RX11, "<init>", "()V"⟩
abbrev cX11_in : ByteArray := prog_13_method_3_code
def yX11_in : MethodName := ⟨RX11, "in", "(JJJ)Z"⟩
abbrev cX11_no : ByteArray := prog_13_method_4_code
def yX11_no : MethodName := ⟨RX11, "no", "(I)J"⟩
abbrev cX11_reads : ByteArray := prog_13_method_5_code
def yX11_reads : MethodName := ⟨RX11, "reads", "(I)Z"⟩
abbrev cX11_told : ByteArray := prog_13_method_6_code
def yX11_told : MethodName := ⟨RX11, "told", "()I"⟩
abbrev cX11_lengthNow : ByteArray := prog_13_method_7_code
def yX11_lengthNow : MethodName := ⟨RX11, "lengthNow", "()I"⟩
abbrev cX11_change : ByteArray := prog_13_method_8_code
def yX11_change : MethodName := ⟨RX11, "change", "(II)V"⟩
abbrev cX11_length : ByteArray := prog_13_method_9_code
def yX11_length : MethodName := ⟨RX11, "length", "(I)I"⟩
abbrev cX11_exchange : ByteArray := prog_13_method_10_code
def yX11_exchange : MethodName := ⟨RX11, "exchange", "(II)I"⟩
abbrev cX11_inverse : ByteArray := prog_13_method_11_code
def yX11_inverse : MethodName := ⟨RX11, "inverse", "(I)I"⟩
abbrev cX11_orders : ByteArray := prog_13_method_12_code
def yX11_orders : MethodName := ⟨RX11, "orders", "(II)I"⟩
abbrev cX11_step : ByteArray := prog_13_method_13_code
def yX11_step : MethodName := ⟨RX11, "step", "(III)I"⟩
abbrev cX11_isSheet : ByteArray := prog_13_method_14_code
def yX11_isSheet : MethodName := ⟨RX11, "isSheet", "(I)Z"⟩
abbrev cX11_placeOf : ByteArray := prog_13_method_15_code
def yX11_placeOf : MethodName := ⟨RX11, "placeOf", "(I)I"⟩
abbrev cX11_toldOf : ByteArray := prog_13_method_16_code
def yX11_toldOf : MethodName := ⟨RX11, "toldOf", "(I)I"⟩
abbrev cX11_wipe : ByteArray := prog_13_method_17_code
def yX11_wipe : MethodName := ⟨RX11, "wipe", "()V"⟩
abbrev cX11_takes : ByteArray := prog_13_method_18_code
def yX11_takes : MethodName := ⟨RX11, "takes", "(IJ)V"⟩
abbrev cX11_tooMuch : ByteArray := prog_13_method_19_code
def yX11_tooMuch : MethodName := ⟨RX11, "tooMuch", "()I"⟩
abbrev cX11_lays : ByteArray := prog_13_method_20_code
def yX11_lays : MethodName := ⟨RX11, "lays", "(I)I"⟩
abbrev cX11_blank : ByteArray := prog_13_method_21_code
def yX11_blank : MethodName := ⟨RX11, "blank", "(I)I"⟩
abbrev cX11_lose : ByteArray := prog_13_method_22_code
def yX11_lose : MethodName := ⟨RX11, "lose", "(I)I"⟩
abbrev cX11_add : ByteArray := prog_13_method_23_code
def yX11_add : MethodName := ⟨RX11, "add", "(IJI)I"⟩
abbrev cX11_terms : ByteArray := prog_13_method_24_code
def yX11_terms : MethodName := ⟨RX11, "terms", "(I)I"⟩
abbrev cX11_exponents : ByteArray := prog_13_method_25_code
def yX11_exponents : MethodName := ⟨RX11, "exponents", "(II)I"⟩
abbrev cX11_number : ByteArray := prog_13_method_26_code
def yX11_number : MethodName := ⟨RX11, "number", "(II)J"⟩
abbrev cX11_sum : ByteArray := prog_13_method_27_code
def yX11_sum : MethodName := ⟨RX11, "sum", "(IIII)I"⟩
abbrev cX11_highest : ByteArray := prog_13_method_28_code
def yX11_highest : MethodName := ⟨RX11, "highest", "(II)I"⟩
abbrev cX11_product : ByteArray := prog_13_method_29_code
def yX11_product : MethodName := ⟨RX11, "product", "(III)I"⟩
abbrev cX11_nines : ByteArray := prog_13_method_30_code
def yX11_nines : MethodName := ⟨RX11, "nines", "(I)I"⟩
abbrev cX11_turned : ByteArray := prog_13_method_31_code
def yX11_turned : MethodName := ⟨RX11, "turned", "(III)I"⟩
abbrev cX11_differ : ByteArray := prog_13_method_32_code
def yX11_differ : MethodName := ⟨RX11, "differ", "(I)V"⟩
abbrev cX11_difference : ByteArray := prog_13_method_33_code
def yX11_difference : MethodName := ⟨RX11, "difference", "(III)I"⟩
abbrev cX11_makes : ByteArray := prog_13_method_34_code
def yX11_makes : MethodName := ⟨RX11, "makes", "(I)V"⟩
abbrev cX11_polynomial : ByteArray := prog_13_method_35_code
def yX11_polynomial : MethodName := ⟨RX11, "polynomial", "(II)I"⟩
abbrev cX11_parts : ByteArray := prog_13_method_36_code
def yX11_parts : MethodName := ⟨RX11, "parts", "(IZ)J"⟩
abbrev cX11_part : ByteArray := prog_13_method_37_code
def yX11_part : MethodName := ⟨RX11, "part", "(II)J"⟩
abbrev cX11_constant : ByteArray := prog_13_method_38_code
def yX11_constant : MethodName := ⟨RX11, "constant", "(III)J"⟩
abbrev cX11_same : ByteArray := prog_13_method_39_code
def yX11_same : MethodName := ⟨RX11, "same", "(II)I"⟩
abbrev cX11_isBox : ByteArray := prog_13_method_40_code
def yX11_isBox : MethodName := ⟨RX11, "isBox", "(III[I)Z"⟩
abbrev cX11_areSides : ByteArray := prog_13_method_41_code
def yX11_areSides : MethodName := ⟨RX11, "areSides", "(II)Z"⟩
abbrev cX11_tens : ByteArray := prog_13_method_42_code
def yX11_tens : MethodName := ⟨RX11, "tens", "(I)I"⟩
abbrev cX11_sizeOf : ByteArray := prog_13_method_43_code
def yX11_sizeOf : MethodName := ⟨RX11, "sizeOf", "(I[I)I"⟩
abbrev cX11_strip : ByteArray := prog_13_method_44_code
def yX11_strip : MethodName := ⟨RX11, "strip", "(IIIII)I"⟩
abbrev cX11_mayStand : ByteArray := prog_13_method_45_code
def yX11_mayStand : MethodName := ⟨RX11, "mayStand", "(III)Z"⟩
abbrev cX11_fills : ByteArray := prog_13_method_46_code
def yX11_fills : MethodName := ⟨RX11, "fills", "(I)I"⟩
abbrev cX11_fillings : ByteArray := prog_13_method_47_code
def yX11_fillings : MethodName := ⟨RX11, "fillings", "(IIIII)I"⟩
abbrev cX11_orderOf : ByteArray := prog_13_method_48_code
def yX11_orderOf : MethodName := ⟨RX11, "orderOf", "(III)I"⟩
abbrev cX11_begin : ByteArray := prog_13_method_49_code
def yX11_begin : MethodName := ⟨RX11, "begin", "(II)I"⟩
abbrev cX11_condition : ByteArray := prog_13_method_50_code
def yX11_condition : MethodName := ⟨RX11, "condition", "(I)I"⟩
abbrev cX11_meeting : ByteArray := prog_13_method_51_code
def yX11_meeting : MethodName := ⟨RX11, "meeting", "()J"⟩
abbrev cX11_lookAtPoints : ByteArray := prog_13_method_52_code
def yX11_lookAtPoints : MethodName := ⟨RX11, "lookAtPoints", "()V"⟩
abbrev cX11_pointOf : ByteArray := prog_13_method_53_code
def yX11_pointOf : MethodName := ⟨RX11, "pointOf", "(I)I"⟩
abbrev cX11_mixed : ByteArray := prog_13_method_54_code
def yX11_mixed : MethodName := ⟨RX11, "mixed", "(IIII)I"⟩
abbrev cX11_evened : ByteArray := prog_13_method_55_code
def yX11_evened : MethodName := ⟨RX11, "evened", "(I)I"⟩
abbrev cX11_onLine : ByteArray := prog_13_method_56_code
def yX11_onLine : MethodName := ⟨RX11, "onLine", "(III)I"⟩
abbrev cX11_drops : ByteArray := prog_13_method_57_code
def yX11_drops : MethodName := ⟨RX11, "drops", "()V"⟩
abbrev cX11_field : ByteArray := prog_13_method_58_code
def yX11_field : MethodName := ⟨RX11, "field", "(I)I"⟩
abbrev cX11_rod : ByteArray := prog_13_method_59_code
def yX11_rod : MethodName := ⟨RX11, "rod", "(III)I"⟩
abbrev cX11_drop : ByteArray := prog_13_method_60_code
def yX11_drop : MethodName := ⟨RX11, "drop", "(I)I"⟩
abbrev cX11_marks : ByteArray := prog_13_method_61_code
def yX11_marks : MethodName := ⟨RX11, "marks", "([ZII)I"⟩
abbrev cX11_wipeMarks : ByteArray := prog_13_method_62_code
def yX11_wipeMarks : MethodName := ⟨RX11, "wipeMarks", "([Z)V"⟩
abbrev cX11_meet : ByteArray := prog_13_method_63_code
def yX11_meet : MethodName := ⟨RX11, "meet", "(II)I"⟩
abbrev cX11_areThere : ByteArray := prog_13_method_64_code
def yX11_areThere : MethodName := ⟨RX11, "areThere", "(I)Z"⟩
abbrev cX11_lookAtRods : ByteArray := prog_13_method_65_code
def yX11_lookAtRods : MethodName := ⟨RX11, "lookAtRods", "(I)V"⟩
abbrev cX11_areLeast : ByteArray := prog_13_method_66_code
def yX11_areLeast : MethodName := ⟨RX11, "areLeast", "(II)Z"⟩
abbrev cX11_lines : ByteArray := prog_13_method_67_code
def yX11_lines : MethodName := ⟨RX11, "lines", "(I)I"⟩
abbrev cX11_points : ByteArray := prog_13_method_68_code
def yX11_points : MethodName := ⟨RX11, "points", "(I)I"⟩
abbrev cX11_count : ByteArray := prog_13_method_69_code
def yX11_count : MethodName := ⟨RX11, "count", "(I)I"⟩
abbrev cX11_digest : ByteArray := prog_13_method_70_code
def yX11_digest : MethodName := ⟨RX11, "digest", "()J"⟩
def RJ9 : String := "java/lang/Math"
abbrev cJ9_floorMod_7cf53 : ByteArray := prog_14_method_50_code
def yJ9_floorMod_7cf53 : MethodName := ⟨RJ9, "floorMod", "(II)I"⟩
abbrev cJ9_max_7cf53 : ByteArray := prog_14_method_65_code
def yJ9_max_7cf53 : MethodName := ⟨RJ9, "max", "(II)I"⟩
abbrev cJ9_min_7cf53 : ByteArray := prog_14_method_69_code
def yJ9_min_7cf53 : MethodName := ⟨RJ9, "min", "(II)I"⟩
def RL : String := "MeetHouseLaw"
abbrev cL_law : ByteArray := code
def yL_law : MethodName := ⟨RL, "law", "([I)Z"⟩
-- the classes of which there are objects
abbrev fv_cl : List vw_C := [(RX0, TX0, 3), (RX2, TX2, 8), (RX4, TX4, 5), (RX5, TX5, 2), (RX7, TX7, 4), (RX8, TX8, 5), (RX9, TX9, 3), (RX10, TX10, 4), (RX11, TX11, 38)]
/-- the words that may be handed on to a method called -/
def fv_tbl : List Cond := lw_tbl.filter goodWord
theorem fv_in {w : Cond} (h : w ∈ lw_tbl) (g : goodWord w = true) : w ∈ fv_tbl := List.mem_filter.mpr ⟨h, g⟩
theorem fv_good : ∀ w ∈ fv_tbl, goodWord w = true := fun _ h => (List.mem_filter.mp h).2
theorem iX0 : ∀ w ∈ wsX00, w ∈ fv_tbl := by decide +kernel
theorem iX2 : ∀ w ∈ wsX20, w ∈ fv_tbl := by decide +kernel
theorem iX4 : ∀ w ∈ wsX40, w ∈ fv_tbl := by decide +kernel
theorem iX5 : ∀ w ∈ wsX50, w ∈ fv_tbl := by decide +kernel
theorem iX7 : ∀ w ∈ wsX70, w ∈ fv_tbl := by decide +kernel
theorem iX8 : ∀ w ∈ wsX80, w ∈ fv_tbl := by decide +kernel
theorem iX9 : ∀ w ∈ wsX90, w ∈ fv_tbl := by decide +kernel
theorem iX10 : ∀ w ∈ wsX100, w ∈ fv_tbl := by decide +kernel
theorem iX11 : ∀ w ∈ wsX110, w ∈ fv_tbl := by decide +kernel
end
section
/-! ===== the world of one object tree, by places: a cell's address is the base and its place ===== -/
abbrev fv_C : Type := (Nat × vp_A) ⊕ (Nat × List Value)
abbrev fv_F : Type := Nat → Option fv_C
abbrev fv_L : Type := List (Nat × Value)
/-- a method: its name, bytes, locals, type -/
abbrev fv_Y : Type := MethodName × ByteArray × Nat × Option FieldType
def fv_v (N : Nat) : Value → Value
  | .ref a => .ref (N + a)
  | v => v
def fv_r (N : Nat) (f : Nat → Option Nat) : Nat → Option Nat := fun j => (f j).map (N + ·)
def fv_a (N : Nat) (a : vp_A) : vp_A := match a.2 with
  | .inr (.inr (.inr (.inr f))) => (a.1, .inr (.inr (.inr (.inr (fv_r N f)))))
  | _ => a
def fv_e (N : Nat) (dA : Nat → ClassId) : fv_C → va_E
  | .inl x => .inl (dA x.1, fv_a N x.2)
  | .inr x => .inr (x.1, x.2.map (fv_v N))
def fv_set (f : fv_F) (i : Nat) (c : fv_C) : fv_F := fun j => if j = i then some c else f j
theorem fv_set_self (f : fv_F) (i : Nat) (c : fv_C) : fv_set f i c i = some c := if_pos rfl
theorem fv_set_ne (f : fv_F) {i j : Nat} (c : fv_C) (h : j ≠ i) : fv_set f i c j = f j := if_neg h
def fv_tys (dA : Nat → ClassId) : List (ClassId × FieldType) := [(dA 0, .int), (dA 1, .long), (dA 2, .boolean), (dA 3, .object "MeetHouse$Polynomial"), (dA 4, .object "MeetHouse$Line"), (dA 5, .array .int)]
/-- the pools' entries that name private methods of nest mates -/
def fv_nq : List (String × Nat × MethodName) := [("MeetHouse", 17, yX0_init), ("MeetHouse$Algebra", 11, yX8_init), ("MeetHouse$Pot", 22, yX7_init), ("MeetHouse$Algebra", 20, yX7_init), ("MeetHouse", 24, yX2_init), ("MeetHouse$Conditions", 11, yX4_init), ("MeetHouse$Space", 17, yX5_init), ("MeetHouse", 36, yX7_init), ("MeetHouse", 54, yX6_ofLength), ("MeetHouse$Pot", 68, yX10_isBeyond), ("MeetHouse$Algebra", 124, yX10_refusal), ("MeetHouse$Conditions", 42, yX1_gather)]
def fv_K (D : va_G) (dA : Nat → ClassId) (U : State) : Prop := va_K D fv_cl (fv_tys dA) U ∧ ∀ q ∈ fv_nq, va_Nw (.methodLinkNest q.1 q.2.1 q.2.2 "MeetHouse") U
theorem fv_Kw {D : va_G} {dA : Nat → ClassId} {s U : State} (hW : s.WarmedH U.vm) (h : fv_K D dA s) : fv_K D dA U := ⟨va_K.moved hW.alike h.1, fun q hq => va_Nw.warmM hW (h.2 q hq)⟩
def fv_R (D : va_G) (dA : Nat → ClassId) (N : Nat) (A : Nat → Prop) (f : fv_F) (H : Heap) : Prop := ∀ (i : Nat) (c : fv_C), f i = some c → A (N + i) ∧ va_at D fv_cl (N + i, fv_e N dA c) H
/-- cells may be made: the next place -/
def fv_O (N : Nat) (A : Nat → Prop) (al : Option Nat) (H : Heap) : Prop := ∀ n, al = some n → H.size = N + n ∧ ∀ q, N ≤ q → A q
abbrev fv_rm (d mc ms : Nat) : Room := { frames := d, cells := mc, slots := ms, locals := 64 * d }
def fv_ws (y : fv_Y) : List Cond := .code y.1 y.2.1 y.2.2.1 y.2.2.2 :: fv_tbl
def fv_Pc (D : va_G) (dA : Nat → ClassId) (N : Nat) (A : Nat → Prop) (as : List Value) (f : fv_F) (al : Option Nat) : Array Value → State → Prop :=
  va_Pc (as.map (fv_v N)) (fun U => fv_R D dA N A f U.heap ∧ fv_K D dA U ∧ fv_O N A al U.heap)
def fv_Qc (D : va_G) (dA : Nat → ClassId) (N : Nat) (A : Nat → Prop) (Q : Option Value → fv_F → Option Nat → Prop) : Array Value → State → Outcome → State → Prop := fun _ st o t =>
  ∃ (r : Option Value) (f : fv_F) (al : Option Nat), o = .returned (r.map (fv_v N)) ∧ Q r f al ∧ fv_R D dA N A f t.heap ∧ fv_O N A al t.heap ∧ va_F A st t
/-- a method's contract: from args and f it comes to an answer, cells and a next place with Q; depth d; mc cells of ms slots are made -/
def fv_M (y : fv_Y) (d mc ms : Nat) (as : List Value) (f : fv_F) (al : Option Nat) (Q : Option Value → fv_F → Option Nat → Prop) : Prop :=
  ∀ (l : Launch) (D : va_G) (dA : Nat → ClassId) (N : Nat) (A : Nat → Prop), Met l y.1 (fv_ws y) (fv_rm d mc ms) (fv_Pc D dA N A as f al) (fv_Qc D dA N A Q) mc ms A
end
section
/-! ===== a walk: from the frame at pc with these locals, stack and cells the machine comes to the method's end with Q ===== -/
def fv_G (y : fv_Y) (p : Program) (s : State) (m : MethodId) (args : Array Value) (meth : Method) (c : Code) (D : va_G) (dA : Nat → ClassId) : Prop :=
  p.tables.exec = Jvm.exec ∧ c.code = y.2.1 ∧ meth.sig.returnType = y.2.2.2 ∧ meth.locks = false ∧ c.maxLocals = y.2.2.1 ∧ s.vm.findClass y.1.cls = some m.cls ∧ (∀ w ∈ fv_tbl, w.before args s = true) ∧ fv_K D dA s ∧ meth.name = y.1.name
def fv_cN (N : Nat) (q : Nat × Value) : Nat × Value := (q.1, fv_v N q.2)
def fv_At (y : fv_Y) (d mc ms : Nat) (Q : Option Value → fv_F → Option Nat → Prop) (pc : Nat) (lv : fv_L) (st : List Value) (f : fv_F) (al : Option Nat) (k t : Nat) : Prop :=
  ∀ (p : Program) (l : Launch) (e : Env) (s : State) (m : MethodId) (args : Array Value) (below : List Frame) (meth : Method) (c : Code) (D : va_G) (dA : Nat → ClassId) (N : Nat) (A : Nat → Prop), fv_G y p s m args meth c D dA →
    ∀ (H : Heap) (locs : List Loc) (ls : Array Slot), fv_R D dA N A f H → va_S A s.heap H locs → fv_O N A al H → lv_has ls y.2.2.1 (lv.map (fv_cN N)) →
      W p l e (fv_rm d mc ms) s m args below meth c H locs k t (MQ below (fv_Qc D dA N A Q) args s mc ms A) (F0 m pc ls (st.map (fv_v N)))
def fv_g : fv_L → Nat → Option Value
  | [], _ => none
  | q :: r, i => if q.1 = i then some q.2 else fv_g r i
def fv_ins (x : Nat × Value) : fv_L → fv_L
  | [] => [x]
  | q :: r => if x.1 ≤ q.1 then x :: q :: r else q :: fv_ins x r
def fv_p1 (lv : fv_L) (i : Nat) (v : Value) : fv_L := fv_ins (i, v) (lv.filter (fun q => !(q.1 == i) && !(q.1 + 1 == i && q.2.category == 2)))
def fv_p2 (lv : fv_L) (i : Nat) (v : Value) : fv_L := fv_ins (i, v) (lv.filter (fun q => !(q.1 == i) && (!(q.1 == i + 1) && !(q.1 + 1 == i && q.2.category == 2))))
theorem fv_cat (N : Nat) (v : Value) : (fv_v N v).category = v.category := by cases v <;> rfl
theorem fv_g_mem {lv : fv_L} {i : Nat} {v : Value} (h : fv_g lv i = some v) : (i, v) ∈ lv := by
  induction lv with
  | nil => cases h
  | cons q r ih =>
    unfold fv_g at h
    split at h
    · rename_i e
      cases h
      subst e
      exact List.mem_cons_self
    · exact List.mem_cons_of_mem _ (ih h)
theorem fv_lk {ls : Array Slot} {n N : Nat} {lv : fv_L} {i : Nat} {v : Value} (h : lv_has ls n (lv.map (fv_cN N))) (hg : fv_g lv i = some v) : ls[i]? = some (.val (fv_v N v)) :=
  h.2.2 (i, fv_v N v) (List.mem_map.mpr ⟨(i, v), fv_g_mem hg, rfl⟩)
theorem fv_lx {ls : Array Slot} {n N : Nat} {lv : fv_L} {i : Nat} {v : Value} (h : lv_has ls n (lv.map (fv_cN N))) (hg : fv_g lv i = some v) : ∃ k : Nat, (lv.map (fv_cN N))[k]? = some (i, fv_v N v) :=
  List.getElem?_of_mem (List.mem_map.mpr ⟨(i, v), fv_g_mem hg, rfl⟩)
theorem fv_ins_mem {x q : Nat × Value} {lv : fv_L} (h : q ∈ fv_ins x lv) : q = x ∨ q ∈ lv := by
  induction lv with
  | nil => exact Or.inl (List.mem_singleton.mp h)
  | cons a r ih =>
    unfold fv_ins at h
    split at h
    · exact List.mem_cons.mp h
    · rcases List.mem_cons.mp h with h | h
      · exact Or.inr (h ▸ List.mem_cons_self)
      · rcases ih h with h | h
        · exact Or.inl h
        · exact Or.inr (List.mem_cons_of_mem _ h)
theorem fv_has {ls : Array Slot} {n : Nat} {l l' : List (Nat × Value)} (h : lv_has ls n l) (hs : ∀ q ∈ l', q ∈ l) : lv_has ls n l' := ⟨h.1, h.2.1, fun q hq => h.2.2 q (hs q hq)⟩
theorem fv_h1 {ls : Array Slot} {n N i : Nat} {lv : fv_L} {v : Value} (h : lv_has ls n ((i, fv_v N v) :: (lv.map (fv_cN N)).filter (fun q => !(q.1 == i) && !(q.1 + 1 == i && q.2.category == 2)))) : lv_has ls n ((fv_p1 lv i v).map (fv_cN N)) := by
  refine fv_has h fun q hq => ?_
  obtain ⟨q0, h0, rfl⟩ := List.mem_map.mp hq
  rcases fv_ins_mem h0 with rfl | h0
  · exact List.mem_cons_self
  · obtain ⟨h1, h2⟩ := List.mem_filter.mp h0
    refine List.mem_cons_of_mem _ (List.mem_filter.mpr ⟨List.mem_map.mpr ⟨q0, h1, rfl⟩, ?_⟩)
    show (!(q0.1 == i) && !(q0.1 + 1 == i && (fv_v N q0.2).category == 2)) = true
    rw [fv_cat]; exact h2
theorem fv_h2 {ls : Array Slot} {n N i : Nat} {lv : fv_L} {v : Value} (h : lv_has ls n ((i, fv_v N v) :: (lv.map (fv_cN N)).filter (fun q => !(q.1 == i) && (!(q.1 == i + 1) && !(q.1 + 1 == i && q.2.category == 2))))) : lv_has ls n ((fv_p2 lv i v).map (fv_cN N)) := by
  refine fv_has h fun q hq => ?_
  obtain ⟨q0, h0, rfl⟩ := List.mem_map.mp hq
  rcases fv_ins_mem h0 with rfl | h0
  · exact List.mem_cons_self
  · obtain ⟨h1, h2⟩ := List.mem_filter.mp h0
    refine List.mem_cons_of_mem _ (List.mem_filter.mpr ⟨List.mem_map.mpr ⟨q0, h1, rfl⟩, ?_⟩)
    show (!(q0.1 == i) && (!(q0.1 == i + 1) && !(q0.1 + 1 == i && (fv_v N q0.2).category == 2))) = true
    rw [fv_cat]; exact h2
section FVR
variable {y : fv_Y} {d mc ms : Nat} {Q : Option Value → fv_F → Option Nat → Prop} {pc : Nat} {lv : fv_L} {st : List Value} {f : fv_F} {al : Option Nat} {k t : Nat}
/-- fewer locals -/
theorem fx_sub {lv' : fv_L} (hs : ∀ q ∈ lv', q ∈ lv) (kk : fv_At y d mc ms Q pc lv' st f al k t) : fv_At y d mc ms Q pc lv st f al k t := by
  intro p l e s m args below meth c D dA N A G H locs ls hR hS hO hl
  exact kk p l e s m args below meth c D dA N A G H locs ls hR hS hO (fv_has hl fun q hq => by
    obtain ⟨q0, h0, rfl⟩ := List.mem_map.mp hq
    exact List.mem_map.mpr ⟨q0, hs q0 h0, rfl⟩)
theorem fx_iconst {n : Int} {v : Int32} (hd : decode y.2.1 pc = .ok (.iconst n, 1)) (hv : Int32.ofInt n = v) (kk : fv_At y d mc ms Q (pc + 1) lv (.int v :: st) f al k t) : fv_At y d mc ms Q pc lv (st) f al k t := by
  intro p l e s m args below meth c D dA N A G H locs ls hR hS hO hl
  obtain ⟨hx, hb, hr, hlk, hml, hown, hts, ⟨hK, hNq⟩, hnm⟩ := id G
  exact lv_iconst hx hb hd hv (kk p l e s m args below meth c D dA N A G H locs ls hR hS hO hl)
theorem fx_bipush {n : Int} {v : Int32} (hd : decode y.2.1 pc = .ok (.bipush n, 2)) (hv : (Int8.ofInt n).toInt32 = v) (kk : fv_At y d mc ms Q (pc + 2) lv (.int v :: st) f al k t) : fv_At y d mc ms Q pc lv (st) f al k t := by
  intro p l e s m args below meth c D dA N A G H locs ls hR hS hO hl
  obtain ⟨hx, hb, hr, hlk, hml, hown, hts, ⟨hK, hNq⟩, hnm⟩ := id G
  exact lv_bipush hx hb hd hv (kk p l e s m args below meth c D dA N A G H locs ls hR hS hO hl)
theorem fx_sipush {n : Int} {v : Int32} (hd : decode y.2.1 pc = .ok (.sipush n, 3)) (hv : (Int16.ofInt n).toInt32 = v) (kk : fv_At y d mc ms Q (pc + 3) lv (.int v :: st) f al k t) : fv_At y d mc ms Q pc lv (st) f al k t := by
  intro p l e s m args below meth c D dA N A G H locs ls hR hS hO hl
  obtain ⟨hx, hb, hr, hlk, hml, hown, hts, ⟨hK, hNq⟩, hnm⟩ := id G
  exact lv_sipush hx hb hd hv (kk p l e s m args below meth c D dA N A G H locs ls hR hS hO hl)
theorem fx_lconst {n : Fin 2} {v : Int64} (hd : decode y.2.1 pc = .ok (.lconst n, 1)) (hv : Int64.ofNat (n : Nat) = v) (kk : fv_At y d mc ms Q (pc + 1) lv (.long v :: st) f al k t) : fv_At y d mc ms Q pc lv (st) f al k t := by
  intro p l e s m args below meth c D dA N A G H locs ls hR hS hO hl
  obtain ⟨hx, hb, hr, hlk, hml, hown, hts, ⟨hK, hNq⟩, hnm⟩ := id G
  exact lv_lconst hx hb hd hv (kk p l e s m args below meth c D dA N A G H locs ls hR hS hO hl)
theorem fx_ldc {i : Nat} {v : Int32} (hd : decode y.2.1 pc = .ok (.ldc i, 2)) (hw : Jvm.Cond.constant y.1.cls i v ∈ fv_tbl) (kk : fv_At y d mc ms Q (pc + 2) lv (.int v :: st) f al k t) : fv_At y d mc ms Q pc lv (st) f al k t := by
  intro p l e s m args below meth c D dA N A G H locs ls hR hS hO hl
  obtain ⟨hx, hb, hr, hlk, hml, hown, hts, ⟨hK, hNq⟩, hnm⟩ := id G
  exact lv_ldc hx hb hown (hts _ hw) hd (kk p l e s m args below meth c D dA N A G H locs ls hR hS hO hl)
theorem fx_ldc2 {i : Nat} {v : Int64} (hd : decode y.2.1 pc = .ok (.ldc2_w i, 3)) (hw : Jvm.Cond.constantLong y.1.cls i v ∈ fv_tbl) (kk : fv_At y d mc ms Q (pc + 3) lv (.long v :: st) f al k t) : fv_At y d mc ms Q pc lv (st) f al k t := by
  intro p l e s m args below meth c D dA N A G H locs ls hR hS hO hl
  obtain ⟨hx, hb, hr, hlk, hml, hown, hts, ⟨hK, hNq⟩, hnm⟩ := id G
  exact lv_ldc2 hx hb hown (hts _ hw) hd (kk p l e s m args below meth c D dA N A G H locs ls hR hS hO hl)
theorem fx_iload_n {n : Fin 4} {i : Nat} {x : Int32} (hd : decode y.2.1 pc = .ok (.iload_n n, 1)) (hi : (n : Nat) = i) (hg : fv_g lv i = some (.int x)) (kk : fv_At y d mc ms Q (pc + 1) lv (.int x :: st) f al k t) : fv_At y d mc ms Q pc lv (st) f al k t := by
  intro p l e s m args below meth c D dA N A G H locs ls hR hS hO hl
  obtain ⟨hx, hb, hr, hlk, hml, hown, hts, ⟨hK, hNq⟩, hnm⟩ := id G
  exact lv_iload_n hx hb hd hi (fv_lk hl hg) (kk p l e s m args below meth c D dA N A G H locs ls hR hS hO hl)
theorem fx_iload {i : Nat} {x : Int32} (hd : decode y.2.1 pc = .ok (.iload i, 2)) (hg : fv_g lv i = some (.int x)) (kk : fv_At y d mc ms Q (pc + 2) lv (.int x :: st) f al k t) : fv_At y d mc ms Q pc lv (st) f al k t := by
  intro p l e s m args below meth c D dA N A G H locs ls hR hS hO hl
  obtain ⟨hx, hb, hr, hlk, hml, hown, hts, ⟨hK, hNq⟩, hnm⟩ := id G
  exact lv_iload hx hb hd (fv_lk hl hg) (kk p l e s m args below meth c D dA N A G H locs ls hR hS hO hl)
theorem fx_lload_n {n : Fin 4} {i : Nat} {x : Int64} (hd : decode y.2.1 pc = .ok (.lload_n n, 1)) (hi : (n : Nat) = i) (hg : fv_g lv i = some (.long x)) (kk : fv_At y d mc ms Q (pc + 1) lv (.long x :: st) f al k t) : fv_At y d mc ms Q pc lv (st) f al k t := by
  intro p l e s m args below meth c D dA N A G H locs ls hR hS hO hl
  obtain ⟨hx, hb, hr, hlk, hml, hown, hts, ⟨hK, hNq⟩, hnm⟩ := id G
  exact lv_lload_n hx hb hd hi (fv_lk hl hg) (kk p l e s m args below meth c D dA N A G H locs ls hR hS hO hl)
theorem fx_lload {i : Nat} {x : Int64} (hd : decode y.2.1 pc = .ok (.lload i, 2)) (hg : fv_g lv i = some (.long x)) (kk : fv_At y d mc ms Q (pc + 2) lv (.long x :: st) f al k t) : fv_At y d mc ms Q pc lv (st) f al k t := by
  intro p l e s m args below meth c D dA N A G H locs ls hR hS hO hl
  obtain ⟨hx, hb, hr, hlk, hml, hown, hts, ⟨hK, hNq⟩, hnm⟩ := id G
  exact lv_lload hx hb hd (fv_lk hl hg) (kk p l e s m args below meth c D dA N A G H locs ls hR hS hO hl)
theorem fx_aload_n {n : Fin 4} {i a : Nat} (hd : decode y.2.1 pc = .ok (.aload_n n, 1)) (hi : (n : Nat) = i) (hg : fv_g lv i = some (.ref a)) (kk : fv_At y d mc ms Q (pc + 1) lv (.ref a :: st) f al k t) : fv_At y d mc ms Q pc lv (st) f al k t := by
  intro p l e s m args below meth c D dA N A G H locs ls hR hS hO hl
  obtain ⟨hx, hb, hr, hlk, hml, hown, hts, ⟨hK, hNq⟩, hnm⟩ := id G
  exact lv_aload_n hx hb hd hi (fv_lk hl hg) (kk p l e s m args below meth c D dA N A G H locs ls hR hS hO hl)
theorem fx_aload {i a : Nat} (hd : decode y.2.1 pc = .ok (.aload i, 2)) (hg : fv_g lv i = some (.ref a)) (kk : fv_At y d mc ms Q (pc + 2) lv (.ref a :: st) f al k t) : fv_At y d mc ms Q pc lv (st) f al k t := by
  intro p l e s m args below meth c D dA N A G H locs ls hR hS hO hl
  obtain ⟨hx, hb, hr, hlk, hml, hown, hts, ⟨hK, hNq⟩, hnm⟩ := id G
  exact lv_aload hx hb hd (fv_lk hl hg) (kk p l e s m args below meth c D dA N A G H locs ls hR hS hO hl)
theorem fx_istore_n {n : Fin 4} {i : Nat} {x : Int32} {lv2 : fv_L} (hd : decode y.2.1 pc = .ok (.istore_n n, 1)) (hi : (n : Nat) = i) (hn : i < y.2.2.1) (hp : fv_p1 lv i (.int x) = lv2) (kk : fv_At y d mc ms Q (pc + 1) lv2 (st) f al k t) : fv_At y d mc ms Q pc lv (.int x :: st) f al k t := by
  intro p l e s m args below meth c D dA N A G H locs ls hR hS hO hl
  obtain ⟨hx, hb, hr, hlk, hml, hown, hts, ⟨hK, hNq⟩, hnm⟩ := id G
  exact lv_istore_n hx hb hd hi hl hn rfl (fun ls2 hl2 => kk p l e s m args below meth c D dA N A G H locs ls2 hR hS hO (by rw [← hp]; exact fv_h1 hl2))
theorem fx_istore {i : Nat} {x : Int32} {lv2 : fv_L} (hd : decode y.2.1 pc = .ok (.istore i, 2)) (hn : i < y.2.2.1) (hp : fv_p1 lv i (.int x) = lv2) (kk : fv_At y d mc ms Q (pc + 2) lv2 (st) f al k t) : fv_At y d mc ms Q pc lv (.int x :: st) f al k t := by
  intro p l e s m args below meth c D dA N A G H locs ls hR hS hO hl
  obtain ⟨hx, hb, hr, hlk, hml, hown, hts, ⟨hK, hNq⟩, hnm⟩ := id G
  exact lv_istore hx hb hd hl hn rfl (fun ls2 hl2 => kk p l e s m args below meth c D dA N A G H locs ls2 hR hS hO (by rw [← hp]; exact fv_h1 hl2))
theorem fx_lstore_n {n : Fin 4} {i : Nat} {x : Int64} {lv2 : fv_L} (hd : decode y.2.1 pc = .ok (.lstore_n n, 1)) (hi : (n : Nat) = i) (hn : i + 1 < y.2.2.1) (hp : fv_p2 lv i (.long x) = lv2) (kk : fv_At y d mc ms Q (pc + 1) lv2 (st) f al k t) : fv_At y d mc ms Q pc lv (.long x :: st) f al k t := by
  intro p l e s m args below meth c D dA N A G H locs ls hR hS hO hl
  obtain ⟨hx, hb, hr, hlk, hml, hown, hts, ⟨hK, hNq⟩, hnm⟩ := id G
  exact lv_lstore_n hx hb hd hi hl hn rfl (fun ls2 hl2 => kk p l e s m args below meth c D dA N A G H locs ls2 hR hS hO (by rw [← hp]; exact fv_h2 hl2))
theorem fx_lstore {i : Nat} {x : Int64} {lv2 : fv_L} (hd : decode y.2.1 pc = .ok (.lstore i, 2)) (hn : i + 1 < y.2.2.1) (hp : fv_p2 lv i (.long x) = lv2) (kk : fv_At y d mc ms Q (pc + 2) lv2 (st) f al k t) : fv_At y d mc ms Q pc lv (.long x :: st) f al k t := by
  intro p l e s m args below meth c D dA N A G H locs ls hR hS hO hl
  obtain ⟨hx, hb, hr, hlk, hml, hown, hts, ⟨hK, hNq⟩, hnm⟩ := id G
  exact lv_lstore hx hb hd hl hn rfl (fun ls2 hl2 => kk p l e s m args below meth c D dA N A G H locs ls2 hR hS hO (by rw [← hp]; exact fv_h2 hl2))
theorem fx_astore_n {n : Fin 4} {i a : Nat} {lv2 : fv_L} (hd : decode y.2.1 pc = .ok (.astore_n n, 1)) (hi : (n : Nat) = i) (hn : i < y.2.2.1) (hp : fv_p1 lv i (.ref a) = lv2) (kk : fv_At y d mc ms Q (pc + 1) lv2 (st) f al k t) : fv_At y d mc ms Q pc lv (.ref a :: st) f al k t := by
  intro p l e s m args below meth c D dA N A G H locs ls hR hS hO hl
  obtain ⟨hx, hb, hr, hlk, hml, hown, hts, ⟨hK, hNq⟩, hnm⟩ := id G
  exact lv_astore_n hx hb hd hi hl hn rfl (fun ls2 hl2 => kk p l e s m args below meth c D dA N A G H locs ls2 hR hS hO (by rw [← hp]; exact fv_h1 hl2))
theorem fx_astore {i a : Nat} {lv2 : fv_L} (hd : decode y.2.1 pc = .ok (.astore i, 2)) (hn : i < y.2.2.1) (hp : fv_p1 lv i (.ref a) = lv2) (kk : fv_At y d mc ms Q (pc + 2) lv2 (st) f al k t) : fv_At y d mc ms Q pc lv (.ref a :: st) f al k t := by
  intro p l e s m args below meth c D dA N A G H locs ls hR hS hO hl
  obtain ⟨hx, hb, hr, hlk, hml, hown, hts, ⟨hK, hNq⟩, hnm⟩ := id G
  exact lv_astore hx hb hd hl hn rfl (fun ls2 hl2 => kk p l e s m args below meth c D dA N A G H locs ls2 hR hS hO (by rw [← hp]; exact fv_h1 hl2))
theorem fx_iinc {i : Nat} {n : Int} {x v : Int32} {lv2 : fv_L} (hd : decode y.2.1 pc = .ok (.iinc i n, 3)) (hg : fv_g lv i = some (.int x)) (hv : x + Int32.ofInt n = v) (hn : i < y.2.2.1) (hp : fv_p1 lv i (.int v) = lv2) (kk : fv_At y d mc ms Q (pc + 3) lv2 (st) f al k t) : fv_At y d mc ms Q pc lv (st) f al k t := by
  intro p l e s m args below meth c D dA N A G H locs ls hR hS hO hl
  obtain ⟨hx, hb, hr, hlk, hml, hown, hts, ⟨hK, hNq⟩, hnm⟩ := id G
  obtain ⟨j, hj⟩ := fv_lx hl hg
  exact lv_iinc hx hb hd hl hj hv hn rfl (fun ls2 hl2 => kk p l e s m args below meth c D dA N A G H locs ls2 hR hS hO (by rw [← hp]; exact fv_h1 hl2))
theorem fx_iadd {x z : Int32} (hd : decode y.2.1 pc = .ok (.iadd, 1)) (kk : fv_At y d mc ms Q (pc + 1) lv (.int (x + z) :: st) f al k t) : fv_At y d mc ms Q pc lv (.int z :: .int x :: st) f al k t := by
  intro p l e s m args below meth c D dA N A G H locs ls hR hS hO hl
  obtain ⟨hx, hb, hr, hlk, hml, hown, hts, ⟨hK, hNq⟩, hnm⟩ := id G
  exact lv_iadd hx hb hd (kk p l e s m args below meth c D dA N A G H locs ls hR hS hO hl)
theorem fx_isub {x z : Int32} (hd : decode y.2.1 pc = .ok (.isub, 1)) (kk : fv_At y d mc ms Q (pc + 1) lv (.int (x - z) :: st) f al k t) : fv_At y d mc ms Q pc lv (.int z :: .int x :: st) f al k t := by
  intro p l e s m args below meth c D dA N A G H locs ls hR hS hO hl
  obtain ⟨hx, hb, hr, hlk, hml, hown, hts, ⟨hK, hNq⟩, hnm⟩ := id G
  exact lv_isub hx hb hd (kk p l e s m args below meth c D dA N A G H locs ls hR hS hO hl)
theorem fx_imul {x z : Int32} (hd : decode y.2.1 pc = .ok (.imul, 1)) (kk : fv_At y d mc ms Q (pc + 1) lv (.int (x * z) :: st) f al k t) : fv_At y d mc ms Q pc lv (.int z :: .int x :: st) f al k t := by
  intro p l e s m args below meth c D dA N A G H locs ls hR hS hO hl
  obtain ⟨hx, hb, hr, hlk, hml, hown, hts, ⟨hK, hNq⟩, hnm⟩ := id G
  exact lv_imul hx hb hd (kk p l e s m args below meth c D dA N A G H locs ls hR hS hO hl)
theorem fx_iand {x z : Int32} (hd : decode y.2.1 pc = .ok (.iand, 1)) (kk : fv_At y d mc ms Q (pc + 1) lv (.int (x &&& z) :: st) f al k t) : fv_At y d mc ms Q pc lv (.int z :: .int x :: st) f al k t := by
  intro p l e s m args below meth c D dA N A G H locs ls hR hS hO hl
  obtain ⟨hx, hb, hr, hlk, hml, hown, hts, ⟨hK, hNq⟩, hnm⟩ := id G
  exact lv_iand hx hb hd (kk p l e s m args below meth c D dA N A G H locs ls hR hS hO hl)
theorem fx_ior {x z : Int32} (hd : decode y.2.1 pc = .ok (.ior, 1)) (kk : fv_At y d mc ms Q (pc + 1) lv (.int (x ||| z) :: st) f al k t) : fv_At y d mc ms Q pc lv (.int z :: .int x :: st) f al k t := by
  intro p l e s m args below meth c D dA N A G H locs ls hR hS hO hl
  obtain ⟨hx, hb, hr, hlk, hml, hown, hts, ⟨hK, hNq⟩, hnm⟩ := id G
  exact lv_ior hx hb hd (kk p l e s m args below meth c D dA N A G H locs ls hR hS hO hl)
theorem fx_ixor {x z : Int32} (hd : decode y.2.1 pc = .ok (.ixor, 1)) (kk : fv_At y d mc ms Q (pc + 1) lv (.int (x ^^^ z) :: st) f al k t) : fv_At y d mc ms Q pc lv (.int z :: .int x :: st) f al k t := by
  intro p l e s m args below meth c D dA N A G H locs ls hR hS hO hl
  obtain ⟨hx, hb, hr, hlk, hml, hown, hts, ⟨hK, hNq⟩, hnm⟩ := id G
  exact lv_ixor hx hb hd (kk p l e s m args below meth c D dA N A G H locs ls hR hS hO hl)
theorem fx_idiv {x z : Int32} (hd : decode y.2.1 pc = .ok (.idiv, 1)) (h0 : ¬ z = 0) (kk : fv_At y d mc ms Q (pc + 1) lv (.int (x / z) :: st) f al k t) : fv_At y d mc ms Q pc lv (.int z :: .int x :: st) f al k t := by
  intro p l e s m args below meth c D dA N A G H locs ls hR hS hO hl
  obtain ⟨hx, hb, hr, hlk, hml, hown, hts, ⟨hK, hNq⟩, hnm⟩ := id G
  exact lv_idiv hx hb hd h0 (kk p l e s m args below meth c D dA N A G H locs ls hR hS hO hl)
theorem fx_irem {x z : Int32} (hd : decode y.2.1 pc = .ok (.irem, 1)) (h0 : ¬ z = 0) (kk : fv_At y d mc ms Q (pc + 1) lv (.int (x - x / z * z) :: st) f al k t) : fv_At y d mc ms Q pc lv (.int z :: .int x :: st) f al k t := by
  intro p l e s m args below meth c D dA N A G H locs ls hR hS hO hl
  obtain ⟨hx, hb, hr, hlk, hml, hown, hts, ⟨hK, hNq⟩, hnm⟩ := id G
  exact lv_irem hx hb hd h0 (kk p l e s m args below meth c D dA N A G H locs ls hR hS hO hl)
theorem fx_ineg {x : Int32} (hd : decode y.2.1 pc = .ok (.ineg, 1)) (kk : fv_At y d mc ms Q (pc + 1) lv (.int (-x) :: st) f al k t) : fv_At y d mc ms Q pc lv (.int x :: st) f al k t := by
  intro p l e s m args below meth c D dA N A G H locs ls hR hS hO hl
  obtain ⟨hx, hb, hr, hlk, hml, hown, hts, ⟨hK, hNq⟩, hnm⟩ := id G
  exact lv_ineg hx hb hd (kk p l e s m args below meth c D dA N A G H locs ls hR hS hO hl)
theorem fx_ishl {x z : Int32} (hd : decode y.2.1 pc = .ok (.ishl, 1)) (kk : fv_At y d mc ms Q (pc + 1) lv (.int (x <<< (z &&& 31)) :: st) f al k t) : fv_At y d mc ms Q pc lv (.int z :: .int x :: st) f al k t := by
  intro p l e s m args below meth c D dA N A G H locs ls hR hS hO hl
  obtain ⟨hx, hb, hr, hlk, hml, hown, hts, ⟨hK, hNq⟩, hnm⟩ := id G
  exact lv_ishl hx hb hd (kk p l e s m args below meth c D dA N A G H locs ls hR hS hO hl)
theorem fx_ishr {x z : Int32} (hd : decode y.2.1 pc = .ok (.ishr, 1)) (kk : fv_At y d mc ms Q (pc + 1) lv (.int (x >>> (z &&& 31)) :: st) f al k t) : fv_At y d mc ms Q pc lv (.int z :: .int x :: st) f al k t := by
  intro p l e s m args below meth c D dA N A G H locs ls hR hS hO hl
  obtain ⟨hx, hb, hr, hlk, hml, hown, hts, ⟨hK, hNq⟩, hnm⟩ := id G
  exact lv_ishr hx hb hd (kk p l e s m args below meth c D dA N A G H locs ls hR hS hO hl)
theorem fx_ladd {x z : Int64} (hd : decode y.2.1 pc = .ok (.ladd, 1)) (kk : fv_At y d mc ms Q (pc + 1) lv (.long (x + z) :: st) f al k t) : fv_At y d mc ms Q pc lv (.long z :: .long x :: st) f al k t := by
  intro p l e s m args below meth c D dA N A G H locs ls hR hS hO hl
  obtain ⟨hx, hb, hr, hlk, hml, hown, hts, ⟨hK, hNq⟩, hnm⟩ := id G
  exact lv_ladd hx hb hd (kk p l e s m args below meth c D dA N A G H locs ls hR hS hO hl)
theorem fx_lsub {x z : Int64} (hd : decode y.2.1 pc = .ok (.lsub, 1)) (kk : fv_At y d mc ms Q (pc + 1) lv (.long (x - z) :: st) f al k t) : fv_At y d mc ms Q pc lv (.long z :: .long x :: st) f al k t := by
  intro p l e s m args below meth c D dA N A G H locs ls hR hS hO hl
  obtain ⟨hx, hb, hr, hlk, hml, hown, hts, ⟨hK, hNq⟩, hnm⟩ := id G
  exact lv_lsub hx hb hd (kk p l e s m args below meth c D dA N A G H locs ls hR hS hO hl)
theorem fx_lmul {x z : Int64} (hd : decode y.2.1 pc = .ok (.lmul, 1)) (kk : fv_At y d mc ms Q (pc + 1) lv (.long (x * z) :: st) f al k t) : fv_At y d mc ms Q pc lv (.long z :: .long x :: st) f al k t := by
  intro p l e s m args below meth c D dA N A G H locs ls hR hS hO hl
  obtain ⟨hx, hb, hr, hlk, hml, hown, hts, ⟨hK, hNq⟩, hnm⟩ := id G
  exact lv_lmul hx hb hd (kk p l e s m args below meth c D dA N A G H locs ls hR hS hO hl)
theorem fx_land {x z : Int64} (hd : decode y.2.1 pc = .ok (.land, 1)) (kk : fv_At y d mc ms Q (pc + 1) lv (.long (x &&& z) :: st) f al k t) : fv_At y d mc ms Q pc lv (.long z :: .long x :: st) f al k t := by
  intro p l e s m args below meth c D dA N A G H locs ls hR hS hO hl
  obtain ⟨hx, hb, hr, hlk, hml, hown, hts, ⟨hK, hNq⟩, hnm⟩ := id G
  exact lv_land hx hb hd (kk p l e s m args below meth c D dA N A G H locs ls hR hS hO hl)
theorem fx_lor {x z : Int64} (hd : decode y.2.1 pc = .ok (.lor, 1)) (kk : fv_At y d mc ms Q (pc + 1) lv (.long (x ||| z) :: st) f al k t) : fv_At y d mc ms Q pc lv (.long z :: .long x :: st) f al k t := by
  intro p l e s m args below meth c D dA N A G H locs ls hR hS hO hl
  obtain ⟨hx, hb, hr, hlk, hml, hown, hts, ⟨hK, hNq⟩, hnm⟩ := id G
  exact lv_lor hx hb hd (kk p l e s m args below meth c D dA N A G H locs ls hR hS hO hl)
theorem fx_ldiv {x z : Int64} (hd : decode y.2.1 pc = .ok (.ldiv, 1)) (h0 : ¬ z = 0) (kk : fv_At y d mc ms Q (pc + 1) lv (.long (x / z) :: st) f al k t) : fv_At y d mc ms Q pc lv (.long z :: .long x :: st) f al k t := by
  intro p l e s m args below meth c D dA N A G H locs ls hR hS hO hl
  obtain ⟨hx, hb, hr, hlk, hml, hown, hts, ⟨hK, hNq⟩, hnm⟩ := id G
  exact lv_ldiv hx hb hd h0 (kk p l e s m args below meth c D dA N A G H locs ls hR hS hO hl)
theorem fx_lrem {x z : Int64} (hd : decode y.2.1 pc = .ok (.lrem, 1)) (h0 : ¬ z = 0) (kk : fv_At y d mc ms Q (pc + 1) lv (.long (x - x / z * z) :: st) f al k t) : fv_At y d mc ms Q pc lv (.long z :: .long x :: st) f al k t := by
  intro p l e s m args below meth c D dA N A G H locs ls hR hS hO hl
  obtain ⟨hx, hb, hr, hlk, hml, hown, hts, ⟨hK, hNq⟩, hnm⟩ := id G
  exact lv_lrem hx hb hd h0 (kk p l e s m args below meth c D dA N A G H locs ls hR hS hO hl)
theorem fx_lneg {x : Int64} (hd : decode y.2.1 pc = .ok (.lneg, 1)) (kk : fv_At y d mc ms Q (pc + 1) lv (.long (-x) :: st) f al k t) : fv_At y d mc ms Q pc lv (.long x :: st) f al k t := by
  intro p l e s m args below meth c D dA N A G H locs ls hR hS hO hl
  obtain ⟨hx, hb, hr, hlk, hml, hown, hts, ⟨hK, hNq⟩, hnm⟩ := id G
  exact lv_lneg hx hb hd (kk p l e s m args below meth c D dA N A G H locs ls hR hS hO hl)
theorem fx_lshl {x v : Int64} {z : Int32} (hd : decode y.2.1 pc = .ok (.lshl, 1)) (hv : x <<< (z.toInt64 &&& 63) = v) (kk : fv_At y d mc ms Q (pc + 1) lv (.long v :: st) f al k t) : fv_At y d mc ms Q pc lv (.int z :: .long x :: st) f al k t := by
  intro p l e s m args below meth c D dA N A G H locs ls hR hS hO hl
  obtain ⟨hx, hb, hr, hlk, hml, hown, hts, ⟨hK, hNq⟩, hnm⟩ := id G
  exact lv_lshl hx hb hd hv (kk p l e s m args below meth c D dA N A G H locs ls hR hS hO hl)
theorem fx_lcmp {x z : Int64} (hd : decode y.2.1 pc = .ok (.lcmp, 1)) (kk : fv_At y d mc ms Q (pc + 1) lv (.int (lg_cmp x z) :: st) f al k t) : fv_At y d mc ms Q pc lv (.long z :: .long x :: st) f al k t := by
  intro p l e s m args below meth c D dA N A G H locs ls hR hS hO hl
  obtain ⟨hx, hb, hr, hlk, hml, hown, hts, ⟨hK, hNq⟩, hnm⟩ := id G
  exact W.lcmp hx hb hd (kk p l e s m args below meth c D dA N A G H locs ls hR hS hO hl)
theorem fx_i2l {x : Int32} (hd : decode y.2.1 pc = .ok (.i2l, 1)) (kk : fv_At y d mc ms Q (pc + 1) lv (.long x.toInt64 :: st) f al k t) : fv_At y d mc ms Q pc lv (.int x :: st) f al k t := by
  intro p l e s m args below meth c D dA N A G H locs ls hR hS hO hl
  obtain ⟨hx, hb, hr, hlk, hml, hown, hts, ⟨hK, hNq⟩, hnm⟩ := id G
  exact lv_i2l hx hb hd rfl (kk p l e s m args below meth c D dA N A G H locs ls hR hS hO hl)
theorem fx_l2i {x : Int64} (hd : decode y.2.1 pc = .ok (.l2i, 1)) (kk : fv_At y d mc ms Q (pc + 1) lv (.int x.toInt32 :: st) f al k t) : fv_At y d mc ms Q pc lv (.long x :: st) f al k t := by
  intro p l e s m args below meth c D dA N A G H locs ls hR hS hO hl
  obtain ⟨hx, hb, hr, hlk, hml, hown, hts, ⟨hK, hNq⟩, hnm⟩ := id G
  exact lv_l2i hx hb hd rfl (kk p l e s m args below meth c D dA N A G H locs ls hR hS hO hl)
theorem fx_dup {v : Value} (hd : decode y.2.1 pc = .ok (.dup, 1)) (hc : v.category = 1) (kk : fv_At y d mc ms Q (pc + 1) lv (v :: v :: st) f al k t) : fv_At y d mc ms Q pc lv (v :: st) f al k t := by
  intro p l e s m args below meth c D dA N A G H locs ls hR hS hO hl
  obtain ⟨hx, hb, hr, hlk, hml, hown, hts, ⟨hK, hNq⟩, hnm⟩ := id G
  exact lv_dup hx hb hd (by rw [fv_cat]; exact hc) (kk p l e s m args below meth c D dA N A G H locs ls hR hS hO hl)
theorem fx_dup2 {v w : Value} (hd : decode y.2.1 pc = .ok (.dup2, 1)) (hc : v.category = 1) (hc2 : w.category = 1) (kk : fv_At y d mc ms Q (pc + 1) lv (v :: w :: v :: w :: st) f al k t) : fv_At y d mc ms Q pc lv (v :: w :: st) f al k t := by
  intro p l e s m args below meth c D dA N A G H locs ls hR hS hO hl
  obtain ⟨hx, hb, hr, hlk, hml, hown, hts, ⟨hK, hNq⟩, hnm⟩ := id G
  exact lv_dup2_11 hx hb hd (by rw [fv_cat]; exact hc) (by rw [fv_cat]; exact hc2) (kk p l e s m args below meth c D dA N A G H locs ls hR hS hO hl)
theorem fx_pop {v : Value} (hd : decode y.2.1 pc = .ok (.pop, 1)) (hc : v.category = 1) (kk : fv_At y d mc ms Q (pc + 1) lv (st) f al k t) : fv_At y d mc ms Q pc lv (v :: st) f al k t := by
  intro p l e s m args below meth c D dA N A G H locs ls hR hS hO hl
  obtain ⟨hx, hb, hr, hlk, hml, hown, hts, ⟨hK, hNq⟩, hnm⟩ := id G
  exact lv_pop hx hb hd (by rw [fv_cat]; exact hc) (kk p l e s m args below meth c D dA N A G H locs ls hR hS hO hl)
theorem fx_if_eq {x : Int32} {off : Int} {tgt : Nat} (hd : decode y.2.1 pc = .ok (.ifCond .eq off, 3)) (ht : (pc : Int) + off = (tgt : Int)) (kt : (x = 0) → fv_At y d mc ms Q tgt lv st f al k t) (kf : ¬ (x = 0) → fv_At y d mc ms Q (pc + 3) lv st f al k t) : fv_At y d mc ms Q pc lv (.int x :: st) f al k t := by
  intro p l e s m args below meth c D dA N A G H locs ls hR hS hO hl
  obtain ⟨hx, hb, hr, hlk, hml, hown, hts, ⟨hK, hNq⟩, hnm⟩ := id G
  exact lv_if_eq hx hb hd ht (fun h => kt h p l e s m args below meth c D dA N A G H locs ls hR hS hO hl) (fun h => kf h p l e s m args below meth c D dA N A G H locs ls hR hS hO hl)
theorem fx_icmp_eq {x z : Int32} {off : Int} {tgt : Nat} (hd : decode y.2.1 pc = .ok (.if_icmp .eq off, 3)) (ht : (pc : Int) + off = (tgt : Int)) (kt : (x = z) → fv_At y d mc ms Q tgt lv st f al k t) (kf : ¬ (x = z) → fv_At y d mc ms Q (pc + 3) lv st f al k t) : fv_At y d mc ms Q pc lv (.int z :: .int x :: st) f al k t := by
  intro p l e s m args below meth c D dA N A G H locs ls hR hS hO hl
  obtain ⟨hx, hb, hr, hlk, hml, hown, hts, ⟨hK, hNq⟩, hnm⟩ := id G
  exact lv_icmp_eq hx hb hd ht (fun h => kt h p l e s m args below meth c D dA N A G H locs ls hR hS hO hl) (fun h => kf h p l e s m args below meth c D dA N A G H locs ls hR hS hO hl)
theorem fx_if_ne {x : Int32} {off : Int} {tgt : Nat} (hd : decode y.2.1 pc = .ok (.ifCond .ne off, 3)) (ht : (pc : Int) + off = (tgt : Int)) (kt : (x ≠ 0) → fv_At y d mc ms Q tgt lv st f al k t) (kf : (x = 0) → fv_At y d mc ms Q (pc + 3) lv st f al k t) : fv_At y d mc ms Q pc lv (.int x :: st) f al k t := by
  intro p l e s m args below meth c D dA N A G H locs ls hR hS hO hl
  obtain ⟨hx, hb, hr, hlk, hml, hown, hts, ⟨hK, hNq⟩, hnm⟩ := id G
  exact lv_if_ne hx hb hd ht (fun h => kt h p l e s m args below meth c D dA N A G H locs ls hR hS hO hl) (fun h => kf h p l e s m args below meth c D dA N A G H locs ls hR hS hO hl)
theorem fx_icmp_ne {x z : Int32} {off : Int} {tgt : Nat} (hd : decode y.2.1 pc = .ok (.if_icmp .ne off, 3)) (ht : (pc : Int) + off = (tgt : Int)) (kt : (x ≠ z) → fv_At y d mc ms Q tgt lv st f al k t) (kf : (x = z) → fv_At y d mc ms Q (pc + 3) lv st f al k t) : fv_At y d mc ms Q pc lv (.int z :: .int x :: st) f al k t := by
  intro p l e s m args below meth c D dA N A G H locs ls hR hS hO hl
  obtain ⟨hx, hb, hr, hlk, hml, hown, hts, ⟨hK, hNq⟩, hnm⟩ := id G
  exact lv_icmp_ne hx hb hd ht (fun h => kt h p l e s m args below meth c D dA N A G H locs ls hR hS hO hl) (fun h => kf h p l e s m args below meth c D dA N A G H locs ls hR hS hO hl)
theorem fx_if_lt {x : Int32} {off : Int} {tgt : Nat} (hd : decode y.2.1 pc = .ok (.ifCond .lt off, 3)) (ht : (pc : Int) + off = (tgt : Int)) (kt : (x < 0) → fv_At y d mc ms Q tgt lv st f al k t) (kf : ¬ (x < 0) → fv_At y d mc ms Q (pc + 3) lv st f al k t) : fv_At y d mc ms Q pc lv (.int x :: st) f al k t := by
  intro p l e s m args below meth c D dA N A G H locs ls hR hS hO hl
  obtain ⟨hx, hb, hr, hlk, hml, hown, hts, ⟨hK, hNq⟩, hnm⟩ := id G
  exact lv_if_lt hx hb hd ht (fun h => kt h p l e s m args below meth c D dA N A G H locs ls hR hS hO hl) (fun h => kf h p l e s m args below meth c D dA N A G H locs ls hR hS hO hl)
theorem fx_icmp_lt {x z : Int32} {off : Int} {tgt : Nat} (hd : decode y.2.1 pc = .ok (.if_icmp .lt off, 3)) (ht : (pc : Int) + off = (tgt : Int)) (kt : (x < z) → fv_At y d mc ms Q tgt lv st f al k t) (kf : ¬ (x < z) → fv_At y d mc ms Q (pc + 3) lv st f al k t) : fv_At y d mc ms Q pc lv (.int z :: .int x :: st) f al k t := by
  intro p l e s m args below meth c D dA N A G H locs ls hR hS hO hl
  obtain ⟨hx, hb, hr, hlk, hml, hown, hts, ⟨hK, hNq⟩, hnm⟩ := id G
  exact lv_icmp_lt hx hb hd ht (fun h => kt h p l e s m args below meth c D dA N A G H locs ls hR hS hO hl) (fun h => kf h p l e s m args below meth c D dA N A G H locs ls hR hS hO hl)
theorem fx_if_ge {x : Int32} {off : Int} {tgt : Nat} (hd : decode y.2.1 pc = .ok (.ifCond .ge off, 3)) (ht : (pc : Int) + off = (tgt : Int)) (kt : (0 ≤ x) → fv_At y d mc ms Q tgt lv st f al k t) (kf : ¬ (0 ≤ x) → fv_At y d mc ms Q (pc + 3) lv st f al k t) : fv_At y d mc ms Q pc lv (.int x :: st) f al k t := by
  intro p l e s m args below meth c D dA N A G H locs ls hR hS hO hl
  obtain ⟨hx, hb, hr, hlk, hml, hown, hts, ⟨hK, hNq⟩, hnm⟩ := id G
  exact lv_if_ge hx hb hd ht (fun h => kt h p l e s m args below meth c D dA N A G H locs ls hR hS hO hl) (fun h => kf h p l e s m args below meth c D dA N A G H locs ls hR hS hO hl)
theorem fx_icmp_ge {x z : Int32} {off : Int} {tgt : Nat} (hd : decode y.2.1 pc = .ok (.if_icmp .ge off, 3)) (ht : (pc : Int) + off = (tgt : Int)) (kt : (z ≤ x) → fv_At y d mc ms Q tgt lv st f al k t) (kf : ¬ (z ≤ x) → fv_At y d mc ms Q (pc + 3) lv st f al k t) : fv_At y d mc ms Q pc lv (.int z :: .int x :: st) f al k t := by
  intro p l e s m args below meth c D dA N A G H locs ls hR hS hO hl
  obtain ⟨hx, hb, hr, hlk, hml, hown, hts, ⟨hK, hNq⟩, hnm⟩ := id G
  exact lv_icmp_ge hx hb hd ht (fun h => kt h p l e s m args below meth c D dA N A G H locs ls hR hS hO hl) (fun h => kf h p l e s m args below meth c D dA N A G H locs ls hR hS hO hl)
theorem fx_if_gt {x : Int32} {off : Int} {tgt : Nat} (hd : decode y.2.1 pc = .ok (.ifCond .gt off, 3)) (ht : (pc : Int) + off = (tgt : Int)) (kt : (0 < x) → fv_At y d mc ms Q tgt lv st f al k t) (kf : ¬ (0 < x) → fv_At y d mc ms Q (pc + 3) lv st f al k t) : fv_At y d mc ms Q pc lv (.int x :: st) f al k t := by
  intro p l e s m args below meth c D dA N A G H locs ls hR hS hO hl
  obtain ⟨hx, hb, hr, hlk, hml, hown, hts, ⟨hK, hNq⟩, hnm⟩ := id G
  exact lv_if_gt hx hb hd ht (fun h => kt h p l e s m args below meth c D dA N A G H locs ls hR hS hO hl) (fun h => kf h p l e s m args below meth c D dA N A G H locs ls hR hS hO hl)
theorem fx_icmp_gt {x z : Int32} {off : Int} {tgt : Nat} (hd : decode y.2.1 pc = .ok (.if_icmp .gt off, 3)) (ht : (pc : Int) + off = (tgt : Int)) (kt : (z < x) → fv_At y d mc ms Q tgt lv st f al k t) (kf : ¬ (z < x) → fv_At y d mc ms Q (pc + 3) lv st f al k t) : fv_At y d mc ms Q pc lv (.int z :: .int x :: st) f al k t := by
  intro p l e s m args below meth c D dA N A G H locs ls hR hS hO hl
  obtain ⟨hx, hb, hr, hlk, hml, hown, hts, ⟨hK, hNq⟩, hnm⟩ := id G
  exact lv_icmp_gt hx hb hd ht (fun h => kt h p l e s m args below meth c D dA N A G H locs ls hR hS hO hl) (fun h => kf h p l e s m args below meth c D dA N A G H locs ls hR hS hO hl)
theorem fx_if_le {x : Int32} {off : Int} {tgt : Nat} (hd : decode y.2.1 pc = .ok (.ifCond .le off, 3)) (ht : (pc : Int) + off = (tgt : Int)) (kt : (x ≤ 0) → fv_At y d mc ms Q tgt lv st f al k t) (kf : ¬ (x ≤ 0) → fv_At y d mc ms Q (pc + 3) lv st f al k t) : fv_At y d mc ms Q pc lv (.int x :: st) f al k t := by
  intro p l e s m args below meth c D dA N A G H locs ls hR hS hO hl
  obtain ⟨hx, hb, hr, hlk, hml, hown, hts, ⟨hK, hNq⟩, hnm⟩ := id G
  exact lv_if_le hx hb hd ht (fun h => kt h p l e s m args below meth c D dA N A G H locs ls hR hS hO hl) (fun h => kf h p l e s m args below meth c D dA N A G H locs ls hR hS hO hl)
theorem fx_icmp_le {x z : Int32} {off : Int} {tgt : Nat} (hd : decode y.2.1 pc = .ok (.if_icmp .le off, 3)) (ht : (pc : Int) + off = (tgt : Int)) (kt : (x ≤ z) → fv_At y d mc ms Q tgt lv st f al k t) (kf : ¬ (x ≤ z) → fv_At y d mc ms Q (pc + 3) lv st f al k t) : fv_At y d mc ms Q pc lv (.int z :: .int x :: st) f al k t := by
  intro p l e s m args below meth c D dA N A G H locs ls hR hS hO hl
  obtain ⟨hx, hb, hr, hlk, hml, hown, hts, ⟨hK, hNq⟩, hnm⟩ := id G
  exact lv_icmp_le hx hb hd ht (fun h => kt h p l e s m args below meth c D dA N A G H locs ls hR hS hO hl) (fun h => kf h p l e s m args below meth c D dA N A G H locs ls hR hS hO hl)
theorem fx_goto {off : Int} {tgt : Nat} (hd : decode y.2.1 pc = .ok (.goto off, 3)) (ht : (pc : Int) + off = (tgt : Int)) (kk : fv_At y d mc ms Q tgt lv st f al k t) : fv_At y d mc ms Q pc lv st f al k t := by
  intro p l e s m args below meth c D dA N A G H locs ls hR hS hO hl
  obtain ⟨hx, hb, hr, hlk, hml, hown, hts, ⟨hK, hNq⟩, hnm⟩ := id G
  exact lv_goto hx hb hd ht (kk p l e s m args below meth c D dA N A G H locs ls hR hS hO hl)
theorem fx_tableIn {dflt lo hi : Int} {offs : Array Int} {len : Nat} {x : Int32} {off : Int} {tgt : Nat} (hd : decode y.2.1 pc = .ok (.tableswitch dflt lo hi offs, len)) (h1 : ¬ x.toInt < lo) (h2 : ¬ hi < x.toInt) (ho : offs[(x.toInt - lo).toNat]? = some off) (ht : (pc : Int) + off = (tgt : Int)) (kk : fv_At y d mc ms Q tgt lv st f al k t) : fv_At y d mc ms Q pc lv (.int x :: st) f al k t := by
  intro p l e s m args below meth c D dA N A G H locs ls hR hS hO hl
  obtain ⟨hx, hb, hr, hlk, hml, hown, hts, ⟨hK, hNq⟩, hnm⟩ := id G
  exact lv_tableIn hx hb hd h1 h2 ho ht (kk p l e s m args below meth c D dA N A G H locs ls hR hS hO hl)
theorem fx_tableOut {dflt lo hi : Int} {offs : Array Int} {len : Nat} {x : Int32} {tgt : Nat} (hd : decode y.2.1 pc = .ok (.tableswitch dflt lo hi offs, len)) (h : x.toInt < lo ∨ hi < x.toInt) (ht : (pc : Int) + dflt = (tgt : Int)) (kk : fv_At y d mc ms Q tgt lv st f al k t) : fv_At y d mc ms Q pc lv (.int x :: st) f al k t := by
  intro p l e s m args below meth c D dA N A G H locs ls hR hS hO hl
  obtain ⟨hx, hb, hr, hlk, hml, hown, hts, ⟨hK, hNq⟩, hnm⟩ := id G
  exact lv_tableOut hx hb hd h ht (kk p l e s m args below meth c D dA N A G H locs ls hR hS hO hl)
end FVR
end
section
/-! ===== rows that read and write cells ===== -/
/-- a class of which there are objects: its place among fv_cl, name, fields, types -/
def fv_cls (ci : Nat) (C : String) (T : u_T) (n : Nat) (ty0 : Nat → FieldType) : Prop := fv_cl[ci]? = some (C, T, n) ∧ (∀ w ∈ u_ws C T n, w ∈ fv_tbl) ∧ (∀ k, k < n → parseFieldDescriptor (T k).2.2.1 = some (ty0 k)) ∧ ∀ a, a < n → ∀ b, b < n → a ≠ b → (T a).2.1 ≠ (T b).2.1
theorem fv_c0 : fv_cls 0 RX0 TX0 3 tyX0 := ⟨rfl, iX0, tyX0_ok, nmX0⟩
theorem fv_c1 : fv_cls 1 RX2 TX2 8 tyX2 := ⟨rfl, iX2, tyX2_ok, nmX2⟩
theorem fv_c2 : fv_cls 2 RX4 TX4 5 tyX4 := ⟨rfl, iX4, tyX4_ok, nmX4⟩
theorem fv_c3 : fv_cls 3 RX5 TX5 2 tyX5 := ⟨rfl, iX5, tyX5_ok, nmX5⟩
theorem fv_c4 : fv_cls 4 RX7 TX7 4 tyX7 := ⟨rfl, iX7, tyX7_ok, nmX7⟩
theorem fv_c5 : fv_cls 5 RX8 TX8 5 tyX8 := ⟨rfl, iX8, tyX8_ok, nmX8⟩
theorem fv_c6 : fv_cls 6 RX9 TX9 3 tyX9 := ⟨rfl, iX9, tyX9_ok, nmX9⟩
theorem fv_c7 : fv_cls 7 RX10 TX10 4 tyX10 := ⟨rfl, iX10, tyX10_ok, nmX10⟩
theorem fv_c8 : fv_cls 8 RX11 TX11 38 tyX11 := ⟨rfl, iX11, tyX11_ok, nmX11⟩
/-- a field as a class's pool names it: entry idx of own is field k, final or not, of type ty, of class ci -/
def fv_fd (own : String) (idx ci k : Nat) (fin : Bool) (ty : FieldType) : Prop := ∃ (C : String) (T : u_T) (n : Nat) (ty0 : Nat → FieldType), fv_cls ci C T n ty0 ∧ k < n ∧ Cond.fieldLink own idx (T k).1 (T k).2.1 (T k).2.2.1 ∈ fv_tbl ∧ (T k).2.2.2 = fin ∧ ty0 k = ty ∧ (fin = true → (T k).1 = own)
theorem fv_R1 {D : va_G} {dA : Nat → ClassId} {N : Nat} {A : Nat → Prop} {f : fv_F} {H : Heap} {i : Nat} {c : fv_C} (hR : fv_R D dA N A f H) (h : f i = some c) : va_P D fv_cl [(N + i, fv_e N dA c)] H := by
  intro k q hk
  match k, hk with
  | 0, hk => cases hk; exact (hR i c h).2
  | k + 1, hk => simp at hk
theorem fv_Rset {D : va_G} {dA : Nat → ClassId} {N : Nat} {A : Nat → Prop} {f : fv_F} {H H1 : Heap} {i : Nat} {c c' : fv_C} (hR : fv_R D dA N A f H) (h : f i = some c) (h1 : va_at D fv_cl (N + i, fv_e N dA c') H1) (oq : ∀ q : Nat, q ≠ N + i → H1[q]? = H[q]?) : fv_R D dA N A (fv_set f i c') H1 := by
  intro j b hj
  by_cases e : j = i
  · subst e
    rw [fv_set_self] at hj
    cases hj
    exact ⟨(hR j c h).1, h1⟩
  · rw [fv_set_ne f c' e] at hj
    obtain ⟨g1, g2⟩ := hR j b hj
    exact ⟨g1, g2.kept (oq (N + j) (by omega))⟩
theorem fv_Oset {N : Nat} {A : Nat → Prop} {al : Option Nat} {H H1 : Heap} (hO : fv_O N A al H) (z : H1.size = H.size) : fv_O N A al H1 := fun n h => ⟨by rw [z]; exact (hO n h).1, (hO n h).2⟩
theorem fv_rfr (N : Nat) (g : Nat → Option Nat) (j : Nat) : va_rf (fv_r N g j) = fv_v N (va_rf (g j)) := by
  unfold fv_r
  cases g j <;> rfl
theorem fv_Op {N : Nat} {A : Nat → Prop} {al : Option Nat} {H : Heap} (hO : fv_O N A al H) : ∀ n, al = some n → H.size = N + n := fun n h => (hO n h).1
section FVH
variable {y : fv_Y} {d mc ms : Nat} {Q : Option Value → fv_F → Option Nat → Prop} {pc : Nat} {lv : fv_L} {st : List Value} {f : fv_F} {al : Option Nat} {k t : Nat}
theorem fx_getf {a idx ci j : Nat} {fin : Bool} {ty : FieldType} {fs : List Value} {v : Value} (hd : decode y.2.1 pc = .ok (.getfield idx, 3)) (hp : fv_fd y.1.cls idx ci j fin ty) (hf : f a = some (.inr (ci, fs))) (hv : fs[j]? = some v) (kk : fv_At y d mc ms Q (pc + 3) lv (v :: st) f al k t) : fv_At y d mc ms Q pc lv (.ref a :: st) f al k t := by
  intro p l e s m args below meth c D dA N A G H locs ls hR hS hO hl
  obtain ⟨hx, hb, hr, hlk, hml, hown, hts, ⟨hK, hNq⟩, hnm⟩ := id G
  obtain ⟨C, T, n, ty0, ⟨hc, hin, -, -⟩, hk, hlink, -, -⟩ := hp
  exact va_get hx hb hts hin hown hK (fv_R1 hR hf) 0 rfl hc j hk (hts _ hlink) (fun _ h => h) (v := fv_v N v) (by rw [List.getElem?_map, hv]; rfl) hd (kk p l e s m args below meth c D dA N A G H locs ls hR hS hO hl)
theorem fx_putf {a idx ci j : Nat} {ty : FieldType} {fs : List Value} {v : Value} (hd : decode y.2.1 pc = .ok (.putfield idx, 3)) (hp : fv_fd y.1.cls idx ci j false ty) (hf : f a = some (.inr (ci, fs))) (hn : ∀ N, narrow ty (fv_v N v) = fv_v N v) (hfit : ∀ N, fits ty (fv_v N v) = true) (hj : j < fs.length)
    (kk : fv_At y d mc ms Q (pc + 3) lv st (fv_set f a (.inr (ci, fs.set j v))) al k t) : fv_At y d mc ms Q pc lv (v :: .ref a :: st) f al k t := by
  intro p l e s m args below meth c D dA N A G H locs ls hR hS hO hl
  obtain ⟨hx, hb, hr, hlk, hml, hown, hts, ⟨hK, hNq⟩, hnm⟩ := id G
  obtain ⟨C, T, n, ty0, ⟨hc, hin, hty, hnam⟩, hk, hlink, hfin, hty1, -⟩ := hp
  have hap := va_apart (own := y.1.cls) hts hin ty0 hty hnam hK hc
  obtain ⟨hA, r, h1, cell, q1, q2, q3, q4⟩ := hR a _ hf
  have hr2 : r = (C, T, n) := Option.some.inj (h1.symm.trans hc)
  subst hr2
  obtain ⟨hSl, hfc, kC, hkC, hkind⟩ := hK.1 ci _ hc
  obtain ⟨cf, kf, fi, fd, hi, hsl⟩ := hSl j hk
  have hlay := hts _ (hin _ (u_in_lay hk))
  unfold u_lay at hlay
  rw [if_neg (by rw [hfin]; decide)] at hlay
  have hst := (u_facts hfc hkC (u_lays hts hin hk) hi).1
  have h6 := u_store (v := fv_v N v) hfc hkC hkind hlay hi ((hty j hk).trans (by rw [hty1])) (hn N) (hfit N)
  refine W.putK hx hb (f := fd) ⟨hown, hts _ hlink, ⟨_, _, _, hi⟩, hst⟩ (by rw [q2]; exact h6) q1 q3 (by rw [hsl]; exact k2_hasslot (q4 j hk)) rfl rfl hd fun H' e1 e2 e3 => ?_
  rw [hsl] at e1 ⊢
  refine kk p l e s m args below meth c D dA N A G H' _ ls (fv_Rset hR hf ⟨_, hc, t_OB.to (V := updV (vp_V (fs.map (fv_v N))) j (fv_v N v)) ⟨_, e1, q2, q3, t_set q4 hap hk (fv_v N v)⟩ (fun i _ => ?_)⟩ e3) (hS.put e2 e3 hA) (fv_Oset hO e2) hl
  rw [vp_updV_set (by rw [List.length_map]; exact hj)]
  show vp_V ((fs.map (fv_v N)).set j (fv_v N v)) i = vp_V ((fs.set j v).map (fv_v N)) i
  rw [List.map_set]
theorem fx_iald {a n : Nat} {g : Nat → Int32} {i : Int32} (j : Nat) (hd : decode y.2.1 pc = .ok (.iaload, 1)) (hf : f a = some (.inl (0, n, .inl g))) (hi : i = nI j) (hj : j < n) (hn : n < 2 ^ 31) (kk : fv_At y d mc ms Q (pc + 1) lv (.int (g j) :: st) f al k t) : fv_At y d mc ms Q pc lv (.int i :: .ref a :: st) f al k t := by
  intro p l e s m args below meth c D dA N A G H locs ls hR hS hO hl
  obtain ⟨hx, hb, hr, hlk, hml, hown, hts, ⟨hK, hNq⟩, hnm⟩ := id G
  subst hi
  refine va_iald (n := n) (f := g) hx hb hK (fv_R1 hR hf) 0 0 rfl rfl (vp_in_nI hj hn) hd ?_
  rw [nI_clamp (by omega)]
  exact kk p l e s m args below meth c D dA N A G H locs ls hR hS hO hl
theorem fx_zald {a n : Nat} {g : Nat → Int32} {i : Int32} (j : Nat) (hd : decode y.2.1 pc = .ok (.baload, 1)) (hf : f a = some (.inl (2, n, .inl g))) (hi : i = nI j) (hj : j < n) (hn : n < 2 ^ 31) (kk : fv_At y d mc ms Q (pc + 1) lv (.int (g j) :: st) f al k t) : fv_At y d mc ms Q pc lv (.int i :: .ref a :: st) f al k t := by
  intro p l e s m args below meth c D dA N A G H locs ls hR hS hO hl
  obtain ⟨hx, hb, hr, hlk, hml, hown, hts, ⟨hK, hNq⟩, hnm⟩ := id G
  subst hi
  refine va_zald (n := n) (f := g) hx hb hK (fv_R1 hR hf) 0 2 rfl rfl (vp_in_nI hj hn) hd ?_
  rw [nI_clamp (by omega)]
  exact kk p l e s m args below meth c D dA N A G H locs ls hR hS hO hl
theorem fx_lald {a n : Nat} {g : Nat → Int64} {i : Int32} (j : Nat) (hd : decode y.2.1 pc = .ok (.laload, 1)) (hf : f a = some (.inl (1, n, .inr (.inl g)))) (hi : i = nI j) (hj : j < n) (hn : n < 2 ^ 31) (kk : fv_At y d mc ms Q (pc + 1) lv (.long (g j) :: st) f al k t) : fv_At y d mc ms Q pc lv (.int i :: .ref a :: st) f al k t := by
  intro p l e s m args below meth c D dA N A G H locs ls hR hS hO hl
  obtain ⟨hx, hb, hr, hlk, hml, hown, hts, ⟨hK, hNq⟩, hnm⟩ := id G
  subst hi
  refine va_lald (n := n) (f := g) hx hb hK (fv_R1 hR hf) 0 1 rfl rfl (vp_in_nI hj hn) hd ?_
  rw [nI_clamp (by omega)]
  exact kk p l e s m args below meth c D dA N A G H locs ls hR hS hO hl
theorem fx_aald {a n ta : Nat} {g : Nat → Option Nat} {i : Int32} (j : Nat) (hd : decode y.2.1 pc = .ok (.aaload, 1)) (hf : f a = some (.inl (ta, n, .inr (.inr (.inr (.inr g)))))) (hta : ta = 3 ∨ ta = 4 ∨ ta = 5) (hi : i = nI j) (hj : j < n) (hn : n < 2 ^ 31) (kk : fv_At y d mc ms Q (pc + 1) lv (va_rf (g j) :: st) f al k t) : fv_At y d mc ms Q pc lv (.int i :: .ref a :: st) f al k t := by
  intro p l e s m args below meth c D dA N A G H locs ls hR hS hO hl
  obtain ⟨hx, hb, hr, hlk, hml, hown, hts, ⟨hK, hNq⟩, hnm⟩ := id G
  subst hi
  obtain ⟨ty, ht, hty⟩ : ∃ ty, (fv_tys dA)[ta]? = some (dA ta, ty) ∧ ty.isReference = true := by
    rcases hta with h | h | h <;> subst h <;> exact ⟨_, rfl, rfl⟩
  have hin := vp_in_nI hj hn
  refine W.aald (v := va_rf (fv_r N g j)) (ty := ty) hx hb (fv_R1 hR hf 0 _ rfl) ((hK.2 ta _ ht).1 n (fun j => va_rf (fv_r N g j))) hty (fun q => by cases q) (by show ¬ (_ < (0 : Int32) ∨ (arrV _ _ _).slots.size ≤ _); rw [arrV_size]; exact hin) (by show (arrV _ _ _).slots[_]? = _; rw [nI_clamp (by omega)]; exact arrV_read _ _ hj) rfl rfl hd ?_
  rw [fv_rfr]
  exact kk p l e s m args below meth c D dA N A G H locs ls hR hS hO hl
theorem fx_alen {a ta : Nat} {b : vp_A} {v : Int32} (hd : decode y.2.1 pc = .ok (.arraylength, 1)) (hf : f a = some (.inl (ta, b))) (hta : ta < 6) (hv : Int32.ofNat b.1 = v) (kk : fv_At y d mc ms Q (pc + 1) lv (.int v :: st) f al k t) : fv_At y d mc ms Q pc lv (.ref a :: st) f al k t := by
  intro p l e s m args below meth c D dA N A G H locs ls hR hS hO hl
  obtain ⟨hx, hb, hr, hlk, hml, hown, hts, ⟨hK, hNq⟩, hnm⟩ := id G
  obtain ⟨ty, ht⟩ : ∃ ty, (fv_tys dA)[ta]? = some (dA ta, ty) := by
    rcases (show ta = 0 ∨ ta = 1 ∨ ta = 2 ∨ ta = 3 ∨ ta = 4 ∨ ta = 5 by omega) with h | h | h | h | h | h <;> subst h <;> exact ⟨_, rfl⟩
  have hb1 : (fv_a N b).1 = b.1 := by
    obtain ⟨n, g | g | g | g | g⟩ := b <;> rfl
  exact va_alen hx hb hK (fv_R1 hR hf) 0 ta rfl ht (by rw [hb1]; exact hv) hd (kk p l e s m args below meth c D dA N A G H locs ls hR hS hO hl)
end FVH
end
section
/-! ===== rows that write arrays, call and return ===== -/
section FVS
variable {y : fv_Y} {d mc ms : Nat} {Q : Option Value → fv_F → Option Nat → Prop} {pc : Nat} {lv : fv_L} {st : List Value} {f : fv_F} {al : Option Nat} {k t : Nat}
theorem fx_iast {a n : Nat} {g : Nat → Int32} {i : Int32} {x : Int32} (j : Nat) (hd : decode y.2.1 pc = .ok (.iastore, 1)) (hf : f a = some (.inl (0, n, .inl g))) (hi : i = nI j) (hj : j < n) (hn : n < 2 ^ 31) (kk : fv_At y d mc ms Q (pc + 1) lv st (fv_set f a (.inl (0, n, .inl (upd g j x)))) al k t) : fv_At y d mc ms Q pc lv (.int x :: .int i :: .ref a :: st) f al k t := by
  intro p l e s m args below meth c D dA N A G H locs ls hR hS hO hl
  obtain ⟨hx, hb, hr, hlk, hml, hown, hts, ⟨hK, hNq⟩, hnm⟩ := id G
  subst hi
  have hin := vp_in_nI hj hn
  obtain ⟨hA, h1⟩ := hR a _ hf
  refine W.iast hx hb h1 ((hK.2 0 _ rfl).1 n (fun j => .int (g j))) (fun q => by cases q) (by show ¬ (_ < (0 : Int32) ∨ (arrV _ _ _).slots.size ≤ _); rw [arrV_size]; exact hin) rfl rfl hd fun H1 e1 e2 e3 => ?_
  refine kk p l e s m args below meth c D dA N A G H1 _ ls (fv_Rset hR hf ?_ e3) (hS.put e2 e3 hA) (fv_Oset hO e2) hl
  rw [nI_clamp (by omega)] at e1
  show H1[N + a]? = some (vp_cell _ _)
  rw [e1]
  congr 1
  refine (arrV_store _ _ _ _ _).trans ?_
  show arrV (dA 0) n (updV (fun j => .int (g j)) j (.int x)) = arrV (dA 0) n (fun q => .int (upd g j x q))
  congr 1
  funext q
  by_cases hq : q = j
  · subst hq
    simp [updV, upd]
    try rfl
  · simp [updV, upd, hq]
theorem fx_zast {a n : Nat} {g : Nat → Int32} {i : Int32} {x : Int32} (j : Nat) (hd : decode y.2.1 pc = .ok (.bastore, 1)) (hf : f a = some (.inl (2, n, .inl g))) (hi : i = nI j) (hj : j < n) (hn : n < 2 ^ 31) (kk : fv_At y d mc ms Q (pc + 1) lv st (fv_set f a (.inl (2, n, .inl (upd g j (vp_nar .boolean x))))) al k t) : fv_At y d mc ms Q pc lv (.int x :: .int i :: .ref a :: st) f al k t := by
  intro p l e s m args below meth c D dA N A G H locs ls hR hS hO hl
  obtain ⟨hx, hb, hr, hlk, hml, hown, hts, ⟨hK, hNq⟩, hnm⟩ := id G
  subst hi
  have hin := vp_in_nI hj hn
  obtain ⟨hA, h1⟩ := hR a _ hf
  refine W.zast hx hb h1 ((hK.2 2 _ rfl).1 n (fun j => .int (g j))) (fun q => by cases q) (by show ¬ (_ < (0 : Int32) ∨ (arrV _ _ _).slots.size ≤ _); rw [arrV_size]; exact hin) rfl rfl hd fun H1 e1 e2 e3 => ?_
  refine kk p l e s m args below meth c D dA N A G H1 _ ls (fv_Rset hR hf ?_ e3) (hS.put e2 e3 hA) (fv_Oset hO e2) hl
  rw [nI_clamp (by omega)] at e1
  show H1[N + a]? = some (vp_cell _ _)
  rw [e1]
  congr 1
  refine (arrV_store _ _ _ _ _).trans ?_
  show arrV (dA 2) n (updV (fun j => .int (g j)) j (narrow .boolean (.int x))) = arrV (dA 2) n (fun q => .int (upd g j (vp_nar .boolean x) q))
  congr 1
  funext q
  by_cases hq : q = j
  · subst hq
    simp [updV, upd, vp_nar]
    try rfl
  · simp [updV, upd, hq]
theorem fx_last {a n : Nat} {g : Nat → Int64} {i : Int32} {x : Int64} (j : Nat) (hd : decode y.2.1 pc = .ok (.lastore, 1)) (hf : f a = some (.inl (1, n, .inr (.inl g)))) (hi : i = nI j) (hj : j < n) (hn : n < 2 ^ 31) (kk : fv_At y d mc ms Q (pc + 1) lv st (fv_set f a (.inl (1, n, .inr (.inl (vp_updL g j x))))) al k t) : fv_At y d mc ms Q pc lv (.long x :: .int i :: .ref a :: st) f al k t := by
  intro p l e s m args below meth c D dA N A G H locs ls hR hS hO hl
  obtain ⟨hx, hb, hr, hlk, hml, hown, hts, ⟨hK, hNq⟩, hnm⟩ := id G
  subst hi
  have hin := vp_in_nI hj hn
  obtain ⟨hA, h1⟩ := hR a _ hf
  refine W.last hx hb h1 ((hK.2 1 _ rfl).1 n (fun j => .long (g j))) (fun q => by cases q) (by show ¬ (_ < (0 : Int32) ∨ (arrV _ _ _).slots.size ≤ _); rw [arrV_size]; exact hin) rfl rfl hd fun H1 e1 e2 e3 => ?_
  refine kk p l e s m args below meth c D dA N A G H1 _ ls (fv_Rset hR hf ?_ e3) (hS.put e2 e3 hA) (fv_Oset hO e2) hl
  rw [nI_clamp (by omega)] at e1
  show H1[N + a]? = some (vp_cell _ _)
  rw [e1]
  congr 1
  refine (arrV_store _ _ _ _ _).trans ?_
  show arrV (dA 1) n (updV (fun j => .long (g j)) j (.long x)) = arrV (dA 1) n (fun q => .long (vp_updL g j x q))
  congr 1
  funext q
  by_cases hq : q = j
  · subst hq
    simp [updV, vp_updL]
    try rfl
  · simp [updV, vp_updL, hq]
/-- the end of a method: its answer, its cells -/
theorem fv_done {p : Program} {l : Launch} {e : Env} {s : State} {m : MethodId} {args : Array Value} {meth : Method} {c : Code} {D : va_G} {dA : Nat → ClassId} {N : Nat} {A : Nat → Prop} {H : Heap} {locs : List Loc} {r : Option Value} (hR : fv_R D dA N A f H) (hS : va_S A s.heap H locs) (hO : fv_O N A al H) (hq : Q r f al) : ∀ t : State, t.heap = H → s.WarmedH t.vm → fv_Qc D dA N A Q args s (.returned (r.map (fv_v N))) t := by
  intro t ht _
  refine ⟨r, f, al, rfl, hq, by rw [ht]; exact hR, ?_, ?_⟩
  · rw [ht]; exact hO
  · exact ⟨by rw [ht]; exact hS.1, fun q h1 h2 => by rw [ht]; exact hS.2.1 q h1 h2⟩
theorem fx_iret {x : Int32} (hd : decode y.2.1 pc = .ok (.ireturn, 1)) (hr : y.2.2.2 = some .int) (hk : k = mc) (ht : t = ms) (hq : Q (some (.int x)) f al) : fv_At y d mc ms Q pc lv [.int x] f al k t := by
  intro p l e s m args below meth c D dA N A G H locs ls hR hS hO hl
  obtain ⟨hx, hb, hret, hlk, hml, hown, hts, ⟨hK, hNq⟩, hnm⟩ := id G
  subst hk; subst ht
  exact W.zret hx hb (hret.trans hr) rfl (fv_done (p := p) (l := l) (e := e) (m := m) (meth := meth) (c := c) hR hS hO hq) hS.2.2 hd hlk
theorem fx_zret {x : Int32} (hd : decode y.2.1 pc = .ok (.ireturn, 1)) (hr : y.2.2.2 = some .boolean) (hx01 : x = 0 ∨ x = 1) (hk : k = mc) (ht : t = ms) (hq : Q (some (.int x)) f al) : fv_At y d mc ms Q pc lv [.int x] f al k t := by
  intro p l e s m args below meth c D dA N A G H locs ls hR hS hO hl
  obtain ⟨hx, hb, hret, hlk, hml, hown, hts, ⟨hK, hNq⟩, hnm⟩ := id G
  subst hk; subst ht
  exact W.zret hx hb (hret.trans hr) (by rcases hx01 with h | h <;> subst h <;> rfl) (fv_done (p := p) (l := l) (e := e) (m := m) (meth := meth) (c := c) hR hS hO hq) hS.2.2 hd hlk
theorem fx_lret {x : Int64} (hd : decode y.2.1 pc = .ok (.lreturn, 1)) (hr : y.2.2.2 = some .long) (hk : k = mc) (ht : t = ms) (hq : Q (some (.long x)) f al) : fv_At y d mc ms Q pc lv [.long x] f al k t := by
  intro p l e s m args below meth c D dA N A G H locs ls hR hS hO hl
  obtain ⟨hx, hb, hret, hlk, hml, hown, hts, ⟨hK, hNq⟩, hnm⟩ := id G
  subst hk; subst ht
  exact W.lret hx hb (hret.trans hr) (fv_done (p := p) (l := l) (e := e) (m := m) (meth := meth) (c := c) hR hS hO hq) hS.2.2 hd hlk
theorem fx_aret {a : Nat} {C : String} (hd : decode y.2.1 pc = .ok (.areturn, 1)) (hr : y.2.2.2 = some (.object C)) (hk : k = mc) (ht : t = ms) (hq : Q (some (.ref a)) f al) : fv_At y d mc ms Q pc lv [.ref a] f al k t := by
  intro p l e s m args below meth c D dA N A G H locs ls hR hS hO hl
  obtain ⟨hx, hb, hret, hlk, hml, hown, hts, ⟨hK, hNq⟩, hnm⟩ := id G
  subst hk; subst ht
  exact W.aret hx hb (hret.trans hr) (Or.inl ⟨C, rfl⟩) (Or.inr ⟨_, rfl⟩) (fv_done (p := p) (l := l) (e := e) (m := m) (meth := meth) (c := c) (r := some (.ref a)) hR hS hO hq) hS.2.2 hd hlk
theorem fx_vret (hd : decode y.2.1 pc = .ok (.return_, 1)) (hr : y.2.2.2 = none) (hk : k = mc) (ht : t = ms) (hq : Q none f al) : fv_At y d mc ms Q pc lv [] f al k t := by
  intro p l e s m args below meth c D dA N A G H locs ls hR hS hO hl
  obtain ⟨hx, hb, hret, hlk, hml, hown, hts, ⟨hK, hNq⟩, hnm⟩ := id G
  subst hk; subst ht
  exact W.vret hx hb (hret.trans hr) (fv_done (p := p) (l := l) (e := e) (m := m) (meth := meth) (c := c) (r := none) hR hS hO hq) hS.2.2 hd hlk
/-- a method as a class's pool names it: its entry, its words -/
def fv_mt (own : String) (idx : Nat) (y2 : fv_Y) (n : Nat) : Prop := Cond.methodLink own idx y2.1 ∈ fv_tbl ∧ Cond.initialized y2.1.cls ∈ fv_tbl ∧ Cond.code y2.1 y2.2.1 y2.2.2.1 y2.2.2.2 ∈ fv_tbl ∧ (y2.1.cls ≠ "java/lang/invoke/MethodHandle" ∧ y2.1.cls ≠ "java/lang/invoke/VarHandle" ∧ (parseMethodDescriptor y2.1.desc).map (fun d => d.parameters.length) = some n) ∧ y2.2.2.1 ≤ 40
def fv_mS (own : String) (idx : Nat) (y2 : fv_Y) (n : Nat) : Prop := fv_mt own idx y2 n ∧ Cond.static y2.1 ∈ fv_tbl
def fv_mV (own : String) (idx : Nat) (y2 : fv_Y) (n : Nat) : Prop := fv_mt own idx y2 n ∧ Cond.instanceMethod y2.1 ∈ fv_tbl ∧ Cond.selects y2.1.cls y2.1 y2.1 ∈ fv_tbl
def fv_mI (own : String) (idx : Nat) (y2 : fv_Y) (n : Nat) : Prop := fv_mt own idx y2 n ∧ Cond.instanceMethod y2.1 ∈ fv_tbl ∧ y2.1.name = "<init>" ∧ y2.2.2.2 = none
theorem fv_wsG {y2 : fv_Y} (h : Cond.code y2.1 y2.2.1 y2.2.2.1 y2.2.2.2 ∈ fv_tbl) : GoodIn fv_tbl (fv_ws y2) := by
  intro w hw
  rcases List.mem_cons.mp hw with rfl | hw
  · exact ⟨h, good_of_word (fv_good _ h)⟩
  · exact ⟨hw, good_of_word (fv_good _ hw)⟩
theorem fv_blind {D : va_G} {dA : Nat → ClassId} {N : Nat} {A : Nat → Prop} {as : List Value} : FrameBlind (fv_Pc D dA N A as f al) := by
  intro a U g mk q
  obtain ⟨q1, q2, q3, q4⟩ := q
  exact ⟨q1, q2, ⟨va_K.moved (u := U) (U := U.calling g mk a) (Vm.Alike.refl U.vm) q3.1, fun z h => va_Nw.same rfl rfl (q3.2 z h)⟩, q4⟩
theorem fv_catS (N : Nat) (vs : List Value) : ((vs.map (fv_v N)).map fun v => v.category).sum = (vs.map fun v => v.category).sum := by
  rw [List.map_map]
  congr 1
  apply List.map_congr_left
  intro v _
  exact fv_cat N v
/-- behind a call -/
theorem fv_behind {p : Program} {l : Launch} {e : Env} {s : State} {m : MethodId} {args : Array Value} {below : List Frame} {meth : Method} {c : Code} {D : va_G} {dA : Nat → ClassId} {N : Nat} {A : Nat → Prop} {H : Heap} {locs : List Loc} {ls : Array Slot} {a : Array Value} {Q2 : Option Value → fv_F → Option Nat → Prop} {mc2 ms2 : Nat} {rest : List Value}
    (G : fv_G y p s m args meth c D dA) (hr : va_Run p l e (fv_rm d mc ms) s m args below meth c H locs k t mc2 ms2 (F0 m pc ls st) (rest.map (fv_v N)) (fv_Qc D dA N A Q2 a) A) (hS : va_S A s.heap H locs) (hl : lv_has ls y.2.2.1 (lv.map (fv_cN N)))
    (kk : ∀ (r : Option Value) (f2 : fv_F) (al2 : Option Nat), Q2 r f2 al2 → fv_At y d mc ms Q (pc + 3) lv (r.toList ++ rest) f2 al2 (k + mc2) (t + ms2)) :
    W p l e (fv_rm d mc ms) s m args below meth c H locs k t (MQ below (fv_Qc D dA N A Q) args s mc ms A) (F0 m pc ls st) := by
  intro T hT X
  obtain ⟨v, st₀, t', T', L, h0, X', hL, e1, e2, ⟨r, f2, al2, hv, hq, hR2, hO2, hz, hk⟩, stp⟩ := hr T hT X
  cases hv
  rw [h0] at hz hk
  rw [← e1] at hR2 hO2 hz hk
  have hS2 : va_S A s.heap T'.heap (locs ++ L) := ⟨Nat.le_trans hS.1 hz, fun q h1 h2 => by rw [hk q (Nat.lt_of_lt_of_le h1 hS.1) h2]; exact hS.2.1 q h1 h2, fun q hq => by
    rcases List.mem_append.mp hq with h | h
    · exact hS.2.2 q h
    · exact hL q h⟩
  obtain ⟨t2, a1, b1⟩ := kk r f2 al2 hq p l e s m args below meth c D dA N A G T'.heap (locs ++ L) ls hR2 hS2 hO2 hl T' rfl X'
  refine ⟨t2, stp t2 ?_, b1⟩
  have e3 : (r.map (fv_v N)).toList ++ rest.map (fv_v N) = (r.toList ++ rest).map (fv_v N) := by
    cases r <;> rfl
  show Steps p.tables e below (T'.setTop { F0 m pc ls st with pc := pc + 3, stack := (r.map (fv_v N)).toList ++ rest.map (fv_v N) }) t2
  rw [e3]
  exact a1
theorem fx_callS {idx : Nat} {y2 : fv_Y} {n d2 mc2 ms2 : Nat} {as rest : List Value} {Q2 : Option Value → fv_F → Option Nat → Prop} (hd : decode y.2.1 pc = .ok (.invokestatic idx, 3)) (hp : fv_mS y.1.cls idx y2 n) (hM : fv_M y2 d2 mc2 ms2 as f al Q2) (hst : st = as.reverse ++ rest) (hn : as.length = n) (hdep : d2 < d) (hcat : (rest.map fun v => v.category).sum ≤ 8) (hmc : k + mc2 ≤ mc) (hms : t + ms2 ≤ ms)
    (kk : ∀ (r : Option Value) (f2 : fv_F) (al2 : Option Nat), Q2 r f2 al2 → fv_At y d mc ms Q (pc + 3) lv (r.toList ++ rest) f2 al2 (k + mc2) (t + ms2)) : fv_At y d mc ms Q pc lv st f al k t := by
  intro p l e s m args below meth c D dA N A G H locs ls hR hS hO hl
  obtain ⟨hx, hb, hret, hlk, hml, hown, hts, ⟨hK, hNq⟩, hnm⟩ := id G
  obtain ⟨⟨h1, h2, h3, h4, h5⟩, h6⟩ := hp
  subst hst
  have hs : (as.reverse ++ rest).map (fv_v N) = (as.map (fv_v N)).reverse ++ rest.map (fv_v N) := by rw [List.map_append, List.map_reverse]
  rw [hs]
  have cw := callB_of (R := fv_rm d mc ms) (rm := fv_rm d2 mc2 ms2) n hts (fv_wsG h3) rfl rfl rfl (hts _ h2) (hts _ h1) h4 ⟨hdep, by show 8 + (_ + 11) + 64 * d2 ≤ 64 * d; omega⟩
  exact fv_behind G (va_runS (As := as.map (fv_v N)) ⟨hx, hb, hml, hown, hts⟩ (hM l D dA N A) ⟨cw, hts _ h6⟩ ⟨fv_blind, fun U hU hW => ⟨rfl, by rw [hU]; exact hR, fv_Kw hW ⟨hK, hNq⟩, by rw [hU]; exact hO⟩⟩ rfl (by rw [List.length_map]; exact hn) hl.1 rfl (lv_room (by rw [fv_catS]; exact hcat)) hd ⟨hmc, hms⟩) hS hl kk
theorem fx_callV {idx : Nat} {y2 : fv_Y} {n d2 mc2 ms2 b ci : Nat} {C : String} {T : u_T} {nf : Nat} {ty0 : Nat → FieldType} {fs : List Value} {as rest : List Value} {Q2 : Option Value → fv_F → Option Nat → Prop} (hd : decode y.2.1 pc = .ok (.invokevirtual idx, 3)) (hp : fv_mV y.1.cls idx y2 n) (hc : fv_cls ci C T nf ty0) (hC : y2.1.cls = C) (hf : f b = some (.inr (ci, fs))) (hM : fv_M y2 d2 mc2 ms2 (.ref b :: as) f al Q2) (hst : st = as.reverse ++ .ref b :: rest) (hn : as.length = n) (hdep : d2 < d) (hcat : (rest.map fun v => v.category).sum ≤ 8) (hmc : k + mc2 ≤ mc) (hms : t + ms2 ≤ ms)
    (kk : ∀ (r : Option Value) (f2 : fv_F) (al2 : Option Nat), Q2 r f2 al2 → fv_At y d mc ms Q (pc + 3) lv (r.toList ++ rest) f2 al2 (k + mc2) (t + ms2)) : fv_At y d mc ms Q pc lv st f al k t := by
  intro p l e s m args below meth c D dA N A G H locs ls hR hS hO hl
  obtain ⟨hx, hb, hret, hlk, hml, hown, hts, ⟨hK, hNq⟩, hnm⟩ := id G
  obtain ⟨⟨h1, h2, h3, h4, h5⟩, h6, h7⟩ := hp
  subst hst
  subst hC
  have hs : (as.reverse ++ .ref b :: rest).map (fv_v N) = (as.map (fv_v N)).reverse ++ .ref (N + b) :: rest.map (fv_v N) := by rw [List.map_append, List.map_reverse]; rfl
  rw [hs]
  have cw := callB_of (R := fv_rm d mc ms) (rm := fv_rm d2 mc2 ms2) n hts (fv_wsG h3) rfl rfl rfl (hts _ h2) (hts _ h1) h4 ⟨hdep, by show 8 + (_ + 11) + 64 * d2 ≤ 64 * d; omega⟩
  exact fv_behind G (va_runV (As := as.map (fv_v N)) (b := N + b) ⟨hx, hb, hml, hown, hts⟩ (hM l D dA N A) ⟨cw, hts _ h6, hts _ h7⟩ ⟨fv_blind, va_recv hK (fv_R1 hR hf) hc.1 (q0 := 0) rfl, fun U hU hW => ⟨rfl, by rw [hU]; exact hR, fv_Kw hW ⟨hK, hNq⟩, by rw [hU]; exact hO⟩⟩ rfl (by rw [List.length_map]; exact hn) hl.1 rfl (lv_room (by rw [fv_catS]; exact hcat)) hd ⟨hmc, hms⟩) hS hl kk
theorem fx_callI {idx : Nat} {y2 : fv_Y} {n d2 mc2 ms2 b : Nat} {as rest : List Value} {Q2 : Option Value → fv_F → Option Nat → Prop} (hd : decode y.2.1 pc = .ok (.invokespecial idx, 3)) (hp : fv_mI y.1.cls idx y2 n) (hM : fv_M y2 d2 mc2 ms2 (.ref b :: as) f al Q2) (hst : st = as.reverse ++ .ref b :: rest) (hn : as.length = n) (hdep : d2 < d) (hcat : (rest.map fun v => v.category).sum ≤ 8) (hmc : k + mc2 ≤ mc) (hms : t + ms2 ≤ ms)
    (kk : ∀ (r : Option Value) (f2 : fv_F) (al2 : Option Nat), Q2 r f2 al2 → fv_At y d mc ms Q (pc + 3) lv (r.toList ++ rest) f2 al2 (k + mc2) (t + ms2)) : fv_At y d mc ms Q pc lv st f al k t := by
  intro p l e s m args below meth c D dA N A G H locs ls hR hS hO hl
  obtain ⟨hx, hb, hret, hlk, hml, hown, hts, ⟨hK, hNq⟩, hnm⟩ := id G
  obtain ⟨⟨h1, h2, h3, h4, h5⟩, h6, h7, h8⟩ := hp
  subst hst
  have hs : (as.reverse ++ .ref b :: rest).map (fv_v N) = (as.map (fv_v N)).reverse ++ .ref (N + b) :: rest.map (fv_v N) := by rw [List.map_append, List.map_reverse]; rfl
  rw [hs]
  have cw := callB_of (R := fv_rm d mc ms) (rm := fv_rm d2 mc2 ms2) n hts (fv_wsG h3) rfl rfl rfl (hts _ h2) (hts _ h1) h4 ⟨hdep, by show 8 + (_ + 11) + 64 * d2 ≤ 64 * d; omega⟩
  rw [h8] at cw
  exact fv_behind G (va_runI (As := as.map (fv_v N)) (b := N + b) ⟨hx, hb, hml, hown, hts⟩ (hM l D dA N A) ⟨cw, h7, hts _ h6⟩ ⟨fv_blind, fun U hU hW => ⟨rfl, by rw [hU]; exact hR, fv_Kw hW ⟨hK, hNq⟩, by rw [hU]; exact hO⟩⟩ rfl (by rw [List.length_map]; exact hn) hl.1 rfl (lv_room (by rw [fv_catS]; exact hcat)) hd ⟨hmc, hms⟩) hS hl kk
/-- the same for private methods of nest mates -/
def fv_mtN (own : String) (idx : Nat) (y2 : fv_Y) (n : Nat) : Prop := (own, idx, y2.1) ∈ fv_nq ∧ Cond.initialized y2.1.cls ∈ fv_tbl ∧ Cond.code y2.1 y2.2.1 y2.2.2.1 y2.2.2.2 ∈ fv_tbl ∧ (y2.1.cls ≠ "java/lang/invoke/MethodHandle" ∧ y2.1.cls ≠ "java/lang/invoke/VarHandle" ∧ (parseMethodDescriptor y2.1.desc).map (fun d => d.parameters.length) = some n) ∧ y2.2.2.1 ≤ 40
def fv_mSN (own : String) (idx : Nat) (y2 : fv_Y) (n : Nat) : Prop := fv_mtN own idx y2 n ∧ Cond.static y2.1 ∈ fv_tbl
def fv_mIN (own : String) (idx : Nat) (y2 : fv_Y) (n : Nat) : Prop := fv_mtN own idx y2 n ∧ Cond.instanceMethod y2.1 ∈ fv_tbl ∧ y2.1.name = "<init>" ∧ y2.2.2.2 = none
theorem fv_CN {s : State} {args : Array Value} {own : String} {idx : Nat} {y2 : fv_Y} {n d2 mc2 ms2 : Nat} (hts : ∀ w ∈ fv_tbl, w.before args s = true) (hNq : ∀ q ∈ fv_nq, va_Nw (.methodLinkNest q.1 q.2.1 q.2.2 "MeetHouse") s) (h : fv_mtN own idx y2 n) (hdep : d2 < d) : va_CN (fv_rm d mc ms) s args own idx y2.1 "MeetHouse" y2.2.1 y2.2.2.1 y2.2.2.2 (fv_ws y2) (fv_rm d2 mc2 ms2) mc2 ms2 n := by
  obtain ⟨h1, h2, h3, h4, h5⟩ := h
  refine ⟨⟨rfl, rfl, hdep, ?_, pay_in hts (fv_wsG h3), List.mem_cons_self⟩, hts _ h3, hts _ h2, ⟨h4.1, h4.2.1⟩, fun sig hs => ?_, va_Nw.use rfl (hNq _ h1)⟩
  · show 8 + (_ + 11) + 64 * d2 ≤ 64 * d
    omega
  · have h2 := h4.2.2
    rw [hs] at h2
    exact (Option.some.inj h2).symm
theorem fx_callSN {idx : Nat} {y2 : fv_Y} {n d2 mc2 ms2 : Nat} {as rest : List Value} {Q2 : Option Value → fv_F → Option Nat → Prop} (hd : decode y.2.1 pc = .ok (.invokestatic idx, 3)) (hp : fv_mSN y.1.cls idx y2 n) (hM : fv_M y2 d2 mc2 ms2 as f al Q2) (hst : st = as.reverse ++ rest) (hn : as.length = n) (hdep : d2 < d) (hcat : (rest.map fun v => v.category).sum ≤ 8) (hmc : k + mc2 ≤ mc) (hms : t + ms2 ≤ ms)
    (kk : ∀ (r : Option Value) (f2 : fv_F) (al2 : Option Nat), Q2 r f2 al2 → fv_At y d mc ms Q (pc + 3) lv (r.toList ++ rest) f2 al2 (k + mc2) (t + ms2)) : fv_At y d mc ms Q pc lv st f al k t := by
  intro p l e s m args below meth c D dA N A G H locs ls hR hS hO hl
  obtain ⟨hx, hb, hret, hlk, hml, hown, hts, ⟨hK, hNq⟩, hnm⟩ := id G
  subst hst
  have hs : (as.reverse ++ rest).map (fv_v N) = (as.map (fv_v N)).reverse ++ rest.map (fv_v N) := by rw [List.map_append, List.map_reverse]
  rw [hs]
  exact fv_behind G (va_runSN (As := as.map (fv_v N)) ⟨hx, hb, hml, hown, hts⟩ (hM l D dA N A) ⟨fv_CN hts hNq hp.1 hdep, hts _ hp.2, trivial⟩ ⟨fv_blind, fun U hU hW => ⟨rfl, by rw [hU]; exact hR, fv_Kw hW ⟨hK, hNq⟩, by rw [hU]; exact hO⟩⟩ rfl (by rw [List.length_map]; exact hn) hl.1 rfl (lv_room (by rw [fv_catS]; exact hcat)) hd ⟨hmc, hms⟩) hS hl kk
theorem fx_callIN {idx : Nat} {y2 : fv_Y} {n d2 mc2 ms2 b : Nat} {as rest : List Value} {Q2 : Option Value → fv_F → Option Nat → Prop} (hd : decode y.2.1 pc = .ok (.invokespecial idx, 3)) (hp : fv_mIN y.1.cls idx y2 n) (hM : fv_M y2 d2 mc2 ms2 (.ref b :: as) f al Q2) (hst : st = as.reverse ++ .ref b :: rest) (hn : as.length = n) (hdep : d2 < d) (hcat : (rest.map fun v => v.category).sum ≤ 8) (hmc : k + mc2 ≤ mc) (hms : t + ms2 ≤ ms)
    (kk : ∀ (r : Option Value) (f2 : fv_F) (al2 : Option Nat), Q2 r f2 al2 → fv_At y d mc ms Q (pc + 3) lv (r.toList ++ rest) f2 al2 (k + mc2) (t + ms2)) : fv_At y d mc ms Q pc lv st f al k t := by
  intro p l e s m args below meth c D dA N A G H locs ls hR hS hO hl
  obtain ⟨hx, hb, hret, hlk, hml, hown, hts, ⟨hK, hNq⟩, hnm⟩ := id G
  obtain ⟨h1, h6, h7, h8⟩ := hp
  subst hst
  have hs : (as.reverse ++ .ref b :: rest).map (fv_v N) = (as.map (fv_v N)).reverse ++ .ref (N + b) :: rest.map (fv_v N) := by rw [List.map_append, List.map_reverse]; rfl
  rw [hs]
  have cw := fv_CN (mc := mc) (ms := ms) (mc2 := mc2) (ms2 := ms2) hts hNq h1 hdep
  rw [h8] at cw
  exact fv_behind G (va_runIN (As := as.map (fv_v N)) (b := N + b) ⟨hx, hb, hml, hown, hts⟩ (hM l D dA N A) ⟨cw, h7, hts _ h6⟩ ⟨fv_blind, fun U hU hW => ⟨rfl, by rw [hU]; exact hR, fv_Kw hW ⟨hK, hNq⟩, by rw [hU]; exact hO⟩⟩ rfl (by rw [List.length_map]; exact hn) hl.1 rfl (lv_room (by rw [fv_catS]; exact hcat)) hd ⟨hmc, hms⟩) hS hl kk
theorem fv_slen (vs : List Value) : (lg_sl vs).length = (vs.map fun v => v.category).sum := by
  induction vs with
  | nil => rfl
  | cons v r ih =>
    have h : lg_sl (v :: r) = (if v.category = 2 then [Slot.val v, .second] else [.val v]) ++ lg_sl r := rfl
    rw [h, List.length_append, ih, List.map_cons, List.sum_cons]
    rcases lv_cat v with e | e <;> rw [e] <;> rfl
theorem fv_argsN (N : Nat) (vs : List Value) : ∀ i, lv_args i (vs.map (fv_v N)) = (lv_args i vs).map (fv_cN N) := by
  induction vs with
  | nil => intro i; rfl
  | cons v r ih =>
    intro i
    simp only [List.map_cons, lv_args, fv_cat, ih, fv_cN]
theorem fv_enter {as : List Value} (hy : plainName y.1.cls = true) (hl : (as.map fun v => v.category).sum ≤ y.2.2.1) (kk : fv_At y d mc ms Q 0 (lv_args 0 as) [] f al 0 0) : fv_M y d mc ms as f al Q := by
  intro l D dA N A
  refine Met.ofW (cc := y.2.1) (maxL := y.2.2.1) (ret := y.2.2.2) hy rfl ?_
  intro p e s m args below meth c s₁ B hml hv
  obtain ⟨rfl, hR, hK, hO⟩ := hv
  have hts := atoms_spec (ws := fv_ws y) B.pre
  have hown : s.vm.findClass y.1.cls = some m.cls := findClass_of_methodNamed B.named
  rw [lg_entry_eq]
  have hl2 := lv_entry (as.map (fv_v N)) (n := y.2.2.1) (by rw [fv_slen, fv_catS]; exact hl)
  rw [fv_argsN] at hl2
  exact kk p l e s m _ below meth c D dA N A ⟨B.exec, B.bytes, B.returns, B.notSynchronized, hml, hown, fun w hw => hts w (List.mem_cons_of_mem _ hw), hK, (name_of_methodNamed B.named B.method).1⟩ s.heap [] _ hR va_S.rf hO hl2
/-- a call that answers one thing and makes no cell -/
def fv_eq (r : Option Value) (f : fv_F) : Option Value → fv_F → Option Nat → Prop := fun r2 f2 al2 => r2 = r ∧ f2 = f ∧ al2 = none
end FVS
end
