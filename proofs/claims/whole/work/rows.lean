section
-- ===== PART A: goes FIRST, ahead of the names: the tables' words, and 'selects' of the private methods out of them =====
/-- a private method of a class that the tables say can be made, by its rows of tables_1 -/
def lw_okq (q : MethodName × Nat) : Prop := (q.1.cls ≠ "java/lang/invoke/MethodHandle" ∧ q.1.cls ≠ "java/lang/invoke/VarHandle") ∧ Cond.instantiable q.1.cls q.2 ∈ tables_1 ∧ Cond.privateMethod q.1 ∈ tables_1 ∧ Cond.instanceMethod q.1 ∈ tables_1
theorem lw_p0 : lw_okq (⟨"MeetHouse", "isLost", "(I)Z"⟩, 4) := ⟨⟨by decide +kernel, by decide +kernel⟩, List.mem_of_getElem? (i := 15) (by decide +kernel), List.mem_of_getElem? (i := 256) (by decide +kernel), List.mem_of_getElem? (i := 257) (by decide +kernel)⟩
theorem lw_p1 : lw_okq (⟨"MeetHouse$Pot", "takeOut", "(I)V"⟩, 5) := ⟨⟨by decide +kernel, by decide +kernel⟩, List.mem_of_getElem? (i := 31) (by decide +kernel), List.mem_of_getElem? (i := 314) (by decide +kernel), List.mem_of_getElem? (i := 315) (by decide +kernel)⟩
theorem lw_p2 : lw_okq (⟨"MeetHouse$Algebra", "pourDifference", "(LMeetHouse$Polynomial;II)V"⟩, 3) := ⟨⟨by decide +kernel, by decide +kernel⟩, List.mem_of_getElem? (i := 25) (by decide +kernel), List.mem_of_getElem? (i := 408) (by decide +kernel), List.mem_of_getElem? (i := 409) (by decide +kernel)⟩
theorem lw_p3 : lw_okq (⟨"MeetHouse$Algebra", "partOfLeft", "(II)J"⟩, 3) := ⟨⟨by decide +kernel, by decide +kernel⟩, List.mem_of_getElem? (i := 25) (by decide +kernel), List.mem_of_getElem? (i := 443) (by decide +kernel), List.mem_of_getElem? (i := 444) (by decide +kernel)⟩
theorem lw_p4 : lw_okq (⟨"MeetHouse$Conditions", "putOn", "(II)V"⟩, 8) := ⟨⟨by decide +kernel, by decide +kernel⟩, List.mem_of_getElem? (i := 88) (by decide +kernel), List.mem_of_getElem? (i := 559) (by decide +kernel), List.mem_of_getElem? (i := 560) (by decide +kernel)⟩
theorem lw_p5 : lw_okq (⟨"MeetHouse$Line", "normalize", "(I)Z"⟩, 2) := ⟨⟨by decide +kernel, by decide +kernel⟩, List.mem_of_getElem? (i := 150) (by decide +kernel), List.mem_of_getElem? (i := 608) (by decide +kernel), List.mem_of_getElem? (i := 609) (by decide +kernel)⟩
theorem lw_p6 : lw_okq (⟨"MeetHouse$Space", "linesFrom", "(III)I"⟩, 3) := ⟨⟨by decide +kernel, by decide +kernel⟩, List.mem_of_getElem? (i := 143) (by decide +kernel), List.mem_of_getElem? (i := 662) (by decide +kernel), List.mem_of_getElem? (i := 663) (by decide +kernel)⟩
theorem lw_p7 : lw_okq (⟨"MeetHouse$Space", "pointFrom", "(III)I"⟩, 3) := ⟨⟨by decide +kernel, by decide +kernel⟩, List.mem_of_getElem? (i := 143) (by decide +kernel), List.mem_of_getElem? (i := 666) (by decide +kernel), List.mem_of_getElem? (i := 667) (by decide +kernel)⟩
theorem lw_p8 : lw_okq (⟨"MeetHouse$Space", "crossesAll", "(I)Z"⟩, 3) := ⟨⟨by decide +kernel, by decide +kernel⟩, List.mem_of_getElem? (i := 143) (by decide +kernel), List.mem_of_getElem? (i := 670) (by decide +kernel), List.mem_of_getElem? (i := 671) (by decide +kernel)⟩
theorem lw_p9 : lw_okq (⟨"MeetHouse$Space", "isOnOne", "(II)Z"⟩, 3) := ⟨⟨by decide +kernel, by decide +kernel⟩, List.mem_of_getElem? (i := 143) (by decide +kernel), List.mem_of_getElem? (i := 682) (by decide +kernel), List.mem_of_getElem? (i := 683) (by decide +kernel)⟩
theorem lw_p10 : lw_okq (⟨"MeetHouse$Line", "pair", "(II)I"⟩, 2) := ⟨⟨by decide +kernel, by decide +kernel⟩, List.mem_of_getElem? (i := 150) (by decide +kernel), List.mem_of_getElem? (i := 690) (by decide +kernel), List.mem_of_getElem? (i := 691) (by decide +kernel)⟩
theorem lw_p11 : lw_okq (⟨"MeetHouse", "keptSheets", "()I"⟩, 4) := ⟨⟨by decide +kernel, by decide +kernel⟩, List.mem_of_getElem? (i := 15) (by decide +kernel), List.mem_of_getElem? (i := 698) (by decide +kernel), List.mem_of_getElem? (i := 699) (by decide +kernel)⟩
theorem lw_p12 : lw_okq (⟨"MeetHouseModel", "lookAtPoints", "()V"⟩, 38) := ⟨⟨by decide +kernel, by decide +kernel⟩, List.mem_of_getElem? (i := 731) (by decide +kernel), List.mem_of_getElem? (i := 738) (by decide +kernel), List.mem_of_getElem? (i := 739) (by decide +kernel)⟩
theorem lw_p13 : lw_okq (⟨"MeetHouseModel", "mixed", "(IIII)I"⟩, 38) := ⟨⟨by decide +kernel, by decide +kernel⟩, List.mem_of_getElem? (i := 731) (by decide +kernel), List.mem_of_getElem? (i := 742) (by decide +kernel), List.mem_of_getElem? (i := 743) (by decide +kernel)⟩
theorem lw_p14 : lw_okq (⟨"MeetHouseModel", "reads", "(I)Z"⟩, 38) := ⟨⟨by decide +kernel, by decide +kernel⟩, List.mem_of_getElem? (i := 731) (by decide +kernel), List.mem_of_getElem? (i := 865) (by decide +kernel), List.mem_of_getElem? (i := 866) (by decide +kernel)⟩
theorem lw_p15 : lw_okq (⟨"MeetHouseModel", "lengthNow", "()I"⟩, 38) := ⟨⟨by decide +kernel, by decide +kernel⟩, List.mem_of_getElem? (i := 731) (by decide +kernel), List.mem_of_getElem? (i := 873) (by decide +kernel), List.mem_of_getElem? (i := 874) (by decide +kernel)⟩
def lw_privs_1 : List (MethodName × Nat) := [(⟨"MeetHouse", "isLost", "(I)Z"⟩, 4), (⟨"MeetHouse$Pot", "takeOut", "(I)V"⟩, 5), (⟨"MeetHouse$Algebra", "pourDifference", "(LMeetHouse$Polynomial;II)V"⟩, 3), (⟨"MeetHouse$Algebra", "partOfLeft", "(II)J"⟩, 3), (⟨"MeetHouse$Conditions", "putOn", "(II)V"⟩, 8), (⟨"MeetHouse$Line", "normalize", "(I)Z"⟩, 2), (⟨"MeetHouse$Space", "linesFrom", "(III)I"⟩, 3), (⟨"MeetHouse$Space", "pointFrom", "(III)I"⟩, 3), (⟨"MeetHouse$Space", "crossesAll", "(I)Z"⟩, 3), (⟨"MeetHouse$Space", "isOnOne", "(II)Z"⟩, 3), (⟨"MeetHouse$Line", "pair", "(II)I"⟩, 2), (⟨"MeetHouse", "keptSheets", "()I"⟩, 4), (⟨"MeetHouseModel", "lookAtPoints", "()V"⟩, 38), (⟨"MeetHouseModel", "mixed", "(IIII)I"⟩, 38), (⟨"MeetHouseModel", "reads", "(I)Z"⟩, 38), (⟨"MeetHouseModel", "lengthNow", "()I"⟩, 38)]
theorem lw_r1 : ∀ q ∈ lw_privs_1, lw_okq q := List.forall_mem_cons.mpr ⟨lw_p0, List.forall_mem_cons.mpr ⟨lw_p1, List.forall_mem_cons.mpr ⟨lw_p2, List.forall_mem_cons.mpr ⟨lw_p3, List.forall_mem_cons.mpr ⟨lw_p4, List.forall_mem_cons.mpr ⟨lw_p5, List.forall_mem_cons.mpr ⟨lw_p6, List.forall_mem_cons.mpr ⟨lw_p7, List.forall_mem_cons.mpr ⟨lw_p8, List.forall_mem_cons.mpr ⟨lw_p9, List.forall_mem_cons.mpr ⟨lw_p10, List.forall_mem_cons.mpr ⟨lw_p11, List.forall_mem_cons.mpr ⟨lw_p12, List.forall_mem_cons.mpr ⟨lw_p13, List.forall_mem_cons.mpr ⟨lw_p14, List.forall_mem_cons.mpr ⟨lw_p15, fun _ h => absurd h List.not_mem_nil⟩⟩⟩⟩⟩⟩⟩⟩⟩⟩⟩⟩⟩⟩⟩⟩
theorem lw_p16 : lw_okq (⟨"MeetHouseModel", "change", "(II)V"⟩, 38) := ⟨⟨by decide +kernel, by decide +kernel⟩, List.mem_of_getElem? (i := 731) (by decide +kernel), List.mem_of_getElem? (i := 881) (by decide +kernel), List.mem_of_getElem? (i := 882) (by decide +kernel)⟩
theorem lw_p17 : lw_okq (⟨"MeetHouseModel", "told", "()I"⟩, 38) := ⟨⟨by decide +kernel, by decide +kernel⟩, List.mem_of_getElem? (i := 731) (by decide +kernel), List.mem_of_getElem? (i := 885) (by decide +kernel), List.mem_of_getElem? (i := 886) (by decide +kernel)⟩
theorem lw_p18 : lw_okq (⟨"MeetHouseModel", "wipe", "()V"⟩, 38) := ⟨⟨by decide +kernel, by decide +kernel⟩, List.mem_of_getElem? (i := 731) (by decide +kernel), List.mem_of_getElem? (i := 924) (by decide +kernel), List.mem_of_getElem? (i := 925) (by decide +kernel)⟩
theorem lw_p19 : lw_okq (⟨"MeetHouseModel", "takes", "(IJ)V"⟩, 38) := ⟨⟨by decide +kernel, by decide +kernel⟩, List.mem_of_getElem? (i := 731) (by decide +kernel), List.mem_of_getElem? (i := 928) (by decide +kernel), List.mem_of_getElem? (i := 929) (by decide +kernel)⟩
theorem lw_p20 : lw_okq (⟨"MeetHouseModel", "lays", "(I)I"⟩, 38) := ⟨⟨by decide +kernel, by decide +kernel⟩, List.mem_of_getElem? (i := 731) (by decide +kernel), List.mem_of_getElem? (i := 932) (by decide +kernel), List.mem_of_getElem? (i := 933) (by decide +kernel)⟩
theorem lw_p21 : lw_okq (⟨"MeetHouseModel", "tooMuch", "()I"⟩, 38) := ⟨⟨by decide +kernel, by decide +kernel⟩, List.mem_of_getElem? (i := 731) (by decide +kernel), List.mem_of_getElem? (i := 936) (by decide +kernel), List.mem_of_getElem? (i := 937) (by decide +kernel)⟩
theorem lw_p22 : lw_okq (⟨"MeetHouseModel", "highest", "(II)I"⟩, 38) := ⟨⟨by decide +kernel, by decide +kernel⟩, List.mem_of_getElem? (i := 731) (by decide +kernel), List.mem_of_getElem? (i := 970) (by decide +kernel), List.mem_of_getElem? (i := 971) (by decide +kernel)⟩
theorem lw_p23 : lw_okq (⟨"MeetHouseModel", "differ", "(I)V"⟩, 38) := ⟨⟨by decide +kernel, by decide +kernel⟩, List.mem_of_getElem? (i := 731) (by decide +kernel), List.mem_of_getElem? (i := 986) (by decide +kernel), List.mem_of_getElem? (i := 987) (by decide +kernel)⟩
theorem lw_p24 : lw_okq (⟨"MeetHouseModel", "makes", "(I)V"⟩, 38) := ⟨⟨by decide +kernel, by decide +kernel⟩, List.mem_of_getElem? (i := 731) (by decide +kernel), List.mem_of_getElem? (i := 994) (by decide +kernel), List.mem_of_getElem? (i := 995) (by decide +kernel)⟩
theorem lw_p25 : lw_okq (⟨"MeetHouseModel", "parts", "(IZ)J"⟩, 38) := ⟨⟨by decide +kernel, by decide +kernel⟩, List.mem_of_getElem? (i := 731) (by decide +kernel), List.mem_of_getElem? (i := 1002) (by decide +kernel), List.mem_of_getElem? (i := 1003) (by decide +kernel)⟩
theorem lw_p26 : lw_okq (⟨"MeetHouseModel", "fills", "(I)I"⟩, 38) := ⟨⟨by decide +kernel, by decide +kernel⟩, List.mem_of_getElem? (i := 731) (by decide +kernel), List.mem_of_getElem? (i := 1035) (by decide +kernel), List.mem_of_getElem? (i := 1036) (by decide +kernel)⟩
theorem lw_p27 : lw_okq (⟨"MeetHouseModel", "mayStand", "(III)Z"⟩, 38) := ⟨⟨by decide +kernel, by decide +kernel⟩, List.mem_of_getElem? (i := 731) (by decide +kernel), List.mem_of_getElem? (i := 1039) (by decide +kernel), List.mem_of_getElem? (i := 1040) (by decide +kernel)⟩
theorem lw_p28 : lw_okq (⟨"MeetHouseModel", "drops", "()V"⟩, 38) := ⟨⟨by decide +kernel, by decide +kernel⟩, List.mem_of_getElem? (i := 731) (by decide +kernel), List.mem_of_getElem? (i := 1063) (by decide +kernel), List.mem_of_getElem? (i := 1064) (by decide +kernel)⟩
theorem lw_p29 : lw_okq (⟨"MeetHouseModel", "pointOf", "(I)I"⟩, 38) := ⟨⟨by decide +kernel, by decide +kernel⟩, List.mem_of_getElem? (i := 731) (by decide +kernel), List.mem_of_getElem? (i := 1072) (by decide +kernel), List.mem_of_getElem? (i := 1073) (by decide +kernel)⟩
theorem lw_p30 : lw_okq (⟨"MeetHouseModel", "evened", "(I)I"⟩, 38) := ⟨⟨by decide +kernel, by decide +kernel⟩, List.mem_of_getElem? (i := 731) (by decide +kernel), List.mem_of_getElem? (i := 1077) (by decide +kernel), List.mem_of_getElem? (i := 1078) (by decide +kernel)⟩
theorem lw_p31 : lw_okq (⟨"MeetHouseModel", "wipeMarks", "([Z)V"⟩, 38) := ⟨⟨by decide +kernel, by decide +kernel⟩, List.mem_of_getElem? (i := 731) (by decide +kernel), List.mem_of_getElem? (i := 1089) (by decide +kernel), List.mem_of_getElem? (i := 1090) (by decide +kernel)⟩
def lw_privs_2 : List (MethodName × Nat) := [(⟨"MeetHouseModel", "change", "(II)V"⟩, 38), (⟨"MeetHouseModel", "told", "()I"⟩, 38), (⟨"MeetHouseModel", "wipe", "()V"⟩, 38), (⟨"MeetHouseModel", "takes", "(IJ)V"⟩, 38), (⟨"MeetHouseModel", "lays", "(I)I"⟩, 38), (⟨"MeetHouseModel", "tooMuch", "()I"⟩, 38), (⟨"MeetHouseModel", "highest", "(II)I"⟩, 38), (⟨"MeetHouseModel", "differ", "(I)V"⟩, 38), (⟨"MeetHouseModel", "makes", "(I)V"⟩, 38), (⟨"MeetHouseModel", "parts", "(IZ)J"⟩, 38), (⟨"MeetHouseModel", "fills", "(I)I"⟩, 38), (⟨"MeetHouseModel", "mayStand", "(III)Z"⟩, 38), (⟨"MeetHouseModel", "drops", "()V"⟩, 38), (⟨"MeetHouseModel", "pointOf", "(I)I"⟩, 38), (⟨"MeetHouseModel", "evened", "(I)I"⟩, 38), (⟨"MeetHouseModel", "wipeMarks", "([Z)V"⟩, 38)]
theorem lw_r2 : ∀ q ∈ lw_privs_2, lw_okq q := List.forall_mem_cons.mpr ⟨lw_p16, List.forall_mem_cons.mpr ⟨lw_p17, List.forall_mem_cons.mpr ⟨lw_p18, List.forall_mem_cons.mpr ⟨lw_p19, List.forall_mem_cons.mpr ⟨lw_p20, List.forall_mem_cons.mpr ⟨lw_p21, List.forall_mem_cons.mpr ⟨lw_p22, List.forall_mem_cons.mpr ⟨lw_p23, List.forall_mem_cons.mpr ⟨lw_p24, List.forall_mem_cons.mpr ⟨lw_p25, List.forall_mem_cons.mpr ⟨lw_p26, List.forall_mem_cons.mpr ⟨lw_p27, List.forall_mem_cons.mpr ⟨lw_p28, List.forall_mem_cons.mpr ⟨lw_p29, List.forall_mem_cons.mpr ⟨lw_p30, List.forall_mem_cons.mpr ⟨lw_p31, fun _ h => absurd h List.not_mem_nil⟩⟩⟩⟩⟩⟩⟩⟩⟩⟩⟩⟩⟩⟩⟩⟩
theorem lw_p32 : lw_okq (⟨"MeetHouseModel", "marks", "([ZII)I"⟩, 38) := ⟨⟨by decide +kernel, by decide +kernel⟩, List.mem_of_getElem? (i := 731) (by decide +kernel), List.mem_of_getElem? (i := 1093) (by decide +kernel), List.mem_of_getElem? (i := 1094) (by decide +kernel)⟩
theorem lw_p33 : lw_okq (⟨"MeetHouseModel", "onLine", "(III)I"⟩, 38) := ⟨⟨by decide +kernel, by decide +kernel⟩, List.mem_of_getElem? (i := 731) (by decide +kernel), List.mem_of_getElem? (i := 1097) (by decide +kernel), List.mem_of_getElem? (i := 1098) (by decide +kernel)⟩
theorem lw_p34 : lw_okq (⟨"MeetHouseModel", "areThere", "(I)Z"⟩, 38) := ⟨⟨by decide +kernel, by decide +kernel⟩, List.mem_of_getElem? (i := 731) (by decide +kernel), List.mem_of_getElem? (i := 1106) (by decide +kernel), List.mem_of_getElem? (i := 1107) (by decide +kernel)⟩
theorem lw_p35 : lw_okq (⟨"MeetHouseModel", "lookAtRods", "(I)V"⟩, 38) := ⟨⟨by decide +kernel, by decide +kernel⟩, List.mem_of_getElem? (i := 731) (by decide +kernel), List.mem_of_getElem? (i := 1110) (by decide +kernel), List.mem_of_getElem? (i := 1111) (by decide +kernel)⟩
theorem lw_p36 : lw_okq (⟨"MeetHouseModel", "areLeast", "(II)Z"⟩, 38) := ⟨⟨by decide +kernel, by decide +kernel⟩, List.mem_of_getElem? (i := 731) (by decide +kernel), List.mem_of_getElem? (i := 1114) (by decide +kernel), List.mem_of_getElem? (i := 1115) (by decide +kernel)⟩
def lw_privs_3 : List (MethodName × Nat) := [(⟨"MeetHouseModel", "marks", "([ZII)I"⟩, 38), (⟨"MeetHouseModel", "onLine", "(III)I"⟩, 38), (⟨"MeetHouseModel", "areThere", "(I)Z"⟩, 38), (⟨"MeetHouseModel", "lookAtRods", "(I)V"⟩, 38), (⟨"MeetHouseModel", "areLeast", "(II)Z"⟩, 38)]
theorem lw_r3 : ∀ q ∈ lw_privs_3, lw_okq q := List.forall_mem_cons.mpr ⟨lw_p32, List.forall_mem_cons.mpr ⟨lw_p33, List.forall_mem_cons.mpr ⟨lw_p34, List.forall_mem_cons.mpr ⟨lw_p35, List.forall_mem_cons.mpr ⟨lw_p36, fun _ h => absurd h List.not_mem_nil⟩⟩⟩⟩⟩
def lw_privs : List (MethodName × Nat) := lw_privs_1 ++ (lw_privs_2 ++ (lw_privs_3))
def lw_tbl : List Cond := k2_sels lw_privs ++ tables_1
theorem lw_privs_ok : ∀ q ∈ lw_privs, lw_okq q := by
  show ∀ q ∈ lw_privs_1 ++ (lw_privs_2 ++ (lw_privs_3)), lw_okq q
  exact List.forall_mem_append.mpr ⟨lw_r1, List.forall_mem_append.mpr ⟨lw_r2, lw_r3⟩⟩
-- ===== end of PART A; then your names; then what follows =====
-- printed names
def RX0 : String := "MeetHouse$Algebra"
def TX0 : u_T := fun k => match k with
  | 0 => ("MeetHouse$Algebra", "pot", "LMeetHouse$Pot;", true)
  | 1 => ("MeetHouse$Algebra", "left", "LMeetHouse$Polynomial;", true)
  | _ => ("MeetHouse$Algebra", "right", "LMeetHouse$Polynomial;", true)
def tyX0 : Nat → FieldType := fun k => match k with
  | 0 => .object "MeetHouse$Pot"
  | 1 => .object "MeetHouse$Polynomial"
  | _ => .object "MeetHouse$Polynomial"
abbrev wsX00 : List Cond := u_ws RX0 TX0 3
theorem nmX0 : ∀ a, a < 3 → ∀ b, b < 3 → a ≠ b → (TX0 a).2.1 ≠ (TX0 b).2.1 := by decide +kernel
theorem tyX0_ok : ∀ k, k < 3 → parseFieldDescriptor (TX0 k).2.2.1 = some (tyX0 k) := by decide +kernel
abbrev cX0_init : ByteArray := prog_2_method_1_code
def yX0_init : MethodName := ⟨RX0, "<init>", "()V"⟩
abbrev cX0_join : ByteArray := prog_2_method_2_code
def yX0_join : MethodName := ⟨RX0, "join", "(LMeetHouse$Polynomial;JI)I"⟩
abbrev cX0_combine : ByteArray := prog_2_method_3_code
def yX0_combine : MethodName := ⟨RX0, "combine", "(LMeetHouse$Polynomial;LMeetHouse$Polynomial;LMeetHouse$Polynomial;I)I"⟩
abbrev cX0_multiply : ByteArray := prog_2_method_4_code
def yX0_multiply : MethodName := ⟨RX0, "multiply", "(LMeetHouse$Polynomial;LMeetHouse$Polynomial;LMeetHouse$Polynomial;)I"⟩
abbrev cX0_isTooHigh : ByteArray := prog_2_method_5_code
def yX0_isTooHigh : MethodName := ⟨RX0, "isTooHigh", "(LMeetHouse$Polynomial;LMeetHouse$Polynomial;)Z"⟩
abbrev cX0_swapLetters : ByteArray := prog_2_method_6_code
def yX0_swapLetters : MethodName := ⟨RX0, "swapLetters", "(LMeetHouse$Polynomial;LMeetHouse$Polynomial;I)I"⟩
abbrev cX0_differ : ByteArray := prog_2_method_7_code
def yX0_differ : MethodName := ⟨RX0, "differ", "(LMeetHouse$Polynomial;LMeetHouse$Polynomial;I)I"⟩
abbrev cX0_pourDifference : ByteArray := prog_2_method_8_code
def yX0_pourDifference : MethodName := ⟨RX0, "pourDifference", "(LMeetHouse$Polynomial;II)V"⟩
abbrev cX0_compose : ByteArray := prog_2_method_9_code
def yX0_compose : MethodName := ⟨RX0, "compose", "(LMeetHouse$Polynomial;II)I"⟩
abbrev cX0_staircase : ByteArray := prog_2_method_10_code
def yX0_staircase : MethodName := ⟨RX0, "staircase", "(I)I"⟩
abbrev cX0_partOf : ByteArray := prog_2_method_11_code
def yX0_partOf : MethodName := ⟨RX0, "partOf", "(LMeetHouse$Polynomial;II)J"⟩
abbrev cX0_partOfProduct : ByteArray := prog_2_method_12_code
def yX0_partOfProduct : MethodName := ⟨RX0, "partOfProduct", "(III)J"⟩
abbrev cX0_partOfLeft : ByteArray := prog_2_method_13_code
def yX0_partOfLeft : MethodName := ⟨RX0, "partOfLeft", "(II)J"⟩
def RX1 : String := "MeetHouse$Boxes"
def TX1 : u_T := fun k => match k with
  | _ => ("", "", "", false)
def tyX1 : Nat → FieldType := fun k => match k with
  | _ => .int
abbrev wsX10 : List Cond := u_ws RX1 TX1 0
theorem nmX1 : ∀ a, a < 0 → ∀ b, b < 0 → a ≠ b → (TX1 a).2.1 ≠ (TX1 b).2.1 := by decide +kernel
theorem tyX1_ok : ∀ k, k < 0 → parseFieldDescriptor (TX1 k).2.2.1 = some (tyX1 k) := by decide +kernel
abbrev cX1_isShape : ByteArray := prog_3_method_2_code
def yX1_isShape : MethodName := ⟨RX1, "isShape", "(II)Z"⟩
abbrev cX1_isBox : ByteArray := prog_3_method_3_code
def yX1_isBox : MethodName := ⟨RX1, "isBox", "(III)Z"⟩
abbrev cX1_figure : ByteArray := prog_3_method_4_code
def yX1_figure : MethodName := ⟨RX1, "figure", "(III)I"⟩
abbrev cX1_places : ByteArray := prog_3_method_5_code
def yX1_places : MethodName := ⟨RX1, "places", "(II)I"⟩
abbrev cX1_stripAt : ByteArray := prog_3_method_6_code
def yX1_stripAt : MethodName := ⟨RX1, "stripAt", "(IIIII)I"⟩
abbrev cX1_room : ByteArray := prog_3_method_7_code
def yX1_room : MethodName := ⟨RX1, "room", "(IIII)I"⟩
abbrev cX1_strips : ByteArray := prog_3_method_8_code
def yX1_strips : MethodName := ⟨RX1, "strips", "(IIIII)I"⟩
abbrev cX1_toOrder : ByteArray := prog_3_method_9_code
def yX1_toOrder : MethodName := ⟨RX1, "toOrder", "(III)I"⟩
abbrev cX1_gather : ByteArray := prog_3_method_10_code
def yX1_gather : MethodName := ⟨RX1, "gather", "([IIIII)I"⟩
def RX2 : String := "MeetHouse$Conditions"
def TX2 : u_T := fun k => match k with
  | 0 => ("MeetHouse$Conditions", "filler", "LMeetHouse$Filler;", true)
  | 1 => ("MeetHouse$Conditions", "boxes", "[I", true)
  | 2 => ("MeetHouse$Conditions", "all", "[I", true)
  | 3 => ("MeetHouse$Conditions", "often", "[J", true)
  | 4 => ("MeetHouse$Conditions", "next", "[J", true)
  | 5 => ("MeetHouse$Conditions", "k", "I", false)
  | 6 => ("MeetHouse$Conditions", "m", "I", false)
  | _ => ("MeetHouse$Conditions", "size", "I", false)
def tyX2 : Nat → FieldType := fun k => match k with
  | 0 => .object "MeetHouse$Filler"
  | 1 => .array .int
  | 2 => .array .int
  | 3 => .array .long
  | 4 => .array .long
  | 5 => .int
  | 6 => .int
  | _ => .int
abbrev wsX20 : List Cond := u_ws RX2 TX2 8
theorem nmX2 : ∀ a, a < 8 → ∀ b, b < 8 → a ≠ b → (TX2 a).2.1 ≠ (TX2 b).2.1 := by decide +kernel
theorem tyX2_ok : ∀ k, k < 8 → parseFieldDescriptor (TX2 k).2.2.1 = some (tyX2 k) := by decide +kernel
abbrev cX2_init : ByteArray := prog_4_method_1_code
def yX2_init : MethodName := ⟨RX2, "<init>", "()V"⟩
abbrev cX2_filler : ByteArray := prog_4_method_2_code
def yX2_filler : MethodName := ⟨RX2, "filler", "()LMeetHouse$Filler;"⟩
abbrev cX2_rows : ByteArray := prog_4_method_3_code
def yX2_rows : MethodName := ⟨RX2, "rows", "()I"⟩
abbrev cX2_columns : ByteArray := prog_4_method_4_code
def yX2_columns : MethodName := ⟨RX2, "columns", "()I"⟩
abbrev cX2_size : ByteArray := prog_4_method_5_code
def yX2_size : MethodName := ⟨RX2, "size", "()I"⟩
abbrev cX2_restart : ByteArray := prog_4_method_6_code
def yX2_restart : MethodName := ⟨RX2, "restart", "(II)I"⟩
abbrev cX2_append : ByteArray := prog_4_method_7_code
def yX2_append : MethodName := ⟨RX2, "append", "(I)I"⟩
abbrev cX2_total : ByteArray := prog_4_method_8_code
def yX2_total : MethodName := ⟨RX2, "total", "()J"⟩
abbrev cX2_putOn : ByteArray := prog_4_method_9_code
def yX2_putOn : MethodName := ⟨RX2, "putOn", "(II)V"⟩
abbrev cX2_digestOn : ByteArray := prog_4_method_10_code
def yX2_digestOn : MethodName := ⟨RX2, "digestOn", "(J)J"⟩
def RX3 : String := "MeetHouse$Figures"
def TX3 : u_T := fun k => match k with
  | _ => ("", "", "", false)
def tyX3 : Nat → FieldType := fun k => match k with
  | _ => .int
abbrev wsX30 : List Cond := u_ws RX3 TX3 0
theorem nmX3 : ∀ a, a < 0 → ∀ b, b < 0 → a ≠ b → (TX3 a).2.1 ≠ (TX3 b).2.1 := by decide +kernel
theorem tyX3_ok : ∀ k, k < 0 → parseFieldDescriptor (TX3 k).2.2.1 = some (tyX3 k) := by decide +kernel
abbrev cX3_at : ByteArray := prog_5_method_2_code
def yX3_at : MethodName := ⟨RX3, "at", "(II)I"⟩
abbrev cX3_power : ByteArray := prog_5_method_3_code
def yX3_power : MethodName := ⟨RX3, "power", "(II)I"⟩
def RX4 : String := "MeetHouse$Filler"
def TX4 : u_T := fun k => match k with
  | 0 => ("MeetHouse$Filler", "inner", "[I", true)
  | 1 => ("MeetHouse$Filler", "outer", "[I", true)
  | 2 => ("MeetHouse$Filler", "left", "[I", true)
  | 3 => ("MeetHouse$Filler", "used", "[I", true)
  | _ => ("MeetHouse$Filler", "cells", "[[I", true)
def tyX4 : Nat → FieldType := fun k => match k with
  | 0 => .array .int
  | 1 => .array .int
  | 2 => .array .int
  | 3 => .array .int
  | _ => .array (.array .int)
abbrev wsX40 : List Cond := u_ws RX4 TX4 5
theorem nmX4 : ∀ a, a < 5 → ∀ b, b < 5 → a ≠ b → (TX4 a).2.1 ≠ (TX4 b).2.1 := by decide +kernel
theorem tyX4_ok : ∀ k, k < 5 → parseFieldDescriptor (TX4 k).2.2.1 = some (tyX4 k) := by decide +kernel
abbrev cX4_init : ByteArray := prog_6_method_1_code
def yX4_init : MethodName := ⟨RX4, "<init>", "()V"⟩
abbrev cX4_howMany : ByteArray := prog_6_method_2_code
def yX4_howMany : MethodName := ⟨RX4, "howMany", "(IIII)I"⟩
abbrev cX4_fill : ByteArray := prog_6_method_3_code
def yX4_fill : MethodName := ⟨RX4, "fill", "(LMeetHouse$Filler;III)I"⟩
def RX5 : String := "MeetHouse$Line"
def TX5 : u_T := fun k => match k with
  | 0 => ("MeetHouse$Line", "rests", "[I", true)
  | _ => ("MeetHouse$Line", "there", "Z", false)
def tyX5 : Nat → FieldType := fun k => match k with
  | 0 => .array .int
  | _ => .boolean
abbrev wsX50 : List Cond := u_ws RX5 TX5 2
theorem nmX5 : ∀ a, a < 2 → ∀ b, b < 2 → a ≠ b → (TX5 a).2.1 ≠ (TX5 b).2.1 := by decide +kernel
theorem tyX5_ok : ∀ k, k < 2 → parseFieldDescriptor (TX5 k).2.2.1 = some (tyX5 k) := by decide +kernel
abbrev cX5_init : ByteArray := prog_7_method_1_code
def yX5_init : MethodName := ⟨RX5, "<init>", "()V"⟩
abbrev cX5_isThere : ByteArray := prog_7_method_2_code
def yX5_isThere : MethodName := ⟨RX5, "isThere", "()Z"⟩
abbrev cX5_vanish : ByteArray := prog_7_method_3_code
def yX5_vanish : MethodName := ⟨RX5, "vanish", "()V"⟩
abbrev cX5_span : ByteArray := prog_7_method_4_code
def yX5_span : MethodName := ⟨RX5, "span", "(III)Z"⟩
abbrev cX5_normalize : ByteArray := prog_7_method_5_code
def yX5_normalize : MethodName := ⟨RX5, "normalize", "(I)Z"⟩
abbrev cX5_copy : ByteArray := prog_7_method_6_code
def yX5_copy : MethodName := ⟨RX5, "copy", "(LMeetHouse$Line;)V"⟩
abbrev cX5_isLike : ByteArray := prog_7_method_7_code
def yX5_isLike : MethodName := ⟨RX5, "isLike", "(LMeetHouse$Line;)Z"⟩
abbrev cX5_crosses : ByteArray := prog_7_method_8_code
def yX5_crosses : MethodName := ⟨RX5, "crosses", "(LMeetHouse$Line;I)Z"⟩
abbrev cX5_holds : ByteArray := prog_7_method_9_code
def yX5_holds : MethodName := ⟨RX5, "holds", "(II)Z"⟩
abbrev cX5_pair : ByteArray := prog_7_method_10_code
def yX5_pair : MethodName := ⟨RX5, "pair", "(II)I"⟩
abbrev cX5_rest : ByteArray := prog_7_method_11_code
def yX5_rest : MethodName := ⟨RX5, "rest", "(II)I"⟩
def RX6 : String := "MeetHouse$Orders"
def TX6 : u_T := fun k => match k with
  | _ => ("", "", "", false)
def tyX6 : Nat → FieldType := fun k => match k with
  | _ => .int
abbrev wsX60 : List Cond := u_ws RX6 TX6 0
theorem nmX6 : ∀ a, a < 0 → ∀ b, b < 0 → a ≠ b → (TX6 a).2.1 ≠ (TX6 b).2.1 := by decide +kernel
theorem tyX6_ok : ∀ k, k < 0 → parseFieldDescriptor (TX6 k).2.2.1 = some (tyX6 k) := by decide +kernel
abbrev cX6_figures : ByteArray := prog_8_method_2_code
def yX6_figures : MethodName := ⟨RX6, "figures", "(I)I"⟩
abbrev cX6_figure : ByteArray := prog_8_method_3_code
def yX6_figure : MethodName := ⟨RX6, "figure", "(III)I"⟩
abbrev cX6_falls : ByteArray := prog_8_method_4_code
def yX6_falls : MethodName := ⟨RX6, "falls", "(II)I"⟩
abbrev cX6_swapped : ByteArray := prog_8_method_5_code
def yX6_swapped : MethodName := ⟨RX6, "swapped", "(IIII)I"⟩
abbrev cX6_inverted : ByteArray := prog_8_method_6_code
def yX6_inverted : MethodName := ⟨RX6, "inverted", "(II)I"⟩
abbrev cX6_firstStep : ByteArray := prog_8_method_7_code
def yX6_firstStep : MethodName := ⟨RX6, "firstStep", "(IIZ)I"⟩
abbrev cX6_ofLength : ByteArray := prog_8_method_8_code
def yX6_ofLength : MethodName := ⟨RX6, "ofLength", "(II)I"⟩
abbrev cX6_risen : ByteArray := prog_8_method_9_code
def yX6_risen : MethodName := ⟨RX6, "risen", "(IIII)I"⟩
abbrev cX6_leastRisen : ByteArray := prog_8_method_10_code
def yX6_leastRisen : MethodName := ⟨RX6, "leastRisen", "(IIII)I"⟩
def RX7 : String := "MeetHouse$Polynomial"
def TX7 : u_T := fun k => match k with
  | 0 => ("MeetHouse$Polynomial", "exponents", "[I", true)
  | 1 => ("MeetHouse$Polynomial", "numbers", "[I", true)
  | 2 => ("MeetHouse$Polynomial", "size", "I", false)
  | _ => ("MeetHouse$Polynomial", "there", "Z", false)
def tyX7 : Nat → FieldType := fun k => match k with
  | 0 => .array .int
  | 1 => .array .int
  | 2 => .int
  | _ => .boolean
abbrev wsX70 : List Cond := u_ws RX7 TX7 4
theorem nmX7 : ∀ a, a < 4 → ∀ b, b < 4 → a ≠ b → (TX7 a).2.1 ≠ (TX7 b).2.1 := by decide +kernel
theorem tyX7_ok : ∀ k, k < 4 → parseFieldDescriptor (TX7 k).2.2.1 = some (tyX7 k) := by decide +kernel
abbrev cX7_init : ByteArray := prog_9_method_1_code
def yX7_init : MethodName := ⟨RX7, "<init>", "()V"⟩
abbrev cX7_size : ByteArray := prog_9_method_2_code
def yX7_size : MethodName := ⟨RX7, "size", "()I"⟩
abbrev cX7_isThere : ByteArray := prog_9_method_3_code
def yX7_isThere : MethodName := ⟨RX7, "isThere", "()Z"⟩
abbrev cX7_vanish : ByteArray := prog_9_method_4_code
def yX7_vanish : MethodName := ⟨RX7, "vanish", "()V"⟩
abbrev cX7_clear : ByteArray := prog_9_method_5_code
def yX7_clear : MethodName := ⟨RX7, "clear", "()V"⟩
abbrev cX7_append : ByteArray := prog_9_method_6_code
def yX7_append : MethodName := ⟨RX7, "append", "(II)V"⟩
abbrev cX7_exponentsAt : ByteArray := prog_9_method_7_code
def yX7_exponentsAt : MethodName := ⟨RX7, "exponentsAt", "(I)I"⟩
abbrev cX7_numberAt : ByteArray := prog_9_method_8_code
def yX7_numberAt : MethodName := ⟨RX7, "numberAt", "(I)I"⟩
abbrev cX7_numberOf : ByteArray := prog_9_method_9_code
def yX7_numberOf : MethodName := ⟨RX7, "numberOf", "(I)I"⟩
abbrev cX7_exponentAt : ByteArray := prog_9_method_10_code
def yX7_exponentAt : MethodName := ⟨RX7, "exponentAt", "(II)I"⟩
abbrev cX7_topExponent : ByteArray := prog_9_method_11_code
def yX7_topExponent : MethodName := ⟨RX7, "topExponent", "(I)I"⟩
abbrev cX7_isLike : ByteArray := prog_9_method_12_code
def yX7_isLike : MethodName := ⟨RX7, "isLike", "(LMeetHouse$Polynomial;)Z"⟩
abbrev cX7_copy : ByteArray := prog_9_method_13_code
def yX7_copy : MethodName := ⟨RX7, "copy", "(LMeetHouse$Polynomial;)V"⟩
abbrev cX7_digestOn : ByteArray := prog_9_method_14_code
def yX7_digestOn : MethodName := ⟨RX7, "digestOn", "(J)J"⟩
def RX8 : String := "MeetHouse$Pot"
def TX8 : u_T := fun k => match k with
  | 0 => ("MeetHouse$Pot", "sums", "[J", true)
  | 1 => ("MeetHouse$Pot", "used", "[Z", true)
  | 2 => ("MeetHouse$Pot", "draft", "LMeetHouse$Polynomial;", true)
  | 3 => ("MeetHouse$Pot", "terms", "I", false)
  | _ => ("MeetHouse$Pot", "isGreat", "Z", false)
def tyX8 : Nat → FieldType := fun k => match k with
  | 0 => .array .long
  | 1 => .array .boolean
  | 2 => .object "MeetHouse$Polynomial"
  | 3 => .int
  | _ => .boolean
abbrev wsX80 : List Cond := u_ws RX8 TX8 5
theorem nmX8 : ∀ a, a < 5 → ∀ b, b < 5 → a ≠ b → (TX8 a).2.1 ≠ (TX8 b).2.1 := by decide +kernel
theorem tyX8_ok : ∀ k, k < 5 → parseFieldDescriptor (TX8 k).2.2.1 = some (tyX8 k) := by decide +kernel
abbrev cX8_init : ByteArray := prog_10_method_1_code
def yX8_init : MethodName := ⟨RX8, "<init>", "()V"⟩
abbrev cX8_pour : ByteArray := prog_10_method_2_code
def yX8_pour : MethodName := ⟨RX8, "pour", "(IJ)V"⟩
abbrev cX8_pourAll : ByteArray := prog_10_method_3_code
def yX8_pourAll : MethodName := ⟨RX8, "pourAll", "(LMeetHouse$Polynomial;J)V"⟩
abbrev cX8_settle : ByteArray := prog_10_method_4_code
def yX8_settle : MethodName := ⟨RX8, "settle", "(LMeetHouse$Polynomial;)I"⟩
abbrev cX8_takeOut : ByteArray := prog_10_method_5_code
def yX8_takeOut : MethodName := ⟨RX8, "takeOut", "(I)V"⟩
def RX9 : String := "MeetHouse$Space"
def TX9 : u_T := fun k => match k with
  | 0 => ("MeetHouse$Space", "rods", "[LMeetHouse$Line;", true)
  | 1 => ("MeetHouse$Space", "probe", "LMeetHouse$Line;", true)
  | _ => ("MeetHouse$Space", "q", "I", false)
def tyX9 : Nat → FieldType := fun k => match k with
  | 0 => .array (.object "MeetHouse$Line")
  | 1 => .object "MeetHouse$Line"
  | _ => .int
abbrev wsX90 : List Cond := u_ws RX9 TX9 3
theorem nmX9 : ∀ a, a < 3 → ∀ b, b < 3 → a ≠ b → (TX9 a).2.1 ≠ (TX9 b).2.1 := by decide +kernel
theorem tyX9_ok : ∀ k, k < 3 → parseFieldDescriptor (TX9 k).2.2.1 = some (tyX9 k) := by decide +kernel
abbrev cX9_init : ByteArray := prog_11_method_1_code
def yX9_init : MethodName := ⟨RX9, "<init>", "()V"⟩
abbrev cX9_isRod : ByteArray := prog_11_method_2_code
def yX9_isRod : MethodName := ⟨RX9, "isRod", "(I)Z"⟩
abbrev cX9_areBits : ByteArray := prog_11_method_3_code
def yX9_areBits : MethodName := ⟨RX9, "areBits", "(I)Z"⟩
abbrev cX9_figure : ByteArray := prog_11_method_4_code
def yX9_figure : MethodName := ⟨RX9, "figure", "(II)I"⟩
abbrev cX9_order : ByteArray := prog_11_method_5_code
def yX9_order : MethodName := ⟨RX9, "order", "()I"⟩
abbrev cX9_isPoint : ByteArray := prog_11_method_6_code
def yX9_isPoint : MethodName := ⟨RX9, "isPoint", "(I)Z"⟩
abbrev cX9_change : ByteArray := prog_11_method_7_code
def yX9_change : MethodName := ⟨RX9, "change", "(I)I"⟩
abbrev cX9_lay : ByteArray := prog_11_method_8_code
def yX9_lay : MethodName := ⟨RX9, "lay", "(III)Z"⟩
abbrev cX9_remove : ByteArray := prog_11_method_9_code
def yX9_remove : MethodName := ⟨RX9, "remove", "(I)Z"⟩
abbrev cX9_howMet : ByteArray := prog_11_method_10_code
def yX9_howMet : MethodName := ⟨RX9, "howMet", "(II)I"⟩
abbrev cX9_rodsThere : ByteArray := prog_11_method_11_code
def yX9_rodsThere : MethodName := ⟨RX9, "rodsThere", "()I"⟩
abbrev cX9_areThere : ByteArray := prog_11_method_12_code
def yX9_areThere : MethodName := ⟨RX9, "areThere", "(I)Z"⟩
abbrev cX9_isTold : ByteArray := prog_11_method_13_code
def yX9_isTold : MethodName := ⟨RX9, "isTold", "(II)Z"⟩
abbrev cX9_linesMeeting : ByteArray := prog_11_method_14_code
def yX9_linesMeeting : MethodName := ⟨RX9, "linesMeeting", "(I)I"⟩
abbrev cX9_linesFrom : ByteArray := prog_11_method_15_code
def yX9_linesFrom : MethodName := ⟨RX9, "linesFrom", "(III)I"⟩
abbrev cX9_crossesAll : ByteArray := prog_11_method_16_code
def yX9_crossesAll : MethodName := ⟨RX9, "crossesAll", "(I)Z"⟩
abbrev cX9_pointsOn : ByteArray := prog_11_method_17_code
def yX9_pointsOn : MethodName := ⟨RX9, "pointsOn", "(I)I"⟩
abbrev cX9_isOnOne : ByteArray := prog_11_method_18_code
def yX9_isOnOne : MethodName := ⟨RX9, "isOnOne", "(II)Z"⟩
abbrev cX9_pointFrom : ByteArray := prog_11_method_19_code
def yX9_pointFrom : MethodName := ⟨RX9, "pointFrom", "(III)I"⟩
def RX10 : String := "MeetHouse"
def TX10 : u_T := fun k => match k with
  | 0 => ("MeetHouse", "sheets", "[LMeetHouse$Polynomial;", true)
  | 1 => ("MeetHouse", "algebra", "LMeetHouse$Algebra;", true)
  | 2 => ("MeetHouse", "list", "LMeetHouse$Conditions;", true)
  | _ => ("MeetHouse", "space", "LMeetHouse$Space;", true)
def tyX10 : Nat → FieldType := fun k => match k with
  | 0 => .array (.object "MeetHouse$Polynomial")
  | 1 => .object "MeetHouse$Algebra"
  | 2 => .object "MeetHouse$Conditions"
  | _ => .object "MeetHouse$Space"
abbrev wsX100 : List Cond := u_ws RX10 TX10 4
theorem nmX10 : ∀ a, a < 4 → ∀ b, b < 4 → a ≠ b → (TX10 a).2.1 ≠ (TX10 b).2.1 := by decide +kernel
theorem tyX10_ok : ∀ k, k < 4 → parseFieldDescriptor (TX10 k).2.2.1 = some (tyX10 k) := by decide +kernel
abbrev cX10_init : ByteArray := prog_1_method_1_code
def yX10_init : MethodName := ⟨RX10, "<init>", "()V"⟩
abbrev cX10_length : ByteArray := prog_1_method_2_code
def yX10_length : MethodName := ⟨RX10, "length", "(I)I"⟩
abbrev cX10_exchange : ByteArray := prog_1_method_3_code
def yX10_exchange : MethodName := ⟨RX10, "exchange", "(II)I"⟩
abbrev cX10_inverse : ByteArray := prog_1_method_4_code
def yX10_inverse : MethodName := ⟨RX10, "inverse", "(I)I"⟩
abbrev cX10_orders : ByteArray := prog_1_method_5_code
def yX10_orders : MethodName := ⟨RX10, "orders", "(II)I"⟩
abbrev cX10_step : ByteArray := prog_1_method_6_code
def yX10_step : MethodName := ⟨RX10, "step", "(III)I"⟩
abbrev cX10_blank : ByteArray := prog_1_method_7_code
def yX10_blank : MethodName := ⟨RX10, "blank", "(I)I"⟩
abbrev cX10_lose : ByteArray := prog_1_method_8_code
def yX10_lose : MethodName := ⟨RX10, "lose", "(I)I"⟩
abbrev cX10_add : ByteArray := prog_1_method_9_code
def yX10_add : MethodName := ⟨RX10, "add", "(IJI)I"⟩
abbrev cX10_terms : ByteArray := prog_1_method_10_code
def yX10_terms : MethodName := ⟨RX10, "terms", "(I)I"⟩
abbrev cX10_exponents : ByteArray := prog_1_method_11_code
def yX10_exponents : MethodName := ⟨RX10, "exponents", "(II)I"⟩
abbrev cX10_number : ByteArray := prog_1_method_12_code
def yX10_number : MethodName := ⟨RX10, "number", "(II)J"⟩
abbrev cX10_sum : ByteArray := prog_1_method_13_code
def yX10_sum : MethodName := ⟨RX10, "sum", "(IIII)I"⟩
abbrev cX10_product : ByteArray := prog_1_method_14_code
def yX10_product : MethodName := ⟨RX10, "product", "(III)I"⟩
abbrev cX10_turned : ByteArray := prog_1_method_15_code
def yX10_turned : MethodName := ⟨RX10, "turned", "(III)I"⟩
abbrev cX10_difference : ByteArray := prog_1_method_16_code
def yX10_difference : MethodName := ⟨RX10, "difference", "(III)I"⟩
abbrev cX10_polynomial : ByteArray := prog_1_method_17_code
def yX10_polynomial : MethodName := ⟨RX10, "polynomial", "(II)I"⟩
abbrev cX10_part : ByteArray := prog_1_method_18_code
def yX10_part : MethodName := ⟨RX10, "part", "(II)J"⟩
abbrev cX10_constant : ByteArray := prog_1_method_19_code
def yX10_constant : MethodName := ⟨RX10, "constant", "(III)J"⟩
abbrev cX10_same : ByteArray := prog_1_method_20_code
def yX10_same : MethodName := ⟨RX10, "same", "(II)I"⟩
abbrev cX10_strip : ByteArray := prog_1_method_21_code
def yX10_strip : MethodName := ⟨RX10, "strip", "(IIIII)I"⟩
abbrev cX10_fillings : ByteArray := prog_1_method_22_code
def yX10_fillings : MethodName := ⟨RX10, "fillings", "(IIIII)I"⟩
abbrev cX10_orderOf : ByteArray := prog_1_method_23_code
def yX10_orderOf : MethodName := ⟨RX10, "orderOf", "(III)I"⟩
abbrev cX10_begin : ByteArray := prog_1_method_24_code
def yX10_begin : MethodName := ⟨RX10, "begin", "(II)I"⟩
abbrev cX10_condition : ByteArray := prog_1_method_25_code
def yX10_condition : MethodName := ⟨RX10, "condition", "(I)I"⟩
abbrev cX10_meeting : ByteArray := prog_1_method_26_code
def yX10_meeting : MethodName := ⟨RX10, "meeting", "()J"⟩
abbrev cX10_field : ByteArray := prog_1_method_27_code
def yX10_field : MethodName := ⟨RX10, "field", "(I)I"⟩
abbrev cX10_rod : ByteArray := prog_1_method_28_code
def yX10_rod : MethodName := ⟨RX10, "rod", "(III)I"⟩
abbrev cX10_drop : ByteArray := prog_1_method_29_code
def yX10_drop : MethodName := ⟨RX10, "drop", "(I)I"⟩
abbrev cX10_meet : ByteArray := prog_1_method_30_code
def yX10_meet : MethodName := ⟨RX10, "meet", "(II)I"⟩
abbrev cX10_lines : ByteArray := prog_1_method_31_code
def yX10_lines : MethodName := ⟨RX10, "lines", "(I)I"⟩
abbrev cX10_points : ByteArray := prog_1_method_32_code
def yX10_points : MethodName := ⟨RX10, "points", "(I)I"⟩
abbrev cX10_count : ByteArray := prog_1_method_33_code
def yX10_count : MethodName := ⟨RX10, "count", "(I)I"⟩
abbrev cX10_digest : ByteArray := prog_1_method_34_code
def yX10_digest : MethodName := ⟨RX10, "digest", "()J"⟩
abbrev cX10_isSheet : ByteArray := prog_1_method_35_code
def yX10_isSheet : MethodName := ⟨RX10, "isSheet", "(I)Z"⟩
abbrev cX10_isLost : ByteArray := prog_1_method_36_code
def yX10_isLost : MethodName := ⟨RX10, "isLost", "(I)Z"⟩
abbrev cX10_keptSheets : ByteArray := prog_1_method_37_code
def yX10_keptSheets : MethodName := ⟨RX10, "keptSheets", "()I"⟩
abbrev cX10_isBeyond : ByteArray := prog_1_method_38_code
def yX10_isBeyond : MethodName := ⟨RX10, "isBeyond", "(J)Z"⟩
abbrev cX10_areExponents : ByteArray := prog_1_method_39_code
def yX10_areExponents : MethodName := ⟨RX10, "areExponents", "(I)Z"⟩
abbrev cX10_refusal : ByteArray := prog_1_method_40_code
def yX10_refusal : MethodName := ⟨RX10, "refusal", "(I)J"⟩
def RX11 : String := "MeetHouseModel"
def TX11 : u_T := fun k => match k with
  | 0 => ("MeetHouseModel", "figures", "[I", true)
  | 1 => ("MeetHouseModel", "orderN", "I", false)
  | 2 => ("MeetHouseModel", "found", "[I", true)
  | 3 => ("MeetHouseModel", "isThere", "[Z", true)
  | 4 => ("MeetHouseModel", "many", "[I", true)
  | 5 => ("MeetHouseModel", "exponents", "[I", true)
  | 6 => ("MeetHouseModel", "numbers", "[J", true)
  | 7 => ("MeetHouseModel", "work", "[J", true)
  | 8 => ("MeetHouseModel", "next", "[J", true)
  | 9 => ("MeetHouseModel", "ups", "[I", true)
  | 10 => ("MeetHouseModel", "first", "[J", true)
  | 11 => ("MeetHouseModel", "second", "[J", true)
  | 12 => ("MeetHouseModel", "boxA", "[I", true)
  | 13 => ("MeetHouseModel", "boxB", "[I", true)
  | 14 => ("MeetHouseModel", "boxC", "[I", true)
  | 15 => ("MeetHouseModel", "placeRow", "[I", true)
  | 16 => ("MeetHouseModel", "placeColumn", "[I", true)
  | 17 => ("MeetHouseModel", "stands", "[I", true)
  | 18 => ("MeetHouseModel", "atPlace", "[I", true)
  | 19 => ("MeetHouseModel", "often", "[I", true)
  | 20 => ("MeetHouseModel", "listK", "I", false)
  | 21 => ("MeetHouseModel", "listM", "I", false)
  | 22 => ("MeetHouseModel", "listed", "I", false)
  | 23 => ("MeetHouseModel", "list", "[I", true)
  | 24 => ("MeetHouseModel", "boxes", "[I", true)
  | 25 => ("MeetHouseModel", "times", "[J", true)
  | 26 => ("MeetHouseModel", "nextTimes", "[J", true)
  | 27 => ("MeetHouseModel", "q", "I", false)
  | 28 => ("MeetHouseModel", "isRod", "[Z", true)
  | 29 => ("MeetHouseModel", "rodOne", "[I", true)
  | 30 => ("MeetHouseModel", "rodTwo", "[I", true)
  | 31 => ("MeetHouseModel", "isOn", "[Z", true)
  | 32 => ("MeetHouseModel", "isIn", "[Z", true)
  | 33 => ("MeetHouseModel", "figuresAt", "[I", true)
  | 34 => ("MeetHouseModel", "evenedAt", "[I", true)
  | 35 => ("MeetHouseModel", "rodsAt", "[I", true)
  | 36 => ("MeetHouseModel", "rodsMet", "I", false)
  | _ => ("MeetHouseModel", "points", "[I", true)
def tyX11 : Nat → FieldType := fun k => match k with
  | 0 => .array .int
  | 1 => .int
  | 2 => .array .int
  | 3 => .array .boolean
  | 4 => .array .int
  | 5 => .array .int
  | 6 => .array .long
  | 7 => .array .long
  | 8 => .array .long
  | 9 => .array .int
  | 10 => .array .long
  | 11 => .array .long
  | 12 => .array .int
  | 13 => .array .int
  | 14 => .array .int
  | 15 => .array .int
  | 16 => .array .int
  | 17 => .array .int
  | 18 => .array .int
  | 19 => .array .int
  | 20 => .int
  | 21 => .int
  | 22 => .int
  | 23 => .array .int
  | 24 => .array .int
  | 25 => .array .long
  | 26 => .array .long
  | 27 => .int
  | 28 => .array .boolean
  | 29 => .array .int
  | 30 => .array .int
  | 31 => .array .boolean
  | 32 => .array .boolean
  | 33 => .array .int
  | 34 => .array .int
  | 35 => .array .int
  | 36 => .int
  | _ => .array .int
abbrev wsX110 : List Cond := u_ws RX11 TX11 38
theorem nmX11 : ∀ a, a < 38 → ∀ b, b < 38 → a ≠ b → (TX11 a).2.1 ≠ (TX11 b).2.1 := by decide +kernel
theorem tyX11_ok : ∀ k, k < 38 → parseFieldDescriptor (TX11 k).2.2.1 = some (tyX11 k) := by decide +kernel
abbrev cX11_init : ByteArray := prog_13_method_1_code
def yX11_init : MethodName := ⟨RX11, "<init>", "()V"⟩
abbrev cX11_in : ByteArray := prog_13_method_3_code
def yX11_in : MethodName := ⟨RX11, "in", "(JJJ)Z"⟩
abbrev cX11_no : ByteArray := prog_13_method_4_code
def yX11_no : MethodName := ⟨RX11, "no", "(I)J"⟩
abbrev cX11_reads : ByteArray := prog_13_method_5_code
def yX11_reads : MethodName := ⟨RX11, "reads", "(I)Z"⟩
abbrev cX11_told : ByteArray := prog_13_method_6_code
def yX11_told : MethodName := ⟨RX11, "told", "()I"⟩
abbrev cX11_lengthNow : ByteArray := prog_13_method_7_code
def yX11_lengthNow : MethodName := ⟨RX11, "lengthNow", "()I"⟩
abbrev cX11_change : ByteArray := prog_13_method_8_code
def yX11_change : MethodName := ⟨RX11, "change", "(II)V"⟩
abbrev cX11_length : ByteArray := prog_13_method_9_code
def yX11_length : MethodName := ⟨RX11, "length", "(I)I"⟩
abbrev cX11_exchange : ByteArray := prog_13_method_10_code
def yX11_exchange : MethodName := ⟨RX11, "exchange", "(II)I"⟩
abbrev cX11_inverse : ByteArray := prog_13_method_11_code
def yX11_inverse : MethodName := ⟨RX11, "inverse", "(I)I"⟩
abbrev cX11_orders : ByteArray := prog_13_method_12_code
def yX11_orders : MethodName := ⟨RX11, "orders", "(II)I"⟩
abbrev cX11_step : ByteArray := prog_13_method_13_code
def yX11_step : MethodName := ⟨RX11, "step", "(III)I"⟩
abbrev cX11_isSheet : ByteArray := prog_13_method_14_code
def yX11_isSheet : MethodName := ⟨RX11, "isSheet", "(I)Z"⟩
abbrev cX11_placeOf : ByteArray := prog_13_method_15_code
def yX11_placeOf : MethodName := ⟨RX11, "placeOf", "(I)I"⟩
abbrev cX11_toldOf : ByteArray := prog_13_method_16_code
def yX11_toldOf : MethodName := ⟨RX11, "toldOf", "(I)I"⟩
abbrev cX11_wipe : ByteArray := prog_13_method_17_code
def yX11_wipe : MethodName := ⟨RX11, "wipe", "()V"⟩
abbrev cX11_takes : ByteArray := prog_13_method_18_code
def yX11_takes : MethodName := ⟨RX11, "takes", "(IJ)V"⟩
abbrev cX11_tooMuch : ByteArray := prog_13_method_19_code
def yX11_tooMuch : MethodName := ⟨RX11, "tooMuch", "()I"⟩
abbrev cX11_lays : ByteArray := prog_13_method_20_code
def yX11_lays : MethodName := ⟨RX11, "lays", "(I)I"⟩
abbrev cX11_blank : ByteArray := prog_13_method_21_code
def yX11_blank : MethodName := ⟨RX11, "blank", "(I)I"⟩
abbrev cX11_lose : ByteArray := prog_13_method_22_code
def yX11_lose : MethodName := ⟨RX11, "lose", "(I)I"⟩
abbrev cX11_add : ByteArray := prog_13_method_23_code
def yX11_add : MethodName := ⟨RX11, "add", "(IJI)I"⟩
abbrev cX11_terms : ByteArray := prog_13_method_24_code
def yX11_terms : MethodName := ⟨RX11, "terms", "(I)I"⟩
abbrev cX11_exponents : ByteArray := prog_13_method_25_code
def yX11_exponents : MethodName := ⟨RX11, "exponents", "(II)I"⟩
abbrev cX11_number : ByteArray := prog_13_method_26_code
def yX11_number : MethodName := ⟨RX11, "number", "(II)J"⟩
abbrev cX11_sum : ByteArray := prog_13_method_27_code
def yX11_sum : MethodName := ⟨RX11, "sum", "(IIII)I"⟩
abbrev cX11_highest : ByteArray := prog_13_method_28_code
def yX11_highest : MethodName := ⟨RX11, "highest", "(II)I"⟩
abbrev cX11_product : ByteArray := prog_13_method_29_code
def yX11_product : MethodName := ⟨RX11, "product", "(III)I"⟩
abbrev cX11_nines : ByteArray := prog_13_method_30_code
def yX11_nines : MethodName := ⟨RX11, "nines", "(I)I"⟩
abbrev cX11_turned : ByteArray := prog_13_method_31_code
def yX11_turned : MethodName := ⟨RX11, "turned", "(III)I"⟩
abbrev cX11_differ : ByteArray := prog_13_method_32_code
def yX11_differ : MethodName := ⟨RX11, "differ", "(I)V"⟩
abbrev cX11_difference : ByteArray := prog_13_method_33_code
def yX11_difference : MethodName := ⟨RX11, "difference", "(III)I"⟩
abbrev cX11_makes : ByteArray := prog_13_method_34_code
def yX11_makes : MethodName := ⟨RX11, "makes", "(I)V"⟩
abbrev cX11_polynomial : ByteArray := prog_13_method_35_code
def yX11_polynomial : MethodName := ⟨RX11, "polynomial", "(II)I"⟩
abbrev cX11_parts : ByteArray := prog_13_method_36_code
def yX11_parts : MethodName := ⟨RX11, "parts", "(IZ)J"⟩
abbrev cX11_part : ByteArray := prog_13_method_37_code
def yX11_part : MethodName := ⟨RX11, "part", "(II)J"⟩
abbrev cX11_constant : ByteArray := prog_13_method_38_code
def yX11_constant : MethodName := ⟨RX11, "constant", "(III)J"⟩
abbrev cX11_same : ByteArray := prog_13_method_39_code
def yX11_same : MethodName := ⟨RX11, "same", "(II)I"⟩
abbrev cX11_isBox : ByteArray := prog_13_method_40_code
def yX11_isBox : MethodName := ⟨RX11, "isBox", "(III[I)Z"⟩
abbrev cX11_areSides : ByteArray := prog_13_method_41_code
def yX11_areSides : MethodName := ⟨RX11, "areSides", "(II)Z"⟩
abbrev cX11_tens : ByteArray := prog_13_method_42_code
def yX11_tens : MethodName := ⟨RX11, "tens", "(I)I"⟩
abbrev cX11_sizeOf : ByteArray := prog_13_method_43_code
def yX11_sizeOf : MethodName := ⟨RX11, "sizeOf", "(I[I)I"⟩
abbrev cX11_strip : ByteArray := prog_13_method_44_code
def yX11_strip : MethodName := ⟨RX11, "strip", "(IIIII)I"⟩
abbrev cX11_mayStand : ByteArray := prog_13_method_45_code
def yX11_mayStand : MethodName := ⟨RX11, "mayStand", "(III)Z"⟩
abbrev cX11_fills : ByteArray := prog_13_method_46_code
def yX11_fills : MethodName := ⟨RX11, "fills", "(I)I"⟩
abbrev cX11_fillings : ByteArray := prog_13_method_47_code
def yX11_fillings : MethodName := ⟨RX11, "fillings", "(IIIII)I"⟩
abbrev cX11_orderOf : ByteArray := prog_13_method_48_code
def yX11_orderOf : MethodName := ⟨RX11, "orderOf", "(III)I"⟩
abbrev cX11_begin : ByteArray := prog_13_method_49_code
def yX11_begin : MethodName := ⟨RX11, "begin", "(II)I"⟩
abbrev cX11_condition : ByteArray := prog_13_method_50_code
def yX11_condition : MethodName := ⟨RX11, "condition", "(I)I"⟩
abbrev cX11_meeting : ByteArray := prog_13_method_51_code
def yX11_meeting : MethodName := ⟨RX11, "meeting", "()J"⟩
abbrev cX11_lookAtPoints : ByteArray := prog_13_method_52_code
def yX11_lookAtPoints : MethodName := ⟨RX11, "lookAtPoints", "()V"⟩
abbrev cX11_pointOf : ByteArray := prog_13_method_53_code
def yX11_pointOf : MethodName := ⟨RX11, "pointOf", "(I)I"⟩
abbrev cX11_mixed : ByteArray := prog_13_method_54_code
def yX11_mixed : MethodName := ⟨RX11, "mixed", "(IIII)I"⟩
abbrev cX11_evened : ByteArray := prog_13_method_55_code
def yX11_evened : MethodName := ⟨RX11, "evened", "(I)I"⟩
abbrev cX11_onLine : ByteArray := prog_13_method_56_code
def yX11_onLine : MethodName := ⟨RX11, "onLine", "(III)I"⟩
abbrev cX11_drops : ByteArray := prog_13_method_57_code
def yX11_drops : MethodName := ⟨RX11, "drops", "()V"⟩
abbrev cX11_field : ByteArray := prog_13_method_58_code
def yX11_field : MethodName := ⟨RX11, "field", "(I)I"⟩
abbrev cX11_rod : ByteArray := prog_13_method_59_code
def yX11_rod : MethodName := ⟨RX11, "rod", "(III)I"⟩
abbrev cX11_drop : ByteArray := prog_13_method_60_code
def yX11_drop : MethodName := ⟨RX11, "drop", "(I)I"⟩
abbrev cX11_marks : ByteArray := prog_13_method_61_code
def yX11_marks : MethodName := ⟨RX11, "marks", "([ZII)I"⟩
abbrev cX11_wipeMarks : ByteArray := prog_13_method_62_code
def yX11_wipeMarks : MethodName := ⟨RX11, "wipeMarks", "([Z)V"⟩
abbrev cX11_meet : ByteArray := prog_13_method_63_code
def yX11_meet : MethodName := ⟨RX11, "meet", "(II)I"⟩
abbrev cX11_areThere : ByteArray := prog_13_method_64_code
def yX11_areThere : MethodName := ⟨RX11, "areThere", "(I)Z"⟩
abbrev cX11_lookAtRods : ByteArray := prog_13_method_65_code
def yX11_lookAtRods : MethodName := ⟨RX11, "lookAtRods", "(I)V"⟩
abbrev cX11_areLeast : ByteArray := prog_13_method_66_code
def yX11_areLeast : MethodName := ⟨RX11, "areLeast", "(II)Z"⟩
abbrev cX11_lines : ByteArray := prog_13_method_67_code
def yX11_lines : MethodName := ⟨RX11, "lines", "(I)I"⟩
abbrev cX11_points : ByteArray := prog_13_method_68_code
def yX11_points : MethodName := ⟨RX11, "points", "(I)I"⟩
abbrev cX11_count : ByteArray := prog_13_method_69_code
def yX11_count : MethodName := ⟨RX11, "count", "(I)I"⟩
abbrev cX11_digest : ByteArray := prog_13_method_70_code
def yX11_digest : MethodName := ⟨RX11, "digest", "()J"⟩
def RJ9 : String := "java/lang/Math"
abbrev cJ9_floorMod_7cf53 : ByteArray := prog_14_method_50_code
def yJ9_floorMod_7cf53 : MethodName := ⟨RJ9, "floorMod", "(II)I"⟩
abbrev cJ9_max_7cf53 : ByteArray := prog_14_method_65_code
def yJ9_max_7cf53 : MethodName := ⟨RJ9, "max", "(II)I"⟩
abbrev cJ9_min_7cf53 : ByteArray := prog_14_method_69_code
def yJ9_min_7cf53 : MethodName := ⟨RJ9, "min", "(II)I"⟩
def RL : String := "MeetHouseLaw"
abbrev cL_law : ByteArray := code
def yL_law : MethodName := ⟨RL, "law", "([I)Z"⟩
-- the classes of which there are objects
abbrev fv_cl : List vw_C := [(RX0, TX0, 3), (RX2, TX2, 8), (RX4, TX4, 5), (RX5, TX5, 2), (RX7, TX7, 4), (RX8, TX8, 5), (RX9, TX9, 3), (RX10, TX10, 4), (RX11, TX11, 38)]
/-- the words that may be handed on to a method called -/
def fv_tbl : List Cond := lw_tbl.filter goodWord
theorem fv_in {w : Cond} (h : w ∈ lw_tbl) (g : goodWord w = true) : w ∈ fv_tbl := List.mem_filter.mpr ⟨h, g⟩
theorem fv_good : ∀ w ∈ fv_tbl, goodWord w = true := fun _ h => (List.mem_filter.mp h).2
theorem iX0 : ∀ w ∈ wsX00, w ∈ fv_tbl := by decide +kernel
theorem iX2 : ∀ w ∈ wsX20, w ∈ fv_tbl := by decide +kernel
theorem iX4 : ∀ w ∈ wsX40, w ∈ fv_tbl := by decide +kernel
theorem iX5 : ∀ w ∈ wsX50, w ∈ fv_tbl := by decide +kernel
theorem iX7 : ∀ w ∈ wsX70, w ∈ fv_tbl := by decide +kernel
theorem iX8 : ∀ w ∈ wsX80, w ∈ fv_tbl := by decide +kernel
theorem iX9 : ∀ w ∈ wsX90, w ∈ fv_tbl := by decide +kernel
theorem iX10 : ∀ w ∈ wsX100, w ∈ fv_tbl := by decide +kernel
theorem iX11 : ∀ w ∈ wsX110, w ∈ fv_tbl := by decide +kernel
end
section
/-! ===== the world of one object tree, by places: a cell's address is the base and its place ===== -/
abbrev fv_C : Type := (Nat × vp_A) ⊕ (Nat × List Value)
abbrev fv_F : Type := Nat → Option fv_C
abbrev fv_L : Type := List (Nat × Value)
/-- a method: its name, bytes, locals, type -/
abbrev fv_Y : Type := MethodName × ByteArray × Nat × Option FieldType
def fv_v (N : Nat) : Value → Value
  | .ref a => .ref (N + a)
  | v => v
def fv_r (N : Nat) (f : Nat → Option Nat) : Nat → Option Nat := fun j => (f j).map (N + ·)
def fv_a (N : Nat) (a : vp_A) : vp_A := match a.2 with
  | .inr (.inr (.inr (.inr f))) => (a.1, .inr (.inr (.inr (.inr (fv_r N f)))))
  | _ => a
def fv_e (N : Nat) (dA : Nat → ClassId) : fv_C → va_E
  | .inl x => .inl (dA x.1, fv_a N x.2)
  | .inr x => .inr (x.1, x.2.map (fv_v N))
def fv_set (f : fv_F) (i : Nat) (c : fv_C) : fv_F := fun j => if j = i then some c else f j
theorem fv_set_self (f : fv_F) (i : Nat) (c : fv_C) : fv_set f i c i = some c := if_pos rfl
theorem fv_set_ne (f : fv_F) {i j : Nat} (c : fv_C) (h : j ≠ i) : fv_set f i c j = f j := if_neg h
def fv_tys (dA : Nat → ClassId) : List (ClassId × FieldType) := [(dA 0, .int), (dA 1, .long), (dA 2, .boolean), (dA 3, .object "MeetHouse$Polynomial"), (dA 4, .object "MeetHouse$Line"), (dA 5, .array .int)]
abbrev fv_K (D : va_G) (dA : Nat → ClassId) (U : State) : Prop := va_K D fv_cl (fv_tys dA) U
def fv_R (D : va_G) (dA : Nat → ClassId) (N : Nat) (A : Nat → Prop) (f : fv_F) (H : Heap) : Prop := ∀ (i : Nat) (c : fv_C), f i = some c → A (N + i) ∧ va_at D fv_cl (N + i, fv_e N dA c) H
/-- cells may be made: the next place -/
def fv_O (N : Nat) (A : Nat → Prop) (al : Option Nat) (H : Heap) : Prop := ∀ n, al = some n → H.size = N + n ∧ ∀ q, N ≤ q → A q
abbrev fv_rm (d mc ms : Nat) : Room := { frames := d, cells := mc, slots := ms, locals := 64 * d }
def fv_ws (y : fv_Y) : List Cond := .code y.1 y.2.1 y.2.2.1 y.2.2.2 :: fv_tbl
def fv_Pc (D : va_G) (dA : Nat → ClassId) (N : Nat) (A : Nat → Prop) (as : List Value) (f : fv_F) (al : Option Nat) : Array Value → State → Prop :=
  va_Pc (as.map (fv_v N)) (fun U => fv_R D dA N A f U.heap ∧ fv_K D dA U ∧ fv_O N A al U.heap)
def fv_Qc (D : va_G) (dA : Nat → ClassId) (N : Nat) (A : Nat → Prop) (Q : Option Value → fv_F → Option Nat → Prop) : Array Value → State → Outcome → State → Prop := fun _ st o t =>
  ∃ (r : Option Value) (f : fv_F) (al : Option Nat), o = .returned (r.map (fv_v N)) ∧ Q r f al ∧ fv_R D dA N A f t.heap ∧ fv_O N A al t.heap ∧ va_F A st t
/-- a method's contract: from args and f it comes to an answer, cells and a next place with Q; depth d; mc cells of ms slots are made -/
def fv_M (y : fv_Y) (d mc ms : Nat) (as : List Value) (f : fv_F) (al : Option Nat) (Q : Option Value → fv_F → Option Nat → Prop) : Prop :=
  ∀ (l : Launch) (D : va_G) (dA : Nat → ClassId) (N : Nat) (A : Nat → Prop), Met l y.1 (fv_ws y) (fv_rm d mc ms) (fv_Pc D dA N A as f al) (fv_Qc D dA N A Q) mc ms A
end
