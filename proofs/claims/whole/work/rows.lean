section
-- ===== PART A: goes FIRST, ahead of the names: the tables' words, and 'selects' of the private methods out of them =====
/-- a private method of a class that the tables say can be made, by its rows of tables_1 -/
def lw_okq (q : MethodName × Nat) : Prop := (q.1.cls ≠ "java/lang/invoke/MethodHandle" ∧ q.1.cls ≠ "java/lang/invoke/VarHandle") ∧ Cond.instantiable q.1.cls q.2 ∈ tables_1 ∧ Cond.privateMethod q.1 ∈ tables_1 ∧ Cond.instanceMethod q.1 ∈ tables_1
theorem lw_p0 : lw_okq (⟨"DesertTown$BookReader", "faultOf", "(LDesertTown$Tape;IIILDesertTown$RoadBook;)I"⟩, 6) := ⟨⟨by decide +kernel, by decide +kernel⟩, List.mem_of_getElem? (i := 83) (by decide +kernel), List.mem_of_getElem? (i := 339) (by decide +kernel), List.mem_of_getElem? (i := 340) (by decide +kernel)⟩
theorem lw_p1 : lw_okq (⟨"DesertTown$BookReader", "faultOfNumber", "(IILDesertTown$RoadBook;)I"⟩, 6) := ⟨⟨by decide +kernel, by decide +kernel⟩, List.mem_of_getElem? (i := 83) (by decide +kernel), List.mem_of_getElem? (i := 413) (by decide +kernel), List.mem_of_getElem? (i := 414) (by decide +kernel)⟩
theorem lw_p2 : lw_okq (⟨"DesertTown", "settle", "()V"⟩, 10) := ⟨⟨by decide +kernel, by decide +kernel⟩, List.mem_of_getElem? (i := 17) (by decide +kernel), List.mem_of_getElem? (i := 440) (by decide +kernel), List.mem_of_getElem? (i := 441) (by decide +kernel)⟩
theorem lw_p3 : lw_okq (⟨"DesertTown$Race", "forget", "(I)V"⟩, 9) := ⟨⟨by decide +kernel, by decide +kernel⟩, List.mem_of_getElem? (i := 110) (by decide +kernel), List.mem_of_getElem? (i := 448) (by decide +kernel), List.mem_of_getElem? (i := 449) (by decide +kernel)⟩
theorem lw_p4 : lw_okq (⟨"DesertTown$Race", "runStage", "(ILDesertTown$Racers;)V"⟩, 9) := ⟨⟨by decide +kernel, by decide +kernel⟩, List.mem_of_getElem? (i := 110) (by decide +kernel), List.mem_of_getElem? (i := 467) (by decide +kernel), List.mem_of_getElem? (i := 468) (by decide +kernel)⟩
theorem lw_p5 : lw_okq (⟨"DesertTown$Race", "rank", "(II)V"⟩, 9) := ⟨⟨by decide +kernel, by decide +kernel⟩, List.mem_of_getElem? (i := 110) (by decide +kernel), List.mem_of_getElem? (i := 471) (by decide +kernel), List.mem_of_getElem? (i := 472) (by decide +kernel)⟩
theorem lw_p6 : lw_okq (⟨"DesertTown$Race", "isAhead", "(III)Z"⟩, 9) := ⟨⟨by decide +kernel, by decide +kernel⟩, List.mem_of_getElem? (i := 110) (by decide +kernel), List.mem_of_getElem? (i := 475) (by decide +kernel), List.mem_of_getElem? (i := 476) (by decide +kernel)⟩
theorem lw_p7 : lw_okq (⟨"DesertTown$Race", "tellPlaces", "(I)V"⟩, 9) := ⟨⟨by decide +kernel, by decide +kernel⟩, List.mem_of_getElem? (i := 110) (by decide +kernel), List.mem_of_getElem? (i := 479) (by decide +kernel), List.mem_of_getElem? (i := 480) (by decide +kernel)⟩
theorem lw_p8 : lw_okq (⟨"DesertTown$Kitchens", "fewestSets", "()I"⟩, 8) := ⟨⟨by decide +kernel, by decide +kernel⟩, List.mem_of_getElem? (i := 154) (by decide +kernel), List.mem_of_getElem? (i := 500) (by decide +kernel), List.mem_of_getElem? (i := 501) (by decide +kernel)⟩
theorem lw_p9 : lw_okq (⟨"DesertTown$Kitchens", "share", "(III)Z"⟩, 8) := ⟨⟨by decide +kernel, by decide +kernel⟩, List.mem_of_getElem? (i := 154) (by decide +kernel), List.mem_of_getElem? (i := 504) (by decide +kernel), List.mem_of_getElem? (i := 505) (by decide +kernel)⟩
theorem lw_p10 : lw_okq (⟨"DesertTown$Kitchens", "canDo", "(II)Z"⟩, 8) := ⟨⟨by decide +kernel, by decide +kernel⟩, List.mem_of_getElem? (i := 154) (by decide +kernel), List.mem_of_getElem? (i := 508) (by decide +kernel), List.mem_of_getElem? (i := 509) (by decide +kernel)⟩
theorem lw_p11 : lw_okq (⟨"DesertTown", "sweepersCome", "(II)I"⟩, 10) := ⟨⟨by decide +kernel, by decide +kernel⟩, List.mem_of_getElem? (i := 17) (by decide +kernel), List.mem_of_getElem? (i := 561) (by decide +kernel), List.mem_of_getElem? (i := 562) (by decide +kernel)⟩
theorem lw_p12 : lw_okq (⟨"DesertTownModel", "isRacer", "(I)Z"⟩, 30) := ⟨⟨by decide +kernel, by decide +kernel⟩, List.mem_of_getElem? (i := 570) (by decide +kernel), List.mem_of_getElem? (i := 692) (by decide +kernel), List.mem_of_getElem? (i := 693) (by decide +kernel)⟩
theorem lw_p13 : lw_okq (⟨"DesertTownModel", "length", "(I)I"⟩, 30) := ⟨⟨by decide +kernel, by decide +kernel⟩, List.mem_of_getElem? (i := 570) (by decide +kernel), List.mem_of_getElem? (i := 696) (by decide +kernel), List.mem_of_getElem? (i := 697) (by decide +kernel)⟩
theorem lw_p14 : lw_okq (⟨"DesertTownModel", "next0", "()V"⟩, 30) := ⟨⟨by decide +kernel, by decide +kernel⟩, List.mem_of_getElem? (i := 570) (by decide +kernel), List.mem_of_getElem? (i := 716) (by decide +kernel), List.mem_of_getElem? (i := 717) (by decide +kernel)⟩
theorem lw_p15 : lw_okq (⟨"DesertTownModel", "see", "(I)I"⟩, 30) := ⟨⟨by decide +kernel, by decide +kernel⟩, List.mem_of_getElem? (i := 570) (by decide +kernel), List.mem_of_getElem? (i := 720) (by decide +kernel), List.mem_of_getElem? (i := 721) (by decide +kernel)⟩
def lw_privs_1 : List (MethodName × Nat) := [(⟨"DesertTown$BookReader", "faultOf", "(LDesertTown$Tape;IIILDesertTown$RoadBook;)I"⟩, 6), (⟨"DesertTown$BookReader", "faultOfNumber", "(IILDesertTown$RoadBook;)I"⟩, 6), (⟨"DesertTown", "settle", "()V"⟩, 10), (⟨"DesertTown$Race", "forget", "(I)V"⟩, 9), (⟨"DesertTown$Race", "runStage", "(ILDesertTown$Racers;)V"⟩, 9), (⟨"DesertTown$Race", "rank", "(II)V"⟩, 9), (⟨"DesertTown$Race", "isAhead", "(III)Z"⟩, 9), (⟨"DesertTown$Race", "tellPlaces", "(I)V"⟩, 9), (⟨"DesertTown$Kitchens", "fewestSets", "()I"⟩, 8), (⟨"DesertTown$Kitchens", "share", "(III)Z"⟩, 8), (⟨"DesertTown$Kitchens", "canDo", "(II)Z"⟩, 8), (⟨"DesertTown", "sweepersCome", "(II)I"⟩, 10), (⟨"DesertTownModel", "isRacer", "(I)Z"⟩, 30), (⟨"DesertTownModel", "length", "(I)I"⟩, 30), (⟨"DesertTownModel", "next0", "()V"⟩, 30), (⟨"DesertTownModel", "see", "(I)I"⟩, 30)]
theorem lw_r1 : ∀ q ∈ lw_privs_1, lw_okq q := List.forall_mem_cons.mpr ⟨lw_p0, List.forall_mem_cons.mpr ⟨lw_p1, List.forall_mem_cons.mpr ⟨lw_p2, List.forall_mem_cons.mpr ⟨lw_p3, List.forall_mem_cons.mpr ⟨lw_p4, List.forall_mem_cons.mpr ⟨lw_p5, List.forall_mem_cons.mpr ⟨lw_p6, List.forall_mem_cons.mpr ⟨lw_p7, List.forall_mem_cons.mpr ⟨lw_p8, List.forall_mem_cons.mpr ⟨lw_p9, List.forall_mem_cons.mpr ⟨lw_p10, List.forall_mem_cons.mpr ⟨lw_p11, List.forall_mem_cons.mpr ⟨lw_p12, List.forall_mem_cons.mpr ⟨lw_p13, List.forall_mem_cons.mpr ⟨lw_p14, List.forall_mem_cons.mpr ⟨lw_p15, fun _ h => absurd h List.not_mem_nil⟩⟩⟩⟩⟩⟩⟩⟩⟩⟩⟩⟩⟩⟩⟩⟩
theorem lw_p16 : lw_okq (⟨"DesertTownModel", "aZone", "()Z"⟩, 30) := ⟨⟨by decide +kernel, by decide +kernel⟩, List.mem_of_getElem? (i := 570) (by decide +kernel), List.mem_of_getElem? (i := 737) (by decide +kernel), List.mem_of_getElem? (i := 738) (by decide +kernel)⟩
theorem lw_p17 : lw_okq (⟨"DesertTownModel", "need", "(I)Z"⟩, 30) := ⟨⟨by decide +kernel, by decide +kernel⟩, List.mem_of_getElem? (i := 570) (by decide +kernel), List.mem_of_getElem? (i := 741) (by decide +kernel), List.mem_of_getElem? (i := 742) (by decide +kernel)⟩
theorem lw_p18 : lw_okq (⟨"DesertTownModel", "bad", "(I)Z"⟩, 30) := ⟨⟨by decide +kernel, by decide +kernel⟩, List.mem_of_getElem? (i := 570) (by decide +kernel), List.mem_of_getElem? (i := 745) (by decide +kernel), List.mem_of_getElem? (i := 746) (by decide +kernel)⟩
theorem lw_p19 : lw_okq (⟨"DesertTownModel", "aNumber", "(II)Z"⟩, 30) := ⟨⟨by decide +kernel, by decide +kernel⟩, List.mem_of_getElem? (i := 570) (by decide +kernel), List.mem_of_getElem? (i := 749) (by decide +kernel), List.mem_of_getElem? (i := 750) (by decide +kernel)⟩
theorem lw_p20 : lw_okq (⟨"DesertTownModel", "all", "()I"⟩, 30) := ⟨⟨by decide +kernel, by decide +kernel⟩, List.mem_of_getElem? (i := 570) (by decide +kernel), List.mem_of_getElem? (i := 753) (by decide +kernel), List.mem_of_getElem? (i := 754) (by decide +kernel)⟩
theorem lw_p21 : lw_okq (⟨"DesertTownModel", "timeOf", "(II)I"⟩, 30) := ⟨⟨by decide +kernel, by decide +kernel⟩, List.mem_of_getElem? (i := 570) (by decide +kernel), List.mem_of_getElem? (i := 769) (by decide +kernel), List.mem_of_getElem? (i := 770) (by decide +kernel)⟩
theorem lw_p22 : lw_okq (⟨"DesertTownModel", "runs", "()V"⟩, 30) := ⟨⟨by decide +kernel, by decide +kernel⟩, List.mem_of_getElem? (i := 570) (by decide +kernel), List.mem_of_getElem? (i := 781) (by decide +kernel), List.mem_of_getElem? (i := 782) (by decide +kernel)⟩
theorem lw_p23 : lw_okq (⟨"DesertTownModel", "comes", "(II)V"⟩, 30) := ⟨⟨by decide +kernel, by decide +kernel⟩, List.mem_of_getElem? (i := 570) (by decide +kernel), List.mem_of_getElem? (i := 785) (by decide +kernel), List.mem_of_getElem? (i := 786) (by decide +kernel)⟩
theorem lw_p24 : lw_okq (⟨"DesertTownModel", "isAhead", "(III)Z"⟩, 30) := ⟨⟨by decide +kernel, by decide +kernel⟩, List.mem_of_getElem? (i := 570) (by decide +kernel), List.mem_of_getElem? (i := 789) (by decide +kernel), List.mem_of_getElem? (i := 790) (by decide +kernel)⟩
theorem lw_p25 : lw_okq (⟨"DesertTownModel", "finds", "()I"⟩, 30) := ⟨⟨by decide +kernel, by decide +kernel⟩, List.mem_of_getElem? (i := 570) (by decide +kernel), List.mem_of_getElem? (i := 801) (by decide +kernel), List.mem_of_getElem? (i := 802) (by decide +kernel)⟩
theorem lw_p26 : lw_okq (⟨"DesertTownModel", "kitchens", "()V"⟩, 30) := ⟨⟨by decide +kernel, by decide +kernel⟩, List.mem_of_getElem? (i := 570) (by decide +kernel), List.mem_of_getElem? (i := 805) (by decide +kernel), List.mem_of_getElem? (i := 806) (by decide +kernel)⟩
theorem lw_p27 : lw_okq (⟨"DesertTownModel", "tries", "(II)Z"⟩, 30) := ⟨⟨by decide +kernel, by decide +kernel⟩, List.mem_of_getElem? (i := 570) (by decide +kernel), List.mem_of_getElem? (i := 809) (by decide +kernel), List.mem_of_getElem? (i := 810) (by decide +kernel)⟩
theorem lw_p28 : lw_okq (⟨"DesertTownModel", "isNeeded", "(I)Z"⟩, 30) := ⟨⟨by decide +kernel, by decide +kernel⟩, List.mem_of_getElem? (i := 570) (by decide +kernel), List.mem_of_getElem? (i := 813) (by decide +kernel), List.mem_of_getElem? (i := 814) (by decide +kernel)⟩
theorem lw_p29 : lw_okq (⟨"DesertTownModel", "canDo", "(II)Z"⟩, 30) := ⟨⟨by decide +kernel, by decide +kernel⟩, List.mem_of_getElem? (i := 570) (by decide +kernel), List.mem_of_getElem? (i := 817) (by decide +kernel), List.mem_of_getElem? (i := 818) (by decide +kernel)⟩
theorem lw_p30 : lw_okq (⟨"DesertTownModel", "lastOf", "(II)I"⟩, 30) := ⟨⟨by decide +kernel, by decide +kernel⟩, List.mem_of_getElem? (i := 570) (by decide +kernel), List.mem_of_getElem? (i := 821) (by decide +kernel), List.mem_of_getElem? (i := 822) (by decide +kernel)⟩
theorem lw_p31 : lw_okq (⟨"DesertTownModel", "between", "(II)I"⟩, 30) := ⟨⟨by decide +kernel, by decide +kernel⟩, List.mem_of_getElem? (i := 570) (by decide +kernel), List.mem_of_getElem? (i := 825) (by decide +kernel), List.mem_of_getElem? (i := 826) (by decide +kernel)⟩
def lw_privs_2 : List (MethodName × Nat) := [(⟨"DesertTownModel", "aZone", "()Z"⟩, 30), (⟨"DesertTownModel", "need", "(I)Z"⟩, 30), (⟨"DesertTownModel", "bad", "(I)Z"⟩, 30), (⟨"DesertTownModel", "aNumber", "(II)Z"⟩, 30), (⟨"DesertTownModel", "all", "()I"⟩, 30), (⟨"DesertTownModel", "timeOf", "(II)I"⟩, 30), (⟨"DesertTownModel", "runs", "()V"⟩, 30), (⟨"DesertTownModel", "comes", "(II)V"⟩, 30), (⟨"DesertTownModel", "isAhead", "(III)Z"⟩, 30), (⟨"DesertTownModel", "finds", "()I"⟩, 30), (⟨"DesertTownModel", "kitchens", "()V"⟩, 30), (⟨"DesertTownModel", "tries", "(II)Z"⟩, 30), (⟨"DesertTownModel", "isNeeded", "(I)Z"⟩, 30), (⟨"DesertTownModel", "canDo", "(II)Z"⟩, 30), (⟨"DesertTownModel", "lastOf", "(II)I"⟩, 30), (⟨"DesertTownModel", "between", "(II)I"⟩, 30)]
theorem lw_r2 : ∀ q ∈ lw_privs_2, lw_okq q := List.forall_mem_cons.mpr ⟨lw_p16, List.forall_mem_cons.mpr ⟨lw_p17, List.forall_mem_cons.mpr ⟨lw_p18, List.forall_mem_cons.mpr ⟨lw_p19, List.forall_mem_cons.mpr ⟨lw_p20, List.forall_mem_cons.mpr ⟨lw_p21, List.forall_mem_cons.mpr ⟨lw_p22, List.forall_mem_cons.mpr ⟨lw_p23, List.forall_mem_cons.mpr ⟨lw_p24, List.forall_mem_cons.mpr ⟨lw_p25, List.forall_mem_cons.mpr ⟨lw_p26, List.forall_mem_cons.mpr ⟨lw_p27, List.forall_mem_cons.mpr ⟨lw_p28, List.forall_mem_cons.mpr ⟨lw_p29, List.forall_mem_cons.mpr ⟨lw_p30, List.forall_mem_cons.mpr ⟨lw_p31, fun _ h => absurd h List.not_mem_nil⟩⟩⟩⟩⟩⟩⟩⟩⟩⟩⟩⟩⟩⟩⟩⟩
def lw_privs : List (MethodName × Nat) := lw_privs_1 ++ (lw_privs_2)
def lw_tbl : List Cond := k2_sels lw_privs ++ tables_1
theorem lw_privs_ok : ∀ q ∈ lw_privs, lw_okq q := by
  show ∀ q ∈ lw_privs_1 ++ (lw_privs_2), lw_okq q
  exact List.forall_mem_append.mpr ⟨lw_r1, lw_r2⟩
def RX0 : String := "DesertTown$BookReader"
def TX0 : u_T := fun k => match k with
  | 0 => ("DesertTown$BookReader", "kind", "I", false)
  | 1 => ("DesertTown$BookReader", "place", "I", false)
  | 2 => ("DesertTown$BookReader", "stage", "I", false)
  | 3 => ("DesertTown$BookReader", "from", "I", false)
  | 4 => ("DesertTown$BookReader", "to", "I", false)
  | _ => ("DesertTown$BookReader", "speed", "I", false)
def tyX0 : Nat → FieldType := fun k => match k with
  | 0 => .int
  | 1 => .int
  | 2 => .int
  | 3 => .int
  | 4 => .int
  | _ => .int
abbrev wsX00 : List Cond := u_ws RX0 TX0 6
theorem nmX0 : ∀ a, a < 6 → ∀ b, b < 6 → a ≠ b → (TX0 a).2.1 ≠ (TX0 b).2.1 := by decide +kernel
theorem tyX0_ok : ∀ k, k < 6 → parseFieldDescriptor (TX0 k).2.2.1 = some (tyX0 k) := by decide +kernel
abbrev cX0_init : ByteArray := prog_2_method_1_code
def yX0_init : MethodName := ⟨RX0, "<init>", "()V"⟩
abbrev cX0_read : ByteArray := prog_2_method_2_code
def yX0_read : MethodName := ⟨RX0, "read", "(LDesertTown$Tape;LDesertTown$RoadBook;)Z"⟩
abbrev cX0_faultOf : ByteArray := prog_2_method_3_code
def yX0_faultOf : MethodName := ⟨RX0, "faultOf", "(LDesertTown$Tape;IIILDesertTown$RoadBook;)I"⟩
abbrev cX0_faultOfNumber : ByteArray := prog_2_method_4_code
def yX0_faultOfNumber : MethodName := ⟨RX0, "faultOfNumber", "(IILDesertTown$RoadBook;)I"⟩
abbrev cX0_keywordOf : ByteArray := prog_2_method_5_code
def yX0_keywordOf : MethodName := ⟨RX0, "keywordOf", "(I)Ljava/lang/String;"⟩
abbrev cX0_behindBlanks : ByteArray := prog_2_method_6_code
def yX0_behindBlanks : MethodName := ⟨RX0, "behindBlanks", "(LDesertTown$Tape;I)I"⟩
abbrev cX0_behindToken : ByteArray := prog_2_method_7_code
def yX0_behindToken : MethodName := ⟨RX0, "behindToken", "(LDesertTown$Tape;I)I"⟩
abbrev cX0_isWord : ByteArray := prog_2_method_8_code
def yX0_isWord : MethodName := ⟨RX0, "isWord", "(LDesertTown$Tape;IILjava/lang/String;)Z"⟩
abbrev cX0_numberOf : ByteArray := prog_2_method_9_code
def yX0_numberOf : MethodName := ⟨RX0, "numberOf", "(LDesertTown$Tape;II)I"⟩
abbrev cX0_isBlank : ByteArray := prog_2_method_10_code
def yX0_isBlank : MethodName := ⟨RX0, "isBlank", "(I)Z"⟩
abbrev cX0_isDigit : ByteArray := prog_2_method_11_code
def yX0_isDigit : MethodName := ⟨RX0, "isDigit", "(I)Z"⟩
abbrev cX0_isLetter : ByteArray := prog_2_method_12_code
def yX0_isLetter : MethodName := ⟨RX0, "isLetter", "(I)Z"⟩
def RX1 : String := "DesertTown$Course"
def TX1 : u_T := fun k => match k with
  | 0 => ("DesertTown$Course", "lengths", "[I", true)
  | _ => ("DesertTown$Course", "hours", "[I", true)
def tyX1 : Nat → FieldType := fun k => match k with
  | 0 => .array .int
  | _ => .array .int
abbrev wsX10 : List Cond := u_ws RX1 TX1 2
theorem nmX1 : ∀ a, a < 2 → ∀ b, b < 2 → a ≠ b → (TX1 a).2.1 ≠ (TX1 b).2.1 := by decide +kernel
theorem tyX1_ok : ∀ k, k < 2 → parseFieldDescriptor (TX1 k).2.2.1 = some (tyX1 k) := by decide +kernel
abbrev cX1_init : ByteArray := prog_3_method_1_code
def yX1_init : MethodName := ⟨RX1, "<init>", "()V"⟩
abbrev cX1_kilometerOf : ByteArray := prog_3_method_2_code
def yX1_kilometerOf : MethodName := ⟨RX1, "kilometerOf", "(I)I"⟩
abbrev cX1_begins : ByteArray := prog_3_method_3_code
def yX1_begins : MethodName := ⟨RX1, "begins", "(I)I"⟩
def RX2 : String := "DesertTown$Kitchens"
def TX2 : u_T := fun k => match k with
  | 0 => ("DesertTown$Kitchens", "opens", "[I", true)
  | 1 => ("DesertTown$Kitchens", "closes", "[I", true)
  | 2 => ("DesertTown$Kitchens", "setOf", "[I", true)
  | 3 => ("DesertTown$Kitchens", "fewest", "I", false)
  | 4 => ("DesertTown$Kitchens", "kilometers", "[I", true)
  | 5 => ("DesertTown$Kitchens", "latestCamp", "[I", true)
  | 6 => ("DesertTown$Kitchens", "needing", "I", false)
  | _ => ("DesertTown$Kitchens", "pace", "I", false)
def tyX2 : Nat → FieldType := fun k => match k with
  | 0 => .array .int
  | 1 => .array .int
  | 2 => .array .int
  | 3 => .int
  | 4 => .array .int
  | 5 => .array .int
  | 6 => .int
  | _ => .int
abbrev wsX20 : List Cond := u_ws RX2 TX2 8
theorem nmX2 : ∀ a, a < 8 → ∀ b, b < 8 → a ≠ b → (TX2 a).2.1 ≠ (TX2 b).2.1 := by decide +kernel
theorem tyX2_ok : ∀ k, k < 8 → parseFieldDescriptor (TX2 k).2.2.1 = some (tyX2 k) := by decide +kernel
abbrev cX2_init : ByteArray := prog_4_method_1_code
def yX2_init : MethodName := ⟨RX2, "<init>", "()V"⟩
abbrev cX2_plan : ByteArray := prog_4_method_2_code
def yX2_plan : MethodName := ⟨RX2, "plan", "(LDesertTown$Course;LDesertTown$Race;[I)V"⟩
abbrev cX2_fewestSets : ByteArray := prog_4_method_3_code
def yX2_fewestSets : MethodName := ⟨RX2, "fewestSets", "()I"⟩
abbrev cX2_firstCampOf : ByteArray := prog_4_method_4_code
def yX2_firstCampOf : MethodName := ⟨RX2, "firstCampOf", "(I)I"⟩
abbrev cX2_lastCampOf : ByteArray := prog_4_method_5_code
def yX2_lastCampOf : MethodName := ⟨RX2, "lastCampOf", "(I)I"⟩
abbrev cX2_share : ByteArray := prog_4_method_6_code
def yX2_share : MethodName := ⟨RX2, "share", "(III)Z"⟩
abbrev cX2_canDo : ByteArray := prog_4_method_7_code
def yX2_canDo : MethodName := ⟨RX2, "canDo", "(II)Z"⟩
def RX3 : String := "DesertTown$Race"
def TX3 : u_T := fun k => match k with
  | 0 => ("DesertTown$Race", "times", "[[I", true)
  | 1 => ("DesertTown$Race", "starts", "[[I", true)
  | 2 => ("DesertTown$Race", "arrivals", "[[I", true)
  | 3 => ("DesertTown$Race", "places", "[[I", true)
  | 4 => ("DesertTown$Race", "sums", "[[I", true)
  | 5 => ("DesertTown$Race", "orders", "[[I", true)
  | 6 => ("DesertTown$Race", "came", "[I", true)
  | 7 => ("DesertTown$Race", "started", "[I", true)
  | _ => ("DesertTown$Race", "begins", "[I", true)
def tyX3 : Nat → FieldType := fun k => match k with
  | 0 => .array (.array .int)
  | 1 => .array (.array .int)
  | 2 => .array (.array .int)
  | 3 => .array (.array .int)
  | 4 => .array (.array .int)
  | 5 => .array (.array .int)
  | 6 => .array .int
  | 7 => .array .int
  | _ => .array .int
abbrev wsX30 : List Cond := u_ws RX3 TX3 9
theorem nmX3 : ∀ a, a < 9 → ∀ b, b < 9 → a ≠ b → (TX3 a).2.1 ≠ (TX3 b).2.1 := by decide +kernel
theorem tyX3_ok : ∀ k, k < 9 → parseFieldDescriptor (TX3 k).2.2.1 = some (tyX3 k) := by decide +kernel
abbrev cX3_init : ByteArray := prog_5_method_1_code
def yX3_init : MethodName := ⟨RX3, "<init>", "()V"⟩
abbrev cX3_run : ByteArray := prog_5_method_2_code
def yX3_run : MethodName := ⟨RX3, "run", "(LDesertTown$Course;LDesertTown$Racers;LDesertTown$RoadBook;)V"⟩
abbrev cX3_lastStart : ByteArray := prog_5_method_3_code
def yX3_lastStart : MethodName := ⟨RX3, "lastStart", "(I)I"⟩
abbrev cX3_brokenDown : ByteArray := prog_5_method_4_code
def yX3_brokenDown : MethodName := ⟨RX3, "brokenDown", "(ILDesertTown$Racers;)I"⟩
abbrev cX3_firstArrival : ByteArray := prog_5_method_5_code
def yX3_firstArrival : MethodName := ⟨RX3, "firstArrival", "(I)I"⟩
abbrev cX3_lastArrival : ByteArray := prog_5_method_6_code
def yX3_lastArrival : MethodName := ⟨RX3, "lastArrival", "(I)I"⟩
abbrev cX3_forget : ByteArray := prog_5_method_7_code
def yX3_forget : MethodName := ⟨RX3, "forget", "(I)V"⟩
abbrev cX3_runStage : ByteArray := prog_5_method_8_code
def yX3_runStage : MethodName := ⟨RX3, "runStage", "(ILDesertTown$Racers;)V"⟩
abbrev cX3_rank : ByteArray := prog_5_method_9_code
def yX3_rank : MethodName := ⟨RX3, "rank", "(II)V"⟩
abbrev cX3_isAhead : ByteArray := prog_5_method_10_code
def yX3_isAhead : MethodName := ⟨RX3, "isAhead", "(III)Z"⟩
abbrev cX3_tellPlaces : ByteArray := prog_5_method_11_code
def yX3_tellPlaces : MethodName := ⟨RX3, "tellPlaces", "(I)V"⟩
abbrev cX3_timeFor : ByteArray := prog_5_method_12_code
def yX3_timeFor : MethodName := ⟨RX3, "timeFor", "(IILDesertTown$RoadBook;I)I"⟩
def RX4 : String := "DesertTown$Racers"
def TX4 : u_T := fun k => match k with
  | 0 => ("DesertTown$Racers", "speeds", "[I", true)
  | 1 => ("DesertTown$Racers", "breakStages", "[I", true)
  | 2 => ("DesertTown$Racers", "breakKilometers", "[I", true)
  | _ => ("DesertTown$Racers", "count", "I", false)
def tyX4 : Nat → FieldType := fun k => match k with
  | 0 => .array .int
  | 1 => .array .int
  | 2 => .array .int
  | _ => .int
abbrev wsX40 : List Cond := u_ws RX4 TX4 4
theorem nmX4 : ∀ a, a < 4 → ∀ b, b < 4 → a ≠ b → (TX4 a).2.1 ≠ (TX4 b).2.1 := by decide +kernel
theorem tyX4_ok : ∀ k, k < 4 → parseFieldDescriptor (TX4 k).2.2.1 = some (tyX4 k) := by decide +kernel
abbrev cX4_init : ByteArray := prog_6_method_1_code
def yX4_init : MethodName := ⟨RX4, "<init>", "()V"⟩
abbrev cX4_has : ByteArray := prog_6_method_2_code
def yX4_has : MethodName := ⟨RX4, "has", "(I)Z"⟩
abbrev cX4_add : ByteArray := prog_6_method_3_code
def yX4_add : MethodName := ⟨RX4, "add", "(I)I"⟩
abbrev cX4_forgetBreaksFrom : ByteArray := prog_6_method_4_code
def yX4_forgetBreaksFrom : MethodName := ⟨RX4, "forgetBreaksFrom", "(II)V"⟩
def RX5 : String := "DesertTown$RoadBook"
def TX5 : u_T := fun k => match k with
  | 0 => ("DesertTown$RoadBook", "counts", "[I", true)
  | 1 => ("DesertTown$RoadBook", "froms", "[[I", true)
  | 2 => ("DesertTown$RoadBook", "tos", "[[I", true)
  | 3 => ("DesertTown$RoadBook", "speeds", "[[I", true)
  | _ => ("DesertTown$RoadBook", "total", "I", false)
def tyX5 : Nat → FieldType := fun k => match k with
  | 0 => .array .int
  | 1 => .array (.array .int)
  | 2 => .array (.array .int)
  | 3 => .array (.array .int)
  | _ => .int
abbrev wsX50 : List Cond := u_ws RX5 TX5 5
theorem nmX5 : ∀ a, a < 5 → ∀ b, b < 5 → a ≠ b → (TX5 a).2.1 ≠ (TX5 b).2.1 := by decide +kernel
theorem tyX5_ok : ∀ k, k < 5 → parseFieldDescriptor (TX5 k).2.2.1 = some (tyX5 k) := by decide +kernel
abbrev cX5_init : ByteArray := prog_7_method_1_code
def yX5_init : MethodName := ⟨RX5, "<init>", "()V"⟩
abbrev cX5_clear : ByteArray := prog_7_method_2_code
def yX5_clear : MethodName := ⟨RX5, "clear", "()V"⟩
abbrev cX5_isFull : ByteArray := prog_7_method_3_code
def yX5_isFull : MethodName := ⟨RX5, "isFull", "(I)Z"⟩
abbrev cX5_reach : ByteArray := prog_7_method_4_code
def yX5_reach : MethodName := ⟨RX5, "reach", "(I)I"⟩
abbrev cX5_add : ByteArray := prog_7_method_5_code
def yX5_add : MethodName := ⟨RX5, "add", "(IIII)V"⟩
def RX6 : String := "DesertTown$Tape"
def TX6 : u_T := fun k => match k with
  | 0 => ("DesertTown$Tape", "bytes", "[B", true)
  | _ => ("DesertTown$Tape", "length", "I", false)
def tyX6 : Nat → FieldType := fun k => match k with
  | 0 => .array .byte
  | _ => .int
abbrev wsX60 : List Cond := u_ws RX6 TX6 2
theorem nmX6 : ∀ a, a < 2 → ∀ b, b < 2 → a ≠ b → (TX6 a).2.1 ≠ (TX6 b).2.1 := by decide +kernel
theorem tyX6_ok : ∀ k, k < 2 → parseFieldDescriptor (TX6 k).2.2.1 = some (tyX6 k) := by decide +kernel
abbrev cX6_init : ByteArray := prog_8_method_1_code
def yX6_init : MethodName := ⟨RX6, "<init>", "()V"⟩
abbrev cX6_append : ByteArray := prog_8_method_2_code
def yX6_append : MethodName := ⟨RX6, "append", "(I)V"⟩
abbrev cX6_byteAt : ByteArray := prog_8_method_3_code
def yX6_byteAt : MethodName := ⟨RX6, "byteAt", "(I)I"⟩
def RX7 : String := "DesertTown"
def TX7 : u_T := fun k => match k with
  | 0 => ("DesertTown", "course", "LDesertTown$Course;", true)
  | 1 => ("DesertTown", "racers", "LDesertTown$Racers;", true)
  | 2 => ("DesertTown", "tape", "LDesertTown$Tape;", true)
  | 3 => ("DesertTown", "reader", "LDesertTown$BookReader;", true)
  | 4 => ("DesertTown", "race", "LDesertTown$Race;", true)
  | 5 => ("DesertTown", "kitchens", "LDesertTown$Kitchens;", true)
  | 6 => ("DesertTown", "settings", "[I", true)
  | 7 => ("DesertTown", "roadBook", "LDesertTown$RoadBook;", false)
  | 8 => ("DesertTown", "draft", "LDesertTown$RoadBook;", false)
  | _ => ("DesertTown", "stale", "Z", false)
def tyX7 : Nat → FieldType := fun k => match k with
  | 0 => .object "DesertTown$Course"
  | 1 => .object "DesertTown$Racers"
  | 2 => .object "DesertTown$Tape"
  | 3 => .object "DesertTown$BookReader"
  | 4 => .object "DesertTown$Race"
  | 5 => .object "DesertTown$Kitchens"
  | 6 => .array .int
  | 7 => .object "DesertTown$RoadBook"
  | 8 => .object "DesertTown$RoadBook"
  | _ => .boolean
abbrev wsX70 : List Cond := u_ws RX7 TX7 10
theorem nmX7 : ∀ a, a < 10 → ∀ b, b < 10 → a ≠ b → (TX7 a).2.1 ≠ (TX7 b).2.1 := by decide +kernel
theorem tyX7_ok : ∀ k, k < 10 → parseFieldDescriptor (TX7 k).2.2.1 = some (tyX7 k) := by decide +kernel
abbrev cX7_init : ByteArray := prog_1_method_1_code
def yX7_init : MethodName := ⟨RX7, "<init>", "()V"⟩
abbrev cX7_camp : ByteArray := prog_1_method_2_code
def yX7_camp : MethodName := ⟨RX7, "camp", "(II)Z"⟩
abbrev cX7_hour : ByteArray := prog_1_method_3_code
def yX7_hour : MethodName := ⟨RX7, "hour", "(II)Z"⟩
abbrev cX7_racer : ByteArray := prog_1_method_4_code
def yX7_racer : MethodName := ⟨RX7, "racer", "(I)I"⟩
abbrev cX7_breaks : ByteArray := prog_1_method_5_code
def yX7_breaks : MethodName := ⟨RX7, "breaks", "(III)Z"⟩
abbrev cX7_set : ByteArray := prog_1_method_6_code
def yX7_set : MethodName := ⟨RX7, "set", "(II)Z"⟩
abbrev cX7_feed : ByteArray := prog_1_method_7_code
def yX7_feed : MethodName := ⟨RX7, "feed", "(IIIII)I"⟩
abbrev cX7_end : ByteArray := prog_1_method_8_code
def yX7_end : MethodName := ⟨RX7, "end", "(I)Z"⟩
abbrev cX7_book : ByteArray := prog_1_method_9_code
def yX7_book : MethodName := ⟨RX7, "book", "()I"⟩
abbrev cX7_fault : ByteArray := prog_1_method_10_code
def yX7_fault : MethodName := ⟨RX7, "fault", "(I)I"⟩
abbrev cX7_look : ByteArray := prog_1_method_11_code
def yX7_look : MethodName := ⟨RX7, "look", "(I)I"⟩
abbrev cX7_time : ByteArray := prog_1_method_12_code
def yX7_time : MethodName := ⟨RX7, "time", "(II)I"⟩
abbrev cX7_ran : ByteArray := prog_1_method_13_code
def yX7_ran : MethodName := ⟨RX7, "ran", "(III)I"⟩
abbrev cX7_standing : ByteArray := prog_1_method_14_code
def yX7_standing : MethodName := ⟨RX7, "standing", "(II)I"⟩
abbrev cX7_of : ByteArray := prog_1_method_15_code
def yX7_of : MethodName := ⟨RX7, "of", "(II)I"⟩
abbrev cX7_sets : ByteArray := prog_1_method_16_code
def yX7_sets : MethodName := ⟨RX7, "sets", "()I"⟩
abbrev cX7_goes : ByteArray := prog_1_method_17_code
def yX7_goes : MethodName := ⟨RX7, "goes", "(I)I"⟩
abbrev cX7_sweep : ByteArray := prog_1_method_18_code
def yX7_sweep : MethodName := ⟨RX7, "sweep", "(II)I"⟩
abbrev cX7_sweepersCome : ByteArray := prog_1_method_19_code
def yX7_sweepersCome : MethodName := ⟨RX7, "sweepersCome", "(II)I"⟩
abbrev cX7_settle : ByteArray := prog_1_method_20_code
def yX7_settle : MethodName := ⟨RX7, "settle", "()V"⟩
abbrev cX7_within : ByteArray := prog_1_method_21_code
def yX7_within : MethodName := ⟨RX7, "within", "(III)Z"⟩
abbrev cX7_isStage : ByteArray := prog_1_method_22_code
def yX7_isStage : MethodName := ⟨RX7, "isStage", "(I)Z"⟩
abbrev cX7_isCamp : ByteArray := prog_1_method_23_code
def yX7_isCamp : MethodName := ⟨RX7, "isCamp", "(I)Z"⟩
abbrev cX7_divideUpwards : ByteArray := prog_1_method_24_code
def yX7_divideUpwards : MethodName := ⟨RX7, "divideUpwards", "(JJ)I"⟩
abbrev cX7_minutesFor : ByteArray := prog_1_method_25_code
def yX7_minutesFor : MethodName := ⟨RX7, "minutesFor", "(II)I"⟩
def RX8 : String := "DesertTownModel"
def TX8 : u_T := fun k => match k with
  | 0 => ("DesertTownModel", "racers", "I", false)
  | 1 => ("DesertTownModel", "far", "[I", true)
  | 2 => ("DesertTownModel", "hour", "[I", true)
  | 3 => ("DesertTownModel", "speed", "[I", true)
  | 4 => ("DesertTownModel", "brokenIn", "[I", true)
  | 5 => ("DesertTownModel", "brokenAt", "[I", true)
  | 6 => ("DesertTownModel", "told", "[I", true)
  | 7 => ("DesertTownModel", "zones", "[I", true)
  | 8 => ("DesertTownModel", "zone", "[I", true)
  | 9 => ("DesertTownModel", "freshMany", "[I", true)
  | 10 => ("DesertTownModel", "fresh", "[I", true)
  | 11 => ("DesertTownModel", "tape", "[I", true)
  | 12 => ("DesertTownModel", "taped", "I", false)
  | 13 => ("DesertTownModel", "at", "I", false)
  | 14 => ("DesertTownModel", "token", "I", false)
  | 15 => ("DesertTownModel", "tokenAt", "I", false)
  | 16 => ("DesertTownModel", "value", "I", false)
  | 17 => ("DesertTownModel", "wrong", "I", false)
  | 18 => ("DesertTownModel", "wrongAt", "I", false)
  | 19 => ("DesertTownModel", "faultKind", "I", false)
  | 20 => ("DesertTownModel", "number", "I", false)
  | 21 => ("DesertTownModel", "faultPlace", "I", false)
  | 22 => ("DesertTownModel", "start", "[I", true)
  | 23 => ("DesertTownModel", "arrival", "[I", true)
  | 24 => ("DesertTownModel", "sum", "[I", true)
  | 25 => ("DesertTownModel", "row", "[I", true)
  | 26 => ("DesertTownModel", "came", "[I", true)
  | 27 => ("DesertTownModel", "opens", "[I", true)
  | 28 => ("DesertTownModel", "closes", "[I", true)
  | _ => ("DesertTownModel", "setOf", "[I", true)
def tyX8 : Nat → FieldType := fun k => match k with
  | 0 => .int
  | 1 => .array .int
  | 2 => .array .int
  | 3 => .array .int
  | 4 => .array .int
  | 5 => .array .int
  | 6 => .array .int
  | 7 => .array .int
  | 8 => .array .int
  | 9 => .array .int
  | 10 => .array .int
  | 11 => .array .int
  | 12 => .int
  | 13 => .int
  | 14 => .int
  | 15 => .int
  | 16 => .int
  | 17 => .int
  | 18 => .int
  | 19 => .int
  | 20 => .int
  | 21 => .int
  | 22 => .array .int
  | 23 => .array .int
  | 24 => .array .int
  | 25 => .array .int
  | 26 => .array .int
  | 27 => .array .int
  | 28 => .array .int
  | _ => .array .int
abbrev wsX80 : List Cond := u_ws RX8 TX8 30
theorem nmX8 : ∀ a, a < 30 → ∀ b, b < 30 → a ≠ b → (TX8 a).2.1 ≠ (TX8 b).2.1 := by decide +kernel
theorem tyX8_ok : ∀ k, k < 30 → parseFieldDescriptor (TX8 k).2.2.1 = some (tyX8 k) := by decide +kernel
abbrev cX8_init : ByteArray := prog_10_method_1_code
def yX8_init : MethodName := ⟨RX8, "<init>", "()V"⟩
abbrev cX8_isIn : ByteArray := prog_10_method_2_code
def yX8_isIn : MethodName := ⟨RX8, "isIn", "(III)Z"⟩
abbrev cX8_isStage : ByteArray := prog_10_method_3_code
def yX8_isStage : MethodName := ⟨RX8, "isStage", "(I)Z"⟩
abbrev cX8_isCamp : ByteArray := prog_10_method_4_code
def yX8_isCamp : MethodName := ⟨RX8, "isCamp", "(I)Z"⟩
abbrev cX8_isRacer : ByteArray := prog_10_method_5_code
def yX8_isRacer : MethodName := ⟨RX8, "isRacer", "(I)Z"⟩
abbrev cX8_length : ByteArray := prog_10_method_6_code
def yX8_length : MethodName := ⟨RX8, "length", "(I)I"⟩
abbrev cX8_camp : ByteArray := prog_10_method_7_code
def yX8_camp : MethodName := ⟨RX8, "camp", "(II)Z"⟩
abbrev cX8_hour : ByteArray := prog_10_method_8_code
def yX8_hour : MethodName := ⟨RX8, "hour", "(II)Z"⟩
abbrev cX8_racer : ByteArray := prog_10_method_9_code
def yX8_racer : MethodName := ⟨RX8, "racer", "(I)I"⟩
abbrev cX8_breaks : ByteArray := prog_10_method_10_code
def yX8_breaks : MethodName := ⟨RX8, "breaks", "(III)Z"⟩
abbrev cX8_set : ByteArray := prog_10_method_11_code
def yX8_set : MethodName := ⟨RX8, "set", "(II)Z"⟩
abbrev cX8_feed : ByteArray := prog_10_method_12_code
def yX8_feed : MethodName := ⟨RX8, "feed", "(IIIII)I"⟩
abbrev cX8_end : ByteArray := prog_10_method_13_code
def yX8_end : MethodName := ⟨RX8, "end", "(I)Z"⟩
abbrev cX8_see : ByteArray := prog_10_method_14_code
def yX8_see : MethodName := ⟨RX8, "see", "(I)I"⟩
abbrev cX8_isLetter : ByteArray := prog_10_method_15_code
def yX8_isLetter : MethodName := ⟨RX8, "isLetter", "(I)Z"⟩
abbrev cX8_isDigit : ByteArray := prog_10_method_16_code
def yX8_isDigit : MethodName := ⟨RX8, "isDigit", "(I)Z"⟩
abbrev cX8_word : ByteArray := prog_10_method_17_code
def yX8_word : MethodName := ⟨RX8, "word", "(J)I"⟩
abbrev cX8_next0 : ByteArray := prog_10_method_18_code
def yX8_next0 : MethodName := ⟨RX8, "next0", "()V"⟩
abbrev cX8_bad : ByteArray := prog_10_method_19_code
def yX8_bad : MethodName := ⟨RX8, "bad", "(I)Z"⟩
abbrev cX8_need : ByteArray := prog_10_method_20_code
def yX8_need : MethodName := ⟨RX8, "need", "(I)Z"⟩
abbrev cX8_aNumber : ByteArray := prog_10_method_21_code
def yX8_aNumber : MethodName := ⟨RX8, "aNumber", "(II)Z"⟩
abbrev cX8_aZone : ByteArray := prog_10_method_22_code
def yX8_aZone : MethodName := ⟨RX8, "aZone", "()Z"⟩
abbrev cX8_book : ByteArray := prog_10_method_23_code
def yX8_book : MethodName := ⟨RX8, "book", "()I"⟩
abbrev cX8_all : ByteArray := prog_10_method_24_code
def yX8_all : MethodName := ⟨RX8, "all", "()I"⟩
abbrev cX8_fault : ByteArray := prog_10_method_25_code
def yX8_fault : MethodName := ⟨RX8, "fault", "(I)I"⟩
abbrev cX8_look : ByteArray := prog_10_method_26_code
def yX8_look : MethodName := ⟨RX8, "look", "(I)I"⟩
abbrev cX8_lesser : ByteArray := prog_10_method_27_code
def yX8_lesser : MethodName := ⟨RX8, "lesser", "(II)I"⟩
abbrev cX8_timeOf : ByteArray := prog_10_method_28_code
def yX8_timeOf : MethodName := ⟨RX8, "timeOf", "(II)I"⟩
abbrev cX8_time : ByteArray := prog_10_method_29_code
def yX8_time : MethodName := ⟨RX8, "time", "(II)I"⟩
abbrev cX8_runs : ByteArray := prog_10_method_30_code
def yX8_runs : MethodName := ⟨RX8, "runs", "()V"⟩
abbrev cX8_comes : ByteArray := prog_10_method_31_code
def yX8_comes : MethodName := ⟨RX8, "comes", "(II)V"⟩
abbrev cX8_isAhead : ByteArray := prog_10_method_32_code
def yX8_isAhead : MethodName := ⟨RX8, "isAhead", "(III)Z"⟩
abbrev cX8_ran : ByteArray := prog_10_method_33_code
def yX8_ran : MethodName := ⟨RX8, "ran", "(III)I"⟩
abbrev cX8_standing : ByteArray := prog_10_method_34_code
def yX8_standing : MethodName := ⟨RX8, "standing", "(II)I"⟩
abbrev cX8_isNeeded : ByteArray := prog_10_method_35_code
def yX8_isNeeded : MethodName := ⟨RX8, "isNeeded", "(I)Z"⟩
abbrev cX8_kitchens : ByteArray := prog_10_method_36_code
def yX8_kitchens : MethodName := ⟨RX8, "kitchens", "()V"⟩
abbrev cX8_between : ByteArray := prog_10_method_37_code
def yX8_between : MethodName := ⟨RX8, "between", "(II)I"⟩
abbrev cX8_lastOf : ByteArray := prog_10_method_38_code
def yX8_lastOf : MethodName := ⟨RX8, "lastOf", "(II)I"⟩
abbrev cX8_canDo : ByteArray := prog_10_method_39_code
def yX8_canDo : MethodName := ⟨RX8, "canDo", "(II)Z"⟩
abbrev cX8_tries : ByteArray := prog_10_method_40_code
def yX8_tries : MethodName := ⟨RX8, "tries", "(II)Z"⟩
abbrev cX8_finds : ByteArray := prog_10_method_41_code
def yX8_finds : MethodName := ⟨RX8, "finds", "()I"⟩
abbrev cX8_sets : ByteArray := prog_10_method_42_code
def yX8_sets : MethodName := ⟨RX8, "sets", "()I"⟩
abbrev cX8_goes : ByteArray := prog_10_method_43_code
def yX8_goes : MethodName := ⟨RX8, "goes", "(I)I"⟩
abbrev cX8_of : ByteArray := prog_10_method_44_code
def yX8_of : MethodName := ⟨RX8, "of", "(II)I"⟩
abbrev cX8_sweep : ByteArray := prog_10_method_45_code
def yX8_sweep : MethodName := ⟨RX8, "sweep", "(II)I"⟩
def RJ6 : String := "java/lang/Integer"
def TJ6 : u_T := fun k => match k with
  | _ => ("", "", "", false)
def tyJ6 : Nat → FieldType := fun k => match k with
  | _ => .int
abbrev wsJ60 : List Cond := u_ws RJ6 TJ6 0
theorem nmJ6 : ∀ a, a < 0 → ∀ b, b < 0 → a ≠ b → (TJ6 a).2.1 ≠ (TJ6 b).2.1 := by decide +kernel
theorem tyJ6_ok : ∀ k, k < 0 → parseFieldDescriptor (TJ6 k).2.2.1 = some (tyJ6 k) := by decide +kernel
abbrev cJ6_bitCount_0f7a4 : ByteArray := prog_11_method_49_code
def yJ6_bitCount_0f7a4 : MethodName := ⟨RJ6, "bitCount", "(I)I"⟩
def RJ9 : String := "java/lang/Math"
def TJ9 : u_T := fun k => match k with
  | _ => ("", "", "", false)
def tyJ9 : Nat → FieldType := fun k => match k with
  | _ => .int
abbrev wsJ90 : List Cond := u_ws RJ9 TJ9 0
theorem nmJ9 : ∀ a, a < 0 → ∀ b, b < 0 → a ≠ b → (TJ9 a).2.1 ≠ (TJ9 b).2.1 := by decide +kernel
theorem tyJ9_ok : ∀ k, k < 0 → parseFieldDescriptor (TJ9 k).2.2.1 = some (tyJ9 k) := by decide +kernel
abbrev cJ9_max_7cf53 : ByteArray := prog_12_method_65_code
def yJ9_max_7cf53 : MethodName := ⟨RJ9, "max", "(II)I"⟩
abbrev cJ9_min_7cf53 : ByteArray := prog_12_method_69_code
def yJ9_min_7cf53 : MethodName := ⟨RJ9, "min", "(II)I"⟩
def RJ0 : String := "java/lang/String"
def TJ0 : u_T := fun k => match k with
  | _ => ("", "", "", false)
def tyJ0 : Nat → FieldType := fun k => match k with
  | _ => .int
abbrev wsJ00 : List Cond := u_ws RJ0 TJ0 0
theorem nmJ0 : ∀ a, a < 0 → ∀ b, b < 0 → a ≠ b → (TJ0 a).2.1 ≠ (TJ0 b).2.1 := by decide +kernel
theorem tyJ0_ok : ∀ k, k < 0 → parseFieldDescriptor (TJ0 k).2.2.1 = some (tyJ0 k) := by decide +kernel
abbrev cJ0_length_8abf5 : ByteArray := prog_13_method_54_code
def yJ0_length_8abf5 : MethodName := ⟨RJ0, "length", "()I"⟩
abbrev cJ0_charAt_5068e : ByteArray := prog_13_method_56_code
def yJ0_charAt_5068e : MethodName := ⟨RJ0, "charAt", "(I)C"⟩
abbrev cJ0_coder_7d493 : ByteArray := prog_13_method_152_code
def yJ0_coder_7d493 : MethodName := ⟨RJ0, "coder", "()B"⟩
abbrev cJ0_isLatin1_aae02 : ByteArray := prog_13_method_154_code
def yJ0_isLatin1_aae02 : MethodName := ⟨RJ0, "isLatin1", "()Z"⟩
abbrev cJ0_checkIndex_df160 : ByteArray := prog_13_method_155_code
def yJ0_checkIndex_df160 : MethodName := ⟨RJ0, "checkIndex", "(II)V"⟩
def RJ1 : String := "java/lang/StringLatin1"
def TJ1 : u_T := fun k => match k with
  | _ => ("", "", "", false)
def tyJ1 : Nat → FieldType := fun k => match k with
  | _ => .int
abbrev wsJ10 : List Cond := u_ws RJ1 TJ1 0
theorem nmJ1 : ∀ a, a < 0 → ∀ b, b < 0 → a ≠ b → (TJ1 a).2.1 ≠ (TJ1 b).2.1 := by decide +kernel
theorem tyJ1_ok : ∀ k, k < 0 → parseFieldDescriptor (TJ1 k).2.2.1 = some (tyJ1 k) := by decide +kernel
abbrev cJ1_charAt_3b067 : ByteArray := prog_14_method_2_code
def yJ1_charAt_3b067 : MethodName := ⟨RJ1, "charAt", "([BI)C"⟩
def RJ2 : String := "java/lang/StringUTF16"
def TJ2 : u_T := fun k => match k with
  | _ => ("", "", "", false)
def tyJ2 : Nat → FieldType := fun k => match k with
  | _ => .int
abbrev wsJ20 : List Cond := u_ws RJ2 TJ2 0
theorem nmJ2 : ∀ a, a < 0 → ∀ b, b < 0 → a ≠ b → (TJ2 a).2.1 ≠ (TJ2 b).2.1 := by decide +kernel
theorem tyJ2_ok : ∀ k, k < 0 → parseFieldDescriptor (TJ2 k).2.2.1 = some (tyJ2 k) := by decide +kernel
abbrev cJ2_getChar_3b067 : ByteArray := prog_15_method_5_code
def yJ2_getChar_3b067 : MethodName := ⟨RJ2, "getChar", "([BI)C"⟩
abbrev cJ2_length_9d52b : ByteArray := prog_15_method_6_code
def yJ2_length_9d52b : MethodName := ⟨RJ2, "length", "([B)I"⟩
abbrev cJ2_charAt_3b067 : ByteArray := prog_15_method_83_code
def yJ2_charAt_3b067 : MethodName := ⟨RJ2, "charAt", "([BI)C"⟩
abbrev cJ2_checkIndex_2214a : ByteArray := prog_15_method_91_code
def yJ2_checkIndex_2214a : MethodName := ⟨RJ2, "checkIndex", "(I[B)V"⟩
def RJ3 : String := "jdk/internal/util/Preconditions"
def TJ3 : u_T := fun k => match k with
  | _ => ("", "", "", false)
def tyJ3 : Nat → FieldType := fun k => match k with
  | _ => .int
abbrev wsJ30 : List Cond := u_ws RJ3 TJ3 0
theorem nmJ3 : ∀ a, a < 0 → ∀ b, b < 0 → a ≠ b → (TJ3 a).2.1 ≠ (TJ3 b).2.1 := by decide +kernel
theorem tyJ3_ok : ∀ k, k < 0 → parseFieldDescriptor (TJ3 k).2.2.1 = some (tyJ3 k) := by decide +kernel
abbrev cJ3_checkIndex_8e157 : ByteArray := prog_16_method_11_code
def yJ3_checkIndex_8e157 : MethodName := ⟨RJ3, "checkIndex", "(IILjava/util/function/BiFunction;)I"⟩
def RL : String := "DesertTownLaw"
abbrev cL_law : ByteArray := code
def yL_law : MethodName := ⟨RL, "law", "([I)Z"⟩
abbrev vwCl : List vw_C := [(RX0, TX0, 6), (RX1, TX1, 2), (RX2, TX2, 8), (RX3, TX3, 9), (RX4, TX4, 4), (RX5, TX5, 5), (RX6, TX6, 2), (RX7, TX7, 10), (RX8, TX8, 30)]
end
section
theorem dX0_init_0 : decode cX0_init 0 = .ok (.aload_n 0, 1) := by decide +kernel
theorem dX0_init_1 : decode cX0_init 1 = .ok (.invokespecial 3, 3) := by decide +kernel
theorem dX0_init_4 : decode cX0_init 4 = .ok (.aload_n 0, 1) := by decide +kernel
theorem dX0_init_5 : decode cX0_init 5 = .ok (.iconst (-1), 1) := by decide +kernel
theorem dX0_init_6 : decode cX0_init 6 = .ok (.putfield 9, 3) := by decide +kernel
theorem dX0_init_9 : decode cX0_init 9 = .ok (.return_, 1) := by decide +kernel
theorem dX0_read_0 : decode cX0_read 0 = .ok (.aload_n 2, 1) := by decide +kernel
theorem dX0_read_1 : decode cX0_read 1 = .ok (.invokevirtual 15, 3) := by decide +kernel
theorem dX0_read_4 : decode cX0_read 4 = .ok (.aload_n 0, 1) := by decide +kernel
theorem dX0_read_5 : decode cX0_read 5 = .ok (.iconst 0, 1) := by decide +kernel
theorem dX0_read_6 : decode cX0_read 6 = .ok (.putfield 20, 3) := by decide +kernel
theorem dX0_read_9 : decode cX0_read 9 = .ok (.aload_n 0, 1) := by decide +kernel
theorem dX0_read_10 : decode cX0_read 10 = .ok (.iconst (-1), 1) := by decide +kernel
theorem dX0_read_11 : decode cX0_read 11 = .ok (.putfield 9, 3) := by decide +kernel
theorem dX0_read_14 : decode cX0_read 14 = .ok (.iconst 0, 1) := by decide +kernel
theorem dX0_read_15 : decode cX0_read 15 = .ok (.istore_n 3, 1) := by decide +kernel
theorem dX0_read_16 : decode cX0_read 16 = .ok (.aload_n 1, 1) := by decide +kernel
theorem dX0_read_17 : decode cX0_read 17 = .ok (.iconst 0, 1) := by decide +kernel
theorem dX0_read_18 : decode cX0_read 18 = .ok (.invokestatic 23, 3) := by decide +kernel
theorem dX0_read_21 : decode cX0_read 21 = .ok (.istore 4, 2) := by decide +kernel
theorem dX0_read_23 : decode cX0_read 23 = .ok (.iconst 0, 1) := by decide +kernel
theorem dX0_read_24 : decode cX0_read 24 = .ok (.istore 5, 2) := by decide +kernel
theorem dX0_read_26 : decode cX0_read 26 = .ok (.iload 5, 2) := by decide +kernel
theorem dX0_read_28 : decode cX0_read 28 = .ok (.sipush 600, 3) := by decide +kernel
theorem dX0_read_31 : decode cX0_read 31 = .ok (.if_icmp .ge 71, 3) := by decide +kernel
theorem dX0_read_34 : decode cX0_read 34 = .ok (.iload 4, 2) := by decide +kernel
theorem dX0_read_36 : decode cX0_read 36 = .ok (.aload_n 1, 1) := by decide +kernel
theorem dX0_read_37 : decode cX0_read 37 = .ok (.getfield 27, 3) := by decide +kernel
theorem dX0_read_40 : decode cX0_read 40 = .ok (.if_icmp .ge 62, 3) := by decide +kernel
theorem dX0_read_43 : decode cX0_read 43 = .ok (.aload_n 1, 1) := by decide +kernel
theorem dX0_read_44 : decode cX0_read 44 = .ok (.iload 4, 2) := by decide +kernel
theorem dX0_read_46 : decode cX0_read 46 = .ok (.invokestatic 32, 3) := by decide +kernel
theorem dX0_read_49 : decode cX0_read 49 = .ok (.istore 6, 2) := by decide +kernel
theorem dX0_read_51 : decode cX0_read 51 = .ok (.aload_n 0, 1) := by decide +kernel
theorem dX0_read_52 : decode cX0_read 52 = .ok (.aload_n 0, 1) := by decide +kernel
theorem dX0_read_53 : decode cX0_read 53 = .ok (.aload_n 1, 1) := by decide +kernel
theorem dX0_read_54 : decode cX0_read 54 = .ok (.iload 4, 2) := by decide +kernel
theorem dX0_read_56 : decode cX0_read 56 = .ok (.iload 6, 2) := by decide +kernel
theorem dX0_read_58 : decode cX0_read 58 = .ok (.iload_n 3, 1) := by decide +kernel
theorem dX0_read_59 : decode cX0_read 59 = .ok (.aload_n 2, 1) := by decide +kernel
theorem dX0_read_60 : decode cX0_read 60 = .ok (.invokevirtual 35, 3) := by decide +kernel
theorem dX0_read_63 : decode cX0_read 63 = .ok (.putfield 20, 3) := by decide +kernel
theorem dX0_read_66 : decode cX0_read 66 = .ok (.aload_n 0, 1) := by decide +kernel
theorem dX0_read_67 : decode cX0_read 67 = .ok (.getfield 20, 3) := by decide +kernel
theorem dX0_read_70 : decode cX0_read 70 = .ok (.ifCond .eq 11, 3) := by decide +kernel
theorem dX0_read_73 : decode cX0_read 73 = .ok (.aload_n 0, 1) := by decide +kernel
theorem dX0_read_74 : decode cX0_read 74 = .ok (.iload 4, 2) := by decide +kernel
theorem dX0_read_76 : decode cX0_read 76 = .ok (.putfield 9, 3) := by decide +kernel
theorem dX0_read_79 : decode cX0_read 79 = .ok (.iconst 0, 1) := by decide +kernel
theorem dX0_read_80 : decode cX0_read 80 = .ok (.ireturn, 1) := by decide +kernel
theorem dX0_read_81 : decode cX0_read 81 = .ok (.iload_n 3, 1) := by decide +kernel
theorem dX0_read_82 : decode cX0_read 82 = .ok (.iconst 1, 1) := by decide +kernel
theorem dX0_read_83 : decode cX0_read 83 = .ok (.iadd, 1) := by decide +kernel
theorem dX0_read_84 : decode cX0_read 84 = .ok (.bipush 9, 2) := by decide +kernel
theorem dX0_read_86 : decode cX0_read 86 = .ok (.irem, 1) := by decide +kernel
theorem dX0_read_87 : decode cX0_read 87 = .ok (.istore_n 3, 1) := by decide +kernel
theorem dX0_read_88 : decode cX0_read 88 = .ok (.aload_n 1, 1) := by decide +kernel
theorem dX0_read_89 : decode cX0_read 89 = .ok (.iload 6, 2) := by decide +kernel
theorem dX0_read_91 : decode cX0_read 91 = .ok (.invokestatic 23, 3) := by decide +kernel
theorem dX0_read_94 : decode cX0_read 94 = .ok (.istore 4, 2) := by decide +kernel
theorem dX0_read_96 : decode cX0_read 96 = .ok (.iinc 5 1, 3) := by decide +kernel
theorem dX0_read_99 : decode cX0_read 99 = .ok (.goto (-73), 3) := by decide +kernel
theorem dX0_read_102 : decode cX0_read 102 = .ok (.iload_n 3, 1) := by decide +kernel
theorem dX0_read_103 : decode cX0_read 103 = .ok (.ifCond .eq 16, 3) := by decide +kernel
theorem dX0_read_106 : decode cX0_read 106 = .ok (.aload_n 0, 1) := by decide +kernel
theorem dX0_read_107 : decode cX0_read 107 = .ok (.iconst 1, 1) := by decide +kernel
theorem dX0_read_108 : decode cX0_read 108 = .ok (.putfield 20, 3) := by decide +kernel
theorem dX0_read_111 : decode cX0_read 111 = .ok (.aload_n 0, 1) := by decide +kernel
theorem dX0_read_112 : decode cX0_read 112 = .ok (.aload_n 1, 1) := by decide +kernel
theorem dX0_read_113 : decode cX0_read 113 = .ok (.getfield 27, 3) := by decide +kernel
theorem dX0_read_116 : decode cX0_read 116 = .ok (.putfield 9, 3) := by decide +kernel
theorem dX0_read_119 : decode cX0_read 119 = .ok (.iload_n 3, 1) := by decide +kernel
theorem dX0_read_120 : decode cX0_read 120 = .ok (.ifCond .ne 7, 3) := by decide +kernel
theorem dX0_read_123 : decode cX0_read 123 = .ok (.iconst 1, 1) := by decide +kernel
theorem dX0_read_124 : decode cX0_read 124 = .ok (.goto 4, 3) := by decide +kernel
theorem dX0_read_127 : decode cX0_read 127 = .ok (.iconst 0, 1) := by decide +kernel
theorem dX0_read_128 : decode cX0_read 128 = .ok (.ireturn, 1) := by decide +kernel
theorem dX0_faultOf_0 : decode cX0_faultOf 0 = .ok (.iload 4, 2) := by decide +kernel
theorem dX0_faultOf_2 : decode cX0_faultOf 2 = .ok (.bipush 8, 2) := by decide +kernel
theorem dX0_faultOf_4 : decode cX0_faultOf 4 = .ok (.if_icmp .ne 38, 3) := by decide +kernel
theorem dX0_faultOf_7 : decode cX0_faultOf 7 = .ok (.aload_n 1, 1) := by decide +kernel
theorem dX0_faultOf_8 : decode cX0_faultOf 8 = .ok (.iload_n 2, 1) := by decide +kernel
theorem dX0_faultOf_9 : decode cX0_faultOf 9 = .ok (.invokevirtual 39, 3) := by decide +kernel
theorem dX0_faultOf_12 : decode cX0_faultOf 12 = .ok (.bipush 59, 2) := by decide +kernel
theorem dX0_faultOf_14 : decode cX0_faultOf 14 = .ok (.if_icmp .eq 5, 3) := by decide +kernel
theorem dX0_faultOf_17 : decode cX0_faultOf 17 = .ok (.iconst 1, 1) := by decide +kernel
theorem dX0_faultOf_18 : decode cX0_faultOf 18 = .ok (.ireturn, 1) := by decide +kernel
theorem dX0_faultOf_19 : decode cX0_faultOf 19 = .ok (.aload 5, 2) := by decide +kernel
theorem dX0_faultOf_21 : decode cX0_faultOf 21 = .ok (.aload_n 0, 1) := by decide +kernel
theorem dX0_faultOf_22 : decode cX0_faultOf 22 = .ok (.getfield 43, 3) := by decide +kernel
theorem dX0_faultOf_25 : decode cX0_faultOf 25 = .ok (.aload_n 0, 1) := by decide +kernel
theorem dX0_faultOf_26 : decode cX0_faultOf 26 = .ok (.getfield 46, 3) := by decide +kernel
theorem dX0_faultOf_29 : decode cX0_faultOf 29 = .ok (.aload_n 0, 1) := by decide +kernel
theorem dX0_faultOf_30 : decode cX0_faultOf 30 = .ok (.getfield 49, 3) := by decide +kernel
theorem dX0_faultOf_33 : decode cX0_faultOf 33 = .ok (.aload_n 0, 1) := by decide +kernel
theorem dX0_faultOf_34 : decode cX0_faultOf 34 = .ok (.getfield 52, 3) := by decide +kernel
theorem dX0_faultOf_37 : decode cX0_faultOf 37 = .ok (.invokevirtual 55, 3) := by decide +kernel
theorem dX0_faultOf_40 : decode cX0_faultOf 40 = .ok (.iconst 0, 1) := by decide +kernel
theorem dX0_faultOf_41 : decode cX0_faultOf 41 = .ok (.ireturn, 1) := by decide +kernel
theorem dX0_faultOf_42 : decode cX0_faultOf 42 = .ok (.iload 4, 2) := by decide +kernel
theorem dX0_faultOf_44 : decode cX0_faultOf 44 = .ok (.iconst 2, 1) := by decide +kernel
theorem dX0_faultOf_45 : decode cX0_faultOf 45 = .ok (.irem, 1) := by decide +kernel
theorem dX0_faultOf_46 : decode cX0_faultOf 46 = .ok (.ifCond .ne 23, 3) := by decide +kernel
theorem dX0_faultOf_49 : decode cX0_faultOf 49 = .ok (.aload_n 1, 1) := by decide +kernel
theorem dX0_faultOf_50 : decode cX0_faultOf 50 = .ok (.iload_n 2, 1) := by decide +kernel
theorem dX0_faultOf_51 : decode cX0_faultOf 51 = .ok (.iload_n 3, 1) := by decide +kernel
theorem dX0_faultOf_52 : decode cX0_faultOf 52 = .ok (.iload 4, 2) := by decide +kernel
theorem dX0_faultOf_54 : decode cX0_faultOf 54 = .ok (.invokestatic 59, 3) := by decide +kernel
theorem dX0_faultOf_57 : decode cX0_faultOf 57 = .ok (.invokestatic 63, 3) := by decide +kernel
theorem dX0_faultOf_60 : decode cX0_faultOf 60 = .ok (.ifCond .eq 7, 3) := by decide +kernel
theorem dX0_faultOf_63 : decode cX0_faultOf 63 = .ok (.iconst 0, 1) := by decide +kernel
theorem dX0_faultOf_64 : decode cX0_faultOf 64 = .ok (.goto 4, 3) := by decide +kernel
theorem dX0_faultOf_67 : decode cX0_faultOf 67 = .ok (.iconst 1, 1) := by decide +kernel
theorem dX0_faultOf_68 : decode cX0_faultOf 68 = .ok (.ireturn, 1) := by decide +kernel
theorem dX0_faultOf_69 : decode cX0_faultOf 69 = .ok (.aload_n 1, 1) := by decide +kernel
theorem dX0_faultOf_70 : decode cX0_faultOf 70 = .ok (.iload_n 2, 1) := by decide +kernel
theorem dX0_faultOf_71 : decode cX0_faultOf 71 = .ok (.iload_n 3, 1) := by decide +kernel
theorem dX0_faultOf_72 : decode cX0_faultOf 72 = .ok (.invokestatic 67, 3) := by decide +kernel
theorem dX0_faultOf_75 : decode cX0_faultOf 75 = .ok (.istore 6, 2) := by decide +kernel
theorem dX0_faultOf_77 : decode cX0_faultOf 77 = .ok (.iload 6, 2) := by decide +kernel
theorem dX0_faultOf_79 : decode cX0_faultOf 79 = .ok (.iconst (-1), 1) := by decide +kernel
theorem dX0_faultOf_80 : decode cX0_faultOf 80 = .ok (.if_icmp .ne 7, 3) := by decide +kernel
theorem dX0_faultOf_83 : decode cX0_faultOf 83 = .ok (.iconst 1, 1) := by decide +kernel
theorem dX0_faultOf_84 : decode cX0_faultOf 84 = .ok (.goto 13, 3) := by decide +kernel
theorem dX0_faultOf_87 : decode cX0_faultOf 87 = .ok (.aload_n 0, 1) := by decide +kernel
theorem dX0_faultOf_88 : decode cX0_faultOf 88 = .ok (.iload 6, 2) := by decide +kernel
theorem dX0_faultOf_90 : decode cX0_faultOf 90 = .ok (.iload 4, 2) := by decide +kernel
theorem dX0_faultOf_92 : decode cX0_faultOf 92 = .ok (.aload 5, 2) := by decide +kernel
theorem dX0_faultOf_94 : decode cX0_faultOf 94 = .ok (.invokevirtual 71, 3) := by decide +kernel
theorem dX0_faultOf_97 : decode cX0_faultOf 97 = .ok (.ireturn, 1) := by decide +kernel
theorem dX0_faultOfNumber_0 : decode cX0_faultOfNumber 0 = .ok (.iload_n 2, 1) := by decide +kernel
theorem dX0_faultOfNumber_1 : decode cX0_faultOfNumber 1 = .ok (.tableswitch 149 1 7 #[43, 149, 71, 149, 100, 149, 127], 43) := by decide +kernel
theorem dX0_faultOfNumber_44 : decode cX0_faultOfNumber 44 = .ok (.aload_n 0, 1) := by decide +kernel
theorem dX0_faultOfNumber_45 : decode cX0_faultOfNumber 45 = .ok (.iload_n 1, 1) := by decide +kernel
theorem dX0_faultOfNumber_46 : decode cX0_faultOfNumber 46 = .ok (.putfield 43, 3) := by decide +kernel
theorem dX0_faultOfNumber_49 : decode cX0_faultOfNumber 49 = .ok (.iload_n 1, 1) := by decide +kernel
theorem dX0_faultOfNumber_50 : decode cX0_faultOfNumber 50 = .ok (.invokestatic 75, 3) := by decide +kernel
theorem dX0_faultOfNumber_53 : decode cX0_faultOfNumber 53 = .ok (.ifCond .ne 5, 3) := by decide +kernel
theorem dX0_faultOfNumber_56 : decode cX0_faultOfNumber 56 = .ok (.iconst 2, 1) := by decide +kernel
theorem dX0_faultOfNumber_57 : decode cX0_faultOfNumber 57 = .ok (.ireturn, 1) := by decide +kernel
theorem dX0_faultOfNumber_58 : decode cX0_faultOfNumber 58 = .ok (.aload_n 3, 1) := by decide +kernel
theorem dX0_faultOfNumber_59 : decode cX0_faultOfNumber 59 = .ok (.iload_n 1, 1) := by decide +kernel
theorem dX0_faultOfNumber_60 : decode cX0_faultOfNumber 60 = .ok (.invokevirtual 79, 3) := by decide +kernel
theorem dX0_faultOfNumber_63 : decode cX0_faultOfNumber 63 = .ok (.ifCond .eq 7, 3) := by decide +kernel
theorem dX0_faultOfNumber_66 : decode cX0_faultOfNumber 66 = .ok (.iconst 3, 1) := by decide +kernel
theorem dX0_faultOfNumber_67 : decode cX0_faultOfNumber 67 = .ok (.goto 4, 3) := by decide +kernel
theorem dX0_faultOfNumber_70 : decode cX0_faultOfNumber 70 = .ok (.iconst 0, 1) := by decide +kernel
theorem dX0_faultOfNumber_71 : decode cX0_faultOfNumber 71 = .ok (.ireturn, 1) := by decide +kernel
theorem dX0_faultOfNumber_72 : decode cX0_faultOfNumber 72 = .ok (.aload_n 0, 1) := by decide +kernel
theorem dX0_faultOfNumber_73 : decode cX0_faultOfNumber 73 = .ok (.iload_n 1, 1) := by decide +kernel
theorem dX0_faultOfNumber_74 : decode cX0_faultOfNumber 74 = .ok (.putfield 46, 3) := by decide +kernel
theorem dX0_faultOfNumber_77 : decode cX0_faultOfNumber 77 = .ok (.iload_n 1, 1) := by decide +kernel
theorem dX0_faultOfNumber_78 : decode cX0_faultOfNumber 78 = .ok (.aload_n 3, 1) := by decide +kernel
theorem dX0_faultOfNumber_79 : decode cX0_faultOfNumber 79 = .ok (.aload_n 0, 1) := by decide +kernel
theorem dX0_faultOfNumber_80 : decode cX0_faultOfNumber 80 = .ok (.getfield 43, 3) := by decide +kernel
theorem dX0_faultOfNumber_83 : decode cX0_faultOfNumber 83 = .ok (.invokevirtual 82, 3) := by decide +kernel
theorem dX0_faultOfNumber_86 : decode cX0_faultOfNumber 86 = .ok (.sipush 899, 3) := by decide +kernel
theorem dX0_faultOfNumber_89 : decode cX0_faultOfNumber 89 = .ok (.invokestatic 85, 3) := by decide +kernel
theorem dX0_faultOfNumber_92 : decode cX0_faultOfNumber 92 = .ok (.ifCond .eq 7, 3) := by decide +kernel
theorem dX0_faultOfNumber_95 : decode cX0_faultOfNumber 95 = .ok (.iconst 0, 1) := by decide +kernel
theorem dX0_faultOfNumber_96 : decode cX0_faultOfNumber 96 = .ok (.goto 4, 3) := by decide +kernel
theorem dX0_faultOfNumber_99 : decode cX0_faultOfNumber 99 = .ok (.iconst 2, 1) := by decide +kernel
theorem dX0_faultOfNumber_100 : decode cX0_faultOfNumber 100 = .ok (.ireturn, 1) := by decide +kernel
theorem dX0_faultOfNumber_101 : decode cX0_faultOfNumber 101 = .ok (.aload_n 0, 1) := by decide +kernel
theorem dX0_faultOfNumber_102 : decode cX0_faultOfNumber 102 = .ok (.iload_n 1, 1) := by decide +kernel
theorem dX0_faultOfNumber_103 : decode cX0_faultOfNumber 103 = .ok (.putfield 49, 3) := by decide +kernel
theorem dX0_faultOfNumber_106 : decode cX0_faultOfNumber 106 = .ok (.iload_n 1, 1) := by decide +kernel
theorem dX0_faultOfNumber_107 : decode cX0_faultOfNumber 107 = .ok (.aload_n 0, 1) := by decide +kernel
theorem dX0_faultOfNumber_108 : decode cX0_faultOfNumber 108 = .ok (.getfield 46, 3) := by decide +kernel
theorem dX0_faultOfNumber_111 : decode cX0_faultOfNumber 111 = .ok (.iconst 1, 1) := by decide +kernel
theorem dX0_faultOfNumber_112 : decode cX0_faultOfNumber 112 = .ok (.iadd, 1) := by decide +kernel
theorem dX0_faultOfNumber_113 : decode cX0_faultOfNumber 113 = .ok (.sipush 900, 3) := by decide +kernel
theorem dX0_faultOfNumber_116 : decode cX0_faultOfNumber 116 = .ok (.invokestatic 85, 3) := by decide +kernel
theorem dX0_faultOfNumber_119 : decode cX0_faultOfNumber 119 = .ok (.ifCond .eq 7, 3) := by decide +kernel
theorem dX0_faultOfNumber_122 : decode cX0_faultOfNumber 122 = .ok (.iconst 0, 1) := by decide +kernel
theorem dX0_faultOfNumber_123 : decode cX0_faultOfNumber 123 = .ok (.goto 4, 3) := by decide +kernel
theorem dX0_faultOfNumber_126 : decode cX0_faultOfNumber 126 = .ok (.iconst 2, 1) := by decide +kernel
theorem dX0_faultOfNumber_127 : decode cX0_faultOfNumber 127 = .ok (.ireturn, 1) := by decide +kernel
theorem dX0_faultOfNumber_128 : decode cX0_faultOfNumber 128 = .ok (.aload_n 0, 1) := by decide +kernel
theorem dX0_faultOfNumber_129 : decode cX0_faultOfNumber 129 = .ok (.iload_n 1, 1) := by decide +kernel
theorem dX0_faultOfNumber_130 : decode cX0_faultOfNumber 130 = .ok (.putfield 52, 3) := by decide +kernel
theorem dX0_faultOfNumber_133 : decode cX0_faultOfNumber 133 = .ok (.iload_n 1, 1) := by decide +kernel
theorem dX0_faultOfNumber_134 : decode cX0_faultOfNumber 134 = .ok (.bipush 10, 2) := by decide +kernel
theorem dX0_faultOfNumber_136 : decode cX0_faultOfNumber 136 = .ok (.bipush 99, 2) := by decide +kernel
theorem dX0_faultOfNumber_138 : decode cX0_faultOfNumber 138 = .ok (.invokestatic 85, 3) := by decide +kernel
theorem dX0_faultOfNumber_141 : decode cX0_faultOfNumber 141 = .ok (.ifCond .eq 7, 3) := by decide +kernel
theorem dX0_faultOfNumber_144 : decode cX0_faultOfNumber 144 = .ok (.iconst 0, 1) := by decide +kernel
theorem dX0_faultOfNumber_145 : decode cX0_faultOfNumber 145 = .ok (.goto 4, 3) := by decide +kernel
theorem dX0_faultOfNumber_148 : decode cX0_faultOfNumber 148 = .ok (.iconst 2, 1) := by decide +kernel
theorem dX0_faultOfNumber_149 : decode cX0_faultOfNumber 149 = .ok (.ireturn, 1) := by decide +kernel
theorem dX0_faultOfNumber_150 : decode cX0_faultOfNumber 150 = .ok (.iconst 1, 1) := by decide +kernel
theorem dX0_faultOfNumber_151 : decode cX0_faultOfNumber 151 = .ok (.ireturn, 1) := by decide +kernel
theorem dX0_keywordOf_0 : decode cX0_keywordOf 0 = .ok (.iload_n 0, 1) := by decide +kernel
theorem dX0_keywordOf_1 : decode cX0_keywordOf 1 = .ok (.tableswitch 44 0 4 #[35, 44, 38, 44, 41], 35) := by decide +kernel
theorem dX0_keywordOf_36 : decode cX0_keywordOf 36 = .ok (.ldc 89, 2) := by decide +kernel
theorem dX0_keywordOf_38 : decode cX0_keywordOf 38 = .ok (.areturn, 1) := by decide +kernel
theorem dX0_keywordOf_39 : decode cX0_keywordOf 39 = .ok (.ldc 91, 2) := by decide +kernel
theorem dX0_keywordOf_41 : decode cX0_keywordOf 41 = .ok (.areturn, 1) := by decide +kernel
theorem dX0_keywordOf_42 : decode cX0_keywordOf 42 = .ok (.ldc 92, 2) := by decide +kernel
theorem dX0_keywordOf_44 : decode cX0_keywordOf 44 = .ok (.areturn, 1) := by decide +kernel
theorem dX0_keywordOf_45 : decode cX0_keywordOf 45 = .ok (.ldc 93, 2) := by decide +kernel
theorem dX0_keywordOf_47 : decode cX0_keywordOf 47 = .ok (.areturn, 1) := by decide +kernel
theorem dX0_behindBlanks_0 : decode cX0_behindBlanks 0 = .ok (.iload_n 1, 1) := by decide +kernel
theorem dX0_behindBlanks_1 : decode cX0_behindBlanks 1 = .ok (.istore_n 2, 1) := by decide +kernel
theorem dX0_behindBlanks_2 : decode cX0_behindBlanks 2 = .ok (.iload_n 2, 1) := by decide +kernel
theorem dX0_behindBlanks_3 : decode cX0_behindBlanks 3 = .ok (.aload_n 0, 1) := by decide +kernel
theorem dX0_behindBlanks_4 : decode cX0_behindBlanks 4 = .ok (.getfield 27, 3) := by decide +kernel
theorem dX0_behindBlanks_7 : decode cX0_behindBlanks 7 = .ok (.if_icmp .ge 20, 3) := by decide +kernel
theorem dX0_behindBlanks_10 : decode cX0_behindBlanks 10 = .ok (.aload_n 0, 1) := by decide +kernel
theorem dX0_behindBlanks_11 : decode cX0_behindBlanks 11 = .ok (.iload_n 2, 1) := by decide +kernel
theorem dX0_behindBlanks_12 : decode cX0_behindBlanks 12 = .ok (.invokevirtual 39, 3) := by decide +kernel
theorem dX0_behindBlanks_15 : decode cX0_behindBlanks 15 = .ok (.invokestatic 95, 3) := by decide +kernel
theorem dX0_behindBlanks_18 : decode cX0_behindBlanks 18 = .ok (.ifCond .eq 9, 3) := by decide +kernel
theorem dX0_behindBlanks_21 : decode cX0_behindBlanks 21 = .ok (.iinc 2 1, 3) := by decide +kernel
theorem dX0_behindBlanks_24 : decode cX0_behindBlanks 24 = .ok (.goto (-22), 3) := by decide +kernel
theorem dX0_behindBlanks_27 : decode cX0_behindBlanks 27 = .ok (.iload_n 2, 1) := by decide +kernel
theorem dX0_behindBlanks_28 : decode cX0_behindBlanks 28 = .ok (.ireturn, 1) := by decide +kernel
theorem dX0_behindToken_0 : decode cX0_behindToken 0 = .ok (.iload_n 1, 1) := by decide +kernel
theorem dX0_behindToken_1 : decode cX0_behindToken 1 = .ok (.iconst 1, 1) := by decide +kernel
theorem dX0_behindToken_2 : decode cX0_behindToken 2 = .ok (.iadd, 1) := by decide +kernel
theorem dX0_behindToken_3 : decode cX0_behindToken 3 = .ok (.istore_n 2, 1) := by decide +kernel
theorem dX0_behindToken_4 : decode cX0_behindToken 4 = .ok (.aload_n 0, 1) := by decide +kernel
theorem dX0_behindToken_5 : decode cX0_behindToken 5 = .ok (.iload_n 1, 1) := by decide +kernel
theorem dX0_behindToken_6 : decode cX0_behindToken 6 = .ok (.invokevirtual 39, 3) := by decide +kernel
theorem dX0_behindToken_9 : decode cX0_behindToken 9 = .ok (.invokestatic 98, 3) := by decide +kernel
theorem dX0_behindToken_12 : decode cX0_behindToken 12 = .ok (.ifCond .eq 28, 3) := by decide +kernel
theorem dX0_behindToken_15 : decode cX0_behindToken 15 = .ok (.iload_n 2, 1) := by decide +kernel
theorem dX0_behindToken_16 : decode cX0_behindToken 16 = .ok (.aload_n 0, 1) := by decide +kernel
theorem dX0_behindToken_17 : decode cX0_behindToken 17 = .ok (.getfield 27, 3) := by decide +kernel
theorem dX0_behindToken_20 : decode cX0_behindToken 20 = .ok (.if_icmp .ge 56, 3) := by decide +kernel
theorem dX0_behindToken_23 : decode cX0_behindToken 23 = .ok (.aload_n 0, 1) := by decide +kernel
theorem dX0_behindToken_24 : decode cX0_behindToken 24 = .ok (.iload_n 2, 1) := by decide +kernel
theorem dX0_behindToken_25 : decode cX0_behindToken 25 = .ok (.invokevirtual 39, 3) := by decide +kernel
theorem dX0_behindToken_28 : decode cX0_behindToken 28 = .ok (.invokestatic 98, 3) := by decide +kernel
theorem dX0_behindToken_31 : decode cX0_behindToken 31 = .ok (.ifCond .eq 45, 3) := by decide +kernel
theorem dX0_behindToken_34 : decode cX0_behindToken 34 = .ok (.iinc 2 1, 3) := by decide +kernel
theorem dX0_behindToken_37 : decode cX0_behindToken 37 = .ok (.goto (-22), 3) := by decide +kernel
theorem dX0_behindToken_40 : decode cX0_behindToken 40 = .ok (.aload_n 0, 1) := by decide +kernel
theorem dX0_behindToken_41 : decode cX0_behindToken 41 = .ok (.iload_n 1, 1) := by decide +kernel
theorem dX0_behindToken_42 : decode cX0_behindToken 42 = .ok (.invokevirtual 39, 3) := by decide +kernel
theorem dX0_behindToken_45 : decode cX0_behindToken 45 = .ok (.invokestatic 101, 3) := by decide +kernel
theorem dX0_behindToken_48 : decode cX0_behindToken 48 = .ok (.ifCond .eq 28, 3) := by decide +kernel
theorem dX0_behindToken_51 : decode cX0_behindToken 51 = .ok (.iload_n 2, 1) := by decide +kernel
theorem dX0_behindToken_52 : decode cX0_behindToken 52 = .ok (.aload_n 0, 1) := by decide +kernel
theorem dX0_behindToken_53 : decode cX0_behindToken 53 = .ok (.getfield 27, 3) := by decide +kernel
theorem dX0_behindToken_56 : decode cX0_behindToken 56 = .ok (.if_icmp .ge 20, 3) := by decide +kernel
theorem dX0_behindToken_59 : decode cX0_behindToken 59 = .ok (.aload_n 0, 1) := by decide +kernel
theorem dX0_behindToken_60 : decode cX0_behindToken 60 = .ok (.iload_n 2, 1) := by decide +kernel
theorem dX0_behindToken_61 : decode cX0_behindToken 61 = .ok (.invokevirtual 39, 3) := by decide +kernel
theorem dX0_behindToken_64 : decode cX0_behindToken 64 = .ok (.invokestatic 101, 3) := by decide +kernel
theorem dX0_behindToken_67 : decode cX0_behindToken 67 = .ok (.ifCond .eq 9, 3) := by decide +kernel
theorem dX0_behindToken_70 : decode cX0_behindToken 70 = .ok (.iinc 2 1, 3) := by decide +kernel
theorem dX0_behindToken_73 : decode cX0_behindToken 73 = .ok (.goto (-22), 3) := by decide +kernel
theorem dX0_behindToken_76 : decode cX0_behindToken 76 = .ok (.iload_n 2, 1) := by decide +kernel
theorem dX0_behindToken_77 : decode cX0_behindToken 77 = .ok (.ireturn, 1) := by decide +kernel
theorem dX0_isWord_0 : decode cX0_isWord 0 = .ok (.iload_n 2, 1) := by decide +kernel
theorem dX0_isWord_1 : decode cX0_isWord 1 = .ok (.iload_n 1, 1) := by decide +kernel
theorem dX0_isWord_2 : decode cX0_isWord 2 = .ok (.isub, 1) := by decide +kernel
theorem dX0_isWord_3 : decode cX0_isWord 3 = .ok (.aload_n 3, 1) := by decide +kernel
theorem dX0_isWord_4 : decode cX0_isWord 4 = .ok (.invokevirtual 104, 3) := by decide +kernel
theorem dX0_isWord_7 : decode cX0_isWord 7 = .ok (.if_icmp .eq 5, 3) := by decide +kernel
theorem dX0_isWord_10 : decode cX0_isWord 10 = .ok (.iconst 0, 1) := by decide +kernel
theorem dX0_isWord_11 : decode cX0_isWord 11 = .ok (.ireturn, 1) := by decide +kernel
theorem dX0_isWord_12 : decode cX0_isWord 12 = .ok (.iconst 0, 1) := by decide +kernel
theorem dX0_isWord_13 : decode cX0_isWord 13 = .ok (.istore 4, 2) := by decide +kernel
theorem dX0_isWord_15 : decode cX0_isWord 15 = .ok (.iload 4, 2) := by decide +kernel
theorem dX0_isWord_17 : decode cX0_isWord 17 = .ok (.aload_n 3, 1) := by decide +kernel
theorem dX0_isWord_18 : decode cX0_isWord 18 = .ok (.invokevirtual 104, 3) := by decide +kernel
theorem dX0_isWord_21 : decode cX0_isWord 21 = .ok (.if_icmp .ge 28, 3) := by decide +kernel
theorem dX0_isWord_24 : decode cX0_isWord 24 = .ok (.aload_n 0, 1) := by decide +kernel
theorem dX0_isWord_25 : decode cX0_isWord 25 = .ok (.iload_n 1, 1) := by decide +kernel
theorem dX0_isWord_26 : decode cX0_isWord 26 = .ok (.iload 4, 2) := by decide +kernel
theorem dX0_isWord_28 : decode cX0_isWord 28 = .ok (.iadd, 1) := by decide +kernel
theorem dX0_isWord_29 : decode cX0_isWord 29 = .ok (.invokevirtual 39, 3) := by decide +kernel
theorem dX0_isWord_32 : decode cX0_isWord 32 = .ok (.aload_n 3, 1) := by decide +kernel
theorem dX0_isWord_33 : decode cX0_isWord 33 = .ok (.iload 4, 2) := by decide +kernel
theorem dX0_isWord_35 : decode cX0_isWord 35 = .ok (.invokevirtual 109, 3) := by decide +kernel
theorem dX0_isWord_38 : decode cX0_isWord 38 = .ok (.if_icmp .eq 5, 3) := by decide +kernel
theorem dX0_isWord_41 : decode cX0_isWord 41 = .ok (.iconst 0, 1) := by decide +kernel
theorem dX0_isWord_42 : decode cX0_isWord 42 = .ok (.ireturn, 1) := by decide +kernel
theorem dX0_isWord_43 : decode cX0_isWord 43 = .ok (.iinc 4 1, 3) := by decide +kernel
theorem dX0_isWord_46 : decode cX0_isWord 46 = .ok (.goto (-31), 3) := by decide +kernel
theorem dX0_isWord_49 : decode cX0_isWord 49 = .ok (.iconst 1, 1) := by decide +kernel
theorem dX0_isWord_50 : decode cX0_isWord 50 = .ok (.ireturn, 1) := by decide +kernel
theorem dX0_numberOf_0 : decode cX0_numberOf 0 = .ok (.aload_n 0, 1) := by decide +kernel
theorem dX0_numberOf_1 : decode cX0_numberOf 1 = .ok (.iload_n 1, 1) := by decide +kernel
theorem dX0_numberOf_2 : decode cX0_numberOf 2 = .ok (.invokevirtual 39, 3) := by decide +kernel
theorem dX0_numberOf_5 : decode cX0_numberOf 5 = .ok (.invokestatic 101, 3) := by decide +kernel
theorem dX0_numberOf_8 : decode cX0_numberOf 8 = .ok (.ifCond .eq 10, 3) := by decide +kernel
theorem dX0_numberOf_11 : decode cX0_numberOf 11 = .ok (.iload_n 2, 1) := by decide +kernel
theorem dX0_numberOf_12 : decode cX0_numberOf 12 = .ok (.iload_n 1, 1) := by decide +kernel
theorem dX0_numberOf_13 : decode cX0_numberOf 13 = .ok (.isub, 1) := by decide +kernel
theorem dX0_numberOf_14 : decode cX0_numberOf 14 = .ok (.iconst 3, 1) := by decide +kernel
theorem dX0_numberOf_15 : decode cX0_numberOf 15 = .ok (.if_icmp .le 5, 3) := by decide +kernel
theorem dX0_numberOf_18 : decode cX0_numberOf 18 = .ok (.iconst (-1), 1) := by decide +kernel
theorem dX0_numberOf_19 : decode cX0_numberOf 19 = .ok (.ireturn, 1) := by decide +kernel
theorem dX0_numberOf_20 : decode cX0_numberOf 20 = .ok (.iconst 0, 1) := by decide +kernel
theorem dX0_numberOf_21 : decode cX0_numberOf 21 = .ok (.istore_n 3, 1) := by decide +kernel
theorem dX0_numberOf_22 : decode cX0_numberOf 22 = .ok (.iload_n 1, 1) := by decide +kernel
theorem dX0_numberOf_23 : decode cX0_numberOf 23 = .ok (.istore 4, 2) := by decide +kernel
theorem dX0_numberOf_25 : decode cX0_numberOf 25 = .ok (.iload 4, 2) := by decide +kernel
theorem dX0_numberOf_27 : decode cX0_numberOf 27 = .ok (.iload_n 2, 1) := by decide +kernel
theorem dX0_numberOf_28 : decode cX0_numberOf 28 = .ok (.if_icmp .ge 24, 3) := by decide +kernel
theorem dX0_numberOf_31 : decode cX0_numberOf 31 = .ok (.bipush 10, 2) := by decide +kernel
theorem dX0_numberOf_33 : decode cX0_numberOf 33 = .ok (.iload_n 3, 1) := by decide +kernel
theorem dX0_numberOf_34 : decode cX0_numberOf 34 = .ok (.imul, 1) := by decide +kernel
theorem dX0_numberOf_35 : decode cX0_numberOf 35 = .ok (.aload_n 0, 1) := by decide +kernel
theorem dX0_numberOf_36 : decode cX0_numberOf 36 = .ok (.iload 4, 2) := by decide +kernel
theorem dX0_numberOf_38 : decode cX0_numberOf 38 = .ok (.invokevirtual 39, 3) := by decide +kernel
theorem dX0_numberOf_41 : decode cX0_numberOf 41 = .ok (.bipush 48, 2) := by decide +kernel
theorem dX0_numberOf_43 : decode cX0_numberOf 43 = .ok (.isub, 1) := by decide +kernel
theorem dX0_numberOf_44 : decode cX0_numberOf 44 = .ok (.iadd, 1) := by decide +kernel
theorem dX0_numberOf_45 : decode cX0_numberOf 45 = .ok (.istore_n 3, 1) := by decide +kernel
theorem dX0_numberOf_46 : decode cX0_numberOf 46 = .ok (.iinc 4 1, 3) := by decide +kernel
theorem dX0_numberOf_49 : decode cX0_numberOf 49 = .ok (.goto (-24), 3) := by decide +kernel
theorem dX0_numberOf_52 : decode cX0_numberOf 52 = .ok (.iload_n 3, 1) := by decide +kernel
theorem dX0_numberOf_53 : decode cX0_numberOf 53 = .ok (.ireturn, 1) := by decide +kernel
theorem dX0_isBlank_0 : decode cX0_isBlank 0 = .ok (.iload_n 0, 1) := by decide +kernel
theorem dX0_isBlank_1 : decode cX0_isBlank 1 = .ok (.bipush 32, 2) := by decide +kernel
theorem dX0_isBlank_3 : decode cX0_isBlank 3 = .ok (.if_icmp .eq 9, 3) := by decide +kernel
theorem dX0_isBlank_6 : decode cX0_isBlank 6 = .ok (.iload_n 0, 1) := by decide +kernel
theorem dX0_isBlank_7 : decode cX0_isBlank 7 = .ok (.bipush 10, 2) := by decide +kernel
theorem dX0_isBlank_9 : decode cX0_isBlank 9 = .ok (.if_icmp .ne 7, 3) := by decide +kernel
theorem dX0_isBlank_12 : decode cX0_isBlank 12 = .ok (.iconst 1, 1) := by decide +kernel
theorem dX0_isBlank_13 : decode cX0_isBlank 13 = .ok (.goto 4, 3) := by decide +kernel
theorem dX0_isBlank_16 : decode cX0_isBlank 16 = .ok (.iconst 0, 1) := by decide +kernel
theorem dX0_isBlank_17 : decode cX0_isBlank 17 = .ok (.ireturn, 1) := by decide +kernel
theorem dX0_isDigit_0 : decode cX0_isDigit 0 = .ok (.iload_n 0, 1) := by decide +kernel
theorem dX0_isDigit_1 : decode cX0_isDigit 1 = .ok (.bipush 48, 2) := by decide +kernel
theorem dX0_isDigit_3 : decode cX0_isDigit 3 = .ok (.bipush 57, 2) := by decide +kernel
theorem dX0_isDigit_5 : decode cX0_isDigit 5 = .ok (.invokestatic 85, 3) := by decide +kernel
theorem dX0_isDigit_8 : decode cX0_isDigit 8 = .ok (.ireturn, 1) := by decide +kernel
theorem dX0_isLetter_0 : decode cX0_isLetter 0 = .ok (.iload_n 0, 1) := by decide +kernel
theorem dX0_isLetter_1 : decode cX0_isLetter 1 = .ok (.bipush 97, 2) := by decide +kernel
theorem dX0_isLetter_3 : decode cX0_isLetter 3 = .ok (.bipush 122, 2) := by decide +kernel
theorem dX0_isLetter_5 : decode cX0_isLetter 5 = .ok (.invokestatic 85, 3) := by decide +kernel
theorem dX0_isLetter_8 : decode cX0_isLetter 8 = .ok (.ifCond .ne 14, 3) := by decide +kernel
theorem dX0_isLetter_11 : decode cX0_isLetter 11 = .ok (.iload_n 0, 1) := by decide +kernel
theorem dX0_isLetter_12 : decode cX0_isLetter 12 = .ok (.bipush 65, 2) := by decide +kernel
theorem dX0_isLetter_14 : decode cX0_isLetter 14 = .ok (.bipush 90, 2) := by decide +kernel
theorem dX0_isLetter_16 : decode cX0_isLetter 16 = .ok (.invokestatic 85, 3) := by decide +kernel
theorem dX0_isLetter_19 : decode cX0_isLetter 19 = .ok (.ifCond .eq 7, 3) := by decide +kernel
theorem dX0_isLetter_22 : decode cX0_isLetter 22 = .ok (.iconst 1, 1) := by decide +kernel
theorem dX0_isLetter_23 : decode cX0_isLetter 23 = .ok (.goto 4, 3) := by decide +kernel
theorem dX0_isLetter_26 : decode cX0_isLetter 26 = .ok (.iconst 0, 1) := by decide +kernel
theorem dX0_isLetter_27 : decode cX0_isLetter 27 = .ok (.ireturn, 1) := by decide +kernel
theorem dX1_init_0 : decode cX1_init 0 = .ok (.aload_n 0, 1) := by decide +kernel
theorem dX1_init_1 : decode cX1_init 1 = .ok (.invokespecial 3, 3) := by decide +kernel
theorem dX1_init_4 : decode cX1_init 4 = .ok (.aload_n 0, 1) := by decide +kernel
theorem dX1_init_5 : decode cX1_init 5 = .ok (.bipush 7, 2) := by decide +kernel
theorem dX1_init_7 : decode cX1_init 7 = .ok (.newarray .int, 2) := by decide +kernel
theorem dX1_init_9 : decode cX1_init 9 = .ok (.dup, 1) := by decide +kernel
theorem dX1_init_10 : decode cX1_init 10 = .ok (.iconst 0, 1) := by decide +kernel
theorem dX1_init_11 : decode cX1_init 11 = .ok (.bipush 100, 2) := by decide +kernel
theorem dX1_init_13 : decode cX1_init 13 = .ok (.iastore, 1) := by decide +kernel
theorem dX1_init_14 : decode cX1_init 14 = .ok (.dup, 1) := by decide +kernel
theorem dX1_init_15 : decode cX1_init 15 = .ok (.iconst 1, 1) := by decide +kernel
theorem dX1_init_16 : decode cX1_init 16 = .ok (.bipush 100, 2) := by decide +kernel
theorem dX1_init_18 : decode cX1_init 18 = .ok (.iastore, 1) := by decide +kernel
theorem dX1_init_19 : decode cX1_init 19 = .ok (.dup, 1) := by decide +kernel
theorem dX1_init_20 : decode cX1_init 20 = .ok (.iconst 2, 1) := by decide +kernel
theorem dX1_init_21 : decode cX1_init 21 = .ok (.bipush 100, 2) := by decide +kernel
theorem dX1_init_23 : decode cX1_init 23 = .ok (.iastore, 1) := by decide +kernel
theorem dX1_init_24 : decode cX1_init 24 = .ok (.dup, 1) := by decide +kernel
theorem dX1_init_25 : decode cX1_init 25 = .ok (.iconst 3, 1) := by decide +kernel
theorem dX1_init_26 : decode cX1_init 26 = .ok (.bipush 100, 2) := by decide +kernel
theorem dX1_init_28 : decode cX1_init 28 = .ok (.iastore, 1) := by decide +kernel
theorem dX1_init_29 : decode cX1_init 29 = .ok (.dup, 1) := by decide +kernel
theorem dX1_init_30 : decode cX1_init 30 = .ok (.iconst 4, 1) := by decide +kernel
theorem dX1_init_31 : decode cX1_init 31 = .ok (.bipush 100, 2) := by decide +kernel
theorem dX1_init_33 : decode cX1_init 33 = .ok (.iastore, 1) := by decide +kernel
theorem dX1_init_34 : decode cX1_init 34 = .ok (.dup, 1) := by decide +kernel
theorem dX1_init_35 : decode cX1_init 35 = .ok (.iconst 5, 1) := by decide +kernel
theorem dX1_init_36 : decode cX1_init 36 = .ok (.bipush 100, 2) := by decide +kernel
theorem dX1_init_38 : decode cX1_init 38 = .ok (.iastore, 1) := by decide +kernel
theorem dX1_init_39 : decode cX1_init 39 = .ok (.dup, 1) := by decide +kernel
theorem dX1_init_40 : decode cX1_init 40 = .ok (.bipush 6, 2) := by decide +kernel
theorem dX1_init_42 : decode cX1_init 42 = .ok (.bipush 100, 2) := by decide +kernel
theorem dX1_init_44 : decode cX1_init 44 = .ok (.iastore, 1) := by decide +kernel
theorem dX1_init_45 : decode cX1_init 45 = .ok (.putfield 9, 3) := by decide +kernel
theorem dX1_init_48 : decode cX1_init 48 = .ok (.aload_n 0, 1) := by decide +kernel
theorem dX1_init_49 : decode cX1_init 49 = .ok (.bipush 7, 2) := by decide +kernel
theorem dX1_init_51 : decode cX1_init 51 = .ok (.newarray .int, 2) := by decide +kernel
theorem dX1_init_53 : decode cX1_init 53 = .ok (.dup, 1) := by decide +kernel
theorem dX1_init_54 : decode cX1_init 54 = .ok (.iconst 0, 1) := by decide +kernel
theorem dX1_init_55 : decode cX1_init 55 = .ok (.bipush 6, 2) := by decide +kernel
theorem dX1_init_57 : decode cX1_init 57 = .ok (.iastore, 1) := by decide +kernel
theorem dX1_init_58 : decode cX1_init 58 = .ok (.dup, 1) := by decide +kernel
theorem dX1_init_59 : decode cX1_init 59 = .ok (.iconst 1, 1) := by decide +kernel
theorem dX1_init_60 : decode cX1_init 60 = .ok (.bipush 6, 2) := by decide +kernel
theorem dX1_init_62 : decode cX1_init 62 = .ok (.iastore, 1) := by decide +kernel
theorem dX1_init_63 : decode cX1_init 63 = .ok (.dup, 1) := by decide +kernel
theorem dX1_init_64 : decode cX1_init 64 = .ok (.iconst 2, 1) := by decide +kernel
theorem dX1_init_65 : decode cX1_init 65 = .ok (.bipush 6, 2) := by decide +kernel
theorem dX1_init_67 : decode cX1_init 67 = .ok (.iastore, 1) := by decide +kernel
theorem dX1_init_68 : decode cX1_init 68 = .ok (.dup, 1) := by decide +kernel
theorem dX1_init_69 : decode cX1_init 69 = .ok (.iconst 3, 1) := by decide +kernel
theorem dX1_init_70 : decode cX1_init 70 = .ok (.bipush 6, 2) := by decide +kernel
theorem dX1_init_72 : decode cX1_init 72 = .ok (.iastore, 1) := by decide +kernel
theorem dX1_init_73 : decode cX1_init 73 = .ok (.dup, 1) := by decide +kernel
theorem dX1_init_74 : decode cX1_init 74 = .ok (.iconst 4, 1) := by decide +kernel
theorem dX1_init_75 : decode cX1_init 75 = .ok (.bipush 6, 2) := by decide +kernel
theorem dX1_init_77 : decode cX1_init 77 = .ok (.iastore, 1) := by decide +kernel
theorem dX1_init_78 : decode cX1_init 78 = .ok (.dup, 1) := by decide +kernel
theorem dX1_init_79 : decode cX1_init 79 = .ok (.iconst 5, 1) := by decide +kernel
theorem dX1_init_80 : decode cX1_init 80 = .ok (.bipush 6, 2) := by decide +kernel
theorem dX1_init_82 : decode cX1_init 82 = .ok (.iastore, 1) := by decide +kernel
theorem dX1_init_83 : decode cX1_init 83 = .ok (.dup, 1) := by decide +kernel
theorem dX1_init_84 : decode cX1_init 84 = .ok (.bipush 6, 2) := by decide +kernel
theorem dX1_init_86 : decode cX1_init 86 = .ok (.bipush 6, 2) := by decide +kernel
theorem dX1_init_88 : decode cX1_init 88 = .ok (.iastore, 1) := by decide +kernel
theorem dX1_init_89 : decode cX1_init 89 = .ok (.putfield 15, 3) := by decide +kernel
theorem dX1_init_92 : decode cX1_init 92 = .ok (.return_, 1) := by decide +kernel
theorem dX1_kilometerOf_0 : decode cX1_kilometerOf 0 = .ok (.iconst 0, 1) := by decide +kernel
theorem dX1_kilometerOf_1 : decode cX1_kilometerOf 1 = .ok (.istore_n 2, 1) := by decide +kernel
theorem dX1_kilometerOf_2 : decode cX1_kilometerOf 2 = .ok (.iconst 0, 1) := by decide +kernel
theorem dX1_kilometerOf_3 : decode cX1_kilometerOf 3 = .ok (.istore_n 3, 1) := by decide +kernel
theorem dX1_kilometerOf_4 : decode cX1_kilometerOf 4 = .ok (.iload_n 3, 1) := by decide +kernel
theorem dX1_kilometerOf_5 : decode cX1_kilometerOf 5 = .ok (.iload_n 1, 1) := by decide +kernel
theorem dX1_kilometerOf_6 : decode cX1_kilometerOf 6 = .ok (.if_icmp .ge 24, 3) := by decide +kernel
theorem dX1_kilometerOf_9 : decode cX1_kilometerOf 9 = .ok (.iload_n 3, 1) := by decide +kernel
theorem dX1_kilometerOf_10 : decode cX1_kilometerOf 10 = .ok (.bipush 7, 2) := by decide +kernel
theorem dX1_kilometerOf_12 : decode cX1_kilometerOf 12 = .ok (.if_icmp .ge 18, 3) := by decide +kernel
theorem dX1_kilometerOf_15 : decode cX1_kilometerOf 15 = .ok (.iload_n 2, 1) := by decide +kernel
theorem dX1_kilometerOf_16 : decode cX1_kilometerOf 16 = .ok (.aload_n 0, 1) := by decide +kernel
theorem dX1_kilometerOf_17 : decode cX1_kilometerOf 17 = .ok (.getfield 9, 3) := by decide +kernel
theorem dX1_kilometerOf_20 : decode cX1_kilometerOf 20 = .ok (.iload_n 3, 1) := by decide +kernel
theorem dX1_kilometerOf_21 : decode cX1_kilometerOf 21 = .ok (.iaload, 1) := by decide +kernel
theorem dX1_kilometerOf_22 : decode cX1_kilometerOf 22 = .ok (.iadd, 1) := by decide +kernel
theorem dX1_kilometerOf_23 : decode cX1_kilometerOf 23 = .ok (.istore_n 2, 1) := by decide +kernel
theorem dX1_kilometerOf_24 : decode cX1_kilometerOf 24 = .ok (.iinc 3 1, 3) := by decide +kernel
theorem dX1_kilometerOf_27 : decode cX1_kilometerOf 27 = .ok (.goto (-23), 3) := by decide +kernel
theorem dX1_kilometerOf_30 : decode cX1_kilometerOf 30 = .ok (.iload_n 2, 1) := by decide +kernel
theorem dX1_kilometerOf_31 : decode cX1_kilometerOf 31 = .ok (.ireturn, 1) := by decide +kernel
theorem dX1_begins_0 : decode cX1_begins 0 = .ok (.iload_n 1, 1) := by decide +kernel
theorem dX1_begins_1 : decode cX1_begins 1 = .ok (.invokestatic 18, 3) := by decide +kernel
theorem dX1_begins_4 : decode cX1_begins 4 = .ok (.ifCond .eq 21, 3) := by decide +kernel
theorem dX1_begins_7 : decode cX1_begins 7 = .ok (.iload_n 1, 1) := by decide +kernel
theorem dX1_begins_8 : decode cX1_begins 8 = .ok (.sipush 1440, 3) := by decide +kernel
theorem dX1_begins_11 : decode cX1_begins 11 = .ok (.imul, 1) := by decide +kernel
theorem dX1_begins_12 : decode cX1_begins 12 = .ok (.aload_n 0, 1) := by decide +kernel
theorem dX1_begins_13 : decode cX1_begins 13 = .ok (.getfield 15, 3) := by decide +kernel
theorem dX1_begins_16 : decode cX1_begins 16 = .ok (.iload_n 1, 1) := by decide +kernel
theorem dX1_begins_17 : decode cX1_begins 17 = .ok (.iaload, 1) := by decide +kernel
theorem dX1_begins_18 : decode cX1_begins 18 = .ok (.bipush 60, 2) := by decide +kernel
theorem dX1_begins_20 : decode cX1_begins 20 = .ok (.imul, 1) := by decide +kernel
theorem dX1_begins_21 : decode cX1_begins 21 = .ok (.iadd, 1) := by decide +kernel
theorem dX1_begins_22 : decode cX1_begins 22 = .ok (.goto 4, 3) := by decide +kernel
theorem dX1_begins_25 : decode cX1_begins 25 = .ok (.iconst (-1), 1) := by decide +kernel
theorem dX1_begins_26 : decode cX1_begins 26 = .ok (.ireturn, 1) := by decide +kernel
theorem dX2_init_0 : decode cX2_init 0 = .ok (.aload_n 0, 1) := by decide +kernel
theorem dX2_init_1 : decode cX2_init 1 = .ok (.invokespecial 3, 3) := by decide +kernel
theorem dX2_init_4 : decode cX2_init 4 = .ok (.aload_n 0, 1) := by decide +kernel
theorem dX2_init_5 : decode cX2_init 5 = .ok (.bipush 8, 2) := by decide +kernel
theorem dX2_init_7 : decode cX2_init 7 = .ok (.newarray .int, 2) := by decide +kernel
theorem dX2_init_9 : decode cX2_init 9 = .ok (.putfield 9, 3) := by decide +kernel
theorem dX2_init_12 : decode cX2_init 12 = .ok (.aload_n 0, 1) := by decide +kernel
theorem dX2_init_13 : decode cX2_init 13 = .ok (.bipush 8, 2) := by decide +kernel
theorem dX2_init_15 : decode cX2_init 15 = .ok (.newarray .int, 2) := by decide +kernel
theorem dX2_init_17 : decode cX2_init 17 = .ok (.putfield 15, 3) := by decide +kernel
theorem dX2_init_20 : decode cX2_init 20 = .ok (.aload_n 0, 1) := by decide +kernel
theorem dX2_init_21 : decode cX2_init 21 = .ok (.bipush 8, 2) := by decide +kernel
theorem dX2_init_23 : decode cX2_init 23 = .ok (.newarray .int, 2) := by decide +kernel
theorem dX2_init_25 : decode cX2_init 25 = .ok (.putfield 18, 3) := by decide +kernel
theorem dX2_init_28 : decode cX2_init 28 = .ok (.aload_n 0, 1) := by decide +kernel
theorem dX2_init_29 : decode cX2_init 29 = .ok (.bipush 8, 2) := by decide +kernel
theorem dX2_init_31 : decode cX2_init 31 = .ok (.newarray .int, 2) := by decide +kernel
theorem dX2_init_33 : decode cX2_init 33 = .ok (.putfield 21, 3) := by decide +kernel
theorem dX2_init_36 : decode cX2_init 36 = .ok (.aload_n 0, 1) := by decide +kernel
theorem dX2_init_37 : decode cX2_init 37 = .ok (.bipush 7, 2) := by decide +kernel
theorem dX2_init_39 : decode cX2_init 39 = .ok (.newarray .int, 2) := by decide +kernel
theorem dX2_init_41 : decode cX2_init 41 = .ok (.putfield 24, 3) := by decide +kernel
theorem dX2_init_44 : decode cX2_init 44 = .ok (.return_, 1) := by decide +kernel
theorem dX2_plan_0 : decode cX2_plan 0 = .ok (.aload_n 0, 1) := by decide +kernel
theorem dX2_plan_1 : decode cX2_plan 1 = .ok (.iconst 0, 1) := by decide +kernel
theorem dX2_plan_2 : decode cX2_plan 2 = .ok (.putfield 27, 3) := by decide +kernel
theorem dX2_plan_5 : decode cX2_plan 5 = .ok (.aload_n 0, 1) := by decide +kernel
theorem dX2_plan_6 : decode cX2_plan 6 = .ok (.aload_n 3, 1) := by decide +kernel
theorem dX2_plan_7 : decode cX2_plan 7 = .ok (.iconst 2, 1) := by decide +kernel
theorem dX2_plan_8 : decode cX2_plan 8 = .ok (.iaload, 1) := by decide +kernel
theorem dX2_plan_9 : decode cX2_plan 9 = .ok (.putfield 31, 3) := by decide +kernel
theorem dX2_plan_12 : decode cX2_plan 12 = .ok (.iconst 1, 1) := by decide +kernel
theorem dX2_plan_13 : decode cX2_plan 13 = .ok (.istore 4, 2) := by decide +kernel
theorem dX2_plan_15 : decode cX2_plan 15 = .ok (.iload 4, 2) := by decide +kernel
theorem dX2_plan_17 : decode cX2_plan 17 = .ok (.bipush 8, 2) := by decide +kernel
theorem dX2_plan_19 : decode cX2_plan 19 = .ok (.if_icmp .ge 78, 3) := by decide +kernel
theorem dX2_plan_22 : decode cX2_plan 22 = .ok (.aload_n 2, 1) := by decide +kernel
theorem dX2_plan_23 : decode cX2_plan 23 = .ok (.getfield 34, 3) := by decide +kernel
theorem dX2_plan_26 : decode cX2_plan 26 = .ok (.iload 4, 2) := by decide +kernel
theorem dX2_plan_28 : decode cX2_plan 28 = .ok (.iconst 1, 1) := by decide +kernel
theorem dX2_plan_29 : decode cX2_plan 29 = .ok (.isub, 1) := by decide +kernel
theorem dX2_plan_30 : decode cX2_plan 30 = .ok (.iaload, 1) := by decide +kernel
theorem dX2_plan_31 : decode cX2_plan 31 = .ok (.ifCond .le 66, 3) := by decide +kernel
theorem dX2_plan_34 : decode cX2_plan 34 = .ok (.aload_n 0, 1) := by decide +kernel
theorem dX2_plan_35 : decode cX2_plan 35 = .ok (.iload 4, 2) := by decide +kernel
theorem dX2_plan_37 : decode cX2_plan 37 = .ok (.putfield 27, 3) := by decide +kernel
theorem dX2_plan_40 : decode cX2_plan 40 = .ok (.aload_n 0, 1) := by decide +kernel
theorem dX2_plan_41 : decode cX2_plan 41 = .ok (.getfield 9, 3) := by decide +kernel
theorem dX2_plan_44 : decode cX2_plan 44 = .ok (.iload 4, 2) := by decide +kernel
theorem dX2_plan_46 : decode cX2_plan 46 = .ok (.aload_n 2, 1) := by decide +kernel
theorem dX2_plan_47 : decode cX2_plan 47 = .ok (.iload 4, 2) := by decide +kernel
theorem dX2_plan_49 : decode cX2_plan 49 = .ok (.iconst 1, 1) := by decide +kernel
theorem dX2_plan_50 : decode cX2_plan 50 = .ok (.isub, 1) := by decide +kernel
theorem dX2_plan_51 : decode cX2_plan 51 = .ok (.invokevirtual 39, 3) := by decide +kernel
theorem dX2_plan_54 : decode cX2_plan 54 = .ok (.aload_n 3, 1) := by decide +kernel
theorem dX2_plan_55 : decode cX2_plan 55 = .ok (.iconst 0, 1) := by decide +kernel
theorem dX2_plan_56 : decode cX2_plan 56 = .ok (.iaload, 1) := by decide +kernel
theorem dX2_plan_57 : decode cX2_plan 57 = .ok (.isub, 1) := by decide +kernel
theorem dX2_plan_58 : decode cX2_plan 58 = .ok (.iastore, 1) := by decide +kernel
theorem dX2_plan_59 : decode cX2_plan 59 = .ok (.aload_n 0, 1) := by decide +kernel
theorem dX2_plan_60 : decode cX2_plan 60 = .ok (.getfield 15, 3) := by decide +kernel
theorem dX2_plan_63 : decode cX2_plan 63 = .ok (.iload 4, 2) := by decide +kernel
theorem dX2_plan_65 : decode cX2_plan 65 = .ok (.aload_n 2, 1) := by decide +kernel
theorem dX2_plan_66 : decode cX2_plan 66 = .ok (.iload 4, 2) := by decide +kernel
theorem dX2_plan_68 : decode cX2_plan 68 = .ok (.iconst 1, 1) := by decide +kernel
theorem dX2_plan_69 : decode cX2_plan 69 = .ok (.isub, 1) := by decide +kernel
theorem dX2_plan_70 : decode cX2_plan 70 = .ok (.invokevirtual 43, 3) := by decide +kernel
theorem dX2_plan_73 : decode cX2_plan 73 = .ok (.aload_n 3, 1) := by decide +kernel
theorem dX2_plan_74 : decode cX2_plan 74 = .ok (.iconst 1, 1) := by decide +kernel
theorem dX2_plan_75 : decode cX2_plan 75 = .ok (.iaload, 1) := by decide +kernel
theorem dX2_plan_76 : decode cX2_plan 76 = .ok (.iadd, 1) := by decide +kernel
theorem dX2_plan_77 : decode cX2_plan 77 = .ok (.iastore, 1) := by decide +kernel
theorem dX2_plan_78 : decode cX2_plan 78 = .ok (.aload_n 0, 1) := by decide +kernel
theorem dX2_plan_79 : decode cX2_plan 79 = .ok (.getfield 21, 3) := by decide +kernel
theorem dX2_plan_82 : decode cX2_plan 82 = .ok (.iload 4, 2) := by decide +kernel
theorem dX2_plan_84 : decode cX2_plan 84 = .ok (.aload_n 1, 1) := by decide +kernel
theorem dX2_plan_85 : decode cX2_plan 85 = .ok (.iload 4, 2) := by decide +kernel
theorem dX2_plan_87 : decode cX2_plan 87 = .ok (.invokevirtual 46, 3) := by decide +kernel
theorem dX2_plan_90 : decode cX2_plan 90 = .ok (.iastore, 1) := by decide +kernel
theorem dX2_plan_91 : decode cX2_plan 91 = .ok (.iinc 4 1, 3) := by decide +kernel
theorem dX2_plan_94 : decode cX2_plan 94 = .ok (.goto (-79), 3) := by decide +kernel
theorem dX2_plan_97 : decode cX2_plan 97 = .ok (.aload_n 0, 1) := by decide +kernel
theorem dX2_plan_98 : decode cX2_plan 98 = .ok (.aload_n 0, 1) := by decide +kernel
theorem dX2_plan_99 : decode cX2_plan 99 = .ok (.invokevirtual 51, 3) := by decide +kernel
theorem dX2_plan_102 : decode cX2_plan 102 = .ok (.putfield 55, 3) := by decide +kernel
theorem dX2_plan_105 : decode cX2_plan 105 = .ok (.return_, 1) := by decide +kernel
theorem dX2_fewestSets_0 : decode cX2_fewestSets 0 = .ok (.iconst 0, 1) := by decide +kernel
theorem dX2_fewestSets_1 : decode cX2_fewestSets 1 = .ok (.istore_n 1, 1) := by decide +kernel
theorem dX2_fewestSets_2 : decode cX2_fewestSets 2 = .ok (.iload_n 1, 1) := by decide +kernel
theorem dX2_fewestSets_3 : decode cX2_fewestSets 3 = .ok (.aload_n 0, 1) := by decide +kernel
theorem dX2_fewestSets_4 : decode cX2_fewestSets 4 = .ok (.getfield 27, 3) := by decide +kernel
theorem dX2_fewestSets_7 : decode cX2_fewestSets 7 = .ok (.if_icmp .gt 21, 3) := by decide +kernel
theorem dX2_fewestSets_10 : decode cX2_fewestSets 10 = .ok (.aload_n 0, 1) := by decide +kernel
theorem dX2_fewestSets_11 : decode cX2_fewestSets 11 = .ok (.iconst 1, 1) := by decide +kernel
theorem dX2_fewestSets_12 : decode cX2_fewestSets 12 = .ok (.iconst 0, 1) := by decide +kernel
theorem dX2_fewestSets_13 : decode cX2_fewestSets 13 = .ok (.iload_n 1, 1) := by decide +kernel
theorem dX2_fewestSets_14 : decode cX2_fewestSets 14 = .ok (.invokevirtual 58, 3) := by decide +kernel
theorem dX2_fewestSets_17 : decode cX2_fewestSets 17 = .ok (.ifCond .eq 5, 3) := by decide +kernel
theorem dX2_fewestSets_20 : decode cX2_fewestSets 20 = .ok (.iload_n 1, 1) := by decide +kernel
theorem dX2_fewestSets_21 : decode cX2_fewestSets 21 = .ok (.ireturn, 1) := by decide +kernel
theorem dX2_fewestSets_22 : decode cX2_fewestSets 22 = .ok (.iinc 1 1, 3) := by decide +kernel
theorem dX2_fewestSets_25 : decode cX2_fewestSets 25 = .ok (.goto (-23), 3) := by decide +kernel
theorem dX2_fewestSets_28 : decode cX2_fewestSets 28 = .ok (.aload_n 0, 1) := by decide +kernel
theorem dX2_fewestSets_29 : decode cX2_fewestSets 29 = .ok (.getfield 27, 3) := by decide +kernel
theorem dX2_fewestSets_32 : decode cX2_fewestSets 32 = .ok (.ireturn, 1) := by decide +kernel
theorem dX2_firstCampOf_0 : decode cX2_firstCampOf 0 = .ok (.iconst 1, 1) := by decide +kernel
theorem dX2_firstCampOf_1 : decode cX2_firstCampOf 1 = .ok (.istore_n 2, 1) := by decide +kernel
theorem dX2_firstCampOf_2 : decode cX2_firstCampOf 2 = .ok (.iload_n 2, 1) := by decide +kernel
theorem dX2_firstCampOf_3 : decode cX2_firstCampOf 3 = .ok (.aload_n 0, 1) := by decide +kernel
theorem dX2_firstCampOf_4 : decode cX2_firstCampOf 4 = .ok (.getfield 27, 3) := by decide +kernel
theorem dX2_firstCampOf_7 : decode cX2_firstCampOf 7 = .ok (.if_icmp .gt 21, 3) := by decide +kernel
theorem dX2_firstCampOf_10 : decode cX2_firstCampOf 10 = .ok (.aload_n 0, 1) := by decide +kernel
theorem dX2_firstCampOf_11 : decode cX2_firstCampOf 11 = .ok (.getfield 18, 3) := by decide +kernel
theorem dX2_firstCampOf_14 : decode cX2_firstCampOf 14 = .ok (.iload_n 2, 1) := by decide +kernel
theorem dX2_firstCampOf_15 : decode cX2_firstCampOf 15 = .ok (.iaload, 1) := by decide +kernel
theorem dX2_firstCampOf_16 : decode cX2_firstCampOf 16 = .ok (.iload_n 1, 1) := by decide +kernel
theorem dX2_firstCampOf_17 : decode cX2_firstCampOf 17 = .ok (.if_icmp .ne 5, 3) := by decide +kernel
theorem dX2_firstCampOf_20 : decode cX2_firstCampOf 20 = .ok (.iload_n 2, 1) := by decide +kernel
theorem dX2_firstCampOf_21 : decode cX2_firstCampOf 21 = .ok (.ireturn, 1) := by decide +kernel
theorem dX2_firstCampOf_22 : decode cX2_firstCampOf 22 = .ok (.iinc 2 1, 3) := by decide +kernel
theorem dX2_firstCampOf_25 : decode cX2_firstCampOf 25 = .ok (.goto (-23), 3) := by decide +kernel
theorem dX2_firstCampOf_28 : decode cX2_firstCampOf 28 = .ok (.iconst 0, 1) := by decide +kernel
theorem dX2_firstCampOf_29 : decode cX2_firstCampOf 29 = .ok (.ireturn, 1) := by decide +kernel
theorem dX2_lastCampOf_0 : decode cX2_lastCampOf 0 = .ok (.aload_n 0, 1) := by decide +kernel
theorem dX2_lastCampOf_1 : decode cX2_lastCampOf 1 = .ok (.getfield 27, 3) := by decide +kernel
theorem dX2_lastCampOf_4 : decode cX2_lastCampOf 4 = .ok (.istore_n 2, 1) := by decide +kernel
theorem dX2_lastCampOf_5 : decode cX2_lastCampOf 5 = .ok (.iload_n 2, 1) := by decide +kernel
theorem dX2_lastCampOf_6 : decode cX2_lastCampOf 6 = .ok (.ifCond .le 21, 3) := by decide +kernel
theorem dX2_lastCampOf_9 : decode cX2_lastCampOf 9 = .ok (.aload_n 0, 1) := by decide +kernel
theorem dX2_lastCampOf_10 : decode cX2_lastCampOf 10 = .ok (.getfield 18, 3) := by decide +kernel
theorem dX2_lastCampOf_13 : decode cX2_lastCampOf 13 = .ok (.iload_n 2, 1) := by decide +kernel
theorem dX2_lastCampOf_14 : decode cX2_lastCampOf 14 = .ok (.iaload, 1) := by decide +kernel
theorem dX2_lastCampOf_15 : decode cX2_lastCampOf 15 = .ok (.iload_n 1, 1) := by decide +kernel
theorem dX2_lastCampOf_16 : decode cX2_lastCampOf 16 = .ok (.if_icmp .ne 5, 3) := by decide +kernel
theorem dX2_lastCampOf_19 : decode cX2_lastCampOf 19 = .ok (.iload_n 2, 1) := by decide +kernel
theorem dX2_lastCampOf_20 : decode cX2_lastCampOf 20 = .ok (.ireturn, 1) := by decide +kernel
theorem dX2_lastCampOf_21 : decode cX2_lastCampOf 21 = .ok (.iinc 2 (-1), 3) := by decide +kernel
theorem dX2_lastCampOf_24 : decode cX2_lastCampOf 24 = .ok (.goto (-19), 3) := by decide +kernel
theorem dX2_lastCampOf_27 : decode cX2_lastCampOf 27 = .ok (.iconst 0, 1) := by decide +kernel
theorem dX2_lastCampOf_28 : decode cX2_lastCampOf 28 = .ok (.ireturn, 1) := by decide +kernel
theorem dX2_share_0 : decode cX2_share 0 = .ok (.iload_n 1, 1) := by decide +kernel
theorem dX2_share_1 : decode cX2_share 1 = .ok (.aload_n 0, 1) := by decide +kernel
theorem dX2_share_2 : decode cX2_share 2 = .ok (.getfield 27, 3) := by decide +kernel
theorem dX2_share_5 : decode cX2_share 5 = .ok (.if_icmp .gt 9, 3) := by decide +kernel
theorem dX2_share_8 : decode cX2_share 8 = .ok (.iload_n 1, 1) := by decide +kernel
theorem dX2_share_9 : decode cX2_share 9 = .ok (.bipush 8, 2) := by decide +kernel
theorem dX2_share_11 : decode cX2_share 11 = .ok (.if_icmp .lt 5, 3) := by decide +kernel
theorem dX2_share_14 : decode cX2_share 14 = .ok (.iconst 1, 1) := by decide +kernel
theorem dX2_share_15 : decode cX2_share 15 = .ok (.ireturn, 1) := by decide +kernel
theorem dX2_share_16 : decode cX2_share 16 = .ok (.iconst 0, 1) := by decide +kernel
theorem dX2_share_17 : decode cX2_share 17 = .ok (.istore 4, 2) := by decide +kernel
theorem dX2_share_19 : decode cX2_share 19 = .ok (.iload 4, 2) := by decide +kernel
theorem dX2_share_21 : decode cX2_share 21 = .ok (.iload_n 2, 1) := by decide +kernel
theorem dX2_share_22 : decode cX2_share 22 = .ok (.if_icmp .gt 98, 3) := by decide +kernel
theorem dX2_share_25 : decode cX2_share 25 = .ok (.iload 4, 2) := by decide +kernel
theorem dX2_share_27 : decode cX2_share 27 = .ok (.iload_n 3, 1) := by decide +kernel
theorem dX2_share_28 : decode cX2_share 28 = .ok (.if_icmp .ge 92, 3) := by decide +kernel
theorem dX2_share_31 : decode cX2_share 31 = .ok (.iload 4, 2) := by decide +kernel
theorem dX2_share_33 : decode cX2_share 33 = .ok (.bipush 7, 2) := by decide +kernel
theorem dX2_share_35 : decode cX2_share 35 = .ok (.if_icmp .ge 85, 3) := by decide +kernel
theorem dX2_share_38 : decode cX2_share 38 = .ok (.aload_n 0, 1) := by decide +kernel
theorem dX2_share_39 : decode cX2_share 39 = .ok (.getfield 24, 3) := by decide +kernel
theorem dX2_share_42 : decode cX2_share 42 = .ok (.iload 4, 2) := by decide +kernel
theorem dX2_share_44 : decode cX2_share 44 = .ok (.iaload, 1) := by decide +kernel
theorem dX2_share_45 : decode cX2_share 45 = .ok (.istore 5, 2) := by decide +kernel
theorem dX2_share_47 : decode cX2_share 47 = .ok (.iload 4, 2) := by decide +kernel
theorem dX2_share_49 : decode cX2_share 49 = .ok (.iload_n 2, 1) := by decide +kernel
theorem dX2_share_50 : decode cX2_share 50 = .ok (.if_icmp .eq 13, 3) := by decide +kernel
theorem dX2_share_53 : decode cX2_share 53 = .ok (.aload_n 0, 1) := by decide +kernel
theorem dX2_share_54 : decode cX2_share 54 = .ok (.iload_n 1, 1) := by decide +kernel
theorem dX2_share_55 : decode cX2_share 55 = .ok (.iload 5, 2) := by decide +kernel
theorem dX2_share_57 : decode cX2_share 57 = .ok (.invokevirtual 62, 3) := by decide +kernel
theorem dX2_share_60 : decode cX2_share 60 = .ok (.ifCond .eq 54, 3) := by decide +kernel
theorem dX2_share_63 : decode cX2_share 63 = .ok (.aload_n 0, 1) := by decide +kernel
theorem dX2_share_64 : decode cX2_share 64 = .ok (.getfield 18, 3) := by decide +kernel
theorem dX2_share_67 : decode cX2_share 67 = .ok (.iload_n 1, 1) := by decide +kernel
theorem dX2_share_68 : decode cX2_share 68 = .ok (.iload 4, 2) := by decide +kernel
theorem dX2_share_70 : decode cX2_share 70 = .ok (.iastore, 1) := by decide +kernel
theorem dX2_share_71 : decode cX2_share 71 = .ok (.aload_n 0, 1) := by decide +kernel
theorem dX2_share_72 : decode cX2_share 72 = .ok (.getfield 24, 3) := by decide +kernel
theorem dX2_share_75 : decode cX2_share 75 = .ok (.iload 4, 2) := by decide +kernel
theorem dX2_share_77 : decode cX2_share 77 = .ok (.iload_n 1, 1) := by decide +kernel
theorem dX2_share_78 : decode cX2_share 78 = .ok (.iastore, 1) := by decide +kernel
theorem dX2_share_79 : decode cX2_share 79 = .ok (.aload_n 0, 1) := by decide +kernel
theorem dX2_share_80 : decode cX2_share 80 = .ok (.iload_n 1, 1) := by decide +kernel
theorem dX2_share_81 : decode cX2_share 81 = .ok (.iconst 1, 1) := by decide +kernel
theorem dX2_share_82 : decode cX2_share 82 = .ok (.iadd, 1) := by decide +kernel
theorem dX2_share_83 : decode cX2_share 83 = .ok (.iload 4, 2) := by decide +kernel
theorem dX2_share_85 : decode cX2_share 85 = .ok (.iload_n 2, 1) := by decide +kernel
theorem dX2_share_86 : decode cX2_share 86 = .ok (.if_icmp .ne 9, 3) := by decide +kernel
theorem dX2_share_89 : decode cX2_share 89 = .ok (.iload_n 2, 1) := by decide +kernel
theorem dX2_share_90 : decode cX2_share 90 = .ok (.iconst 1, 1) := by decide +kernel
theorem dX2_share_91 : decode cX2_share 91 = .ok (.iadd, 1) := by decide +kernel
theorem dX2_share_92 : decode cX2_share 92 = .ok (.goto 4, 3) := by decide +kernel
theorem dX2_share_95 : decode cX2_share 95 = .ok (.iload_n 2, 1) := by decide +kernel
theorem dX2_share_96 : decode cX2_share 96 = .ok (.iload_n 3, 1) := by decide +kernel
theorem dX2_share_97 : decode cX2_share 97 = .ok (.invokevirtual 58, 3) := by decide +kernel
theorem dX2_share_100 : decode cX2_share 100 = .ok (.ifCond .eq 5, 3) := by decide +kernel
theorem dX2_share_103 : decode cX2_share 103 = .ok (.iconst 1, 1) := by decide +kernel
theorem dX2_share_104 : decode cX2_share 104 = .ok (.ireturn, 1) := by decide +kernel
theorem dX2_share_105 : decode cX2_share 105 = .ok (.aload_n 0, 1) := by decide +kernel
theorem dX2_share_106 : decode cX2_share 106 = .ok (.getfield 24, 3) := by decide +kernel
theorem dX2_share_109 : decode cX2_share 109 = .ok (.iload 4, 2) := by decide +kernel
theorem dX2_share_111 : decode cX2_share 111 = .ok (.iload 5, 2) := by decide +kernel
theorem dX2_share_113 : decode cX2_share 113 = .ok (.iastore, 1) := by decide +kernel
theorem dX2_share_114 : decode cX2_share 114 = .ok (.iinc 4 1, 3) := by decide +kernel
theorem dX2_share_117 : decode cX2_share 117 = .ok (.goto (-98), 3) := by decide +kernel
theorem dX2_share_120 : decode cX2_share 120 = .ok (.iconst 0, 1) := by decide +kernel
theorem dX2_share_121 : decode cX2_share 121 = .ok (.ireturn, 1) := by decide +kernel
theorem dX2_canDo_0 : decode cX2_canDo 0 = .ok (.aload_n 0, 1) := by decide +kernel
theorem dX2_canDo_1 : decode cX2_canDo 1 = .ok (.getfield 21, 3) := by decide +kernel
theorem dX2_canDo_4 : decode cX2_canDo 4 = .ok (.iload_n 1, 1) := by decide +kernel
theorem dX2_canDo_5 : decode cX2_canDo 5 = .ok (.iaload, 1) := by decide +kernel
theorem dX2_canDo_6 : decode cX2_canDo 6 = .ok (.aload_n 0, 1) := by decide +kernel
theorem dX2_canDo_7 : decode cX2_canDo 7 = .ok (.getfield 21, 3) := by decide +kernel
theorem dX2_canDo_10 : decode cX2_canDo 10 = .ok (.iload_n 2, 1) := by decide +kernel
theorem dX2_canDo_11 : decode cX2_canDo 11 = .ok (.iaload, 1) := by decide +kernel
theorem dX2_canDo_12 : decode cX2_canDo 12 = .ok (.isub, 1) := by decide +kernel
theorem dX2_canDo_13 : decode cX2_canDo 13 = .ok (.aload_n 0, 1) := by decide +kernel
theorem dX2_canDo_14 : decode cX2_canDo 14 = .ok (.getfield 31, 3) := by decide +kernel
theorem dX2_canDo_17 : decode cX2_canDo 17 = .ok (.invokestatic 66, 3) := by decide +kernel
theorem dX2_canDo_20 : decode cX2_canDo 20 = .ok (.istore_n 3, 1) := by decide +kernel
theorem dX2_canDo_21 : decode cX2_canDo 21 = .ok (.aload_n 0, 1) := by decide +kernel
theorem dX2_canDo_22 : decode cX2_canDo 22 = .ok (.getfield 15, 3) := by decide +kernel
theorem dX2_canDo_25 : decode cX2_canDo 25 = .ok (.iload_n 2, 1) := by decide +kernel
theorem dX2_canDo_26 : decode cX2_canDo 26 = .ok (.iaload, 1) := by decide +kernel
theorem dX2_canDo_27 : decode cX2_canDo 27 = .ok (.iload_n 3, 1) := by decide +kernel
theorem dX2_canDo_28 : decode cX2_canDo 28 = .ok (.iadd, 1) := by decide +kernel
theorem dX2_canDo_29 : decode cX2_canDo 29 = .ok (.aload_n 0, 1) := by decide +kernel
theorem dX2_canDo_30 : decode cX2_canDo 30 = .ok (.getfield 9, 3) := by decide +kernel
theorem dX2_canDo_33 : decode cX2_canDo 33 = .ok (.iload_n 1, 1) := by decide +kernel
theorem dX2_canDo_34 : decode cX2_canDo 34 = .ok (.iaload, 1) := by decide +kernel
theorem dX2_canDo_35 : decode cX2_canDo 35 = .ok (.if_icmp .gt 7, 3) := by decide +kernel
theorem dX2_canDo_38 : decode cX2_canDo 38 = .ok (.iconst 1, 1) := by decide +kernel
theorem dX2_canDo_39 : decode cX2_canDo 39 = .ok (.goto 4, 3) := by decide +kernel
theorem dX2_canDo_42 : decode cX2_canDo 42 = .ok (.iconst 0, 1) := by decide +kernel
theorem dX2_canDo_43 : decode cX2_canDo 43 = .ok (.ireturn, 1) := by decide +kernel
theorem dX3_init_0 : decode cX3_init 0 = .ok (.aload_n 0, 1) := by decide +kernel
theorem dX3_init_1 : decode cX3_init 1 = .ok (.invokespecial 3, 3) := by decide +kernel
theorem dX3_init_4 : decode cX3_init 4 = .ok (.aload_n 0, 1) := by decide +kernel
theorem dX3_init_5 : decode cX3_init 5 = .ok (.bipush 7, 2) := by decide +kernel
theorem dX3_init_7 : decode cX3_init 7 = .ok (.bipush 10, 2) := by decide +kernel
theorem dX3_init_9 : decode cX3_init 9 = .ok (.multianewarray 9 2, 4) := by decide +kernel
theorem dX3_init_13 : decode cX3_init 13 = .ok (.putfield 11, 3) := by decide +kernel
theorem dX3_init_16 : decode cX3_init 16 = .ok (.aload_n 0, 1) := by decide +kernel
theorem dX3_init_17 : decode cX3_init 17 = .ok (.bipush 7, 2) := by decide +kernel
theorem dX3_init_19 : decode cX3_init 19 = .ok (.bipush 10, 2) := by decide +kernel
theorem dX3_init_21 : decode cX3_init 21 = .ok (.multianewarray 9 2, 4) := by decide +kernel
theorem dX3_init_25 : decode cX3_init 25 = .ok (.putfield 16, 3) := by decide +kernel
theorem dX3_init_28 : decode cX3_init 28 = .ok (.aload_n 0, 1) := by decide +kernel
theorem dX3_init_29 : decode cX3_init 29 = .ok (.bipush 7, 2) := by decide +kernel
theorem dX3_init_31 : decode cX3_init 31 = .ok (.bipush 10, 2) := by decide +kernel
theorem dX3_init_33 : decode cX3_init 33 = .ok (.multianewarray 9 2, 4) := by decide +kernel
theorem dX3_init_37 : decode cX3_init 37 = .ok (.putfield 19, 3) := by decide +kernel
theorem dX3_init_40 : decode cX3_init 40 = .ok (.aload_n 0, 1) := by decide +kernel
theorem dX3_init_41 : decode cX3_init 41 = .ok (.bipush 7, 2) := by decide +kernel
theorem dX3_init_43 : decode cX3_init 43 = .ok (.bipush 10, 2) := by decide +kernel
theorem dX3_init_45 : decode cX3_init 45 = .ok (.multianewarray 9 2, 4) := by decide +kernel
theorem dX3_init_49 : decode cX3_init 49 = .ok (.putfield 22, 3) := by decide +kernel
theorem dX3_init_52 : decode cX3_init 52 = .ok (.aload_n 0, 1) := by decide +kernel
theorem dX3_init_53 : decode cX3_init 53 = .ok (.bipush 7, 2) := by decide +kernel
theorem dX3_init_55 : decode cX3_init 55 = .ok (.bipush 10, 2) := by decide +kernel
theorem dX3_init_57 : decode cX3_init 57 = .ok (.multianewarray 9 2, 4) := by decide +kernel
theorem dX3_init_61 : decode cX3_init 61 = .ok (.putfield 25, 3) := by decide +kernel
theorem dX3_init_64 : decode cX3_init 64 = .ok (.aload_n 0, 1) := by decide +kernel
theorem dX3_init_65 : decode cX3_init 65 = .ok (.bipush 7, 2) := by decide +kernel
theorem dX3_init_67 : decode cX3_init 67 = .ok (.bipush 10, 2) := by decide +kernel
theorem dX3_init_69 : decode cX3_init 69 = .ok (.multianewarray 9 2, 4) := by decide +kernel
theorem dX3_init_73 : decode cX3_init 73 = .ok (.putfield 28, 3) := by decide +kernel
theorem dX3_init_76 : decode cX3_init 76 = .ok (.aload_n 0, 1) := by decide +kernel
theorem dX3_init_77 : decode cX3_init 77 = .ok (.bipush 7, 2) := by decide +kernel
theorem dX3_init_79 : decode cX3_init 79 = .ok (.newarray .int, 2) := by decide +kernel
theorem dX3_init_81 : decode cX3_init 81 = .ok (.putfield 31, 3) := by decide +kernel
theorem dX3_init_84 : decode cX3_init 84 = .ok (.aload_n 0, 1) := by decide +kernel
theorem dX3_init_85 : decode cX3_init 85 = .ok (.bipush 7, 2) := by decide +kernel
theorem dX3_init_87 : decode cX3_init 87 = .ok (.newarray .int, 2) := by decide +kernel
theorem dX3_init_89 : decode cX3_init 89 = .ok (.putfield 35, 3) := by decide +kernel
theorem dX3_init_92 : decode cX3_init 92 = .ok (.aload_n 0, 1) := by decide +kernel
theorem dX3_init_93 : decode cX3_init 93 = .ok (.bipush 7, 2) := by decide +kernel
theorem dX3_init_95 : decode cX3_init 95 = .ok (.newarray .int, 2) := by decide +kernel
theorem dX3_init_97 : decode cX3_init 97 = .ok (.putfield 38, 3) := by decide +kernel
theorem dX3_init_100 : decode cX3_init 100 = .ok (.return_, 1) := by decide +kernel
theorem dX3_run_0 : decode cX3_run 0 = .ok (.iconst 0, 1) := by decide +kernel
theorem dX3_run_1 : decode cX3_run 1 = .ok (.istore 4, 2) := by decide +kernel
theorem dX3_run_3 : decode cX3_run 3 = .ok (.iload 4, 2) := by decide +kernel
theorem dX3_run_5 : decode cX3_run 5 = .ok (.bipush 7, 2) := by decide +kernel
theorem dX3_run_7 : decode cX3_run 7 = .ok (.if_icmp .ge 89, 3) := by decide +kernel
theorem dX3_run_10 : decode cX3_run 10 = .ok (.aload_n 0, 1) := by decide +kernel
theorem dX3_run_11 : decode cX3_run 11 = .ok (.iload 4, 2) := by decide +kernel
theorem dX3_run_13 : decode cX3_run 13 = .ok (.invokevirtual 41, 3) := by decide +kernel
theorem dX3_run_16 : decode cX3_run 16 = .ok (.aload_n 0, 1) := by decide +kernel
theorem dX3_run_17 : decode cX3_run 17 = .ok (.getfield 38, 3) := by decide +kernel
theorem dX3_run_20 : decode cX3_run 20 = .ok (.iload 4, 2) := by decide +kernel
theorem dX3_run_22 : decode cX3_run 22 = .ok (.aload_n 1, 1) := by decide +kernel
theorem dX3_run_23 : decode cX3_run 23 = .ok (.iload 4, 2) := by decide +kernel
theorem dX3_run_25 : decode cX3_run 25 = .ok (.invokevirtual 45, 3) := by decide +kernel
theorem dX3_run_28 : decode cX3_run 28 = .ok (.iastore, 1) := by decide +kernel
theorem dX3_run_29 : decode cX3_run 29 = .ok (.iconst 0, 1) := by decide +kernel
theorem dX3_run_30 : decode cX3_run 30 = .ok (.istore 5, 2) := by decide +kernel
theorem dX3_run_32 : decode cX3_run 32 = .ok (.iload 5, 2) := by decide +kernel
theorem dX3_run_34 : decode cX3_run 34 = .ok (.aload_n 2, 1) := by decide +kernel
theorem dX3_run_35 : decode cX3_run 35 = .ok (.getfield 50, 3) := by decide +kernel
theorem dX3_run_38 : decode cX3_run 38 = .ok (.if_icmp .ge 39, 3) := by decide +kernel
theorem dX3_run_41 : decode cX3_run 41 = .ok (.aload_n 0, 1) := by decide +kernel
theorem dX3_run_42 : decode cX3_run 42 = .ok (.getfield 11, 3) := by decide +kernel
theorem dX3_run_45 : decode cX3_run 45 = .ok (.iload 4, 2) := by decide +kernel
theorem dX3_run_47 : decode cX3_run 47 = .ok (.aaload, 1) := by decide +kernel
theorem dX3_run_48 : decode cX3_run 48 = .ok (.iload 5, 2) := by decide +kernel
theorem dX3_run_50 : decode cX3_run 50 = .ok (.aload_n 2, 1) := by decide +kernel
theorem dX3_run_51 : decode cX3_run 51 = .ok (.getfield 56, 3) := by decide +kernel
theorem dX3_run_54 : decode cX3_run 54 = .ok (.iload 5, 2) := by decide +kernel
theorem dX3_run_56 : decode cX3_run 56 = .ok (.iaload, 1) := by decide +kernel
theorem dX3_run_57 : decode cX3_run 57 = .ok (.aload_n 1, 1) := by decide +kernel
theorem dX3_run_58 : decode cX3_run 58 = .ok (.getfield 59, 3) := by decide +kernel
theorem dX3_run_61 : decode cX3_run 61 = .ok (.iload 4, 2) := by decide +kernel
theorem dX3_run_63 : decode cX3_run 63 = .ok (.iaload, 1) := by decide +kernel
theorem dX3_run_64 : decode cX3_run 64 = .ok (.aload_n 3, 1) := by decide +kernel
theorem dX3_run_65 : decode cX3_run 65 = .ok (.iload 4, 2) := by decide +kernel
theorem dX3_run_67 : decode cX3_run 67 = .ok (.invokestatic 62, 3) := by decide +kernel
theorem dX3_run_70 : decode cX3_run 70 = .ok (.iastore, 1) := by decide +kernel
theorem dX3_run_71 : decode cX3_run 71 = .ok (.iinc 5 1, 3) := by decide +kernel
theorem dX3_run_74 : decode cX3_run 74 = .ok (.goto (-42), 3) := by decide +kernel
theorem dX3_run_77 : decode cX3_run 77 = .ok (.aload_n 0, 1) := by decide +kernel
theorem dX3_run_78 : decode cX3_run 78 = .ok (.iload 4, 2) := by decide +kernel
theorem dX3_run_80 : decode cX3_run 80 = .ok (.aload_n 2, 1) := by decide +kernel
theorem dX3_run_81 : decode cX3_run 81 = .ok (.invokevirtual 66, 3) := by decide +kernel
theorem dX3_run_84 : decode cX3_run 84 = .ok (.aload_n 0, 1) := by decide +kernel
theorem dX3_run_85 : decode cX3_run 85 = .ok (.iload 4, 2) := by decide +kernel
theorem dX3_run_87 : decode cX3_run 87 = .ok (.invokevirtual 70, 3) := by decide +kernel
theorem dX3_run_90 : decode cX3_run 90 = .ok (.iinc 4 1, 3) := by decide +kernel
theorem dX3_run_93 : decode cX3_run 93 = .ok (.goto (-90), 3) := by decide +kernel
theorem dX3_run_96 : decode cX3_run 96 = .ok (.return_, 1) := by decide +kernel
theorem dX3_lastStart_0 : decode cX3_lastStart 0 = .ok (.iload_n 1, 1) := by decide +kernel
theorem dX3_lastStart_1 : decode cX3_lastStart 1 = .ok (.invokestatic 73, 3) := by decide +kernel
theorem dX3_lastStart_4 : decode cX3_lastStart 4 = .ok (.ifCond .eq 23, 3) := by decide +kernel
theorem dX3_lastStart_7 : decode cX3_lastStart 7 = .ok (.aload_n 0, 1) := by decide +kernel
theorem dX3_lastStart_8 : decode cX3_lastStart 8 = .ok (.getfield 38, 3) := by decide +kernel
theorem dX3_lastStart_11 : decode cX3_lastStart 11 = .ok (.iload_n 1, 1) := by decide +kernel
theorem dX3_lastStart_12 : decode cX3_lastStart 12 = .ok (.iaload, 1) := by decide +kernel
theorem dX3_lastStart_13 : decode cX3_lastStart 13 = .ok (.iconst 2, 1) := by decide +kernel
theorem dX3_lastStart_14 : decode cX3_lastStart 14 = .ok (.aload_n 0, 1) := by decide +kernel
theorem dX3_lastStart_15 : decode cX3_lastStart 15 = .ok (.getfield 35, 3) := by decide +kernel
theorem dX3_lastStart_18 : decode cX3_lastStart 18 = .ok (.iload_n 1, 1) := by decide +kernel
theorem dX3_lastStart_19 : decode cX3_lastStart 19 = .ok (.iaload, 1) := by decide +kernel
theorem dX3_lastStart_20 : decode cX3_lastStart 20 = .ok (.iconst 1, 1) := by decide +kernel
theorem dX3_lastStart_21 : decode cX3_lastStart 21 = .ok (.isub, 1) := by decide +kernel
theorem dX3_lastStart_22 : decode cX3_lastStart 22 = .ok (.imul, 1) := by decide +kernel
theorem dX3_lastStart_23 : decode cX3_lastStart 23 = .ok (.iadd, 1) := by decide +kernel
theorem dX3_lastStart_24 : decode cX3_lastStart 24 = .ok (.goto 4, 3) := by decide +kernel
theorem dX3_lastStart_27 : decode cX3_lastStart 27 = .ok (.iconst (-1), 1) := by decide +kernel
theorem dX3_lastStart_28 : decode cX3_lastStart 28 = .ok (.ireturn, 1) := by decide +kernel
theorem dX3_brokenDown_0 : decode cX3_brokenDown 0 = .ok (.iconst 0, 1) := by decide +kernel
theorem dX3_brokenDown_1 : decode cX3_brokenDown 1 = .ok (.istore_n 3, 1) := by decide +kernel
theorem dX3_brokenDown_2 : decode cX3_brokenDown 2 = .ok (.iconst 0, 1) := by decide +kernel
theorem dX3_brokenDown_3 : decode cX3_brokenDown 3 = .ok (.istore 4, 2) := by decide +kernel
theorem dX3_brokenDown_5 : decode cX3_brokenDown 5 = .ok (.iload 4, 2) := by decide +kernel
theorem dX3_brokenDown_7 : decode cX3_brokenDown 7 = .ok (.aload_n 2, 1) := by decide +kernel
theorem dX3_brokenDown_8 : decode cX3_brokenDown 8 = .ok (.getfield 50, 3) := by decide +kernel
theorem dX3_brokenDown_11 : decode cX3_brokenDown 11 = .ok (.if_icmp .ge 47, 3) := by decide +kernel
theorem dX3_brokenDown_14 : decode cX3_brokenDown 14 = .ok (.iload_n 1, 1) := by decide +kernel
theorem dX3_brokenDown_15 : decode cX3_brokenDown 15 = .ok (.invokestatic 73, 3) := by decide +kernel
theorem dX3_brokenDown_18 : decode cX3_brokenDown 18 = .ok (.ifCond .eq 34, 3) := by decide +kernel
theorem dX3_brokenDown_21 : decode cX3_brokenDown 21 = .ok (.aload_n 2, 1) := by decide +kernel
theorem dX3_brokenDown_22 : decode cX3_brokenDown 22 = .ok (.getfield 77, 3) := by decide +kernel
theorem dX3_brokenDown_25 : decode cX3_brokenDown 25 = .ok (.iload 4, 2) := by decide +kernel
theorem dX3_brokenDown_27 : decode cX3_brokenDown 27 = .ok (.iaload, 1) := by decide +kernel
theorem dX3_brokenDown_28 : decode cX3_brokenDown 28 = .ok (.iload_n 1, 1) := by decide +kernel
theorem dX3_brokenDown_29 : decode cX3_brokenDown 29 = .ok (.if_icmp .ne 23, 3) := by decide +kernel
theorem dX3_brokenDown_32 : decode cX3_brokenDown 32 = .ok (.aload_n 0, 1) := by decide +kernel
theorem dX3_brokenDown_33 : decode cX3_brokenDown 33 = .ok (.getfield 16, 3) := by decide +kernel
theorem dX3_brokenDown_36 : decode cX3_brokenDown 36 = .ok (.iload_n 1, 1) := by decide +kernel
theorem dX3_brokenDown_37 : decode cX3_brokenDown 37 = .ok (.aaload, 1) := by decide +kernel
theorem dX3_brokenDown_38 : decode cX3_brokenDown 38 = .ok (.iload 4, 2) := by decide +kernel
theorem dX3_brokenDown_40 : decode cX3_brokenDown 40 = .ok (.iaload, 1) := by decide +kernel
theorem dX3_brokenDown_41 : decode cX3_brokenDown 41 = .ok (.iconst (-1), 1) := by decide +kernel
theorem dX3_brokenDown_42 : decode cX3_brokenDown 42 = .ok (.if_icmp .eq 10, 3) := by decide +kernel
theorem dX3_brokenDown_45 : decode cX3_brokenDown 45 = .ok (.iload_n 3, 1) := by decide +kernel
theorem dX3_brokenDown_46 : decode cX3_brokenDown 46 = .ok (.iconst 1, 1) := by decide +kernel
theorem dX3_brokenDown_47 : decode cX3_brokenDown 47 = .ok (.iload 4, 2) := by decide +kernel
theorem dX3_brokenDown_49 : decode cX3_brokenDown 49 = .ok (.ishl, 1) := by decide +kernel
theorem dX3_brokenDown_50 : decode cX3_brokenDown 50 = .ok (.ior, 1) := by decide +kernel
theorem dX3_brokenDown_51 : decode cX3_brokenDown 51 = .ok (.istore_n 3, 1) := by decide +kernel
theorem dX3_brokenDown_52 : decode cX3_brokenDown 52 = .ok (.iinc 4 1, 3) := by decide +kernel
theorem dX3_brokenDown_55 : decode cX3_brokenDown 55 = .ok (.goto (-50), 3) := by decide +kernel
theorem dX3_brokenDown_58 : decode cX3_brokenDown 58 = .ok (.iload_n 3, 1) := by decide +kernel
theorem dX3_brokenDown_59 : decode cX3_brokenDown 59 = .ok (.ireturn, 1) := by decide +kernel
theorem dX3_firstArrival_0 : decode cX3_firstArrival 0 = .ok (.iconst (-1), 1) := by decide +kernel
theorem dX3_firstArrival_1 : decode cX3_firstArrival 1 = .ok (.istore_n 2, 1) := by decide +kernel
theorem dX3_firstArrival_2 : decode cX3_firstArrival 2 = .ok (.iconst 0, 1) := by decide +kernel
theorem dX3_firstArrival_3 : decode cX3_firstArrival 3 = .ok (.istore_n 3, 1) := by decide +kernel
theorem dX3_firstArrival_4 : decode cX3_firstArrival 4 = .ok (.iload_n 1, 1) := by decide +kernel
theorem dX3_firstArrival_5 : decode cX3_firstArrival 5 = .ok (.invokestatic 73, 3) := by decide +kernel
theorem dX3_firstArrival_8 : decode cX3_firstArrival 8 = .ok (.ifCond .eq 53, 3) := by decide +kernel
theorem dX3_firstArrival_11 : decode cX3_firstArrival 11 = .ok (.iload_n 3, 1) := by decide +kernel
theorem dX3_firstArrival_12 : decode cX3_firstArrival 12 = .ok (.aload_n 0, 1) := by decide +kernel
theorem dX3_firstArrival_13 : decode cX3_firstArrival 13 = .ok (.getfield 31, 3) := by decide +kernel
theorem dX3_firstArrival_16 : decode cX3_firstArrival 16 = .ok (.iload_n 1, 1) := by decide +kernel
theorem dX3_firstArrival_17 : decode cX3_firstArrival 17 = .ok (.iaload, 1) := by decide +kernel
theorem dX3_firstArrival_18 : decode cX3_firstArrival 18 = .ok (.if_icmp .ge 43, 3) := by decide +kernel
theorem dX3_firstArrival_21 : decode cX3_firstArrival 21 = .ok (.aload_n 0, 1) := by decide +kernel
theorem dX3_firstArrival_22 : decode cX3_firstArrival 22 = .ok (.getfield 19, 3) := by decide +kernel
theorem dX3_firstArrival_25 : decode cX3_firstArrival 25 = .ok (.iload_n 1, 1) := by decide +kernel
theorem dX3_firstArrival_26 : decode cX3_firstArrival 26 = .ok (.aaload, 1) := by decide +kernel
theorem dX3_firstArrival_27 : decode cX3_firstArrival 27 = .ok (.aload_n 0, 1) := by decide +kernel
theorem dX3_firstArrival_28 : decode cX3_firstArrival 28 = .ok (.getfield 28, 3) := by decide +kernel
theorem dX3_firstArrival_31 : decode cX3_firstArrival 31 = .ok (.iload_n 1, 1) := by decide +kernel
theorem dX3_firstArrival_32 : decode cX3_firstArrival 32 = .ok (.aaload, 1) := by decide +kernel
theorem dX3_firstArrival_33 : decode cX3_firstArrival 33 = .ok (.iload_n 3, 1) := by decide +kernel
theorem dX3_firstArrival_34 : decode cX3_firstArrival 34 = .ok (.iaload, 1) := by decide +kernel
theorem dX3_firstArrival_35 : decode cX3_firstArrival 35 = .ok (.iaload, 1) := by decide +kernel
theorem dX3_firstArrival_36 : decode cX3_firstArrival 36 = .ok (.istore 4, 2) := by decide +kernel
theorem dX3_firstArrival_38 : decode cX3_firstArrival 38 = .ok (.iload_n 2, 1) := by decide +kernel
theorem dX3_firstArrival_39 : decode cX3_firstArrival 39 = .ok (.iconst (-1), 1) := by decide +kernel
theorem dX3_firstArrival_40 : decode cX3_firstArrival 40 = .ok (.if_icmp .ne 8, 3) := by decide +kernel
theorem dX3_firstArrival_43 : decode cX3_firstArrival 43 = .ok (.iload 4, 2) := by decide +kernel
theorem dX3_firstArrival_45 : decode cX3_firstArrival 45 = .ok (.goto 9, 3) := by decide +kernel
theorem dX3_firstArrival_48 : decode cX3_firstArrival 48 = .ok (.iload_n 2, 1) := by decide +kernel
theorem dX3_firstArrival_49 : decode cX3_firstArrival 49 = .ok (.iload 4, 2) := by decide +kernel
theorem dX3_firstArrival_51 : decode cX3_firstArrival 51 = .ok (.invokestatic 80, 3) := by decide +kernel
theorem dX3_firstArrival_54 : decode cX3_firstArrival 54 = .ok (.istore_n 2, 1) := by decide +kernel
theorem dX3_firstArrival_55 : decode cX3_firstArrival 55 = .ok (.iinc 3 1, 3) := by decide +kernel
theorem dX3_firstArrival_58 : decode cX3_firstArrival 58 = .ok (.goto (-54), 3) := by decide +kernel
theorem dX3_firstArrival_61 : decode cX3_firstArrival 61 = .ok (.iload_n 2, 1) := by decide +kernel
theorem dX3_firstArrival_62 : decode cX3_firstArrival 62 = .ok (.ireturn, 1) := by decide +kernel
theorem dX3_lastArrival_0 : decode cX3_lastArrival 0 = .ok (.iconst (-1), 1) := by decide +kernel
theorem dX3_lastArrival_1 : decode cX3_lastArrival 1 = .ok (.istore_n 2, 1) := by decide +kernel
theorem dX3_lastArrival_2 : decode cX3_lastArrival 2 = .ok (.iconst 0, 1) := by decide +kernel
theorem dX3_lastArrival_3 : decode cX3_lastArrival 3 = .ok (.istore_n 3, 1) := by decide +kernel
theorem dX3_lastArrival_4 : decode cX3_lastArrival 4 = .ok (.iload_n 1, 1) := by decide +kernel
theorem dX3_lastArrival_5 : decode cX3_lastArrival 5 = .ok (.invokestatic 73, 3) := by decide +kernel
theorem dX3_lastArrival_8 : decode cX3_lastArrival 8 = .ok (.ifCond .eq 39, 3) := by decide +kernel
theorem dX3_lastArrival_11 : decode cX3_lastArrival 11 = .ok (.iload_n 3, 1) := by decide +kernel
theorem dX3_lastArrival_12 : decode cX3_lastArrival 12 = .ok (.aload_n 0, 1) := by decide +kernel
theorem dX3_lastArrival_13 : decode cX3_lastArrival 13 = .ok (.getfield 31, 3) := by decide +kernel
theorem dX3_lastArrival_16 : decode cX3_lastArrival 16 = .ok (.iload_n 1, 1) := by decide +kernel
theorem dX3_lastArrival_17 : decode cX3_lastArrival 17 = .ok (.iaload, 1) := by decide +kernel
theorem dX3_lastArrival_18 : decode cX3_lastArrival 18 = .ok (.if_icmp .ge 29, 3) := by decide +kernel
theorem dX3_lastArrival_21 : decode cX3_lastArrival 21 = .ok (.iload_n 2, 1) := by decide +kernel
theorem dX3_lastArrival_22 : decode cX3_lastArrival 22 = .ok (.aload_n 0, 1) := by decide +kernel
theorem dX3_lastArrival_23 : decode cX3_lastArrival 23 = .ok (.getfield 19, 3) := by decide +kernel
theorem dX3_lastArrival_26 : decode cX3_lastArrival 26 = .ok (.iload_n 1, 1) := by decide +kernel
theorem dX3_lastArrival_27 : decode cX3_lastArrival 27 = .ok (.aaload, 1) := by decide +kernel
theorem dX3_lastArrival_28 : decode cX3_lastArrival 28 = .ok (.aload_n 0, 1) := by decide +kernel
theorem dX3_lastArrival_29 : decode cX3_lastArrival 29 = .ok (.getfield 28, 3) := by decide +kernel
theorem dX3_lastArrival_32 : decode cX3_lastArrival 32 = .ok (.iload_n 1, 1) := by decide +kernel
theorem dX3_lastArrival_33 : decode cX3_lastArrival 33 = .ok (.aaload, 1) := by decide +kernel
theorem dX3_lastArrival_34 : decode cX3_lastArrival 34 = .ok (.iload_n 3, 1) := by decide +kernel
theorem dX3_lastArrival_35 : decode cX3_lastArrival 35 = .ok (.iaload, 1) := by decide +kernel
theorem dX3_lastArrival_36 : decode cX3_lastArrival 36 = .ok (.iaload, 1) := by decide +kernel
theorem dX3_lastArrival_37 : decode cX3_lastArrival 37 = .ok (.invokestatic 86, 3) := by decide +kernel
theorem dX3_lastArrival_40 : decode cX3_lastArrival 40 = .ok (.istore_n 2, 1) := by decide +kernel
theorem dX3_lastArrival_41 : decode cX3_lastArrival 41 = .ok (.iinc 3 1, 3) := by decide +kernel
theorem dX3_lastArrival_44 : decode cX3_lastArrival 44 = .ok (.goto (-40), 3) := by decide +kernel
theorem dX3_lastArrival_47 : decode cX3_lastArrival 47 = .ok (.iload_n 2, 1) := by decide +kernel
theorem dX3_lastArrival_48 : decode cX3_lastArrival 48 = .ok (.ireturn, 1) := by decide +kernel
theorem dX3_forget_0 : decode cX3_forget 0 = .ok (.iconst 0, 1) := by decide +kernel
theorem dX3_forget_1 : decode cX3_forget 1 = .ok (.istore_n 2, 1) := by decide +kernel
theorem dX3_forget_2 : decode cX3_forget 2 = .ok (.iload_n 2, 1) := by decide +kernel
theorem dX3_forget_3 : decode cX3_forget 3 = .ok (.bipush 10, 2) := by decide +kernel
theorem dX3_forget_5 : decode cX3_forget 5 = .ok (.if_icmp .ge 45, 3) := by decide +kernel
theorem dX3_forget_8 : decode cX3_forget 8 = .ok (.aload_n 0, 1) := by decide +kernel
theorem dX3_forget_9 : decode cX3_forget 9 = .ok (.getfield 16, 3) := by decide +kernel
theorem dX3_forget_12 : decode cX3_forget 12 = .ok (.iload_n 1, 1) := by decide +kernel
theorem dX3_forget_13 : decode cX3_forget 13 = .ok (.aaload, 1) := by decide +kernel
theorem dX3_forget_14 : decode cX3_forget 14 = .ok (.iload_n 2, 1) := by decide +kernel
theorem dX3_forget_15 : decode cX3_forget 15 = .ok (.iconst (-1), 1) := by decide +kernel
theorem dX3_forget_16 : decode cX3_forget 16 = .ok (.iastore, 1) := by decide +kernel
theorem dX3_forget_17 : decode cX3_forget 17 = .ok (.aload_n 0, 1) := by decide +kernel
theorem dX3_forget_18 : decode cX3_forget 18 = .ok (.getfield 19, 3) := by decide +kernel
theorem dX3_forget_21 : decode cX3_forget 21 = .ok (.iload_n 1, 1) := by decide +kernel
theorem dX3_forget_22 : decode cX3_forget 22 = .ok (.aaload, 1) := by decide +kernel
theorem dX3_forget_23 : decode cX3_forget 23 = .ok (.iload_n 2, 1) := by decide +kernel
theorem dX3_forget_24 : decode cX3_forget 24 = .ok (.iconst (-1), 1) := by decide +kernel
theorem dX3_forget_25 : decode cX3_forget 25 = .ok (.iastore, 1) := by decide +kernel
theorem dX3_forget_26 : decode cX3_forget 26 = .ok (.aload_n 0, 1) := by decide +kernel
theorem dX3_forget_27 : decode cX3_forget 27 = .ok (.getfield 22, 3) := by decide +kernel
theorem dX3_forget_30 : decode cX3_forget 30 = .ok (.iload_n 1, 1) := by decide +kernel
theorem dX3_forget_31 : decode cX3_forget 31 = .ok (.aaload, 1) := by decide +kernel
theorem dX3_forget_32 : decode cX3_forget 32 = .ok (.iload_n 2, 1) := by decide +kernel
theorem dX3_forget_33 : decode cX3_forget 33 = .ok (.iconst (-1), 1) := by decide +kernel
theorem dX3_forget_34 : decode cX3_forget 34 = .ok (.iastore, 1) := by decide +kernel
theorem dX3_forget_35 : decode cX3_forget 35 = .ok (.aload_n 0, 1) := by decide +kernel
theorem dX3_forget_36 : decode cX3_forget 36 = .ok (.getfield 25, 3) := by decide +kernel
theorem dX3_forget_39 : decode cX3_forget 39 = .ok (.iload_n 1, 1) := by decide +kernel
theorem dX3_forget_40 : decode cX3_forget 40 = .ok (.aaload, 1) := by decide +kernel
theorem dX3_forget_41 : decode cX3_forget 41 = .ok (.iload_n 2, 1) := by decide +kernel
theorem dX3_forget_42 : decode cX3_forget 42 = .ok (.iconst (-1), 1) := by decide +kernel
theorem dX3_forget_43 : decode cX3_forget 43 = .ok (.iastore, 1) := by decide +kernel
theorem dX3_forget_44 : decode cX3_forget 44 = .ok (.iinc 2 1, 3) := by decide +kernel
theorem dX3_forget_47 : decode cX3_forget 47 = .ok (.goto (-45), 3) := by decide +kernel
theorem dX3_forget_50 : decode cX3_forget 50 = .ok (.aload_n 0, 1) := by decide +kernel
theorem dX3_forget_51 : decode cX3_forget 51 = .ok (.getfield 31, 3) := by decide +kernel
theorem dX3_forget_54 : decode cX3_forget 54 = .ok (.iload_n 1, 1) := by decide +kernel
theorem dX3_forget_55 : decode cX3_forget 55 = .ok (.iconst 0, 1) := by decide +kernel
theorem dX3_forget_56 : decode cX3_forget 56 = .ok (.iastore, 1) := by decide +kernel
theorem dX3_forget_57 : decode cX3_forget 57 = .ok (.aload_n 0, 1) := by decide +kernel
theorem dX3_forget_58 : decode cX3_forget 58 = .ok (.getfield 35, 3) := by decide +kernel
theorem dX3_forget_61 : decode cX3_forget 61 = .ok (.iload_n 1, 1) := by decide +kernel
theorem dX3_forget_62 : decode cX3_forget 62 = .ok (.iconst 0, 1) := by decide +kernel
theorem dX3_forget_63 : decode cX3_forget 63 = .ok (.iastore, 1) := by decide +kernel
theorem dX3_forget_64 : decode cX3_forget 64 = .ok (.return_, 1) := by decide +kernel
theorem dX3_runStage_0 : decode cX3_runStage 0 = .ok (.iload_n 1, 1) := by decide +kernel
theorem dX3_runStage_1 : decode cX3_runStage 1 = .ok (.ifCond .ne 10, 3) := by decide +kernel
theorem dX3_runStage_4 : decode cX3_runStage 4 = .ok (.aload_n 2, 1) := by decide +kernel
theorem dX3_runStage_5 : decode cX3_runStage 5 = .ok (.getfield 50, 3) := by decide +kernel
theorem dX3_runStage_8 : decode cX3_runStage 8 = .ok (.goto 11, 3) := by decide +kernel
theorem dX3_runStage_11 : decode cX3_runStage 11 = .ok (.aload_n 0, 1) := by decide +kernel
theorem dX3_runStage_12 : decode cX3_runStage 12 = .ok (.getfield 31, 3) := by decide +kernel
theorem dX3_runStage_15 : decode cX3_runStage 15 = .ok (.iload_n 1, 1) := by decide +kernel
theorem dX3_runStage_16 : decode cX3_runStage 16 = .ok (.iconst 1, 1) := by decide +kernel
theorem dX3_runStage_17 : decode cX3_runStage 17 = .ok (.isub, 1) := by decide +kernel
theorem dX3_runStage_18 : decode cX3_runStage 18 = .ok (.iaload, 1) := by decide +kernel
theorem dX3_runStage_19 : decode cX3_runStage 19 = .ok (.istore_n 3, 1) := by decide +kernel
theorem dX3_runStage_20 : decode cX3_runStage 20 = .ok (.iconst 0, 1) := by decide +kernel
theorem dX3_runStage_21 : decode cX3_runStage 21 = .ok (.istore 4, 2) := by decide +kernel
theorem dX3_runStage_23 : decode cX3_runStage 23 = .ok (.iload 4, 2) := by decide +kernel
theorem dX3_runStage_25 : decode cX3_runStage 25 = .ok (.iload_n 3, 1) := by decide +kernel
theorem dX3_runStage_26 : decode cX3_runStage 26 = .ok (.if_icmp .ge 135, 3) := by decide +kernel
theorem dX3_runStage_29 : decode cX3_runStage 29 = .ok (.iload_n 1, 1) := by decide +kernel
theorem dX3_runStage_30 : decode cX3_runStage 30 = .ok (.ifCond .ne 8, 3) := by decide +kernel
theorem dX3_runStage_33 : decode cX3_runStage 33 = .ok (.iload 4, 2) := by decide +kernel
theorem dX3_runStage_35 : decode cX3_runStage 35 = .ok (.goto 14, 3) := by decide +kernel
theorem dX3_runStage_38 : decode cX3_runStage 38 = .ok (.aload_n 0, 1) := by decide +kernel
theorem dX3_runStage_39 : decode cX3_runStage 39 = .ok (.getfield 28, 3) := by decide +kernel
theorem dX3_runStage_42 : decode cX3_runStage 42 = .ok (.iload_n 1, 1) := by decide +kernel
theorem dX3_runStage_43 : decode cX3_runStage 43 = .ok (.iconst 1, 1) := by decide +kernel
theorem dX3_runStage_44 : decode cX3_runStage 44 = .ok (.isub, 1) := by decide +kernel
theorem dX3_runStage_45 : decode cX3_runStage 45 = .ok (.aaload, 1) := by decide +kernel
theorem dX3_runStage_46 : decode cX3_runStage 46 = .ok (.iload 4, 2) := by decide +kernel
theorem dX3_runStage_48 : decode cX3_runStage 48 = .ok (.iaload, 1) := by decide +kernel
theorem dX3_runStage_49 : decode cX3_runStage 49 = .ok (.istore 5, 2) := by decide +kernel
theorem dX3_runStage_51 : decode cX3_runStage 51 = .ok (.aload_n 0, 1) := by decide +kernel
theorem dX3_runStage_52 : decode cX3_runStage 52 = .ok (.getfield 16, 3) := by decide +kernel
theorem dX3_runStage_55 : decode cX3_runStage 55 = .ok (.iload_n 1, 1) := by decide +kernel
theorem dX3_runStage_56 : decode cX3_runStage 56 = .ok (.aaload, 1) := by decide +kernel
theorem dX3_runStage_57 : decode cX3_runStage 57 = .ok (.iload 5, 2) := by decide +kernel
theorem dX3_runStage_59 : decode cX3_runStage 59 = .ok (.aload_n 0, 1) := by decide +kernel
theorem dX3_runStage_60 : decode cX3_runStage 60 = .ok (.getfield 38, 3) := by decide +kernel
theorem dX3_runStage_63 : decode cX3_runStage 63 = .ok (.iload_n 1, 1) := by decide +kernel
theorem dX3_runStage_64 : decode cX3_runStage 64 = .ok (.iaload, 1) := by decide +kernel
theorem dX3_runStage_65 : decode cX3_runStage 65 = .ok (.iconst 2, 1) := by decide +kernel
theorem dX3_runStage_66 : decode cX3_runStage 66 = .ok (.iload 4, 2) := by decide +kernel
theorem dX3_runStage_68 : decode cX3_runStage 68 = .ok (.imul, 1) := by decide +kernel
theorem dX3_runStage_69 : decode cX3_runStage 69 = .ok (.iadd, 1) := by decide +kernel
theorem dX3_runStage_70 : decode cX3_runStage 70 = .ok (.iastore, 1) := by decide +kernel
theorem dX3_runStage_71 : decode cX3_runStage 71 = .ok (.aload_n 2, 1) := by decide +kernel
theorem dX3_runStage_72 : decode cX3_runStage 72 = .ok (.getfield 77, 3) := by decide +kernel
theorem dX3_runStage_75 : decode cX3_runStage 75 = .ok (.iload 5, 2) := by decide +kernel
theorem dX3_runStage_77 : decode cX3_runStage 77 = .ok (.iaload, 1) := by decide +kernel
theorem dX3_runStage_78 : decode cX3_runStage 78 = .ok (.iload_n 1, 1) := by decide +kernel
theorem dX3_runStage_79 : decode cX3_runStage 79 = .ok (.if_icmp .eq 76, 3) := by decide +kernel
theorem dX3_runStage_82 : decode cX3_runStage 82 = .ok (.aload_n 0, 1) := by decide +kernel
theorem dX3_runStage_83 : decode cX3_runStage 83 = .ok (.getfield 19, 3) := by decide +kernel
theorem dX3_runStage_86 : decode cX3_runStage 86 = .ok (.iload_n 1, 1) := by decide +kernel
theorem dX3_runStage_87 : decode cX3_runStage 87 = .ok (.aaload, 1) := by decide +kernel
theorem dX3_runStage_88 : decode cX3_runStage 88 = .ok (.iload 5, 2) := by decide +kernel
theorem dX3_runStage_90 : decode cX3_runStage 90 = .ok (.aload_n 0, 1) := by decide +kernel
theorem dX3_runStage_91 : decode cX3_runStage 91 = .ok (.getfield 16, 3) := by decide +kernel
theorem dX3_runStage_94 : decode cX3_runStage 94 = .ok (.iload_n 1, 1) := by decide +kernel
theorem dX3_runStage_95 : decode cX3_runStage 95 = .ok (.aaload, 1) := by decide +kernel
theorem dX3_runStage_96 : decode cX3_runStage 96 = .ok (.iload 5, 2) := by decide +kernel
theorem dX3_runStage_98 : decode cX3_runStage 98 = .ok (.iaload, 1) := by decide +kernel
theorem dX3_runStage_99 : decode cX3_runStage 99 = .ok (.aload_n 0, 1) := by decide +kernel
theorem dX3_runStage_100 : decode cX3_runStage 100 = .ok (.getfield 11, 3) := by decide +kernel
theorem dX3_runStage_103 : decode cX3_runStage 103 = .ok (.iload_n 1, 1) := by decide +kernel
theorem dX3_runStage_104 : decode cX3_runStage 104 = .ok (.aaload, 1) := by decide +kernel
theorem dX3_runStage_105 : decode cX3_runStage 105 = .ok (.iload 5, 2) := by decide +kernel
theorem dX3_runStage_107 : decode cX3_runStage 107 = .ok (.iaload, 1) := by decide +kernel
theorem dX3_runStage_108 : decode cX3_runStage 108 = .ok (.iadd, 1) := by decide +kernel
theorem dX3_runStage_109 : decode cX3_runStage 109 = .ok (.iastore, 1) := by decide +kernel
theorem dX3_runStage_110 : decode cX3_runStage 110 = .ok (.aload_n 0, 1) := by decide +kernel
theorem dX3_runStage_111 : decode cX3_runStage 111 = .ok (.getfield 25, 3) := by decide +kernel
theorem dX3_runStage_114 : decode cX3_runStage 114 = .ok (.iload_n 1, 1) := by decide +kernel
theorem dX3_runStage_115 : decode cX3_runStage 115 = .ok (.aaload, 1) := by decide +kernel
theorem dX3_runStage_116 : decode cX3_runStage 116 = .ok (.iload 5, 2) := by decide +kernel
theorem dX3_runStage_118 : decode cX3_runStage 118 = .ok (.aload_n 0, 1) := by decide +kernel
theorem dX3_runStage_119 : decode cX3_runStage 119 = .ok (.getfield 11, 3) := by decide +kernel
theorem dX3_runStage_122 : decode cX3_runStage 122 = .ok (.iload_n 1, 1) := by decide +kernel
theorem dX3_runStage_123 : decode cX3_runStage 123 = .ok (.aaload, 1) := by decide +kernel
theorem dX3_runStage_124 : decode cX3_runStage 124 = .ok (.iload 5, 2) := by decide +kernel
theorem dX3_runStage_126 : decode cX3_runStage 126 = .ok (.iaload, 1) := by decide +kernel
theorem dX3_runStage_127 : decode cX3_runStage 127 = .ok (.iload_n 1, 1) := by decide +kernel
theorem dX3_runStage_128 : decode cX3_runStage 128 = .ok (.ifCond .ne 7, 3) := by decide +kernel
theorem dX3_runStage_131 : decode cX3_runStage 131 = .ok (.iconst 0, 1) := by decide +kernel
theorem dX3_runStage_132 : decode cX3_runStage 132 = .ok (.goto 14, 3) := by decide +kernel
theorem dX3_runStage_135 : decode cX3_runStage 135 = .ok (.aload_n 0, 1) := by decide +kernel
theorem dX3_runStage_136 : decode cX3_runStage 136 = .ok (.getfield 25, 3) := by decide +kernel
theorem dX3_runStage_139 : decode cX3_runStage 139 = .ok (.iload_n 1, 1) := by decide +kernel
theorem dX3_runStage_140 : decode cX3_runStage 140 = .ok (.iconst 1, 1) := by decide +kernel
theorem dX3_runStage_141 : decode cX3_runStage 141 = .ok (.isub, 1) := by decide +kernel
theorem dX3_runStage_142 : decode cX3_runStage 142 = .ok (.aaload, 1) := by decide +kernel
theorem dX3_runStage_143 : decode cX3_runStage 143 = .ok (.iload 5, 2) := by decide +kernel
theorem dX3_runStage_145 : decode cX3_runStage 145 = .ok (.iaload, 1) := by decide +kernel
theorem dX3_runStage_146 : decode cX3_runStage 146 = .ok (.iadd, 1) := by decide +kernel
theorem dX3_runStage_147 : decode cX3_runStage 147 = .ok (.iastore, 1) := by decide +kernel
theorem dX3_runStage_148 : decode cX3_runStage 148 = .ok (.aload_n 0, 1) := by decide +kernel
theorem dX3_runStage_149 : decode cX3_runStage 149 = .ok (.iload_n 1, 1) := by decide +kernel
theorem dX3_runStage_150 : decode cX3_runStage 150 = .ok (.iload 5, 2) := by decide +kernel
theorem dX3_runStage_152 : decode cX3_runStage 152 = .ok (.invokevirtual 89, 3) := by decide +kernel
theorem dX3_runStage_155 : decode cX3_runStage 155 = .ok (.iinc 4 1, 3) := by decide +kernel
theorem dX3_runStage_158 : decode cX3_runStage 158 = .ok (.goto (-135), 3) := by decide +kernel
theorem dX3_runStage_161 : decode cX3_runStage 161 = .ok (.aload_n 0, 1) := by decide +kernel
theorem dX3_runStage_162 : decode cX3_runStage 162 = .ok (.getfield 35, 3) := by decide +kernel
theorem dX3_runStage_165 : decode cX3_runStage 165 = .ok (.iload_n 1, 1) := by decide +kernel
theorem dX3_runStage_166 : decode cX3_runStage 166 = .ok (.iload_n 3, 1) := by decide +kernel
theorem dX3_runStage_167 : decode cX3_runStage 167 = .ok (.iastore, 1) := by decide +kernel
theorem dX3_runStage_168 : decode cX3_runStage 168 = .ok (.return_, 1) := by decide +kernel
theorem dX3_rank_0 : decode cX3_rank 0 = .ok (.aload_n 0, 1) := by decide +kernel
theorem dX3_rank_1 : decode cX3_rank 1 = .ok (.getfield 31, 3) := by decide +kernel
theorem dX3_rank_4 : decode cX3_rank 4 = .ok (.iload_n 1, 1) := by decide +kernel
theorem dX3_rank_5 : decode cX3_rank 5 = .ok (.iaload, 1) := by decide +kernel
theorem dX3_rank_6 : decode cX3_rank 6 = .ok (.istore_n 3, 1) := by decide +kernel
theorem dX3_rank_7 : decode cX3_rank 7 = .ok (.iload_n 3, 1) := by decide +kernel
theorem dX3_rank_8 : decode cX3_rank 8 = .ok (.ifCond .le 46, 3) := by decide +kernel
theorem dX3_rank_11 : decode cX3_rank 11 = .ok (.aload_n 0, 1) := by decide +kernel
theorem dX3_rank_12 : decode cX3_rank 12 = .ok (.iload_n 1, 1) := by decide +kernel
theorem dX3_rank_13 : decode cX3_rank 13 = .ok (.iload_n 2, 1) := by decide +kernel
theorem dX3_rank_14 : decode cX3_rank 14 = .ok (.aload_n 0, 1) := by decide +kernel
theorem dX3_rank_15 : decode cX3_rank 15 = .ok (.getfield 28, 3) := by decide +kernel
theorem dX3_rank_18 : decode cX3_rank 18 = .ok (.iload_n 1, 1) := by decide +kernel
theorem dX3_rank_19 : decode cX3_rank 19 = .ok (.aaload, 1) := by decide +kernel
theorem dX3_rank_20 : decode cX3_rank 20 = .ok (.iload_n 3, 1) := by decide +kernel
theorem dX3_rank_21 : decode cX3_rank 21 = .ok (.iconst 1, 1) := by decide +kernel
theorem dX3_rank_22 : decode cX3_rank 22 = .ok (.isub, 1) := by decide +kernel
theorem dX3_rank_23 : decode cX3_rank 23 = .ok (.iaload, 1) := by decide +kernel
theorem dX3_rank_24 : decode cX3_rank 24 = .ok (.invokevirtual 93, 3) := by decide +kernel
theorem dX3_rank_27 : decode cX3_rank 27 = .ok (.ifCond .eq 27, 3) := by decide +kernel
theorem dX3_rank_30 : decode cX3_rank 30 = .ok (.aload_n 0, 1) := by decide +kernel
theorem dX3_rank_31 : decode cX3_rank 31 = .ok (.getfield 28, 3) := by decide +kernel
theorem dX3_rank_34 : decode cX3_rank 34 = .ok (.iload_n 1, 1) := by decide +kernel
theorem dX3_rank_35 : decode cX3_rank 35 = .ok (.aaload, 1) := by decide +kernel
theorem dX3_rank_36 : decode cX3_rank 36 = .ok (.iload_n 3, 1) := by decide +kernel
theorem dX3_rank_37 : decode cX3_rank 37 = .ok (.aload_n 0, 1) := by decide +kernel
theorem dX3_rank_38 : decode cX3_rank 38 = .ok (.getfield 28, 3) := by decide +kernel
theorem dX3_rank_41 : decode cX3_rank 41 = .ok (.iload_n 1, 1) := by decide +kernel
theorem dX3_rank_42 : decode cX3_rank 42 = .ok (.aaload, 1) := by decide +kernel
theorem dX3_rank_43 : decode cX3_rank 43 = .ok (.iload_n 3, 1) := by decide +kernel
theorem dX3_rank_44 : decode cX3_rank 44 = .ok (.iconst 1, 1) := by decide +kernel
theorem dX3_rank_45 : decode cX3_rank 45 = .ok (.isub, 1) := by decide +kernel
theorem dX3_rank_46 : decode cX3_rank 46 = .ok (.iaload, 1) := by decide +kernel
theorem dX3_rank_47 : decode cX3_rank 47 = .ok (.iastore, 1) := by decide +kernel
theorem dX3_rank_48 : decode cX3_rank 48 = .ok (.iinc 3 (-1), 3) := by decide +kernel
theorem dX3_rank_51 : decode cX3_rank 51 = .ok (.goto (-44), 3) := by decide +kernel
theorem dX3_rank_54 : decode cX3_rank 54 = .ok (.aload_n 0, 1) := by decide +kernel
theorem dX3_rank_55 : decode cX3_rank 55 = .ok (.getfield 28, 3) := by decide +kernel
theorem dX3_rank_58 : decode cX3_rank 58 = .ok (.iload_n 1, 1) := by decide +kernel
theorem dX3_rank_59 : decode cX3_rank 59 = .ok (.aaload, 1) := by decide +kernel
theorem dX3_rank_60 : decode cX3_rank 60 = .ok (.iload_n 3, 1) := by decide +kernel
theorem dX3_rank_61 : decode cX3_rank 61 = .ok (.iload_n 2, 1) := by decide +kernel
theorem dX3_rank_62 : decode cX3_rank 62 = .ok (.iastore, 1) := by decide +kernel
theorem dX3_rank_63 : decode cX3_rank 63 = .ok (.aload_n 0, 1) := by decide +kernel
theorem dX3_rank_64 : decode cX3_rank 64 = .ok (.getfield 31, 3) := by decide +kernel
theorem dX3_rank_67 : decode cX3_rank 67 = .ok (.iload_n 1, 1) := by decide +kernel
theorem dX3_rank_68 : decode cX3_rank 68 = .ok (.dup2, 1) := by decide +kernel
theorem dX3_rank_69 : decode cX3_rank 69 = .ok (.iaload, 1) := by decide +kernel
theorem dX3_rank_70 : decode cX3_rank 70 = .ok (.iconst 1, 1) := by decide +kernel
theorem dX3_rank_71 : decode cX3_rank 71 = .ok (.iadd, 1) := by decide +kernel
theorem dX3_rank_72 : decode cX3_rank 72 = .ok (.iastore, 1) := by decide +kernel
theorem dX3_rank_73 : decode cX3_rank 73 = .ok (.return_, 1) := by decide +kernel
theorem dX3_isAhead_0 : decode cX3_isAhead 0 = .ok (.aload_n 0, 1) := by decide +kernel
theorem dX3_isAhead_1 : decode cX3_isAhead 1 = .ok (.getfield 25, 3) := by decide +kernel
theorem dX3_isAhead_4 : decode cX3_isAhead 4 = .ok (.iload_n 1, 1) := by decide +kernel
theorem dX3_isAhead_5 : decode cX3_isAhead 5 = .ok (.aaload, 1) := by decide +kernel
theorem dX3_isAhead_6 : decode cX3_isAhead 6 = .ok (.iload_n 2, 1) := by decide +kernel
theorem dX3_isAhead_7 : decode cX3_isAhead 7 = .ok (.iaload, 1) := by decide +kernel
theorem dX3_isAhead_8 : decode cX3_isAhead 8 = .ok (.aload_n 0, 1) := by decide +kernel
theorem dX3_isAhead_9 : decode cX3_isAhead 9 = .ok (.getfield 25, 3) := by decide +kernel
theorem dX3_isAhead_12 : decode cX3_isAhead 12 = .ok (.iload_n 1, 1) := by decide +kernel
theorem dX3_isAhead_13 : decode cX3_isAhead 13 = .ok (.aaload, 1) := by decide +kernel
theorem dX3_isAhead_14 : decode cX3_isAhead 14 = .ok (.iload_n 3, 1) := by decide +kernel
theorem dX3_isAhead_15 : decode cX3_isAhead 15 = .ok (.iaload, 1) := by decide +kernel
theorem dX3_isAhead_16 : decode cX3_isAhead 16 = .ok (.if_icmp .lt 27, 3) := by decide +kernel
theorem dX3_isAhead_19 : decode cX3_isAhead 19 = .ok (.aload_n 0, 1) := by decide +kernel
theorem dX3_isAhead_20 : decode cX3_isAhead 20 = .ok (.getfield 25, 3) := by decide +kernel
theorem dX3_isAhead_23 : decode cX3_isAhead 23 = .ok (.iload_n 1, 1) := by decide +kernel
theorem dX3_isAhead_24 : decode cX3_isAhead 24 = .ok (.aaload, 1) := by decide +kernel
theorem dX3_isAhead_25 : decode cX3_isAhead 25 = .ok (.iload_n 2, 1) := by decide +kernel
theorem dX3_isAhead_26 : decode cX3_isAhead 26 = .ok (.iaload, 1) := by decide +kernel
theorem dX3_isAhead_27 : decode cX3_isAhead 27 = .ok (.aload_n 0, 1) := by decide +kernel
theorem dX3_isAhead_28 : decode cX3_isAhead 28 = .ok (.getfield 25, 3) := by decide +kernel
theorem dX3_isAhead_31 : decode cX3_isAhead 31 = .ok (.iload_n 1, 1) := by decide +kernel
theorem dX3_isAhead_32 : decode cX3_isAhead 32 = .ok (.aaload, 1) := by decide +kernel
theorem dX3_isAhead_33 : decode cX3_isAhead 33 = .ok (.iload_n 3, 1) := by decide +kernel
theorem dX3_isAhead_34 : decode cX3_isAhead 34 = .ok (.iaload, 1) := by decide +kernel
theorem dX3_isAhead_35 : decode cX3_isAhead 35 = .ok (.if_icmp .ne 12, 3) := by decide +kernel
theorem dX3_isAhead_38 : decode cX3_isAhead 38 = .ok (.iload_n 2, 1) := by decide +kernel
theorem dX3_isAhead_39 : decode cX3_isAhead 39 = .ok (.iload_n 3, 1) := by decide +kernel
theorem dX3_isAhead_40 : decode cX3_isAhead 40 = .ok (.if_icmp .ge 7, 3) := by decide +kernel
theorem dX3_isAhead_43 : decode cX3_isAhead 43 = .ok (.iconst 1, 1) := by decide +kernel
theorem dX3_isAhead_44 : decode cX3_isAhead 44 = .ok (.goto 4, 3) := by decide +kernel
theorem dX3_isAhead_47 : decode cX3_isAhead 47 = .ok (.iconst 0, 1) := by decide +kernel
theorem dX3_isAhead_48 : decode cX3_isAhead 48 = .ok (.ireturn, 1) := by decide +kernel
theorem dX3_tellPlaces_0 : decode cX3_tellPlaces 0 = .ok (.iconst 0, 1) := by decide +kernel
theorem dX3_tellPlaces_1 : decode cX3_tellPlaces 1 = .ok (.istore_n 2, 1) := by decide +kernel
theorem dX3_tellPlaces_2 : decode cX3_tellPlaces 2 = .ok (.iload_n 2, 1) := by decide +kernel
theorem dX3_tellPlaces_3 : decode cX3_tellPlaces 3 = .ok (.aload_n 0, 1) := by decide +kernel
theorem dX3_tellPlaces_4 : decode cX3_tellPlaces 4 = .ok (.getfield 31, 3) := by decide +kernel
theorem dX3_tellPlaces_7 : decode cX3_tellPlaces 7 = .ok (.iload_n 1, 1) := by decide +kernel
theorem dX3_tellPlaces_8 : decode cX3_tellPlaces 8 = .ok (.iaload, 1) := by decide +kernel
theorem dX3_tellPlaces_9 : decode cX3_tellPlaces 9 = .ok (.if_icmp .ge 25, 3) := by decide +kernel
theorem dX3_tellPlaces_12 : decode cX3_tellPlaces 12 = .ok (.aload_n 0, 1) := by decide +kernel
theorem dX3_tellPlaces_13 : decode cX3_tellPlaces 13 = .ok (.getfield 22, 3) := by decide +kernel
theorem dX3_tellPlaces_16 : decode cX3_tellPlaces 16 = .ok (.iload_n 1, 1) := by decide +kernel
theorem dX3_tellPlaces_17 : decode cX3_tellPlaces 17 = .ok (.aaload, 1) := by decide +kernel
theorem dX3_tellPlaces_18 : decode cX3_tellPlaces 18 = .ok (.aload_n 0, 1) := by decide +kernel
theorem dX3_tellPlaces_19 : decode cX3_tellPlaces 19 = .ok (.getfield 28, 3) := by decide +kernel
theorem dX3_tellPlaces_22 : decode cX3_tellPlaces 22 = .ok (.iload_n 1, 1) := by decide +kernel
theorem dX3_tellPlaces_23 : decode cX3_tellPlaces 23 = .ok (.aaload, 1) := by decide +kernel
theorem dX3_tellPlaces_24 : decode cX3_tellPlaces 24 = .ok (.iload_n 2, 1) := by decide +kernel
theorem dX3_tellPlaces_25 : decode cX3_tellPlaces 25 = .ok (.iaload, 1) := by decide +kernel
theorem dX3_tellPlaces_26 : decode cX3_tellPlaces 26 = .ok (.iload_n 2, 1) := by decide +kernel
theorem dX3_tellPlaces_27 : decode cX3_tellPlaces 27 = .ok (.iastore, 1) := by decide +kernel
theorem dX3_tellPlaces_28 : decode cX3_tellPlaces 28 = .ok (.iinc 2 1, 3) := by decide +kernel
theorem dX3_tellPlaces_31 : decode cX3_tellPlaces 31 = .ok (.goto (-29), 3) := by decide +kernel
theorem dX3_tellPlaces_34 : decode cX3_tellPlaces 34 = .ok (.return_, 1) := by decide +kernel
theorem dX3_timeFor_0 : decode cX3_timeFor 0 = .ok (.lconst 0, 1) := by decide +kernel
theorem dX3_timeFor_1 : decode cX3_timeFor 1 = .ok (.lstore 4, 2) := by decide +kernel
theorem dX3_timeFor_3 : decode cX3_timeFor 3 = .ok (.lconst 1, 1) := by decide +kernel
theorem dX3_timeFor_4 : decode cX3_timeFor 4 = .ok (.lstore 6, 2) := by decide +kernel
theorem dX3_timeFor_6 : decode cX3_timeFor 6 = .ok (.iload_n 1, 1) := by decide +kernel
theorem dX3_timeFor_7 : decode cX3_timeFor 7 = .ok (.istore 8, 2) := by decide +kernel
theorem dX3_timeFor_9 : decode cX3_timeFor 9 = .ok (.iconst 0, 1) := by decide +kernel
theorem dX3_timeFor_10 : decode cX3_timeFor 10 = .ok (.istore 9, 2) := by decide +kernel
theorem dX3_timeFor_12 : decode cX3_timeFor 12 = .ok (.iload 9, 2) := by decide +kernel
theorem dX3_timeFor_14 : decode cX3_timeFor 14 = .ok (.aload_n 2, 1) := by decide +kernel
theorem dX3_timeFor_15 : decode cX3_timeFor 15 = .ok (.getfield 97, 3) := by decide +kernel
theorem dX3_timeFor_18 : decode cX3_timeFor 18 = .ok (.iload_n 3, 1) := by decide +kernel
theorem dX3_timeFor_19 : decode cX3_timeFor 19 = .ok (.iaload, 1) := by decide +kernel
theorem dX3_timeFor_20 : decode cX3_timeFor 20 = .ok (.if_icmp .ge 93, 3) := by decide +kernel
theorem dX3_timeFor_23 : decode cX3_timeFor 23 = .ok (.iload 9, 2) := by decide +kernel
theorem dX3_timeFor_25 : decode cX3_timeFor 25 = .ok (.iconst 4, 1) := by decide +kernel
theorem dX3_timeFor_26 : decode cX3_timeFor 26 = .ok (.if_icmp .ge 87, 3) := by decide +kernel
theorem dX3_timeFor_29 : decode cX3_timeFor 29 = .ok (.aload_n 2, 1) := by decide +kernel
theorem dX3_timeFor_30 : decode cX3_timeFor 30 = .ok (.getfield 102, 3) := by decide +kernel
theorem dX3_timeFor_33 : decode cX3_timeFor 33 = .ok (.iload_n 3, 1) := by decide +kernel
theorem dX3_timeFor_34 : decode cX3_timeFor 34 = .ok (.aaload, 1) := by decide +kernel
theorem dX3_timeFor_35 : decode cX3_timeFor 35 = .ok (.iload 9, 2) := by decide +kernel
theorem dX3_timeFor_37 : decode cX3_timeFor 37 = .ok (.iaload, 1) := by decide +kernel
theorem dX3_timeFor_38 : decode cX3_timeFor 38 = .ok (.iload_n 1, 1) := by decide +kernel
theorem dX3_timeFor_39 : decode cX3_timeFor 39 = .ok (.invokestatic 80, 3) := by decide +kernel
theorem dX3_timeFor_42 : decode cX3_timeFor 42 = .ok (.aload_n 2, 1) := by decide +kernel
theorem dX3_timeFor_43 : decode cX3_timeFor 43 = .ok (.getfield 105, 3) := by decide +kernel
theorem dX3_timeFor_46 : decode cX3_timeFor 46 = .ok (.iload_n 3, 1) := by decide +kernel
theorem dX3_timeFor_47 : decode cX3_timeFor 47 = .ok (.aaload, 1) := by decide +kernel
theorem dX3_timeFor_48 : decode cX3_timeFor 48 = .ok (.iload 9, 2) := by decide +kernel
theorem dX3_timeFor_50 : decode cX3_timeFor 50 = .ok (.iaload, 1) := by decide +kernel
theorem dX3_timeFor_51 : decode cX3_timeFor 51 = .ok (.iload_n 1, 1) := by decide +kernel
theorem dX3_timeFor_52 : decode cX3_timeFor 52 = .ok (.invokestatic 80, 3) := by decide +kernel
theorem dX3_timeFor_55 : decode cX3_timeFor 55 = .ok (.isub, 1) := by decide +kernel
theorem dX3_timeFor_56 : decode cX3_timeFor 56 = .ok (.istore 10, 2) := by decide +kernel
theorem dX3_timeFor_58 : decode cX3_timeFor 58 = .ok (.iload_n 0, 1) := by decide +kernel
theorem dX3_timeFor_59 : decode cX3_timeFor 59 = .ok (.aload_n 2, 1) := by decide +kernel
theorem dX3_timeFor_60 : decode cX3_timeFor 60 = .ok (.getfield 108, 3) := by decide +kernel
theorem dX3_timeFor_63 : decode cX3_timeFor 63 = .ok (.iload_n 3, 1) := by decide +kernel
theorem dX3_timeFor_64 : decode cX3_timeFor 64 = .ok (.aaload, 1) := by decide +kernel
theorem dX3_timeFor_65 : decode cX3_timeFor 65 = .ok (.iload 9, 2) := by decide +kernel
theorem dX3_timeFor_67 : decode cX3_timeFor 67 = .ok (.iaload, 1) := by decide +kernel
theorem dX3_timeFor_68 : decode cX3_timeFor 68 = .ok (.invokestatic 80, 3) := by decide +kernel
theorem dX3_timeFor_71 : decode cX3_timeFor 71 = .ok (.istore 11, 2) := by decide +kernel
theorem dX3_timeFor_73 : decode cX3_timeFor 73 = .ok (.lload 4, 2) := by decide +kernel
theorem dX3_timeFor_75 : decode cX3_timeFor 75 = .ok (.iload 11, 2) := by decide +kernel
theorem dX3_timeFor_77 : decode cX3_timeFor 77 = .ok (.i2l, 1) := by decide +kernel
theorem dX3_timeFor_78 : decode cX3_timeFor 78 = .ok (.lmul, 1) := by decide +kernel
theorem dX3_timeFor_79 : decode cX3_timeFor 79 = .ok (.iload 10, 2) := by decide +kernel
theorem dX3_timeFor_81 : decode cX3_timeFor 81 = .ok (.i2l, 1) := by decide +kernel
theorem dX3_timeFor_82 : decode cX3_timeFor 82 = .ok (.ldc2_w 110, 3) := by decide +kernel
theorem dX3_timeFor_85 : decode cX3_timeFor 85 = .ok (.lmul, 1) := by decide +kernel
theorem dX3_timeFor_86 : decode cX3_timeFor 86 = .ok (.lload 6, 2) := by decide +kernel
theorem dX3_timeFor_88 : decode cX3_timeFor 88 = .ok (.lmul, 1) := by decide +kernel
theorem dX3_timeFor_89 : decode cX3_timeFor 89 = .ok (.ladd, 1) := by decide +kernel
theorem dX3_timeFor_90 : decode cX3_timeFor 90 = .ok (.lstore 4, 2) := by decide +kernel
theorem dX3_timeFor_92 : decode cX3_timeFor 92 = .ok (.lload 6, 2) := by decide +kernel
theorem dX3_timeFor_94 : decode cX3_timeFor 94 = .ok (.iload 11, 2) := by decide +kernel
theorem dX3_timeFor_96 : decode cX3_timeFor 96 = .ok (.i2l, 1) := by decide +kernel
theorem dX3_timeFor_97 : decode cX3_timeFor 97 = .ok (.lmul, 1) := by decide +kernel
theorem dX3_timeFor_98 : decode cX3_timeFor 98 = .ok (.lstore 6, 2) := by decide +kernel
theorem dX3_timeFor_100 : decode cX3_timeFor 100 = .ok (.iload 8, 2) := by decide +kernel
theorem dX3_timeFor_102 : decode cX3_timeFor 102 = .ok (.iload 10, 2) := by decide +kernel
theorem dX3_timeFor_104 : decode cX3_timeFor 104 = .ok (.isub, 1) := by decide +kernel
theorem dX3_timeFor_105 : decode cX3_timeFor 105 = .ok (.istore 8, 2) := by decide +kernel
theorem dX3_timeFor_107 : decode cX3_timeFor 107 = .ok (.iinc 9 1, 3) := by decide +kernel
theorem dX3_timeFor_110 : decode cX3_timeFor 110 = .ok (.goto (-98), 3) := by decide +kernel
theorem dX3_timeFor_113 : decode cX3_timeFor 113 = .ok (.lload 4, 2) := by decide +kernel
theorem dX3_timeFor_115 : decode cX3_timeFor 115 = .ok (.iload_n 0, 1) := by decide +kernel
theorem dX3_timeFor_116 : decode cX3_timeFor 116 = .ok (.i2l, 1) := by decide +kernel
theorem dX3_timeFor_117 : decode cX3_timeFor 117 = .ok (.lmul, 1) := by decide +kernel
theorem dX3_timeFor_118 : decode cX3_timeFor 118 = .ok (.iload 8, 2) := by decide +kernel
theorem dX3_timeFor_120 : decode cX3_timeFor 120 = .ok (.i2l, 1) := by decide +kernel
theorem dX3_timeFor_121 : decode cX3_timeFor 121 = .ok (.ldc2_w 110, 3) := by decide +kernel
theorem dX3_timeFor_124 : decode cX3_timeFor 124 = .ok (.lmul, 1) := by decide +kernel
theorem dX3_timeFor_125 : decode cX3_timeFor 125 = .ok (.lload 6, 2) := by decide +kernel
theorem dX3_timeFor_127 : decode cX3_timeFor 127 = .ok (.lmul, 1) := by decide +kernel
theorem dX3_timeFor_128 : decode cX3_timeFor 128 = .ok (.ladd, 1) := by decide +kernel
theorem dX3_timeFor_129 : decode cX3_timeFor 129 = .ok (.lstore 4, 2) := by decide +kernel
theorem dX3_timeFor_131 : decode cX3_timeFor 131 = .ok (.lload 4, 2) := by decide +kernel
theorem dX3_timeFor_133 : decode cX3_timeFor 133 = .ok (.lload 6, 2) := by decide +kernel
theorem dX3_timeFor_135 : decode cX3_timeFor 135 = .ok (.iload_n 0, 1) := by decide +kernel
theorem dX3_timeFor_136 : decode cX3_timeFor 136 = .ok (.i2l, 1) := by decide +kernel
theorem dX3_timeFor_137 : decode cX3_timeFor 137 = .ok (.lmul, 1) := by decide +kernel
theorem dX3_timeFor_138 : decode cX3_timeFor 138 = .ok (.invokestatic 112, 3) := by decide +kernel
theorem dX3_timeFor_141 : decode cX3_timeFor 141 = .ok (.ireturn, 1) := by decide +kernel
theorem dX4_init_0 : decode cX4_init 0 = .ok (.aload_n 0, 1) := by decide +kernel
theorem dX4_init_1 : decode cX4_init 1 = .ok (.invokespecial 3, 3) := by decide +kernel
theorem dX4_init_4 : decode cX4_init 4 = .ok (.aload_n 0, 1) := by decide +kernel
theorem dX4_init_5 : decode cX4_init 5 = .ok (.bipush 10, 2) := by decide +kernel
theorem dX4_init_7 : decode cX4_init 7 = .ok (.newarray .int, 2) := by decide +kernel
theorem dX4_init_9 : decode cX4_init 9 = .ok (.putfield 9, 3) := by decide +kernel
theorem dX4_init_12 : decode cX4_init 12 = .ok (.aload_n 0, 1) := by decide +kernel
theorem dX4_init_13 : decode cX4_init 13 = .ok (.bipush 10, 2) := by decide +kernel
theorem dX4_init_15 : decode cX4_init 15 = .ok (.newarray .int, 2) := by decide +kernel
theorem dX4_init_17 : decode cX4_init 17 = .ok (.putfield 15, 3) := by decide +kernel
theorem dX4_init_20 : decode cX4_init 20 = .ok (.aload_n 0, 1) := by decide +kernel
theorem dX4_init_21 : decode cX4_init 21 = .ok (.bipush 10, 2) := by decide +kernel
theorem dX4_init_23 : decode cX4_init 23 = .ok (.newarray .int, 2) := by decide +kernel
theorem dX4_init_25 : decode cX4_init 25 = .ok (.putfield 18, 3) := by decide +kernel
theorem dX4_init_28 : decode cX4_init 28 = .ok (.return_, 1) := by decide +kernel
theorem dX4_has_0 : decode cX4_has 0 = .ok (.iload_n 1, 1) := by decide +kernel
theorem dX4_has_1 : decode cX4_has 1 = .ok (.iconst 0, 1) := by decide +kernel
theorem dX4_has_2 : decode cX4_has 2 = .ok (.aload_n 0, 1) := by decide +kernel
theorem dX4_has_3 : decode cX4_has 3 = .ok (.getfield 21, 3) := by decide +kernel
theorem dX4_has_6 : decode cX4_has 6 = .ok (.iconst 1, 1) := by decide +kernel
theorem dX4_has_7 : decode cX4_has 7 = .ok (.isub, 1) := by decide +kernel
theorem dX4_has_8 : decode cX4_has 8 = .ok (.invokestatic 25, 3) := by decide +kernel
theorem dX4_has_11 : decode cX4_has 11 = .ok (.ireturn, 1) := by decide +kernel
theorem dX4_add_0 : decode cX4_add 0 = .ok (.aload_n 0, 1) := by decide +kernel
theorem dX4_add_1 : decode cX4_add 1 = .ok (.getfield 21, 3) := by decide +kernel
theorem dX4_add_4 : decode cX4_add 4 = .ok (.bipush 10, 2) := by decide +kernel
theorem dX4_add_6 : decode cX4_add 6 = .ok (.if_icmp .lt 5, 3) := by decide +kernel
theorem dX4_add_9 : decode cX4_add 9 = .ok (.iconst (-1), 1) := by decide +kernel
theorem dX4_add_10 : decode cX4_add 10 = .ok (.ireturn, 1) := by decide +kernel
theorem dX4_add_11 : decode cX4_add 11 = .ok (.aload_n 0, 1) := by decide +kernel
theorem dX4_add_12 : decode cX4_add 12 = .ok (.getfield 9, 3) := by decide +kernel
theorem dX4_add_15 : decode cX4_add 15 = .ok (.aload_n 0, 1) := by decide +kernel
theorem dX4_add_16 : decode cX4_add 16 = .ok (.getfield 21, 3) := by decide +kernel
theorem dX4_add_19 : decode cX4_add 19 = .ok (.iload_n 1, 1) := by decide +kernel
theorem dX4_add_20 : decode cX4_add 20 = .ok (.iastore, 1) := by decide +kernel
theorem dX4_add_21 : decode cX4_add 21 = .ok (.aload_n 0, 1) := by decide +kernel
theorem dX4_add_22 : decode cX4_add 22 = .ok (.getfield 15, 3) := by decide +kernel
theorem dX4_add_25 : decode cX4_add 25 = .ok (.aload_n 0, 1) := by decide +kernel
theorem dX4_add_26 : decode cX4_add 26 = .ok (.getfield 21, 3) := by decide +kernel
theorem dX4_add_29 : decode cX4_add 29 = .ok (.iconst (-1), 1) := by decide +kernel
theorem dX4_add_30 : decode cX4_add 30 = .ok (.iastore, 1) := by decide +kernel
theorem dX4_add_31 : decode cX4_add 31 = .ok (.aload_n 0, 1) := by decide +kernel
theorem dX4_add_32 : decode cX4_add 32 = .ok (.dup, 1) := by decide +kernel
theorem dX4_add_33 : decode cX4_add 33 = .ok (.getfield 21, 3) := by decide +kernel
theorem dX4_add_36 : decode cX4_add 36 = .ok (.iconst 1, 1) := by decide +kernel
theorem dX4_add_37 : decode cX4_add 37 = .ok (.iadd, 1) := by decide +kernel
theorem dX4_add_38 : decode cX4_add 38 = .ok (.putfield 21, 3) := by decide +kernel
theorem dX4_add_41 : decode cX4_add 41 = .ok (.aload_n 0, 1) := by decide +kernel
theorem dX4_add_42 : decode cX4_add 42 = .ok (.getfield 21, 3) := by decide +kernel
theorem dX4_add_45 : decode cX4_add 45 = .ok (.iconst 1, 1) := by decide +kernel
theorem dX4_add_46 : decode cX4_add 46 = .ok (.isub, 1) := by decide +kernel
theorem dX4_add_47 : decode cX4_add 47 = .ok (.ireturn, 1) := by decide +kernel
theorem dX4_forgetBreaksFrom_0 : decode cX4_forgetBreaksFrom 0 = .ok (.iconst 0, 1) := by decide +kernel
theorem dX4_forgetBreaksFrom_1 : decode cX4_forgetBreaksFrom 1 = .ok (.istore_n 3, 1) := by decide +kernel
theorem dX4_forgetBreaksFrom_2 : decode cX4_forgetBreaksFrom 2 = .ok (.iload_n 3, 1) := by decide +kernel
theorem dX4_forgetBreaksFrom_3 : decode cX4_forgetBreaksFrom 3 = .ok (.aload_n 0, 1) := by decide +kernel
theorem dX4_forgetBreaksFrom_4 : decode cX4_forgetBreaksFrom 4 = .ok (.getfield 21, 3) := by decide +kernel
theorem dX4_forgetBreaksFrom_7 : decode cX4_forgetBreaksFrom 7 = .ok (.if_icmp .ge 36, 3) := by decide +kernel
theorem dX4_forgetBreaksFrom_10 : decode cX4_forgetBreaksFrom 10 = .ok (.aload_n 0, 1) := by decide +kernel
theorem dX4_forgetBreaksFrom_11 : decode cX4_forgetBreaksFrom 11 = .ok (.getfield 15, 3) := by decide +kernel
theorem dX4_forgetBreaksFrom_14 : decode cX4_forgetBreaksFrom 14 = .ok (.iload_n 3, 1) := by decide +kernel
theorem dX4_forgetBreaksFrom_15 : decode cX4_forgetBreaksFrom 15 = .ok (.iaload, 1) := by decide +kernel
theorem dX4_forgetBreaksFrom_16 : decode cX4_forgetBreaksFrom 16 = .ok (.iload_n 1, 1) := by decide +kernel
theorem dX4_forgetBreaksFrom_17 : decode cX4_forgetBreaksFrom 17 = .ok (.if_icmp .ne 20, 3) := by decide +kernel
theorem dX4_forgetBreaksFrom_20 : decode cX4_forgetBreaksFrom 20 = .ok (.aload_n 0, 1) := by decide +kernel
theorem dX4_forgetBreaksFrom_21 : decode cX4_forgetBreaksFrom 21 = .ok (.getfield 18, 3) := by decide +kernel
theorem dX4_forgetBreaksFrom_24 : decode cX4_forgetBreaksFrom 24 = .ok (.iload_n 3, 1) := by decide +kernel
theorem dX4_forgetBreaksFrom_25 : decode cX4_forgetBreaksFrom 25 = .ok (.iaload, 1) := by decide +kernel
theorem dX4_forgetBreaksFrom_26 : decode cX4_forgetBreaksFrom 26 = .ok (.iload_n 2, 1) := by decide +kernel
theorem dX4_forgetBreaksFrom_27 : decode cX4_forgetBreaksFrom 27 = .ok (.if_icmp .lt 10, 3) := by decide +kernel
theorem dX4_forgetBreaksFrom_30 : decode cX4_forgetBreaksFrom 30 = .ok (.aload_n 0, 1) := by decide +kernel
theorem dX4_forgetBreaksFrom_31 : decode cX4_forgetBreaksFrom 31 = .ok (.getfield 15, 3) := by decide +kernel
theorem dX4_forgetBreaksFrom_34 : decode cX4_forgetBreaksFrom 34 = .ok (.iload_n 3, 1) := by decide +kernel
theorem dX4_forgetBreaksFrom_35 : decode cX4_forgetBreaksFrom 35 = .ok (.iconst (-1), 1) := by decide +kernel
theorem dX4_forgetBreaksFrom_36 : decode cX4_forgetBreaksFrom 36 = .ok (.iastore, 1) := by decide +kernel
theorem dX4_forgetBreaksFrom_37 : decode cX4_forgetBreaksFrom 37 = .ok (.iinc 3 1, 3) := by decide +kernel
theorem dX4_forgetBreaksFrom_40 : decode cX4_forgetBreaksFrom 40 = .ok (.goto (-38), 3) := by decide +kernel
theorem dX4_forgetBreaksFrom_43 : decode cX4_forgetBreaksFrom 43 = .ok (.return_, 1) := by decide +kernel
theorem dX5_init_0 : decode cX5_init 0 = .ok (.aload_n 0, 1) := by decide +kernel
theorem dX5_init_1 : decode cX5_init 1 = .ok (.invokespecial 3, 3) := by decide +kernel
theorem dX5_init_4 : decode cX5_init 4 = .ok (.aload_n 0, 1) := by decide +kernel
theorem dX5_init_5 : decode cX5_init 5 = .ok (.bipush 7, 2) := by decide +kernel
theorem dX5_init_7 : decode cX5_init 7 = .ok (.newarray .int, 2) := by decide +kernel
theorem dX5_init_9 : decode cX5_init 9 = .ok (.putfield 9, 3) := by decide +kernel
theorem dX5_init_12 : decode cX5_init 12 = .ok (.aload_n 0, 1) := by decide +kernel
theorem dX5_init_13 : decode cX5_init 13 = .ok (.bipush 7, 2) := by decide +kernel
theorem dX5_init_15 : decode cX5_init 15 = .ok (.iconst 4, 1) := by decide +kernel
theorem dX5_init_16 : decode cX5_init 16 = .ok (.multianewarray 15 2, 4) := by decide +kernel
theorem dX5_init_20 : decode cX5_init 20 = .ok (.putfield 17, 3) := by decide +kernel
theorem dX5_init_23 : decode cX5_init 23 = .ok (.aload_n 0, 1) := by decide +kernel
theorem dX5_init_24 : decode cX5_init 24 = .ok (.bipush 7, 2) := by decide +kernel
theorem dX5_init_26 : decode cX5_init 26 = .ok (.iconst 4, 1) := by decide +kernel
theorem dX5_init_27 : decode cX5_init 27 = .ok (.multianewarray 15 2, 4) := by decide +kernel
theorem dX5_init_31 : decode cX5_init 31 = .ok (.putfield 20, 3) := by decide +kernel
theorem dX5_init_34 : decode cX5_init 34 = .ok (.aload_n 0, 1) := by decide +kernel
theorem dX5_init_35 : decode cX5_init 35 = .ok (.bipush 7, 2) := by decide +kernel
theorem dX5_init_37 : decode cX5_init 37 = .ok (.iconst 4, 1) := by decide +kernel
theorem dX5_init_38 : decode cX5_init 38 = .ok (.multianewarray 15 2, 4) := by decide +kernel
theorem dX5_init_42 : decode cX5_init 42 = .ok (.putfield 23, 3) := by decide +kernel
theorem dX5_init_45 : decode cX5_init 45 = .ok (.return_, 1) := by decide +kernel
theorem dX5_clear_0 : decode cX5_clear 0 = .ok (.iconst 0, 1) := by decide +kernel
theorem dX5_clear_1 : decode cX5_clear 1 = .ok (.istore_n 1, 1) := by decide +kernel
theorem dX5_clear_2 : decode cX5_clear 2 = .ok (.iload_n 1, 1) := by decide +kernel
theorem dX5_clear_3 : decode cX5_clear 3 = .ok (.bipush 7, 2) := by decide +kernel
theorem dX5_clear_5 : decode cX5_clear 5 = .ok (.if_icmp .ge 16, 3) := by decide +kernel
theorem dX5_clear_8 : decode cX5_clear 8 = .ok (.aload_n 0, 1) := by decide +kernel
theorem dX5_clear_9 : decode cX5_clear 9 = .ok (.getfield 9, 3) := by decide +kernel
theorem dX5_clear_12 : decode cX5_clear 12 = .ok (.iload_n 1, 1) := by decide +kernel
theorem dX5_clear_13 : decode cX5_clear 13 = .ok (.iconst 0, 1) := by decide +kernel
theorem dX5_clear_14 : decode cX5_clear 14 = .ok (.iastore, 1) := by decide +kernel
theorem dX5_clear_15 : decode cX5_clear 15 = .ok (.iinc 1 1, 3) := by decide +kernel
theorem dX5_clear_18 : decode cX5_clear 18 = .ok (.goto (-16), 3) := by decide +kernel
theorem dX5_clear_21 : decode cX5_clear 21 = .ok (.aload_n 0, 1) := by decide +kernel
theorem dX5_clear_22 : decode cX5_clear 22 = .ok (.iconst 0, 1) := by decide +kernel
theorem dX5_clear_23 : decode cX5_clear 23 = .ok (.putfield 26, 3) := by decide +kernel
theorem dX5_clear_26 : decode cX5_clear 26 = .ok (.return_, 1) := by decide +kernel
theorem dX5_isFull_0 : decode cX5_isFull 0 = .ok (.iload_n 1, 1) := by decide +kernel
theorem dX5_isFull_1 : decode cX5_isFull 1 = .ok (.invokestatic 30, 3) := by decide +kernel
theorem dX5_isFull_4 : decode cX5_isFull 4 = .ok (.ifCond .eq 13, 3) := by decide +kernel
theorem dX5_isFull_7 : decode cX5_isFull 7 = .ok (.aload_n 0, 1) := by decide +kernel
theorem dX5_isFull_8 : decode cX5_isFull 8 = .ok (.getfield 9, 3) := by decide +kernel
theorem dX5_isFull_11 : decode cX5_isFull 11 = .ok (.iload_n 1, 1) := by decide +kernel
theorem dX5_isFull_12 : decode cX5_isFull 12 = .ok (.iaload, 1) := by decide +kernel
theorem dX5_isFull_13 : decode cX5_isFull 13 = .ok (.iconst 4, 1) := by decide +kernel
theorem dX5_isFull_14 : decode cX5_isFull 14 = .ok (.if_icmp .lt 7, 3) := by decide +kernel
theorem dX5_isFull_17 : decode cX5_isFull 17 = .ok (.iconst 1, 1) := by decide +kernel
theorem dX5_isFull_18 : decode cX5_isFull 18 = .ok (.goto 4, 3) := by decide +kernel
theorem dX5_isFull_21 : decode cX5_isFull 21 = .ok (.iconst 0, 1) := by decide +kernel
theorem dX5_isFull_22 : decode cX5_isFull 22 = .ok (.ireturn, 1) := by decide +kernel
theorem dX5_reach_0 : decode cX5_reach 0 = .ok (.iload_n 1, 1) := by decide +kernel
theorem dX5_reach_1 : decode cX5_reach 1 = .ok (.invokestatic 30, 3) := by decide +kernel
theorem dX5_reach_4 : decode cX5_reach 4 = .ok (.ifCond .eq 17, 3) := by decide +kernel
theorem dX5_reach_7 : decode cX5_reach 7 = .ok (.aload_n 0, 1) := by decide +kernel
theorem dX5_reach_8 : decode cX5_reach 8 = .ok (.getfield 9, 3) := by decide +kernel
theorem dX5_reach_11 : decode cX5_reach 11 = .ok (.iload_n 1, 1) := by decide +kernel
theorem dX5_reach_12 : decode cX5_reach 12 = .ok (.iaload, 1) := by decide +kernel
theorem dX5_reach_13 : decode cX5_reach 13 = .ok (.iconst 1, 1) := by decide +kernel
theorem dX5_reach_14 : decode cX5_reach 14 = .ok (.iconst 4, 1) := by decide +kernel
theorem dX5_reach_15 : decode cX5_reach 15 = .ok (.invokestatic 34, 3) := by decide +kernel
theorem dX5_reach_18 : decode cX5_reach 18 = .ok (.ifCond .ne 5, 3) := by decide +kernel
theorem dX5_reach_21 : decode cX5_reach 21 = .ok (.iconst 0, 1) := by decide +kernel
theorem dX5_reach_22 : decode cX5_reach 22 = .ok (.ireturn, 1) := by decide +kernel
theorem dX5_reach_23 : decode cX5_reach 23 = .ok (.aload_n 0, 1) := by decide +kernel
theorem dX5_reach_24 : decode cX5_reach 24 = .ok (.getfield 20, 3) := by decide +kernel
theorem dX5_reach_27 : decode cX5_reach 27 = .ok (.iload_n 1, 1) := by decide +kernel
theorem dX5_reach_28 : decode cX5_reach 28 = .ok (.aaload, 1) := by decide +kernel
theorem dX5_reach_29 : decode cX5_reach 29 = .ok (.aload_n 0, 1) := by decide +kernel
theorem dX5_reach_30 : decode cX5_reach 30 = .ok (.getfield 9, 3) := by decide +kernel
theorem dX5_reach_33 : decode cX5_reach 33 = .ok (.iload_n 1, 1) := by decide +kernel
theorem dX5_reach_34 : decode cX5_reach 34 = .ok (.iaload, 1) := by decide +kernel
theorem dX5_reach_35 : decode cX5_reach 35 = .ok (.iconst 1, 1) := by decide +kernel
theorem dX5_reach_36 : decode cX5_reach 36 = .ok (.isub, 1) := by decide +kernel
theorem dX5_reach_37 : decode cX5_reach 37 = .ok (.iaload, 1) := by decide +kernel
theorem dX5_reach_38 : decode cX5_reach 38 = .ok (.ireturn, 1) := by decide +kernel
theorem dX5_add_0 : decode cX5_add 0 = .ok (.aload_n 0, 1) := by decide +kernel
theorem dX5_add_1 : decode cX5_add 1 = .ok (.iload_n 1, 1) := by decide +kernel
theorem dX5_add_2 : decode cX5_add 2 = .ok (.invokevirtual 38, 3) := by decide +kernel
theorem dX5_add_5 : decode cX5_add 5 = .ok (.ifCond .eq 4, 3) := by decide +kernel
theorem dX5_add_8 : decode cX5_add 8 = .ok (.return_, 1) := by decide +kernel
theorem dX5_add_9 : decode cX5_add 9 = .ok (.aload_n 0, 1) := by decide +kernel
theorem dX5_add_10 : decode cX5_add 10 = .ok (.getfield 9, 3) := by decide +kernel
theorem dX5_add_13 : decode cX5_add 13 = .ok (.iload_n 1, 1) := by decide +kernel
theorem dX5_add_14 : decode cX5_add 14 = .ok (.iaload, 1) := by decide +kernel
theorem dX5_add_15 : decode cX5_add 15 = .ok (.istore 5, 2) := by decide +kernel
theorem dX5_add_17 : decode cX5_add 17 = .ok (.aload_n 0, 1) := by decide +kernel
theorem dX5_add_18 : decode cX5_add 18 = .ok (.getfield 17, 3) := by decide +kernel
theorem dX5_add_21 : decode cX5_add 21 = .ok (.iload_n 1, 1) := by decide +kernel
theorem dX5_add_22 : decode cX5_add 22 = .ok (.aaload, 1) := by decide +kernel
theorem dX5_add_23 : decode cX5_add 23 = .ok (.iload 5, 2) := by decide +kernel
theorem dX5_add_25 : decode cX5_add 25 = .ok (.iload_n 2, 1) := by decide +kernel
theorem dX5_add_26 : decode cX5_add 26 = .ok (.iastore, 1) := by decide +kernel
theorem dX5_add_27 : decode cX5_add 27 = .ok (.aload_n 0, 1) := by decide +kernel
theorem dX5_add_28 : decode cX5_add 28 = .ok (.getfield 20, 3) := by decide +kernel
theorem dX5_add_31 : decode cX5_add 31 = .ok (.iload_n 1, 1) := by decide +kernel
theorem dX5_add_32 : decode cX5_add 32 = .ok (.aaload, 1) := by decide +kernel
theorem dX5_add_33 : decode cX5_add 33 = .ok (.iload 5, 2) := by decide +kernel
theorem dX5_add_35 : decode cX5_add 35 = .ok (.iload_n 3, 1) := by decide +kernel
theorem dX5_add_36 : decode cX5_add 36 = .ok (.iastore, 1) := by decide +kernel
theorem dX5_add_37 : decode cX5_add 37 = .ok (.aload_n 0, 1) := by decide +kernel
theorem dX5_add_38 : decode cX5_add 38 = .ok (.getfield 23, 3) := by decide +kernel
theorem dX5_add_41 : decode cX5_add 41 = .ok (.iload_n 1, 1) := by decide +kernel
theorem dX5_add_42 : decode cX5_add 42 = .ok (.aaload, 1) := by decide +kernel
theorem dX5_add_43 : decode cX5_add 43 = .ok (.iload 5, 2) := by decide +kernel
theorem dX5_add_45 : decode cX5_add 45 = .ok (.iload 4, 2) := by decide +kernel
theorem dX5_add_47 : decode cX5_add 47 = .ok (.iastore, 1) := by decide +kernel
theorem dX5_add_48 : decode cX5_add 48 = .ok (.aload_n 0, 1) := by decide +kernel
theorem dX5_add_49 : decode cX5_add 49 = .ok (.getfield 9, 3) := by decide +kernel
theorem dX5_add_52 : decode cX5_add 52 = .ok (.iload_n 1, 1) := by decide +kernel
theorem dX5_add_53 : decode cX5_add 53 = .ok (.dup2, 1) := by decide +kernel
theorem dX5_add_54 : decode cX5_add 54 = .ok (.iaload, 1) := by decide +kernel
theorem dX5_add_55 : decode cX5_add 55 = .ok (.iconst 1, 1) := by decide +kernel
theorem dX5_add_56 : decode cX5_add 56 = .ok (.iadd, 1) := by decide +kernel
theorem dX5_add_57 : decode cX5_add 57 = .ok (.iastore, 1) := by decide +kernel
theorem dX5_add_58 : decode cX5_add 58 = .ok (.aload_n 0, 1) := by decide +kernel
theorem dX5_add_59 : decode cX5_add 59 = .ok (.dup, 1) := by decide +kernel
theorem dX5_add_60 : decode cX5_add 60 = .ok (.getfield 26, 3) := by decide +kernel
theorem dX5_add_63 : decode cX5_add 63 = .ok (.iconst 1, 1) := by decide +kernel
theorem dX5_add_64 : decode cX5_add 64 = .ok (.iadd, 1) := by decide +kernel
theorem dX5_add_65 : decode cX5_add 65 = .ok (.putfield 26, 3) := by decide +kernel
theorem dX5_add_68 : decode cX5_add 68 = .ok (.return_, 1) := by decide +kernel
theorem dX6_init_0 : decode cX6_init 0 = .ok (.aload_n 0, 1) := by decide +kernel
theorem dX6_init_1 : decode cX6_init 1 = .ok (.invokespecial 3, 3) := by decide +kernel
theorem dX6_init_4 : decode cX6_init 4 = .ok (.aload_n 0, 1) := by decide +kernel
theorem dX6_init_5 : decode cX6_init 5 = .ok (.sipush 600, 3) := by decide +kernel
theorem dX6_init_8 : decode cX6_init 8 = .ok (.newarray .byte, 2) := by decide +kernel
theorem dX6_init_10 : decode cX6_init 10 = .ok (.putfield 9, 3) := by decide +kernel
theorem dX6_init_13 : decode cX6_init 13 = .ok (.return_, 1) := by decide +kernel
theorem dX6_append_0 : decode cX6_append 0 = .ok (.bipush 24, 2) := by decide +kernel
theorem dX6_append_2 : decode cX6_append 2 = .ok (.istore_n 2, 1) := by decide +kernel
theorem dX6_append_3 : decode cX6_append 3 = .ok (.iload_n 2, 1) := by decide +kernel
theorem dX6_append_4 : decode cX6_append 4 = .ok (.ifCond .lt 42, 3) := by decide +kernel
theorem dX6_append_7 : decode cX6_append 7 = .ok (.aload_n 0, 1) := by decide +kernel
theorem dX6_append_8 : decode cX6_append 8 = .ok (.getfield 15, 3) := by decide +kernel
theorem dX6_append_11 : decode cX6_append 11 = .ok (.sipush 600, 3) := by decide +kernel
theorem dX6_append_14 : decode cX6_append 14 = .ok (.if_icmp .ge 32, 3) := by decide +kernel
theorem dX6_append_17 : decode cX6_append 17 = .ok (.aload_n 0, 1) := by decide +kernel
theorem dX6_append_18 : decode cX6_append 18 = .ok (.getfield 9, 3) := by decide +kernel
theorem dX6_append_21 : decode cX6_append 21 = .ok (.aload_n 0, 1) := by decide +kernel
theorem dX6_append_22 : decode cX6_append 22 = .ok (.getfield 15, 3) := by decide +kernel
theorem dX6_append_25 : decode cX6_append 25 = .ok (.iload_n 1, 1) := by decide +kernel
theorem dX6_append_26 : decode cX6_append 26 = .ok (.iload_n 2, 1) := by decide +kernel
theorem dX6_append_27 : decode cX6_append 27 = .ok (.ishr, 1) := by decide +kernel
theorem dX6_append_28 : decode cX6_append 28 = .ok (.i2b, 1) := by decide +kernel
theorem dX6_append_29 : decode cX6_append 29 = .ok (.bastore, 1) := by decide +kernel
theorem dX6_append_30 : decode cX6_append 30 = .ok (.aload_n 0, 1) := by decide +kernel
theorem dX6_append_31 : decode cX6_append 31 = .ok (.dup, 1) := by decide +kernel
theorem dX6_append_32 : decode cX6_append 32 = .ok (.getfield 15, 3) := by decide +kernel
theorem dX6_append_35 : decode cX6_append 35 = .ok (.iconst 1, 1) := by decide +kernel
theorem dX6_append_36 : decode cX6_append 36 = .ok (.iadd, 1) := by decide +kernel
theorem dX6_append_37 : decode cX6_append 37 = .ok (.putfield 15, 3) := by decide +kernel
theorem dX6_append_40 : decode cX6_append 40 = .ok (.iinc 2 (-8), 3) := by decide +kernel
theorem dX6_append_43 : decode cX6_append 43 = .ok (.goto (-40), 3) := by decide +kernel
theorem dX6_append_46 : decode cX6_append 46 = .ok (.return_, 1) := by decide +kernel
theorem dX6_byteAt_0 : decode cX6_byteAt 0 = .ok (.iload_n 1, 1) := by decide +kernel
theorem dX6_byteAt_1 : decode cX6_byteAt 1 = .ok (.iconst 0, 1) := by decide +kernel
theorem dX6_byteAt_2 : decode cX6_byteAt 2 = .ok (.aload_n 0, 1) := by decide +kernel
theorem dX6_byteAt_3 : decode cX6_byteAt 3 = .ok (.getfield 15, 3) := by decide +kernel
theorem dX6_byteAt_6 : decode cX6_byteAt 6 = .ok (.iconst 1, 1) := by decide +kernel
theorem dX6_byteAt_7 : decode cX6_byteAt 7 = .ok (.isub, 1) := by decide +kernel
theorem dX6_byteAt_8 : decode cX6_byteAt 8 = .ok (.invokestatic 19, 3) := by decide +kernel
theorem dX6_byteAt_11 : decode cX6_byteAt 11 = .ok (.ifCond .eq 16, 3) := by decide +kernel
theorem dX6_byteAt_14 : decode cX6_byteAt 14 = .ok (.aload_n 0, 1) := by decide +kernel
theorem dX6_byteAt_15 : decode cX6_byteAt 15 = .ok (.getfield 9, 3) := by decide +kernel
theorem dX6_byteAt_18 : decode cX6_byteAt 18 = .ok (.iload_n 1, 1) := by decide +kernel
theorem dX6_byteAt_19 : decode cX6_byteAt 19 = .ok (.baload, 1) := by decide +kernel
theorem dX6_byteAt_20 : decode cX6_byteAt 20 = .ok (.sipush 255, 3) := by decide +kernel
theorem dX6_byteAt_23 : decode cX6_byteAt 23 = .ok (.iand, 1) := by decide +kernel
theorem dX6_byteAt_24 : decode cX6_byteAt 24 = .ok (.goto 4, 3) := by decide +kernel
theorem dX6_byteAt_27 : decode cX6_byteAt 27 = .ok (.iconst (-1), 1) := by decide +kernel
theorem dX6_byteAt_28 : decode cX6_byteAt 28 = .ok (.ireturn, 1) := by decide +kernel
theorem dX7_init_0 : decode cX7_init 0 = .ok (.aload_n 0, 1) := by decide +kernel
theorem dX7_init_1 : decode cX7_init 1 = .ok (.invokespecial 3, 3) := by decide +kernel
theorem dX7_init_4 : decode cX7_init 4 = .ok (.aload_n 0, 1) := by decide +kernel
theorem dX7_init_5 : decode cX7_init 5 = .ok (.new 9, 3) := by decide +kernel
theorem dX7_init_8 : decode cX7_init 8 = .ok (.dup, 1) := by decide +kernel
theorem dX7_init_9 : decode cX7_init 9 = .ok (.invokespecial 11, 3) := by decide +kernel
theorem dX7_init_12 : decode cX7_init 12 = .ok (.putfield 12, 3) := by decide +kernel
theorem dX7_init_15 : decode cX7_init 15 = .ok (.aload_n 0, 1) := by decide +kernel
theorem dX7_init_16 : decode cX7_init 16 = .ok (.new 16, 3) := by decide +kernel
theorem dX7_init_19 : decode cX7_init 19 = .ok (.dup, 1) := by decide +kernel
theorem dX7_init_20 : decode cX7_init 20 = .ok (.invokespecial 18, 3) := by decide +kernel
theorem dX7_init_23 : decode cX7_init 23 = .ok (.putfield 19, 3) := by decide +kernel
theorem dX7_init_26 : decode cX7_init 26 = .ok (.aload_n 0, 1) := by decide +kernel
theorem dX7_init_27 : decode cX7_init 27 = .ok (.new 23, 3) := by decide +kernel
theorem dX7_init_30 : decode cX7_init 30 = .ok (.dup, 1) := by decide +kernel
theorem dX7_init_31 : decode cX7_init 31 = .ok (.invokespecial 25, 3) := by decide +kernel
theorem dX7_init_34 : decode cX7_init 34 = .ok (.putfield 26, 3) := by decide +kernel
theorem dX7_init_37 : decode cX7_init 37 = .ok (.aload_n 0, 1) := by decide +kernel
theorem dX7_init_38 : decode cX7_init 38 = .ok (.new 30, 3) := by decide +kernel
theorem dX7_init_41 : decode cX7_init 41 = .ok (.dup, 1) := by decide +kernel
theorem dX7_init_42 : decode cX7_init 42 = .ok (.invokespecial 32, 3) := by decide +kernel
theorem dX7_init_45 : decode cX7_init 45 = .ok (.putfield 33, 3) := by decide +kernel
theorem dX7_init_48 : decode cX7_init 48 = .ok (.aload_n 0, 1) := by decide +kernel
theorem dX7_init_49 : decode cX7_init 49 = .ok (.new 37, 3) := by decide +kernel
theorem dX7_init_52 : decode cX7_init 52 = .ok (.dup, 1) := by decide +kernel
theorem dX7_init_53 : decode cX7_init 53 = .ok (.invokespecial 39, 3) := by decide +kernel
theorem dX7_init_56 : decode cX7_init 56 = .ok (.putfield 40, 3) := by decide +kernel
theorem dX7_init_59 : decode cX7_init 59 = .ok (.aload_n 0, 1) := by decide +kernel
theorem dX7_init_60 : decode cX7_init 60 = .ok (.new 44, 3) := by decide +kernel
theorem dX7_init_63 : decode cX7_init 63 = .ok (.dup, 1) := by decide +kernel
theorem dX7_init_64 : decode cX7_init 64 = .ok (.invokespecial 46, 3) := by decide +kernel
theorem dX7_init_67 : decode cX7_init 67 = .ok (.putfield 47, 3) := by decide +kernel
theorem dX7_init_70 : decode cX7_init 70 = .ok (.aload_n 0, 1) := by decide +kernel
theorem dX7_init_71 : decode cX7_init 71 = .ok (.iconst 5, 1) := by decide +kernel
theorem dX7_init_72 : decode cX7_init 72 = .ok (.newarray .int, 2) := by decide +kernel
theorem dX7_init_74 : decode cX7_init 74 = .ok (.dup, 1) := by decide +kernel
theorem dX7_init_75 : decode cX7_init 75 = .ok (.iconst 0, 1) := by decide +kernel
theorem dX7_init_76 : decode cX7_init 76 = .ok (.bipush 60, 2) := by decide +kernel
theorem dX7_init_78 : decode cX7_init 78 = .ok (.iastore, 1) := by decide +kernel
theorem dX7_init_79 : decode cX7_init 79 = .ok (.dup, 1) := by decide +kernel
theorem dX7_init_80 : decode cX7_init 80 = .ok (.iconst 1, 1) := by decide +kernel
theorem dX7_init_81 : decode cX7_init 81 = .ok (.bipush 120, 2) := by decide +kernel
theorem dX7_init_83 : decode cX7_init 83 = .ok (.iastore, 1) := by decide +kernel
theorem dX7_init_84 : decode cX7_init 84 = .ok (.dup, 1) := by decide +kernel
theorem dX7_init_85 : decode cX7_init 85 = .ok (.iconst 2, 1) := by decide +kernel
theorem dX7_init_86 : decode cX7_init 86 = .ok (.bipush 60, 2) := by decide +kernel
theorem dX7_init_88 : decode cX7_init 88 = .ok (.iastore, 1) := by decide +kernel
theorem dX7_init_89 : decode cX7_init 89 = .ok (.dup, 1) := by decide +kernel
theorem dX7_init_90 : decode cX7_init 90 = .ok (.iconst 3, 1) := by decide +kernel
theorem dX7_init_91 : decode cX7_init 91 = .ok (.bipush 100, 2) := by decide +kernel
theorem dX7_init_93 : decode cX7_init 93 = .ok (.iastore, 1) := by decide +kernel
theorem dX7_init_94 : decode cX7_init 94 = .ok (.dup, 1) := by decide +kernel
theorem dX7_init_95 : decode cX7_init 95 = .ok (.iconst 4, 1) := by decide +kernel
theorem dX7_init_96 : decode cX7_init 96 = .ok (.bipush 10, 2) := by decide +kernel
theorem dX7_init_98 : decode cX7_init 98 = .ok (.iastore, 1) := by decide +kernel
theorem dX7_init_99 : decode cX7_init 99 = .ok (.putfield 51, 3) := by decide +kernel
theorem dX7_init_102 : decode cX7_init 102 = .ok (.aload_n 0, 1) := by decide +kernel
theorem dX7_init_103 : decode cX7_init 103 = .ok (.new 55, 3) := by decide +kernel
theorem dX7_init_106 : decode cX7_init 106 = .ok (.dup, 1) := by decide +kernel
theorem dX7_init_107 : decode cX7_init 107 = .ok (.invokespecial 57, 3) := by decide +kernel
theorem dX7_init_110 : decode cX7_init 110 = .ok (.putfield 58, 3) := by decide +kernel
theorem dX7_init_113 : decode cX7_init 113 = .ok (.aload_n 0, 1) := by decide +kernel
theorem dX7_init_114 : decode cX7_init 114 = .ok (.new 55, 3) := by decide +kernel
theorem dX7_init_117 : decode cX7_init 117 = .ok (.dup, 1) := by decide +kernel
theorem dX7_init_118 : decode cX7_init 118 = .ok (.invokespecial 57, 3) := by decide +kernel
theorem dX7_init_121 : decode cX7_init 121 = .ok (.putfield 62, 3) := by decide +kernel
theorem dX7_init_124 : decode cX7_init 124 = .ok (.aload_n 0, 1) := by decide +kernel
theorem dX7_init_125 : decode cX7_init 125 = .ok (.iconst 1, 1) := by decide +kernel
theorem dX7_init_126 : decode cX7_init 126 = .ok (.putfield 65, 3) := by decide +kernel
theorem dX7_init_129 : decode cX7_init 129 = .ok (.return_, 1) := by decide +kernel
theorem dX7_camp_0 : decode cX7_camp 0 = .ok (.iload_n 1, 1) := by decide +kernel
theorem dX7_camp_1 : decode cX7_camp 1 = .ok (.invokestatic 69, 3) := by decide +kernel
theorem dX7_camp_4 : decode cX7_camp 4 = .ok (.ifCond .eq 14, 3) := by decide +kernel
theorem dX7_camp_7 : decode cX7_camp 7 = .ok (.iload_n 2, 1) := by decide +kernel
theorem dX7_camp_8 : decode cX7_camp 8 = .ok (.iconst 1, 1) := by decide +kernel
theorem dX7_camp_9 : decode cX7_camp 9 = .ok (.sipush 900, 3) := by decide +kernel
theorem dX7_camp_12 : decode cX7_camp 12 = .ok (.invokestatic 73, 3) := by decide +kernel
theorem dX7_camp_15 : decode cX7_camp 15 = .ok (.ifCond .ne 5, 3) := by decide +kernel
theorem dX7_camp_18 : decode cX7_camp 18 = .ok (.iconst 0, 1) := by decide +kernel
theorem dX7_camp_19 : decode cX7_camp 19 = .ok (.ireturn, 1) := by decide +kernel
theorem dX7_camp_20 : decode cX7_camp 20 = .ok (.aload_n 0, 1) := by decide +kernel
theorem dX7_camp_21 : decode cX7_camp 21 = .ok (.getfield 12, 3) := by decide +kernel
theorem dX7_camp_24 : decode cX7_camp 24 = .ok (.getfield 77, 3) := by decide +kernel
theorem dX7_camp_27 : decode cX7_camp 27 = .ok (.iload_n 1, 1) := by decide +kernel
theorem dX7_camp_28 : decode cX7_camp 28 = .ok (.iconst 1, 1) := by decide +kernel
theorem dX7_camp_29 : decode cX7_camp 29 = .ok (.isub, 1) := by decide +kernel
theorem dX7_camp_30 : decode cX7_camp 30 = .ok (.iload_n 2, 1) := by decide +kernel
theorem dX7_camp_31 : decode cX7_camp 31 = .ok (.iastore, 1) := by decide +kernel
theorem dX7_camp_32 : decode cX7_camp 32 = .ok (.aload_n 0, 1) := by decide +kernel
theorem dX7_camp_33 : decode cX7_camp 33 = .ok (.getfield 19, 3) := by decide +kernel
theorem dX7_camp_36 : decode cX7_camp 36 = .ok (.iload_n 1, 1) := by decide +kernel
theorem dX7_camp_37 : decode cX7_camp 37 = .ok (.iconst 1, 1) := by decide +kernel
theorem dX7_camp_38 : decode cX7_camp 38 = .ok (.isub, 1) := by decide +kernel
theorem dX7_camp_39 : decode cX7_camp 39 = .ok (.iload_n 2, 1) := by decide +kernel
theorem dX7_camp_40 : decode cX7_camp 40 = .ok (.invokevirtual 80, 3) := by decide +kernel
theorem dX7_camp_43 : decode cX7_camp 43 = .ok (.aload_n 0, 1) := by decide +kernel
theorem dX7_camp_44 : decode cX7_camp 44 = .ok (.iconst 1, 1) := by decide +kernel
theorem dX7_camp_45 : decode cX7_camp 45 = .ok (.putfield 65, 3) := by decide +kernel
theorem dX7_camp_48 : decode cX7_camp 48 = .ok (.iconst 1, 1) := by decide +kernel
theorem dX7_camp_49 : decode cX7_camp 49 = .ok (.ireturn, 1) := by decide +kernel
theorem dX7_hour_0 : decode cX7_hour 0 = .ok (.iload_n 1, 1) := by decide +kernel
theorem dX7_hour_1 : decode cX7_hour 1 = .ok (.invokestatic 84, 3) := by decide +kernel
theorem dX7_hour_4 : decode cX7_hour 4 = .ok (.ifCond .eq 13, 3) := by decide +kernel
theorem dX7_hour_7 : decode cX7_hour 7 = .ok (.iload_n 2, 1) := by decide +kernel
theorem dX7_hour_8 : decode cX7_hour 8 = .ok (.iconst 0, 1) := by decide +kernel
theorem dX7_hour_9 : decode cX7_hour 9 = .ok (.bipush 23, 2) := by decide +kernel
theorem dX7_hour_11 : decode cX7_hour 11 = .ok (.invokestatic 73, 3) := by decide +kernel
theorem dX7_hour_14 : decode cX7_hour 14 = .ok (.ifCond .ne 5, 3) := by decide +kernel
theorem dX7_hour_17 : decode cX7_hour 17 = .ok (.iconst 0, 1) := by decide +kernel
theorem dX7_hour_18 : decode cX7_hour 18 = .ok (.ireturn, 1) := by decide +kernel
theorem dX7_hour_19 : decode cX7_hour 19 = .ok (.aload_n 0, 1) := by decide +kernel
theorem dX7_hour_20 : decode cX7_hour 20 = .ok (.getfield 12, 3) := by decide +kernel
theorem dX7_hour_23 : decode cX7_hour 23 = .ok (.getfield 87, 3) := by decide +kernel
theorem dX7_hour_26 : decode cX7_hour 26 = .ok (.iload_n 1, 1) := by decide +kernel
theorem dX7_hour_27 : decode cX7_hour 27 = .ok (.iload_n 2, 1) := by decide +kernel
theorem dX7_hour_28 : decode cX7_hour 28 = .ok (.iastore, 1) := by decide +kernel
theorem dX7_hour_29 : decode cX7_hour 29 = .ok (.aload_n 0, 1) := by decide +kernel
theorem dX7_hour_30 : decode cX7_hour 30 = .ok (.iconst 1, 1) := by decide +kernel
theorem dX7_hour_31 : decode cX7_hour 31 = .ok (.putfield 65, 3) := by decide +kernel
theorem dX7_hour_34 : decode cX7_hour 34 = .ok (.iconst 1, 1) := by decide +kernel
theorem dX7_hour_35 : decode cX7_hour 35 = .ok (.ireturn, 1) := by decide +kernel
theorem dX7_racer_0 : decode cX7_racer 0 = .ok (.iload_n 1, 1) := by decide +kernel
theorem dX7_racer_1 : decode cX7_racer 1 = .ok (.bipush 10, 2) := by decide +kernel
theorem dX7_racer_3 : decode cX7_racer 3 = .ok (.bipush 120, 2) := by decide +kernel
theorem dX7_racer_5 : decode cX7_racer 5 = .ok (.invokestatic 73, 3) := by decide +kernel
theorem dX7_racer_8 : decode cX7_racer 8 = .ok (.ifCond .ne 5, 3) := by decide +kernel
theorem dX7_racer_11 : decode cX7_racer 11 = .ok (.iconst (-1), 1) := by decide +kernel
theorem dX7_racer_12 : decode cX7_racer 12 = .ok (.ireturn, 1) := by decide +kernel
theorem dX7_racer_13 : decode cX7_racer 13 = .ok (.aload_n 0, 1) := by decide +kernel
theorem dX7_racer_14 : decode cX7_racer 14 = .ok (.iconst 1, 1) := by decide +kernel
theorem dX7_racer_15 : decode cX7_racer 15 = .ok (.putfield 65, 3) := by decide +kernel
theorem dX7_racer_18 : decode cX7_racer 18 = .ok (.aload_n 0, 1) := by decide +kernel
theorem dX7_racer_19 : decode cX7_racer 19 = .ok (.getfield 19, 3) := by decide +kernel
theorem dX7_racer_22 : decode cX7_racer 22 = .ok (.iload_n 1, 1) := by decide +kernel
theorem dX7_racer_23 : decode cX7_racer 23 = .ok (.invokevirtual 90, 3) := by decide +kernel
theorem dX7_racer_26 : decode cX7_racer 26 = .ok (.ireturn, 1) := by decide +kernel
theorem dX7_breaks_0 : decode cX7_breaks 0 = .ok (.aload_n 0, 1) := by decide +kernel
theorem dX7_breaks_1 : decode cX7_breaks 1 = .ok (.getfield 19, 3) := by decide +kernel
theorem dX7_breaks_4 : decode cX7_breaks 4 = .ok (.iload_n 1, 1) := by decide +kernel
theorem dX7_breaks_5 : decode cX7_breaks 5 = .ok (.invokevirtual 94, 3) := by decide +kernel
theorem dX7_breaks_8 : decode cX7_breaks 8 = .ok (.ifCond .ne 5, 3) := by decide +kernel
theorem dX7_breaks_11 : decode cX7_breaks 11 = .ok (.iconst 0, 1) := by decide +kernel
theorem dX7_breaks_12 : decode cX7_breaks 12 = .ok (.ireturn, 1) := by decide +kernel
theorem dX7_breaks_13 : decode cX7_breaks 13 = .ok (.iload_n 2, 1) := by decide +kernel
theorem dX7_breaks_14 : decode cX7_breaks 14 = .ok (.iconst (-1), 1) := by decide +kernel
theorem dX7_breaks_15 : decode cX7_breaks 15 = .ok (.if_icmp .eq 31, 3) := by decide +kernel
theorem dX7_breaks_18 : decode cX7_breaks 18 = .ok (.iload_n 2, 1) := by decide +kernel
theorem dX7_breaks_19 : decode cX7_breaks 19 = .ok (.invokestatic 84, 3) := by decide +kernel
theorem dX7_breaks_22 : decode cX7_breaks 22 = .ok (.ifCond .eq 22, 3) := by decide +kernel
theorem dX7_breaks_25 : decode cX7_breaks 25 = .ok (.iload_n 3, 1) := by decide +kernel
theorem dX7_breaks_26 : decode cX7_breaks 26 = .ok (.iconst 0, 1) := by decide +kernel
theorem dX7_breaks_27 : decode cX7_breaks 27 = .ok (.aload_n 0, 1) := by decide +kernel
theorem dX7_breaks_28 : decode cX7_breaks 28 = .ok (.getfield 12, 3) := by decide +kernel
theorem dX7_breaks_31 : decode cX7_breaks 31 = .ok (.getfield 77, 3) := by decide +kernel
theorem dX7_breaks_34 : decode cX7_breaks 34 = .ok (.iload_n 2, 1) := by decide +kernel
theorem dX7_breaks_35 : decode cX7_breaks 35 = .ok (.iaload, 1) := by decide +kernel
theorem dX7_breaks_36 : decode cX7_breaks 36 = .ok (.iconst 1, 1) := by decide +kernel
theorem dX7_breaks_37 : decode cX7_breaks 37 = .ok (.isub, 1) := by decide +kernel
theorem dX7_breaks_38 : decode cX7_breaks 38 = .ok (.invokestatic 73, 3) := by decide +kernel
theorem dX7_breaks_41 : decode cX7_breaks 41 = .ok (.ifCond .ne 5, 3) := by decide +kernel
theorem dX7_breaks_44 : decode cX7_breaks 44 = .ok (.iconst 0, 1) := by decide +kernel
theorem dX7_breaks_45 : decode cX7_breaks 45 = .ok (.ireturn, 1) := by decide +kernel
theorem dX7_breaks_46 : decode cX7_breaks 46 = .ok (.aload_n 0, 1) := by decide +kernel
theorem dX7_breaks_47 : decode cX7_breaks 47 = .ok (.getfield 19, 3) := by decide +kernel
theorem dX7_breaks_50 : decode cX7_breaks 50 = .ok (.getfield 97, 3) := by decide +kernel
theorem dX7_breaks_53 : decode cX7_breaks 53 = .ok (.iload_n 1, 1) := by decide +kernel
theorem dX7_breaks_54 : decode cX7_breaks 54 = .ok (.iload_n 2, 1) := by decide +kernel
theorem dX7_breaks_55 : decode cX7_breaks 55 = .ok (.iastore, 1) := by decide +kernel
theorem dX7_breaks_56 : decode cX7_breaks 56 = .ok (.aload_n 0, 1) := by decide +kernel
theorem dX7_breaks_57 : decode cX7_breaks 57 = .ok (.getfield 19, 3) := by decide +kernel
theorem dX7_breaks_60 : decode cX7_breaks 60 = .ok (.getfield 100, 3) := by decide +kernel
theorem dX7_breaks_63 : decode cX7_breaks 63 = .ok (.iload_n 1, 1) := by decide +kernel
theorem dX7_breaks_64 : decode cX7_breaks 64 = .ok (.iload_n 3, 1) := by decide +kernel
theorem dX7_breaks_65 : decode cX7_breaks 65 = .ok (.iastore, 1) := by decide +kernel
theorem dX7_breaks_66 : decode cX7_breaks 66 = .ok (.aload_n 0, 1) := by decide +kernel
theorem dX7_breaks_67 : decode cX7_breaks 67 = .ok (.iconst 1, 1) := by decide +kernel
theorem dX7_breaks_68 : decode cX7_breaks 68 = .ok (.putfield 65, 3) := by decide +kernel
theorem dX7_breaks_71 : decode cX7_breaks 71 = .ok (.iconst 1, 1) := by decide +kernel
theorem dX7_breaks_72 : decode cX7_breaks 72 = .ok (.ireturn, 1) := by decide +kernel
theorem dX7_set_0 : decode cX7_set 0 = .ok (.iload_n 1, 1) := by decide +kernel
theorem dX7_set_1 : decode cX7_set 1 = .ok (.iconst 0, 1) := by decide +kernel
theorem dX7_set_2 : decode cX7_set 2 = .ok (.iconst 4, 1) := by decide +kernel
theorem dX7_set_3 : decode cX7_set 3 = .ok (.invokestatic 73, 3) := by decide +kernel
theorem dX7_set_6 : decode cX7_set 6 = .ok (.ifCond .eq 20, 3) := by decide +kernel
theorem dX7_set_9 : decode cX7_set 9 = .ok (.iload_n 2, 1) := by decide +kernel
theorem dX7_set_10 : decode cX7_set 10 = .ok (.getstatic 103, 3) := by decide +kernel
theorem dX7_set_13 : decode cX7_set 13 = .ok (.iload_n 1, 1) := by decide +kernel
theorem dX7_set_14 : decode cX7_set 14 = .ok (.iaload, 1) := by decide +kernel
theorem dX7_set_15 : decode cX7_set 15 = .ok (.getstatic 106, 3) := by decide +kernel
theorem dX7_set_18 : decode cX7_set 18 = .ok (.iload_n 1, 1) := by decide +kernel
theorem dX7_set_19 : decode cX7_set 19 = .ok (.iaload, 1) := by decide +kernel
theorem dX7_set_20 : decode cX7_set 20 = .ok (.invokestatic 73, 3) := by decide +kernel
theorem dX7_set_23 : decode cX7_set 23 = .ok (.ifCond .ne 5, 3) := by decide +kernel
theorem dX7_set_26 : decode cX7_set 26 = .ok (.iconst 0, 1) := by decide +kernel
theorem dX7_set_27 : decode cX7_set 27 = .ok (.ireturn, 1) := by decide +kernel
theorem dX7_set_28 : decode cX7_set 28 = .ok (.aload_n 0, 1) := by decide +kernel
theorem dX7_set_29 : decode cX7_set 29 = .ok (.getfield 51, 3) := by decide +kernel
theorem dX7_set_32 : decode cX7_set 32 = .ok (.iload_n 1, 1) := by decide +kernel
theorem dX7_set_33 : decode cX7_set 33 = .ok (.iload_n 2, 1) := by decide +kernel
theorem dX7_set_34 : decode cX7_set 34 = .ok (.iastore, 1) := by decide +kernel
theorem dX7_set_35 : decode cX7_set 35 = .ok (.aload_n 0, 1) := by decide +kernel
theorem dX7_set_36 : decode cX7_set 36 = .ok (.iconst 1, 1) := by decide +kernel
theorem dX7_set_37 : decode cX7_set 37 = .ok (.putfield 65, 3) := by decide +kernel
theorem dX7_set_40 : decode cX7_set 40 = .ok (.iconst 1, 1) := by decide +kernel
theorem dX7_set_41 : decode cX7_set 41 = .ok (.ireturn, 1) := by decide +kernel
theorem dX7_feed_0 : decode cX7_feed 0 = .ok (.aload_n 0, 1) := by decide +kernel
theorem dX7_feed_1 : decode cX7_feed 1 = .ok (.getfield 26, 3) := by decide +kernel
theorem dX7_feed_4 : decode cX7_feed 4 = .ok (.getfield 109, 3) := by decide +kernel
theorem dX7_feed_7 : decode cX7_feed 7 = .ok (.bipush 20, 2) := by decide +kernel
theorem dX7_feed_9 : decode cX7_feed 9 = .ok (.iadd, 1) := by decide +kernel
theorem dX7_feed_10 : decode cX7_feed 10 = .ok (.sipush 600, 3) := by decide +kernel
theorem dX7_feed_13 : decode cX7_feed 13 = .ok (.if_icmp .le 5, 3) := by decide +kernel
theorem dX7_feed_16 : decode cX7_feed 16 = .ok (.iconst (-1), 1) := by decide +kernel
theorem dX7_feed_17 : decode cX7_feed 17 = .ok (.ireturn, 1) := by decide +kernel
theorem dX7_feed_18 : decode cX7_feed 18 = .ok (.aload_n 0, 1) := by decide +kernel
theorem dX7_feed_19 : decode cX7_feed 19 = .ok (.getfield 26, 3) := by decide +kernel
theorem dX7_feed_22 : decode cX7_feed 22 = .ok (.iload_n 1, 1) := by decide +kernel
theorem dX7_feed_23 : decode cX7_feed 23 = .ok (.invokevirtual 113, 3) := by decide +kernel
theorem dX7_feed_26 : decode cX7_feed 26 = .ok (.aload_n 0, 1) := by decide +kernel
theorem dX7_feed_27 : decode cX7_feed 27 = .ok (.getfield 26, 3) := by decide +kernel
theorem dX7_feed_30 : decode cX7_feed 30 = .ok (.iload_n 2, 1) := by decide +kernel
theorem dX7_feed_31 : decode cX7_feed 31 = .ok (.invokevirtual 113, 3) := by decide +kernel
theorem dX7_feed_34 : decode cX7_feed 34 = .ok (.aload_n 0, 1) := by decide +kernel
theorem dX7_feed_35 : decode cX7_feed 35 = .ok (.getfield 26, 3) := by decide +kernel
theorem dX7_feed_38 : decode cX7_feed 38 = .ok (.iload_n 3, 1) := by decide +kernel
theorem dX7_feed_39 : decode cX7_feed 39 = .ok (.invokevirtual 113, 3) := by decide +kernel
theorem dX7_feed_42 : decode cX7_feed 42 = .ok (.aload_n 0, 1) := by decide +kernel
theorem dX7_feed_43 : decode cX7_feed 43 = .ok (.getfield 26, 3) := by decide +kernel
theorem dX7_feed_46 : decode cX7_feed 46 = .ok (.iload 4, 2) := by decide +kernel
theorem dX7_feed_48 : decode cX7_feed 48 = .ok (.invokevirtual 113, 3) := by decide +kernel
theorem dX7_feed_51 : decode cX7_feed 51 = .ok (.aload_n 0, 1) := by decide +kernel
theorem dX7_feed_52 : decode cX7_feed 52 = .ok (.getfield 26, 3) := by decide +kernel
theorem dX7_feed_55 : decode cX7_feed 55 = .ok (.iload 5, 2) := by decide +kernel
theorem dX7_feed_57 : decode cX7_feed 57 = .ok (.invokevirtual 113, 3) := by decide +kernel
theorem dX7_feed_60 : decode cX7_feed 60 = .ok (.aload_n 0, 1) := by decide +kernel
theorem dX7_feed_61 : decode cX7_feed 61 = .ok (.getfield 26, 3) := by decide +kernel
theorem dX7_feed_64 : decode cX7_feed 64 = .ok (.getfield 109, 3) := by decide +kernel
theorem dX7_feed_67 : decode cX7_feed 67 = .ok (.ireturn, 1) := by decide +kernel
theorem dX7_end_0 : decode cX7_end 0 = .ok (.iload_n 1, 1) := by decide +kernel
theorem dX7_end_1 : decode cX7_end 1 = .ok (.iconst 0, 1) := by decide +kernel
theorem dX7_end_2 : decode cX7_end 2 = .ok (.aload_n 0, 1) := by decide +kernel
theorem dX7_end_3 : decode cX7_end 3 = .ok (.getfield 26, 3) := by decide +kernel
theorem dX7_end_6 : decode cX7_end 6 = .ok (.getfield 109, 3) := by decide +kernel
theorem dX7_end_9 : decode cX7_end 9 = .ok (.invokestatic 73, 3) := by decide +kernel
theorem dX7_end_12 : decode cX7_end 12 = .ok (.ifCond .ne 5, 3) := by decide +kernel
theorem dX7_end_15 : decode cX7_end 15 = .ok (.iconst 0, 1) := by decide +kernel
theorem dX7_end_16 : decode cX7_end 16 = .ok (.ireturn, 1) := by decide +kernel
theorem dX7_end_17 : decode cX7_end 17 = .ok (.aload_n 0, 1) := by decide +kernel
theorem dX7_end_18 : decode cX7_end 18 = .ok (.getfield 26, 3) := by decide +kernel
theorem dX7_end_21 : decode cX7_end 21 = .ok (.iload_n 1, 1) := by decide +kernel
theorem dX7_end_22 : decode cX7_end 22 = .ok (.putfield 109, 3) := by decide +kernel
theorem dX7_end_25 : decode cX7_end 25 = .ok (.iconst 1, 1) := by decide +kernel
theorem dX7_end_26 : decode cX7_end 26 = .ok (.ireturn, 1) := by decide +kernel
theorem dX7_book_0 : decode cX7_book 0 = .ok (.aload_n 0, 1) := by decide +kernel
theorem dX7_book_1 : decode cX7_book 1 = .ok (.getfield 33, 3) := by decide +kernel
theorem dX7_book_4 : decode cX7_book 4 = .ok (.aload_n 0, 1) := by decide +kernel
theorem dX7_book_5 : decode cX7_book 5 = .ok (.getfield 26, 3) := by decide +kernel
theorem dX7_book_8 : decode cX7_book 8 = .ok (.aload_n 0, 1) := by decide +kernel
theorem dX7_book_9 : decode cX7_book 9 = .ok (.getfield 62, 3) := by decide +kernel
theorem dX7_book_12 : decode cX7_book 12 = .ok (.invokevirtual 117, 3) := by decide +kernel
theorem dX7_book_15 : decode cX7_book 15 = .ok (.istore_n 1, 1) := by decide +kernel
theorem dX7_book_16 : decode cX7_book 16 = .ok (.aload_n 0, 1) := by decide +kernel
theorem dX7_book_17 : decode cX7_book 17 = .ok (.getfield 26, 3) := by decide +kernel
theorem dX7_book_20 : decode cX7_book 20 = .ok (.iconst 0, 1) := by decide +kernel
theorem dX7_book_21 : decode cX7_book 21 = .ok (.putfield 109, 3) := by decide +kernel
theorem dX7_book_24 : decode cX7_book 24 = .ok (.iload_n 1, 1) := by decide +kernel
theorem dX7_book_25 : decode cX7_book 25 = .ok (.ifCond .ne 5, 3) := by decide +kernel
theorem dX7_book_28 : decode cX7_book 28 = .ok (.iconst (-1), 1) := by decide +kernel
theorem dX7_book_29 : decode cX7_book 29 = .ok (.ireturn, 1) := by decide +kernel
theorem dX7_book_30 : decode cX7_book 30 = .ok (.aload_n 0, 1) := by decide +kernel
theorem dX7_book_31 : decode cX7_book 31 = .ok (.getfield 58, 3) := by decide +kernel
theorem dX7_book_34 : decode cX7_book 34 = .ok (.astore_n 2, 1) := by decide +kernel
theorem dX7_book_35 : decode cX7_book 35 = .ok (.aload_n 0, 1) := by decide +kernel
theorem dX7_book_36 : decode cX7_book 36 = .ok (.aload_n 0, 1) := by decide +kernel
theorem dX7_book_37 : decode cX7_book 37 = .ok (.getfield 62, 3) := by decide +kernel
theorem dX7_book_40 : decode cX7_book 40 = .ok (.putfield 58, 3) := by decide +kernel
theorem dX7_book_43 : decode cX7_book 43 = .ok (.aload_n 0, 1) := by decide +kernel
theorem dX7_book_44 : decode cX7_book 44 = .ok (.aload_n 2, 1) := by decide +kernel
theorem dX7_book_45 : decode cX7_book 45 = .ok (.putfield 62, 3) := by decide +kernel
theorem dX7_book_48 : decode cX7_book 48 = .ok (.aload_n 0, 1) := by decide +kernel
theorem dX7_book_49 : decode cX7_book 49 = .ok (.iconst 1, 1) := by decide +kernel
theorem dX7_book_50 : decode cX7_book 50 = .ok (.putfield 65, 3) := by decide +kernel
theorem dX7_book_53 : decode cX7_book 53 = .ok (.aload_n 0, 1) := by decide +kernel
theorem dX7_book_54 : decode cX7_book 54 = .ok (.getfield 58, 3) := by decide +kernel
theorem dX7_book_57 : decode cX7_book 57 = .ok (.getfield 121, 3) := by decide +kernel
theorem dX7_book_60 : decode cX7_book 60 = .ok (.ireturn, 1) := by decide +kernel
theorem dX7_fault_0 : decode cX7_fault 0 = .ok (.iload_n 1, 1) := by decide +kernel
theorem dX7_fault_1 : decode cX7_fault 1 = .ok (.lookupswitch 43 #[(0, 27), (1, 35)], 27) := by decide +kernel
theorem dX7_fault_28 : decode cX7_fault 28 = .ok (.aload_n 0, 1) := by decide +kernel
theorem dX7_fault_29 : decode cX7_fault 29 = .ok (.getfield 33, 3) := by decide +kernel
theorem dX7_fault_32 : decode cX7_fault 32 = .ok (.getfield 124, 3) := by decide +kernel
theorem dX7_fault_35 : decode cX7_fault 35 = .ok (.ireturn, 1) := by decide +kernel
theorem dX7_fault_36 : decode cX7_fault 36 = .ok (.aload_n 0, 1) := by decide +kernel
theorem dX7_fault_37 : decode cX7_fault 37 = .ok (.getfield 33, 3) := by decide +kernel
theorem dX7_fault_40 : decode cX7_fault 40 = .ok (.getfield 127, 3) := by decide +kernel
theorem dX7_fault_43 : decode cX7_fault 43 = .ok (.ireturn, 1) := by decide +kernel
theorem dX7_fault_44 : decode cX7_fault 44 = .ok (.iconst (-1), 1) := by decide +kernel
theorem dX7_fault_45 : decode cX7_fault 45 = .ok (.ireturn, 1) := by decide +kernel
theorem dX7_look_0 : decode cX7_look 0 = .ok (.iload_n 1, 1) := by decide +kernel
theorem dX7_look_1 : decode cX7_look 1 = .ok (.tableswitch 53 0 2 #[27, 35, 43], 27) := by decide +kernel
theorem dX7_look_28 : decode cX7_look 28 = .ok (.aload_n 0, 1) := by decide +kernel
theorem dX7_look_29 : decode cX7_look 29 = .ok (.getfield 19, 3) := by decide +kernel
theorem dX7_look_32 : decode cX7_look 32 = .ok (.getfield 130, 3) := by decide +kernel
theorem dX7_look_35 : decode cX7_look 35 = .ok (.ireturn, 1) := by decide +kernel
theorem dX7_look_36 : decode cX7_look 36 = .ok (.aload_n 0, 1) := by decide +kernel
theorem dX7_look_37 : decode cX7_look 37 = .ok (.getfield 58, 3) := by decide +kernel
theorem dX7_look_40 : decode cX7_look 40 = .ok (.getfield 121, 3) := by decide +kernel
theorem dX7_look_43 : decode cX7_look 43 = .ok (.ireturn, 1) := by decide +kernel
theorem dX7_look_44 : decode cX7_look 44 = .ok (.aload_n 0, 1) := by decide +kernel
theorem dX7_look_45 : decode cX7_look 45 = .ok (.getfield 12, 3) := by decide +kernel
theorem dX7_look_48 : decode cX7_look 48 = .ok (.bipush 7, 2) := by decide +kernel
theorem dX7_look_50 : decode cX7_look 50 = .ok (.invokevirtual 133, 3) := by decide +kernel
theorem dX7_look_53 : decode cX7_look 53 = .ok (.ireturn, 1) := by decide +kernel
theorem dX7_look_54 : decode cX7_look 54 = .ok (.iload_n 1, 1) := by decide +kernel
theorem dX7_look_55 : decode cX7_look 55 = .ok (.iconst 3, 1) := by decide +kernel
theorem dX7_look_56 : decode cX7_look 56 = .ok (.bipush 7, 2) := by decide +kernel
theorem dX7_look_58 : decode cX7_look 58 = .ok (.invokestatic 73, 3) := by decide +kernel
theorem dX7_look_61 : decode cX7_look 61 = .ok (.ifCond .eq 14, 3) := by decide +kernel
theorem dX7_look_64 : decode cX7_look 64 = .ok (.aload_n 0, 1) := by decide +kernel
theorem dX7_look_65 : decode cX7_look 65 = .ok (.getfield 51, 3) := by decide +kernel
theorem dX7_look_68 : decode cX7_look 68 = .ok (.iload_n 1, 1) := by decide +kernel
theorem dX7_look_69 : decode cX7_look 69 = .ok (.iconst 3, 1) := by decide +kernel
theorem dX7_look_70 : decode cX7_look 70 = .ok (.isub, 1) := by decide +kernel
theorem dX7_look_71 : decode cX7_look 71 = .ok (.iaload, 1) := by decide +kernel
theorem dX7_look_72 : decode cX7_look 72 = .ok (.goto 4, 3) := by decide +kernel
theorem dX7_look_75 : decode cX7_look 75 = .ok (.iconst (-1), 1) := by decide +kernel
theorem dX7_look_76 : decode cX7_look 76 = .ok (.ireturn, 1) := by decide +kernel
theorem dX7_time_0 : decode cX7_time 0 = .ok (.aload_n 0, 1) := by decide +kernel
theorem dX7_time_1 : decode cX7_time 1 = .ok (.getfield 19, 3) := by decide +kernel
theorem dX7_time_4 : decode cX7_time 4 = .ok (.iload_n 1, 1) := by decide +kernel
theorem dX7_time_5 : decode cX7_time 5 = .ok (.invokevirtual 94, 3) := by decide +kernel
theorem dX7_time_8 : decode cX7_time 8 = .ok (.ifCond .eq 10, 3) := by decide +kernel
theorem dX7_time_11 : decode cX7_time 11 = .ok (.iload_n 2, 1) := by decide +kernel
theorem dX7_time_12 : decode cX7_time 12 = .ok (.invokestatic 84, 3) := by decide +kernel
theorem dX7_time_15 : decode cX7_time 15 = .ok (.ifCond .ne 5, 3) := by decide +kernel
theorem dX7_time_18 : decode cX7_time 18 = .ok (.iconst (-1), 1) := by decide +kernel
theorem dX7_time_19 : decode cX7_time 19 = .ok (.ireturn, 1) := by decide +kernel
theorem dX7_time_20 : decode cX7_time 20 = .ok (.aload_n 0, 1) := by decide +kernel
theorem dX7_time_21 : decode cX7_time 21 = .ok (.invokevirtual 136, 3) := by decide +kernel
theorem dX7_time_24 : decode cX7_time 24 = .ok (.aload_n 0, 1) := by decide +kernel
theorem dX7_time_25 : decode cX7_time 25 = .ok (.getfield 40, 3) := by decide +kernel
theorem dX7_time_28 : decode cX7_time 28 = .ok (.getfield 139, 3) := by decide +kernel
theorem dX7_time_31 : decode cX7_time 31 = .ok (.iload_n 2, 1) := by decide +kernel
theorem dX7_time_32 : decode cX7_time 32 = .ok (.aaload, 1) := by decide +kernel
theorem dX7_time_33 : decode cX7_time 33 = .ok (.iload_n 1, 1) := by decide +kernel
theorem dX7_time_34 : decode cX7_time 34 = .ok (.iaload, 1) := by decide +kernel
theorem dX7_time_35 : decode cX7_time 35 = .ok (.ireturn, 1) := by decide +kernel
theorem dX7_ran_0 : decode cX7_ran 0 = .ok (.aload_n 0, 1) := by decide +kernel
theorem dX7_ran_1 : decode cX7_ran 1 = .ok (.getfield 19, 3) := by decide +kernel
theorem dX7_ran_4 : decode cX7_ran 4 = .ok (.iload_n 1, 1) := by decide +kernel
theorem dX7_ran_5 : decode cX7_ran 5 = .ok (.invokevirtual 94, 3) := by decide +kernel
theorem dX7_ran_8 : decode cX7_ran 8 = .ok (.ifCond .eq 10, 3) := by decide +kernel
theorem dX7_ran_11 : decode cX7_ran 11 = .ok (.iload_n 2, 1) := by decide +kernel
theorem dX7_ran_12 : decode cX7_ran 12 = .ok (.invokestatic 84, 3) := by decide +kernel
theorem dX7_ran_15 : decode cX7_ran 15 = .ok (.ifCond .ne 5, 3) := by decide +kernel
theorem dX7_ran_18 : decode cX7_ran 18 = .ok (.iconst (-1), 1) := by decide +kernel
theorem dX7_ran_19 : decode cX7_ran 19 = .ok (.ireturn, 1) := by decide +kernel
theorem dX7_ran_20 : decode cX7_ran 20 = .ok (.aload_n 0, 1) := by decide +kernel
theorem dX7_ran_21 : decode cX7_ran 21 = .ok (.invokevirtual 136, 3) := by decide +kernel
theorem dX7_ran_24 : decode cX7_ran 24 = .ok (.iload_n 3, 1) := by decide +kernel
theorem dX7_ran_25 : decode cX7_ran 25 = .ok (.tableswitch 79 0 3 #[31, 43, 55, 67], 31) := by decide +kernel
theorem dX7_ran_56 : decode cX7_ran 56 = .ok (.aload_n 0, 1) := by decide +kernel
theorem dX7_ran_57 : decode cX7_ran 57 = .ok (.getfield 40, 3) := by decide +kernel
theorem dX7_ran_60 : decode cX7_ran 60 = .ok (.getfield 143, 3) := by decide +kernel
theorem dX7_ran_63 : decode cX7_ran 63 = .ok (.iload_n 2, 1) := by decide +kernel
theorem dX7_ran_64 : decode cX7_ran 64 = .ok (.aaload, 1) := by decide +kernel
theorem dX7_ran_65 : decode cX7_ran 65 = .ok (.iload_n 1, 1) := by decide +kernel
theorem dX7_ran_66 : decode cX7_ran 66 = .ok (.iaload, 1) := by decide +kernel
theorem dX7_ran_67 : decode cX7_ran 67 = .ok (.ireturn, 1) := by decide +kernel
theorem dX7_ran_68 : decode cX7_ran 68 = .ok (.aload_n 0, 1) := by decide +kernel
theorem dX7_ran_69 : decode cX7_ran 69 = .ok (.getfield 40, 3) := by decide +kernel
theorem dX7_ran_72 : decode cX7_ran 72 = .ok (.getfield 146, 3) := by decide +kernel
theorem dX7_ran_75 : decode cX7_ran 75 = .ok (.iload_n 2, 1) := by decide +kernel
theorem dX7_ran_76 : decode cX7_ran 76 = .ok (.aaload, 1) := by decide +kernel
theorem dX7_ran_77 : decode cX7_ran 77 = .ok (.iload_n 1, 1) := by decide +kernel
theorem dX7_ran_78 : decode cX7_ran 78 = .ok (.iaload, 1) := by decide +kernel
theorem dX7_ran_79 : decode cX7_ran 79 = .ok (.ireturn, 1) := by decide +kernel
theorem dX7_ran_80 : decode cX7_ran 80 = .ok (.aload_n 0, 1) := by decide +kernel
theorem dX7_ran_81 : decode cX7_ran 81 = .ok (.getfield 40, 3) := by decide +kernel
theorem dX7_ran_84 : decode cX7_ran 84 = .ok (.getfield 149, 3) := by decide +kernel
theorem dX7_ran_87 : decode cX7_ran 87 = .ok (.iload_n 2, 1) := by decide +kernel
theorem dX7_ran_88 : decode cX7_ran 88 = .ok (.aaload, 1) := by decide +kernel
theorem dX7_ran_89 : decode cX7_ran 89 = .ok (.iload_n 1, 1) := by decide +kernel
theorem dX7_ran_90 : decode cX7_ran 90 = .ok (.iaload, 1) := by decide +kernel
theorem dX7_ran_91 : decode cX7_ran 91 = .ok (.ireturn, 1) := by decide +kernel
theorem dX7_ran_92 : decode cX7_ran 92 = .ok (.aload_n 0, 1) := by decide +kernel
theorem dX7_ran_93 : decode cX7_ran 93 = .ok (.getfield 40, 3) := by decide +kernel
theorem dX7_ran_96 : decode cX7_ran 96 = .ok (.getfield 152, 3) := by decide +kernel
theorem dX7_ran_99 : decode cX7_ran 99 = .ok (.iload_n 2, 1) := by decide +kernel
theorem dX7_ran_100 : decode cX7_ran 100 = .ok (.aaload, 1) := by decide +kernel
theorem dX7_ran_101 : decode cX7_ran 101 = .ok (.iload_n 1, 1) := by decide +kernel
theorem dX7_ran_102 : decode cX7_ran 102 = .ok (.iaload, 1) := by decide +kernel
theorem dX7_ran_103 : decode cX7_ran 103 = .ok (.ireturn, 1) := by decide +kernel
theorem dX7_ran_104 : decode cX7_ran 104 = .ok (.iconst (-1), 1) := by decide +kernel
theorem dX7_ran_105 : decode cX7_ran 105 = .ok (.ireturn, 1) := by decide +kernel
theorem dX7_standing_0 : decode cX7_standing 0 = .ok (.iload_n 1, 1) := by decide +kernel
theorem dX7_standing_1 : decode cX7_standing 1 = .ok (.invokestatic 84, 3) := by decide +kernel
theorem dX7_standing_4 : decode cX7_standing 4 = .ok (.ifCond .ne 5, 3) := by decide +kernel
theorem dX7_standing_7 : decode cX7_standing 7 = .ok (.iconst (-1), 1) := by decide +kernel
theorem dX7_standing_8 : decode cX7_standing 8 = .ok (.ireturn, 1) := by decide +kernel
theorem dX7_standing_9 : decode cX7_standing 9 = .ok (.aload_n 0, 1) := by decide +kernel
theorem dX7_standing_10 : decode cX7_standing 10 = .ok (.invokevirtual 136, 3) := by decide +kernel
theorem dX7_standing_13 : decode cX7_standing 13 = .ok (.iload_n 2, 1) := by decide +kernel
theorem dX7_standing_14 : decode cX7_standing 14 = .ok (.iconst 0, 1) := by decide +kernel
theorem dX7_standing_15 : decode cX7_standing 15 = .ok (.aload_n 0, 1) := by decide +kernel
theorem dX7_standing_16 : decode cX7_standing 16 = .ok (.getfield 40, 3) := by decide +kernel
theorem dX7_standing_19 : decode cX7_standing 19 = .ok (.getfield 155, 3) := by decide +kernel
theorem dX7_standing_22 : decode cX7_standing 22 = .ok (.iload_n 1, 1) := by decide +kernel
theorem dX7_standing_23 : decode cX7_standing 23 = .ok (.iaload, 1) := by decide +kernel
theorem dX7_standing_24 : decode cX7_standing 24 = .ok (.iconst 1, 1) := by decide +kernel
theorem dX7_standing_25 : decode cX7_standing 25 = .ok (.isub, 1) := by decide +kernel
theorem dX7_standing_26 : decode cX7_standing 26 = .ok (.invokestatic 73, 3) := by decide +kernel
theorem dX7_standing_29 : decode cX7_standing 29 = .ok (.ifCond .eq 17, 3) := by decide +kernel
theorem dX7_standing_32 : decode cX7_standing 32 = .ok (.aload_n 0, 1) := by decide +kernel
theorem dX7_standing_33 : decode cX7_standing 33 = .ok (.getfield 40, 3) := by decide +kernel
theorem dX7_standing_36 : decode cX7_standing 36 = .ok (.getfield 158, 3) := by decide +kernel
theorem dX7_standing_39 : decode cX7_standing 39 = .ok (.iload_n 1, 1) := by decide +kernel
theorem dX7_standing_40 : decode cX7_standing 40 = .ok (.aaload, 1) := by decide +kernel
theorem dX7_standing_41 : decode cX7_standing 41 = .ok (.iload_n 2, 1) := by decide +kernel
theorem dX7_standing_42 : decode cX7_standing 42 = .ok (.iaload, 1) := by decide +kernel
theorem dX7_standing_43 : decode cX7_standing 43 = .ok (.goto 4, 3) := by decide +kernel
theorem dX7_standing_46 : decode cX7_standing 46 = .ok (.iconst (-1), 1) := by decide +kernel
theorem dX7_standing_47 : decode cX7_standing 47 = .ok (.ireturn, 1) := by decide +kernel
theorem dX7_of_0 : decode cX7_of 0 = .ok (.iload_n 1, 1) := by decide +kernel
theorem dX7_of_1 : decode cX7_of 1 = .ok (.invokestatic 69, 3) := by decide +kernel
theorem dX7_of_4 : decode cX7_of 4 = .ok (.ifCond .ne 5, 3) := by decide +kernel
theorem dX7_of_7 : decode cX7_of 7 = .ok (.iconst (-1), 1) := by decide +kernel
theorem dX7_of_8 : decode cX7_of 8 = .ok (.ireturn, 1) := by decide +kernel
theorem dX7_of_9 : decode cX7_of 9 = .ok (.aload_n 0, 1) := by decide +kernel
theorem dX7_of_10 : decode cX7_of 10 = .ok (.invokevirtual 136, 3) := by decide +kernel
theorem dX7_of_13 : decode cX7_of 13 = .ok (.aload_n 0, 1) := by decide +kernel
theorem dX7_of_14 : decode cX7_of 14 = .ok (.getfield 40, 3) := by decide +kernel
theorem dX7_of_17 : decode cX7_of 17 = .ok (.getfield 155, 3) := by decide +kernel
theorem dX7_of_20 : decode cX7_of 20 = .ok (.iload_n 1, 1) := by decide +kernel
theorem dX7_of_21 : decode cX7_of 21 = .ok (.iconst 1, 1) := by decide +kernel
theorem dX7_of_22 : decode cX7_of 22 = .ok (.isub, 1) := by decide +kernel
theorem dX7_of_23 : decode cX7_of 23 = .ok (.iaload, 1) := by decide +kernel
theorem dX7_of_24 : decode cX7_of 24 = .ok (.istore_n 3, 1) := by decide +kernel
theorem dX7_of_25 : decode cX7_of 25 = .ok (.aload_n 0, 1) := by decide +kernel
theorem dX7_of_26 : decode cX7_of 26 = .ok (.getfield 51, 3) := by decide +kernel
theorem dX7_of_29 : decode cX7_of 29 = .ok (.iconst 3, 1) := by decide +kernel
theorem dX7_of_30 : decode cX7_of 30 = .ok (.iaload, 1) := by decide +kernel
theorem dX7_of_31 : decode cX7_of 31 = .ok (.iload_n 3, 1) := by decide +kernel
theorem dX7_of_32 : decode cX7_of 32 = .ok (.iadd, 1) := by decide +kernel
theorem dX7_of_33 : decode cX7_of 33 = .ok (.istore 4, 2) := by decide +kernel
theorem dX7_of_35 : decode cX7_of 35 = .ok (.iload_n 2, 1) := by decide +kernel
theorem dX7_of_36 : decode cX7_of 36 = .ok (.tableswitch 117 0 5 #[40, 42, 60, 78, 96, 99], 40) := by decide +kernel
theorem dX7_of_76 : decode cX7_of 76 = .ok (.iload_n 3, 1) := by decide +kernel
theorem dX7_of_77 : decode cX7_of 77 = .ok (.ireturn, 1) := by decide +kernel
theorem dX7_of_78 : decode cX7_of 78 = .ok (.iload_n 3, 1) := by decide +kernel
theorem dX7_of_79 : decode cX7_of 79 = .ok (.ifCond .le 15, 3) := by decide +kernel
theorem dX7_of_82 : decode cX7_of 82 = .ok (.aload_n 0, 1) := by decide +kernel
theorem dX7_of_83 : decode cX7_of 83 = .ok (.getfield 47, 3) := by decide +kernel
theorem dX7_of_86 : decode cX7_of 86 = .ok (.getfield 161, 3) := by decide +kernel
theorem dX7_of_89 : decode cX7_of 89 = .ok (.iload_n 1, 1) := by decide +kernel
theorem dX7_of_90 : decode cX7_of 90 = .ok (.iaload, 1) := by decide +kernel
theorem dX7_of_91 : decode cX7_of 91 = .ok (.goto 4, 3) := by decide +kernel
theorem dX7_of_94 : decode cX7_of 94 = .ok (.iconst (-1), 1) := by decide +kernel
theorem dX7_of_95 : decode cX7_of 95 = .ok (.ireturn, 1) := by decide +kernel
theorem dX7_of_96 : decode cX7_of 96 = .ok (.iload_n 3, 1) := by decide +kernel
theorem dX7_of_97 : decode cX7_of 97 = .ok (.ifCond .le 15, 3) := by decide +kernel
theorem dX7_of_100 : decode cX7_of 100 = .ok (.aload_n 0, 1) := by decide +kernel
theorem dX7_of_101 : decode cX7_of 101 = .ok (.getfield 47, 3) := by decide +kernel
theorem dX7_of_104 : decode cX7_of 104 = .ok (.getfield 164, 3) := by decide +kernel
theorem dX7_of_107 : decode cX7_of 107 = .ok (.iload_n 1, 1) := by decide +kernel
theorem dX7_of_108 : decode cX7_of 108 = .ok (.iaload, 1) := by decide +kernel
theorem dX7_of_109 : decode cX7_of 109 = .ok (.goto 4, 3) := by decide +kernel
theorem dX7_of_112 : decode cX7_of 112 = .ok (.iconst (-1), 1) := by decide +kernel
theorem dX7_of_113 : decode cX7_of 113 = .ok (.ireturn, 1) := by decide +kernel
theorem dX7_of_114 : decode cX7_of 114 = .ok (.iload_n 3, 1) := by decide +kernel
theorem dX7_of_115 : decode cX7_of 115 = .ok (.ifCond .le 15, 3) := by decide +kernel
theorem dX7_of_118 : decode cX7_of 118 = .ok (.aload_n 0, 1) := by decide +kernel
theorem dX7_of_119 : decode cX7_of 119 = .ok (.getfield 47, 3) := by decide +kernel
theorem dX7_of_122 : decode cX7_of 122 = .ok (.getfield 167, 3) := by decide +kernel
theorem dX7_of_125 : decode cX7_of 125 = .ok (.iload_n 1, 1) := by decide +kernel
theorem dX7_of_126 : decode cX7_of 126 = .ok (.iaload, 1) := by decide +kernel
theorem dX7_of_127 : decode cX7_of 127 = .ok (.goto 4, 3) := by decide +kernel
theorem dX7_of_130 : decode cX7_of 130 = .ok (.iconst (-1), 1) := by decide +kernel
theorem dX7_of_131 : decode cX7_of 131 = .ok (.ireturn, 1) := by decide +kernel
theorem dX7_of_132 : decode cX7_of 132 = .ok (.iload 4, 2) := by decide +kernel
theorem dX7_of_134 : decode cX7_of 134 = .ok (.ireturn, 1) := by decide +kernel
theorem dX7_of_135 : decode cX7_of 135 = .ok (.iload 4, 2) := by decide +kernel
theorem dX7_of_137 : decode cX7_of 137 = .ok (.i2l, 1) := by decide +kernel
theorem dX7_of_138 : decode cX7_of 138 = .ok (.aload_n 0, 1) := by decide +kernel
theorem dX7_of_139 : decode cX7_of 139 = .ok (.getfield 51, 3) := by decide +kernel
theorem dX7_of_142 : decode cX7_of 142 = .ok (.iconst 4, 1) := by decide +kernel
theorem dX7_of_143 : decode cX7_of 143 = .ok (.iaload, 1) := by decide +kernel
theorem dX7_of_144 : decode cX7_of 144 = .ok (.i2l, 1) := by decide +kernel
theorem dX7_of_145 : decode cX7_of 145 = .ok (.lmul, 1) := by decide +kernel
theorem dX7_of_146 : decode cX7_of 146 = .ok (.ldc2_w 170, 3) := by decide +kernel
theorem dX7_of_149 : decode cX7_of 149 = .ok (.invokestatic 172, 3) := by decide +kernel
theorem dX7_of_152 : decode cX7_of 152 = .ok (.ireturn, 1) := by decide +kernel
theorem dX7_of_153 : decode cX7_of 153 = .ok (.iconst (-1), 1) := by decide +kernel
theorem dX7_of_154 : decode cX7_of 154 = .ok (.ireturn, 1) := by decide +kernel
theorem dX7_sets_0 : decode cX7_sets 0 = .ok (.aload_n 0, 1) := by decide +kernel
theorem dX7_sets_1 : decode cX7_sets 1 = .ok (.invokevirtual 136, 3) := by decide +kernel
theorem dX7_sets_4 : decode cX7_sets 4 = .ok (.aload_n 0, 1) := by decide +kernel
theorem dX7_sets_5 : decode cX7_sets 5 = .ok (.getfield 47, 3) := by decide +kernel
theorem dX7_sets_8 : decode cX7_sets 8 = .ok (.getfield 176, 3) := by decide +kernel
theorem dX7_sets_11 : decode cX7_sets 11 = .ok (.ireturn, 1) := by decide +kernel
theorem dX7_goes_0 : decode cX7_goes 0 = .ok (.aload_n 0, 1) := by decide +kernel
theorem dX7_goes_1 : decode cX7_goes 1 = .ok (.invokevirtual 136, 3) := by decide +kernel
theorem dX7_goes_4 : decode cX7_goes 4 = .ok (.iload_n 1, 1) := by decide +kernel
theorem dX7_goes_5 : decode cX7_goes 5 = .ok (.iconst 0, 1) := by decide +kernel
theorem dX7_goes_6 : decode cX7_goes 6 = .ok (.aload_n 0, 1) := by decide +kernel
theorem dX7_goes_7 : decode cX7_goes 7 = .ok (.getfield 47, 3) := by decide +kernel
theorem dX7_goes_10 : decode cX7_goes 10 = .ok (.getfield 176, 3) := by decide +kernel
theorem dX7_goes_13 : decode cX7_goes 13 = .ok (.iconst 1, 1) := by decide +kernel
theorem dX7_goes_14 : decode cX7_goes 14 = .ok (.isub, 1) := by decide +kernel
theorem dX7_goes_15 : decode cX7_goes 15 = .ok (.invokestatic 73, 3) := by decide +kernel
theorem dX7_goes_18 : decode cX7_goes 18 = .ok (.ifCond .ne 5, 3) := by decide +kernel
theorem dX7_goes_21 : decode cX7_goes 21 = .ok (.iconst (-1), 1) := by decide +kernel
theorem dX7_goes_22 : decode cX7_goes 22 = .ok (.ireturn, 1) := by decide +kernel
theorem dX7_goes_23 : decode cX7_goes 23 = .ok (.aload_n 0, 1) := by decide +kernel
theorem dX7_goes_24 : decode cX7_goes 24 = .ok (.getfield 12, 3) := by decide +kernel
theorem dX7_goes_27 : decode cX7_goes 27 = .ok (.aload_n 0, 1) := by decide +kernel
theorem dX7_goes_28 : decode cX7_goes 28 = .ok (.getfield 47, 3) := by decide +kernel
theorem dX7_goes_31 : decode cX7_goes 31 = .ok (.iload_n 1, 1) := by decide +kernel
theorem dX7_goes_32 : decode cX7_goes 32 = .ok (.invokevirtual 179, 3) := by decide +kernel
theorem dX7_goes_35 : decode cX7_goes 35 = .ok (.invokevirtual 133, 3) := by decide +kernel
theorem dX7_goes_38 : decode cX7_goes 38 = .ok (.aload_n 0, 1) := by decide +kernel
theorem dX7_goes_39 : decode cX7_goes 39 = .ok (.getfield 12, 3) := by decide +kernel
theorem dX7_goes_42 : decode cX7_goes 42 = .ok (.aload_n 0, 1) := by decide +kernel
theorem dX7_goes_43 : decode cX7_goes 43 = .ok (.getfield 47, 3) := by decide +kernel
theorem dX7_goes_46 : decode cX7_goes 46 = .ok (.iload_n 1, 1) := by decide +kernel
theorem dX7_goes_47 : decode cX7_goes 47 = .ok (.invokevirtual 182, 3) := by decide +kernel
theorem dX7_goes_50 : decode cX7_goes 50 = .ok (.invokevirtual 133, 3) := by decide +kernel
theorem dX7_goes_53 : decode cX7_goes 53 = .ok (.isub, 1) := by decide +kernel
theorem dX7_goes_54 : decode cX7_goes 54 = .ok (.ireturn, 1) := by decide +kernel
theorem dX7_sweep_0 : decode cX7_sweep 0 = .ok (.iload_n 1, 1) := by decide +kernel
theorem dX7_sweep_1 : decode cX7_sweep 1 = .ok (.invokestatic 84, 3) := by decide +kernel
theorem dX7_sweep_4 : decode cX7_sweep 4 = .ok (.ifCond .ne 5, 3) := by decide +kernel
theorem dX7_sweep_7 : decode cX7_sweep 7 = .ok (.iconst (-1), 1) := by decide +kernel
theorem dX7_sweep_8 : decode cX7_sweep 8 = .ok (.ireturn, 1) := by decide +kernel
theorem dX7_sweep_9 : decode cX7_sweep 9 = .ok (.aload_n 0, 1) := by decide +kernel
theorem dX7_sweep_10 : decode cX7_sweep 10 = .ok (.invokevirtual 136, 3) := by decide +kernel
theorem dX7_sweep_13 : decode cX7_sweep 13 = .ok (.aload_n 0, 1) := by decide +kernel
theorem dX7_sweep_14 : decode cX7_sweep 14 = .ok (.getfield 40, 3) := by decide +kernel
theorem dX7_sweep_17 : decode cX7_sweep 17 = .ok (.iload_n 1, 1) := by decide +kernel
theorem dX7_sweep_18 : decode cX7_sweep 18 = .ok (.aload_n 0, 1) := by decide +kernel
theorem dX7_sweep_19 : decode cX7_sweep 19 = .ok (.getfield 19, 3) := by decide +kernel
theorem dX7_sweep_22 : decode cX7_sweep 22 = .ok (.invokevirtual 185, 3) := by decide +kernel
theorem dX7_sweep_25 : decode cX7_sweep 25 = .ok (.istore_n 3, 1) := by decide +kernel
theorem dX7_sweep_26 : decode cX7_sweep 26 = .ok (.iload_n 3, 1) := by decide +kernel
theorem dX7_sweep_27 : decode cX7_sweep 27 = .ok (.invokestatic 189, 3) := by decide +kernel
theorem dX7_sweep_30 : decode cX7_sweep 30 = .ok (.istore 4, 2) := by decide +kernel
theorem dX7_sweep_32 : decode cX7_sweep 32 = .ok (.iload_n 2, 1) := by decide +kernel
theorem dX7_sweep_33 : decode cX7_sweep 33 = .ok (.tableswitch 56 0 2 #[27, 37, 39], 27) := by decide +kernel
theorem dX7_sweep_60 : decode cX7_sweep 60 = .ok (.iload 4, 2) := by decide +kernel
theorem dX7_sweep_62 : decode cX7_sweep 62 = .ok (.i2l, 1) := by decide +kernel
theorem dX7_sweep_63 : decode cX7_sweep 63 = .ok (.ldc2_w 194, 3) := by decide +kernel
theorem dX7_sweep_66 : decode cX7_sweep 66 = .ok (.invokestatic 172, 3) := by decide +kernel
theorem dX7_sweep_69 : decode cX7_sweep 69 = .ok (.ireturn, 1) := by decide +kernel
theorem dX7_sweep_70 : decode cX7_sweep 70 = .ok (.iload_n 3, 1) := by decide +kernel
theorem dX7_sweep_71 : decode cX7_sweep 71 = .ok (.ireturn, 1) := by decide +kernel
theorem dX7_sweep_72 : decode cX7_sweep 72 = .ok (.iload 4, 2) := by decide +kernel
theorem dX7_sweep_74 : decode cX7_sweep 74 = .ok (.ifCond .le 13, 3) := by decide +kernel
theorem dX7_sweep_77 : decode cX7_sweep 77 = .ok (.aload_n 0, 1) := by decide +kernel
theorem dX7_sweep_78 : decode cX7_sweep 78 = .ok (.iload_n 1, 1) := by decide +kernel
theorem dX7_sweep_79 : decode cX7_sweep 79 = .ok (.iload 4, 2) := by decide +kernel
theorem dX7_sweep_81 : decode cX7_sweep 81 = .ok (.invokevirtual 196, 3) := by decide +kernel
theorem dX7_sweep_84 : decode cX7_sweep 84 = .ok (.goto 4, 3) := by decide +kernel
theorem dX7_sweep_87 : decode cX7_sweep 87 = .ok (.iconst (-1), 1) := by decide +kernel
theorem dX7_sweep_88 : decode cX7_sweep 88 = .ok (.ireturn, 1) := by decide +kernel
theorem dX7_sweep_89 : decode cX7_sweep 89 = .ok (.iconst (-1), 1) := by decide +kernel
theorem dX7_sweep_90 : decode cX7_sweep 90 = .ok (.ireturn, 1) := by decide +kernel
theorem dX7_sweepersCome_0 : decode cX7_sweepersCome 0 = .ok (.aload_n 0, 1) := by decide +kernel
theorem dX7_sweepersCome_1 : decode cX7_sweepersCome 1 = .ok (.getfield 40, 3) := by decide +kernel
theorem dX7_sweepersCome_4 : decode cX7_sweepersCome 4 = .ok (.iload_n 1, 1) := by decide +kernel
theorem dX7_sweepersCome_5 : decode cX7_sweepersCome 5 = .ok (.invokevirtual 200, 3) := by decide +kernel
theorem dX7_sweepersCome_8 : decode cX7_sweepersCome 8 = .ok (.bipush 60, 2) := by decide +kernel
theorem dX7_sweepersCome_10 : decode cX7_sweepersCome 10 = .ok (.iadd, 1) := by decide +kernel
theorem dX7_sweepersCome_11 : decode cX7_sweepersCome 11 = .ok (.istore_n 3, 1) := by decide +kernel
theorem dX7_sweepersCome_12 : decode cX7_sweepersCome 12 = .ok (.iload_n 3, 1) := by decide +kernel
theorem dX7_sweepersCome_13 : decode cX7_sweepersCome 13 = .ok (.aload_n 0, 1) := by decide +kernel
theorem dX7_sweepersCome_14 : decode cX7_sweepersCome 14 = .ok (.getfield 12, 3) := by decide +kernel
theorem dX7_sweepersCome_17 : decode cX7_sweepersCome 17 = .ok (.getfield 77, 3) := by decide +kernel
theorem dX7_sweepersCome_20 : decode cX7_sweepersCome 20 = .ok (.iload_n 1, 1) := by decide +kernel
theorem dX7_sweepersCome_21 : decode cX7_sweepersCome 21 = .ok (.iaload, 1) := by decide +kernel
theorem dX7_sweepersCome_22 : decode cX7_sweepersCome 22 = .ok (.bipush 30, 2) := by decide +kernel
theorem dX7_sweepersCome_24 : decode cX7_sweepersCome 24 = .ok (.invokestatic 203, 3) := by decide +kernel
theorem dX7_sweepersCome_27 : decode cX7_sweepersCome 27 = .ok (.iadd, 1) := by decide +kernel
theorem dX7_sweepersCome_28 : decode cX7_sweepersCome 28 = .ok (.bipush 15, 2) := by decide +kernel
theorem dX7_sweepersCome_30 : decode cX7_sweepersCome 30 = .ok (.iload_n 2, 1) := by decide +kernel
theorem dX7_sweepersCome_31 : decode cX7_sweepersCome 31 = .ok (.imul, 1) := by decide +kernel
theorem dX7_sweepersCome_32 : decode cX7_sweepersCome 32 = .ok (.iadd, 1) := by decide +kernel
theorem dX7_sweepersCome_33 : decode cX7_sweepersCome 33 = .ok (.ireturn, 1) := by decide +kernel
theorem dX7_settle_0 : decode cX7_settle 0 = .ok (.aload_n 0, 1) := by decide +kernel
theorem dX7_settle_1 : decode cX7_settle 1 = .ok (.getfield 65, 3) := by decide +kernel
theorem dX7_settle_4 : decode cX7_settle 4 = .ok (.ifCond .ne 4, 3) := by decide +kernel
theorem dX7_settle_7 : decode cX7_settle 7 = .ok (.return_, 1) := by decide +kernel
theorem dX7_settle_8 : decode cX7_settle 8 = .ok (.aload_n 0, 1) := by decide +kernel
theorem dX7_settle_9 : decode cX7_settle 9 = .ok (.getfield 40, 3) := by decide +kernel
theorem dX7_settle_12 : decode cX7_settle 12 = .ok (.aload_n 0, 1) := by decide +kernel
theorem dX7_settle_13 : decode cX7_settle 13 = .ok (.getfield 12, 3) := by decide +kernel
theorem dX7_settle_16 : decode cX7_settle 16 = .ok (.aload_n 0, 1) := by decide +kernel
theorem dX7_settle_17 : decode cX7_settle 17 = .ok (.getfield 19, 3) := by decide +kernel
theorem dX7_settle_20 : decode cX7_settle 20 = .ok (.aload_n 0, 1) := by decide +kernel
theorem dX7_settle_21 : decode cX7_settle 21 = .ok (.getfield 58, 3) := by decide +kernel
theorem dX7_settle_24 : decode cX7_settle 24 = .ok (.invokevirtual 206, 3) := by decide +kernel
theorem dX7_settle_27 : decode cX7_settle 27 = .ok (.aload_n 0, 1) := by decide +kernel
theorem dX7_settle_28 : decode cX7_settle 28 = .ok (.getfield 47, 3) := by decide +kernel
theorem dX7_settle_31 : decode cX7_settle 31 = .ok (.aload_n 0, 1) := by decide +kernel
theorem dX7_settle_32 : decode cX7_settle 32 = .ok (.getfield 12, 3) := by decide +kernel
theorem dX7_settle_35 : decode cX7_settle 35 = .ok (.aload_n 0, 1) := by decide +kernel
theorem dX7_settle_36 : decode cX7_settle 36 = .ok (.getfield 40, 3) := by decide +kernel
theorem dX7_settle_39 : decode cX7_settle 39 = .ok (.aload_n 0, 1) := by decide +kernel
theorem dX7_settle_40 : decode cX7_settle 40 = .ok (.getfield 51, 3) := by decide +kernel
theorem dX7_settle_43 : decode cX7_settle 43 = .ok (.invokevirtual 210, 3) := by decide +kernel
theorem dX7_settle_46 : decode cX7_settle 46 = .ok (.aload_n 0, 1) := by decide +kernel
theorem dX7_settle_47 : decode cX7_settle 47 = .ok (.iconst 0, 1) := by decide +kernel
theorem dX7_settle_48 : decode cX7_settle 48 = .ok (.putfield 65, 3) := by decide +kernel
theorem dX7_settle_51 : decode cX7_settle 51 = .ok (.return_, 1) := by decide +kernel
theorem dX7_within_0 : decode cX7_within 0 = .ok (.iload_n 1, 1) := by decide +kernel
theorem dX7_within_1 : decode cX7_within 1 = .ok (.iload_n 0, 1) := by decide +kernel
theorem dX7_within_2 : decode cX7_within 2 = .ok (.if_icmp .gt 12, 3) := by decide +kernel
theorem dX7_within_5 : decode cX7_within 5 = .ok (.iload_n 0, 1) := by decide +kernel
theorem dX7_within_6 : decode cX7_within 6 = .ok (.iload_n 2, 1) := by decide +kernel
theorem dX7_within_7 : decode cX7_within 7 = .ok (.if_icmp .gt 7, 3) := by decide +kernel
theorem dX7_within_10 : decode cX7_within 10 = .ok (.iconst 1, 1) := by decide +kernel
theorem dX7_within_11 : decode cX7_within 11 = .ok (.goto 4, 3) := by decide +kernel
theorem dX7_within_14 : decode cX7_within 14 = .ok (.iconst 0, 1) := by decide +kernel
theorem dX7_within_15 : decode cX7_within 15 = .ok (.ireturn, 1) := by decide +kernel
theorem dX7_isStage_0 : decode cX7_isStage 0 = .ok (.iload_n 0, 1) := by decide +kernel
theorem dX7_isStage_1 : decode cX7_isStage 1 = .ok (.iconst 0, 1) := by decide +kernel
theorem dX7_isStage_2 : decode cX7_isStage 2 = .ok (.bipush 6, 2) := by decide +kernel
theorem dX7_isStage_4 : decode cX7_isStage 4 = .ok (.invokestatic 73, 3) := by decide +kernel
theorem dX7_isStage_7 : decode cX7_isStage 7 = .ok (.ireturn, 1) := by decide +kernel
theorem dX7_isCamp_0 : decode cX7_isCamp 0 = .ok (.iload_n 0, 1) := by decide +kernel
theorem dX7_isCamp_1 : decode cX7_isCamp 1 = .ok (.iconst 1, 1) := by decide +kernel
theorem dX7_isCamp_2 : decode cX7_isCamp 2 = .ok (.bipush 7, 2) := by decide +kernel
theorem dX7_isCamp_4 : decode cX7_isCamp 4 = .ok (.invokestatic 73, 3) := by decide +kernel
theorem dX7_isCamp_7 : decode cX7_isCamp 7 = .ok (.ireturn, 1) := by decide +kernel
theorem dX7_divideUpwards_0 : decode cX7_divideUpwards 0 = .ok (.lload_n 2, 1) := by decide +kernel
theorem dX7_divideUpwards_1 : decode cX7_divideUpwards 1 = .ok (.lconst 1, 1) := by decide +kernel
theorem dX7_divideUpwards_2 : decode cX7_divideUpwards 2 = .ok (.lcmp, 1) := by decide +kernel
theorem dX7_divideUpwards_3 : decode cX7_divideUpwards 3 = .ok (.ifCond .ge 7, 3) := by decide +kernel
theorem dX7_divideUpwards_6 : decode cX7_divideUpwards 6 = .ok (.iconst 0, 1) := by decide +kernel
theorem dX7_divideUpwards_7 : decode cX7_divideUpwards 7 = .ok (.goto 11, 3) := by decide +kernel
theorem dX7_divideUpwards_10 : decode cX7_divideUpwards 10 = .ok (.lload_n 0, 1) := by decide +kernel
theorem dX7_divideUpwards_11 : decode cX7_divideUpwards 11 = .ok (.lload_n 2, 1) := by decide +kernel
theorem dX7_divideUpwards_12 : decode cX7_divideUpwards 12 = .ok (.ladd, 1) := by decide +kernel
theorem dX7_divideUpwards_13 : decode cX7_divideUpwards 13 = .ok (.lconst 1, 1) := by decide +kernel
theorem dX7_divideUpwards_14 : decode cX7_divideUpwards 14 = .ok (.lsub, 1) := by decide +kernel
theorem dX7_divideUpwards_15 : decode cX7_divideUpwards 15 = .ok (.lload_n 2, 1) := by decide +kernel
theorem dX7_divideUpwards_16 : decode cX7_divideUpwards 16 = .ok (.ldiv, 1) := by decide +kernel
theorem dX7_divideUpwards_17 : decode cX7_divideUpwards 17 = .ok (.l2i, 1) := by decide +kernel
theorem dX7_divideUpwards_18 : decode cX7_divideUpwards 18 = .ok (.ireturn, 1) := by decide +kernel
theorem dX7_minutesFor_0 : decode cX7_minutesFor 0 = .ok (.iload_n 0, 1) := by decide +kernel
theorem dX7_minutesFor_1 : decode cX7_minutesFor 1 = .ok (.i2l, 1) := by decide +kernel
theorem dX7_minutesFor_2 : decode cX7_minutesFor 2 = .ok (.ldc2_w 214, 3) := by decide +kernel
theorem dX7_minutesFor_5 : decode cX7_minutesFor 5 = .ok (.lmul, 1) := by decide +kernel
theorem dX7_minutesFor_6 : decode cX7_minutesFor 6 = .ok (.iload_n 1, 1) := by decide +kernel
theorem dX7_minutesFor_7 : decode cX7_minutesFor 7 = .ok (.i2l, 1) := by decide +kernel
theorem dX7_minutesFor_8 : decode cX7_minutesFor 8 = .ok (.invokestatic 172, 3) := by decide +kernel
theorem dX7_minutesFor_11 : decode cX7_minutesFor 11 = .ok (.ireturn, 1) := by decide +kernel
theorem dJ6_bitCount_0f7a4_0 : decode cJ6_bitCount_0f7a4 0 = .ok (.iload_n 0, 1) := by decide +kernel
theorem dJ6_bitCount_0f7a4_1 : decode cJ6_bitCount_0f7a4 1 = .ok (.iload_n 0, 1) := by decide +kernel
theorem dJ6_bitCount_0f7a4_2 : decode cJ6_bitCount_0f7a4 2 = .ok (.iconst 1, 1) := by decide +kernel
theorem dJ6_bitCount_0f7a4_3 : decode cJ6_bitCount_0f7a4 3 = .ok (.iushr, 1) := by decide +kernel
theorem dJ6_bitCount_0f7a4_4 : decode cJ6_bitCount_0f7a4 4 = .ok (.ldc_w 265, 3) := by decide +kernel
theorem dJ6_bitCount_0f7a4_7 : decode cJ6_bitCount_0f7a4 7 = .ok (.iand, 1) := by decide +kernel
theorem dJ6_bitCount_0f7a4_8 : decode cJ6_bitCount_0f7a4 8 = .ok (.isub, 1) := by decide +kernel
theorem dJ6_bitCount_0f7a4_9 : decode cJ6_bitCount_0f7a4 9 = .ok (.istore_n 0, 1) := by decide +kernel
theorem dJ6_bitCount_0f7a4_10 : decode cJ6_bitCount_0f7a4 10 = .ok (.iload_n 0, 1) := by decide +kernel
theorem dJ6_bitCount_0f7a4_11 : decode cJ6_bitCount_0f7a4 11 = .ok (.ldc_w 266, 3) := by decide +kernel
theorem dJ6_bitCount_0f7a4_14 : decode cJ6_bitCount_0f7a4 14 = .ok (.iand, 1) := by decide +kernel
theorem dJ6_bitCount_0f7a4_15 : decode cJ6_bitCount_0f7a4 15 = .ok (.iload_n 0, 1) := by decide +kernel
theorem dJ6_bitCount_0f7a4_16 : decode cJ6_bitCount_0f7a4 16 = .ok (.iconst 2, 1) := by decide +kernel
theorem dJ6_bitCount_0f7a4_17 : decode cJ6_bitCount_0f7a4 17 = .ok (.iushr, 1) := by decide +kernel
theorem dJ6_bitCount_0f7a4_18 : decode cJ6_bitCount_0f7a4 18 = .ok (.ldc_w 266, 3) := by decide +kernel
theorem dJ6_bitCount_0f7a4_21 : decode cJ6_bitCount_0f7a4 21 = .ok (.iand, 1) := by decide +kernel
theorem dJ6_bitCount_0f7a4_22 : decode cJ6_bitCount_0f7a4 22 = .ok (.iadd, 1) := by decide +kernel
theorem dJ6_bitCount_0f7a4_23 : decode cJ6_bitCount_0f7a4 23 = .ok (.istore_n 0, 1) := by decide +kernel
theorem dJ6_bitCount_0f7a4_24 : decode cJ6_bitCount_0f7a4 24 = .ok (.iload_n 0, 1) := by decide +kernel
theorem dJ6_bitCount_0f7a4_25 : decode cJ6_bitCount_0f7a4 25 = .ok (.iload_n 0, 1) := by decide +kernel
theorem dJ6_bitCount_0f7a4_26 : decode cJ6_bitCount_0f7a4 26 = .ok (.iconst 4, 1) := by decide +kernel
theorem dJ6_bitCount_0f7a4_27 : decode cJ6_bitCount_0f7a4 27 = .ok (.iushr, 1) := by decide +kernel
theorem dJ6_bitCount_0f7a4_28 : decode cJ6_bitCount_0f7a4 28 = .ok (.iadd, 1) := by decide +kernel
theorem dJ6_bitCount_0f7a4_29 : decode cJ6_bitCount_0f7a4 29 = .ok (.ldc_w 267, 3) := by decide +kernel
theorem dJ6_bitCount_0f7a4_32 : decode cJ6_bitCount_0f7a4 32 = .ok (.iand, 1) := by decide +kernel
theorem dJ6_bitCount_0f7a4_33 : decode cJ6_bitCount_0f7a4 33 = .ok (.istore_n 0, 1) := by decide +kernel
theorem dJ6_bitCount_0f7a4_34 : decode cJ6_bitCount_0f7a4 34 = .ok (.iload_n 0, 1) := by decide +kernel
theorem dJ6_bitCount_0f7a4_35 : decode cJ6_bitCount_0f7a4 35 = .ok (.iload_n 0, 1) := by decide +kernel
theorem dJ6_bitCount_0f7a4_36 : decode cJ6_bitCount_0f7a4 36 = .ok (.bipush 8, 2) := by decide +kernel
theorem dJ6_bitCount_0f7a4_38 : decode cJ6_bitCount_0f7a4 38 = .ok (.iushr, 1) := by decide +kernel
theorem dJ6_bitCount_0f7a4_39 : decode cJ6_bitCount_0f7a4 39 = .ok (.iadd, 1) := by decide +kernel
theorem dJ6_bitCount_0f7a4_40 : decode cJ6_bitCount_0f7a4 40 = .ok (.istore_n 0, 1) := by decide +kernel
theorem dJ6_bitCount_0f7a4_41 : decode cJ6_bitCount_0f7a4 41 = .ok (.iload_n 0, 1) := by decide +kernel
theorem dJ6_bitCount_0f7a4_42 : decode cJ6_bitCount_0f7a4 42 = .ok (.iload_n 0, 1) := by decide +kernel
theorem dJ6_bitCount_0f7a4_43 : decode cJ6_bitCount_0f7a4 43 = .ok (.bipush 16, 2) := by decide +kernel
theorem dJ6_bitCount_0f7a4_45 : decode cJ6_bitCount_0f7a4 45 = .ok (.iushr, 1) := by decide +kernel
theorem dJ6_bitCount_0f7a4_46 : decode cJ6_bitCount_0f7a4 46 = .ok (.iadd, 1) := by decide +kernel
theorem dJ6_bitCount_0f7a4_47 : decode cJ6_bitCount_0f7a4 47 = .ok (.istore_n 0, 1) := by decide +kernel
theorem dJ6_bitCount_0f7a4_48 : decode cJ6_bitCount_0f7a4 48 = .ok (.iload_n 0, 1) := by decide +kernel
theorem dJ6_bitCount_0f7a4_49 : decode cJ6_bitCount_0f7a4 49 = .ok (.bipush 63, 2) := by decide +kernel
theorem dJ6_bitCount_0f7a4_51 : decode cJ6_bitCount_0f7a4 51 = .ok (.iand, 1) := by decide +kernel
theorem dJ6_bitCount_0f7a4_52 : decode cJ6_bitCount_0f7a4 52 = .ok (.ireturn, 1) := by decide +kernel
theorem dJ9_max_7cf53_0 : decode cJ9_max_7cf53 0 = .ok (.iload_n 0, 1) := by decide +kernel
theorem dJ9_max_7cf53_1 : decode cJ9_max_7cf53 1 = .ok (.iload_n 1, 1) := by decide +kernel
theorem dJ9_max_7cf53_2 : decode cJ9_max_7cf53 2 = .ok (.if_icmp .lt 7, 3) := by decide +kernel
theorem dJ9_max_7cf53_5 : decode cJ9_max_7cf53 5 = .ok (.iload_n 0, 1) := by decide +kernel
theorem dJ9_max_7cf53_6 : decode cJ9_max_7cf53 6 = .ok (.goto 4, 3) := by decide +kernel
theorem dJ9_max_7cf53_9 : decode cJ9_max_7cf53 9 = .ok (.iload_n 1, 1) := by decide +kernel
theorem dJ9_max_7cf53_10 : decode cJ9_max_7cf53 10 = .ok (.ireturn, 1) := by decide +kernel
theorem dJ9_min_7cf53_0 : decode cJ9_min_7cf53 0 = .ok (.iload_n 0, 1) := by decide +kernel
theorem dJ9_min_7cf53_1 : decode cJ9_min_7cf53 1 = .ok (.iload_n 1, 1) := by decide +kernel
theorem dJ9_min_7cf53_2 : decode cJ9_min_7cf53 2 = .ok (.if_icmp .gt 7, 3) := by decide +kernel
theorem dJ9_min_7cf53_5 : decode cJ9_min_7cf53 5 = .ok (.iload_n 0, 1) := by decide +kernel
theorem dJ9_min_7cf53_6 : decode cJ9_min_7cf53 6 = .ok (.goto 4, 3) := by decide +kernel
theorem dJ9_min_7cf53_9 : decode cJ9_min_7cf53 9 = .ok (.iload_n 1, 1) := by decide +kernel
theorem dJ9_min_7cf53_10 : decode cJ9_min_7cf53 10 = .ok (.ireturn, 1) := by decide +kernel
theorem dJ0_length_8abf5_0 : decode cJ0_length_8abf5 0 = .ok (.aload_n 0, 1) := by decide +kernel
theorem dJ0_length_8abf5_1 : decode cJ0_length_8abf5 1 = .ok (.getfield 9, 3) := by decide +kernel
theorem dJ0_length_8abf5_4 : decode cJ0_length_8abf5 4 = .ok (.arraylength, 1) := by decide +kernel
theorem dJ0_length_8abf5_5 : decode cJ0_length_8abf5 5 = .ok (.aload_n 0, 1) := by decide +kernel
theorem dJ0_length_8abf5_6 : decode cJ0_length_8abf5 6 = .ok (.invokevirtual 335, 3) := by decide +kernel
theorem dJ0_length_8abf5_9 : decode cJ0_length_8abf5 9 = .ok (.ishr, 1) := by decide +kernel
theorem dJ0_length_8abf5_10 : decode cJ0_length_8abf5 10 = .ok (.ireturn, 1) := by decide +kernel
theorem dJ0_charAt_5068e_0 : decode cJ0_charAt_5068e 0 = .ok (.aload_n 0, 1) := by decide +kernel
theorem dJ0_charAt_5068e_1 : decode cJ0_charAt_5068e 1 = .ok (.invokevirtual 492, 3) := by decide +kernel
theorem dJ0_charAt_5068e_4 : decode cJ0_charAt_5068e 4 = .ok (.ifCond .eq 12, 3) := by decide +kernel
theorem dJ0_charAt_5068e_7 : decode cJ0_charAt_5068e 7 = .ok (.aload_n 0, 1) := by decide +kernel
theorem dJ0_charAt_5068e_8 : decode cJ0_charAt_5068e 8 = .ok (.getfield 9, 3) := by decide +kernel
theorem dJ0_charAt_5068e_11 : decode cJ0_charAt_5068e 11 = .ok (.iload_n 1, 1) := by decide +kernel
theorem dJ0_charAt_5068e_12 : decode cJ0_charAt_5068e 12 = .ok (.invokestatic 495, 3) := by decide +kernel
theorem dJ0_charAt_5068e_15 : decode cJ0_charAt_5068e 15 = .ok (.ireturn, 1) := by decide +kernel
theorem dJ0_charAt_5068e_16 : decode cJ0_charAt_5068e 16 = .ok (.aload_n 0, 1) := by decide +kernel
theorem dJ0_charAt_5068e_17 : decode cJ0_charAt_5068e 17 = .ok (.getfield 9, 3) := by decide +kernel
theorem dJ0_charAt_5068e_20 : decode cJ0_charAt_5068e 20 = .ok (.iload_n 1, 1) := by decide +kernel
theorem dJ0_charAt_5068e_21 : decode cJ0_charAt_5068e 21 = .ok (.invokestatic 498, 3) := by decide +kernel
theorem dJ0_charAt_5068e_24 : decode cJ0_charAt_5068e 24 = .ok (.ireturn, 1) := by decide +kernel
theorem dJ0_coder_7d493_0 : decode cJ0_coder_7d493 0 = .ok (.getstatic 38, 3) := by decide +kernel
theorem dJ0_coder_7d493_3 : decode cJ0_coder_7d493 3 = .ok (.ifCond .eq 10, 3) := by decide +kernel
theorem dJ0_coder_7d493_6 : decode cJ0_coder_7d493 6 = .ok (.aload_n 0, 1) := by decide +kernel
theorem dJ0_coder_7d493_7 : decode cJ0_coder_7d493 7 = .ok (.getfield 15, 3) := by decide +kernel
theorem dJ0_coder_7d493_10 : decode cJ0_coder_7d493 10 = .ok (.goto 4, 3) := by decide +kernel
theorem dJ0_coder_7d493_13 : decode cJ0_coder_7d493 13 = .ok (.iconst 1, 1) := by decide +kernel
theorem dJ0_coder_7d493_14 : decode cJ0_coder_7d493 14 = .ok (.ireturn, 1) := by decide +kernel
theorem dJ0_isLatin1_aae02_0 : decode cJ0_isLatin1_aae02 0 = .ok (.getstatic 38, 3) := by decide +kernel
theorem dJ0_isLatin1_aae02_3 : decode cJ0_isLatin1_aae02 3 = .ok (.ifCond .eq 14, 3) := by decide +kernel
theorem dJ0_isLatin1_aae02_6 : decode cJ0_isLatin1_aae02 6 = .ok (.aload_n 0, 1) := by decide +kernel
theorem dJ0_isLatin1_aae02_7 : decode cJ0_isLatin1_aae02 7 = .ok (.getfield 15, 3) := by decide +kernel
theorem dJ0_isLatin1_aae02_10 : decode cJ0_isLatin1_aae02 10 = .ok (.ifCond .ne 7, 3) := by decide +kernel
theorem dJ0_isLatin1_aae02_13 : decode cJ0_isLatin1_aae02 13 = .ok (.iconst 1, 1) := by decide +kernel
theorem dJ0_isLatin1_aae02_14 : decode cJ0_isLatin1_aae02 14 = .ok (.goto 4, 3) := by decide +kernel
theorem dJ0_isLatin1_aae02_17 : decode cJ0_isLatin1_aae02 17 = .ok (.iconst 0, 1) := by decide +kernel
theorem dJ0_isLatin1_aae02_18 : decode cJ0_isLatin1_aae02 18 = .ok (.ireturn, 1) := by decide +kernel
theorem dJ0_checkIndex_df160_0 : decode cJ0_checkIndex_df160 0 = .ok (.iload_n 0, 1) := by decide +kernel
theorem dJ0_checkIndex_df160_1 : decode cJ0_checkIndex_df160 1 = .ok (.iload_n 1, 1) := by decide +kernel
theorem dJ0_checkIndex_df160_2 : decode cJ0_checkIndex_df160 2 = .ok (.getstatic 1053, 3) := by decide +kernel
theorem dJ0_checkIndex_df160_5 : decode cJ0_checkIndex_df160 5 = .ok (.invokestatic 1059, 3) := by decide +kernel
theorem dJ0_checkIndex_df160_8 : decode cJ0_checkIndex_df160 8 = .ok (.pop, 1) := by decide +kernel
theorem dJ0_checkIndex_df160_9 : decode cJ0_checkIndex_df160 9 = .ok (.return_, 1) := by decide +kernel
theorem dJ1_charAt_3b067_0 : decode cJ1_charAt_3b067 0 = .ok (.iload_n 1, 1) := by decide +kernel
theorem dJ1_charAt_3b067_1 : decode cJ1_charAt_3b067 1 = .ok (.aload_n 0, 1) := by decide +kernel
theorem dJ1_charAt_3b067_2 : decode cJ1_charAt_3b067 2 = .ok (.arraylength, 1) := by decide +kernel
theorem dJ1_charAt_3b067_3 : decode cJ1_charAt_3b067 3 = .ok (.invokestatic 9, 3) := by decide +kernel
theorem dJ1_charAt_3b067_6 : decode cJ1_charAt_3b067 6 = .ok (.aload_n 0, 1) := by decide +kernel
theorem dJ1_charAt_3b067_7 : decode cJ1_charAt_3b067 7 = .ok (.iload_n 1, 1) := by decide +kernel
theorem dJ1_charAt_3b067_8 : decode cJ1_charAt_3b067 8 = .ok (.baload, 1) := by decide +kernel
theorem dJ1_charAt_3b067_9 : decode cJ1_charAt_3b067 9 = .ok (.sipush 255, 3) := by decide +kernel
theorem dJ1_charAt_3b067_12 : decode cJ1_charAt_3b067 12 = .ok (.iand, 1) := by decide +kernel
theorem dJ1_charAt_3b067_13 : decode cJ1_charAt_3b067 13 = .ok (.i2c, 1) := by decide +kernel
theorem dJ1_charAt_3b067_14 : decode cJ1_charAt_3b067 14 = .ok (.ireturn, 1) := by decide +kernel
theorem dJ2_getChar_3b067_0 : decode cJ2_getChar_3b067 0 = .ok (.getstatic 44, 3) := by decide +kernel
theorem dJ2_getChar_3b067_3 : decode cJ2_getChar_3b067 3 = .ok (.ifCond .ne 25, 3) := by decide +kernel
theorem dJ2_getChar_3b067_6 : decode cJ2_getChar_3b067 6 = .ok (.iload_n 1, 1) := by decide +kernel
theorem dJ2_getChar_3b067_7 : decode cJ2_getChar_3b067 7 = .ok (.ifCond .lt 11, 3) := by decide +kernel
theorem dJ2_getChar_3b067_10 : decode cJ2_getChar_3b067 10 = .ok (.iload_n 1, 1) := by decide +kernel
theorem dJ2_getChar_3b067_11 : decode cJ2_getChar_3b067 11 = .ok (.aload_n 0, 1) := by decide +kernel
theorem dJ2_getChar_3b067_12 : decode cJ2_getChar_3b067 12 = .ok (.invokestatic 48, 3) := by decide +kernel
theorem dJ2_getChar_3b067_15 : decode cJ2_getChar_3b067 15 = .ok (.if_icmp .lt 13, 3) := by decide +kernel
theorem dJ2_getChar_3b067_18 : decode cJ2_getChar_3b067 18 = .ok (.new 52, 3) := by decide +kernel
theorem dJ2_getChar_3b067_21 : decode cJ2_getChar_3b067 21 = .ok (.dup, 1) := by decide +kernel
theorem dJ2_getChar_3b067_22 : decode cJ2_getChar_3b067 22 = .ok (.ldc 54, 2) := by decide +kernel
theorem dJ2_getChar_3b067_24 : decode cJ2_getChar_3b067 24 = .ok (.invokespecial 56, 3) := by decide +kernel
theorem dJ2_getChar_3b067_27 : decode cJ2_getChar_3b067 27 = .ok (.athrow, 1) := by decide +kernel
theorem dJ2_getChar_3b067_28 : decode cJ2_getChar_3b067 28 = .ok (.iload_n 1, 1) := by decide +kernel
theorem dJ2_getChar_3b067_29 : decode cJ2_getChar_3b067 29 = .ok (.iconst 1, 1) := by decide +kernel
theorem dJ2_getChar_3b067_30 : decode cJ2_getChar_3b067 30 = .ok (.ishl, 1) := by decide +kernel
theorem dJ2_getChar_3b067_31 : decode cJ2_getChar_3b067 31 = .ok (.istore_n 1, 1) := by decide +kernel
theorem dJ2_getChar_3b067_32 : decode cJ2_getChar_3b067 32 = .ok (.aload_n 0, 1) := by decide +kernel
theorem dJ2_getChar_3b067_33 : decode cJ2_getChar_3b067 33 = .ok (.iload_n 1, 1) := by decide +kernel
theorem dJ2_getChar_3b067_34 : decode cJ2_getChar_3b067 34 = .ok (.iinc 1 1, 3) := by decide +kernel
theorem dJ2_getChar_3b067_37 : decode cJ2_getChar_3b067 37 = .ok (.baload, 1) := by decide +kernel
theorem dJ2_getChar_3b067_38 : decode cJ2_getChar_3b067 38 = .ok (.sipush 255, 3) := by decide +kernel
theorem dJ2_getChar_3b067_41 : decode cJ2_getChar_3b067 41 = .ok (.iand, 1) := by decide +kernel
theorem dJ2_getChar_3b067_42 : decode cJ2_getChar_3b067 42 = .ok (.getstatic 59, 3) := by decide +kernel
theorem dJ2_getChar_3b067_45 : decode cJ2_getChar_3b067 45 = .ok (.ishl, 1) := by decide +kernel
theorem dJ2_getChar_3b067_46 : decode cJ2_getChar_3b067 46 = .ok (.aload_n 0, 1) := by decide +kernel
theorem dJ2_getChar_3b067_47 : decode cJ2_getChar_3b067 47 = .ok (.iload_n 1, 1) := by decide +kernel
theorem dJ2_getChar_3b067_48 : decode cJ2_getChar_3b067 48 = .ok (.baload, 1) := by decide +kernel
theorem dJ2_getChar_3b067_49 : decode cJ2_getChar_3b067 49 = .ok (.sipush 255, 3) := by decide +kernel
theorem dJ2_getChar_3b067_52 : decode cJ2_getChar_3b067 52 = .ok (.iand, 1) := by decide +kernel
theorem dJ2_getChar_3b067_53 : decode cJ2_getChar_3b067 53 = .ok (.getstatic 63, 3) := by decide +kernel
theorem dJ2_getChar_3b067_56 : decode cJ2_getChar_3b067 56 = .ok (.ishl, 1) := by decide +kernel
theorem dJ2_getChar_3b067_57 : decode cJ2_getChar_3b067 57 = .ok (.ior, 1) := by decide +kernel
theorem dJ2_getChar_3b067_58 : decode cJ2_getChar_3b067 58 = .ok (.i2c, 1) := by decide +kernel
theorem dJ2_getChar_3b067_59 : decode cJ2_getChar_3b067 59 = .ok (.ireturn, 1) := by decide +kernel
theorem dJ2_length_9d52b_0 : decode cJ2_length_9d52b 0 = .ok (.aload_n 0, 1) := by decide +kernel
theorem dJ2_length_9d52b_1 : decode cJ2_length_9d52b 1 = .ok (.arraylength, 1) := by decide +kernel
theorem dJ2_length_9d52b_2 : decode cJ2_length_9d52b 2 = .ok (.iconst 1, 1) := by decide +kernel
theorem dJ2_length_9d52b_3 : decode cJ2_length_9d52b 3 = .ok (.ishr, 1) := by decide +kernel
theorem dJ2_length_9d52b_4 : decode cJ2_length_9d52b 4 = .ok (.ireturn, 1) := by decide +kernel
theorem dJ2_charAt_3b067_0 : decode cJ2_charAt_3b067 0 = .ok (.iload_n 1, 1) := by decide +kernel
theorem dJ2_charAt_3b067_1 : decode cJ2_charAt_3b067 1 = .ok (.aload_n 0, 1) := by decide +kernel
theorem dJ2_charAt_3b067_2 : decode cJ2_charAt_3b067 2 = .ok (.invokestatic 67, 3) := by decide +kernel
theorem dJ2_charAt_3b067_5 : decode cJ2_charAt_3b067 5 = .ok (.aload_n 0, 1) := by decide +kernel
theorem dJ2_charAt_3b067_6 : decode cJ2_charAt_3b067 6 = .ok (.iload_n 1, 1) := by decide +kernel
theorem dJ2_charAt_3b067_7 : decode cJ2_charAt_3b067 7 = .ok (.invokestatic 71, 3) := by decide +kernel
theorem dJ2_charAt_3b067_10 : decode cJ2_charAt_3b067 10 = .ok (.ireturn, 1) := by decide +kernel
theorem dJ2_checkIndex_2214a_0 : decode cJ2_checkIndex_2214a 0 = .ok (.iload_n 0, 1) := by decide +kernel
theorem dJ2_checkIndex_2214a_1 : decode cJ2_checkIndex_2214a 1 = .ok (.aload_n 1, 1) := by decide +kernel
theorem dJ2_checkIndex_2214a_2 : decode cJ2_checkIndex_2214a 2 = .ok (.invokestatic 48, 3) := by decide +kernel
theorem dJ2_checkIndex_2214a_5 : decode cJ2_checkIndex_2214a 5 = .ok (.invokestatic 414, 3) := by decide +kernel
theorem dJ2_checkIndex_2214a_8 : decode cJ2_checkIndex_2214a 8 = .ok (.return_, 1) := by decide +kernel
theorem dJ3_checkIndex_8e157_0 : decode cJ3_checkIndex_8e157 0 = .ok (.iload_n 0, 1) := by decide +kernel
theorem dJ3_checkIndex_8e157_1 : decode cJ3_checkIndex_8e157 1 = .ok (.ifCond .lt 8, 3) := by decide +kernel
theorem dJ3_checkIndex_8e157_4 : decode cJ3_checkIndex_8e157 4 = .ok (.iload_n 0, 1) := by decide +kernel
theorem dJ3_checkIndex_8e157_5 : decode cJ3_checkIndex_8e157 5 = .ok (.iload_n 1, 1) := by decide +kernel
theorem dJ3_checkIndex_8e157_6 : decode cJ3_checkIndex_8e157 6 = .ok (.if_icmp .lt 10, 3) := by decide +kernel
theorem dJ3_checkIndex_8e157_9 : decode cJ3_checkIndex_8e157 9 = .ok (.aload_n 2, 1) := by decide +kernel
theorem dJ3_checkIndex_8e157_10 : decode cJ3_checkIndex_8e157 10 = .ok (.iload_n 0, 1) := by decide +kernel
theorem dJ3_checkIndex_8e157_11 : decode cJ3_checkIndex_8e157 11 = .ok (.iload_n 1, 1) := by decide +kernel
theorem dJ3_checkIndex_8e157_12 : decode cJ3_checkIndex_8e157 12 = .ok (.invokestatic 95, 3) := by decide +kernel
theorem dJ3_checkIndex_8e157_15 : decode cJ3_checkIndex_8e157 15 = .ok (.athrow, 1) := by decide +kernel
theorem dJ3_checkIndex_8e157_16 : decode cJ3_checkIndex_8e157 16 = .ok (.iload_n 0, 1) := by decide +kernel
theorem dJ3_checkIndex_8e157_17 : decode cJ3_checkIndex_8e157 17 = .ok (.ireturn, 1) := by decide +kernel
end
section
theorem dX8_init_0 : decode cX8_init 0 = .ok (.aload_n 0, 1) := by decide +kernel
theorem dX8_init_1 : decode cX8_init 1 = .ok (.invokespecial 1, 3) := by decide +kernel
theorem dX8_init_4 : decode cX8_init 4 = .ok (.aload_n 0, 1) := by decide +kernel
theorem dX8_init_5 : decode cX8_init 5 = .ok (.bipush 8, 2) := by decide +kernel
theorem dX8_init_7 : decode cX8_init 7 = .ok (.newarray .int, 2) := by decide +kernel
theorem dX8_init_9 : decode cX8_init 9 = .ok (.putfield 7, 3) := by decide +kernel
theorem dX8_init_12 : decode cX8_init 12 = .ok (.aload_n 0, 1) := by decide +kernel
theorem dX8_init_13 : decode cX8_init 13 = .ok (.bipush 7, 2) := by decide +kernel
theorem dX8_init_15 : decode cX8_init 15 = .ok (.newarray .int, 2) := by decide +kernel
theorem dX8_init_17 : decode cX8_init 17 = .ok (.putfield 13, 3) := by decide +kernel
theorem dX8_init_20 : decode cX8_init 20 = .ok (.aload_n 0, 1) := by decide +kernel
theorem dX8_init_21 : decode cX8_init 21 = .ok (.bipush 10, 2) := by decide +kernel
theorem dX8_init_23 : decode cX8_init 23 = .ok (.newarray .int, 2) := by decide +kernel
theorem dX8_init_25 : decode cX8_init 25 = .ok (.putfield 16, 3) := by decide +kernel
theorem dX8_init_28 : decode cX8_init 28 = .ok (.aload_n 0, 1) := by decide +kernel
theorem dX8_init_29 : decode cX8_init 29 = .ok (.bipush 10, 2) := by decide +kernel
theorem dX8_init_31 : decode cX8_init 31 = .ok (.newarray .int, 2) := by decide +kernel
theorem dX8_init_33 : decode cX8_init 33 = .ok (.putfield 19, 3) := by decide +kernel
theorem dX8_init_36 : decode cX8_init 36 = .ok (.aload_n 0, 1) := by decide +kernel
theorem dX8_init_37 : decode cX8_init 37 = .ok (.bipush 10, 2) := by decide +kernel
theorem dX8_init_39 : decode cX8_init 39 = .ok (.newarray .int, 2) := by decide +kernel
theorem dX8_init_41 : decode cX8_init 41 = .ok (.putfield 22, 3) := by decide +kernel
theorem dX8_init_44 : decode cX8_init 44 = .ok (.aload_n 0, 1) := by decide +kernel
theorem dX8_init_45 : decode cX8_init 45 = .ok (.iconst 5, 1) := by decide +kernel
theorem dX8_init_46 : decode cX8_init 46 = .ok (.newarray .int, 2) := by decide +kernel
theorem dX8_init_48 : decode cX8_init 48 = .ok (.putfield 25, 3) := by decide +kernel
theorem dX8_init_51 : decode cX8_init 51 = .ok (.aload_n 0, 1) := by decide +kernel
theorem dX8_init_52 : decode cX8_init 52 = .ok (.bipush 7, 2) := by decide +kernel
theorem dX8_init_54 : decode cX8_init 54 = .ok (.newarray .int, 2) := by decide +kernel
theorem dX8_init_56 : decode cX8_init 56 = .ok (.putfield 28, 3) := by decide +kernel
theorem dX8_init_59 : decode cX8_init 59 = .ok (.aload_n 0, 1) := by decide +kernel
theorem dX8_init_60 : decode cX8_init 60 = .ok (.bipush 84, 2) := by decide +kernel
theorem dX8_init_62 : decode cX8_init 62 = .ok (.newarray .int, 2) := by decide +kernel
theorem dX8_init_64 : decode cX8_init 64 = .ok (.putfield 31, 3) := by decide +kernel
theorem dX8_init_67 : decode cX8_init 67 = .ok (.aload_n 0, 1) := by decide +kernel
theorem dX8_init_68 : decode cX8_init 68 = .ok (.bipush 7, 2) := by decide +kernel
theorem dX8_init_70 : decode cX8_init 70 = .ok (.newarray .int, 2) := by decide +kernel
theorem dX8_init_72 : decode cX8_init 72 = .ok (.putfield 34, 3) := by decide +kernel
theorem dX8_init_75 : decode cX8_init 75 = .ok (.aload_n 0, 1) := by decide +kernel
theorem dX8_init_76 : decode cX8_init 76 = .ok (.bipush 84, 2) := by decide +kernel
theorem dX8_init_78 : decode cX8_init 78 = .ok (.newarray .int, 2) := by decide +kernel
theorem dX8_init_80 : decode cX8_init 80 = .ok (.putfield 37, 3) := by decide +kernel
theorem dX8_init_83 : decode cX8_init 83 = .ok (.aload_n 0, 1) := by decide +kernel
theorem dX8_init_84 : decode cX8_init 84 = .ok (.sipush 600, 3) := by decide +kernel
theorem dX8_init_87 : decode cX8_init 87 = .ok (.newarray .int, 2) := by decide +kernel
theorem dX8_init_89 : decode cX8_init 89 = .ok (.putfield 40, 3) := by decide +kernel
theorem dX8_init_92 : decode cX8_init 92 = .ok (.aload_n 0, 1) := by decide +kernel
theorem dX8_init_93 : decode cX8_init 93 = .ok (.iconst (-1), 1) := by decide +kernel
theorem dX8_init_94 : decode cX8_init 94 = .ok (.putfield 43, 3) := by decide +kernel
theorem dX8_init_97 : decode cX8_init 97 = .ok (.aload_n 0, 1) := by decide +kernel
theorem dX8_init_98 : decode cX8_init 98 = .ok (.bipush 70, 2) := by decide +kernel
theorem dX8_init_100 : decode cX8_init 100 = .ok (.newarray .int, 2) := by decide +kernel
theorem dX8_init_102 : decode cX8_init 102 = .ok (.putfield 47, 3) := by decide +kernel
theorem dX8_init_105 : decode cX8_init 105 = .ok (.aload_n 0, 1) := by decide +kernel
theorem dX8_init_106 : decode cX8_init 106 = .ok (.bipush 70, 2) := by decide +kernel
theorem dX8_init_108 : decode cX8_init 108 = .ok (.newarray .int, 2) := by decide +kernel
theorem dX8_init_110 : decode cX8_init 110 = .ok (.putfield 50, 3) := by decide +kernel
theorem dX8_init_113 : decode cX8_init 113 = .ok (.aload_n 0, 1) := by decide +kernel
theorem dX8_init_114 : decode cX8_init 114 = .ok (.bipush 70, 2) := by decide +kernel
theorem dX8_init_116 : decode cX8_init 116 = .ok (.newarray .int, 2) := by decide +kernel
theorem dX8_init_118 : decode cX8_init 118 = .ok (.putfield 53, 3) := by decide +kernel
theorem dX8_init_121 : decode cX8_init 121 = .ok (.aload_n 0, 1) := by decide +kernel
theorem dX8_init_122 : decode cX8_init 122 = .ok (.bipush 70, 2) := by decide +kernel
theorem dX8_init_124 : decode cX8_init 124 = .ok (.newarray .int, 2) := by decide +kernel
theorem dX8_init_126 : decode cX8_init 126 = .ok (.putfield 56, 3) := by decide +kernel
theorem dX8_init_129 : decode cX8_init 129 = .ok (.aload_n 0, 1) := by decide +kernel
theorem dX8_init_130 : decode cX8_init 130 = .ok (.bipush 7, 2) := by decide +kernel
theorem dX8_init_132 : decode cX8_init 132 = .ok (.newarray .int, 2) := by decide +kernel
theorem dX8_init_134 : decode cX8_init 134 = .ok (.putfield 59, 3) := by decide +kernel
theorem dX8_init_137 : decode cX8_init 137 = .ok (.aload_n 0, 1) := by decide +kernel
theorem dX8_init_138 : decode cX8_init 138 = .ok (.bipush 8, 2) := by decide +kernel
theorem dX8_init_140 : decode cX8_init 140 = .ok (.newarray .int, 2) := by decide +kernel
theorem dX8_init_142 : decode cX8_init 142 = .ok (.putfield 62, 3) := by decide +kernel
theorem dX8_init_145 : decode cX8_init 145 = .ok (.aload_n 0, 1) := by decide +kernel
theorem dX8_init_146 : decode cX8_init 146 = .ok (.bipush 8, 2) := by decide +kernel
theorem dX8_init_148 : decode cX8_init 148 = .ok (.newarray .int, 2) := by decide +kernel
theorem dX8_init_150 : decode cX8_init 150 = .ok (.putfield 65, 3) := by decide +kernel
theorem dX8_init_153 : decode cX8_init 153 = .ok (.aload_n 0, 1) := by decide +kernel
theorem dX8_init_154 : decode cX8_init 154 = .ok (.bipush 8, 2) := by decide +kernel
theorem dX8_init_156 : decode cX8_init 156 = .ok (.newarray .int, 2) := by decide +kernel
theorem dX8_init_158 : decode cX8_init 158 = .ok (.putfield 68, 3) := by decide +kernel
theorem dX8_init_161 : decode cX8_init 161 = .ok (.iconst 1, 1) := by decide +kernel
theorem dX8_init_162 : decode cX8_init 162 = .ok (.istore_n 1, 1) := by decide +kernel
theorem dX8_init_163 : decode cX8_init 163 = .ok (.iload_n 1, 1) := by decide +kernel
theorem dX8_init_164 : decode cX8_init 164 = .ok (.bipush 8, 2) := by decide +kernel
theorem dX8_init_166 : decode cX8_init 166 = .ok (.if_icmp .ge 17, 3) := by decide +kernel
theorem dX8_init_169 : decode cX8_init 169 = .ok (.aload_n 0, 1) := by decide +kernel
theorem dX8_init_170 : decode cX8_init 170 = .ok (.getfield 7, 3) := by decide +kernel
theorem dX8_init_173 : decode cX8_init 173 = .ok (.iload_n 1, 1) := by decide +kernel
theorem dX8_init_174 : decode cX8_init 174 = .ok (.bipush 100, 2) := by decide +kernel
theorem dX8_init_176 : decode cX8_init 176 = .ok (.iastore, 1) := by decide +kernel
theorem dX8_init_177 : decode cX8_init 177 = .ok (.iinc 1 1, 3) := by decide +kernel
theorem dX8_init_180 : decode cX8_init 180 = .ok (.goto (-17), 3) := by decide +kernel
theorem dX8_init_183 : decode cX8_init 183 = .ok (.iconst 0, 1) := by decide +kernel
theorem dX8_init_184 : decode cX8_init 184 = .ok (.istore_n 1, 1) := by decide +kernel
theorem dX8_init_185 : decode cX8_init 185 = .ok (.iload_n 1, 1) := by decide +kernel
theorem dX8_init_186 : decode cX8_init 186 = .ok (.bipush 7, 2) := by decide +kernel
theorem dX8_init_188 : decode cX8_init 188 = .ok (.if_icmp .ge 17, 3) := by decide +kernel
theorem dX8_init_191 : decode cX8_init 191 = .ok (.aload_n 0, 1) := by decide +kernel
theorem dX8_init_192 : decode cX8_init 192 = .ok (.getfield 13, 3) := by decide +kernel
theorem dX8_init_195 : decode cX8_init 195 = .ok (.iload_n 1, 1) := by decide +kernel
theorem dX8_init_196 : decode cX8_init 196 = .ok (.bipush 6, 2) := by decide +kernel
theorem dX8_init_198 : decode cX8_init 198 = .ok (.iastore, 1) := by decide +kernel
theorem dX8_init_199 : decode cX8_init 199 = .ok (.iinc 1 1, 3) := by decide +kernel
theorem dX8_init_202 : decode cX8_init 202 = .ok (.goto (-17), 3) := by decide +kernel
theorem dX8_init_205 : decode cX8_init 205 = .ok (.aload_n 0, 1) := by decide +kernel
theorem dX8_init_206 : decode cX8_init 206 = .ok (.getfield 25, 3) := by decide +kernel
theorem dX8_init_209 : decode cX8_init 209 = .ok (.iconst 0, 1) := by decide +kernel
theorem dX8_init_210 : decode cX8_init 210 = .ok (.bipush 60, 2) := by decide +kernel
theorem dX8_init_212 : decode cX8_init 212 = .ok (.iastore, 1) := by decide +kernel
theorem dX8_init_213 : decode cX8_init 213 = .ok (.aload_n 0, 1) := by decide +kernel
theorem dX8_init_214 : decode cX8_init 214 = .ok (.getfield 25, 3) := by decide +kernel
theorem dX8_init_217 : decode cX8_init 217 = .ok (.iconst 1, 1) := by decide +kernel
theorem dX8_init_218 : decode cX8_init 218 = .ok (.bipush 120, 2) := by decide +kernel
theorem dX8_init_220 : decode cX8_init 220 = .ok (.iastore, 1) := by decide +kernel
theorem dX8_init_221 : decode cX8_init 221 = .ok (.aload_n 0, 1) := by decide +kernel
theorem dX8_init_222 : decode cX8_init 222 = .ok (.getfield 25, 3) := by decide +kernel
theorem dX8_init_225 : decode cX8_init 225 = .ok (.iconst 2, 1) := by decide +kernel
theorem dX8_init_226 : decode cX8_init 226 = .ok (.bipush 60, 2) := by decide +kernel
theorem dX8_init_228 : decode cX8_init 228 = .ok (.iastore, 1) := by decide +kernel
theorem dX8_init_229 : decode cX8_init 229 = .ok (.aload_n 0, 1) := by decide +kernel
theorem dX8_init_230 : decode cX8_init 230 = .ok (.getfield 25, 3) := by decide +kernel
theorem dX8_init_233 : decode cX8_init 233 = .ok (.iconst 3, 1) := by decide +kernel
theorem dX8_init_234 : decode cX8_init 234 = .ok (.bipush 100, 2) := by decide +kernel
theorem dX8_init_236 : decode cX8_init 236 = .ok (.iastore, 1) := by decide +kernel
theorem dX8_init_237 : decode cX8_init 237 = .ok (.aload_n 0, 1) := by decide +kernel
theorem dX8_init_238 : decode cX8_init 238 = .ok (.getfield 25, 3) := by decide +kernel
theorem dX8_init_241 : decode cX8_init 241 = .ok (.iconst 4, 1) := by decide +kernel
theorem dX8_init_242 : decode cX8_init 242 = .ok (.bipush 10, 2) := by decide +kernel
theorem dX8_init_244 : decode cX8_init 244 = .ok (.iastore, 1) := by decide +kernel
theorem dX8_init_245 : decode cX8_init 245 = .ok (.return_, 1) := by decide +kernel
theorem dX8_isIn_0 : decode cX8_isIn 0 = .ok (.iload_n 0, 1) := by decide +kernel
theorem dX8_isIn_1 : decode cX8_isIn 1 = .ok (.iload_n 1, 1) := by decide +kernel
theorem dX8_isIn_2 : decode cX8_isIn 2 = .ok (.if_icmp .lt 12, 3) := by decide +kernel
theorem dX8_isIn_5 : decode cX8_isIn 5 = .ok (.iload_n 0, 1) := by decide +kernel
theorem dX8_isIn_6 : decode cX8_isIn 6 = .ok (.iload_n 2, 1) := by decide +kernel
theorem dX8_isIn_7 : decode cX8_isIn 7 = .ok (.if_icmp .gt 7, 3) := by decide +kernel
theorem dX8_isIn_10 : decode cX8_isIn 10 = .ok (.iconst 1, 1) := by decide +kernel
theorem dX8_isIn_11 : decode cX8_isIn 11 = .ok (.goto 4, 3) := by decide +kernel
theorem dX8_isIn_14 : decode cX8_isIn 14 = .ok (.iconst 0, 1) := by decide +kernel
theorem dX8_isIn_15 : decode cX8_isIn 15 = .ok (.ireturn, 1) := by decide +kernel
theorem dX8_isStage_0 : decode cX8_isStage 0 = .ok (.iload_n 0, 1) := by decide +kernel
theorem dX8_isStage_1 : decode cX8_isStage 1 = .ok (.iconst 0, 1) := by decide +kernel
theorem dX8_isStage_2 : decode cX8_isStage 2 = .ok (.bipush 6, 2) := by decide +kernel
theorem dX8_isStage_4 : decode cX8_isStage 4 = .ok (.invokestatic 71, 3) := by decide +kernel
theorem dX8_isStage_7 : decode cX8_isStage 7 = .ok (.ireturn, 1) := by decide +kernel
theorem dX8_isCamp_0 : decode cX8_isCamp 0 = .ok (.iload_n 0, 1) := by decide +kernel
theorem dX8_isCamp_1 : decode cX8_isCamp 1 = .ok (.iconst 1, 1) := by decide +kernel
theorem dX8_isCamp_2 : decode cX8_isCamp 2 = .ok (.bipush 7, 2) := by decide +kernel
theorem dX8_isCamp_4 : decode cX8_isCamp 4 = .ok (.invokestatic 71, 3) := by decide +kernel
theorem dX8_isCamp_7 : decode cX8_isCamp 7 = .ok (.ireturn, 1) := by decide +kernel
theorem dX8_isRacer_0 : decode cX8_isRacer 0 = .ok (.iload_n 1, 1) := by decide +kernel
theorem dX8_isRacer_1 : decode cX8_isRacer 1 = .ok (.iconst 0, 1) := by decide +kernel
theorem dX8_isRacer_2 : decode cX8_isRacer 2 = .ok (.aload_n 0, 1) := by decide +kernel
theorem dX8_isRacer_3 : decode cX8_isRacer 3 = .ok (.getfield 75, 3) := by decide +kernel
theorem dX8_isRacer_6 : decode cX8_isRacer 6 = .ok (.iconst 1, 1) := by decide +kernel
theorem dX8_isRacer_7 : decode cX8_isRacer 7 = .ok (.isub, 1) := by decide +kernel
theorem dX8_isRacer_8 : decode cX8_isRacer 8 = .ok (.invokestatic 71, 3) := by decide +kernel
theorem dX8_isRacer_11 : decode cX8_isRacer 11 = .ok (.ireturn, 1) := by decide +kernel
theorem dX8_length_0 : decode cX8_length 0 = .ok (.aload_n 0, 1) := by decide +kernel
theorem dX8_length_1 : decode cX8_length 1 = .ok (.getfield 7, 3) := by decide +kernel
theorem dX8_length_4 : decode cX8_length 4 = .ok (.iload_n 1, 1) := by decide +kernel
theorem dX8_length_5 : decode cX8_length 5 = .ok (.iconst 1, 1) := by decide +kernel
theorem dX8_length_6 : decode cX8_length 6 = .ok (.iadd, 1) := by decide +kernel
theorem dX8_length_7 : decode cX8_length 7 = .ok (.iaload, 1) := by decide +kernel
theorem dX8_length_8 : decode cX8_length 8 = .ok (.ireturn, 1) := by decide +kernel
theorem dX8_camp_0 : decode cX8_camp 0 = .ok (.iload_n 1, 1) := by decide +kernel
theorem dX8_camp_1 : decode cX8_camp 1 = .ok (.invokestatic 78, 3) := by decide +kernel
theorem dX8_camp_4 : decode cX8_camp 4 = .ok (.ifCond .eq 14, 3) := by decide +kernel
theorem dX8_camp_7 : decode cX8_camp 7 = .ok (.iload_n 2, 1) := by decide +kernel
theorem dX8_camp_8 : decode cX8_camp 8 = .ok (.iconst 1, 1) := by decide +kernel
theorem dX8_camp_9 : decode cX8_camp 9 = .ok (.sipush 900, 3) := by decide +kernel
theorem dX8_camp_12 : decode cX8_camp 12 = .ok (.invokestatic 71, 3) := by decide +kernel
theorem dX8_camp_15 : decode cX8_camp 15 = .ok (.ifCond .ne 5, 3) := by decide +kernel
theorem dX8_camp_18 : decode cX8_camp 18 = .ok (.iconst 0, 1) := by decide +kernel
theorem dX8_camp_19 : decode cX8_camp 19 = .ok (.ireturn, 1) := by decide +kernel
theorem dX8_camp_20 : decode cX8_camp 20 = .ok (.aload_n 0, 1) := by decide +kernel
theorem dX8_camp_21 : decode cX8_camp 21 = .ok (.getfield 7, 3) := by decide +kernel
theorem dX8_camp_24 : decode cX8_camp 24 = .ok (.iload_n 1, 1) := by decide +kernel
theorem dX8_camp_25 : decode cX8_camp 25 = .ok (.iload_n 2, 1) := by decide +kernel
theorem dX8_camp_26 : decode cX8_camp 26 = .ok (.iastore, 1) := by decide +kernel
theorem dX8_camp_27 : decode cX8_camp 27 = .ok (.iconst 0, 1) := by decide +kernel
theorem dX8_camp_28 : decode cX8_camp 28 = .ok (.istore_n 3, 1) := by decide +kernel
theorem dX8_camp_29 : decode cX8_camp 29 = .ok (.iload_n 3, 1) := by decide +kernel
theorem dX8_camp_30 : decode cX8_camp 30 = .ok (.aload_n 0, 1) := by decide +kernel
theorem dX8_camp_31 : decode cX8_camp 31 = .ok (.getfield 75, 3) := by decide +kernel
theorem dX8_camp_34 : decode cX8_camp 34 = .ok (.if_icmp .ge 38, 3) := by decide +kernel
theorem dX8_camp_37 : decode cX8_camp 37 = .ok (.aload_n 0, 1) := by decide +kernel
theorem dX8_camp_38 : decode cX8_camp 38 = .ok (.getfield 19, 3) := by decide +kernel
theorem dX8_camp_41 : decode cX8_camp 41 = .ok (.iload_n 3, 1) := by decide +kernel
theorem dX8_camp_42 : decode cX8_camp 42 = .ok (.iaload, 1) := by decide +kernel
theorem dX8_camp_43 : decode cX8_camp 43 = .ok (.iload_n 1, 1) := by decide +kernel
theorem dX8_camp_44 : decode cX8_camp 44 = .ok (.iconst 1, 1) := by decide +kernel
theorem dX8_camp_45 : decode cX8_camp 45 = .ok (.isub, 1) := by decide +kernel
theorem dX8_camp_46 : decode cX8_camp 46 = .ok (.if_icmp .ne 20, 3) := by decide +kernel
theorem dX8_camp_49 : decode cX8_camp 49 = .ok (.aload_n 0, 1) := by decide +kernel
theorem dX8_camp_50 : decode cX8_camp 50 = .ok (.getfield 22, 3) := by decide +kernel
theorem dX8_camp_53 : decode cX8_camp 53 = .ok (.iload_n 3, 1) := by decide +kernel
theorem dX8_camp_54 : decode cX8_camp 54 = .ok (.iaload, 1) := by decide +kernel
theorem dX8_camp_55 : decode cX8_camp 55 = .ok (.iload_n 2, 1) := by decide +kernel
theorem dX8_camp_56 : decode cX8_camp 56 = .ok (.if_icmp .lt 10, 3) := by decide +kernel
theorem dX8_camp_59 : decode cX8_camp 59 = .ok (.aload_n 0, 1) := by decide +kernel
theorem dX8_camp_60 : decode cX8_camp 60 = .ok (.getfield 19, 3) := by decide +kernel
theorem dX8_camp_63 : decode cX8_camp 63 = .ok (.iload_n 3, 1) := by decide +kernel
theorem dX8_camp_64 : decode cX8_camp 64 = .ok (.iconst (-1), 1) := by decide +kernel
theorem dX8_camp_65 : decode cX8_camp 65 = .ok (.iastore, 1) := by decide +kernel
theorem dX8_camp_66 : decode cX8_camp 66 = .ok (.iinc 3 1, 3) := by decide +kernel
theorem dX8_camp_69 : decode cX8_camp 69 = .ok (.goto (-40), 3) := by decide +kernel
theorem dX8_camp_72 : decode cX8_camp 72 = .ok (.iconst 1, 1) := by decide +kernel
theorem dX8_camp_73 : decode cX8_camp 73 = .ok (.ireturn, 1) := by decide +kernel
theorem dX8_hour_0 : decode cX8_hour 0 = .ok (.iload_n 1, 1) := by decide +kernel
theorem dX8_hour_1 : decode cX8_hour 1 = .ok (.invokestatic 82, 3) := by decide +kernel
theorem dX8_hour_4 : decode cX8_hour 4 = .ok (.ifCond .eq 13, 3) := by decide +kernel
theorem dX8_hour_7 : decode cX8_hour 7 = .ok (.iload_n 2, 1) := by decide +kernel
theorem dX8_hour_8 : decode cX8_hour 8 = .ok (.iconst 0, 1) := by decide +kernel
theorem dX8_hour_9 : decode cX8_hour 9 = .ok (.bipush 23, 2) := by decide +kernel
theorem dX8_hour_11 : decode cX8_hour 11 = .ok (.invokestatic 71, 3) := by decide +kernel
theorem dX8_hour_14 : decode cX8_hour 14 = .ok (.ifCond .ne 5, 3) := by decide +kernel
theorem dX8_hour_17 : decode cX8_hour 17 = .ok (.iconst 0, 1) := by decide +kernel
theorem dX8_hour_18 : decode cX8_hour 18 = .ok (.ireturn, 1) := by decide +kernel
theorem dX8_hour_19 : decode cX8_hour 19 = .ok (.aload_n 0, 1) := by decide +kernel
theorem dX8_hour_20 : decode cX8_hour 20 = .ok (.getfield 13, 3) := by decide +kernel
theorem dX8_hour_23 : decode cX8_hour 23 = .ok (.iload_n 1, 1) := by decide +kernel
theorem dX8_hour_24 : decode cX8_hour 24 = .ok (.iload_n 2, 1) := by decide +kernel
theorem dX8_hour_25 : decode cX8_hour 25 = .ok (.iastore, 1) := by decide +kernel
theorem dX8_hour_26 : decode cX8_hour 26 = .ok (.iconst 1, 1) := by decide +kernel
theorem dX8_hour_27 : decode cX8_hour 27 = .ok (.ireturn, 1) := by decide +kernel
theorem dX8_racer_0 : decode cX8_racer 0 = .ok (.iload_n 1, 1) := by decide +kernel
theorem dX8_racer_1 : decode cX8_racer 1 = .ok (.bipush 10, 2) := by decide +kernel
theorem dX8_racer_3 : decode cX8_racer 3 = .ok (.bipush 120, 2) := by decide +kernel
theorem dX8_racer_5 : decode cX8_racer 5 = .ok (.invokestatic 71, 3) := by decide +kernel
theorem dX8_racer_8 : decode cX8_racer 8 = .ok (.ifCond .eq 12, 3) := by decide +kernel
theorem dX8_racer_11 : decode cX8_racer 11 = .ok (.aload_n 0, 1) := by decide +kernel
theorem dX8_racer_12 : decode cX8_racer 12 = .ok (.getfield 75, 3) := by decide +kernel
theorem dX8_racer_15 : decode cX8_racer 15 = .ok (.bipush 10, 2) := by decide +kernel
theorem dX8_racer_17 : decode cX8_racer 17 = .ok (.if_icmp .ne 5, 3) := by decide +kernel
theorem dX8_racer_20 : decode cX8_racer 20 = .ok (.iconst (-1), 1) := by decide +kernel
theorem dX8_racer_21 : decode cX8_racer 21 = .ok (.ireturn, 1) := by decide +kernel
theorem dX8_racer_22 : decode cX8_racer 22 = .ok (.aload_n 0, 1) := by decide +kernel
theorem dX8_racer_23 : decode cX8_racer 23 = .ok (.getfield 16, 3) := by decide +kernel
theorem dX8_racer_26 : decode cX8_racer 26 = .ok (.aload_n 0, 1) := by decide +kernel
theorem dX8_racer_27 : decode cX8_racer 27 = .ok (.getfield 75, 3) := by decide +kernel
theorem dX8_racer_30 : decode cX8_racer 30 = .ok (.iload_n 1, 1) := by decide +kernel
theorem dX8_racer_31 : decode cX8_racer 31 = .ok (.iastore, 1) := by decide +kernel
theorem dX8_racer_32 : decode cX8_racer 32 = .ok (.aload_n 0, 1) := by decide +kernel
theorem dX8_racer_33 : decode cX8_racer 33 = .ok (.getfield 19, 3) := by decide +kernel
theorem dX8_racer_36 : decode cX8_racer 36 = .ok (.aload_n 0, 1) := by decide +kernel
theorem dX8_racer_37 : decode cX8_racer 37 = .ok (.getfield 75, 3) := by decide +kernel
theorem dX8_racer_40 : decode cX8_racer 40 = .ok (.iconst (-1), 1) := by decide +kernel
theorem dX8_racer_41 : decode cX8_racer 41 = .ok (.iastore, 1) := by decide +kernel
theorem dX8_racer_42 : decode cX8_racer 42 = .ok (.aload_n 0, 1) := by decide +kernel
theorem dX8_racer_43 : decode cX8_racer 43 = .ok (.dup, 1) := by decide +kernel
theorem dX8_racer_44 : decode cX8_racer 44 = .ok (.getfield 75, 3) := by decide +kernel
theorem dX8_racer_47 : decode cX8_racer 47 = .ok (.iconst 1, 1) := by decide +kernel
theorem dX8_racer_48 : decode cX8_racer 48 = .ok (.iadd, 1) := by decide +kernel
theorem dX8_racer_49 : decode cX8_racer 49 = .ok (.putfield 75, 3) := by decide +kernel
theorem dX8_racer_52 : decode cX8_racer 52 = .ok (.aload_n 0, 1) := by decide +kernel
theorem dX8_racer_53 : decode cX8_racer 53 = .ok (.getfield 75, 3) := by decide +kernel
theorem dX8_racer_56 : decode cX8_racer 56 = .ok (.iconst 1, 1) := by decide +kernel
theorem dX8_racer_57 : decode cX8_racer 57 = .ok (.isub, 1) := by decide +kernel
theorem dX8_racer_58 : decode cX8_racer 58 = .ok (.ireturn, 1) := by decide +kernel
theorem dX8_breaks_0 : decode cX8_breaks 0 = .ok (.aload_n 0, 1) := by decide +kernel
theorem dX8_breaks_1 : decode cX8_breaks 1 = .ok (.iload_n 1, 1) := by decide +kernel
theorem dX8_breaks_2 : decode cX8_breaks 2 = .ok (.invokevirtual 85, 3) := by decide +kernel
theorem dX8_breaks_5 : decode cX8_breaks 5 = .ok (.ifCond .eq 30, 3) := by decide +kernel
theorem dX8_breaks_8 : decode cX8_breaks 8 = .ok (.iload_n 2, 1) := by decide +kernel
theorem dX8_breaks_9 : decode cX8_breaks 9 = .ok (.iconst (-1), 1) := by decide +kernel
theorem dX8_breaks_10 : decode cX8_breaks 10 = .ok (.if_icmp .eq 27, 3) := by decide +kernel
theorem dX8_breaks_13 : decode cX8_breaks 13 = .ok (.iload_n 2, 1) := by decide +kernel
theorem dX8_breaks_14 : decode cX8_breaks 14 = .ok (.invokestatic 82, 3) := by decide +kernel
theorem dX8_breaks_17 : decode cX8_breaks 17 = .ok (.ifCond .eq 18, 3) := by decide +kernel
theorem dX8_breaks_20 : decode cX8_breaks 20 = .ok (.iload_n 3, 1) := by decide +kernel
theorem dX8_breaks_21 : decode cX8_breaks 21 = .ok (.iconst 0, 1) := by decide +kernel
theorem dX8_breaks_22 : decode cX8_breaks 22 = .ok (.aload_n 0, 1) := by decide +kernel
theorem dX8_breaks_23 : decode cX8_breaks 23 = .ok (.iload_n 2, 1) := by decide +kernel
theorem dX8_breaks_24 : decode cX8_breaks 24 = .ok (.invokevirtual 88, 3) := by decide +kernel
theorem dX8_breaks_27 : decode cX8_breaks 27 = .ok (.iconst 1, 1) := by decide +kernel
theorem dX8_breaks_28 : decode cX8_breaks 28 = .ok (.isub, 1) := by decide +kernel
theorem dX8_breaks_29 : decode cX8_breaks 29 = .ok (.invokestatic 71, 3) := by decide +kernel
theorem dX8_breaks_32 : decode cX8_breaks 32 = .ok (.ifCond .ne 5, 3) := by decide +kernel
theorem dX8_breaks_35 : decode cX8_breaks 35 = .ok (.iconst 0, 1) := by decide +kernel
theorem dX8_breaks_36 : decode cX8_breaks 36 = .ok (.ireturn, 1) := by decide +kernel
theorem dX8_breaks_37 : decode cX8_breaks 37 = .ok (.aload_n 0, 1) := by decide +kernel
theorem dX8_breaks_38 : decode cX8_breaks 38 = .ok (.getfield 19, 3) := by decide +kernel
theorem dX8_breaks_41 : decode cX8_breaks 41 = .ok (.iload_n 1, 1) := by decide +kernel
theorem dX8_breaks_42 : decode cX8_breaks 42 = .ok (.iload_n 2, 1) := by decide +kernel
theorem dX8_breaks_43 : decode cX8_breaks 43 = .ok (.iastore, 1) := by decide +kernel
theorem dX8_breaks_44 : decode cX8_breaks 44 = .ok (.aload_n 0, 1) := by decide +kernel
theorem dX8_breaks_45 : decode cX8_breaks 45 = .ok (.getfield 22, 3) := by decide +kernel
theorem dX8_breaks_48 : decode cX8_breaks 48 = .ok (.iload_n 1, 1) := by decide +kernel
theorem dX8_breaks_49 : decode cX8_breaks 49 = .ok (.iload_n 3, 1) := by decide +kernel
theorem dX8_breaks_50 : decode cX8_breaks 50 = .ok (.iastore, 1) := by decide +kernel
theorem dX8_breaks_51 : decode cX8_breaks 51 = .ok (.iconst 1, 1) := by decide +kernel
theorem dX8_breaks_52 : decode cX8_breaks 52 = .ok (.ireturn, 1) := by decide +kernel
theorem dX8_set_0 : decode cX8_set 0 = .ok (.iload_n 1, 1) := by decide +kernel
theorem dX8_set_1 : decode cX8_set 1 = .ok (.ifCond .eq 8, 3) := by decide +kernel
theorem dX8_set_4 : decode cX8_set 4 = .ok (.iload_n 1, 1) := by decide +kernel
theorem dX8_set_5 : decode cX8_set 5 = .ok (.iconst 1, 1) := by decide +kernel
theorem dX8_set_6 : decode cX8_set 6 = .ok (.if_icmp .ne 14, 3) := by decide +kernel
theorem dX8_set_9 : decode cX8_set 9 = .ok (.iload_n 2, 1) := by decide +kernel
theorem dX8_set_10 : decode cX8_set 10 = .ok (.iconst 0, 1) := by decide +kernel
theorem dX8_set_11 : decode cX8_set 11 = .ok (.sipush 600, 3) := by decide +kernel
theorem dX8_set_14 : decode cX8_set 14 = .ok (.invokestatic 71, 3) := by decide +kernel
theorem dX8_set_17 : decode cX8_set 17 = .ok (.goto 55, 3) := by decide +kernel
theorem dX8_set_20 : decode cX8_set 20 = .ok (.iload_n 1, 1) := by decide +kernel
theorem dX8_set_21 : decode cX8_set 21 = .ok (.iconst 2, 1) := by decide +kernel
theorem dX8_set_22 : decode cX8_set 22 = .ok (.if_icmp .ne 14, 3) := by decide +kernel
theorem dX8_set_25 : decode cX8_set 25 = .ok (.iload_n 2, 1) := by decide +kernel
theorem dX8_set_26 : decode cX8_set 26 = .ok (.bipush 10, 2) := by decide +kernel
theorem dX8_set_28 : decode cX8_set 28 = .ok (.bipush 120, 2) := by decide +kernel
theorem dX8_set_30 : decode cX8_set 30 = .ok (.invokestatic 71, 3) := by decide +kernel
theorem dX8_set_33 : decode cX8_set 33 = .ok (.goto 39, 3) := by decide +kernel
theorem dX8_set_36 : decode cX8_set 36 = .ok (.iload_n 1, 1) := by decide +kernel
theorem dX8_set_37 : decode cX8_set 37 = .ok (.iconst 3, 1) := by decide +kernel
theorem dX8_set_38 : decode cX8_set 38 = .ok (.if_icmp .ne 14, 3) := by decide +kernel
theorem dX8_set_41 : decode cX8_set 41 = .ok (.iload_n 2, 1) := by decide +kernel
theorem dX8_set_42 : decode cX8_set 42 = .ok (.iconst 0, 1) := by decide +kernel
theorem dX8_set_43 : decode cX8_set 43 = .ok (.sipush 5000, 3) := by decide +kernel
theorem dX8_set_46 : decode cX8_set 46 = .ok (.invokestatic 71, 3) := by decide +kernel
theorem dX8_set_49 : decode cX8_set 49 = .ok (.goto 23, 3) := by decide +kernel
theorem dX8_set_52 : decode cX8_set 52 = .ok (.iload_n 1, 1) := by decide +kernel
theorem dX8_set_53 : decode cX8_set 53 = .ok (.iconst 4, 1) := by decide +kernel
theorem dX8_set_54 : decode cX8_set 54 = .ok (.if_icmp .ne 17, 3) := by decide +kernel
theorem dX8_set_57 : decode cX8_set 57 = .ok (.iload_n 2, 1) := by decide +kernel
theorem dX8_set_58 : decode cX8_set 58 = .ok (.iconst 0, 1) := by decide +kernel
theorem dX8_set_59 : decode cX8_set 59 = .ok (.bipush 50, 2) := by decide +kernel
theorem dX8_set_61 : decode cX8_set 61 = .ok (.invokestatic 71, 3) := by decide +kernel
theorem dX8_set_64 : decode cX8_set 64 = .ok (.ifCond .eq 7, 3) := by decide +kernel
theorem dX8_set_67 : decode cX8_set 67 = .ok (.iconst 1, 1) := by decide +kernel
theorem dX8_set_68 : decode cX8_set 68 = .ok (.goto 4, 3) := by decide +kernel
theorem dX8_set_71 : decode cX8_set 71 = .ok (.iconst 0, 1) := by decide +kernel
theorem dX8_set_72 : decode cX8_set 72 = .ok (.istore_n 3, 1) := by decide +kernel
theorem dX8_set_73 : decode cX8_set 73 = .ok (.iload_n 3, 1) := by decide +kernel
theorem dX8_set_74 : decode cX8_set 74 = .ok (.ifCond .eq 10, 3) := by decide +kernel
theorem dX8_set_77 : decode cX8_set 77 = .ok (.aload_n 0, 1) := by decide +kernel
theorem dX8_set_78 : decode cX8_set 78 = .ok (.getfield 25, 3) := by decide +kernel
theorem dX8_set_81 : decode cX8_set 81 = .ok (.iload_n 1, 1) := by decide +kernel
theorem dX8_set_82 : decode cX8_set 82 = .ok (.iload_n 2, 1) := by decide +kernel
theorem dX8_set_83 : decode cX8_set 83 = .ok (.iastore, 1) := by decide +kernel
theorem dX8_set_84 : decode cX8_set 84 = .ok (.iload_n 3, 1) := by decide +kernel
theorem dX8_set_85 : decode cX8_set 85 = .ok (.ireturn, 1) := by decide +kernel
theorem dX8_feed_0 : decode cX8_feed 0 = .ok (.aload_n 0, 1) := by decide +kernel
theorem dX8_feed_1 : decode cX8_feed 1 = .ok (.getfield 92, 3) := by decide +kernel
theorem dX8_feed_4 : decode cX8_feed 4 = .ok (.bipush 20, 2) := by decide +kernel
theorem dX8_feed_6 : decode cX8_feed 6 = .ok (.iadd, 1) := by decide +kernel
theorem dX8_feed_7 : decode cX8_feed 7 = .ok (.sipush 600, 3) := by decide +kernel
theorem dX8_feed_10 : decode cX8_feed 10 = .ok (.if_icmp .le 5, 3) := by decide +kernel
theorem dX8_feed_13 : decode cX8_feed 13 = .ok (.iconst (-1), 1) := by decide +kernel
theorem dX8_feed_14 : decode cX8_feed 14 = .ok (.ireturn, 1) := by decide +kernel
theorem dX8_feed_15 : decode cX8_feed 15 = .ok (.iconst 0, 1) := by decide +kernel
theorem dX8_feed_16 : decode cX8_feed 16 = .ok (.istore 6, 2) := by decide +kernel
theorem dX8_feed_18 : decode cX8_feed 18 = .ok (.iload 6, 2) := by decide +kernel
theorem dX8_feed_20 : decode cX8_feed 20 = .ok (.bipush 20, 2) := by decide +kernel
theorem dX8_feed_22 : decode cX8_feed 22 = .ok (.if_icmp .ge 93, 3) := by decide +kernel
theorem dX8_feed_25 : decode cX8_feed 25 = .ok (.iload 6, 2) := by decide +kernel
theorem dX8_feed_27 : decode cX8_feed 27 = .ok (.iconst 4, 1) := by decide +kernel
theorem dX8_feed_28 : decode cX8_feed 28 = .ok (.if_icmp .ge 7, 3) := by decide +kernel
theorem dX8_feed_31 : decode cX8_feed 31 = .ok (.iload_n 1, 1) := by decide +kernel
theorem dX8_feed_32 : decode cX8_feed 32 = .ok (.goto 39, 3) := by decide +kernel
theorem dX8_feed_35 : decode cX8_feed 35 = .ok (.iload 6, 2) := by decide +kernel
theorem dX8_feed_37 : decode cX8_feed 37 = .ok (.bipush 8, 2) := by decide +kernel
theorem dX8_feed_39 : decode cX8_feed 39 = .ok (.if_icmp .ge 7, 3) := by decide +kernel
theorem dX8_feed_42 : decode cX8_feed 42 = .ok (.iload_n 2, 1) := by decide +kernel
theorem dX8_feed_43 : decode cX8_feed 43 = .ok (.goto 28, 3) := by decide +kernel
theorem dX8_feed_46 : decode cX8_feed 46 = .ok (.iload 6, 2) := by decide +kernel
theorem dX8_feed_48 : decode cX8_feed 48 = .ok (.bipush 12, 2) := by decide +kernel
theorem dX8_feed_50 : decode cX8_feed 50 = .ok (.if_icmp .ge 7, 3) := by decide +kernel
theorem dX8_feed_53 : decode cX8_feed 53 = .ok (.iload_n 3, 1) := by decide +kernel
theorem dX8_feed_54 : decode cX8_feed 54 = .ok (.goto 17, 3) := by decide +kernel
theorem dX8_feed_57 : decode cX8_feed 57 = .ok (.iload 6, 2) := by decide +kernel
theorem dX8_feed_59 : decode cX8_feed 59 = .ok (.bipush 16, 2) := by decide +kernel
theorem dX8_feed_61 : decode cX8_feed 61 = .ok (.if_icmp .ge 8, 3) := by decide +kernel
theorem dX8_feed_64 : decode cX8_feed 64 = .ok (.iload 4, 2) := by decide +kernel
theorem dX8_feed_66 : decode cX8_feed 66 = .ok (.goto 5, 3) := by decide +kernel
theorem dX8_feed_69 : decode cX8_feed 69 = .ok (.iload 5, 2) := by decide +kernel
theorem dX8_feed_71 : decode cX8_feed 71 = .ok (.istore 7, 2) := by decide +kernel
theorem dX8_feed_73 : decode cX8_feed 73 = .ok (.aload_n 0, 1) := by decide +kernel
theorem dX8_feed_74 : decode cX8_feed 74 = .ok (.getfield 40, 3) := by decide +kernel
theorem dX8_feed_77 : decode cX8_feed 77 = .ok (.aload_n 0, 1) := by decide +kernel
theorem dX8_feed_78 : decode cX8_feed 78 = .ok (.getfield 92, 3) := by decide +kernel
theorem dX8_feed_81 : decode cX8_feed 81 = .ok (.iload 7, 2) := by decide +kernel
theorem dX8_feed_83 : decode cX8_feed 83 = .ok (.bipush 24, 2) := by decide +kernel
theorem dX8_feed_85 : decode cX8_feed 85 = .ok (.bipush 8, 2) := by decide +kernel
theorem dX8_feed_87 : decode cX8_feed 87 = .ok (.iload 6, 2) := by decide +kernel
theorem dX8_feed_89 : decode cX8_feed 89 = .ok (.iconst 4, 1) := by decide +kernel
theorem dX8_feed_90 : decode cX8_feed 90 = .ok (.irem, 1) := by decide +kernel
theorem dX8_feed_91 : decode cX8_feed 91 = .ok (.imul, 1) := by decide +kernel
theorem dX8_feed_92 : decode cX8_feed 92 = .ok (.isub, 1) := by decide +kernel
theorem dX8_feed_93 : decode cX8_feed 93 = .ok (.ishr, 1) := by decide +kernel
theorem dX8_feed_94 : decode cX8_feed 94 = .ok (.sipush 255, 3) := by decide +kernel
theorem dX8_feed_97 : decode cX8_feed 97 = .ok (.iand, 1) := by decide +kernel
theorem dX8_feed_98 : decode cX8_feed 98 = .ok (.iastore, 1) := by decide +kernel
theorem dX8_feed_99 : decode cX8_feed 99 = .ok (.aload_n 0, 1) := by decide +kernel
theorem dX8_feed_100 : decode cX8_feed 100 = .ok (.dup, 1) := by decide +kernel
theorem dX8_feed_101 : decode cX8_feed 101 = .ok (.getfield 92, 3) := by decide +kernel
theorem dX8_feed_104 : decode cX8_feed 104 = .ok (.iconst 1, 1) := by decide +kernel
theorem dX8_feed_105 : decode cX8_feed 105 = .ok (.iadd, 1) := by decide +kernel
theorem dX8_feed_106 : decode cX8_feed 106 = .ok (.putfield 92, 3) := by decide +kernel
theorem dX8_feed_109 : decode cX8_feed 109 = .ok (.iinc 6 1, 3) := by decide +kernel
theorem dX8_feed_112 : decode cX8_feed 112 = .ok (.goto (-94), 3) := by decide +kernel
theorem dX8_feed_115 : decode cX8_feed 115 = .ok (.aload_n 0, 1) := by decide +kernel
theorem dX8_feed_116 : decode cX8_feed 116 = .ok (.getfield 92, 3) := by decide +kernel
theorem dX8_feed_119 : decode cX8_feed 119 = .ok (.ireturn, 1) := by decide +kernel
theorem dX8_end_0 : decode cX8_end 0 = .ok (.iload_n 1, 1) := by decide +kernel
theorem dX8_end_1 : decode cX8_end 1 = .ok (.iconst 0, 1) := by decide +kernel
theorem dX8_end_2 : decode cX8_end 2 = .ok (.aload_n 0, 1) := by decide +kernel
theorem dX8_end_3 : decode cX8_end 3 = .ok (.getfield 92, 3) := by decide +kernel
theorem dX8_end_6 : decode cX8_end 6 = .ok (.invokestatic 71, 3) := by decide +kernel
theorem dX8_end_9 : decode cX8_end 9 = .ok (.ifCond .ne 5, 3) := by decide +kernel
theorem dX8_end_12 : decode cX8_end 12 = .ok (.iconst 0, 1) := by decide +kernel
theorem dX8_end_13 : decode cX8_end 13 = .ok (.ireturn, 1) := by decide +kernel
theorem dX8_end_14 : decode cX8_end 14 = .ok (.aload_n 0, 1) := by decide +kernel
theorem dX8_end_15 : decode cX8_end 15 = .ok (.iload_n 1, 1) := by decide +kernel
theorem dX8_end_16 : decode cX8_end 16 = .ok (.putfield 92, 3) := by decide +kernel
theorem dX8_end_19 : decode cX8_end 19 = .ok (.iconst 1, 1) := by decide +kernel
theorem dX8_end_20 : decode cX8_end 20 = .ok (.ireturn, 1) := by decide +kernel
theorem dX8_see_0 : decode cX8_see 0 = .ok (.iload_n 1, 1) := by decide +kernel
theorem dX8_see_1 : decode cX8_see 1 = .ok (.aload_n 0, 1) := by decide +kernel
theorem dX8_see_2 : decode cX8_see 2 = .ok (.getfield 92, 3) := by decide +kernel
theorem dX8_see_5 : decode cX8_see 5 = .ok (.if_icmp .ge 12, 3) := by decide +kernel
theorem dX8_see_8 : decode cX8_see 8 = .ok (.aload_n 0, 1) := by decide +kernel
theorem dX8_see_9 : decode cX8_see 9 = .ok (.getfield 40, 3) := by decide +kernel
theorem dX8_see_12 : decode cX8_see 12 = .ok (.iload_n 1, 1) := by decide +kernel
theorem dX8_see_13 : decode cX8_see 13 = .ok (.iaload, 1) := by decide +kernel
theorem dX8_see_14 : decode cX8_see 14 = .ok (.goto 4, 3) := by decide +kernel
theorem dX8_see_17 : decode cX8_see 17 = .ok (.iconst (-1), 1) := by decide +kernel
theorem dX8_see_18 : decode cX8_see 18 = .ok (.ireturn, 1) := by decide +kernel
theorem dX8_isLetter_0 : decode cX8_isLetter 0 = .ok (.iload_n 0, 1) := by decide +kernel
theorem dX8_isLetter_1 : decode cX8_isLetter 1 = .ok (.bipush 97, 2) := by decide +kernel
theorem dX8_isLetter_3 : decode cX8_isLetter 3 = .ok (.bipush 122, 2) := by decide +kernel
theorem dX8_isLetter_5 : decode cX8_isLetter 5 = .ok (.invokestatic 71, 3) := by decide +kernel
theorem dX8_isLetter_8 : decode cX8_isLetter 8 = .ok (.ifCond .ne 14, 3) := by decide +kernel
theorem dX8_isLetter_11 : decode cX8_isLetter 11 = .ok (.iload_n 0, 1) := by decide +kernel
theorem dX8_isLetter_12 : decode cX8_isLetter 12 = .ok (.bipush 65, 2) := by decide +kernel
theorem dX8_isLetter_14 : decode cX8_isLetter 14 = .ok (.bipush 90, 2) := by decide +kernel
theorem dX8_isLetter_16 : decode cX8_isLetter 16 = .ok (.invokestatic 71, 3) := by decide +kernel
theorem dX8_isLetter_19 : decode cX8_isLetter 19 = .ok (.ifCond .eq 7, 3) := by decide +kernel
theorem dX8_isLetter_22 : decode cX8_isLetter 22 = .ok (.iconst 1, 1) := by decide +kernel
theorem dX8_isLetter_23 : decode cX8_isLetter 23 = .ok (.goto 4, 3) := by decide +kernel
theorem dX8_isLetter_26 : decode cX8_isLetter 26 = .ok (.iconst 0, 1) := by decide +kernel
theorem dX8_isLetter_27 : decode cX8_isLetter 27 = .ok (.ireturn, 1) := by decide +kernel
theorem dX8_isDigit_0 : decode cX8_isDigit 0 = .ok (.iload_n 0, 1) := by decide +kernel
theorem dX8_isDigit_1 : decode cX8_isDigit 1 = .ok (.bipush 48, 2) := by decide +kernel
theorem dX8_isDigit_3 : decode cX8_isDigit 3 = .ok (.bipush 57, 2) := by decide +kernel
theorem dX8_isDigit_5 : decode cX8_isDigit 5 = .ok (.invokestatic 71, 3) := by decide +kernel
theorem dX8_isDigit_8 : decode cX8_isDigit 8 = .ok (.ireturn, 1) := by decide +kernel
theorem dX8_word_0 : decode cX8_word 0 = .ok (.lload_n 0, 1) := by decide +kernel
theorem dX8_word_1 : decode cX8_word 1 = .ok (.ldc2_w 95, 3) := by decide +kernel
theorem dX8_word_4 : decode cX8_word 4 = .ok (.lcmp, 1) := by decide +kernel
theorem dX8_word_5 : decode cX8_word 5 = .ok (.ifCond .ne 5, 3) := by decide +kernel
theorem dX8_word_8 : decode cX8_word 8 = .ok (.iconst 3, 1) := by decide +kernel
theorem dX8_word_9 : decode cX8_word 9 = .ok (.ireturn, 1) := by decide +kernel
theorem dX8_word_10 : decode cX8_word 10 = .ok (.lload_n 0, 1) := by decide +kernel
theorem dX8_word_11 : decode cX8_word 11 = .ok (.ldc2_w 97, 3) := by decide +kernel
theorem dX8_word_14 : decode cX8_word 14 = .ok (.lcmp, 1) := by decide +kernel
theorem dX8_word_15 : decode cX8_word 15 = .ok (.ifCond .ne 5, 3) := by decide +kernel
theorem dX8_word_18 : decode cX8_word 18 = .ok (.iconst 4, 1) := by decide +kernel
theorem dX8_word_19 : decode cX8_word 19 = .ok (.ireturn, 1) := by decide +kernel
theorem dX8_word_20 : decode cX8_word 20 = .ok (.lload_n 0, 1) := by decide +kernel
theorem dX8_word_21 : decode cX8_word 21 = .ok (.ldc2_w 99, 3) := by decide +kernel
theorem dX8_word_24 : decode cX8_word 24 = .ok (.lcmp, 1) := by decide +kernel
theorem dX8_word_25 : decode cX8_word 25 = .ok (.ifCond .ne 5, 3) := by decide +kernel
theorem dX8_word_28 : decode cX8_word 28 = .ok (.iconst 5, 1) := by decide +kernel
theorem dX8_word_29 : decode cX8_word 29 = .ok (.ireturn, 1) := by decide +kernel
theorem dX8_word_30 : decode cX8_word 30 = .ok (.lload_n 0, 1) := by decide +kernel
theorem dX8_word_31 : decode cX8_word 31 = .ok (.ldc2_w 101, 3) := by decide +kernel
theorem dX8_word_34 : decode cX8_word 34 = .ok (.lcmp, 1) := by decide +kernel
theorem dX8_word_35 : decode cX8_word 35 = .ok (.ifCond .ne 8, 3) := by decide +kernel
theorem dX8_word_38 : decode cX8_word 38 = .ok (.bipush 6, 2) := by decide +kernel
theorem dX8_word_40 : decode cX8_word 40 = .ok (.goto 4, 3) := by decide +kernel
theorem dX8_word_43 : decode cX8_word 43 = .ok (.iconst 1, 1) := by decide +kernel
theorem dX8_word_44 : decode cX8_word 44 = .ok (.ireturn, 1) := by decide +kernel
theorem dX8_next0_0 : decode cX8_next0 0 = .ok (.aload_n 0, 1) := by decide +kernel
theorem dX8_next0_1 : decode cX8_next0 1 = .ok (.aload_n 0, 1) := by decide +kernel
theorem dX8_next0_2 : decode cX8_next0 2 = .ok (.getfield 103, 3) := by decide +kernel
theorem dX8_next0_5 : decode cX8_next0 5 = .ok (.invokevirtual 106, 3) := by decide +kernel
theorem dX8_next0_8 : decode cX8_next0 8 = .ok (.bipush 32, 2) := by decide +kernel
theorem dX8_next0_10 : decode cX8_next0 10 = .ok (.if_icmp .eq 16, 3) := by decide +kernel
theorem dX8_next0_13 : decode cX8_next0 13 = .ok (.aload_n 0, 1) := by decide +kernel
theorem dX8_next0_14 : decode cX8_next0 14 = .ok (.aload_n 0, 1) := by decide +kernel
theorem dX8_next0_15 : decode cX8_next0 15 = .ok (.getfield 103, 3) := by decide +kernel
theorem dX8_next0_18 : decode cX8_next0 18 = .ok (.invokevirtual 106, 3) := by decide +kernel
theorem dX8_next0_21 : decode cX8_next0 21 = .ok (.bipush 10, 2) := by decide +kernel
theorem dX8_next0_23 : decode cX8_next0 23 = .ok (.if_icmp .ne 16, 3) := by decide +kernel
theorem dX8_next0_26 : decode cX8_next0 26 = .ok (.aload_n 0, 1) := by decide +kernel
theorem dX8_next0_27 : decode cX8_next0 27 = .ok (.dup, 1) := by decide +kernel
theorem dX8_next0_28 : decode cX8_next0 28 = .ok (.getfield 103, 3) := by decide +kernel
theorem dX8_next0_31 : decode cX8_next0 31 = .ok (.iconst 1, 1) := by decide +kernel
theorem dX8_next0_32 : decode cX8_next0 32 = .ok (.iadd, 1) := by decide +kernel
theorem dX8_next0_33 : decode cX8_next0 33 = .ok (.putfield 103, 3) := by decide +kernel
theorem dX8_next0_36 : decode cX8_next0 36 = .ok (.goto (-36), 3) := by decide +kernel
theorem dX8_next0_39 : decode cX8_next0 39 = .ok (.aload_n 0, 1) := by decide +kernel
theorem dX8_next0_40 : decode cX8_next0 40 = .ok (.aload_n 0, 1) := by decide +kernel
theorem dX8_next0_41 : decode cX8_next0 41 = .ok (.getfield 103, 3) := by decide +kernel
theorem dX8_next0_44 : decode cX8_next0 44 = .ok (.putfield 109, 3) := by decide +kernel
theorem dX8_next0_47 : decode cX8_next0 47 = .ok (.aload_n 0, 1) := by decide +kernel
theorem dX8_next0_48 : decode cX8_next0 48 = .ok (.aload_n 0, 1) := by decide +kernel
theorem dX8_next0_49 : decode cX8_next0 49 = .ok (.getfield 103, 3) := by decide +kernel
theorem dX8_next0_52 : decode cX8_next0 52 = .ok (.invokevirtual 106, 3) := by decide +kernel
theorem dX8_next0_55 : decode cX8_next0 55 = .ok (.istore_n 1, 1) := by decide +kernel
theorem dX8_next0_56 : decode cX8_next0 56 = .ok (.iconst 0, 1) := by decide +kernel
theorem dX8_next0_57 : decode cX8_next0 57 = .ok (.istore_n 2, 1) := by decide +kernel
theorem dX8_next0_58 : decode cX8_next0 58 = .ok (.iload_n 1, 1) := by decide +kernel
theorem dX8_next0_59 : decode cX8_next0 59 = .ok (.iconst (-1), 1) := by decide +kernel
theorem dX8_next0_60 : decode cX8_next0 60 = .ok (.if_icmp .ne 11, 3) := by decide +kernel
theorem dX8_next0_63 : decode cX8_next0 63 = .ok (.aload_n 0, 1) := by decide +kernel
theorem dX8_next0_64 : decode cX8_next0 64 = .ok (.iconst 0, 1) := by decide +kernel
theorem dX8_next0_65 : decode cX8_next0 65 = .ok (.putfield 112, 3) := by decide +kernel
theorem dX8_next0_68 : decode cX8_next0 68 = .ok (.goto 194, 3) := by decide +kernel
theorem dX8_next0_71 : decode cX8_next0 71 = .ok (.iload_n 1, 1) := by decide +kernel
theorem dX8_next0_72 : decode cX8_next0 72 = .ok (.invokestatic 115, 3) := by decide +kernel
theorem dX8_next0_75 : decode cX8_next0 75 = .ok (.ifCond .eq 75, 3) := by decide +kernel
theorem dX8_next0_78 : decode cX8_next0 78 = .ok (.lconst 0, 1) := by decide +kernel
theorem dX8_next0_79 : decode cX8_next0 79 = .ok (.lstore_n 3, 1) := by decide +kernel
theorem dX8_next0_80 : decode cX8_next0 80 = .ok (.aload_n 0, 1) := by decide +kernel
theorem dX8_next0_81 : decode cX8_next0 81 = .ok (.aload_n 0, 1) := by decide +kernel
theorem dX8_next0_82 : decode cX8_next0 82 = .ok (.getfield 103, 3) := by decide +kernel
theorem dX8_next0_85 : decode cX8_next0 85 = .ok (.invokevirtual 106, 3) := by decide +kernel
theorem dX8_next0_88 : decode cX8_next0 88 = .ok (.invokestatic 115, 3) := by decide +kernel
theorem dX8_next0_91 : decode cX8_next0 91 = .ok (.ifCond .eq 39, 3) := by decide +kernel
theorem dX8_next0_94 : decode cX8_next0 94 = .ok (.iload_n 2, 1) := by decide +kernel
theorem dX8_next0_95 : decode cX8_next0 95 = .ok (.iconst 5, 1) := by decide +kernel
theorem dX8_next0_96 : decode cX8_next0 96 = .ok (.if_icmp .ge 18, 3) := by decide +kernel
theorem dX8_next0_99 : decode cX8_next0 99 = .ok (.lload_n 3, 1) := by decide +kernel
theorem dX8_next0_100 : decode cX8_next0 100 = .ok (.bipush 8, 2) := by decide +kernel
theorem dX8_next0_102 : decode cX8_next0 102 = .ok (.lshl, 1) := by decide +kernel
theorem dX8_next0_103 : decode cX8_next0 103 = .ok (.aload_n 0, 1) := by decide +kernel
theorem dX8_next0_104 : decode cX8_next0 104 = .ok (.aload_n 0, 1) := by decide +kernel
theorem dX8_next0_105 : decode cX8_next0 105 = .ok (.getfield 103, 3) := by decide +kernel
theorem dX8_next0_108 : decode cX8_next0 108 = .ok (.invokevirtual 106, 3) := by decide +kernel
theorem dX8_next0_111 : decode cX8_next0 111 = .ok (.i2l, 1) := by decide +kernel
theorem dX8_next0_112 : decode cX8_next0 112 = .ok (.lor, 1) := by decide +kernel
theorem dX8_next0_113 : decode cX8_next0 113 = .ok (.lstore_n 3, 1) := by decide +kernel
theorem dX8_next0_114 : decode cX8_next0 114 = .ok (.iinc 2 1, 3) := by decide +kernel
theorem dX8_next0_117 : decode cX8_next0 117 = .ok (.aload_n 0, 1) := by decide +kernel
theorem dX8_next0_118 : decode cX8_next0 118 = .ok (.dup, 1) := by decide +kernel
theorem dX8_next0_119 : decode cX8_next0 119 = .ok (.getfield 103, 3) := by decide +kernel
theorem dX8_next0_122 : decode cX8_next0 122 = .ok (.iconst 1, 1) := by decide +kernel
theorem dX8_next0_123 : decode cX8_next0 123 = .ok (.iadd, 1) := by decide +kernel
theorem dX8_next0_124 : decode cX8_next0 124 = .ok (.putfield 103, 3) := by decide +kernel
theorem dX8_next0_127 : decode cX8_next0 127 = .ok (.goto (-47), 3) := by decide +kernel
theorem dX8_next0_130 : decode cX8_next0 130 = .ok (.aload_n 0, 1) := by decide +kernel
theorem dX8_next0_131 : decode cX8_next0 131 = .ok (.iload_n 2, 1) := by decide +kernel
theorem dX8_next0_132 : decode cX8_next0 132 = .ok (.iconst 5, 1) := by decide +kernel
theorem dX8_next0_133 : decode cX8_next0 133 = .ok (.if_icmp .ge 10, 3) := by decide +kernel
theorem dX8_next0_136 : decode cX8_next0 136 = .ok (.lload_n 3, 1) := by decide +kernel
theorem dX8_next0_137 : decode cX8_next0 137 = .ok (.invokestatic 118, 3) := by decide +kernel
theorem dX8_next0_140 : decode cX8_next0 140 = .ok (.goto 4, 3) := by decide +kernel
theorem dX8_next0_143 : decode cX8_next0 143 = .ok (.iconst 1, 1) := by decide +kernel
theorem dX8_next0_144 : decode cX8_next0 144 = .ok (.putfield 112, 3) := by decide +kernel
theorem dX8_next0_147 : decode cX8_next0 147 = .ok (.goto 115, 3) := by decide +kernel
theorem dX8_next0_150 : decode cX8_next0 150 = .ok (.iload_n 1, 1) := by decide +kernel
theorem dX8_next0_151 : decode cX8_next0 151 = .ok (.invokestatic 122, 3) := by decide +kernel
theorem dX8_next0_154 : decode cX8_next0 154 = .ok (.ifCond .eq 83, 3) := by decide +kernel
theorem dX8_next0_157 : decode cX8_next0 157 = .ok (.aload_n 0, 1) := by decide +kernel
theorem dX8_next0_158 : decode cX8_next0 158 = .ok (.iconst 0, 1) := by decide +kernel
theorem dX8_next0_159 : decode cX8_next0 159 = .ok (.putfield 125, 3) := by decide +kernel
theorem dX8_next0_162 : decode cX8_next0 162 = .ok (.aload_n 0, 1) := by decide +kernel
theorem dX8_next0_163 : decode cX8_next0 163 = .ok (.aload_n 0, 1) := by decide +kernel
theorem dX8_next0_164 : decode cX8_next0 164 = .ok (.getfield 103, 3) := by decide +kernel
theorem dX8_next0_167 : decode cX8_next0 167 = .ok (.invokevirtual 106, 3) := by decide +kernel
theorem dX8_next0_170 : decode cX8_next0 170 = .ok (.invokestatic 122, 3) := by decide +kernel
theorem dX8_next0_173 : decode cX8_next0 173 = .ok (.ifCond .eq 47, 3) := by decide +kernel
theorem dX8_next0_176 : decode cX8_next0 176 = .ok (.iload_n 2, 1) := by decide +kernel
theorem dX8_next0_177 : decode cX8_next0 177 = .ok (.iconst 3, 1) := by decide +kernel
theorem dX8_next0_178 : decode cX8_next0 178 = .ok (.if_icmp .ge 26, 3) := by decide +kernel
theorem dX8_next0_181 : decode cX8_next0 181 = .ok (.aload_n 0, 1) := by decide +kernel
theorem dX8_next0_182 : decode cX8_next0 182 = .ok (.bipush 10, 2) := by decide +kernel
theorem dX8_next0_184 : decode cX8_next0 184 = .ok (.aload_n 0, 1) := by decide +kernel
theorem dX8_next0_185 : decode cX8_next0 185 = .ok (.getfield 125, 3) := by decide +kernel
theorem dX8_next0_188 : decode cX8_next0 188 = .ok (.imul, 1) := by decide +kernel
theorem dX8_next0_189 : decode cX8_next0 189 = .ok (.aload_n 0, 1) := by decide +kernel
theorem dX8_next0_190 : decode cX8_next0 190 = .ok (.aload_n 0, 1) := by decide +kernel
theorem dX8_next0_191 : decode cX8_next0 191 = .ok (.getfield 103, 3) := by decide +kernel
theorem dX8_next0_194 : decode cX8_next0 194 = .ok (.invokevirtual 106, 3) := by decide +kernel
theorem dX8_next0_197 : decode cX8_next0 197 = .ok (.iadd, 1) := by decide +kernel
theorem dX8_next0_198 : decode cX8_next0 198 = .ok (.bipush 48, 2) := by decide +kernel
theorem dX8_next0_200 : decode cX8_next0 200 = .ok (.isub, 1) := by decide +kernel
theorem dX8_next0_201 : decode cX8_next0 201 = .ok (.putfield 125, 3) := by decide +kernel
theorem dX8_next0_204 : decode cX8_next0 204 = .ok (.iinc 2 1, 3) := by decide +kernel
theorem dX8_next0_207 : decode cX8_next0 207 = .ok (.aload_n 0, 1) := by decide +kernel
theorem dX8_next0_208 : decode cX8_next0 208 = .ok (.dup, 1) := by decide +kernel
theorem dX8_next0_209 : decode cX8_next0 209 = .ok (.getfield 103, 3) := by decide +kernel
theorem dX8_next0_212 : decode cX8_next0 212 = .ok (.iconst 1, 1) := by decide +kernel
theorem dX8_next0_213 : decode cX8_next0 213 = .ok (.iadd, 1) := by decide +kernel
theorem dX8_next0_214 : decode cX8_next0 214 = .ok (.putfield 103, 3) := by decide +kernel
theorem dX8_next0_217 : decode cX8_next0 217 = .ok (.goto (-55), 3) := by decide +kernel
theorem dX8_next0_220 : decode cX8_next0 220 = .ok (.aload_n 0, 1) := by decide +kernel
theorem dX8_next0_221 : decode cX8_next0 221 = .ok (.iload_n 2, 1) := by decide +kernel
theorem dX8_next0_222 : decode cX8_next0 222 = .ok (.iconst 4, 1) := by decide +kernel
theorem dX8_next0_223 : decode cX8_next0 223 = .ok (.if_icmp .ge 7, 3) := by decide +kernel
theorem dX8_next0_226 : decode cX8_next0 226 = .ok (.iconst 2, 1) := by decide +kernel
theorem dX8_next0_227 : decode cX8_next0 227 = .ok (.goto 4, 3) := by decide +kernel
theorem dX8_next0_230 : decode cX8_next0 230 = .ok (.iconst 1, 1) := by decide +kernel
theorem dX8_next0_231 : decode cX8_next0 231 = .ok (.putfield 112, 3) := by decide +kernel
theorem dX8_next0_234 : decode cX8_next0 234 = .ok (.goto 28, 3) := by decide +kernel
theorem dX8_next0_237 : decode cX8_next0 237 = .ok (.aload_n 0, 1) := by decide +kernel
theorem dX8_next0_238 : decode cX8_next0 238 = .ok (.dup, 1) := by decide +kernel
theorem dX8_next0_239 : decode cX8_next0 239 = .ok (.getfield 103, 3) := by decide +kernel
theorem dX8_next0_242 : decode cX8_next0 242 = .ok (.iconst 1, 1) := by decide +kernel
theorem dX8_next0_243 : decode cX8_next0 243 = .ok (.iadd, 1) := by decide +kernel
theorem dX8_next0_244 : decode cX8_next0 244 = .ok (.putfield 103, 3) := by decide +kernel
theorem dX8_next0_247 : decode cX8_next0 247 = .ok (.aload_n 0, 1) := by decide +kernel
theorem dX8_next0_248 : decode cX8_next0 248 = .ok (.iload_n 1, 1) := by decide +kernel
theorem dX8_next0_249 : decode cX8_next0 249 = .ok (.bipush 59, 2) := by decide +kernel
theorem dX8_next0_251 : decode cX8_next0 251 = .ok (.if_icmp .ne 7, 3) := by decide +kernel
theorem dX8_next0_254 : decode cX8_next0 254 = .ok (.iload_n 1, 1) := by decide +kernel
theorem dX8_next0_255 : decode cX8_next0 255 = .ok (.goto 4, 3) := by decide +kernel
theorem dX8_next0_258 : decode cX8_next0 258 = .ok (.iconst 1, 1) := by decide +kernel
theorem dX8_next0_259 : decode cX8_next0 259 = .ok (.putfield 112, 3) := by decide +kernel
theorem dX8_next0_262 : decode cX8_next0 262 = .ok (.return_, 1) := by decide +kernel
theorem dX8_bad_0 : decode cX8_bad 0 = .ok (.aload_n 0, 1) := by decide +kernel
theorem dX8_bad_1 : decode cX8_bad 1 = .ok (.iload_n 1, 1) := by decide +kernel
theorem dX8_bad_2 : decode cX8_bad 2 = .ok (.putfield 128, 3) := by decide +kernel
theorem dX8_bad_5 : decode cX8_bad 5 = .ok (.aload_n 0, 1) := by decide +kernel
theorem dX8_bad_6 : decode cX8_bad 6 = .ok (.aload_n 0, 1) := by decide +kernel
theorem dX8_bad_7 : decode cX8_bad 7 = .ok (.getfield 109, 3) := by decide +kernel
theorem dX8_bad_10 : decode cX8_bad 10 = .ok (.putfield 131, 3) := by decide +kernel
theorem dX8_bad_13 : decode cX8_bad 13 = .ok (.iconst 0, 1) := by decide +kernel
theorem dX8_bad_14 : decode cX8_bad 14 = .ok (.ireturn, 1) := by decide +kernel
theorem dX8_need_0 : decode cX8_need 0 = .ok (.aload_n 0, 1) := by decide +kernel
theorem dX8_need_1 : decode cX8_need 1 = .ok (.getfield 112, 3) := by decide +kernel
theorem dX8_need_4 : decode cX8_need 4 = .ok (.iload_n 1, 1) := by decide +kernel
theorem dX8_need_5 : decode cX8_need 5 = .ok (.if_icmp .eq 9, 3) := by decide +kernel
theorem dX8_need_8 : decode cX8_need 8 = .ok (.aload_n 0, 1) := by decide +kernel
theorem dX8_need_9 : decode cX8_need 9 = .ok (.iconst 1, 1) := by decide +kernel
theorem dX8_need_10 : decode cX8_need 10 = .ok (.invokevirtual 134, 3) := by decide +kernel
theorem dX8_need_13 : decode cX8_need 13 = .ok (.ireturn, 1) := by decide +kernel
theorem dX8_need_14 : decode cX8_need 14 = .ok (.aload_n 0, 1) := by decide +kernel
theorem dX8_need_15 : decode cX8_need 15 = .ok (.invokevirtual 137, 3) := by decide +kernel
theorem dX8_need_18 : decode cX8_need 18 = .ok (.iconst 1, 1) := by decide +kernel
theorem dX8_need_19 : decode cX8_need 19 = .ok (.ireturn, 1) := by decide +kernel
theorem dX8_aNumber_0 : decode cX8_aNumber 0 = .ok (.aload_n 0, 1) := by decide +kernel
theorem dX8_aNumber_1 : decode cX8_aNumber 1 = .ok (.getfield 112, 3) := by decide +kernel
theorem dX8_aNumber_4 : decode cX8_aNumber 4 = .ok (.iconst 2, 1) := by decide +kernel
theorem dX8_aNumber_5 : decode cX8_aNumber 5 = .ok (.if_icmp .eq 9, 3) := by decide +kernel
theorem dX8_aNumber_8 : decode cX8_aNumber 8 = .ok (.aload_n 0, 1) := by decide +kernel
theorem dX8_aNumber_9 : decode cX8_aNumber 9 = .ok (.iconst 1, 1) := by decide +kernel
theorem dX8_aNumber_10 : decode cX8_aNumber 10 = .ok (.invokevirtual 134, 3) := by decide +kernel
theorem dX8_aNumber_13 : decode cX8_aNumber 13 = .ok (.ireturn, 1) := by decide +kernel
theorem dX8_aNumber_14 : decode cX8_aNumber 14 = .ok (.aload_n 0, 1) := by decide +kernel
theorem dX8_aNumber_15 : decode cX8_aNumber 15 = .ok (.getfield 125, 3) := by decide +kernel
theorem dX8_aNumber_18 : decode cX8_aNumber 18 = .ok (.iload_n 1, 1) := by decide +kernel
theorem dX8_aNumber_19 : decode cX8_aNumber 19 = .ok (.iload_n 2, 1) := by decide +kernel
theorem dX8_aNumber_20 : decode cX8_aNumber 20 = .ok (.invokestatic 71, 3) := by decide +kernel
theorem dX8_aNumber_23 : decode cX8_aNumber 23 = .ok (.ifCond .ne 9, 3) := by decide +kernel
theorem dX8_aNumber_26 : decode cX8_aNumber 26 = .ok (.aload_n 0, 1) := by decide +kernel
theorem dX8_aNumber_27 : decode cX8_aNumber 27 = .ok (.iconst 2, 1) := by decide +kernel
theorem dX8_aNumber_28 : decode cX8_aNumber 28 = .ok (.invokevirtual 134, 3) := by decide +kernel
theorem dX8_aNumber_31 : decode cX8_aNumber 31 = .ok (.ireturn, 1) := by decide +kernel
theorem dX8_aNumber_32 : decode cX8_aNumber 32 = .ok (.aload_n 0, 1) := by decide +kernel
theorem dX8_aNumber_33 : decode cX8_aNumber 33 = .ok (.aload_n 0, 1) := by decide +kernel
theorem dX8_aNumber_34 : decode cX8_aNumber 34 = .ok (.getfield 125, 3) := by decide +kernel
theorem dX8_aNumber_37 : decode cX8_aNumber 37 = .ok (.putfield 140, 3) := by decide +kernel
theorem dX8_aNumber_40 : decode cX8_aNumber 40 = .ok (.aload_n 0, 1) := by decide +kernel
theorem dX8_aNumber_41 : decode cX8_aNumber 41 = .ok (.invokevirtual 137, 3) := by decide +kernel
theorem dX8_aNumber_44 : decode cX8_aNumber 44 = .ok (.iconst 1, 1) := by decide +kernel
theorem dX8_aNumber_45 : decode cX8_aNumber 45 = .ok (.ireturn, 1) := by decide +kernel
theorem dX8_aZone_0 : decode cX8_aZone 0 = .ok (.aload_n 0, 1) := by decide +kernel
theorem dX8_aZone_1 : decode cX8_aZone 1 = .ok (.iconst 3, 1) := by decide +kernel
theorem dX8_aZone_2 : decode cX8_aZone 2 = .ok (.invokevirtual 143, 3) := by decide +kernel
theorem dX8_aZone_5 : decode cX8_aZone 5 = .ok (.ifCond .ne 5, 3) := by decide +kernel
theorem dX8_aZone_8 : decode cX8_aZone 8 = .ok (.iconst 0, 1) := by decide +kernel
theorem dX8_aZone_9 : decode cX8_aZone 9 = .ok (.ireturn, 1) := by decide +kernel
theorem dX8_aZone_10 : decode cX8_aZone 10 = .ok (.aload_n 0, 1) := by decide +kernel
theorem dX8_aZone_11 : decode cX8_aZone 11 = .ok (.getfield 112, 3) := by decide +kernel
theorem dX8_aZone_14 : decode cX8_aZone 14 = .ok (.iconst 2, 1) := by decide +kernel
theorem dX8_aZone_15 : decode cX8_aZone 15 = .ok (.if_icmp .ne 32, 3) := by decide +kernel
theorem dX8_aZone_18 : decode cX8_aZone 18 = .ok (.aload_n 0, 1) := by decide +kernel
theorem dX8_aZone_19 : decode cX8_aZone 19 = .ok (.getfield 125, 3) := by decide +kernel
theorem dX8_aZone_22 : decode cX8_aZone 22 = .ok (.invokestatic 82, 3) := by decide +kernel
theorem dX8_aZone_25 : decode cX8_aZone 25 = .ok (.ifCond .eq 22, 3) := by decide +kernel
theorem dX8_aZone_28 : decode cX8_aZone 28 = .ok (.aload_n 0, 1) := by decide +kernel
theorem dX8_aZone_29 : decode cX8_aZone 29 = .ok (.getfield 34, 3) := by decide +kernel
theorem dX8_aZone_32 : decode cX8_aZone 32 = .ok (.aload_n 0, 1) := by decide +kernel
theorem dX8_aZone_33 : decode cX8_aZone 33 = .ok (.getfield 125, 3) := by decide +kernel
theorem dX8_aZone_36 : decode cX8_aZone 36 = .ok (.iaload, 1) := by decide +kernel
theorem dX8_aZone_37 : decode cX8_aZone 37 = .ok (.iconst 4, 1) := by decide +kernel
theorem dX8_aZone_38 : decode cX8_aZone 38 = .ok (.if_icmp .ne 9, 3) := by decide +kernel
theorem dX8_aZone_41 : decode cX8_aZone 41 = .ok (.aload_n 0, 1) := by decide +kernel
theorem dX8_aZone_42 : decode cX8_aZone 42 = .ok (.iconst 3, 1) := by decide +kernel
theorem dX8_aZone_43 : decode cX8_aZone 43 = .ok (.invokevirtual 134, 3) := by decide +kernel
theorem dX8_aZone_46 : decode cX8_aZone 46 = .ok (.ireturn, 1) := by decide +kernel
theorem dX8_aZone_47 : decode cX8_aZone 47 = .ok (.aload_n 0, 1) := by decide +kernel
theorem dX8_aZone_48 : decode cX8_aZone 48 = .ok (.iconst 0, 1) := by decide +kernel
theorem dX8_aZone_49 : decode cX8_aZone 49 = .ok (.bipush 6, 2) := by decide +kernel
theorem dX8_aZone_51 : decode cX8_aZone 51 = .ok (.invokevirtual 146, 3) := by decide +kernel
theorem dX8_aZone_54 : decode cX8_aZone 54 = .ok (.ifCond .ne 5, 3) := by decide +kernel
theorem dX8_aZone_57 : decode cX8_aZone 57 = .ok (.iconst 0, 1) := by decide +kernel
theorem dX8_aZone_58 : decode cX8_aZone 58 = .ok (.ireturn, 1) := by decide +kernel
theorem dX8_aZone_59 : decode cX8_aZone 59 = .ok (.aload_n 0, 1) := by decide +kernel
theorem dX8_aZone_60 : decode cX8_aZone 60 = .ok (.getfield 140, 3) := by decide +kernel
theorem dX8_aZone_63 : decode cX8_aZone 63 = .ok (.istore_n 1, 1) := by decide +kernel
theorem dX8_aZone_64 : decode cX8_aZone 64 = .ok (.bipush 12, 2) := by decide +kernel
theorem dX8_aZone_66 : decode cX8_aZone 66 = .ok (.iload_n 1, 1) := by decide +kernel
theorem dX8_aZone_67 : decode cX8_aZone 67 = .ok (.imul, 1) := by decide +kernel
theorem dX8_aZone_68 : decode cX8_aZone 68 = .ok (.iconst 3, 1) := by decide +kernel
theorem dX8_aZone_69 : decode cX8_aZone 69 = .ok (.aload_n 0, 1) := by decide +kernel
theorem dX8_aZone_70 : decode cX8_aZone 70 = .ok (.getfield 34, 3) := by decide +kernel
theorem dX8_aZone_73 : decode cX8_aZone 73 = .ok (.iload_n 1, 1) := by decide +kernel
theorem dX8_aZone_74 : decode cX8_aZone 74 = .ok (.iaload, 1) := by decide +kernel
theorem dX8_aZone_75 : decode cX8_aZone 75 = .ok (.imul, 1) := by decide +kernel
theorem dX8_aZone_76 : decode cX8_aZone 76 = .ok (.iadd, 1) := by decide +kernel
theorem dX8_aZone_77 : decode cX8_aZone 77 = .ok (.istore_n 2, 1) := by decide +kernel
theorem dX8_aZone_78 : decode cX8_aZone 78 = .ok (.aload_n 0, 1) := by decide +kernel
theorem dX8_aZone_79 : decode cX8_aZone 79 = .ok (.iconst 4, 1) := by decide +kernel
theorem dX8_aZone_80 : decode cX8_aZone 80 = .ok (.invokevirtual 143, 3) := by decide +kernel
theorem dX8_aZone_83 : decode cX8_aZone 83 = .ok (.ifCond .eq 34, 3) := by decide +kernel
theorem dX8_aZone_86 : decode cX8_aZone 86 = .ok (.aload_n 0, 1) := by decide +kernel
theorem dX8_aZone_87 : decode cX8_aZone 87 = .ok (.aload_n 0, 1) := by decide +kernel
theorem dX8_aZone_88 : decode cX8_aZone 88 = .ok (.getfield 34, 3) := by decide +kernel
theorem dX8_aZone_91 : decode cX8_aZone 91 = .ok (.iload_n 1, 1) := by decide +kernel
theorem dX8_aZone_92 : decode cX8_aZone 92 = .ok (.iaload, 1) := by decide +kernel
theorem dX8_aZone_93 : decode cX8_aZone 93 = .ok (.ifCond .ne 7, 3) := by decide +kernel
theorem dX8_aZone_96 : decode cX8_aZone 96 = .ok (.iconst 0, 1) := by decide +kernel
theorem dX8_aZone_97 : decode cX8_aZone 97 = .ok (.goto 11, 3) := by decide +kernel
theorem dX8_aZone_100 : decode cX8_aZone 100 = .ok (.aload_n 0, 1) := by decide +kernel
theorem dX8_aZone_101 : decode cX8_aZone 101 = .ok (.getfield 37, 3) := by decide +kernel
theorem dX8_aZone_104 : decode cX8_aZone 104 = .ok (.iload_n 2, 1) := by decide +kernel
theorem dX8_aZone_105 : decode cX8_aZone 105 = .ok (.iconst 2, 1) := by decide +kernel
theorem dX8_aZone_106 : decode cX8_aZone 106 = .ok (.isub, 1) := by decide +kernel
theorem dX8_aZone_107 : decode cX8_aZone 107 = .ok (.iaload, 1) := by decide +kernel
theorem dX8_aZone_108 : decode cX8_aZone 108 = .ok (.sipush 899, 3) := by decide +kernel
theorem dX8_aZone_111 : decode cX8_aZone 111 = .ok (.invokevirtual 146, 3) := by decide +kernel
theorem dX8_aZone_114 : decode cX8_aZone 114 = .ok (.ifCond .ne 5, 3) := by decide +kernel
theorem dX8_aZone_117 : decode cX8_aZone 117 = .ok (.iconst 0, 1) := by decide +kernel
theorem dX8_aZone_118 : decode cX8_aZone 118 = .ok (.ireturn, 1) := by decide +kernel
theorem dX8_aZone_119 : decode cX8_aZone 119 = .ok (.aload_n 0, 1) := by decide +kernel
theorem dX8_aZone_120 : decode cX8_aZone 120 = .ok (.getfield 37, 3) := by decide +kernel
theorem dX8_aZone_123 : decode cX8_aZone 123 = .ok (.iload_n 2, 1) := by decide +kernel
theorem dX8_aZone_124 : decode cX8_aZone 124 = .ok (.aload_n 0, 1) := by decide +kernel
theorem dX8_aZone_125 : decode cX8_aZone 125 = .ok (.getfield 140, 3) := by decide +kernel
theorem dX8_aZone_128 : decode cX8_aZone 128 = .ok (.iastore, 1) := by decide +kernel
theorem dX8_aZone_129 : decode cX8_aZone 129 = .ok (.aload_n 0, 1) := by decide +kernel
theorem dX8_aZone_130 : decode cX8_aZone 130 = .ok (.iconst 5, 1) := by decide +kernel
theorem dX8_aZone_131 : decode cX8_aZone 131 = .ok (.invokevirtual 143, 3) := by decide +kernel
theorem dX8_aZone_134 : decode cX8_aZone 134 = .ok (.ifCond .eq 21, 3) := by decide +kernel
theorem dX8_aZone_137 : decode cX8_aZone 137 = .ok (.aload_n 0, 1) := by decide +kernel
theorem dX8_aZone_138 : decode cX8_aZone 138 = .ok (.aload_n 0, 1) := by decide +kernel
theorem dX8_aZone_139 : decode cX8_aZone 139 = .ok (.getfield 37, 3) := by decide +kernel
theorem dX8_aZone_142 : decode cX8_aZone 142 = .ok (.iload_n 2, 1) := by decide +kernel
theorem dX8_aZone_143 : decode cX8_aZone 143 = .ok (.iaload, 1) := by decide +kernel
theorem dX8_aZone_144 : decode cX8_aZone 144 = .ok (.iconst 1, 1) := by decide +kernel
theorem dX8_aZone_145 : decode cX8_aZone 145 = .ok (.iadd, 1) := by decide +kernel
theorem dX8_aZone_146 : decode cX8_aZone 146 = .ok (.sipush 900, 3) := by decide +kernel
theorem dX8_aZone_149 : decode cX8_aZone 149 = .ok (.invokevirtual 146, 3) := by decide +kernel
theorem dX8_aZone_152 : decode cX8_aZone 152 = .ok (.ifCond .ne 5, 3) := by decide +kernel
theorem dX8_aZone_155 : decode cX8_aZone 155 = .ok (.iconst 0, 1) := by decide +kernel
theorem dX8_aZone_156 : decode cX8_aZone 156 = .ok (.ireturn, 1) := by decide +kernel
theorem dX8_aZone_157 : decode cX8_aZone 157 = .ok (.aload_n 0, 1) := by decide +kernel
theorem dX8_aZone_158 : decode cX8_aZone 158 = .ok (.getfield 37, 3) := by decide +kernel
theorem dX8_aZone_161 : decode cX8_aZone 161 = .ok (.iload_n 2, 1) := by decide +kernel
theorem dX8_aZone_162 : decode cX8_aZone 162 = .ok (.iconst 1, 1) := by decide +kernel
theorem dX8_aZone_163 : decode cX8_aZone 163 = .ok (.iadd, 1) := by decide +kernel
theorem dX8_aZone_164 : decode cX8_aZone 164 = .ok (.aload_n 0, 1) := by decide +kernel
theorem dX8_aZone_165 : decode cX8_aZone 165 = .ok (.getfield 140, 3) := by decide +kernel
theorem dX8_aZone_168 : decode cX8_aZone 168 = .ok (.iastore, 1) := by decide +kernel
theorem dX8_aZone_169 : decode cX8_aZone 169 = .ok (.aload_n 0, 1) := by decide +kernel
theorem dX8_aZone_170 : decode cX8_aZone 170 = .ok (.bipush 6, 2) := by decide +kernel
theorem dX8_aZone_172 : decode cX8_aZone 172 = .ok (.invokevirtual 143, 3) := by decide +kernel
theorem dX8_aZone_175 : decode cX8_aZone 175 = .ok (.ifCond .eq 14, 3) := by decide +kernel
theorem dX8_aZone_178 : decode cX8_aZone 178 = .ok (.aload_n 0, 1) := by decide +kernel
theorem dX8_aZone_179 : decode cX8_aZone 179 = .ok (.bipush 10, 2) := by decide +kernel
theorem dX8_aZone_181 : decode cX8_aZone 181 = .ok (.bipush 99, 2) := by decide +kernel
theorem dX8_aZone_183 : decode cX8_aZone 183 = .ok (.invokevirtual 146, 3) := by decide +kernel
theorem dX8_aZone_186 : decode cX8_aZone 186 = .ok (.ifCond .ne 5, 3) := by decide +kernel
theorem dX8_aZone_189 : decode cX8_aZone 189 = .ok (.iconst 0, 1) := by decide +kernel
theorem dX8_aZone_190 : decode cX8_aZone 190 = .ok (.ireturn, 1) := by decide +kernel
theorem dX8_aZone_191 : decode cX8_aZone 191 = .ok (.aload_n 0, 1) := by decide +kernel
theorem dX8_aZone_192 : decode cX8_aZone 192 = .ok (.getfield 37, 3) := by decide +kernel
theorem dX8_aZone_195 : decode cX8_aZone 195 = .ok (.iload_n 2, 1) := by decide +kernel
theorem dX8_aZone_196 : decode cX8_aZone 196 = .ok (.iconst 2, 1) := by decide +kernel
theorem dX8_aZone_197 : decode cX8_aZone 197 = .ok (.iadd, 1) := by decide +kernel
theorem dX8_aZone_198 : decode cX8_aZone 198 = .ok (.aload_n 0, 1) := by decide +kernel
theorem dX8_aZone_199 : decode cX8_aZone 199 = .ok (.getfield 140, 3) := by decide +kernel
theorem dX8_aZone_202 : decode cX8_aZone 202 = .ok (.iastore, 1) := by decide +kernel
theorem dX8_aZone_203 : decode cX8_aZone 203 = .ok (.aload_n 0, 1) := by decide +kernel
theorem dX8_aZone_204 : decode cX8_aZone 204 = .ok (.getfield 34, 3) := by decide +kernel
theorem dX8_aZone_207 : decode cX8_aZone 207 = .ok (.iload_n 1, 1) := by decide +kernel
theorem dX8_aZone_208 : decode cX8_aZone 208 = .ok (.dup2, 1) := by decide +kernel
theorem dX8_aZone_209 : decode cX8_aZone 209 = .ok (.iaload, 1) := by decide +kernel
theorem dX8_aZone_210 : decode cX8_aZone 210 = .ok (.iconst 1, 1) := by decide +kernel
theorem dX8_aZone_211 : decode cX8_aZone 211 = .ok (.iadd, 1) := by decide +kernel
theorem dX8_aZone_212 : decode cX8_aZone 212 = .ok (.iastore, 1) := by decide +kernel
theorem dX8_aZone_213 : decode cX8_aZone 213 = .ok (.aload_n 0, 1) := by decide +kernel
theorem dX8_aZone_214 : decode cX8_aZone 214 = .ok (.bipush 59, 2) := by decide +kernel
theorem dX8_aZone_216 : decode cX8_aZone 216 = .ok (.invokevirtual 143, 3) := by decide +kernel
theorem dX8_aZone_219 : decode cX8_aZone 219 = .ok (.ireturn, 1) := by decide +kernel
theorem dX8_book_0 : decode cX8_book 0 = .ok (.aload_n 0, 1) := by decide +kernel
theorem dX8_book_1 : decode cX8_book 1 = .ok (.iconst 0, 1) := by decide +kernel
theorem dX8_book_2 : decode cX8_book 2 = .ok (.putfield 128, 3) := by decide +kernel
theorem dX8_book_5 : decode cX8_book 5 = .ok (.aload_n 0, 1) := by decide +kernel
theorem dX8_book_6 : decode cX8_book 6 = .ok (.iconst 0, 1) := by decide +kernel
theorem dX8_book_7 : decode cX8_book 7 = .ok (.putfield 103, 3) := by decide +kernel
theorem dX8_book_10 : decode cX8_book 10 = .ok (.iconst 0, 1) := by decide +kernel
theorem dX8_book_11 : decode cX8_book 11 = .ok (.istore_n 1, 1) := by decide +kernel
theorem dX8_book_12 : decode cX8_book 12 = .ok (.iload_n 1, 1) := by decide +kernel
theorem dX8_book_13 : decode cX8_book 13 = .ok (.bipush 7, 2) := by decide +kernel
theorem dX8_book_15 : decode cX8_book 15 = .ok (.if_icmp .ge 16, 3) := by decide +kernel
theorem dX8_book_18 : decode cX8_book 18 = .ok (.aload_n 0, 1) := by decide +kernel
theorem dX8_book_19 : decode cX8_book 19 = .ok (.getfield 34, 3) := by decide +kernel
theorem dX8_book_22 : decode cX8_book 22 = .ok (.iload_n 1, 1) := by decide +kernel
theorem dX8_book_23 : decode cX8_book 23 = .ok (.iconst 0, 1) := by decide +kernel
theorem dX8_book_24 : decode cX8_book 24 = .ok (.iastore, 1) := by decide +kernel
theorem dX8_book_25 : decode cX8_book 25 = .ok (.iinc 1 1, 3) := by decide +kernel
theorem dX8_book_28 : decode cX8_book 28 = .ok (.goto (-16), 3) := by decide +kernel
theorem dX8_book_31 : decode cX8_book 31 = .ok (.aload_n 0, 1) := by decide +kernel
theorem dX8_book_32 : decode cX8_book 32 = .ok (.invokevirtual 137, 3) := by decide +kernel
theorem dX8_book_35 : decode cX8_book 35 = .ok (.iconst 1, 1) := by decide +kernel
theorem dX8_book_36 : decode cX8_book 36 = .ok (.istore_n 1, 1) := by decide +kernel
theorem dX8_book_37 : decode cX8_book 37 = .ok (.iload_n 1, 1) := by decide +kernel
theorem dX8_book_38 : decode cX8_book 38 = .ok (.ifCond .eq 18, 3) := by decide +kernel
theorem dX8_book_41 : decode cX8_book 41 = .ok (.aload_n 0, 1) := by decide +kernel
theorem dX8_book_42 : decode cX8_book 42 = .ok (.getfield 112, 3) := by decide +kernel
theorem dX8_book_45 : decode cX8_book 45 = .ok (.ifCond .eq 11, 3) := by decide +kernel
theorem dX8_book_48 : decode cX8_book 48 = .ok (.aload_n 0, 1) := by decide +kernel
theorem dX8_book_49 : decode cX8_book 49 = .ok (.invokevirtual 150, 3) := by decide +kernel
theorem dX8_book_52 : decode cX8_book 52 = .ok (.istore_n 1, 1) := by decide +kernel
theorem dX8_book_53 : decode cX8_book 53 = .ok (.goto (-16), 3) := by decide +kernel
theorem dX8_book_56 : decode cX8_book 56 = .ok (.aload_n 0, 1) := by decide +kernel
theorem dX8_book_57 : decode cX8_book 57 = .ok (.iconst 0, 1) := by decide +kernel
theorem dX8_book_58 : decode cX8_book 58 = .ok (.putfield 92, 3) := by decide +kernel
theorem dX8_book_61 : decode cX8_book 61 = .ok (.aload_n 0, 1) := by decide +kernel
theorem dX8_book_62 : decode cX8_book 62 = .ok (.aload_n 0, 1) := by decide +kernel
theorem dX8_book_63 : decode cX8_book 63 = .ok (.getfield 128, 3) := by decide +kernel
theorem dX8_book_66 : decode cX8_book 66 = .ok (.putfield 154, 3) := by decide +kernel
theorem dX8_book_69 : decode cX8_book 69 = .ok (.aload_n 0, 1) := by decide +kernel
theorem dX8_book_70 : decode cX8_book 70 = .ok (.iload_n 1, 1) := by decide +kernel
theorem dX8_book_71 : decode cX8_book 71 = .ok (.ifCond .eq 7, 3) := by decide +kernel
theorem dX8_book_74 : decode cX8_book 74 = .ok (.iconst (-1), 1) := by decide +kernel
theorem dX8_book_75 : decode cX8_book 75 = .ok (.goto 7, 3) := by decide +kernel
theorem dX8_book_78 : decode cX8_book 78 = .ok (.aload_n 0, 1) := by decide +kernel
theorem dX8_book_79 : decode cX8_book 79 = .ok (.getfield 131, 3) := by decide +kernel
theorem dX8_book_82 : decode cX8_book 82 = .ok (.putfield 43, 3) := by decide +kernel
theorem dX8_book_85 : decode cX8_book 85 = .ok (.iload_n 1, 1) := by decide +kernel
theorem dX8_book_86 : decode cX8_book 86 = .ok (.ifCond .ne 5, 3) := by decide +kernel
theorem dX8_book_89 : decode cX8_book 89 = .ok (.iconst (-1), 1) := by decide +kernel
theorem dX8_book_90 : decode cX8_book 90 = .ok (.ireturn, 1) := by decide +kernel
theorem dX8_book_91 : decode cX8_book 91 = .ok (.iconst 0, 1) := by decide +kernel
theorem dX8_book_92 : decode cX8_book 92 = .ok (.istore_n 2, 1) := by decide +kernel
theorem dX8_book_93 : decode cX8_book 93 = .ok (.iload_n 2, 1) := by decide +kernel
theorem dX8_book_94 : decode cX8_book 94 = .ok (.bipush 7, 2) := by decide +kernel
theorem dX8_book_96 : decode cX8_book 96 = .ok (.if_icmp .ge 21, 3) := by decide +kernel
theorem dX8_book_99 : decode cX8_book 99 = .ok (.aload_n 0, 1) := by decide +kernel
theorem dX8_book_100 : decode cX8_book 100 = .ok (.getfield 28, 3) := by decide +kernel
theorem dX8_book_103 : decode cX8_book 103 = .ok (.iload_n 2, 1) := by decide +kernel
theorem dX8_book_104 : decode cX8_book 104 = .ok (.aload_n 0, 1) := by decide +kernel
theorem dX8_book_105 : decode cX8_book 105 = .ok (.getfield 34, 3) := by decide +kernel
theorem dX8_book_108 : decode cX8_book 108 = .ok (.iload_n 2, 1) := by decide +kernel
theorem dX8_book_109 : decode cX8_book 109 = .ok (.iaload, 1) := by decide +kernel
theorem dX8_book_110 : decode cX8_book 110 = .ok (.iastore, 1) := by decide +kernel
theorem dX8_book_111 : decode cX8_book 111 = .ok (.iinc 2 1, 3) := by decide +kernel
theorem dX8_book_114 : decode cX8_book 114 = .ok (.goto (-21), 3) := by decide +kernel
theorem dX8_book_117 : decode cX8_book 117 = .ok (.iconst 0, 1) := by decide +kernel
theorem dX8_book_118 : decode cX8_book 118 = .ok (.istore_n 2, 1) := by decide +kernel
theorem dX8_book_119 : decode cX8_book 119 = .ok (.iload_n 2, 1) := by decide +kernel
theorem dX8_book_120 : decode cX8_book 120 = .ok (.bipush 84, 2) := by decide +kernel
theorem dX8_book_122 : decode cX8_book 122 = .ok (.if_icmp .ge 21, 3) := by decide +kernel
theorem dX8_book_125 : decode cX8_book 125 = .ok (.aload_n 0, 1) := by decide +kernel
theorem dX8_book_126 : decode cX8_book 126 = .ok (.getfield 31, 3) := by decide +kernel
theorem dX8_book_129 : decode cX8_book 129 = .ok (.iload_n 2, 1) := by decide +kernel
theorem dX8_book_130 : decode cX8_book 130 = .ok (.aload_n 0, 1) := by decide +kernel
theorem dX8_book_131 : decode cX8_book 131 = .ok (.getfield 37, 3) := by decide +kernel
theorem dX8_book_134 : decode cX8_book 134 = .ok (.iload_n 2, 1) := by decide +kernel
theorem dX8_book_135 : decode cX8_book 135 = .ok (.iaload, 1) := by decide +kernel
theorem dX8_book_136 : decode cX8_book 136 = .ok (.iastore, 1) := by decide +kernel
theorem dX8_book_137 : decode cX8_book 137 = .ok (.iinc 2 1, 3) := by decide +kernel
theorem dX8_book_140 : decode cX8_book 140 = .ok (.goto (-21), 3) := by decide +kernel
theorem dX8_book_143 : decode cX8_book 143 = .ok (.aload_n 0, 1) := by decide +kernel
theorem dX8_book_144 : decode cX8_book 144 = .ok (.invokevirtual 157, 3) := by decide +kernel
theorem dX8_book_147 : decode cX8_book 147 = .ok (.ireturn, 1) := by decide +kernel
theorem dX8_all_0 : decode cX8_all 0 = .ok (.iconst 0, 1) := by decide +kernel
theorem dX8_all_1 : decode cX8_all 1 = .ok (.istore_n 1, 1) := by decide +kernel
theorem dX8_all_2 : decode cX8_all 2 = .ok (.iconst 0, 1) := by decide +kernel
theorem dX8_all_3 : decode cX8_all 3 = .ok (.istore_n 2, 1) := by decide +kernel
theorem dX8_all_4 : decode cX8_all 4 = .ok (.iload_n 2, 1) := by decide +kernel
theorem dX8_all_5 : decode cX8_all 5 = .ok (.bipush 7, 2) := by decide +kernel
theorem dX8_all_7 : decode cX8_all 7 = .ok (.if_icmp .ge 18, 3) := by decide +kernel
theorem dX8_all_10 : decode cX8_all 10 = .ok (.iload_n 1, 1) := by decide +kernel
theorem dX8_all_11 : decode cX8_all 11 = .ok (.aload_n 0, 1) := by decide +kernel
theorem dX8_all_12 : decode cX8_all 12 = .ok (.getfield 28, 3) := by decide +kernel
theorem dX8_all_15 : decode cX8_all 15 = .ok (.iload_n 2, 1) := by decide +kernel
theorem dX8_all_16 : decode cX8_all 16 = .ok (.iaload, 1) := by decide +kernel
theorem dX8_all_17 : decode cX8_all 17 = .ok (.iadd, 1) := by decide +kernel
theorem dX8_all_18 : decode cX8_all 18 = .ok (.istore_n 1, 1) := by decide +kernel
theorem dX8_all_19 : decode cX8_all 19 = .ok (.iinc 2 1, 3) := by decide +kernel
theorem dX8_all_22 : decode cX8_all 22 = .ok (.goto (-18), 3) := by decide +kernel
theorem dX8_all_25 : decode cX8_all 25 = .ok (.iload_n 1, 1) := by decide +kernel
theorem dX8_all_26 : decode cX8_all 26 = .ok (.ireturn, 1) := by decide +kernel
theorem dX8_fault_0 : decode cX8_fault 0 = .ok (.iload_n 1, 1) := by decide +kernel
theorem dX8_fault_1 : decode cX8_fault 1 = .ok (.ifCond .ne 10, 3) := by decide +kernel
theorem dX8_fault_4 : decode cX8_fault 4 = .ok (.aload_n 0, 1) := by decide +kernel
theorem dX8_fault_5 : decode cX8_fault 5 = .ok (.getfield 154, 3) := by decide +kernel
theorem dX8_fault_8 : decode cX8_fault 8 = .ok (.goto 16, 3) := by decide +kernel
theorem dX8_fault_11 : decode cX8_fault 11 = .ok (.iload_n 1, 1) := by decide +kernel
theorem dX8_fault_12 : decode cX8_fault 12 = .ok (.iconst 1, 1) := by decide +kernel
theorem dX8_fault_13 : decode cX8_fault 13 = .ok (.if_icmp .ne 10, 3) := by decide +kernel
theorem dX8_fault_16 : decode cX8_fault 16 = .ok (.aload_n 0, 1) := by decide +kernel
theorem dX8_fault_17 : decode cX8_fault 17 = .ok (.getfield 43, 3) := by decide +kernel
theorem dX8_fault_20 : decode cX8_fault 20 = .ok (.goto 4, 3) := by decide +kernel
theorem dX8_fault_23 : decode cX8_fault 23 = .ok (.iconst (-1), 1) := by decide +kernel
theorem dX8_fault_24 : decode cX8_fault 24 = .ok (.ireturn, 1) := by decide +kernel
theorem dX8_look_0 : decode cX8_look 0 = .ok (.iconst 0, 1) := by decide +kernel
theorem dX8_look_1 : decode cX8_look 1 = .ok (.istore_n 2, 1) := by decide +kernel
theorem dX8_look_2 : decode cX8_look 2 = .ok (.iload_n 1, 1) := by decide +kernel
theorem dX8_look_3 : decode cX8_look 3 = .ok (.tableswitch 60 0 2 #[25, 30, 35], 25) := by decide +kernel
theorem dX8_look_28 : decode cX8_look 28 = .ok (.aload_n 0, 1) := by decide +kernel
theorem dX8_look_29 : decode cX8_look 29 = .ok (.getfield 75, 3) := by decide +kernel
theorem dX8_look_32 : decode cX8_look 32 = .ok (.ireturn, 1) := by decide +kernel
theorem dX8_look_33 : decode cX8_look 33 = .ok (.aload_n 0, 1) := by decide +kernel
theorem dX8_look_34 : decode cX8_look 34 = .ok (.invokevirtual 157, 3) := by decide +kernel
theorem dX8_look_37 : decode cX8_look 37 = .ok (.ireturn, 1) := by decide +kernel
theorem dX8_look_38 : decode cX8_look 38 = .ok (.iconst 1, 1) := by decide +kernel
theorem dX8_look_39 : decode cX8_look 39 = .ok (.istore_n 3, 1) := by decide +kernel
theorem dX8_look_40 : decode cX8_look 40 = .ok (.iload_n 3, 1) := by decide +kernel
theorem dX8_look_41 : decode cX8_look 41 = .ok (.bipush 8, 2) := by decide +kernel
theorem dX8_look_43 : decode cX8_look 43 = .ok (.if_icmp .ge 18, 3) := by decide +kernel
theorem dX8_look_46 : decode cX8_look 46 = .ok (.iload_n 2, 1) := by decide +kernel
theorem dX8_look_47 : decode cX8_look 47 = .ok (.aload_n 0, 1) := by decide +kernel
theorem dX8_look_48 : decode cX8_look 48 = .ok (.getfield 7, 3) := by decide +kernel
theorem dX8_look_51 : decode cX8_look 51 = .ok (.iload_n 3, 1) := by decide +kernel
theorem dX8_look_52 : decode cX8_look 52 = .ok (.iaload, 1) := by decide +kernel
theorem dX8_look_53 : decode cX8_look 53 = .ok (.iadd, 1) := by decide +kernel
theorem dX8_look_54 : decode cX8_look 54 = .ok (.istore_n 2, 1) := by decide +kernel
theorem dX8_look_55 : decode cX8_look 55 = .ok (.iinc 3 1, 3) := by decide +kernel
theorem dX8_look_58 : decode cX8_look 58 = .ok (.goto (-18), 3) := by decide +kernel
theorem dX8_look_61 : decode cX8_look 61 = .ok (.iload_n 2, 1) := by decide +kernel
theorem dX8_look_62 : decode cX8_look 62 = .ok (.ireturn, 1) := by decide +kernel
theorem dX8_look_63 : decode cX8_look 63 = .ok (.iload_n 1, 1) := by decide +kernel
theorem dX8_look_64 : decode cX8_look 64 = .ok (.iconst 3, 1) := by decide +kernel
theorem dX8_look_65 : decode cX8_look 65 = .ok (.bipush 7, 2) := by decide +kernel
theorem dX8_look_67 : decode cX8_look 67 = .ok (.invokestatic 71, 3) := by decide +kernel
theorem dX8_look_70 : decode cX8_look 70 = .ok (.ifCond .eq 14, 3) := by decide +kernel
theorem dX8_look_73 : decode cX8_look 73 = .ok (.aload_n 0, 1) := by decide +kernel
theorem dX8_look_74 : decode cX8_look 74 = .ok (.getfield 25, 3) := by decide +kernel
theorem dX8_look_77 : decode cX8_look 77 = .ok (.iload_n 1, 1) := by decide +kernel
theorem dX8_look_78 : decode cX8_look 78 = .ok (.iconst 3, 1) := by decide +kernel
theorem dX8_look_79 : decode cX8_look 79 = .ok (.isub, 1) := by decide +kernel
theorem dX8_look_80 : decode cX8_look 80 = .ok (.iaload, 1) := by decide +kernel
theorem dX8_look_81 : decode cX8_look 81 = .ok (.goto 4, 3) := by decide +kernel
theorem dX8_look_84 : decode cX8_look 84 = .ok (.iconst (-1), 1) := by decide +kernel
theorem dX8_look_85 : decode cX8_look 85 = .ok (.ireturn, 1) := by decide +kernel
theorem dX8_lesser_0 : decode cX8_lesser 0 = .ok (.iload_n 0, 1) := by decide +kernel
theorem dX8_lesser_1 : decode cX8_lesser 1 = .ok (.iload_n 1, 1) := by decide +kernel
theorem dX8_lesser_2 : decode cX8_lesser 2 = .ok (.if_icmp .ge 7, 3) := by decide +kernel
theorem dX8_lesser_5 : decode cX8_lesser 5 = .ok (.iload_n 0, 1) := by decide +kernel
theorem dX8_lesser_6 : decode cX8_lesser 6 = .ok (.goto 4, 3) := by decide +kernel
theorem dX8_lesser_9 : decode cX8_lesser 9 = .ok (.iload_n 1, 1) := by decide +kernel
theorem dX8_lesser_10 : decode cX8_lesser 10 = .ok (.ireturn, 1) := by decide +kernel
theorem dX8_timeOf_0 : decode cX8_timeOf 0 = .ok (.aload_n 0, 1) := by decide +kernel
theorem dX8_timeOf_1 : decode cX8_timeOf 1 = .ok (.iload_n 2, 1) := by decide +kernel
theorem dX8_timeOf_2 : decode cX8_timeOf 2 = .ok (.invokevirtual 88, 3) := by decide +kernel
theorem dX8_timeOf_5 : decode cX8_timeOf 5 = .ok (.istore_n 3, 1) := by decide +kernel
theorem dX8_timeOf_6 : decode cX8_timeOf 6 = .ok (.iload_n 3, 1) := by decide +kernel
theorem dX8_timeOf_7 : decode cX8_timeOf 7 = .ok (.istore 4, 2) := by decide +kernel
theorem dX8_timeOf_9 : decode cX8_timeOf 9 = .ok (.aload_n 0, 1) := by decide +kernel
theorem dX8_timeOf_10 : decode cX8_timeOf 10 = .ok (.getfield 16, 3) := by decide +kernel
theorem dX8_timeOf_13 : decode cX8_timeOf 13 = .ok (.iload_n 1, 1) := by decide +kernel
theorem dX8_timeOf_14 : decode cX8_timeOf 14 = .ok (.iaload, 1) := by decide +kernel
theorem dX8_timeOf_15 : decode cX8_timeOf 15 = .ok (.i2l, 1) := by decide +kernel
theorem dX8_timeOf_16 : decode cX8_timeOf 16 = .ok (.lstore 5, 2) := by decide +kernel
theorem dX8_timeOf_18 : decode cX8_timeOf 18 = .ok (.lconst 0, 1) := by decide +kernel
theorem dX8_timeOf_19 : decode cX8_timeOf 19 = .ok (.lstore 7, 2) := by decide +kernel
theorem dX8_timeOf_21 : decode cX8_timeOf 21 = .ok (.iconst 0, 1) := by decide +kernel
theorem dX8_timeOf_22 : decode cX8_timeOf 22 = .ok (.istore 9, 2) := by decide +kernel
theorem dX8_timeOf_24 : decode cX8_timeOf 24 = .ok (.iload 9, 2) := by decide +kernel
theorem dX8_timeOf_26 : decode cX8_timeOf 26 = .ok (.aload_n 0, 1) := by decide +kernel
theorem dX8_timeOf_27 : decode cX8_timeOf 27 = .ok (.getfield 28, 3) := by decide +kernel
theorem dX8_timeOf_30 : decode cX8_timeOf 30 = .ok (.iload_n 2, 1) := by decide +kernel
theorem dX8_timeOf_31 : decode cX8_timeOf 31 = .ok (.iaload, 1) := by decide +kernel
theorem dX8_timeOf_32 : decode cX8_timeOf 32 = .ok (.if_icmp .ge 121, 3) := by decide +kernel
theorem dX8_timeOf_35 : decode cX8_timeOf 35 = .ok (.bipush 12, 2) := by decide +kernel
theorem dX8_timeOf_37 : decode cX8_timeOf 37 = .ok (.iload_n 2, 1) := by decide +kernel
theorem dX8_timeOf_38 : decode cX8_timeOf 38 = .ok (.imul, 1) := by decide +kernel
theorem dX8_timeOf_39 : decode cX8_timeOf 39 = .ok (.iconst 3, 1) := by decide +kernel
theorem dX8_timeOf_40 : decode cX8_timeOf 40 = .ok (.iload 9, 2) := by decide +kernel
theorem dX8_timeOf_42 : decode cX8_timeOf 42 = .ok (.imul, 1) := by decide +kernel
theorem dX8_timeOf_43 : decode cX8_timeOf 43 = .ok (.iadd, 1) := by decide +kernel
theorem dX8_timeOf_44 : decode cX8_timeOf 44 = .ok (.istore 10, 2) := by decide +kernel
theorem dX8_timeOf_46 : decode cX8_timeOf 46 = .ok (.aload_n 0, 1) := by decide +kernel
theorem dX8_timeOf_47 : decode cX8_timeOf 47 = .ok (.getfield 31, 3) := by decide +kernel
theorem dX8_timeOf_50 : decode cX8_timeOf 50 = .ok (.iload 10, 2) := by decide +kernel
theorem dX8_timeOf_52 : decode cX8_timeOf 52 = .ok (.iconst 1, 1) := by decide +kernel
theorem dX8_timeOf_53 : decode cX8_timeOf 53 = .ok (.iadd, 1) := by decide +kernel
theorem dX8_timeOf_54 : decode cX8_timeOf 54 = .ok (.iaload, 1) := by decide +kernel
theorem dX8_timeOf_55 : decode cX8_timeOf 55 = .ok (.iload_n 3, 1) := by decide +kernel
theorem dX8_timeOf_56 : decode cX8_timeOf 56 = .ok (.invokestatic 161, 3) := by decide +kernel
theorem dX8_timeOf_59 : decode cX8_timeOf 59 = .ok (.aload_n 0, 1) := by decide +kernel
theorem dX8_timeOf_60 : decode cX8_timeOf 60 = .ok (.getfield 31, 3) := by decide +kernel
theorem dX8_timeOf_63 : decode cX8_timeOf 63 = .ok (.iload 10, 2) := by decide +kernel
theorem dX8_timeOf_65 : decode cX8_timeOf 65 = .ok (.iaload, 1) := by decide +kernel
theorem dX8_timeOf_66 : decode cX8_timeOf 66 = .ok (.iload_n 3, 1) := by decide +kernel
theorem dX8_timeOf_67 : decode cX8_timeOf 67 = .ok (.invokestatic 161, 3) := by decide +kernel
theorem dX8_timeOf_70 : decode cX8_timeOf 70 = .ok (.isub, 1) := by decide +kernel
theorem dX8_timeOf_71 : decode cX8_timeOf 71 = .ok (.istore 11, 2) := by decide +kernel
theorem dX8_timeOf_73 : decode cX8_timeOf 73 = .ok (.iload 11, 2) := by decide +kernel
theorem dX8_timeOf_75 : decode cX8_timeOf 75 = .ok (.ifCond .eq 72, 3) := by decide +kernel
theorem dX8_timeOf_78 : decode cX8_timeOf 78 = .ok (.aload_n 0, 1) := by decide +kernel
theorem dX8_timeOf_79 : decode cX8_timeOf 79 = .ok (.getfield 31, 3) := by decide +kernel
theorem dX8_timeOf_82 : decode cX8_timeOf 82 = .ok (.iload 10, 2) := by decide +kernel
theorem dX8_timeOf_84 : decode cX8_timeOf 84 = .ok (.iconst 2, 1) := by decide +kernel
theorem dX8_timeOf_85 : decode cX8_timeOf 85 = .ok (.iadd, 1) := by decide +kernel
theorem dX8_timeOf_86 : decode cX8_timeOf 86 = .ok (.iaload, 1) := by decide +kernel
theorem dX8_timeOf_87 : decode cX8_timeOf 87 = .ok (.aload_n 0, 1) := by decide +kernel
theorem dX8_timeOf_88 : decode cX8_timeOf 88 = .ok (.getfield 16, 3) := by decide +kernel
theorem dX8_timeOf_91 : decode cX8_timeOf 91 = .ok (.iload_n 1, 1) := by decide +kernel
theorem dX8_timeOf_92 : decode cX8_timeOf 92 = .ok (.iaload, 1) := by decide +kernel
theorem dX8_timeOf_93 : decode cX8_timeOf 93 = .ok (.if_icmp .lt 6, 3) := by decide +kernel
theorem dX8_timeOf_96 : decode cX8_timeOf 96 = .ok (.goto 51, 3) := by decide +kernel
theorem dX8_timeOf_99 : decode cX8_timeOf 99 = .ok (.iload 4, 2) := by decide +kernel
theorem dX8_timeOf_101 : decode cX8_timeOf 101 = .ok (.iload 11, 2) := by decide +kernel
theorem dX8_timeOf_103 : decode cX8_timeOf 103 = .ok (.isub, 1) := by decide +kernel
theorem dX8_timeOf_104 : decode cX8_timeOf 104 = .ok (.istore 4, 2) := by decide +kernel
theorem dX8_timeOf_106 : decode cX8_timeOf 106 = .ok (.lload 7, 2) := by decide +kernel
theorem dX8_timeOf_108 : decode cX8_timeOf 108 = .ok (.aload_n 0, 1) := by decide +kernel
theorem dX8_timeOf_109 : decode cX8_timeOf 109 = .ok (.getfield 31, 3) := by decide +kernel
theorem dX8_timeOf_112 : decode cX8_timeOf 112 = .ok (.iload 10, 2) := by decide +kernel
theorem dX8_timeOf_114 : decode cX8_timeOf 114 = .ok (.iconst 2, 1) := by decide +kernel
theorem dX8_timeOf_115 : decode cX8_timeOf 115 = .ok (.iadd, 1) := by decide +kernel
theorem dX8_timeOf_116 : decode cX8_timeOf 116 = .ok (.iaload, 1) := by decide +kernel
theorem dX8_timeOf_117 : decode cX8_timeOf 117 = .ok (.i2l, 1) := by decide +kernel
theorem dX8_timeOf_118 : decode cX8_timeOf 118 = .ok (.lmul, 1) := by decide +kernel
theorem dX8_timeOf_119 : decode cX8_timeOf 119 = .ok (.ldc2_w 165, 3) := by decide +kernel
theorem dX8_timeOf_122 : decode cX8_timeOf 122 = .ok (.iload 11, 2) := by decide +kernel
theorem dX8_timeOf_124 : decode cX8_timeOf 124 = .ok (.i2l, 1) := by decide +kernel
theorem dX8_timeOf_125 : decode cX8_timeOf 125 = .ok (.lmul, 1) := by decide +kernel
theorem dX8_timeOf_126 : decode cX8_timeOf 126 = .ok (.lload 5, 2) := by decide +kernel
theorem dX8_timeOf_128 : decode cX8_timeOf 128 = .ok (.lmul, 1) := by decide +kernel
theorem dX8_timeOf_129 : decode cX8_timeOf 129 = .ok (.ladd, 1) := by decide +kernel
theorem dX8_timeOf_130 : decode cX8_timeOf 130 = .ok (.lstore 7, 2) := by decide +kernel
theorem dX8_timeOf_132 : decode cX8_timeOf 132 = .ok (.lload 5, 2) := by decide +kernel
theorem dX8_timeOf_134 : decode cX8_timeOf 134 = .ok (.aload_n 0, 1) := by decide +kernel
theorem dX8_timeOf_135 : decode cX8_timeOf 135 = .ok (.getfield 31, 3) := by decide +kernel
theorem dX8_timeOf_138 : decode cX8_timeOf 138 = .ok (.iload 10, 2) := by decide +kernel
theorem dX8_timeOf_140 : decode cX8_timeOf 140 = .ok (.iconst 2, 1) := by decide +kernel
theorem dX8_timeOf_141 : decode cX8_timeOf 141 = .ok (.iadd, 1) := by decide +kernel
theorem dX8_timeOf_142 : decode cX8_timeOf 142 = .ok (.iaload, 1) := by decide +kernel
theorem dX8_timeOf_143 : decode cX8_timeOf 143 = .ok (.i2l, 1) := by decide +kernel
theorem dX8_timeOf_144 : decode cX8_timeOf 144 = .ok (.lmul, 1) := by decide +kernel
theorem dX8_timeOf_145 : decode cX8_timeOf 145 = .ok (.lstore 5, 2) := by decide +kernel
theorem dX8_timeOf_147 : decode cX8_timeOf 147 = .ok (.iinc 9 1, 3) := by decide +kernel
theorem dX8_timeOf_150 : decode cX8_timeOf 150 = .ok (.goto (-126), 3) := by decide +kernel
theorem dX8_timeOf_153 : decode cX8_timeOf 153 = .ok (.lload 7, 2) := by decide +kernel
theorem dX8_timeOf_155 : decode cX8_timeOf 155 = .ok (.ldc2_w 165, 3) := by decide +kernel
theorem dX8_timeOf_158 : decode cX8_timeOf 158 = .ok (.iload 4, 2) := by decide +kernel
theorem dX8_timeOf_160 : decode cX8_timeOf 160 = .ok (.i2l, 1) := by decide +kernel
theorem dX8_timeOf_161 : decode cX8_timeOf 161 = .ok (.lmul, 1) := by decide +kernel
theorem dX8_timeOf_162 : decode cX8_timeOf 162 = .ok (.lload 5, 2) := by decide +kernel
theorem dX8_timeOf_164 : decode cX8_timeOf 164 = .ok (.aload_n 0, 1) := by decide +kernel
theorem dX8_timeOf_165 : decode cX8_timeOf 165 = .ok (.getfield 16, 3) := by decide +kernel
theorem dX8_timeOf_168 : decode cX8_timeOf 168 = .ok (.iload_n 1, 1) := by decide +kernel
theorem dX8_timeOf_169 : decode cX8_timeOf 169 = .ok (.iaload, 1) := by decide +kernel
theorem dX8_timeOf_170 : decode cX8_timeOf 170 = .ok (.i2l, 1) := by decide +kernel
theorem dX8_timeOf_171 : decode cX8_timeOf 171 = .ok (.ldiv, 1) := by decide +kernel
theorem dX8_timeOf_172 : decode cX8_timeOf 172 = .ok (.lmul, 1) := by decide +kernel
theorem dX8_timeOf_173 : decode cX8_timeOf 173 = .ok (.ladd, 1) := by decide +kernel
theorem dX8_timeOf_174 : decode cX8_timeOf 174 = .ok (.lstore 7, 2) := by decide +kernel
theorem dX8_timeOf_176 : decode cX8_timeOf 176 = .ok (.lload 7, 2) := by decide +kernel
theorem dX8_timeOf_178 : decode cX8_timeOf 178 = .ok (.lload 5, 2) := by decide +kernel
theorem dX8_timeOf_180 : decode cX8_timeOf 180 = .ok (.ladd, 1) := by decide +kernel
theorem dX8_timeOf_181 : decode cX8_timeOf 181 = .ok (.lconst 1, 1) := by decide +kernel
theorem dX8_timeOf_182 : decode cX8_timeOf 182 = .ok (.lsub, 1) := by decide +kernel
theorem dX8_timeOf_183 : decode cX8_timeOf 183 = .ok (.lload 5, 2) := by decide +kernel
theorem dX8_timeOf_185 : decode cX8_timeOf 185 = .ok (.ldiv, 1) := by decide +kernel
theorem dX8_timeOf_186 : decode cX8_timeOf 186 = .ok (.l2i, 1) := by decide +kernel
theorem dX8_timeOf_187 : decode cX8_timeOf 187 = .ok (.ireturn, 1) := by decide +kernel
theorem dX8_time_0 : decode cX8_time 0 = .ok (.aload_n 0, 1) := by decide +kernel
theorem dX8_time_1 : decode cX8_time 1 = .ok (.iload_n 1, 1) := by decide +kernel
theorem dX8_time_2 : decode cX8_time 2 = .ok (.invokevirtual 85, 3) := by decide +kernel
theorem dX8_time_5 : decode cX8_time 5 = .ok (.ifCond .eq 19, 3) := by decide +kernel
theorem dX8_time_8 : decode cX8_time 8 = .ok (.iload_n 2, 1) := by decide +kernel
theorem dX8_time_9 : decode cX8_time 9 = .ok (.invokestatic 82, 3) := by decide +kernel
theorem dX8_time_12 : decode cX8_time 12 = .ok (.ifCond .eq 12, 3) := by decide +kernel
theorem dX8_time_15 : decode cX8_time 15 = .ok (.aload_n 0, 1) := by decide +kernel
theorem dX8_time_16 : decode cX8_time 16 = .ok (.iload_n 1, 1) := by decide +kernel
theorem dX8_time_17 : decode cX8_time 17 = .ok (.iload_n 2, 1) := by decide +kernel
theorem dX8_time_18 : decode cX8_time 18 = .ok (.invokevirtual 167, 3) := by decide +kernel
theorem dX8_time_21 : decode cX8_time 21 = .ok (.goto 4, 3) := by decide +kernel
theorem dX8_time_24 : decode cX8_time 24 = .ok (.iconst (-1), 1) := by decide +kernel
theorem dX8_time_25 : decode cX8_time 25 = .ok (.ireturn, 1) := by decide +kernel
theorem dX8_runs_0 : decode cX8_runs 0 = .ok (.iconst 0, 1) := by decide +kernel
theorem dX8_runs_1 : decode cX8_runs 1 = .ok (.istore_n 1, 1) := by decide +kernel
theorem dX8_runs_2 : decode cX8_runs 2 = .ok (.iload_n 1, 1) := by decide +kernel
theorem dX8_runs_3 : decode cX8_runs 3 = .ok (.bipush 7, 2) := by decide +kernel
theorem dX8_runs_5 : decode cX8_runs 5 = .ok (.if_icmp .ge 237, 3) := by decide +kernel
theorem dX8_runs_8 : decode cX8_runs 8 = .ok (.iconst 0, 1) := by decide +kernel
theorem dX8_runs_9 : decode cX8_runs 9 = .ok (.istore_n 2, 1) := by decide +kernel
theorem dX8_runs_10 : decode cX8_runs 10 = .ok (.iload_n 2, 1) := by decide +kernel
theorem dX8_runs_11 : decode cX8_runs 11 = .ok (.bipush 10, 2) := by decide +kernel
theorem dX8_runs_13 : decode cX8_runs 13 = .ok (.if_icmp .ge 33, 3) := by decide +kernel
theorem dX8_runs_16 : decode cX8_runs 16 = .ok (.aload_n 0, 1) := by decide +kernel
theorem dX8_runs_17 : decode cX8_runs 17 = .ok (.getfield 47, 3) := by decide +kernel
theorem dX8_runs_20 : decode cX8_runs 20 = .ok (.bipush 10, 2) := by decide +kernel
theorem dX8_runs_22 : decode cX8_runs 22 = .ok (.iload_n 1, 1) := by decide +kernel
theorem dX8_runs_23 : decode cX8_runs 23 = .ok (.imul, 1) := by decide +kernel
theorem dX8_runs_24 : decode cX8_runs 24 = .ok (.iload_n 2, 1) := by decide +kernel
theorem dX8_runs_25 : decode cX8_runs 25 = .ok (.iadd, 1) := by decide +kernel
theorem dX8_runs_26 : decode cX8_runs 26 = .ok (.iconst (-1), 1) := by decide +kernel
theorem dX8_runs_27 : decode cX8_runs 27 = .ok (.iastore, 1) := by decide +kernel
theorem dX8_runs_28 : decode cX8_runs 28 = .ok (.aload_n 0, 1) := by decide +kernel
theorem dX8_runs_29 : decode cX8_runs 29 = .ok (.getfield 50, 3) := by decide +kernel
theorem dX8_runs_32 : decode cX8_runs 32 = .ok (.bipush 10, 2) := by decide +kernel
theorem dX8_runs_34 : decode cX8_runs 34 = .ok (.iload_n 1, 1) := by decide +kernel
theorem dX8_runs_35 : decode cX8_runs 35 = .ok (.imul, 1) := by decide +kernel
theorem dX8_runs_36 : decode cX8_runs 36 = .ok (.iload_n 2, 1) := by decide +kernel
theorem dX8_runs_37 : decode cX8_runs 37 = .ok (.iadd, 1) := by decide +kernel
theorem dX8_runs_38 : decode cX8_runs 38 = .ok (.iconst (-1), 1) := by decide +kernel
theorem dX8_runs_39 : decode cX8_runs 39 = .ok (.iastore, 1) := by decide +kernel
theorem dX8_runs_40 : decode cX8_runs 40 = .ok (.iinc 2 1, 3) := by decide +kernel
theorem dX8_runs_43 : decode cX8_runs 43 = .ok (.goto (-33), 3) := by decide +kernel
theorem dX8_runs_46 : decode cX8_runs 46 = .ok (.iload_n 1, 1) := by decide +kernel
theorem dX8_runs_47 : decode cX8_runs 47 = .ok (.ifCond .ne 10, 3) := by decide +kernel
theorem dX8_runs_50 : decode cX8_runs 50 = .ok (.aload_n 0, 1) := by decide +kernel
theorem dX8_runs_51 : decode cX8_runs 51 = .ok (.getfield 75, 3) := by decide +kernel
theorem dX8_runs_54 : decode cX8_runs 54 = .ok (.goto 11, 3) := by decide +kernel
theorem dX8_runs_57 : decode cX8_runs 57 = .ok (.aload_n 0, 1) := by decide +kernel
theorem dX8_runs_58 : decode cX8_runs 58 = .ok (.getfield 59, 3) := by decide +kernel
theorem dX8_runs_61 : decode cX8_runs 61 = .ok (.iload_n 1, 1) := by decide +kernel
theorem dX8_runs_62 : decode cX8_runs 62 = .ok (.iconst 1, 1) := by decide +kernel
theorem dX8_runs_63 : decode cX8_runs 63 = .ok (.isub, 1) := by decide +kernel
theorem dX8_runs_64 : decode cX8_runs 64 = .ok (.iaload, 1) := by decide +kernel
theorem dX8_runs_65 : decode cX8_runs 65 = .ok (.istore_n 2, 1) := by decide +kernel
theorem dX8_runs_66 : decode cX8_runs 66 = .ok (.aload_n 0, 1) := by decide +kernel
theorem dX8_runs_67 : decode cX8_runs 67 = .ok (.getfield 59, 3) := by decide +kernel
theorem dX8_runs_70 : decode cX8_runs 70 = .ok (.iload_n 1, 1) := by decide +kernel
theorem dX8_runs_71 : decode cX8_runs 71 = .ok (.iconst 0, 1) := by decide +kernel
theorem dX8_runs_72 : decode cX8_runs 72 = .ok (.iastore, 1) := by decide +kernel
theorem dX8_runs_73 : decode cX8_runs 73 = .ok (.iconst 0, 1) := by decide +kernel
theorem dX8_runs_74 : decode cX8_runs 74 = .ok (.istore_n 3, 1) := by decide +kernel
theorem dX8_runs_75 : decode cX8_runs 75 = .ok (.iload_n 3, 1) := by decide +kernel
theorem dX8_runs_76 : decode cX8_runs 76 = .ok (.iload_n 2, 1) := by decide +kernel
theorem dX8_runs_77 : decode cX8_runs 77 = .ok (.if_icmp .ge 159, 3) := by decide +kernel
theorem dX8_runs_80 : decode cX8_runs 80 = .ok (.iload_n 1, 1) := by decide +kernel
theorem dX8_runs_81 : decode cX8_runs 81 = .ok (.ifCond .ne 7, 3) := by decide +kernel
theorem dX8_runs_84 : decode cX8_runs 84 = .ok (.iload_n 3, 1) := by decide +kernel
theorem dX8_runs_85 : decode cX8_runs 85 = .ok (.goto 17, 3) := by decide +kernel
theorem dX8_runs_88 : decode cX8_runs 88 = .ok (.aload_n 0, 1) := by decide +kernel
theorem dX8_runs_89 : decode cX8_runs 89 = .ok (.getfield 56, 3) := by decide +kernel
theorem dX8_runs_92 : decode cX8_runs 92 = .ok (.bipush 10, 2) := by decide +kernel
theorem dX8_runs_94 : decode cX8_runs 94 = .ok (.iload_n 1, 1) := by decide +kernel
theorem dX8_runs_95 : decode cX8_runs 95 = .ok (.imul, 1) := by decide +kernel
theorem dX8_runs_96 : decode cX8_runs 96 = .ok (.bipush 10, 2) := by decide +kernel
theorem dX8_runs_98 : decode cX8_runs 98 = .ok (.isub, 1) := by decide +kernel
theorem dX8_runs_99 : decode cX8_runs 99 = .ok (.iload_n 3, 1) := by decide +kernel
theorem dX8_runs_100 : decode cX8_runs 100 = .ok (.iadd, 1) := by decide +kernel
theorem dX8_runs_101 : decode cX8_runs 101 = .ok (.iaload, 1) := by decide +kernel
theorem dX8_runs_102 : decode cX8_runs 102 = .ok (.istore 4, 2) := by decide +kernel
theorem dX8_runs_104 : decode cX8_runs 104 = .ok (.aload_n 0, 1) := by decide +kernel
theorem dX8_runs_105 : decode cX8_runs 105 = .ok (.getfield 47, 3) := by decide +kernel
theorem dX8_runs_108 : decode cX8_runs 108 = .ok (.bipush 10, 2) := by decide +kernel
theorem dX8_runs_110 : decode cX8_runs 110 = .ok (.iload_n 1, 1) := by decide +kernel
theorem dX8_runs_111 : decode cX8_runs 111 = .ok (.imul, 1) := by decide +kernel
theorem dX8_runs_112 : decode cX8_runs 112 = .ok (.iload 4, 2) := by decide +kernel
theorem dX8_runs_114 : decode cX8_runs 114 = .ok (.iadd, 1) := by decide +kernel
theorem dX8_runs_115 : decode cX8_runs 115 = .ok (.sipush 1440, 3) := by decide +kernel
theorem dX8_runs_118 : decode cX8_runs 118 = .ok (.iload_n 1, 1) := by decide +kernel
theorem dX8_runs_119 : decode cX8_runs 119 = .ok (.imul, 1) := by decide +kernel
theorem dX8_runs_120 : decode cX8_runs 120 = .ok (.bipush 60, 2) := by decide +kernel
theorem dX8_runs_122 : decode cX8_runs 122 = .ok (.aload_n 0, 1) := by decide +kernel
theorem dX8_runs_123 : decode cX8_runs 123 = .ok (.getfield 13, 3) := by decide +kernel
theorem dX8_runs_126 : decode cX8_runs 126 = .ok (.iload_n 1, 1) := by decide +kernel
theorem dX8_runs_127 : decode cX8_runs 127 = .ok (.iaload, 1) := by decide +kernel
theorem dX8_runs_128 : decode cX8_runs 128 = .ok (.imul, 1) := by decide +kernel
theorem dX8_runs_129 : decode cX8_runs 129 = .ok (.iadd, 1) := by decide +kernel
theorem dX8_runs_130 : decode cX8_runs 130 = .ok (.iconst 2, 1) := by decide +kernel
theorem dX8_runs_131 : decode cX8_runs 131 = .ok (.iload_n 3, 1) := by decide +kernel
theorem dX8_runs_132 : decode cX8_runs 132 = .ok (.imul, 1) := by decide +kernel
theorem dX8_runs_133 : decode cX8_runs 133 = .ok (.iadd, 1) := by decide +kernel
theorem dX8_runs_134 : decode cX8_runs 134 = .ok (.iastore, 1) := by decide +kernel
theorem dX8_runs_135 : decode cX8_runs 135 = .ok (.aload_n 0, 1) := by decide +kernel
theorem dX8_runs_136 : decode cX8_runs 136 = .ok (.getfield 19, 3) := by decide +kernel
theorem dX8_runs_139 : decode cX8_runs 139 = .ok (.iload 4, 2) := by decide +kernel
theorem dX8_runs_141 : decode cX8_runs 141 = .ok (.iaload, 1) := by decide +kernel
theorem dX8_runs_142 : decode cX8_runs 142 = .ok (.iload_n 1, 1) := by decide +kernel
theorem dX8_runs_143 : decode cX8_runs 143 = .ok (.if_icmp .ne 6, 3) := by decide +kernel
theorem dX8_runs_146 : decode cX8_runs 146 = .ok (.goto 84, 3) := by decide +kernel
theorem dX8_runs_149 : decode cX8_runs 149 = .ok (.aload_n 0, 1) := by decide +kernel
theorem dX8_runs_150 : decode cX8_runs 150 = .ok (.iload 4, 2) := by decide +kernel
theorem dX8_runs_152 : decode cX8_runs 152 = .ok (.iload_n 1, 1) := by decide +kernel
theorem dX8_runs_153 : decode cX8_runs 153 = .ok (.invokevirtual 167, 3) := by decide +kernel
theorem dX8_runs_156 : decode cX8_runs 156 = .ok (.istore 5, 2) := by decide +kernel
theorem dX8_runs_158 : decode cX8_runs 158 = .ok (.aload_n 0, 1) := by decide +kernel
theorem dX8_runs_159 : decode cX8_runs 159 = .ok (.getfield 50, 3) := by decide +kernel
theorem dX8_runs_162 : decode cX8_runs 162 = .ok (.bipush 10, 2) := by decide +kernel
theorem dX8_runs_164 : decode cX8_runs 164 = .ok (.iload_n 1, 1) := by decide +kernel
theorem dX8_runs_165 : decode cX8_runs 165 = .ok (.imul, 1) := by decide +kernel
theorem dX8_runs_166 : decode cX8_runs 166 = .ok (.iload 4, 2) := by decide +kernel
theorem dX8_runs_168 : decode cX8_runs 168 = .ok (.iadd, 1) := by decide +kernel
theorem dX8_runs_169 : decode cX8_runs 169 = .ok (.aload_n 0, 1) := by decide +kernel
theorem dX8_runs_170 : decode cX8_runs 170 = .ok (.getfield 47, 3) := by decide +kernel
theorem dX8_runs_173 : decode cX8_runs 173 = .ok (.bipush 10, 2) := by decide +kernel
theorem dX8_runs_175 : decode cX8_runs 175 = .ok (.iload_n 1, 1) := by decide +kernel
theorem dX8_runs_176 : decode cX8_runs 176 = .ok (.imul, 1) := by decide +kernel
theorem dX8_runs_177 : decode cX8_runs 177 = .ok (.iload 4, 2) := by decide +kernel
theorem dX8_runs_179 : decode cX8_runs 179 = .ok (.iadd, 1) := by decide +kernel
theorem dX8_runs_180 : decode cX8_runs 180 = .ok (.iaload, 1) := by decide +kernel
theorem dX8_runs_181 : decode cX8_runs 181 = .ok (.iload 5, 2) := by decide +kernel
theorem dX8_runs_183 : decode cX8_runs 183 = .ok (.iadd, 1) := by decide +kernel
theorem dX8_runs_184 : decode cX8_runs 184 = .ok (.iastore, 1) := by decide +kernel
theorem dX8_runs_185 : decode cX8_runs 185 = .ok (.aload_n 0, 1) := by decide +kernel
theorem dX8_runs_186 : decode cX8_runs 186 = .ok (.getfield 53, 3) := by decide +kernel
theorem dX8_runs_189 : decode cX8_runs 189 = .ok (.bipush 10, 2) := by decide +kernel
theorem dX8_runs_191 : decode cX8_runs 191 = .ok (.iload_n 1, 1) := by decide +kernel
theorem dX8_runs_192 : decode cX8_runs 192 = .ok (.imul, 1) := by decide +kernel
theorem dX8_runs_193 : decode cX8_runs 193 = .ok (.iload 4, 2) := by decide +kernel
theorem dX8_runs_195 : decode cX8_runs 195 = .ok (.iadd, 1) := by decide +kernel
theorem dX8_runs_196 : decode cX8_runs 196 = .ok (.iload 5, 2) := by decide +kernel
theorem dX8_runs_198 : decode cX8_runs 198 = .ok (.iload_n 1, 1) := by decide +kernel
theorem dX8_runs_199 : decode cX8_runs 199 = .ok (.ifCond .ne 7, 3) := by decide +kernel
theorem dX8_runs_202 : decode cX8_runs 202 = .ok (.iconst 0, 1) := by decide +kernel
theorem dX8_runs_203 : decode cX8_runs 203 = .ok (.goto 18, 3) := by decide +kernel
theorem dX8_runs_206 : decode cX8_runs 206 = .ok (.aload_n 0, 1) := by decide +kernel
theorem dX8_runs_207 : decode cX8_runs 207 = .ok (.getfield 53, 3) := by decide +kernel
theorem dX8_runs_210 : decode cX8_runs 210 = .ok (.bipush 10, 2) := by decide +kernel
theorem dX8_runs_212 : decode cX8_runs 212 = .ok (.iload_n 1, 1) := by decide +kernel
theorem dX8_runs_213 : decode cX8_runs 213 = .ok (.imul, 1) := by decide +kernel
theorem dX8_runs_214 : decode cX8_runs 214 = .ok (.bipush 10, 2) := by decide +kernel
theorem dX8_runs_216 : decode cX8_runs 216 = .ok (.isub, 1) := by decide +kernel
theorem dX8_runs_217 : decode cX8_runs 217 = .ok (.iload 4, 2) := by decide +kernel
theorem dX8_runs_219 : decode cX8_runs 219 = .ok (.iadd, 1) := by decide +kernel
theorem dX8_runs_220 : decode cX8_runs 220 = .ok (.iaload, 1) := by decide +kernel
theorem dX8_runs_221 : decode cX8_runs 221 = .ok (.iadd, 1) := by decide +kernel
theorem dX8_runs_222 : decode cX8_runs 222 = .ok (.iastore, 1) := by decide +kernel
theorem dX8_runs_223 : decode cX8_runs 223 = .ok (.aload_n 0, 1) := by decide +kernel
theorem dX8_runs_224 : decode cX8_runs 224 = .ok (.iload_n 1, 1) := by decide +kernel
theorem dX8_runs_225 : decode cX8_runs 225 = .ok (.iload 4, 2) := by decide +kernel
theorem dX8_runs_227 : decode cX8_runs 227 = .ok (.invokevirtual 170, 3) := by decide +kernel
theorem dX8_runs_230 : decode cX8_runs 230 = .ok (.iinc 3 1, 3) := by decide +kernel
theorem dX8_runs_233 : decode cX8_runs 233 = .ok (.goto (-158), 3) := by decide +kernel
theorem dX8_runs_236 : decode cX8_runs 236 = .ok (.iinc 1 1, 3) := by decide +kernel
theorem dX8_runs_239 : decode cX8_runs 239 = .ok (.goto (-237), 3) := by decide +kernel
theorem dX8_runs_242 : decode cX8_runs 242 = .ok (.return_, 1) := by decide +kernel
theorem dX8_comes_0 : decode cX8_comes 0 = .ok (.aload_n 0, 1) := by decide +kernel
theorem dX8_comes_1 : decode cX8_comes 1 = .ok (.getfield 59, 3) := by decide +kernel
theorem dX8_comes_4 : decode cX8_comes 4 = .ok (.iload_n 1, 1) := by decide +kernel
theorem dX8_comes_5 : decode cX8_comes 5 = .ok (.iaload, 1) := by decide +kernel
theorem dX8_comes_6 : decode cX8_comes 6 = .ok (.istore_n 3, 1) := by decide +kernel
theorem dX8_comes_7 : decode cX8_comes 7 = .ok (.iload_n 3, 1) := by decide +kernel
theorem dX8_comes_8 : decode cX8_comes 8 = .ok (.ifCond .le 55, 3) := by decide +kernel
theorem dX8_comes_11 : decode cX8_comes 11 = .ok (.aload_n 0, 1) := by decide +kernel
theorem dX8_comes_12 : decode cX8_comes 12 = .ok (.iload_n 1, 1) := by decide +kernel
theorem dX8_comes_13 : decode cX8_comes 13 = .ok (.iload_n 2, 1) := by decide +kernel
theorem dX8_comes_14 : decode cX8_comes 14 = .ok (.aload_n 0, 1) := by decide +kernel
theorem dX8_comes_15 : decode cX8_comes 15 = .ok (.getfield 56, 3) := by decide +kernel
theorem dX8_comes_18 : decode cX8_comes 18 = .ok (.bipush 10, 2) := by decide +kernel
theorem dX8_comes_20 : decode cX8_comes 20 = .ok (.iload_n 1, 1) := by decide +kernel
theorem dX8_comes_21 : decode cX8_comes 21 = .ok (.imul, 1) := by decide +kernel
theorem dX8_comes_22 : decode cX8_comes 22 = .ok (.iload_n 3, 1) := by decide +kernel
theorem dX8_comes_23 : decode cX8_comes 23 = .ok (.iadd, 1) := by decide +kernel
theorem dX8_comes_24 : decode cX8_comes 24 = .ok (.iconst 1, 1) := by decide +kernel
theorem dX8_comes_25 : decode cX8_comes 25 = .ok (.isub, 1) := by decide +kernel
theorem dX8_comes_26 : decode cX8_comes 26 = .ok (.iaload, 1) := by decide +kernel
theorem dX8_comes_27 : decode cX8_comes 27 = .ok (.invokevirtual 174, 3) := by decide +kernel
theorem dX8_comes_30 : decode cX8_comes 30 = .ok (.ifCond .eq 33, 3) := by decide +kernel
theorem dX8_comes_33 : decode cX8_comes 33 = .ok (.aload_n 0, 1) := by decide +kernel
theorem dX8_comes_34 : decode cX8_comes 34 = .ok (.getfield 56, 3) := by decide +kernel
theorem dX8_comes_37 : decode cX8_comes 37 = .ok (.bipush 10, 2) := by decide +kernel
theorem dX8_comes_39 : decode cX8_comes 39 = .ok (.iload_n 1, 1) := by decide +kernel
theorem dX8_comes_40 : decode cX8_comes 40 = .ok (.imul, 1) := by decide +kernel
theorem dX8_comes_41 : decode cX8_comes 41 = .ok (.iload_n 3, 1) := by decide +kernel
theorem dX8_comes_42 : decode cX8_comes 42 = .ok (.iadd, 1) := by decide +kernel
theorem dX8_comes_43 : decode cX8_comes 43 = .ok (.aload_n 0, 1) := by decide +kernel
theorem dX8_comes_44 : decode cX8_comes 44 = .ok (.getfield 56, 3) := by decide +kernel
theorem dX8_comes_47 : decode cX8_comes 47 = .ok (.bipush 10, 2) := by decide +kernel
theorem dX8_comes_49 : decode cX8_comes 49 = .ok (.iload_n 1, 1) := by decide +kernel
theorem dX8_comes_50 : decode cX8_comes 50 = .ok (.imul, 1) := by decide +kernel
theorem dX8_comes_51 : decode cX8_comes 51 = .ok (.iload_n 3, 1) := by decide +kernel
theorem dX8_comes_52 : decode cX8_comes 52 = .ok (.iadd, 1) := by decide +kernel
theorem dX8_comes_53 : decode cX8_comes 53 = .ok (.iconst 1, 1) := by decide +kernel
theorem dX8_comes_54 : decode cX8_comes 54 = .ok (.isub, 1) := by decide +kernel
theorem dX8_comes_55 : decode cX8_comes 55 = .ok (.iaload, 1) := by decide +kernel
theorem dX8_comes_56 : decode cX8_comes 56 = .ok (.iastore, 1) := by decide +kernel
theorem dX8_comes_57 : decode cX8_comes 57 = .ok (.iinc 3 (-1), 3) := by decide +kernel
theorem dX8_comes_60 : decode cX8_comes 60 = .ok (.goto (-53), 3) := by decide +kernel
theorem dX8_comes_63 : decode cX8_comes 63 = .ok (.aload_n 0, 1) := by decide +kernel
theorem dX8_comes_64 : decode cX8_comes 64 = .ok (.getfield 56, 3) := by decide +kernel
theorem dX8_comes_67 : decode cX8_comes 67 = .ok (.bipush 10, 2) := by decide +kernel
theorem dX8_comes_69 : decode cX8_comes 69 = .ok (.iload_n 1, 1) := by decide +kernel
theorem dX8_comes_70 : decode cX8_comes 70 = .ok (.imul, 1) := by decide +kernel
theorem dX8_comes_71 : decode cX8_comes 71 = .ok (.iload_n 3, 1) := by decide +kernel
theorem dX8_comes_72 : decode cX8_comes 72 = .ok (.iadd, 1) := by decide +kernel
theorem dX8_comes_73 : decode cX8_comes 73 = .ok (.iload_n 2, 1) := by decide +kernel
theorem dX8_comes_74 : decode cX8_comes 74 = .ok (.iastore, 1) := by decide +kernel
theorem dX8_comes_75 : decode cX8_comes 75 = .ok (.aload_n 0, 1) := by decide +kernel
theorem dX8_comes_76 : decode cX8_comes 76 = .ok (.getfield 59, 3) := by decide +kernel
theorem dX8_comes_79 : decode cX8_comes 79 = .ok (.iload_n 1, 1) := by decide +kernel
theorem dX8_comes_80 : decode cX8_comes 80 = .ok (.dup2, 1) := by decide +kernel
theorem dX8_comes_81 : decode cX8_comes 81 = .ok (.iaload, 1) := by decide +kernel
theorem dX8_comes_82 : decode cX8_comes 82 = .ok (.iconst 1, 1) := by decide +kernel
theorem dX8_comes_83 : decode cX8_comes 83 = .ok (.iadd, 1) := by decide +kernel
theorem dX8_comes_84 : decode cX8_comes 84 = .ok (.iastore, 1) := by decide +kernel
theorem dX8_comes_85 : decode cX8_comes 85 = .ok (.return_, 1) := by decide +kernel
theorem dX8_isAhead_0 : decode cX8_isAhead 0 = .ok (.aload_n 0, 1) := by decide +kernel
theorem dX8_isAhead_1 : decode cX8_isAhead 1 = .ok (.getfield 53, 3) := by decide +kernel
theorem dX8_isAhead_4 : decode cX8_isAhead 4 = .ok (.bipush 10, 2) := by decide +kernel
theorem dX8_isAhead_6 : decode cX8_isAhead 6 = .ok (.iload_n 1, 1) := by decide +kernel
theorem dX8_isAhead_7 : decode cX8_isAhead 7 = .ok (.imul, 1) := by decide +kernel
theorem dX8_isAhead_8 : decode cX8_isAhead 8 = .ok (.iload_n 2, 1) := by decide +kernel
theorem dX8_isAhead_9 : decode cX8_isAhead 9 = .ok (.iadd, 1) := by decide +kernel
theorem dX8_isAhead_10 : decode cX8_isAhead 10 = .ok (.iaload, 1) := by decide +kernel
theorem dX8_isAhead_11 : decode cX8_isAhead 11 = .ok (.aload_n 0, 1) := by decide +kernel
theorem dX8_isAhead_12 : decode cX8_isAhead 12 = .ok (.getfield 53, 3) := by decide +kernel
theorem dX8_isAhead_15 : decode cX8_isAhead 15 = .ok (.bipush 10, 2) := by decide +kernel
theorem dX8_isAhead_17 : decode cX8_isAhead 17 = .ok (.iload_n 1, 1) := by decide +kernel
theorem dX8_isAhead_18 : decode cX8_isAhead 18 = .ok (.imul, 1) := by decide +kernel
theorem dX8_isAhead_19 : decode cX8_isAhead 19 = .ok (.iload_n 3, 1) := by decide +kernel
theorem dX8_isAhead_20 : decode cX8_isAhead 20 = .ok (.iadd, 1) := by decide +kernel
theorem dX8_isAhead_21 : decode cX8_isAhead 21 = .ok (.iaload, 1) := by decide +kernel
theorem dX8_isAhead_22 : decode cX8_isAhead 22 = .ok (.if_icmp .lt 33, 3) := by decide +kernel
theorem dX8_isAhead_25 : decode cX8_isAhead 25 = .ok (.aload_n 0, 1) := by decide +kernel
theorem dX8_isAhead_26 : decode cX8_isAhead 26 = .ok (.getfield 53, 3) := by decide +kernel
theorem dX8_isAhead_29 : decode cX8_isAhead 29 = .ok (.bipush 10, 2) := by decide +kernel
theorem dX8_isAhead_31 : decode cX8_isAhead 31 = .ok (.iload_n 1, 1) := by decide +kernel
theorem dX8_isAhead_32 : decode cX8_isAhead 32 = .ok (.imul, 1) := by decide +kernel
theorem dX8_isAhead_33 : decode cX8_isAhead 33 = .ok (.iload_n 2, 1) := by decide +kernel
theorem dX8_isAhead_34 : decode cX8_isAhead 34 = .ok (.iadd, 1) := by decide +kernel
theorem dX8_isAhead_35 : decode cX8_isAhead 35 = .ok (.iaload, 1) := by decide +kernel
theorem dX8_isAhead_36 : decode cX8_isAhead 36 = .ok (.aload_n 0, 1) := by decide +kernel
theorem dX8_isAhead_37 : decode cX8_isAhead 37 = .ok (.getfield 53, 3) := by decide +kernel
theorem dX8_isAhead_40 : decode cX8_isAhead 40 = .ok (.bipush 10, 2) := by decide +kernel
theorem dX8_isAhead_42 : decode cX8_isAhead 42 = .ok (.iload_n 1, 1) := by decide +kernel
theorem dX8_isAhead_43 : decode cX8_isAhead 43 = .ok (.imul, 1) := by decide +kernel
theorem dX8_isAhead_44 : decode cX8_isAhead 44 = .ok (.iload_n 3, 1) := by decide +kernel
theorem dX8_isAhead_45 : decode cX8_isAhead 45 = .ok (.iadd, 1) := by decide +kernel
theorem dX8_isAhead_46 : decode cX8_isAhead 46 = .ok (.iaload, 1) := by decide +kernel
theorem dX8_isAhead_47 : decode cX8_isAhead 47 = .ok (.if_icmp .ne 12, 3) := by decide +kernel
theorem dX8_isAhead_50 : decode cX8_isAhead 50 = .ok (.iload_n 2, 1) := by decide +kernel
theorem dX8_isAhead_51 : decode cX8_isAhead 51 = .ok (.iload_n 3, 1) := by decide +kernel
theorem dX8_isAhead_52 : decode cX8_isAhead 52 = .ok (.if_icmp .ge 7, 3) := by decide +kernel
theorem dX8_isAhead_55 : decode cX8_isAhead 55 = .ok (.iconst 1, 1) := by decide +kernel
theorem dX8_isAhead_56 : decode cX8_isAhead 56 = .ok (.goto 4, 3) := by decide +kernel
theorem dX8_isAhead_59 : decode cX8_isAhead 59 = .ok (.iconst 0, 1) := by decide +kernel
theorem dX8_isAhead_60 : decode cX8_isAhead 60 = .ok (.ireturn, 1) := by decide +kernel
theorem dX8_ran_0 : decode cX8_ran 0 = .ok (.aload_n 0, 1) := by decide +kernel
theorem dX8_ran_1 : decode cX8_ran 1 = .ok (.iload_n 1, 1) := by decide +kernel
theorem dX8_ran_2 : decode cX8_ran 2 = .ok (.invokevirtual 85, 3) := by decide +kernel
theorem dX8_ran_5 : decode cX8_ran 5 = .ok (.ifCond .eq 19, 3) := by decide +kernel
theorem dX8_ran_8 : decode cX8_ran 8 = .ok (.iload_n 2, 1) := by decide +kernel
theorem dX8_ran_9 : decode cX8_ran 9 = .ok (.invokestatic 82, 3) := by decide +kernel
theorem dX8_ran_12 : decode cX8_ran 12 = .ok (.ifCond .eq 12, 3) := by decide +kernel
theorem dX8_ran_15 : decode cX8_ran 15 = .ok (.iload_n 3, 1) := by decide +kernel
theorem dX8_ran_16 : decode cX8_ran 16 = .ok (.iconst 0, 1) := by decide +kernel
theorem dX8_ran_17 : decode cX8_ran 17 = .ok (.iconst 3, 1) := by decide +kernel
theorem dX8_ran_18 : decode cX8_ran 18 = .ok (.invokestatic 71, 3) := by decide +kernel
theorem dX8_ran_21 : decode cX8_ran 21 = .ok (.ifCond .ne 5, 3) := by decide +kernel
theorem dX8_ran_24 : decode cX8_ran 24 = .ok (.iconst (-1), 1) := by decide +kernel
theorem dX8_ran_25 : decode cX8_ran 25 = .ok (.ireturn, 1) := by decide +kernel
theorem dX8_ran_26 : decode cX8_ran 26 = .ok (.aload_n 0, 1) := by decide +kernel
theorem dX8_ran_27 : decode cX8_ran 27 = .ok (.invokevirtual 177, 3) := by decide +kernel
theorem dX8_ran_30 : decode cX8_ran 30 = .ok (.iload_n 3, 1) := by decide +kernel
theorem dX8_ran_31 : decode cX8_ran 31 = .ok (.ifCond .ne 15, 3) := by decide +kernel
theorem dX8_ran_34 : decode cX8_ran 34 = .ok (.aload_n 0, 1) := by decide +kernel
theorem dX8_ran_35 : decode cX8_ran 35 = .ok (.getfield 47, 3) := by decide +kernel
theorem dX8_ran_38 : decode cX8_ran 38 = .ok (.bipush 10, 2) := by decide +kernel
theorem dX8_ran_40 : decode cX8_ran 40 = .ok (.iload_n 2, 1) := by decide +kernel
theorem dX8_ran_41 : decode cX8_ran 41 = .ok (.imul, 1) := by decide +kernel
theorem dX8_ran_42 : decode cX8_ran 42 = .ok (.iload_n 1, 1) := by decide +kernel
theorem dX8_ran_43 : decode cX8_ran 43 = .ok (.iadd, 1) := by decide +kernel
theorem dX8_ran_44 : decode cX8_ran 44 = .ok (.iaload, 1) := by decide +kernel
theorem dX8_ran_45 : decode cX8_ran 45 = .ok (.ireturn, 1) := by decide +kernel
theorem dX8_ran_46 : decode cX8_ran 46 = .ok (.iload_n 3, 1) := by decide +kernel
theorem dX8_ran_47 : decode cX8_ran 47 = .ok (.iconst 1, 1) := by decide +kernel
theorem dX8_ran_48 : decode cX8_ran 48 = .ok (.if_icmp .eq 18, 3) := by decide +kernel
theorem dX8_ran_51 : decode cX8_ran 51 = .ok (.aload_n 0, 1) := by decide +kernel
theorem dX8_ran_52 : decode cX8_ran 52 = .ok (.getfield 50, 3) := by decide +kernel
theorem dX8_ran_55 : decode cX8_ran 55 = .ok (.bipush 10, 2) := by decide +kernel
theorem dX8_ran_57 : decode cX8_ran 57 = .ok (.iload_n 2, 1) := by decide +kernel
theorem dX8_ran_58 : decode cX8_ran 58 = .ok (.imul, 1) := by decide +kernel
theorem dX8_ran_59 : decode cX8_ran 59 = .ok (.iload_n 1, 1) := by decide +kernel
theorem dX8_ran_60 : decode cX8_ran 60 = .ok (.iadd, 1) := by decide +kernel
theorem dX8_ran_61 : decode cX8_ran 61 = .ok (.iaload, 1) := by decide +kernel
theorem dX8_ran_62 : decode cX8_ran 62 = .ok (.iconst (-1), 1) := by decide +kernel
theorem dX8_ran_63 : decode cX8_ran 63 = .ok (.if_icmp .ne 15, 3) := by decide +kernel
theorem dX8_ran_66 : decode cX8_ran 66 = .ok (.aload_n 0, 1) := by decide +kernel
theorem dX8_ran_67 : decode cX8_ran 67 = .ok (.getfield 50, 3) := by decide +kernel
theorem dX8_ran_70 : decode cX8_ran 70 = .ok (.bipush 10, 2) := by decide +kernel
theorem dX8_ran_72 : decode cX8_ran 72 = .ok (.iload_n 2, 1) := by decide +kernel
theorem dX8_ran_73 : decode cX8_ran 73 = .ok (.imul, 1) := by decide +kernel
theorem dX8_ran_74 : decode cX8_ran 74 = .ok (.iload_n 1, 1) := by decide +kernel
theorem dX8_ran_75 : decode cX8_ran 75 = .ok (.iadd, 1) := by decide +kernel
theorem dX8_ran_76 : decode cX8_ran 76 = .ok (.iaload, 1) := by decide +kernel
theorem dX8_ran_77 : decode cX8_ran 77 = .ok (.ireturn, 1) := by decide +kernel
theorem dX8_ran_78 : decode cX8_ran 78 = .ok (.iload_n 3, 1) := by decide +kernel
theorem dX8_ran_79 : decode cX8_ran 79 = .ok (.iconst 3, 1) := by decide +kernel
theorem dX8_ran_80 : decode cX8_ran 80 = .ok (.if_icmp .ne 15, 3) := by decide +kernel
theorem dX8_ran_83 : decode cX8_ran 83 = .ok (.aload_n 0, 1) := by decide +kernel
theorem dX8_ran_84 : decode cX8_ran 84 = .ok (.getfield 53, 3) := by decide +kernel
theorem dX8_ran_87 : decode cX8_ran 87 = .ok (.bipush 10, 2) := by decide +kernel
theorem dX8_ran_89 : decode cX8_ran 89 = .ok (.iload_n 2, 1) := by decide +kernel
theorem dX8_ran_90 : decode cX8_ran 90 = .ok (.imul, 1) := by decide +kernel
theorem dX8_ran_91 : decode cX8_ran 91 = .ok (.iload_n 1, 1) := by decide +kernel
theorem dX8_ran_92 : decode cX8_ran 92 = .ok (.iadd, 1) := by decide +kernel
theorem dX8_ran_93 : decode cX8_ran 93 = .ok (.iaload, 1) := by decide +kernel
theorem dX8_ran_94 : decode cX8_ran 94 = .ok (.ireturn, 1) := by decide +kernel
theorem dX8_ran_95 : decode cX8_ran 95 = .ok (.iconst 0, 1) := by decide +kernel
theorem dX8_ran_96 : decode cX8_ran 96 = .ok (.istore 4, 2) := by decide +kernel
theorem dX8_ran_98 : decode cX8_ran 98 = .ok (.aload_n 0, 1) := by decide +kernel
theorem dX8_ran_99 : decode cX8_ran 99 = .ok (.getfield 56, 3) := by decide +kernel
theorem dX8_ran_102 : decode cX8_ran 102 = .ok (.bipush 10, 2) := by decide +kernel
theorem dX8_ran_104 : decode cX8_ran 104 = .ok (.iload_n 2, 1) := by decide +kernel
theorem dX8_ran_105 : decode cX8_ran 105 = .ok (.imul, 1) := by decide +kernel
theorem dX8_ran_106 : decode cX8_ran 106 = .ok (.iload 4, 2) := by decide +kernel
theorem dX8_ran_108 : decode cX8_ran 108 = .ok (.iadd, 1) := by decide +kernel
theorem dX8_ran_109 : decode cX8_ran 109 = .ok (.iaload, 1) := by decide +kernel
theorem dX8_ran_110 : decode cX8_ran 110 = .ok (.iload_n 1, 1) := by decide +kernel
theorem dX8_ran_111 : decode cX8_ran 111 = .ok (.if_icmp .eq 9, 3) := by decide +kernel
theorem dX8_ran_114 : decode cX8_ran 114 = .ok (.iinc 4 1, 3) := by decide +kernel
theorem dX8_ran_117 : decode cX8_ran 117 = .ok (.goto (-19), 3) := by decide +kernel
theorem dX8_ran_120 : decode cX8_ran 120 = .ok (.iload 4, 2) := by decide +kernel
theorem dX8_ran_122 : decode cX8_ran 122 = .ok (.ireturn, 1) := by decide +kernel
theorem dX8_standing_0 : decode cX8_standing 0 = .ok (.iload_n 1, 1) := by decide +kernel
theorem dX8_standing_1 : decode cX8_standing 1 = .ok (.invokestatic 82, 3) := by decide +kernel
theorem dX8_standing_4 : decode cX8_standing 4 = .ok (.ifCond .ne 5, 3) := by decide +kernel
theorem dX8_standing_7 : decode cX8_standing 7 = .ok (.iconst (-1), 1) := by decide +kernel
theorem dX8_standing_8 : decode cX8_standing 8 = .ok (.ireturn, 1) := by decide +kernel
theorem dX8_standing_9 : decode cX8_standing 9 = .ok (.aload_n 0, 1) := by decide +kernel
theorem dX8_standing_10 : decode cX8_standing 10 = .ok (.invokevirtual 177, 3) := by decide +kernel
theorem dX8_standing_13 : decode cX8_standing 13 = .ok (.iload_n 2, 1) := by decide +kernel
theorem dX8_standing_14 : decode cX8_standing 14 = .ok (.iconst 0, 1) := by decide +kernel
theorem dX8_standing_15 : decode cX8_standing 15 = .ok (.aload_n 0, 1) := by decide +kernel
theorem dX8_standing_16 : decode cX8_standing 16 = .ok (.getfield 59, 3) := by decide +kernel
theorem dX8_standing_19 : decode cX8_standing 19 = .ok (.iload_n 1, 1) := by decide +kernel
theorem dX8_standing_20 : decode cX8_standing 20 = .ok (.iaload, 1) := by decide +kernel
theorem dX8_standing_21 : decode cX8_standing 21 = .ok (.iconst 1, 1) := by decide +kernel
theorem dX8_standing_22 : decode cX8_standing 22 = .ok (.isub, 1) := by decide +kernel
theorem dX8_standing_23 : decode cX8_standing 23 = .ok (.invokestatic 71, 3) := by decide +kernel
theorem dX8_standing_26 : decode cX8_standing 26 = .ok (.ifCond .eq 17, 3) := by decide +kernel
theorem dX8_standing_29 : decode cX8_standing 29 = .ok (.aload_n 0, 1) := by decide +kernel
theorem dX8_standing_30 : decode cX8_standing 30 = .ok (.getfield 56, 3) := by decide +kernel
theorem dX8_standing_33 : decode cX8_standing 33 = .ok (.bipush 10, 2) := by decide +kernel
theorem dX8_standing_35 : decode cX8_standing 35 = .ok (.iload_n 1, 1) := by decide +kernel
theorem dX8_standing_36 : decode cX8_standing 36 = .ok (.imul, 1) := by decide +kernel
theorem dX8_standing_37 : decode cX8_standing 37 = .ok (.iload_n 2, 1) := by decide +kernel
theorem dX8_standing_38 : decode cX8_standing 38 = .ok (.iadd, 1) := by decide +kernel
theorem dX8_standing_39 : decode cX8_standing 39 = .ok (.iaload, 1) := by decide +kernel
theorem dX8_standing_40 : decode cX8_standing 40 = .ok (.goto 4, 3) := by decide +kernel
theorem dX8_standing_43 : decode cX8_standing 43 = .ok (.iconst (-1), 1) := by decide +kernel
theorem dX8_standing_44 : decode cX8_standing 44 = .ok (.ireturn, 1) := by decide +kernel
theorem dX8_isNeeded_0 : decode cX8_isNeeded 0 = .ok (.aload_n 0, 1) := by decide +kernel
theorem dX8_isNeeded_1 : decode cX8_isNeeded 1 = .ok (.getfield 59, 3) := by decide +kernel
theorem dX8_isNeeded_4 : decode cX8_isNeeded 4 = .ok (.iload_n 1, 1) := by decide +kernel
theorem dX8_isNeeded_5 : decode cX8_isNeeded 5 = .ok (.iconst 1, 1) := by decide +kernel
theorem dX8_isNeeded_6 : decode cX8_isNeeded 6 = .ok (.isub, 1) := by decide +kernel
theorem dX8_isNeeded_7 : decode cX8_isNeeded 7 = .ok (.iaload, 1) := by decide +kernel
theorem dX8_isNeeded_8 : decode cX8_isNeeded 8 = .ok (.ifCond .le 7, 3) := by decide +kernel
theorem dX8_isNeeded_11 : decode cX8_isNeeded 11 = .ok (.iconst 1, 1) := by decide +kernel
theorem dX8_isNeeded_12 : decode cX8_isNeeded 12 = .ok (.goto 4, 3) := by decide +kernel
theorem dX8_isNeeded_15 : decode cX8_isNeeded 15 = .ok (.iconst 0, 1) := by decide +kernel
theorem dX8_isNeeded_16 : decode cX8_isNeeded 16 = .ok (.ireturn, 1) := by decide +kernel
theorem dX8_kitchens_0 : decode cX8_kitchens 0 = .ok (.aload_n 0, 1) := by decide +kernel
theorem dX8_kitchens_1 : decode cX8_kitchens 1 = .ok (.invokevirtual 177, 3) := by decide +kernel
theorem dX8_kitchens_4 : decode cX8_kitchens 4 = .ok (.iconst 1, 1) := by decide +kernel
theorem dX8_kitchens_5 : decode cX8_kitchens 5 = .ok (.istore_n 1, 1) := by decide +kernel
theorem dX8_kitchens_6 : decode cX8_kitchens 6 = .ok (.iload_n 1, 1) := by decide +kernel
theorem dX8_kitchens_7 : decode cX8_kitchens 7 = .ok (.bipush 8, 2) := by decide +kernel
theorem dX8_kitchens_9 : decode cX8_kitchens 9 = .ok (.if_icmp .ge 122, 3) := by decide +kernel
theorem dX8_kitchens_12 : decode cX8_kitchens 12 = .ok (.iconst (-1), 1) := by decide +kernel
theorem dX8_kitchens_13 : decode cX8_kitchens 13 = .ok (.istore_n 2, 1) := by decide +kernel
theorem dX8_kitchens_14 : decode cX8_kitchens 14 = .ok (.iconst (-1), 1) := by decide +kernel
theorem dX8_kitchens_15 : decode cX8_kitchens 15 = .ok (.istore_n 3, 1) := by decide +kernel
theorem dX8_kitchens_16 : decode cX8_kitchens 16 = .ok (.iconst 0, 1) := by decide +kernel
theorem dX8_kitchens_17 : decode cX8_kitchens 17 = .ok (.istore 4, 2) := by decide +kernel
theorem dX8_kitchens_19 : decode cX8_kitchens 19 = .ok (.iload 4, 2) := by decide +kernel
theorem dX8_kitchens_21 : decode cX8_kitchens 21 = .ok (.aload_n 0, 1) := by decide +kernel
theorem dX8_kitchens_22 : decode cX8_kitchens 22 = .ok (.getfield 59, 3) := by decide +kernel
theorem dX8_kitchens_25 : decode cX8_kitchens 25 = .ok (.iload_n 1, 1) := by decide +kernel
theorem dX8_kitchens_26 : decode cX8_kitchens 26 = .ok (.iconst 1, 1) := by decide +kernel
theorem dX8_kitchens_27 : decode cX8_kitchens 27 = .ok (.isub, 1) := by decide +kernel
theorem dX8_kitchens_28 : decode cX8_kitchens 28 = .ok (.iaload, 1) := by decide +kernel
theorem dX8_kitchens_29 : decode cX8_kitchens 29 = .ok (.if_icmp .ge 68, 3) := by decide +kernel
theorem dX8_kitchens_32 : decode cX8_kitchens 32 = .ok (.aload_n 0, 1) := by decide +kernel
theorem dX8_kitchens_33 : decode cX8_kitchens 33 = .ok (.getfield 50, 3) := by decide +kernel
theorem dX8_kitchens_36 : decode cX8_kitchens 36 = .ok (.bipush 10, 2) := by decide +kernel
theorem dX8_kitchens_38 : decode cX8_kitchens 38 = .ok (.iload_n 1, 1) := by decide +kernel
theorem dX8_kitchens_39 : decode cX8_kitchens 39 = .ok (.iconst 1, 1) := by decide +kernel
theorem dX8_kitchens_40 : decode cX8_kitchens 40 = .ok (.isub, 1) := by decide +kernel
theorem dX8_kitchens_41 : decode cX8_kitchens 41 = .ok (.imul, 1) := by decide +kernel
theorem dX8_kitchens_42 : decode cX8_kitchens 42 = .ok (.aload_n 0, 1) := by decide +kernel
theorem dX8_kitchens_43 : decode cX8_kitchens 43 = .ok (.getfield 56, 3) := by decide +kernel
theorem dX8_kitchens_46 : decode cX8_kitchens 46 = .ok (.bipush 10, 2) := by decide +kernel
theorem dX8_kitchens_48 : decode cX8_kitchens 48 = .ok (.iload_n 1, 1) := by decide +kernel
theorem dX8_kitchens_49 : decode cX8_kitchens 49 = .ok (.iconst 1, 1) := by decide +kernel
theorem dX8_kitchens_50 : decode cX8_kitchens 50 = .ok (.isub, 1) := by decide +kernel
theorem dX8_kitchens_51 : decode cX8_kitchens 51 = .ok (.imul, 1) := by decide +kernel
theorem dX8_kitchens_52 : decode cX8_kitchens 52 = .ok (.iload 4, 2) := by decide +kernel
theorem dX8_kitchens_54 : decode cX8_kitchens 54 = .ok (.iadd, 1) := by decide +kernel
theorem dX8_kitchens_55 : decode cX8_kitchens 55 = .ok (.iaload, 1) := by decide +kernel
theorem dX8_kitchens_56 : decode cX8_kitchens 56 = .ok (.iadd, 1) := by decide +kernel
theorem dX8_kitchens_57 : decode cX8_kitchens 57 = .ok (.iaload, 1) := by decide +kernel
theorem dX8_kitchens_58 : decode cX8_kitchens 58 = .ok (.istore 5, 2) := by decide +kernel
theorem dX8_kitchens_60 : decode cX8_kitchens 60 = .ok (.iload_n 2, 1) := by decide +kernel
theorem dX8_kitchens_61 : decode cX8_kitchens 61 = .ok (.iconst (-1), 1) := by decide +kernel
theorem dX8_kitchens_62 : decode cX8_kitchens 62 = .ok (.if_icmp .eq 9, 3) := by decide +kernel
theorem dX8_kitchens_65 : decode cX8_kitchens 65 = .ok (.iload 5, 2) := by decide +kernel
theorem dX8_kitchens_67 : decode cX8_kitchens 67 = .ok (.iload_n 2, 1) := by decide +kernel
theorem dX8_kitchens_68 : decode cX8_kitchens 68 = .ok (.if_icmp .ge 8, 3) := by decide +kernel
theorem dX8_kitchens_71 : decode cX8_kitchens 71 = .ok (.iload 5, 2) := by decide +kernel
theorem dX8_kitchens_73 : decode cX8_kitchens 73 = .ok (.goto 4, 3) := by decide +kernel
theorem dX8_kitchens_76 : decode cX8_kitchens 76 = .ok (.iload_n 2, 1) := by decide +kernel
theorem dX8_kitchens_77 : decode cX8_kitchens 77 = .ok (.istore_n 2, 1) := by decide +kernel
theorem dX8_kitchens_78 : decode cX8_kitchens 78 = .ok (.iload 5, 2) := by decide +kernel
theorem dX8_kitchens_80 : decode cX8_kitchens 80 = .ok (.iload_n 3, 1) := by decide +kernel
theorem dX8_kitchens_81 : decode cX8_kitchens 81 = .ok (.if_icmp .le 8, 3) := by decide +kernel
theorem dX8_kitchens_84 : decode cX8_kitchens 84 = .ok (.iload 5, 2) := by decide +kernel
theorem dX8_kitchens_86 : decode cX8_kitchens 86 = .ok (.goto 4, 3) := by decide +kernel
theorem dX8_kitchens_89 : decode cX8_kitchens 89 = .ok (.iload_n 3, 1) := by decide +kernel
theorem dX8_kitchens_90 : decode cX8_kitchens 90 = .ok (.istore_n 3, 1) := by decide +kernel
theorem dX8_kitchens_91 : decode cX8_kitchens 91 = .ok (.iinc 4 1, 3) := by decide +kernel
theorem dX8_kitchens_94 : decode cX8_kitchens 94 = .ok (.goto (-75), 3) := by decide +kernel
theorem dX8_kitchens_97 : decode cX8_kitchens 97 = .ok (.aload_n 0, 1) := by decide +kernel
theorem dX8_kitchens_98 : decode cX8_kitchens 98 = .ok (.getfield 62, 3) := by decide +kernel
theorem dX8_kitchens_101 : decode cX8_kitchens 101 = .ok (.iload_n 1, 1) := by decide +kernel
theorem dX8_kitchens_102 : decode cX8_kitchens 102 = .ok (.iload_n 2, 1) := by decide +kernel
theorem dX8_kitchens_103 : decode cX8_kitchens 103 = .ok (.aload_n 0, 1) := by decide +kernel
theorem dX8_kitchens_104 : decode cX8_kitchens 104 = .ok (.getfield 25, 3) := by decide +kernel
theorem dX8_kitchens_107 : decode cX8_kitchens 107 = .ok (.iconst 0, 1) := by decide +kernel
theorem dX8_kitchens_108 : decode cX8_kitchens 108 = .ok (.iaload, 1) := by decide +kernel
theorem dX8_kitchens_109 : decode cX8_kitchens 109 = .ok (.isub, 1) := by decide +kernel
theorem dX8_kitchens_110 : decode cX8_kitchens 110 = .ok (.iastore, 1) := by decide +kernel
theorem dX8_kitchens_111 : decode cX8_kitchens 111 = .ok (.aload_n 0, 1) := by decide +kernel
theorem dX8_kitchens_112 : decode cX8_kitchens 112 = .ok (.getfield 65, 3) := by decide +kernel
theorem dX8_kitchens_115 : decode cX8_kitchens 115 = .ok (.iload_n 1, 1) := by decide +kernel
theorem dX8_kitchens_116 : decode cX8_kitchens 116 = .ok (.iload_n 3, 1) := by decide +kernel
theorem dX8_kitchens_117 : decode cX8_kitchens 117 = .ok (.aload_n 0, 1) := by decide +kernel
theorem dX8_kitchens_118 : decode cX8_kitchens 118 = .ok (.getfield 25, 3) := by decide +kernel
theorem dX8_kitchens_121 : decode cX8_kitchens 121 = .ok (.iconst 1, 1) := by decide +kernel
theorem dX8_kitchens_122 : decode cX8_kitchens 122 = .ok (.iaload, 1) := by decide +kernel
theorem dX8_kitchens_123 : decode cX8_kitchens 123 = .ok (.iadd, 1) := by decide +kernel
theorem dX8_kitchens_124 : decode cX8_kitchens 124 = .ok (.iastore, 1) := by decide +kernel
theorem dX8_kitchens_125 : decode cX8_kitchens 125 = .ok (.iinc 1 1, 3) := by decide +kernel
theorem dX8_kitchens_128 : decode cX8_kitchens 128 = .ok (.goto (-122), 3) := by decide +kernel
theorem dX8_kitchens_131 : decode cX8_kitchens 131 = .ok (.return_, 1) := by decide +kernel
theorem dX8_between_0 : decode cX8_between 0 = .ok (.iconst 0, 1) := by decide +kernel
theorem dX8_between_1 : decode cX8_between 1 = .ok (.istore_n 3, 1) := by decide +kernel
theorem dX8_between_2 : decode cX8_between 2 = .ok (.iload_n 1, 1) := by decide +kernel
theorem dX8_between_3 : decode cX8_between 3 = .ok (.iconst 1, 1) := by decide +kernel
theorem dX8_between_4 : decode cX8_between 4 = .ok (.iadd, 1) := by decide +kernel
theorem dX8_between_5 : decode cX8_between 5 = .ok (.istore 4, 2) := by decide +kernel
theorem dX8_between_7 : decode cX8_between 7 = .ok (.iload 4, 2) := by decide +kernel
theorem dX8_between_9 : decode cX8_between 9 = .ok (.iload_n 2, 1) := by decide +kernel
theorem dX8_between_10 : decode cX8_between 10 = .ok (.if_icmp .gt 19, 3) := by decide +kernel
theorem dX8_between_13 : decode cX8_between 13 = .ok (.iload_n 3, 1) := by decide +kernel
theorem dX8_between_14 : decode cX8_between 14 = .ok (.aload_n 0, 1) := by decide +kernel
theorem dX8_between_15 : decode cX8_between 15 = .ok (.getfield 7, 3) := by decide +kernel
theorem dX8_between_18 : decode cX8_between 18 = .ok (.iload 4, 2) := by decide +kernel
theorem dX8_between_20 : decode cX8_between 20 = .ok (.iaload, 1) := by decide +kernel
theorem dX8_between_21 : decode cX8_between 21 = .ok (.iadd, 1) := by decide +kernel
theorem dX8_between_22 : decode cX8_between 22 = .ok (.istore_n 3, 1) := by decide +kernel
theorem dX8_between_23 : decode cX8_between 23 = .ok (.iinc 4 1, 3) := by decide +kernel
theorem dX8_between_26 : decode cX8_between 26 = .ok (.goto (-19), 3) := by decide +kernel
theorem dX8_between_29 : decode cX8_between 29 = .ok (.iload_n 3, 1) := by decide +kernel
theorem dX8_between_30 : decode cX8_between 30 = .ok (.ireturn, 1) := by decide +kernel
theorem dX8_lastOf_0 : decode cX8_lastOf 0 = .ok (.iconst (-1), 1) := by decide +kernel
theorem dX8_lastOf_1 : decode cX8_lastOf 1 = .ok (.istore_n 3, 1) := by decide +kernel
theorem dX8_lastOf_2 : decode cX8_lastOf 2 = .ok (.iconst 1, 1) := by decide +kernel
theorem dX8_lastOf_3 : decode cX8_lastOf 3 = .ok (.istore 4, 2) := by decide +kernel
theorem dX8_lastOf_5 : decode cX8_lastOf 5 = .ok (.iload 4, 2) := by decide +kernel
theorem dX8_lastOf_7 : decode cX8_lastOf 7 = .ok (.iload_n 2, 1) := by decide +kernel
theorem dX8_lastOf_8 : decode cX8_lastOf 8 = .ok (.if_icmp .ge 36, 3) := by decide +kernel
theorem dX8_lastOf_11 : decode cX8_lastOf 11 = .ok (.aload_n 0, 1) := by decide +kernel
theorem dX8_lastOf_12 : decode cX8_lastOf 12 = .ok (.iload 4, 2) := by decide +kernel
theorem dX8_lastOf_14 : decode cX8_lastOf 14 = .ok (.invokevirtual 180, 3) := by decide +kernel
theorem dX8_lastOf_17 : decode cX8_lastOf 17 = .ok (.ifCond .eq 19, 3) := by decide +kernel
theorem dX8_lastOf_20 : decode cX8_lastOf 20 = .ok (.aload_n 0, 1) := by decide +kernel
theorem dX8_lastOf_21 : decode cX8_lastOf 21 = .ok (.getfield 68, 3) := by decide +kernel
theorem dX8_lastOf_24 : decode cX8_lastOf 24 = .ok (.iload 4, 2) := by decide +kernel
theorem dX8_lastOf_26 : decode cX8_lastOf 26 = .ok (.iaload, 1) := by decide +kernel
theorem dX8_lastOf_27 : decode cX8_lastOf 27 = .ok (.iload_n 1, 1) := by decide +kernel
theorem dX8_lastOf_28 : decode cX8_lastOf 28 = .ok (.if_icmp .ne 8, 3) := by decide +kernel
theorem dX8_lastOf_31 : decode cX8_lastOf 31 = .ok (.iload 4, 2) := by decide +kernel
theorem dX8_lastOf_33 : decode cX8_lastOf 33 = .ok (.goto 4, 3) := by decide +kernel
theorem dX8_lastOf_36 : decode cX8_lastOf 36 = .ok (.iload_n 3, 1) := by decide +kernel
theorem dX8_lastOf_37 : decode cX8_lastOf 37 = .ok (.istore_n 3, 1) := by decide +kernel
theorem dX8_lastOf_38 : decode cX8_lastOf 38 = .ok (.iinc 4 1, 3) := by decide +kernel
theorem dX8_lastOf_41 : decode cX8_lastOf 41 = .ok (.goto (-36), 3) := by decide +kernel
theorem dX8_lastOf_44 : decode cX8_lastOf 44 = .ok (.iload_n 3, 1) := by decide +kernel
theorem dX8_lastOf_45 : decode cX8_lastOf 45 = .ok (.ireturn, 1) := by decide +kernel
theorem dX8_canDo_0 : decode cX8_canDo 0 = .ok (.aload_n 0, 1) := by decide +kernel
theorem dX8_canDo_1 : decode cX8_canDo 1 = .ok (.iload_n 1, 1) := by decide +kernel
theorem dX8_canDo_2 : decode cX8_canDo 2 = .ok (.iload_n 2, 1) := by decide +kernel
theorem dX8_canDo_3 : decode cX8_canDo 3 = .ok (.invokevirtual 183, 3) := by decide +kernel
theorem dX8_canDo_6 : decode cX8_canDo 6 = .ok (.istore_n 3, 1) := by decide +kernel
theorem dX8_canDo_7 : decode cX8_canDo 7 = .ok (.iload_n 3, 1) := by decide +kernel
theorem dX8_canDo_8 : decode cX8_canDo 8 = .ok (.iconst (-1), 1) := by decide +kernel
theorem dX8_canDo_9 : decode cX8_canDo 9 = .ok (.if_icmp .eq 44, 3) := by decide +kernel
theorem dX8_canDo_12 : decode cX8_canDo 12 = .ok (.aload_n 0, 1) := by decide +kernel
theorem dX8_canDo_13 : decode cX8_canDo 13 = .ok (.getfield 65, 3) := by decide +kernel
theorem dX8_canDo_16 : decode cX8_canDo 16 = .ok (.iload_n 3, 1) := by decide +kernel
theorem dX8_canDo_17 : decode cX8_canDo 17 = .ok (.iaload, 1) := by decide +kernel
theorem dX8_canDo_18 : decode cX8_canDo 18 = .ok (.bipush 60, 2) := by decide +kernel
theorem dX8_canDo_20 : decode cX8_canDo 20 = .ok (.aload_n 0, 1) := by decide +kernel
theorem dX8_canDo_21 : decode cX8_canDo 21 = .ok (.iload_n 3, 1) := by decide +kernel
theorem dX8_canDo_22 : decode cX8_canDo 22 = .ok (.iload_n 2, 1) := by decide +kernel
theorem dX8_canDo_23 : decode cX8_canDo 23 = .ok (.invokevirtual 186, 3) := by decide +kernel
theorem dX8_canDo_26 : decode cX8_canDo 26 = .ok (.imul, 1) := by decide +kernel
theorem dX8_canDo_27 : decode cX8_canDo 27 = .ok (.aload_n 0, 1) := by decide +kernel
theorem dX8_canDo_28 : decode cX8_canDo 28 = .ok (.getfield 25, 3) := by decide +kernel
theorem dX8_canDo_31 : decode cX8_canDo 31 = .ok (.iconst 2, 1) := by decide +kernel
theorem dX8_canDo_32 : decode cX8_canDo 32 = .ok (.iaload, 1) := by decide +kernel
theorem dX8_canDo_33 : decode cX8_canDo 33 = .ok (.iadd, 1) := by decide +kernel
theorem dX8_canDo_34 : decode cX8_canDo 34 = .ok (.iconst 1, 1) := by decide +kernel
theorem dX8_canDo_35 : decode cX8_canDo 35 = .ok (.isub, 1) := by decide +kernel
theorem dX8_canDo_36 : decode cX8_canDo 36 = .ok (.aload_n 0, 1) := by decide +kernel
theorem dX8_canDo_37 : decode cX8_canDo 37 = .ok (.getfield 25, 3) := by decide +kernel
theorem dX8_canDo_40 : decode cX8_canDo 40 = .ok (.iconst 2, 1) := by decide +kernel
theorem dX8_canDo_41 : decode cX8_canDo 41 = .ok (.iaload, 1) := by decide +kernel
theorem dX8_canDo_42 : decode cX8_canDo 42 = .ok (.idiv, 1) := by decide +kernel
theorem dX8_canDo_43 : decode cX8_canDo 43 = .ok (.iadd, 1) := by decide +kernel
theorem dX8_canDo_44 : decode cX8_canDo 44 = .ok (.aload_n 0, 1) := by decide +kernel
theorem dX8_canDo_45 : decode cX8_canDo 45 = .ok (.getfield 62, 3) := by decide +kernel
theorem dX8_canDo_48 : decode cX8_canDo 48 = .ok (.iload_n 2, 1) := by decide +kernel
theorem dX8_canDo_49 : decode cX8_canDo 49 = .ok (.iaload, 1) := by decide +kernel
theorem dX8_canDo_50 : decode cX8_canDo 50 = .ok (.if_icmp .gt 7, 3) := by decide +kernel
theorem dX8_canDo_53 : decode cX8_canDo 53 = .ok (.iconst 1, 1) := by decide +kernel
theorem dX8_canDo_54 : decode cX8_canDo 54 = .ok (.goto 4, 3) := by decide +kernel
theorem dX8_canDo_57 : decode cX8_canDo 57 = .ok (.iconst 0, 1) := by decide +kernel
theorem dX8_canDo_58 : decode cX8_canDo 58 = .ok (.ireturn, 1) := by decide +kernel
theorem dX8_tries_0 : decode cX8_tries 0 = .ok (.iload_n 1, 1) := by decide +kernel
theorem dX8_tries_1 : decode cX8_tries 1 = .ok (.bipush 8, 2) := by decide +kernel
theorem dX8_tries_3 : decode cX8_tries 3 = .ok (.if_icmp .ne 5, 3) := by decide +kernel
theorem dX8_tries_6 : decode cX8_tries 6 = .ok (.iconst 1, 1) := by decide +kernel
theorem dX8_tries_7 : decode cX8_tries 7 = .ok (.ireturn, 1) := by decide +kernel
theorem dX8_tries_8 : decode cX8_tries 8 = .ok (.aload_n 0, 1) := by decide +kernel
theorem dX8_tries_9 : decode cX8_tries 9 = .ok (.iload_n 1, 1) := by decide +kernel
theorem dX8_tries_10 : decode cX8_tries 10 = .ok (.invokevirtual 180, 3) := by decide +kernel
theorem dX8_tries_13 : decode cX8_tries 13 = .ok (.ifCond .ne 12, 3) := by decide +kernel
theorem dX8_tries_16 : decode cX8_tries 16 = .ok (.aload_n 0, 1) := by decide +kernel
theorem dX8_tries_17 : decode cX8_tries 17 = .ok (.iload_n 1, 1) := by decide +kernel
theorem dX8_tries_18 : decode cX8_tries 18 = .ok (.iconst 1, 1) := by decide +kernel
theorem dX8_tries_19 : decode cX8_tries 19 = .ok (.iadd, 1) := by decide +kernel
theorem dX8_tries_20 : decode cX8_tries 20 = .ok (.iload_n 2, 1) := by decide +kernel
theorem dX8_tries_21 : decode cX8_tries 21 = .ok (.invokevirtual 189, 3) := by decide +kernel
theorem dX8_tries_24 : decode cX8_tries 24 = .ok (.ireturn, 1) := by decide +kernel
theorem dX8_tries_25 : decode cX8_tries 25 = .ok (.iconst 0, 1) := by decide +kernel
theorem dX8_tries_26 : decode cX8_tries 26 = .ok (.istore_n 3, 1) := by decide +kernel
theorem dX8_tries_27 : decode cX8_tries 27 = .ok (.iload_n 3, 1) := by decide +kernel
theorem dX8_tries_28 : decode cX8_tries 28 = .ok (.iload_n 2, 1) := by decide +kernel
theorem dX8_tries_29 : decode cX8_tries 29 = .ok (.if_icmp .ge 41, 3) := by decide +kernel
theorem dX8_tries_32 : decode cX8_tries 32 = .ok (.aload_n 0, 1) := by decide +kernel
theorem dX8_tries_33 : decode cX8_tries 33 = .ok (.iload_n 3, 1) := by decide +kernel
theorem dX8_tries_34 : decode cX8_tries 34 = .ok (.iload_n 1, 1) := by decide +kernel
theorem dX8_tries_35 : decode cX8_tries 35 = .ok (.invokevirtual 192, 3) := by decide +kernel
theorem dX8_tries_38 : decode cX8_tries 38 = .ok (.ifCond .ne 6, 3) := by decide +kernel
theorem dX8_tries_41 : decode cX8_tries 41 = .ok (.goto 23, 3) := by decide +kernel
theorem dX8_tries_44 : decode cX8_tries 44 = .ok (.aload_n 0, 1) := by decide +kernel
theorem dX8_tries_45 : decode cX8_tries 45 = .ok (.getfield 68, 3) := by decide +kernel
theorem dX8_tries_48 : decode cX8_tries 48 = .ok (.iload_n 1, 1) := by decide +kernel
theorem dX8_tries_49 : decode cX8_tries 49 = .ok (.iload_n 3, 1) := by decide +kernel
theorem dX8_tries_50 : decode cX8_tries 50 = .ok (.iastore, 1) := by decide +kernel
theorem dX8_tries_51 : decode cX8_tries 51 = .ok (.aload_n 0, 1) := by decide +kernel
theorem dX8_tries_52 : decode cX8_tries 52 = .ok (.iload_n 1, 1) := by decide +kernel
theorem dX8_tries_53 : decode cX8_tries 53 = .ok (.iconst 1, 1) := by decide +kernel
theorem dX8_tries_54 : decode cX8_tries 54 = .ok (.iadd, 1) := by decide +kernel
theorem dX8_tries_55 : decode cX8_tries 55 = .ok (.iload_n 2, 1) := by decide +kernel
theorem dX8_tries_56 : decode cX8_tries 56 = .ok (.invokevirtual 189, 3) := by decide +kernel
theorem dX8_tries_59 : decode cX8_tries 59 = .ok (.ifCond .eq 5, 3) := by decide +kernel
theorem dX8_tries_62 : decode cX8_tries 62 = .ok (.iconst 1, 1) := by decide +kernel
theorem dX8_tries_63 : decode cX8_tries 63 = .ok (.ireturn, 1) := by decide +kernel
theorem dX8_tries_64 : decode cX8_tries 64 = .ok (.iinc 3 1, 3) := by decide +kernel
theorem dX8_tries_67 : decode cX8_tries 67 = .ok (.goto (-40), 3) := by decide +kernel
theorem dX8_tries_70 : decode cX8_tries 70 = .ok (.aload_n 0, 1) := by decide +kernel
theorem dX8_tries_71 : decode cX8_tries 71 = .ok (.getfield 68, 3) := by decide +kernel
theorem dX8_tries_74 : decode cX8_tries 74 = .ok (.iload_n 1, 1) := by decide +kernel
theorem dX8_tries_75 : decode cX8_tries 75 = .ok (.iconst (-1), 1) := by decide +kernel
theorem dX8_tries_76 : decode cX8_tries 76 = .ok (.iastore, 1) := by decide +kernel
theorem dX8_tries_77 : decode cX8_tries 77 = .ok (.iconst 0, 1) := by decide +kernel
theorem dX8_tries_78 : decode cX8_tries 78 = .ok (.ireturn, 1) := by decide +kernel
theorem dX8_finds_0 : decode cX8_finds 0 = .ok (.aload_n 0, 1) := by decide +kernel
theorem dX8_finds_1 : decode cX8_finds 1 = .ok (.invokevirtual 195, 3) := by decide +kernel
theorem dX8_finds_4 : decode cX8_finds 4 = .ok (.iconst 0, 1) := by decide +kernel
theorem dX8_finds_5 : decode cX8_finds 5 = .ok (.istore_n 1, 1) := by decide +kernel
theorem dX8_finds_6 : decode cX8_finds 6 = .ok (.aload_n 0, 1) := by decide +kernel
theorem dX8_finds_7 : decode cX8_finds 7 = .ok (.iconst 1, 1) := by decide +kernel
theorem dX8_finds_8 : decode cX8_finds 8 = .ok (.iload_n 1, 1) := by decide +kernel
theorem dX8_finds_9 : decode cX8_finds 9 = .ok (.invokevirtual 189, 3) := by decide +kernel
theorem dX8_finds_12 : decode cX8_finds 12 = .ok (.ifCond .ne 9, 3) := by decide +kernel
theorem dX8_finds_15 : decode cX8_finds 15 = .ok (.iinc 1 1, 3) := by decide +kernel
theorem dX8_finds_18 : decode cX8_finds 18 = .ok (.goto (-12), 3) := by decide +kernel
theorem dX8_finds_21 : decode cX8_finds 21 = .ok (.iload_n 1, 1) := by decide +kernel
theorem dX8_finds_22 : decode cX8_finds 22 = .ok (.ireturn, 1) := by decide +kernel
theorem dX8_sets_0 : decode cX8_sets 0 = .ok (.aload_n 0, 1) := by decide +kernel
theorem dX8_sets_1 : decode cX8_sets 1 = .ok (.invokevirtual 198, 3) := by decide +kernel
theorem dX8_sets_4 : decode cX8_sets 4 = .ok (.ireturn, 1) := by decide +kernel
theorem dX8_goes_0 : decode cX8_goes 0 = .ok (.iload_n 1, 1) := by decide +kernel
theorem dX8_goes_1 : decode cX8_goes 1 = .ok (.iconst 0, 1) := by decide +kernel
theorem dX8_goes_2 : decode cX8_goes 2 = .ok (.aload_n 0, 1) := by decide +kernel
theorem dX8_goes_3 : decode cX8_goes 3 = .ok (.invokevirtual 198, 3) := by decide +kernel
theorem dX8_goes_6 : decode cX8_goes 6 = .ok (.iconst 1, 1) := by decide +kernel
theorem dX8_goes_7 : decode cX8_goes 7 = .ok (.isub, 1) := by decide +kernel
theorem dX8_goes_8 : decode cX8_goes 8 = .ok (.invokestatic 71, 3) := by decide +kernel
theorem dX8_goes_11 : decode cX8_goes 11 = .ok (.ifCond .ne 5, 3) := by decide +kernel
theorem dX8_goes_14 : decode cX8_goes 14 = .ok (.iconst (-1), 1) := by decide +kernel
theorem dX8_goes_15 : decode cX8_goes 15 = .ok (.ireturn, 1) := by decide +kernel
theorem dX8_goes_16 : decode cX8_goes 16 = .ok (.iconst (-1), 1) := by decide +kernel
theorem dX8_goes_17 : decode cX8_goes 17 = .ok (.istore_n 2, 1) := by decide +kernel
theorem dX8_goes_18 : decode cX8_goes 18 = .ok (.iconst (-1), 1) := by decide +kernel
theorem dX8_goes_19 : decode cX8_goes 19 = .ok (.istore_n 3, 1) := by decide +kernel
theorem dX8_goes_20 : decode cX8_goes 20 = .ok (.iconst 1, 1) := by decide +kernel
theorem dX8_goes_21 : decode cX8_goes 21 = .ok (.istore 4, 2) := by decide +kernel
theorem dX8_goes_23 : decode cX8_goes 23 = .ok (.iload 4, 2) := by decide +kernel
theorem dX8_goes_25 : decode cX8_goes 25 = .ok (.bipush 8, 2) := by decide +kernel
theorem dX8_goes_27 : decode cX8_goes 27 = .ok (.if_icmp .ge 47, 3) := by decide +kernel
theorem dX8_goes_30 : decode cX8_goes 30 = .ok (.aload_n 0, 1) := by decide +kernel
theorem dX8_goes_31 : decode cX8_goes 31 = .ok (.iload 4, 2) := by decide +kernel
theorem dX8_goes_33 : decode cX8_goes 33 = .ok (.invokevirtual 180, 3) := by decide +kernel
theorem dX8_goes_36 : decode cX8_goes 36 = .ok (.ifCond .eq 32, 3) := by decide +kernel
theorem dX8_goes_39 : decode cX8_goes 39 = .ok (.aload_n 0, 1) := by decide +kernel
theorem dX8_goes_40 : decode cX8_goes 40 = .ok (.getfield 68, 3) := by decide +kernel
theorem dX8_goes_43 : decode cX8_goes 43 = .ok (.iload 4, 2) := by decide +kernel
theorem dX8_goes_45 : decode cX8_goes 45 = .ok (.iaload, 1) := by decide +kernel
theorem dX8_goes_46 : decode cX8_goes 46 = .ok (.iload_n 1, 1) := by decide +kernel
theorem dX8_goes_47 : decode cX8_goes 47 = .ok (.if_icmp .eq 6, 3) := by decide +kernel
theorem dX8_goes_50 : decode cX8_goes 50 = .ok (.goto 18, 3) := by decide +kernel
theorem dX8_goes_53 : decode cX8_goes 53 = .ok (.iload_n 2, 1) := by decide +kernel
theorem dX8_goes_54 : decode cX8_goes 54 = .ok (.iconst (-1), 1) := by decide +kernel
theorem dX8_goes_55 : decode cX8_goes 55 = .ok (.if_icmp .ne 8, 3) := by decide +kernel
theorem dX8_goes_58 : decode cX8_goes 58 = .ok (.iload 4, 2) := by decide +kernel
theorem dX8_goes_60 : decode cX8_goes 60 = .ok (.goto 4, 3) := by decide +kernel
theorem dX8_goes_63 : decode cX8_goes 63 = .ok (.iload_n 2, 1) := by decide +kernel
theorem dX8_goes_64 : decode cX8_goes 64 = .ok (.istore_n 2, 1) := by decide +kernel
theorem dX8_goes_65 : decode cX8_goes 65 = .ok (.iload 4, 2) := by decide +kernel
theorem dX8_goes_67 : decode cX8_goes 67 = .ok (.istore_n 3, 1) := by decide +kernel
theorem dX8_goes_68 : decode cX8_goes 68 = .ok (.iinc 4 1, 3) := by decide +kernel
theorem dX8_goes_71 : decode cX8_goes 71 = .ok (.goto (-48), 3) := by decide +kernel
theorem dX8_goes_74 : decode cX8_goes 74 = .ok (.aload_n 0, 1) := by decide +kernel
theorem dX8_goes_75 : decode cX8_goes 75 = .ok (.iload_n 2, 1) := by decide +kernel
theorem dX8_goes_76 : decode cX8_goes 76 = .ok (.iload_n 3, 1) := by decide +kernel
theorem dX8_goes_77 : decode cX8_goes 77 = .ok (.invokevirtual 186, 3) := by decide +kernel
theorem dX8_goes_80 : decode cX8_goes 80 = .ok (.ireturn, 1) := by decide +kernel
theorem dX8_of_0 : decode cX8_of 0 = .ok (.iload_n 1, 1) := by decide +kernel
theorem dX8_of_1 : decode cX8_of 1 = .ok (.invokestatic 78, 3) := by decide +kernel
theorem dX8_of_4 : decode cX8_of 4 = .ok (.ifCond .ne 5, 3) := by decide +kernel
theorem dX8_of_7 : decode cX8_of 7 = .ok (.iconst (-1), 1) := by decide +kernel
theorem dX8_of_8 : decode cX8_of 8 = .ok (.ireturn, 1) := by decide +kernel
theorem dX8_of_9 : decode cX8_of 9 = .ok (.aload_n 0, 1) := by decide +kernel
theorem dX8_of_10 : decode cX8_of 10 = .ok (.invokevirtual 198, 3) := by decide +kernel
theorem dX8_of_13 : decode cX8_of 13 = .ok (.pop, 1) := by decide +kernel
theorem dX8_of_14 : decode cX8_of 14 = .ok (.aload_n 0, 1) := by decide +kernel
theorem dX8_of_15 : decode cX8_of 15 = .ok (.getfield 59, 3) := by decide +kernel
theorem dX8_of_18 : decode cX8_of 18 = .ok (.iload_n 1, 1) := by decide +kernel
theorem dX8_of_19 : decode cX8_of 19 = .ok (.iconst 1, 1) := by decide +kernel
theorem dX8_of_20 : decode cX8_of 20 = .ok (.isub, 1) := by decide +kernel
theorem dX8_of_21 : decode cX8_of 21 = .ok (.iaload, 1) := by decide +kernel
theorem dX8_of_22 : decode cX8_of 22 = .ok (.istore_n 3, 1) := by decide +kernel
theorem dX8_of_23 : decode cX8_of 23 = .ok (.iload_n 2, 1) := by decide +kernel
theorem dX8_of_24 : decode cX8_of 24 = .ok (.tableswitch 120 0 5 #[40, 42, 57, 72, 87, 96], 40) := by decide +kernel
theorem dX8_of_64 : decode cX8_of 64 = .ok (.iload_n 3, 1) := by decide +kernel
theorem dX8_of_65 : decode cX8_of 65 = .ok (.ireturn, 1) := by decide +kernel
theorem dX8_of_66 : decode cX8_of 66 = .ok (.iload_n 3, 1) := by decide +kernel
theorem dX8_of_67 : decode cX8_of 67 = .ok (.ifCond .ne 7, 3) := by decide +kernel
theorem dX8_of_70 : decode cX8_of 70 = .ok (.iconst (-1), 1) := by decide +kernel
theorem dX8_of_71 : decode cX8_of 71 = .ok (.goto 9, 3) := by decide +kernel
theorem dX8_of_74 : decode cX8_of 74 = .ok (.aload_n 0, 1) := by decide +kernel
theorem dX8_of_75 : decode cX8_of 75 = .ok (.getfield 62, 3) := by decide +kernel
theorem dX8_of_78 : decode cX8_of 78 = .ok (.iload_n 1, 1) := by decide +kernel
theorem dX8_of_79 : decode cX8_of 79 = .ok (.iaload, 1) := by decide +kernel
theorem dX8_of_80 : decode cX8_of 80 = .ok (.ireturn, 1) := by decide +kernel
theorem dX8_of_81 : decode cX8_of 81 = .ok (.iload_n 3, 1) := by decide +kernel
theorem dX8_of_82 : decode cX8_of 82 = .ok (.ifCond .ne 7, 3) := by decide +kernel
theorem dX8_of_85 : decode cX8_of 85 = .ok (.iconst (-1), 1) := by decide +kernel
theorem dX8_of_86 : decode cX8_of 86 = .ok (.goto 9, 3) := by decide +kernel
theorem dX8_of_89 : decode cX8_of 89 = .ok (.aload_n 0, 1) := by decide +kernel
theorem dX8_of_90 : decode cX8_of 90 = .ok (.getfield 65, 3) := by decide +kernel
theorem dX8_of_93 : decode cX8_of 93 = .ok (.iload_n 1, 1) := by decide +kernel
theorem dX8_of_94 : decode cX8_of 94 = .ok (.iaload, 1) := by decide +kernel
theorem dX8_of_95 : decode cX8_of 95 = .ok (.ireturn, 1) := by decide +kernel
theorem dX8_of_96 : decode cX8_of 96 = .ok (.iload_n 3, 1) := by decide +kernel
theorem dX8_of_97 : decode cX8_of 97 = .ok (.ifCond .ne 7, 3) := by decide +kernel
theorem dX8_of_100 : decode cX8_of 100 = .ok (.iconst (-1), 1) := by decide +kernel
theorem dX8_of_101 : decode cX8_of 101 = .ok (.goto 9, 3) := by decide +kernel
theorem dX8_of_104 : decode cX8_of 104 = .ok (.aload_n 0, 1) := by decide +kernel
theorem dX8_of_105 : decode cX8_of 105 = .ok (.getfield 68, 3) := by decide +kernel
theorem dX8_of_108 : decode cX8_of 108 = .ok (.iload_n 1, 1) := by decide +kernel
theorem dX8_of_109 : decode cX8_of 109 = .ok (.iaload, 1) := by decide +kernel
theorem dX8_of_110 : decode cX8_of 110 = .ok (.ireturn, 1) := by decide +kernel
theorem dX8_of_111 : decode cX8_of 111 = .ok (.aload_n 0, 1) := by decide +kernel
theorem dX8_of_112 : decode cX8_of 112 = .ok (.getfield 25, 3) := by decide +kernel
theorem dX8_of_115 : decode cX8_of 115 = .ok (.iconst 3, 1) := by decide +kernel
theorem dX8_of_116 : decode cX8_of 116 = .ok (.iaload, 1) := by decide +kernel
theorem dX8_of_117 : decode cX8_of 117 = .ok (.iload_n 3, 1) := by decide +kernel
theorem dX8_of_118 : decode cX8_of 118 = .ok (.iadd, 1) := by decide +kernel
theorem dX8_of_119 : decode cX8_of 119 = .ok (.ireturn, 1) := by decide +kernel
theorem dX8_of_120 : decode cX8_of 120 = .ok (.aload_n 0, 1) := by decide +kernel
theorem dX8_of_121 : decode cX8_of 121 = .ok (.getfield 25, 3) := by decide +kernel
theorem dX8_of_124 : decode cX8_of 124 = .ok (.iconst 3, 1) := by decide +kernel
theorem dX8_of_125 : decode cX8_of 125 = .ok (.iaload, 1) := by decide +kernel
theorem dX8_of_126 : decode cX8_of 126 = .ok (.iload_n 3, 1) := by decide +kernel
theorem dX8_of_127 : decode cX8_of 127 = .ok (.iadd, 1) := by decide +kernel
theorem dX8_of_128 : decode cX8_of 128 = .ok (.aload_n 0, 1) := by decide +kernel
theorem dX8_of_129 : decode cX8_of 129 = .ok (.getfield 25, 3) := by decide +kernel
theorem dX8_of_132 : decode cX8_of 132 = .ok (.iconst 4, 1) := by decide +kernel
theorem dX8_of_133 : decode cX8_of 133 = .ok (.iaload, 1) := by decide +kernel
theorem dX8_of_134 : decode cX8_of 134 = .ok (.imul, 1) := by decide +kernel
theorem dX8_of_135 : decode cX8_of 135 = .ok (.sipush 999, 3) := by decide +kernel
theorem dX8_of_138 : decode cX8_of 138 = .ok (.iadd, 1) := by decide +kernel
theorem dX8_of_139 : decode cX8_of 139 = .ok (.sipush 1000, 3) := by decide +kernel
theorem dX8_of_142 : decode cX8_of 142 = .ok (.idiv, 1) := by decide +kernel
theorem dX8_of_143 : decode cX8_of 143 = .ok (.ireturn, 1) := by decide +kernel
theorem dX8_of_144 : decode cX8_of 144 = .ok (.iconst (-1), 1) := by decide +kernel
theorem dX8_of_145 : decode cX8_of 145 = .ok (.ireturn, 1) := by decide +kernel
theorem dX8_sweep_0 : decode cX8_sweep 0 = .ok (.iload_n 1, 1) := by decide +kernel
theorem dX8_sweep_1 : decode cX8_sweep 1 = .ok (.invokestatic 82, 3) := by decide +kernel
theorem dX8_sweep_4 : decode cX8_sweep 4 = .ok (.ifCond .eq 12, 3) := by decide +kernel
theorem dX8_sweep_7 : decode cX8_sweep 7 = .ok (.iload_n 2, 1) := by decide +kernel
theorem dX8_sweep_8 : decode cX8_sweep 8 = .ok (.iconst 0, 1) := by decide +kernel
theorem dX8_sweep_9 : decode cX8_sweep 9 = .ok (.iconst 2, 1) := by decide +kernel
theorem dX8_sweep_10 : decode cX8_sweep 10 = .ok (.invokestatic 71, 3) := by decide +kernel
theorem dX8_sweep_13 : decode cX8_sweep 13 = .ok (.ifCond .ne 5, 3) := by decide +kernel
theorem dX8_sweep_16 : decode cX8_sweep 16 = .ok (.iconst (-1), 1) := by decide +kernel
theorem dX8_sweep_17 : decode cX8_sweep 17 = .ok (.ireturn, 1) := by decide +kernel
theorem dX8_sweep_18 : decode cX8_sweep 18 = .ok (.aload_n 0, 1) := by decide +kernel
theorem dX8_sweep_19 : decode cX8_sweep 19 = .ok (.invokevirtual 177, 3) := by decide +kernel
theorem dX8_sweep_22 : decode cX8_sweep 22 = .ok (.iconst 0, 1) := by decide +kernel
theorem dX8_sweep_23 : decode cX8_sweep 23 = .ok (.istore_n 3, 1) := by decide +kernel
theorem dX8_sweep_24 : decode cX8_sweep 24 = .ok (.iconst 0, 1) := by decide +kernel
theorem dX8_sweep_25 : decode cX8_sweep 25 = .ok (.istore 4, 2) := by decide +kernel
theorem dX8_sweep_27 : decode cX8_sweep 27 = .ok (.iconst (-1), 1) := by decide +kernel
theorem dX8_sweep_28 : decode cX8_sweep 28 = .ok (.istore 5, 2) := by decide +kernel
theorem dX8_sweep_30 : decode cX8_sweep 30 = .ok (.iconst 0, 1) := by decide +kernel
theorem dX8_sweep_31 : decode cX8_sweep 31 = .ok (.istore 6, 2) := by decide +kernel
theorem dX8_sweep_33 : decode cX8_sweep 33 = .ok (.iload 6, 2) := by decide +kernel
theorem dX8_sweep_35 : decode cX8_sweep 35 = .ok (.aload_n 0, 1) := by decide +kernel
theorem dX8_sweep_36 : decode cX8_sweep 36 = .ok (.getfield 75, 3) := by decide +kernel
theorem dX8_sweep_39 : decode cX8_sweep 39 = .ok (.if_icmp .ge 85, 3) := by decide +kernel
theorem dX8_sweep_42 : decode cX8_sweep 42 = .ok (.aload_n 0, 1) := by decide +kernel
theorem dX8_sweep_43 : decode cX8_sweep 43 = .ok (.getfield 47, 3) := by decide +kernel
theorem dX8_sweep_46 : decode cX8_sweep 46 = .ok (.bipush 10, 2) := by decide +kernel
theorem dX8_sweep_48 : decode cX8_sweep 48 = .ok (.iload_n 1, 1) := by decide +kernel
theorem dX8_sweep_49 : decode cX8_sweep 49 = .ok (.imul, 1) := by decide +kernel
theorem dX8_sweep_50 : decode cX8_sweep 50 = .ok (.iload 6, 2) := by decide +kernel
theorem dX8_sweep_52 : decode cX8_sweep 52 = .ok (.iadd, 1) := by decide +kernel
theorem dX8_sweep_53 : decode cX8_sweep 53 = .ok (.iaload, 1) := by decide +kernel
theorem dX8_sweep_54 : decode cX8_sweep 54 = .ok (.iload 5, 2) := by decide +kernel
theorem dX8_sweep_56 : decode cX8_sweep 56 = .ok (.if_icmp .le 18, 3) := by decide +kernel
theorem dX8_sweep_59 : decode cX8_sweep 59 = .ok (.aload_n 0, 1) := by decide +kernel
theorem dX8_sweep_60 : decode cX8_sweep 60 = .ok (.getfield 47, 3) := by decide +kernel
theorem dX8_sweep_63 : decode cX8_sweep 63 = .ok (.bipush 10, 2) := by decide +kernel
theorem dX8_sweep_65 : decode cX8_sweep 65 = .ok (.iload_n 1, 1) := by decide +kernel
theorem dX8_sweep_66 : decode cX8_sweep 66 = .ok (.imul, 1) := by decide +kernel
theorem dX8_sweep_67 : decode cX8_sweep 67 = .ok (.iload 6, 2) := by decide +kernel
theorem dX8_sweep_69 : decode cX8_sweep 69 = .ok (.iadd, 1) := by decide +kernel
theorem dX8_sweep_70 : decode cX8_sweep 70 = .ok (.iaload, 1) := by decide +kernel
theorem dX8_sweep_71 : decode cX8_sweep 71 = .ok (.goto 5, 3) := by decide +kernel
theorem dX8_sweep_74 : decode cX8_sweep 74 = .ok (.iload 5, 2) := by decide +kernel
theorem dX8_sweep_76 : decode cX8_sweep 76 = .ok (.istore 5, 2) := by decide +kernel
theorem dX8_sweep_78 : decode cX8_sweep 78 = .ok (.aload_n 0, 1) := by decide +kernel
theorem dX8_sweep_79 : decode cX8_sweep 79 = .ok (.getfield 47, 3) := by decide +kernel
theorem dX8_sweep_82 : decode cX8_sweep 82 = .ok (.bipush 10, 2) := by decide +kernel
theorem dX8_sweep_84 : decode cX8_sweep 84 = .ok (.iload_n 1, 1) := by decide +kernel
theorem dX8_sweep_85 : decode cX8_sweep 85 = .ok (.imul, 1) := by decide +kernel
theorem dX8_sweep_86 : decode cX8_sweep 86 = .ok (.iload 6, 2) := by decide +kernel
theorem dX8_sweep_88 : decode cX8_sweep 88 = .ok (.iadd, 1) := by decide +kernel
theorem dX8_sweep_89 : decode cX8_sweep 89 = .ok (.iaload, 1) := by decide +kernel
theorem dX8_sweep_90 : decode cX8_sweep 90 = .ok (.iconst (-1), 1) := by decide +kernel
theorem dX8_sweep_91 : decode cX8_sweep 91 = .ok (.if_icmp .eq 27, 3) := by decide +kernel
theorem dX8_sweep_94 : decode cX8_sweep 94 = .ok (.aload_n 0, 1) := by decide +kernel
theorem dX8_sweep_95 : decode cX8_sweep 95 = .ok (.getfield 19, 3) := by decide +kernel
theorem dX8_sweep_98 : decode cX8_sweep 98 = .ok (.iload 6, 2) := by decide +kernel
theorem dX8_sweep_100 : decode cX8_sweep 100 = .ok (.iaload, 1) := by decide +kernel
theorem dX8_sweep_101 : decode cX8_sweep 101 = .ok (.iload_n 1, 1) := by decide +kernel
theorem dX8_sweep_102 : decode cX8_sweep 102 = .ok (.if_icmp .eq 6, 3) := by decide +kernel
theorem dX8_sweep_105 : decode cX8_sweep 105 = .ok (.goto 13, 3) := by decide +kernel
theorem dX8_sweep_108 : decode cX8_sweep 108 = .ok (.iload_n 3, 1) := by decide +kernel
theorem dX8_sweep_109 : decode cX8_sweep 109 = .ok (.iconst 1, 1) := by decide +kernel
theorem dX8_sweep_110 : decode cX8_sweep 110 = .ok (.iload 6, 2) := by decide +kernel
theorem dX8_sweep_112 : decode cX8_sweep 112 = .ok (.ishl, 1) := by decide +kernel
theorem dX8_sweep_113 : decode cX8_sweep 113 = .ok (.ior, 1) := by decide +kernel
theorem dX8_sweep_114 : decode cX8_sweep 114 = .ok (.istore_n 3, 1) := by decide +kernel
theorem dX8_sweep_115 : decode cX8_sweep 115 = .ok (.iinc 4 1, 3) := by decide +kernel
theorem dX8_sweep_118 : decode cX8_sweep 118 = .ok (.iinc 6 1, 3) := by decide +kernel
theorem dX8_sweep_121 : decode cX8_sweep 121 = .ok (.goto (-88), 3) := by decide +kernel
theorem dX8_sweep_124 : decode cX8_sweep 124 = .ok (.iload_n 2, 1) := by decide +kernel
theorem dX8_sweep_125 : decode cX8_sweep 125 = .ok (.ifCond .ne 12, 3) := by decide +kernel
theorem dX8_sweep_128 : decode cX8_sweep 128 = .ok (.iload 4, 2) := by decide +kernel
theorem dX8_sweep_130 : decode cX8_sweep 130 = .ok (.iconst 3, 1) := by decide +kernel
theorem dX8_sweep_131 : decode cX8_sweep 131 = .ok (.iadd, 1) := by decide +kernel
theorem dX8_sweep_132 : decode cX8_sweep 132 = .ok (.iconst 4, 1) := by decide +kernel
theorem dX8_sweep_133 : decode cX8_sweep 133 = .ok (.idiv, 1) := by decide +kernel
theorem dX8_sweep_134 : decode cX8_sweep 134 = .ok (.goto 40, 3) := by decide +kernel
theorem dX8_sweep_137 : decode cX8_sweep 137 = .ok (.iload_n 2, 1) := by decide +kernel
theorem dX8_sweep_138 : decode cX8_sweep 138 = .ok (.iconst 1, 1) := by decide +kernel
theorem dX8_sweep_139 : decode cX8_sweep 139 = .ok (.if_icmp .ne 7, 3) := by decide +kernel
theorem dX8_sweep_142 : decode cX8_sweep 142 = .ok (.iload_n 3, 1) := by decide +kernel
theorem dX8_sweep_143 : decode cX8_sweep 143 = .ok (.goto 31, 3) := by decide +kernel
theorem dX8_sweep_146 : decode cX8_sweep 146 = .ok (.iload 4, 2) := by decide +kernel
theorem dX8_sweep_148 : decode cX8_sweep 148 = .ok (.ifCond .ne 7, 3) := by decide +kernel
theorem dX8_sweep_151 : decode cX8_sweep 151 = .ok (.iconst (-1), 1) := by decide +kernel
theorem dX8_sweep_152 : decode cX8_sweep 152 = .ok (.goto 22, 3) := by decide +kernel
theorem dX8_sweep_155 : decode cX8_sweep 155 = .ok (.iload 5, 2) := by decide +kernel
theorem dX8_sweep_157 : decode cX8_sweep 157 = .ok (.bipush 60, 2) := by decide +kernel
theorem dX8_sweep_159 : decode cX8_sweep 159 = .ok (.iadd, 1) := by decide +kernel
theorem dX8_sweep_160 : decode cX8_sweep 160 = .ok (.iconst 2, 1) := by decide +kernel
theorem dX8_sweep_161 : decode cX8_sweep 161 = .ok (.aload_n 0, 1) := by decide +kernel
theorem dX8_sweep_162 : decode cX8_sweep 162 = .ok (.iload_n 1, 1) := by decide +kernel
theorem dX8_sweep_163 : decode cX8_sweep 163 = .ok (.invokevirtual 88, 3) := by decide +kernel
theorem dX8_sweep_166 : decode cX8_sweep 166 = .ok (.imul, 1) := by decide +kernel
theorem dX8_sweep_167 : decode cX8_sweep 167 = .ok (.iadd, 1) := by decide +kernel
theorem dX8_sweep_168 : decode cX8_sweep 168 = .ok (.bipush 15, 2) := by decide +kernel
theorem dX8_sweep_170 : decode cX8_sweep 170 = .ok (.iload 4, 2) := by decide +kernel
theorem dX8_sweep_172 : decode cX8_sweep 172 = .ok (.imul, 1) := by decide +kernel
theorem dX8_sweep_173 : decode cX8_sweep 173 = .ok (.iadd, 1) := by decide +kernel
theorem dX8_sweep_174 : decode cX8_sweep 174 = .ok (.ireturn, 1) := by decide +kernel
theorem dL_law_0 : decode cL_law 0 = .ok (.new 7, 3) := by decide +kernel
theorem dL_law_3 : decode cL_law 3 = .ok (.dup, 1) := by decide +kernel
theorem dL_law_4 : decode cL_law 4 = .ok (.invokespecial 9, 3) := by decide +kernel
theorem dL_law_7 : decode cL_law 7 = .ok (.astore_n 1, 1) := by decide +kernel
theorem dL_law_8 : decode cL_law 8 = .ok (.new 10, 3) := by decide +kernel
theorem dL_law_11 : decode cL_law 11 = .ok (.dup, 1) := by decide +kernel
theorem dL_law_12 : decode cL_law 12 = .ok (.invokespecial 12, 3) := by decide +kernel
theorem dL_law_15 : decode cL_law 15 = .ok (.astore_n 2, 1) := by decide +kernel
theorem dL_law_16 : decode cL_law 16 = .ok (.iconst 0, 1) := by decide +kernel
theorem dL_law_17 : decode cL_law 17 = .ok (.istore_n 3, 1) := by decide +kernel
theorem dL_law_18 : decode cL_law 18 = .ok (.iload_n 3, 1) := by decide +kernel
theorem dL_law_19 : decode cL_law 19 = .ok (.aload_n 0, 1) := by decide +kernel
theorem dL_law_20 : decode cL_law 20 = .ok (.arraylength, 1) := by decide +kernel
theorem dL_law_21 : decode cL_law 21 = .ok (.bipush 6, 2) := by decide +kernel
theorem dL_law_23 : decode cL_law 23 = .ok (.isub, 1) := by decide +kernel
theorem dL_law_24 : decode cL_law 24 = .ok (.if_icmp .gt 619, 3) := by decide +kernel
theorem dL_law_27 : decode cL_law 27 = .ok (.aload_n 0, 1) := by decide +kernel
theorem dL_law_28 : decode cL_law 28 = .ok (.iload_n 3, 1) := by decide +kernel
theorem dL_law_29 : decode cL_law 29 = .ok (.iaload, 1) := by decide +kernel
theorem dL_law_30 : decode cL_law 30 = .ok (.bipush 31, 2) := by decide +kernel
theorem dL_law_32 : decode cL_law 32 = .ok (.iand, 1) := by decide +kernel
theorem dL_law_33 : decode cL_law 33 = .ok (.tableswitch 604 0 16 #[83, 116, 149, 172, 215, 248, 311, 334, 347, 370, 393, 426, 469, 502, 535, 548, 571], 83) := by decide +kernel
theorem dL_law_116 : decode cL_law 116 = .ok (.aload_n 1, 1) := by decide +kernel
theorem dL_law_117 : decode cL_law 117 = .ok (.aload_n 0, 1) := by decide +kernel
theorem dL_law_118 : decode cL_law 118 = .ok (.iload_n 3, 1) := by decide +kernel
theorem dL_law_119 : decode cL_law 119 = .ok (.iconst 1, 1) := by decide +kernel
theorem dL_law_120 : decode cL_law 120 = .ok (.iadd, 1) := by decide +kernel
theorem dL_law_121 : decode cL_law 121 = .ok (.iaload, 1) := by decide +kernel
theorem dL_law_122 : decode cL_law 122 = .ok (.aload_n 0, 1) := by decide +kernel
theorem dL_law_123 : decode cL_law 123 = .ok (.iload_n 3, 1) := by decide +kernel
theorem dL_law_124 : decode cL_law 124 = .ok (.iconst 2, 1) := by decide +kernel
theorem dL_law_125 : decode cL_law 125 = .ok (.iadd, 1) := by decide +kernel
theorem dL_law_126 : decode cL_law 126 = .ok (.iaload, 1) := by decide +kernel
theorem dL_law_127 : decode cL_law 127 = .ok (.invokevirtual 13, 3) := by decide +kernel
theorem dL_law_130 : decode cL_law 130 = .ok (.aload_n 2, 1) := by decide +kernel
theorem dL_law_131 : decode cL_law 131 = .ok (.aload_n 0, 1) := by decide +kernel
theorem dL_law_132 : decode cL_law 132 = .ok (.iload_n 3, 1) := by decide +kernel
theorem dL_law_133 : decode cL_law 133 = .ok (.iconst 1, 1) := by decide +kernel
theorem dL_law_134 : decode cL_law 134 = .ok (.iadd, 1) := by decide +kernel
theorem dL_law_135 : decode cL_law 135 = .ok (.iaload, 1) := by decide +kernel
theorem dL_law_136 : decode cL_law 136 = .ok (.aload_n 0, 1) := by decide +kernel
theorem dL_law_137 : decode cL_law 137 = .ok (.iload_n 3, 1) := by decide +kernel
theorem dL_law_138 : decode cL_law 138 = .ok (.iconst 2, 1) := by decide +kernel
theorem dL_law_139 : decode cL_law 139 = .ok (.iadd, 1) := by decide +kernel
theorem dL_law_140 : decode cL_law 140 = .ok (.iaload, 1) := by decide +kernel
theorem dL_law_141 : decode cL_law 141 = .ok (.invokevirtual 17, 3) := by decide +kernel
theorem dL_law_144 : decode cL_law 144 = .ok (.if_icmp .eq 493, 3) := by decide +kernel
theorem dL_law_147 : decode cL_law 147 = .ok (.iconst 0, 1) := by decide +kernel
theorem dL_law_148 : decode cL_law 148 = .ok (.ireturn, 1) := by decide +kernel
theorem dL_law_149 : decode cL_law 149 = .ok (.aload_n 1, 1) := by decide +kernel
theorem dL_law_150 : decode cL_law 150 = .ok (.aload_n 0, 1) := by decide +kernel
theorem dL_law_151 : decode cL_law 151 = .ok (.iload_n 3, 1) := by decide +kernel
theorem dL_law_152 : decode cL_law 152 = .ok (.iconst 1, 1) := by decide +kernel
theorem dL_law_153 : decode cL_law 153 = .ok (.iadd, 1) := by decide +kernel
theorem dL_law_154 : decode cL_law 154 = .ok (.iaload, 1) := by decide +kernel
theorem dL_law_155 : decode cL_law 155 = .ok (.aload_n 0, 1) := by decide +kernel
theorem dL_law_156 : decode cL_law 156 = .ok (.iload_n 3, 1) := by decide +kernel
theorem dL_law_157 : decode cL_law 157 = .ok (.iconst 2, 1) := by decide +kernel
theorem dL_law_158 : decode cL_law 158 = .ok (.iadd, 1) := by decide +kernel
theorem dL_law_159 : decode cL_law 159 = .ok (.iaload, 1) := by decide +kernel
theorem dL_law_160 : decode cL_law 160 = .ok (.invokevirtual 18, 3) := by decide +kernel
theorem dL_law_163 : decode cL_law 163 = .ok (.aload_n 2, 1) := by decide +kernel
theorem dL_law_164 : decode cL_law 164 = .ok (.aload_n 0, 1) := by decide +kernel
theorem dL_law_165 : decode cL_law 165 = .ok (.iload_n 3, 1) := by decide +kernel
theorem dL_law_166 : decode cL_law 166 = .ok (.iconst 1, 1) := by decide +kernel
theorem dL_law_167 : decode cL_law 167 = .ok (.iadd, 1) := by decide +kernel
theorem dL_law_168 : decode cL_law 168 = .ok (.iaload, 1) := by decide +kernel
theorem dL_law_169 : decode cL_law 169 = .ok (.aload_n 0, 1) := by decide +kernel
theorem dL_law_170 : decode cL_law 170 = .ok (.iload_n 3, 1) := by decide +kernel
theorem dL_law_171 : decode cL_law 171 = .ok (.iconst 2, 1) := by decide +kernel
theorem dL_law_172 : decode cL_law 172 = .ok (.iadd, 1) := by decide +kernel
theorem dL_law_173 : decode cL_law 173 = .ok (.iaload, 1) := by decide +kernel
theorem dL_law_174 : decode cL_law 174 = .ok (.invokevirtual 21, 3) := by decide +kernel
theorem dL_law_177 : decode cL_law 177 = .ok (.if_icmp .eq 460, 3) := by decide +kernel
theorem dL_law_180 : decode cL_law 180 = .ok (.iconst 0, 1) := by decide +kernel
theorem dL_law_181 : decode cL_law 181 = .ok (.ireturn, 1) := by decide +kernel
theorem dL_law_182 : decode cL_law 182 = .ok (.aload_n 1, 1) := by decide +kernel
theorem dL_law_183 : decode cL_law 183 = .ok (.aload_n 0, 1) := by decide +kernel
theorem dL_law_184 : decode cL_law 184 = .ok (.iload_n 3, 1) := by decide +kernel
theorem dL_law_185 : decode cL_law 185 = .ok (.iconst 1, 1) := by decide +kernel
theorem dL_law_186 : decode cL_law 186 = .ok (.iadd, 1) := by decide +kernel
theorem dL_law_187 : decode cL_law 187 = .ok (.iaload, 1) := by decide +kernel
theorem dL_law_188 : decode cL_law 188 = .ok (.invokevirtual 22, 3) := by decide +kernel
theorem dL_law_191 : decode cL_law 191 = .ok (.aload_n 2, 1) := by decide +kernel
theorem dL_law_192 : decode cL_law 192 = .ok (.aload_n 0, 1) := by decide +kernel
theorem dL_law_193 : decode cL_law 193 = .ok (.iload_n 3, 1) := by decide +kernel
theorem dL_law_194 : decode cL_law 194 = .ok (.iconst 1, 1) := by decide +kernel
theorem dL_law_195 : decode cL_law 195 = .ok (.iadd, 1) := by decide +kernel
theorem dL_law_196 : decode cL_law 196 = .ok (.iaload, 1) := by decide +kernel
theorem dL_law_197 : decode cL_law 197 = .ok (.invokevirtual 26, 3) := by decide +kernel
theorem dL_law_200 : decode cL_law 200 = .ok (.if_icmp .eq 437, 3) := by decide +kernel
theorem dL_law_203 : decode cL_law 203 = .ok (.iconst 0, 1) := by decide +kernel
theorem dL_law_204 : decode cL_law 204 = .ok (.ireturn, 1) := by decide +kernel
theorem dL_law_205 : decode cL_law 205 = .ok (.aload_n 1, 1) := by decide +kernel
theorem dL_law_206 : decode cL_law 206 = .ok (.aload_n 0, 1) := by decide +kernel
theorem dL_law_207 : decode cL_law 207 = .ok (.iload_n 3, 1) := by decide +kernel
theorem dL_law_208 : decode cL_law 208 = .ok (.iconst 1, 1) := by decide +kernel
theorem dL_law_209 : decode cL_law 209 = .ok (.iadd, 1) := by decide +kernel
theorem dL_law_210 : decode cL_law 210 = .ok (.iaload, 1) := by decide +kernel
theorem dL_law_211 : decode cL_law 211 = .ok (.aload_n 0, 1) := by decide +kernel
theorem dL_law_212 : decode cL_law 212 = .ok (.iload_n 3, 1) := by decide +kernel
theorem dL_law_213 : decode cL_law 213 = .ok (.iconst 2, 1) := by decide +kernel
theorem dL_law_214 : decode cL_law 214 = .ok (.iadd, 1) := by decide +kernel
theorem dL_law_215 : decode cL_law 215 = .ok (.iaload, 1) := by decide +kernel
theorem dL_law_216 : decode cL_law 216 = .ok (.aload_n 0, 1) := by decide +kernel
theorem dL_law_217 : decode cL_law 217 = .ok (.iload_n 3, 1) := by decide +kernel
theorem dL_law_218 : decode cL_law 218 = .ok (.iconst 3, 1) := by decide +kernel
theorem dL_law_219 : decode cL_law 219 = .ok (.iadd, 1) := by decide +kernel
theorem dL_law_220 : decode cL_law 220 = .ok (.iaload, 1) := by decide +kernel
theorem dL_law_221 : decode cL_law 221 = .ok (.invokevirtual 27, 3) := by decide +kernel
theorem dL_law_224 : decode cL_law 224 = .ok (.aload_n 2, 1) := by decide +kernel
theorem dL_law_225 : decode cL_law 225 = .ok (.aload_n 0, 1) := by decide +kernel
theorem dL_law_226 : decode cL_law 226 = .ok (.iload_n 3, 1) := by decide +kernel
theorem dL_law_227 : decode cL_law 227 = .ok (.iconst 1, 1) := by decide +kernel
theorem dL_law_228 : decode cL_law 228 = .ok (.iadd, 1) := by decide +kernel
theorem dL_law_229 : decode cL_law 229 = .ok (.iaload, 1) := by decide +kernel
theorem dL_law_230 : decode cL_law 230 = .ok (.aload_n 0, 1) := by decide +kernel
theorem dL_law_231 : decode cL_law 231 = .ok (.iload_n 3, 1) := by decide +kernel
theorem dL_law_232 : decode cL_law 232 = .ok (.iconst 2, 1) := by decide +kernel
theorem dL_law_233 : decode cL_law 233 = .ok (.iadd, 1) := by decide +kernel
theorem dL_law_234 : decode cL_law 234 = .ok (.iaload, 1) := by decide +kernel
theorem dL_law_235 : decode cL_law 235 = .ok (.aload_n 0, 1) := by decide +kernel
theorem dL_law_236 : decode cL_law 236 = .ok (.iload_n 3, 1) := by decide +kernel
theorem dL_law_237 : decode cL_law 237 = .ok (.iconst 3, 1) := by decide +kernel
theorem dL_law_238 : decode cL_law 238 = .ok (.iadd, 1) := by decide +kernel
theorem dL_law_239 : decode cL_law 239 = .ok (.iaload, 1) := by decide +kernel
theorem dL_law_240 : decode cL_law 240 = .ok (.invokevirtual 31, 3) := by decide +kernel
theorem dL_law_243 : decode cL_law 243 = .ok (.if_icmp .eq 394, 3) := by decide +kernel
theorem dL_law_246 : decode cL_law 246 = .ok (.iconst 0, 1) := by decide +kernel
theorem dL_law_247 : decode cL_law 247 = .ok (.ireturn, 1) := by decide +kernel
theorem dL_law_248 : decode cL_law 248 = .ok (.aload_n 1, 1) := by decide +kernel
theorem dL_law_249 : decode cL_law 249 = .ok (.aload_n 0, 1) := by decide +kernel
theorem dL_law_250 : decode cL_law 250 = .ok (.iload_n 3, 1) := by decide +kernel
theorem dL_law_251 : decode cL_law 251 = .ok (.iconst 1, 1) := by decide +kernel
theorem dL_law_252 : decode cL_law 252 = .ok (.iadd, 1) := by decide +kernel
theorem dL_law_253 : decode cL_law 253 = .ok (.iaload, 1) := by decide +kernel
theorem dL_law_254 : decode cL_law 254 = .ok (.aload_n 0, 1) := by decide +kernel
theorem dL_law_255 : decode cL_law 255 = .ok (.iload_n 3, 1) := by decide +kernel
theorem dL_law_256 : decode cL_law 256 = .ok (.iconst 2, 1) := by decide +kernel
theorem dL_law_257 : decode cL_law 257 = .ok (.iadd, 1) := by decide +kernel
theorem dL_law_258 : decode cL_law 258 = .ok (.iaload, 1) := by decide +kernel
theorem dL_law_259 : decode cL_law 259 = .ok (.invokevirtual 32, 3) := by decide +kernel
theorem dL_law_262 : decode cL_law 262 = .ok (.aload_n 2, 1) := by decide +kernel
theorem dL_law_263 : decode cL_law 263 = .ok (.aload_n 0, 1) := by decide +kernel
theorem dL_law_264 : decode cL_law 264 = .ok (.iload_n 3, 1) := by decide +kernel
theorem dL_law_265 : decode cL_law 265 = .ok (.iconst 1, 1) := by decide +kernel
theorem dL_law_266 : decode cL_law 266 = .ok (.iadd, 1) := by decide +kernel
theorem dL_law_267 : decode cL_law 267 = .ok (.iaload, 1) := by decide +kernel
theorem dL_law_268 : decode cL_law 268 = .ok (.aload_n 0, 1) := by decide +kernel
theorem dL_law_269 : decode cL_law 269 = .ok (.iload_n 3, 1) := by decide +kernel
theorem dL_law_270 : decode cL_law 270 = .ok (.iconst 2, 1) := by decide +kernel
theorem dL_law_271 : decode cL_law 271 = .ok (.iadd, 1) := by decide +kernel
theorem dL_law_272 : decode cL_law 272 = .ok (.iaload, 1) := by decide +kernel
theorem dL_law_273 : decode cL_law 273 = .ok (.invokevirtual 35, 3) := by decide +kernel
theorem dL_law_276 : decode cL_law 276 = .ok (.if_icmp .eq 361, 3) := by decide +kernel
theorem dL_law_279 : decode cL_law 279 = .ok (.iconst 0, 1) := by decide +kernel
theorem dL_law_280 : decode cL_law 280 = .ok (.ireturn, 1) := by decide +kernel
theorem dL_law_281 : decode cL_law 281 = .ok (.aload_n 1, 1) := by decide +kernel
theorem dL_law_282 : decode cL_law 282 = .ok (.aload_n 0, 1) := by decide +kernel
theorem dL_law_283 : decode cL_law 283 = .ok (.iload_n 3, 1) := by decide +kernel
theorem dL_law_284 : decode cL_law 284 = .ok (.iconst 1, 1) := by decide +kernel
theorem dL_law_285 : decode cL_law 285 = .ok (.iadd, 1) := by decide +kernel
theorem dL_law_286 : decode cL_law 286 = .ok (.iaload, 1) := by decide +kernel
theorem dL_law_287 : decode cL_law 287 = .ok (.aload_n 0, 1) := by decide +kernel
theorem dL_law_288 : decode cL_law 288 = .ok (.iload_n 3, 1) := by decide +kernel
theorem dL_law_289 : decode cL_law 289 = .ok (.iconst 2, 1) := by decide +kernel
theorem dL_law_290 : decode cL_law 290 = .ok (.iadd, 1) := by decide +kernel
theorem dL_law_291 : decode cL_law 291 = .ok (.iaload, 1) := by decide +kernel
theorem dL_law_292 : decode cL_law 292 = .ok (.aload_n 0, 1) := by decide +kernel
theorem dL_law_293 : decode cL_law 293 = .ok (.iload_n 3, 1) := by decide +kernel
theorem dL_law_294 : decode cL_law 294 = .ok (.iconst 3, 1) := by decide +kernel
theorem dL_law_295 : decode cL_law 295 = .ok (.iadd, 1) := by decide +kernel
theorem dL_law_296 : decode cL_law 296 = .ok (.iaload, 1) := by decide +kernel
theorem dL_law_297 : decode cL_law 297 = .ok (.aload_n 0, 1) := by decide +kernel
theorem dL_law_298 : decode cL_law 298 = .ok (.iload_n 3, 1) := by decide +kernel
theorem dL_law_299 : decode cL_law 299 = .ok (.iconst 4, 1) := by decide +kernel
theorem dL_law_300 : decode cL_law 300 = .ok (.iadd, 1) := by decide +kernel
theorem dL_law_301 : decode cL_law 301 = .ok (.iaload, 1) := by decide +kernel
theorem dL_law_302 : decode cL_law 302 = .ok (.aload_n 0, 1) := by decide +kernel
theorem dL_law_303 : decode cL_law 303 = .ok (.iload_n 3, 1) := by decide +kernel
theorem dL_law_304 : decode cL_law 304 = .ok (.iconst 5, 1) := by decide +kernel
theorem dL_law_305 : decode cL_law 305 = .ok (.iadd, 1) := by decide +kernel
theorem dL_law_306 : decode cL_law 306 = .ok (.iaload, 1) := by decide +kernel
theorem dL_law_307 : decode cL_law 307 = .ok (.invokevirtual 36, 3) := by decide +kernel
theorem dL_law_310 : decode cL_law 310 = .ok (.aload_n 2, 1) := by decide +kernel
theorem dL_law_311 : decode cL_law 311 = .ok (.aload_n 0, 1) := by decide +kernel
theorem dL_law_312 : decode cL_law 312 = .ok (.iload_n 3, 1) := by decide +kernel
theorem dL_law_313 : decode cL_law 313 = .ok (.iconst 1, 1) := by decide +kernel
theorem dL_law_314 : decode cL_law 314 = .ok (.iadd, 1) := by decide +kernel
theorem dL_law_315 : decode cL_law 315 = .ok (.iaload, 1) := by decide +kernel
theorem dL_law_316 : decode cL_law 316 = .ok (.aload_n 0, 1) := by decide +kernel
theorem dL_law_317 : decode cL_law 317 = .ok (.iload_n 3, 1) := by decide +kernel
theorem dL_law_318 : decode cL_law 318 = .ok (.iconst 2, 1) := by decide +kernel
theorem dL_law_319 : decode cL_law 319 = .ok (.iadd, 1) := by decide +kernel
theorem dL_law_320 : decode cL_law 320 = .ok (.iaload, 1) := by decide +kernel
theorem dL_law_321 : decode cL_law 321 = .ok (.aload_n 0, 1) := by decide +kernel
theorem dL_law_322 : decode cL_law 322 = .ok (.iload_n 3, 1) := by decide +kernel
theorem dL_law_323 : decode cL_law 323 = .ok (.iconst 3, 1) := by decide +kernel
theorem dL_law_324 : decode cL_law 324 = .ok (.iadd, 1) := by decide +kernel
theorem dL_law_325 : decode cL_law 325 = .ok (.iaload, 1) := by decide +kernel
theorem dL_law_326 : decode cL_law 326 = .ok (.aload_n 0, 1) := by decide +kernel
theorem dL_law_327 : decode cL_law 327 = .ok (.iload_n 3, 1) := by decide +kernel
theorem dL_law_328 : decode cL_law 328 = .ok (.iconst 4, 1) := by decide +kernel
theorem dL_law_329 : decode cL_law 329 = .ok (.iadd, 1) := by decide +kernel
theorem dL_law_330 : decode cL_law 330 = .ok (.iaload, 1) := by decide +kernel
theorem dL_law_331 : decode cL_law 331 = .ok (.aload_n 0, 1) := by decide +kernel
theorem dL_law_332 : decode cL_law 332 = .ok (.iload_n 3, 1) := by decide +kernel
theorem dL_law_333 : decode cL_law 333 = .ok (.iconst 5, 1) := by decide +kernel
theorem dL_law_334 : decode cL_law 334 = .ok (.iadd, 1) := by decide +kernel
theorem dL_law_335 : decode cL_law 335 = .ok (.iaload, 1) := by decide +kernel
theorem dL_law_336 : decode cL_law 336 = .ok (.invokevirtual 40, 3) := by decide +kernel
theorem dL_law_339 : decode cL_law 339 = .ok (.if_icmp .eq 298, 3) := by decide +kernel
theorem dL_law_342 : decode cL_law 342 = .ok (.iconst 0, 1) := by decide +kernel
theorem dL_law_343 : decode cL_law 343 = .ok (.ireturn, 1) := by decide +kernel
theorem dL_law_344 : decode cL_law 344 = .ok (.aload_n 1, 1) := by decide +kernel
theorem dL_law_345 : decode cL_law 345 = .ok (.aload_n 0, 1) := by decide +kernel
theorem dL_law_346 : decode cL_law 346 = .ok (.iload_n 3, 1) := by decide +kernel
theorem dL_law_347 : decode cL_law 347 = .ok (.iconst 1, 1) := by decide +kernel
theorem dL_law_348 : decode cL_law 348 = .ok (.iadd, 1) := by decide +kernel
theorem dL_law_349 : decode cL_law 349 = .ok (.iaload, 1) := by decide +kernel
theorem dL_law_350 : decode cL_law 350 = .ok (.invokevirtual 41, 3) := by decide +kernel
theorem dL_law_353 : decode cL_law 353 = .ok (.aload_n 2, 1) := by decide +kernel
theorem dL_law_354 : decode cL_law 354 = .ok (.aload_n 0, 1) := by decide +kernel
theorem dL_law_355 : decode cL_law 355 = .ok (.iload_n 3, 1) := by decide +kernel
theorem dL_law_356 : decode cL_law 356 = .ok (.iconst 1, 1) := by decide +kernel
theorem dL_law_357 : decode cL_law 357 = .ok (.iadd, 1) := by decide +kernel
theorem dL_law_358 : decode cL_law 358 = .ok (.iaload, 1) := by decide +kernel
theorem dL_law_359 : decode cL_law 359 = .ok (.invokevirtual 45, 3) := by decide +kernel
theorem dL_law_362 : decode cL_law 362 = .ok (.if_icmp .eq 275, 3) := by decide +kernel
theorem dL_law_365 : decode cL_law 365 = .ok (.iconst 0, 1) := by decide +kernel
theorem dL_law_366 : decode cL_law 366 = .ok (.ireturn, 1) := by decide +kernel
theorem dL_law_367 : decode cL_law 367 = .ok (.aload_n 1, 1) := by decide +kernel
theorem dL_law_368 : decode cL_law 368 = .ok (.invokevirtual 46, 3) := by decide +kernel
theorem dL_law_371 : decode cL_law 371 = .ok (.aload_n 2, 1) := by decide +kernel
theorem dL_law_372 : decode cL_law 372 = .ok (.invokevirtual 50, 3) := by decide +kernel
theorem dL_law_375 : decode cL_law 375 = .ok (.if_icmp .eq 262, 3) := by decide +kernel
theorem dL_law_378 : decode cL_law 378 = .ok (.iconst 0, 1) := by decide +kernel
theorem dL_law_379 : decode cL_law 379 = .ok (.ireturn, 1) := by decide +kernel
theorem dL_law_380 : decode cL_law 380 = .ok (.aload_n 1, 1) := by decide +kernel
theorem dL_law_381 : decode cL_law 381 = .ok (.aload_n 0, 1) := by decide +kernel
theorem dL_law_382 : decode cL_law 382 = .ok (.iload_n 3, 1) := by decide +kernel
theorem dL_law_383 : decode cL_law 383 = .ok (.iconst 1, 1) := by decide +kernel
theorem dL_law_384 : decode cL_law 384 = .ok (.iadd, 1) := by decide +kernel
theorem dL_law_385 : decode cL_law 385 = .ok (.iaload, 1) := by decide +kernel
theorem dL_law_386 : decode cL_law 386 = .ok (.invokevirtual 51, 3) := by decide +kernel
theorem dL_law_389 : decode cL_law 389 = .ok (.aload_n 2, 1) := by decide +kernel
theorem dL_law_390 : decode cL_law 390 = .ok (.aload_n 0, 1) := by decide +kernel
theorem dL_law_391 : decode cL_law 391 = .ok (.iload_n 3, 1) := by decide +kernel
theorem dL_law_392 : decode cL_law 392 = .ok (.iconst 1, 1) := by decide +kernel
theorem dL_law_393 : decode cL_law 393 = .ok (.iadd, 1) := by decide +kernel
theorem dL_law_394 : decode cL_law 394 = .ok (.iaload, 1) := by decide +kernel
theorem dL_law_395 : decode cL_law 395 = .ok (.invokevirtual 54, 3) := by decide +kernel
theorem dL_law_398 : decode cL_law 398 = .ok (.if_icmp .eq 239, 3) := by decide +kernel
theorem dL_law_401 : decode cL_law 401 = .ok (.iconst 0, 1) := by decide +kernel
theorem dL_law_402 : decode cL_law 402 = .ok (.ireturn, 1) := by decide +kernel
theorem dL_law_403 : decode cL_law 403 = .ok (.aload_n 1, 1) := by decide +kernel
theorem dL_law_404 : decode cL_law 404 = .ok (.aload_n 0, 1) := by decide +kernel
theorem dL_law_405 : decode cL_law 405 = .ok (.iload_n 3, 1) := by decide +kernel
theorem dL_law_406 : decode cL_law 406 = .ok (.iconst 1, 1) := by decide +kernel
theorem dL_law_407 : decode cL_law 407 = .ok (.iadd, 1) := by decide +kernel
theorem dL_law_408 : decode cL_law 408 = .ok (.iaload, 1) := by decide +kernel
theorem dL_law_409 : decode cL_law 409 = .ok (.invokevirtual 55, 3) := by decide +kernel
theorem dL_law_412 : decode cL_law 412 = .ok (.aload_n 2, 1) := by decide +kernel
theorem dL_law_413 : decode cL_law 413 = .ok (.aload_n 0, 1) := by decide +kernel
theorem dL_law_414 : decode cL_law 414 = .ok (.iload_n 3, 1) := by decide +kernel
theorem dL_law_415 : decode cL_law 415 = .ok (.iconst 1, 1) := by decide +kernel
theorem dL_law_416 : decode cL_law 416 = .ok (.iadd, 1) := by decide +kernel
theorem dL_law_417 : decode cL_law 417 = .ok (.iaload, 1) := by decide +kernel
theorem dL_law_418 : decode cL_law 418 = .ok (.invokevirtual 58, 3) := by decide +kernel
theorem dL_law_421 : decode cL_law 421 = .ok (.if_icmp .eq 216, 3) := by decide +kernel
theorem dL_law_424 : decode cL_law 424 = .ok (.iconst 0, 1) := by decide +kernel
theorem dL_law_425 : decode cL_law 425 = .ok (.ireturn, 1) := by decide +kernel
theorem dL_law_426 : decode cL_law 426 = .ok (.aload_n 1, 1) := by decide +kernel
theorem dL_law_427 : decode cL_law 427 = .ok (.aload_n 0, 1) := by decide +kernel
theorem dL_law_428 : decode cL_law 428 = .ok (.iload_n 3, 1) := by decide +kernel
theorem dL_law_429 : decode cL_law 429 = .ok (.iconst 1, 1) := by decide +kernel
theorem dL_law_430 : decode cL_law 430 = .ok (.iadd, 1) := by decide +kernel
theorem dL_law_431 : decode cL_law 431 = .ok (.iaload, 1) := by decide +kernel
theorem dL_law_432 : decode cL_law 432 = .ok (.aload_n 0, 1) := by decide +kernel
theorem dL_law_433 : decode cL_law 433 = .ok (.iload_n 3, 1) := by decide +kernel
theorem dL_law_434 : decode cL_law 434 = .ok (.iconst 2, 1) := by decide +kernel
theorem dL_law_435 : decode cL_law 435 = .ok (.iadd, 1) := by decide +kernel
theorem dL_law_436 : decode cL_law 436 = .ok (.iaload, 1) := by decide +kernel
theorem dL_law_437 : decode cL_law 437 = .ok (.invokevirtual 59, 3) := by decide +kernel
theorem dL_law_440 : decode cL_law 440 = .ok (.aload_n 2, 1) := by decide +kernel
theorem dL_law_441 : decode cL_law 441 = .ok (.aload_n 0, 1) := by decide +kernel
theorem dL_law_442 : decode cL_law 442 = .ok (.iload_n 3, 1) := by decide +kernel
theorem dL_law_443 : decode cL_law 443 = .ok (.iconst 1, 1) := by decide +kernel
theorem dL_law_444 : decode cL_law 444 = .ok (.iadd, 1) := by decide +kernel
theorem dL_law_445 : decode cL_law 445 = .ok (.iaload, 1) := by decide +kernel
theorem dL_law_446 : decode cL_law 446 = .ok (.aload_n 0, 1) := by decide +kernel
theorem dL_law_447 : decode cL_law 447 = .ok (.iload_n 3, 1) := by decide +kernel
theorem dL_law_448 : decode cL_law 448 = .ok (.iconst 2, 1) := by decide +kernel
theorem dL_law_449 : decode cL_law 449 = .ok (.iadd, 1) := by decide +kernel
theorem dL_law_450 : decode cL_law 450 = .ok (.iaload, 1) := by decide +kernel
theorem dL_law_451 : decode cL_law 451 = .ok (.invokevirtual 63, 3) := by decide +kernel
theorem dL_law_454 : decode cL_law 454 = .ok (.if_icmp .eq 183, 3) := by decide +kernel
theorem dL_law_457 : decode cL_law 457 = .ok (.iconst 0, 1) := by decide +kernel
theorem dL_law_458 : decode cL_law 458 = .ok (.ireturn, 1) := by decide +kernel
theorem dL_law_459 : decode cL_law 459 = .ok (.aload_n 1, 1) := by decide +kernel
theorem dL_law_460 : decode cL_law 460 = .ok (.aload_n 0, 1) := by decide +kernel
theorem dL_law_461 : decode cL_law 461 = .ok (.iload_n 3, 1) := by decide +kernel
theorem dL_law_462 : decode cL_law 462 = .ok (.iconst 1, 1) := by decide +kernel
theorem dL_law_463 : decode cL_law 463 = .ok (.iadd, 1) := by decide +kernel
theorem dL_law_464 : decode cL_law 464 = .ok (.iaload, 1) := by decide +kernel
theorem dL_law_465 : decode cL_law 465 = .ok (.aload_n 0, 1) := by decide +kernel
theorem dL_law_466 : decode cL_law 466 = .ok (.iload_n 3, 1) := by decide +kernel
theorem dL_law_467 : decode cL_law 467 = .ok (.iconst 2, 1) := by decide +kernel
theorem dL_law_468 : decode cL_law 468 = .ok (.iadd, 1) := by decide +kernel
theorem dL_law_469 : decode cL_law 469 = .ok (.iaload, 1) := by decide +kernel
theorem dL_law_470 : decode cL_law 470 = .ok (.aload_n 0, 1) := by decide +kernel
theorem dL_law_471 : decode cL_law 471 = .ok (.iload_n 3, 1) := by decide +kernel
theorem dL_law_472 : decode cL_law 472 = .ok (.iconst 3, 1) := by decide +kernel
theorem dL_law_473 : decode cL_law 473 = .ok (.iadd, 1) := by decide +kernel
theorem dL_law_474 : decode cL_law 474 = .ok (.iaload, 1) := by decide +kernel
theorem dL_law_475 : decode cL_law 475 = .ok (.invokevirtual 64, 3) := by decide +kernel
theorem dL_law_478 : decode cL_law 478 = .ok (.aload_n 2, 1) := by decide +kernel
theorem dL_law_479 : decode cL_law 479 = .ok (.aload_n 0, 1) := by decide +kernel
theorem dL_law_480 : decode cL_law 480 = .ok (.iload_n 3, 1) := by decide +kernel
theorem dL_law_481 : decode cL_law 481 = .ok (.iconst 1, 1) := by decide +kernel
theorem dL_law_482 : decode cL_law 482 = .ok (.iadd, 1) := by decide +kernel
theorem dL_law_483 : decode cL_law 483 = .ok (.iaload, 1) := by decide +kernel
theorem dL_law_484 : decode cL_law 484 = .ok (.aload_n 0, 1) := by decide +kernel
theorem dL_law_485 : decode cL_law 485 = .ok (.iload_n 3, 1) := by decide +kernel
theorem dL_law_486 : decode cL_law 486 = .ok (.iconst 2, 1) := by decide +kernel
theorem dL_law_487 : decode cL_law 487 = .ok (.iadd, 1) := by decide +kernel
theorem dL_law_488 : decode cL_law 488 = .ok (.iaload, 1) := by decide +kernel
theorem dL_law_489 : decode cL_law 489 = .ok (.aload_n 0, 1) := by decide +kernel
theorem dL_law_490 : decode cL_law 490 = .ok (.iload_n 3, 1) := by decide +kernel
theorem dL_law_491 : decode cL_law 491 = .ok (.iconst 3, 1) := by decide +kernel
theorem dL_law_492 : decode cL_law 492 = .ok (.iadd, 1) := by decide +kernel
theorem dL_law_493 : decode cL_law 493 = .ok (.iaload, 1) := by decide +kernel
theorem dL_law_494 : decode cL_law 494 = .ok (.invokevirtual 68, 3) := by decide +kernel
theorem dL_law_497 : decode cL_law 497 = .ok (.if_icmp .eq 140, 3) := by decide +kernel
theorem dL_law_500 : decode cL_law 500 = .ok (.iconst 0, 1) := by decide +kernel
theorem dL_law_501 : decode cL_law 501 = .ok (.ireturn, 1) := by decide +kernel
theorem dL_law_502 : decode cL_law 502 = .ok (.aload_n 1, 1) := by decide +kernel
theorem dL_law_503 : decode cL_law 503 = .ok (.aload_n 0, 1) := by decide +kernel
theorem dL_law_504 : decode cL_law 504 = .ok (.iload_n 3, 1) := by decide +kernel
theorem dL_law_505 : decode cL_law 505 = .ok (.iconst 1, 1) := by decide +kernel
theorem dL_law_506 : decode cL_law 506 = .ok (.iadd, 1) := by decide +kernel
theorem dL_law_507 : decode cL_law 507 = .ok (.iaload, 1) := by decide +kernel
theorem dL_law_508 : decode cL_law 508 = .ok (.aload_n 0, 1) := by decide +kernel
theorem dL_law_509 : decode cL_law 509 = .ok (.iload_n 3, 1) := by decide +kernel
theorem dL_law_510 : decode cL_law 510 = .ok (.iconst 2, 1) := by decide +kernel
theorem dL_law_511 : decode cL_law 511 = .ok (.iadd, 1) := by decide +kernel
theorem dL_law_512 : decode cL_law 512 = .ok (.iaload, 1) := by decide +kernel
theorem dL_law_513 : decode cL_law 513 = .ok (.invokevirtual 69, 3) := by decide +kernel
theorem dL_law_516 : decode cL_law 516 = .ok (.aload_n 2, 1) := by decide +kernel
theorem dL_law_517 : decode cL_law 517 = .ok (.aload_n 0, 1) := by decide +kernel
theorem dL_law_518 : decode cL_law 518 = .ok (.iload_n 3, 1) := by decide +kernel
theorem dL_law_519 : decode cL_law 519 = .ok (.iconst 1, 1) := by decide +kernel
theorem dL_law_520 : decode cL_law 520 = .ok (.iadd, 1) := by decide +kernel
theorem dL_law_521 : decode cL_law 521 = .ok (.iaload, 1) := by decide +kernel
theorem dL_law_522 : decode cL_law 522 = .ok (.aload_n 0, 1) := by decide +kernel
theorem dL_law_523 : decode cL_law 523 = .ok (.iload_n 3, 1) := by decide +kernel
theorem dL_law_524 : decode cL_law 524 = .ok (.iconst 2, 1) := by decide +kernel
theorem dL_law_525 : decode cL_law 525 = .ok (.iadd, 1) := by decide +kernel
theorem dL_law_526 : decode cL_law 526 = .ok (.iaload, 1) := by decide +kernel
theorem dL_law_527 : decode cL_law 527 = .ok (.invokevirtual 72, 3) := by decide +kernel
theorem dL_law_530 : decode cL_law 530 = .ok (.if_icmp .eq 107, 3) := by decide +kernel
theorem dL_law_533 : decode cL_law 533 = .ok (.iconst 0, 1) := by decide +kernel
theorem dL_law_534 : decode cL_law 534 = .ok (.ireturn, 1) := by decide +kernel
theorem dL_law_535 : decode cL_law 535 = .ok (.aload_n 1, 1) := by decide +kernel
theorem dL_law_536 : decode cL_law 536 = .ok (.aload_n 0, 1) := by decide +kernel
theorem dL_law_537 : decode cL_law 537 = .ok (.iload_n 3, 1) := by decide +kernel
theorem dL_law_538 : decode cL_law 538 = .ok (.iconst 1, 1) := by decide +kernel
theorem dL_law_539 : decode cL_law 539 = .ok (.iadd, 1) := by decide +kernel
theorem dL_law_540 : decode cL_law 540 = .ok (.iaload, 1) := by decide +kernel
theorem dL_law_541 : decode cL_law 541 = .ok (.aload_n 0, 1) := by decide +kernel
theorem dL_law_542 : decode cL_law 542 = .ok (.iload_n 3, 1) := by decide +kernel
theorem dL_law_543 : decode cL_law 543 = .ok (.iconst 2, 1) := by decide +kernel
theorem dL_law_544 : decode cL_law 544 = .ok (.iadd, 1) := by decide +kernel
theorem dL_law_545 : decode cL_law 545 = .ok (.iaload, 1) := by decide +kernel
theorem dL_law_546 : decode cL_law 546 = .ok (.invokevirtual 73, 3) := by decide +kernel
theorem dL_law_549 : decode cL_law 549 = .ok (.aload_n 2, 1) := by decide +kernel
theorem dL_law_550 : decode cL_law 550 = .ok (.aload_n 0, 1) := by decide +kernel
theorem dL_law_551 : decode cL_law 551 = .ok (.iload_n 3, 1) := by decide +kernel
theorem dL_law_552 : decode cL_law 552 = .ok (.iconst 1, 1) := by decide +kernel
theorem dL_law_553 : decode cL_law 553 = .ok (.iadd, 1) := by decide +kernel
theorem dL_law_554 : decode cL_law 554 = .ok (.iaload, 1) := by decide +kernel
theorem dL_law_555 : decode cL_law 555 = .ok (.aload_n 0, 1) := by decide +kernel
theorem dL_law_556 : decode cL_law 556 = .ok (.iload_n 3, 1) := by decide +kernel
theorem dL_law_557 : decode cL_law 557 = .ok (.iconst 2, 1) := by decide +kernel
theorem dL_law_558 : decode cL_law 558 = .ok (.iadd, 1) := by decide +kernel
theorem dL_law_559 : decode cL_law 559 = .ok (.iaload, 1) := by decide +kernel
theorem dL_law_560 : decode cL_law 560 = .ok (.invokevirtual 76, 3) := by decide +kernel
theorem dL_law_563 : decode cL_law 563 = .ok (.if_icmp .eq 74, 3) := by decide +kernel
theorem dL_law_566 : decode cL_law 566 = .ok (.iconst 0, 1) := by decide +kernel
theorem dL_law_567 : decode cL_law 567 = .ok (.ireturn, 1) := by decide +kernel
theorem dL_law_568 : decode cL_law 568 = .ok (.aload_n 1, 1) := by decide +kernel
theorem dL_law_569 : decode cL_law 569 = .ok (.invokevirtual 77, 3) := by decide +kernel
theorem dL_law_572 : decode cL_law 572 = .ok (.aload_n 2, 1) := by decide +kernel
theorem dL_law_573 : decode cL_law 573 = .ok (.invokevirtual 80, 3) := by decide +kernel
theorem dL_law_576 : decode cL_law 576 = .ok (.if_icmp .eq 61, 3) := by decide +kernel
theorem dL_law_579 : decode cL_law 579 = .ok (.iconst 0, 1) := by decide +kernel
theorem dL_law_580 : decode cL_law 580 = .ok (.ireturn, 1) := by decide +kernel
theorem dL_law_581 : decode cL_law 581 = .ok (.aload_n 1, 1) := by decide +kernel
theorem dL_law_582 : decode cL_law 582 = .ok (.aload_n 0, 1) := by decide +kernel
theorem dL_law_583 : decode cL_law 583 = .ok (.iload_n 3, 1) := by decide +kernel
theorem dL_law_584 : decode cL_law 584 = .ok (.iconst 1, 1) := by decide +kernel
theorem dL_law_585 : decode cL_law 585 = .ok (.iadd, 1) := by decide +kernel
theorem dL_law_586 : decode cL_law 586 = .ok (.iaload, 1) := by decide +kernel
theorem dL_law_587 : decode cL_law 587 = .ok (.invokevirtual 81, 3) := by decide +kernel
theorem dL_law_590 : decode cL_law 590 = .ok (.aload_n 2, 1) := by decide +kernel
theorem dL_law_591 : decode cL_law 591 = .ok (.aload_n 0, 1) := by decide +kernel
theorem dL_law_592 : decode cL_law 592 = .ok (.iload_n 3, 1) := by decide +kernel
theorem dL_law_593 : decode cL_law 593 = .ok (.iconst 1, 1) := by decide +kernel
theorem dL_law_594 : decode cL_law 594 = .ok (.iadd, 1) := by decide +kernel
theorem dL_law_595 : decode cL_law 595 = .ok (.iaload, 1) := by decide +kernel
theorem dL_law_596 : decode cL_law 596 = .ok (.invokevirtual 84, 3) := by decide +kernel
theorem dL_law_599 : decode cL_law 599 = .ok (.if_icmp .eq 38, 3) := by decide +kernel
theorem dL_law_602 : decode cL_law 602 = .ok (.iconst 0, 1) := by decide +kernel
theorem dL_law_603 : decode cL_law 603 = .ok (.ireturn, 1) := by decide +kernel
theorem dL_law_604 : decode cL_law 604 = .ok (.aload_n 1, 1) := by decide +kernel
theorem dL_law_605 : decode cL_law 605 = .ok (.aload_n 0, 1) := by decide +kernel
theorem dL_law_606 : decode cL_law 606 = .ok (.iload_n 3, 1) := by decide +kernel
theorem dL_law_607 : decode cL_law 607 = .ok (.iconst 1, 1) := by decide +kernel
theorem dL_law_608 : decode cL_law 608 = .ok (.iadd, 1) := by decide +kernel
theorem dL_law_609 : decode cL_law 609 = .ok (.iaload, 1) := by decide +kernel
theorem dL_law_610 : decode cL_law 610 = .ok (.aload_n 0, 1) := by decide +kernel
theorem dL_law_611 : decode cL_law 611 = .ok (.iload_n 3, 1) := by decide +kernel
theorem dL_law_612 : decode cL_law 612 = .ok (.iconst 2, 1) := by decide +kernel
theorem dL_law_613 : decode cL_law 613 = .ok (.iadd, 1) := by decide +kernel
theorem dL_law_614 : decode cL_law 614 = .ok (.iaload, 1) := by decide +kernel
theorem dL_law_615 : decode cL_law 615 = .ok (.invokevirtual 85, 3) := by decide +kernel
theorem dL_law_618 : decode cL_law 618 = .ok (.aload_n 2, 1) := by decide +kernel
theorem dL_law_619 : decode cL_law 619 = .ok (.aload_n 0, 1) := by decide +kernel
theorem dL_law_620 : decode cL_law 620 = .ok (.iload_n 3, 1) := by decide +kernel
theorem dL_law_621 : decode cL_law 621 = .ok (.iconst 1, 1) := by decide +kernel
theorem dL_law_622 : decode cL_law 622 = .ok (.iadd, 1) := by decide +kernel
theorem dL_law_623 : decode cL_law 623 = .ok (.iaload, 1) := by decide +kernel
theorem dL_law_624 : decode cL_law 624 = .ok (.aload_n 0, 1) := by decide +kernel
theorem dL_law_625 : decode cL_law 625 = .ok (.iload_n 3, 1) := by decide +kernel
theorem dL_law_626 : decode cL_law 626 = .ok (.iconst 2, 1) := by decide +kernel
theorem dL_law_627 : decode cL_law 627 = .ok (.iadd, 1) := by decide +kernel
theorem dL_law_628 : decode cL_law 628 = .ok (.iaload, 1) := by decide +kernel
theorem dL_law_629 : decode cL_law 629 = .ok (.invokevirtual 88, 3) := by decide +kernel
theorem dL_law_632 : decode cL_law 632 = .ok (.if_icmp .eq 5, 3) := by decide +kernel
theorem dL_law_635 : decode cL_law 635 = .ok (.iconst 0, 1) := by decide +kernel
theorem dL_law_636 : decode cL_law 636 = .ok (.ireturn, 1) := by decide +kernel
theorem dL_law_637 : decode cL_law 637 = .ok (.iinc 3 6, 3) := by decide +kernel
theorem dL_law_640 : decode cL_law 640 = .ok (.goto (-622), 3) := by decide +kernel
theorem dL_law_643 : decode cL_law 643 = .ok (.iconst 1, 1) := by decide +kernel
theorem dL_law_644 : decode cL_law 644 = .ok (.ireturn, 1) := by decide +kernel
end
section
/-! ===== the system's state: cells by number, ints and references apart ===== -/
abbrev q_M : Type := Nat → Nat → Int32
abbrev q_R : Type := Nat → Nat → Option Nat
abbrev q_F : Type := MethodName × ByteArray × Nat × Option FieldType
/-- the first address; addresses of static arrays and String constants; of Strings' bytes; class numbers; slots; array classes -/
abbrev q_C : Type := Nat × (Nat → Nat) × (Nat → Nat) × (Nat → ClassId) × (Nat → Nat → Nat) × (Nat → ClassId)
def q_a (C : q_C) (c : Nat) : Nat := C.1 + c
def q_x (C : q_C) (c : Nat) : Nat := C.2.1 c
def q_A (C : q_C) : Nat → Prop := fun q => C.1 ≤ q
abbrev q_D (C : q_C) : va_G := (C.2.2.2.1, C.2.2.2.2.1)
abbrev q_cA (C : q_C) (k : Nat) : ClassId := C.2.2.2.2.2 k
abbrev q_tys (C : q_C) : List (ClassId × FieldType) := [(q_cA C 0, .byte), (q_cA C 1, .int), (q_cA C 2, .array .int)]
def q_kl : List (Nat × Nat) := [(7, 10), (1, 2), (10, 7), (10, 7), (4, 4), (10, 10), (10, 10), (10, 10), (6, 2), (9, 600), (0, 6), (3, 9), (11, 7), (10, 10), (10, 10), (10, 10), (10, 10), (10, 10), (10, 10), (10, 10), (11, 7), (10, 10), (10, 10), (10, 10), (10, 10), (10, 10), (10, 10), (10, 10), (11, 7), (10, 10), (10, 10), (10, 10), (10, 10), (10, 10), (10, 10), (10, 10), (11, 7), (10, 10), (10, 10), (10, 10), (10, 10), (10, 10), (10, 10), (10, 10), (11, 7), (10, 10), (10, 10), (10, 10), (10, 10), (10, 10), (10, 10), (10, 10), (11, 7), (10, 10), (10, 10), (10, 10), (10, 10), (10, 10), (10, 10), (10, 10), (10, 7), (10, 7), (10, 7), (2, 8), (10, 8), (10, 8), (10, 8), (10, 8), (10, 7), (10, 5), (5, 5), (10, 7), (11, 7), (10, 4), (10, 4), (10, 4), (10, 4), (10, 4), (10, 4), (10, 4), (11, 7), (10, 4), (10, 4), (10, 4), (10, 4), (10, 4), (10, 4), (10, 4), (11, 7), (10, 4), (10, 4), (10, 4), (10, 4), (10, 4), (10, 4), (10, 4), (5, 5), (10, 7), (11, 7), (10, 4), (10, 4), (10, 4), (10, 4), (10, 4), (10, 4), (10, 4), (11, 7), (10, 4), (10, 4), (10, 4), (10, 4), (10, 4), (10, 4), (10, 4), (11, 7), (10, 4), (10, 4), (10, 4), (10, 4), (10, 4), (10, 4), (10, 4), (8, 30), (10, 8), (10, 7), (10, 10), (10, 10), (10, 10), (10, 5), (10, 7), (10, 84), (10, 7), (10, 84), (10, 600), (10, 70), (10, 70), (10, 70), (10, 70), (10, 7), (10, 8), (10, 8), (10, 8)]
/-- a cell's kind (0 .. 8 the classes, 9 bytes, 10 ints, 11 rows of ints) and how many places it has -/
def q_kd (c : Nat) : Nat × Nat := q_kl.getD c (12, 0)
def q_sl (n : Nat) : Nat := ((q_kl.take n).map (fun q => q.2)).sum
def q_rl : List (List Nat) := [[], [0, 1], [0, 1, 2, 4, 5], [0, 1, 2, 3, 4, 5, 6, 7, 8], [0, 1, 2], [0, 1, 2, 3], [0], [0, 1, 2, 3, 4, 5, 6, 7, 8], [1, 2, 3, 4, 5, 6, 7, 8, 9, 10, 11, 22, 23, 24, 25, 26, 27, 28, 29]]
def q_isr (ci k : Nat) : Bool := ci == 11 || (q_rl.getD ci []).contains k
def q_V (C : q_C) (μ : q_M) (ρ : q_R) (c k : Nat) : Value := if q_isr (q_kd c).1 k = true then va_rf ((ρ c k).map (q_a C)) else .int (μ c k)
def q_at (C : q_C) (c : Nat) (V : Nat → Value) (H : Heap) : Prop :=
  if (q_kd c).1 < 9 then t_OB (q_a C c) ((q_D C).1 (q_kd c).1) (q_kd c).2 ((q_D C).2 (q_kd c).1) H V
  else H[q_a C c]? = some (arrV (q_cA C ((q_kd c).1 - 9)) (q_kd c).2 V)
def q_H (C : q_C) (n : Nat) (μ : q_M) (ρ : q_R) (H : Heap) : Prop := H.size = C.1 + n ∧ ∀ c, c < n → q_at C c (q_V C μ ρ c) H
def q_up {α : Type} (f : Nat → Nat → α) (c k : Nat) (v : α) : Nat → Nat → α := fun c' k' => if c' = c ∧ k' = k then v else f c' k'
theorem q_sl_mono {a b : Nat} (h : a ≤ b) : q_sl a ≤ q_sl b := by
  obtain ⟨k, rfl⟩ := Nat.le.dest h
  unfold q_sl
  rw [List.take_add, List.map_append, List.sum_append]
  exact Nat.le_add_right _ _
theorem q_at.kept {C : q_C} {c : Nat} {V : Nat → Value} {H H1 : Heap} (h : q_at C c V H) (e : H1[q_a C c]? = H[q_a C c]?) : q_at C c V H1 := by
  unfold q_at at h ⊢
  by_cases hk : (q_kd c).1 < 9
  · rw [if_pos hk] at h ⊢
    exact h.kept e
  · rw [if_neg hk] at h ⊢
    rw [e]
    exact h
theorem q_Vs {C : q_C} {μ : q_M} {ρ : q_R} {c k : Nat} {x : Int32} (hr : q_isr (q_kd c).1 k = false) : q_V C (q_up μ c k x) ρ c = updV (q_V C μ ρ c) k (.int x) := by
  funext j
  by_cases hj : j = k
  · subst hj
    simp [q_V, updV, q_up, hr]
  · simp [q_V, updV, q_up, hj]
theorem q_Vsr {C : q_C} {μ : q_M} {ρ : q_R} {c k r : Nat} (hr : q_isr (q_kd c).1 k = true) : q_V C μ (q_up ρ c k (some r)) c = updV (q_V C μ ρ c) k (.ref (q_a C r)) := by
  funext j
  by_cases hj : j = k
  · subst hj
    simp [q_V, updV, q_up, hr, va_rf]
  · simp [q_V, updV, q_up, hj]
theorem q_H.setI {C : q_C} {n : Nat} {μ : q_M} {ρ : q_R} {H H1 : Heap} {c k : Nat} {x : Int32} (h : q_H C n μ ρ H) (z : H1.size = H.size) (oq : ∀ q, q ≠ q_a C c → H1[q]? = H[q]?) (hr : q_isr (q_kd c).1 k = false) (ha : q_at C c (updV (q_V C μ ρ c) k (.int x)) H1) : q_H C n (q_up μ c k x) ρ H1 := by
  refine ⟨by rw [z]; exact h.1, fun c' hc' => ?_⟩
  by_cases e : c' = c
  · subst e
    rw [q_Vs hr]
    exact ha
  · have e2 : q_V C (q_up μ c k x) ρ c' = q_V C μ ρ c' := by
      funext j
      simp [q_V, q_up, e]
    rw [e2]
    exact (h.2 c' hc').kept (oq _ (by unfold q_a; omega))
theorem q_H.setR {C : q_C} {n : Nat} {μ : q_M} {ρ : q_R} {H H1 : Heap} {c k r : Nat} (h : q_H C n μ ρ H) (z : H1.size = H.size) (oq : ∀ q, q ≠ q_a C c → H1[q]? = H[q]?) (hr : q_isr (q_kd c).1 k = true) (ha : q_at C c (updV (q_V C μ ρ c) k (.ref (q_a C r))) H1) : q_H C n μ (q_up ρ c k (some r)) H1 := by
  refine ⟨by rw [z]; exact h.1, fun c' hc' => ?_⟩
  by_cases e : c' = c
  · subst e
    rw [q_Vsr hr]
    exact ha
  · have e2 : q_V C μ (q_up ρ c k (some r)) c' = q_V C μ ρ c' := by
      funext j
      simp [q_V, q_up, e]
    rw [e2]
    exact (h.2 c' hc').kept (oq _ (by unfold q_a; omega))
/-! ===== words ===== -/
def q_T : List Cond := lw_tbl.filter goodWord
theorem q_mm (i : Nat) {w : Cond} (h : lw_tbl[i]? = some w) (g : goodWord w = true) : w ∈ q_T := List.mem_filter.mpr ⟨List.mem_of_getElem? h, g⟩
theorem q_ms {ws : List Cond} (is : List Nat) (h : is.map (fun i => lw_tbl[i]?) = ws.map some) (g : ws.all goodWord = true) : ∀ w ∈ ws, w ∈ q_T := by
  intro w hw
  obtain ⟨k, hk⟩ := List.getElem?_of_mem hw
  have h1 : (is.map (fun i => lw_tbl[i]?))[k]? = some (some w) := by rw [h, List.getElem?_map, hk]; rfl
  rw [List.getElem?_map] at h1
  cases hi : is[k]? with
  | none => rw [hi] at h1; cases h1
  | some i => rw [hi] at h1; exact q_mm i (Option.some.inj h1) (List.all_eq_true.mp g w hw)
theorem q_good {big : List Cond} (h : ∀ w ∈ q_T, w ∈ big) : GoodIn big q_T := fun w hw => ⟨h w hw, good_of_word (List.mem_filter.mp hw).2⟩

def q_nest : List Cond := [(Jvm.Cond.methodLinkNest "DesertTown" (11 : Nat) ({ cls := "DesertTown$Course", name := "<init>", desc := "()V" } : Jvm.MethodName) "DesertTown"), (Jvm.Cond.methodLinkNest "DesertTown" (18 : Nat) ({ cls := "DesertTown$Racers", name := "<init>", desc := "()V" } : Jvm.MethodName) "DesertTown"), (Jvm.Cond.methodLinkNest "DesertTown" (25 : Nat) ({ cls := "DesertTown$Tape", name := "<init>", desc := "()V" } : Jvm.MethodName) "DesertTown"), (Jvm.Cond.methodLinkNest "DesertTown" (32 : Nat) ({ cls := "DesertTown$BookReader", name := "<init>", desc := "()V" } : Jvm.MethodName) "DesertTown"), (Jvm.Cond.methodLinkNest "DesertTown" (39 : Nat) ({ cls := "DesertTown$Race", name := "<init>", desc := "()V" } : Jvm.MethodName) "DesertTown"), (Jvm.Cond.methodLinkNest "DesertTown" (46 : Nat) ({ cls := "DesertTown$Kitchens", name := "<init>", desc := "()V" } : Jvm.MethodName) "DesertTown"), (Jvm.Cond.methodLinkNest "DesertTown" (57 : Nat) ({ cls := "DesertTown$RoadBook", name := "<init>", desc := "()V" } : Jvm.MethodName) "DesertTown"), (Jvm.Cond.methodLinkNest "DesertTown$Racers" (25 : Nat) ({ cls := "DesertTown", name := "within", desc := "(III)Z" } : Jvm.MethodName) "DesertTown"), (Jvm.Cond.methodLinkNest "DesertTown$Tape" (19 : Nat) ({ cls := "DesertTown", name := "within", desc := "(III)Z" } : Jvm.MethodName) "DesertTown"), (Jvm.Cond.methodLinkNest "DesertTown$BookReader" (85 : Nat) ({ cls := "DesertTown", name := "within", desc := "(III)Z" } : Jvm.MethodName) "DesertTown"), (Jvm.Cond.methodLinkNest "DesertTown$RoadBook" (30 : Nat) ({ cls := "DesertTown", name := "isStage", desc := "(I)Z" } : Jvm.MethodName) "DesertTown"), (Jvm.Cond.methodLinkNest "DesertTown$BookReader" (75 : Nat) ({ cls := "DesertTown", name := "isStage", desc := "(I)Z" } : Jvm.MethodName) "DesertTown"), (Jvm.Cond.methodLinkNest "DesertTown$RoadBook" (34 : Nat) ({ cls := "DesertTown", name := "within", desc := "(III)Z" } : Jvm.MethodName) "DesertTown"), (Jvm.Cond.methodLinkNest "DesertTown$Course" (18 : Nat) ({ cls := "DesertTown", name := "isStage", desc := "(I)Z" } : Jvm.MethodName) "DesertTown"), (Jvm.Cond.methodLinkNest "DesertTown$Race" (112 : Nat) ({ cls := "DesertTown", name := "divideUpwards", desc := "(JJ)I" } : Jvm.MethodName) "DesertTown"), (Jvm.Cond.methodLinkNest "DesertTown$Race" (73 : Nat) ({ cls := "DesertTown", name := "isStage", desc := "(I)Z" } : Jvm.MethodName) "DesertTown"), (Jvm.Cond.methodLinkNest "DesertTown$Kitchens" (66 : Nat) ({ cls := "DesertTown", name := "minutesFor", desc := "(II)I" } : Jvm.MethodName) "DesertTown")]
theorem q_nestM : ∀ w ∈ q_nest, ∀ (s U : State), s.WarmedH U.vm → va_Nw w s → va_Nw w U := by
  intro w hw s U hW h
  simp only [q_nest, List.mem_cons, List.not_mem_nil, or_false] at hw
  rcases hw with rfl | rfl | rfl | rfl | rfl | rfl | rfl | rfl | rfl | rfl | rfl | rfl | rfl | rfl | rfl | rfl | rfl <;> exact va_Nw.warmM hW h
theorem q_nestT : ∀ w ∈ q_nest, w.onTables = true := by decide +kernel
def q_fld (own : String) (idx ci N k : Nat) (ty : FieldType) (fin : Bool) : Prop := ∃ (E : String) (T : u_T) (tys : Nat → FieldType), vwCl[ci]? = some (E, T, N) ∧ (∀ w ∈ u_ws E T N, w ∈ q_T) ∧ (∀ k, k < N → parseFieldDescriptor (T k).2.2.1 = some (tys k)) ∧ (∀ a, a < N → ∀ b, b < N → a ≠ b → (T a).2.1 ≠ (T b).2.1) ∧ k < N ∧ Cond.fieldLink own idx (T k).1 (T k).2.1 (T k).2.2.1 ∈ q_T ∧ tys k = ty ∧ (T k).2.2.2 = fin ∧ (T k).1 = E
def q_cls (own : String) (idx ci N : Nat) : Prop := ∃ (E : String) (T : u_T) (tys : Nat → FieldType), vwCl[ci]? = some (E, T, N) ∧ (∀ w ∈ u_ws E T N, w ∈ q_T) ∧ (∀ k, k < N → parseFieldDescriptor (T k).2.2.1 = some (tys k)) ∧ Cond.classLink own idx E ∈ q_T ∧ Cond.instantiable E N ∈ q_T ∧ Cond.initialized E ∈ q_T ∧ (∀ k, k < N → defaultValue (tys k) = if q_isr ci k = true then .null else .int 0)
def q_mt (F : q_F) (np : Nat) : Prop := Cond.code F.1 F.2.1 F.2.2.1 F.2.2.2 ∈ q_T ∧ Cond.initialized F.1.cls ∈ q_T ∧ (F.1.cls ≠ "java/lang/invoke/MethodHandle" ∧ F.1.cls ≠ "java/lang/invoke/VarHandle" ∧ (parseMethodDescriptor F.1.desc).map (fun d => d.parameters.length) = some np) ∧ F.2.2.1 ≤ 40
end
section
set_option maxRecDepth 20000 in
theorem wX0 : ∀ w ∈ u_ws RX0 TX0 6, w ∈ q_T := q_ms [128, 130, 132, 134, 136, 138] (by decide +kernel) (by decide +kernel)
set_option maxRecDepth 20000 in
theorem wX1 : ∀ w ∈ u_ws RX1 TX1 2, w ∈ q_T := q_ms [67, 69] (by decide +kernel) (by decide +kernel)
set_option maxRecDepth 20000 in
theorem wX2 : ∀ w ∈ u_ws RX2 TX2 8, w ∈ q_T := q_ms [203, 205, 207, 209, 211, 213, 215, 217] (by decide +kernel) (by decide +kernel)
set_option maxRecDepth 20000 in
theorem wX3 : ∀ w ∈ u_ws RX3 TX3 9, w ∈ q_T := q_ms [166, 168, 170, 172, 174, 176, 178, 180, 182] (by decide +kernel) (by decide +kernel)
set_option maxRecDepth 20000 in
theorem wX4 : ∀ w ∈ u_ws RX4 TX4 4, w ∈ q_T := q_ms [89, 91, 93, 95] (by decide +kernel) (by decide +kernel)
set_option maxRecDepth 20000 in
theorem wX5 : ∀ w ∈ u_ws RX5 TX5 5, w ∈ q_T := q_ms [237, 239, 241, 243, 245] (by decide +kernel) (by decide +kernel)
set_option maxRecDepth 20000 in
theorem wX6 : ∀ w ∈ u_ws RX6 TX6 2, w ∈ q_T := q_ms [108, 110] (by decide +kernel) (by decide +kernel)
set_option maxRecDepth 20000 in
theorem wX7 : ∀ w ∈ u_ws RX7 TX7 10, w ∈ q_T := q_ms [258, 260, 262, 264, 266, 268, 270, 272, 274, 276] (by decide +kernel) (by decide +kernel)
set_option maxRecDepth 20000 in
theorem wX8 : ∀ w ∈ u_ws RX8 TX8 30, w ∈ q_T := q_ms [637, 639, 641, 643, 645, 647, 649, 651, 653, 655, 657, 659, 661, 663, 665, 667, 669, 671, 673, 675, 677, 679, 681, 683, 685, 687, 689, 691, 693, 695] (by decide +kernel) (by decide +kernel)
set_option maxRecDepth 20000 in
theorem f_X1_9 : q_fld RX1 9 1 2 0 (.array .int) true := ⟨RX1, TX1, tyX1, rfl, wX1, tyX1_ok, nmX1, by decide, q_mm 62 (by decide +kernel) (by decide +kernel), rfl, rfl, rfl⟩
set_option maxRecDepth 20000 in
theorem f_X7_77 : q_fld RX7 77 1 2 0 (.array .int) true := ⟨RX1, TX1, tyX1, rfl, wX1, tyX1_ok, nmX1, by decide, q_mm 63 (by decide +kernel) (by decide +kernel), rfl, rfl, rfl⟩
set_option maxRecDepth 20000 in
theorem f_X3_59 : q_fld RX3 59 1 2 0 (.array .int) true := ⟨RX1, TX1, tyX1, rfl, wX1, tyX1_ok, nmX1, by decide, q_mm 64 (by decide +kernel) (by decide +kernel), rfl, rfl, rfl⟩
set_option maxRecDepth 20000 in
theorem f_X1_15 : q_fld RX1 15 1 2 1 (.array .int) true := ⟨RX1, TX1, tyX1, rfl, wX1, tyX1_ok, nmX1, by decide, q_mm 65 (by decide +kernel) (by decide +kernel), rfl, rfl, rfl⟩
set_option maxRecDepth 20000 in
theorem f_X7_87 : q_fld RX7 87 1 2 1 (.array .int) true := ⟨RX1, TX1, tyX1, rfl, wX1, tyX1_ok, nmX1, by decide, q_mm 66 (by decide +kernel) (by decide +kernel), rfl, rfl, rfl⟩
set_option maxRecDepth 20000 in
theorem f_X4_9 : q_fld RX4 9 4 4 0 (.array .int) true := ⟨RX4, TX4, tyX4, rfl, wX4, tyX4_ok, nmX4, by decide, q_mm 79 (by decide +kernel) (by decide +kernel), rfl, rfl, rfl⟩
set_option maxRecDepth 20000 in
theorem f_X3_56 : q_fld RX3 56 4 4 0 (.array .int) true := ⟨RX4, TX4, tyX4, rfl, wX4, tyX4_ok, nmX4, by decide, q_mm 80 (by decide +kernel) (by decide +kernel), rfl, rfl, rfl⟩
set_option maxRecDepth 20000 in
theorem f_X4_15 : q_fld RX4 15 4 4 1 (.array .int) true := ⟨RX4, TX4, tyX4, rfl, wX4, tyX4_ok, nmX4, by decide, q_mm 81 (by decide +kernel) (by decide +kernel), rfl, rfl, rfl⟩
set_option maxRecDepth 20000 in
theorem f_X3_77 : q_fld RX3 77 4 4 1 (.array .int) true := ⟨RX4, TX4, tyX4, rfl, wX4, tyX4_ok, nmX4, by decide, q_mm 82 (by decide +kernel) (by decide +kernel), rfl, rfl, rfl⟩
set_option maxRecDepth 20000 in
theorem f_X7_97 : q_fld RX7 97 4 4 1 (.array .int) true := ⟨RX4, TX4, tyX4, rfl, wX4, tyX4_ok, nmX4, by decide, q_mm 83 (by decide +kernel) (by decide +kernel), rfl, rfl, rfl⟩
set_option maxRecDepth 20000 in
theorem f_X4_18 : q_fld RX4 18 4 4 2 (.array .int) true := ⟨RX4, TX4, tyX4, rfl, wX4, tyX4_ok, nmX4, by decide, q_mm 84 (by decide +kernel) (by decide +kernel), rfl, rfl, rfl⟩
set_option maxRecDepth 20000 in
theorem f_X7_100 : q_fld RX7 100 4 4 2 (.array .int) true := ⟨RX4, TX4, tyX4, rfl, wX4, tyX4_ok, nmX4, by decide, q_mm 85 (by decide +kernel) (by decide +kernel), rfl, rfl, rfl⟩
set_option maxRecDepth 20000 in
theorem f_X4_21 : q_fld RX4 21 4 4 3 .int false := ⟨RX4, TX4, tyX4, rfl, wX4, tyX4_ok, nmX4, by decide, q_mm 86 (by decide +kernel) (by decide +kernel), rfl, rfl, rfl⟩
set_option maxRecDepth 20000 in
theorem f_X3_50 : q_fld RX3 50 4 4 3 .int false := ⟨RX4, TX4, tyX4, rfl, wX4, tyX4_ok, nmX4, by decide, q_mm 87 (by decide +kernel) (by decide +kernel), rfl, rfl, rfl⟩
set_option maxRecDepth 20000 in
theorem f_X7_130 : q_fld RX7 130 4 4 3 .int false := ⟨RX4, TX4, tyX4, rfl, wX4, tyX4_ok, nmX4, by decide, q_mm 88 (by decide +kernel) (by decide +kernel), rfl, rfl, rfl⟩
set_option maxRecDepth 20000 in
theorem f_X6_9 : q_fld RX6 9 6 2 0 (.array .byte) true := ⟨RX6, TX6, tyX6, rfl, wX6, tyX6_ok, nmX6, by decide, q_mm 104 (by decide +kernel) (by decide +kernel), rfl, rfl, rfl⟩
set_option maxRecDepth 20000 in
theorem f_X6_15 : q_fld RX6 15 6 2 1 .int false := ⟨RX6, TX6, tyX6, rfl, wX6, tyX6_ok, nmX6, by decide, q_mm 105 (by decide +kernel) (by decide +kernel), rfl, rfl, rfl⟩
set_option maxRecDepth 20000 in
theorem f_X0_27 : q_fld RX0 27 6 2 1 .int false := ⟨RX6, TX6, tyX6, rfl, wX6, tyX6_ok, nmX6, by decide, q_mm 106 (by decide +kernel) (by decide +kernel), rfl, rfl, rfl⟩
set_option maxRecDepth 20000 in
theorem f_X7_109 : q_fld RX7 109 6 2 1 .int false := ⟨RX6, TX6, tyX6, rfl, wX6, tyX6_ok, nmX6, by decide, q_mm 107 (by decide +kernel) (by decide +kernel), rfl, rfl, rfl⟩
set_option maxRecDepth 20000 in
theorem f_X0_20 : q_fld RX0 20 0 6 0 .int false := ⟨RX0, TX0, tyX0, rfl, wX0, tyX0_ok, nmX0, by decide, q_mm 120 (by decide +kernel) (by decide +kernel), rfl, rfl, rfl⟩
set_option maxRecDepth 20000 in
theorem f_X7_124 : q_fld RX7 124 0 6 0 .int false := ⟨RX0, TX0, tyX0, rfl, wX0, tyX0_ok, nmX0, by decide, q_mm 121 (by decide +kernel) (by decide +kernel), rfl, rfl, rfl⟩
set_option maxRecDepth 20000 in
theorem f_X0_9 : q_fld RX0 9 0 6 1 .int false := ⟨RX0, TX0, tyX0, rfl, wX0, tyX0_ok, nmX0, by decide, q_mm 122 (by decide +kernel) (by decide +kernel), rfl, rfl, rfl⟩
set_option maxRecDepth 20000 in
theorem f_X7_127 : q_fld RX7 127 0 6 1 .int false := ⟨RX0, TX0, tyX0, rfl, wX0, tyX0_ok, nmX0, by decide, q_mm 123 (by decide +kernel) (by decide +kernel), rfl, rfl, rfl⟩
set_option maxRecDepth 20000 in
theorem f_X0_43 : q_fld RX0 43 0 6 2 .int false := ⟨RX0, TX0, tyX0, rfl, wX0, tyX0_ok, nmX0, by decide, q_mm 124 (by decide +kernel) (by decide +kernel), rfl, rfl, rfl⟩
set_option maxRecDepth 20000 in
theorem f_X0_46 : q_fld RX0 46 0 6 3 .int false := ⟨RX0, TX0, tyX0, rfl, wX0, tyX0_ok, nmX0, by decide, q_mm 125 (by decide +kernel) (by decide +kernel), rfl, rfl, rfl⟩
set_option maxRecDepth 20000 in
theorem f_X0_49 : q_fld RX0 49 0 6 4 .int false := ⟨RX0, TX0, tyX0, rfl, wX0, tyX0_ok, nmX0, by decide, q_mm 126 (by decide +kernel) (by decide +kernel), rfl, rfl, rfl⟩
set_option maxRecDepth 20000 in
theorem f_X0_52 : q_fld RX0 52 0 6 5 .int false := ⟨RX0, TX0, tyX0, rfl, wX0, tyX0_ok, nmX0, by decide, q_mm 127 (by decide +kernel) (by decide +kernel), rfl, rfl, rfl⟩
set_option maxRecDepth 20000 in
theorem f_X3_11 : q_fld RX3 11 3 9 0 (.array (.array .int)) true := ⟨RX3, TX3, tyX3, rfl, wX3, tyX3_ok, nmX3, by decide, q_mm 149 (by decide +kernel) (by decide +kernel), rfl, rfl, rfl⟩
set_option maxRecDepth 20000 in
theorem f_X7_139 : q_fld RX7 139 3 9 0 (.array (.array .int)) true := ⟨RX3, TX3, tyX3, rfl, wX3, tyX3_ok, nmX3, by decide, q_mm 150 (by decide +kernel) (by decide +kernel), rfl, rfl, rfl⟩
set_option maxRecDepth 20000 in
theorem f_X3_16 : q_fld RX3 16 3 9 1 (.array (.array .int)) true := ⟨RX3, TX3, tyX3, rfl, wX3, tyX3_ok, nmX3, by decide, q_mm 151 (by decide +kernel) (by decide +kernel), rfl, rfl, rfl⟩
set_option maxRecDepth 20000 in
theorem f_X7_143 : q_fld RX7 143 3 9 1 (.array (.array .int)) true := ⟨RX3, TX3, tyX3, rfl, wX3, tyX3_ok, nmX3, by decide, q_mm 152 (by decide +kernel) (by decide +kernel), rfl, rfl, rfl⟩
set_option maxRecDepth 20000 in
theorem f_X3_19 : q_fld RX3 19 3 9 2 (.array (.array .int)) true := ⟨RX3, TX3, tyX3, rfl, wX3, tyX3_ok, nmX3, by decide, q_mm 153 (by decide +kernel) (by decide +kernel), rfl, rfl, rfl⟩
set_option maxRecDepth 20000 in
theorem f_X7_146 : q_fld RX7 146 3 9 2 (.array (.array .int)) true := ⟨RX3, TX3, tyX3, rfl, wX3, tyX3_ok, nmX3, by decide, q_mm 154 (by decide +kernel) (by decide +kernel), rfl, rfl, rfl⟩
set_option maxRecDepth 20000 in
theorem f_X3_22 : q_fld RX3 22 3 9 3 (.array (.array .int)) true := ⟨RX3, TX3, tyX3, rfl, wX3, tyX3_ok, nmX3, by decide, q_mm 155 (by decide +kernel) (by decide +kernel), rfl, rfl, rfl⟩
set_option maxRecDepth 20000 in
theorem f_X7_149 : q_fld RX7 149 3 9 3 (.array (.array .int)) true := ⟨RX3, TX3, tyX3, rfl, wX3, tyX3_ok, nmX3, by decide, q_mm 156 (by decide +kernel) (by decide +kernel), rfl, rfl, rfl⟩
set_option maxRecDepth 20000 in
theorem f_X3_25 : q_fld RX3 25 3 9 4 (.array (.array .int)) true := ⟨RX3, TX3, tyX3, rfl, wX3, tyX3_ok, nmX3, by decide, q_mm 157 (by decide +kernel) (by decide +kernel), rfl, rfl, rfl⟩
set_option maxRecDepth 20000 in
theorem f_X7_152 : q_fld RX7 152 3 9 4 (.array (.array .int)) true := ⟨RX3, TX3, tyX3, rfl, wX3, tyX3_ok, nmX3, by decide, q_mm 158 (by decide +kernel) (by decide +kernel), rfl, rfl, rfl⟩
set_option maxRecDepth 20000 in
theorem f_X3_28 : q_fld RX3 28 3 9 5 (.array (.array .int)) true := ⟨RX3, TX3, tyX3, rfl, wX3, tyX3_ok, nmX3, by decide, q_mm 159 (by decide +kernel) (by decide +kernel), rfl, rfl, rfl⟩
set_option maxRecDepth 20000 in
theorem f_X7_158 : q_fld RX7 158 3 9 5 (.array (.array .int)) true := ⟨RX3, TX3, tyX3, rfl, wX3, tyX3_ok, nmX3, by decide, q_mm 160 (by decide +kernel) (by decide +kernel), rfl, rfl, rfl⟩
set_option maxRecDepth 20000 in
theorem f_X3_31 : q_fld RX3 31 3 9 6 (.array .int) true := ⟨RX3, TX3, tyX3, rfl, wX3, tyX3_ok, nmX3, by decide, q_mm 161 (by decide +kernel) (by decide +kernel), rfl, rfl, rfl⟩
set_option maxRecDepth 20000 in
theorem f_X2_34 : q_fld RX2 34 3 9 6 (.array .int) true := ⟨RX3, TX3, tyX3, rfl, wX3, tyX3_ok, nmX3, by decide, q_mm 162 (by decide +kernel) (by decide +kernel), rfl, rfl, rfl⟩
set_option maxRecDepth 20000 in
theorem f_X7_155 : q_fld RX7 155 3 9 6 (.array .int) true := ⟨RX3, TX3, tyX3, rfl, wX3, tyX3_ok, nmX3, by decide, q_mm 163 (by decide +kernel) (by decide +kernel), rfl, rfl, rfl⟩
set_option maxRecDepth 20000 in
theorem f_X3_35 : q_fld RX3 35 3 9 7 (.array .int) true := ⟨RX3, TX3, tyX3, rfl, wX3, tyX3_ok, nmX3, by decide, q_mm 164 (by decide +kernel) (by decide +kernel), rfl, rfl, rfl⟩
set_option maxRecDepth 20000 in
theorem f_X3_38 : q_fld RX3 38 3 9 8 (.array .int) true := ⟨RX3, TX3, tyX3, rfl, wX3, tyX3_ok, nmX3, by decide, q_mm 165 (by decide +kernel) (by decide +kernel), rfl, rfl, rfl⟩
set_option maxRecDepth 20000 in
theorem f_X2_9 : q_fld RX2 9 2 8 0 (.array .int) true := ⟨RX2, TX2, tyX2, rfl, wX2, tyX2_ok, nmX2, by decide, q_mm 191 (by decide +kernel) (by decide +kernel), rfl, rfl, rfl⟩
set_option maxRecDepth 20000 in
theorem f_X7_161 : q_fld RX7 161 2 8 0 (.array .int) true := ⟨RX2, TX2, tyX2, rfl, wX2, tyX2_ok, nmX2, by decide, q_mm 192 (by decide +kernel) (by decide +kernel), rfl, rfl, rfl⟩
set_option maxRecDepth 20000 in
theorem f_X2_15 : q_fld RX2 15 2 8 1 (.array .int) true := ⟨RX2, TX2, tyX2, rfl, wX2, tyX2_ok, nmX2, by decide, q_mm 193 (by decide +kernel) (by decide +kernel), rfl, rfl, rfl⟩
set_option maxRecDepth 20000 in
theorem f_X7_164 : q_fld RX7 164 2 8 1 (.array .int) true := ⟨RX2, TX2, tyX2, rfl, wX2, tyX2_ok, nmX2, by decide, q_mm 194 (by decide +kernel) (by decide +kernel), rfl, rfl, rfl⟩
set_option maxRecDepth 20000 in
theorem f_X2_18 : q_fld RX2 18 2 8 2 (.array .int) true := ⟨RX2, TX2, tyX2, rfl, wX2, tyX2_ok, nmX2, by decide, q_mm 195 (by decide +kernel) (by decide +kernel), rfl, rfl, rfl⟩
set_option maxRecDepth 20000 in
theorem f_X7_167 : q_fld RX7 167 2 8 2 (.array .int) true := ⟨RX2, TX2, tyX2, rfl, wX2, tyX2_ok, nmX2, by decide, q_mm 196 (by decide +kernel) (by decide +kernel), rfl, rfl, rfl⟩
set_option maxRecDepth 20000 in
theorem f_X2_55 : q_fld RX2 55 2 8 3 .int false := ⟨RX2, TX2, tyX2, rfl, wX2, tyX2_ok, nmX2, by decide, q_mm 197 (by decide +kernel) (by decide +kernel), rfl, rfl, rfl⟩
set_option maxRecDepth 20000 in
theorem f_X7_176 : q_fld RX7 176 2 8 3 .int false := ⟨RX2, TX2, tyX2, rfl, wX2, tyX2_ok, nmX2, by decide, q_mm 198 (by decide +kernel) (by decide +kernel), rfl, rfl, rfl⟩
set_option maxRecDepth 20000 in
theorem f_X2_21 : q_fld RX2 21 2 8 4 (.array .int) true := ⟨RX2, TX2, tyX2, rfl, wX2, tyX2_ok, nmX2, by decide, q_mm 199 (by decide +kernel) (by decide +kernel), rfl, rfl, rfl⟩
set_option maxRecDepth 20000 in
theorem f_X2_24 : q_fld RX2 24 2 8 5 (.array .int) true := ⟨RX2, TX2, tyX2, rfl, wX2, tyX2_ok, nmX2, by decide, q_mm 200 (by decide +kernel) (by decide +kernel), rfl, rfl, rfl⟩
set_option maxRecDepth 20000 in
theorem f_X2_27 : q_fld RX2 27 2 8 6 .int false := ⟨RX2, TX2, tyX2, rfl, wX2, tyX2_ok, nmX2, by decide, q_mm 201 (by decide +kernel) (by decide +kernel), rfl, rfl, rfl⟩
set_option maxRecDepth 20000 in
theorem f_X2_31 : q_fld RX2 31 2 8 7 .int false := ⟨RX2, TX2, tyX2, rfl, wX2, tyX2_ok, nmX2, by decide, q_mm 202 (by decide +kernel) (by decide +kernel), rfl, rfl, rfl⟩
set_option maxRecDepth 20000 in
theorem f_X5_9 : q_fld RX5 9 5 5 0 (.array .int) true := ⟨RX5, TX5, tyX5, rfl, wX5, tyX5_ok, nmX5, by decide, q_mm 227 (by decide +kernel) (by decide +kernel), rfl, rfl, rfl⟩
set_option maxRecDepth 20000 in
theorem f_X3_97 : q_fld RX3 97 5 5 0 (.array .int) true := ⟨RX5, TX5, tyX5, rfl, wX5, tyX5_ok, nmX5, by decide, q_mm 228 (by decide +kernel) (by decide +kernel), rfl, rfl, rfl⟩
set_option maxRecDepth 20000 in
theorem f_X5_17 : q_fld RX5 17 5 5 1 (.array (.array .int)) true := ⟨RX5, TX5, tyX5, rfl, wX5, tyX5_ok, nmX5, by decide, q_mm 229 (by decide +kernel) (by decide +kernel), rfl, rfl, rfl⟩
set_option maxRecDepth 20000 in
theorem f_X3_105 : q_fld RX3 105 5 5 1 (.array (.array .int)) true := ⟨RX5, TX5, tyX5, rfl, wX5, tyX5_ok, nmX5, by decide, q_mm 230 (by decide +kernel) (by decide +kernel), rfl, rfl, rfl⟩
set_option maxRecDepth 20000 in
theorem f_X5_20 : q_fld RX5 20 5 5 2 (.array (.array .int)) true := ⟨RX5, TX5, tyX5, rfl, wX5, tyX5_ok, nmX5, by decide, q_mm 231 (by decide +kernel) (by decide +kernel), rfl, rfl, rfl⟩
set_option maxRecDepth 20000 in
theorem f_X3_102 : q_fld RX3 102 5 5 2 (.array (.array .int)) true := ⟨RX5, TX5, tyX5, rfl, wX5, tyX5_ok, nmX5, by decide, q_mm 232 (by decide +kernel) (by decide +kernel), rfl, rfl, rfl⟩
set_option maxRecDepth 20000 in
theorem f_X5_23 : q_fld RX5 23 5 5 3 (.array (.array .int)) true := ⟨RX5, TX5, tyX5, rfl, wX5, tyX5_ok, nmX5, by decide, q_mm 233 (by decide +kernel) (by decide +kernel), rfl, rfl, rfl⟩
set_option maxRecDepth 20000 in
theorem f_X3_108 : q_fld RX3 108 5 5 3 (.array (.array .int)) true := ⟨RX5, TX5, tyX5, rfl, wX5, tyX5_ok, nmX5, by decide, q_mm 234 (by decide +kernel) (by decide +kernel), rfl, rfl, rfl⟩
set_option maxRecDepth 20000 in
theorem f_X5_26 : q_fld RX5 26 5 5 4 .int false := ⟨RX5, TX5, tyX5, rfl, wX5, tyX5_ok, nmX5, by decide, q_mm 235 (by decide +kernel) (by decide +kernel), rfl, rfl, rfl⟩
set_option maxRecDepth 20000 in
theorem f_X7_121 : q_fld RX7 121 5 5 4 .int false := ⟨RX5, TX5, tyX5, rfl, wX5, tyX5_ok, nmX5, by decide, q_mm 236 (by decide +kernel) (by decide +kernel), rfl, rfl, rfl⟩
set_option maxRecDepth 20000 in
theorem f_X7_12 : q_fld RX7 12 7 10 0 (.object "DesertTown$Course") true := ⟨RX7, TX7, tyX7, rfl, wX7, tyX7_ok, nmX7, by decide, q_mm 248 (by decide +kernel) (by decide +kernel), rfl, rfl, rfl⟩
set_option maxRecDepth 20000 in
theorem f_X7_19 : q_fld RX7 19 7 10 1 (.object "DesertTown$Racers") true := ⟨RX7, TX7, tyX7, rfl, wX7, tyX7_ok, nmX7, by decide, q_mm 249 (by decide +kernel) (by decide +kernel), rfl, rfl, rfl⟩
set_option maxRecDepth 20000 in
theorem f_X7_26 : q_fld RX7 26 7 10 2 (.object "DesertTown$Tape") true := ⟨RX7, TX7, tyX7, rfl, wX7, tyX7_ok, nmX7, by decide, q_mm 250 (by decide +kernel) (by decide +kernel), rfl, rfl, rfl⟩
set_option maxRecDepth 20000 in
theorem f_X7_33 : q_fld RX7 33 7 10 3 (.object "DesertTown$BookReader") true := ⟨RX7, TX7, tyX7, rfl, wX7, tyX7_ok, nmX7, by decide, q_mm 251 (by decide +kernel) (by decide +kernel), rfl, rfl, rfl⟩
set_option maxRecDepth 20000 in
theorem f_X7_40 : q_fld RX7 40 7 10 4 (.object "DesertTown$Race") true := ⟨RX7, TX7, tyX7, rfl, wX7, tyX7_ok, nmX7, by decide, q_mm 252 (by decide +kernel) (by decide +kernel), rfl, rfl, rfl⟩
set_option maxRecDepth 20000 in
theorem f_X7_47 : q_fld RX7 47 7 10 5 (.object "DesertTown$Kitchens") true := ⟨RX7, TX7, tyX7, rfl, wX7, tyX7_ok, nmX7, by decide, q_mm 253 (by decide +kernel) (by decide +kernel), rfl, rfl, rfl⟩
set_option maxRecDepth 20000 in
theorem f_X7_51 : q_fld RX7 51 7 10 6 (.array .int) true := ⟨RX7, TX7, tyX7, rfl, wX7, tyX7_ok, nmX7, by decide, q_mm 254 (by decide +kernel) (by decide +kernel), rfl, rfl, rfl⟩
set_option maxRecDepth 20000 in
theorem f_X7_58 : q_fld RX7 58 7 10 7 (.object "DesertTown$RoadBook") false := ⟨RX7, TX7, tyX7, rfl, wX7, tyX7_ok, nmX7, by decide, q_mm 255 (by decide +kernel) (by decide +kernel), rfl, rfl, rfl⟩
set_option maxRecDepth 20000 in
theorem f_X7_62 : q_fld RX7 62 7 10 8 (.object "DesertTown$RoadBook") false := ⟨RX7, TX7, tyX7, rfl, wX7, tyX7_ok, nmX7, by decide, q_mm 256 (by decide +kernel) (by decide +kernel), rfl, rfl, rfl⟩
set_option maxRecDepth 20000 in
theorem f_X7_65 : q_fld RX7 65 7 10 9 .boolean false := ⟨RX7, TX7, tyX7, rfl, wX7, tyX7_ok, nmX7, by decide, q_mm 257 (by decide +kernel) (by decide +kernel), rfl, rfl, rfl⟩
set_option maxRecDepth 20000 in
theorem f_X8_75 : q_fld RX8 75 8 30 0 .int false := ⟨RX8, TX8, tyX8, rfl, wX8, tyX8_ok, nmX8, by decide, q_mm 607 (by decide +kernel) (by decide +kernel), rfl, rfl, rfl⟩
set_option maxRecDepth 20000 in
theorem f_X8_7 : q_fld RX8 7 8 30 1 (.array .int) true := ⟨RX8, TX8, tyX8, rfl, wX8, tyX8_ok, nmX8, by decide, q_mm 608 (by decide +kernel) (by decide +kernel), rfl, rfl, rfl⟩
set_option maxRecDepth 20000 in
theorem f_X8_13 : q_fld RX8 13 8 30 2 (.array .int) true := ⟨RX8, TX8, tyX8, rfl, wX8, tyX8_ok, nmX8, by decide, q_mm 609 (by decide +kernel) (by decide +kernel), rfl, rfl, rfl⟩
set_option maxRecDepth 20000 in
theorem f_X8_16 : q_fld RX8 16 8 30 3 (.array .int) true := ⟨RX8, TX8, tyX8, rfl, wX8, tyX8_ok, nmX8, by decide, q_mm 610 (by decide +kernel) (by decide +kernel), rfl, rfl, rfl⟩
set_option maxRecDepth 20000 in
theorem f_X8_19 : q_fld RX8 19 8 30 4 (.array .int) true := ⟨RX8, TX8, tyX8, rfl, wX8, tyX8_ok, nmX8, by decide, q_mm 611 (by decide +kernel) (by decide +kernel), rfl, rfl, rfl⟩
set_option maxRecDepth 20000 in
theorem f_X8_22 : q_fld RX8 22 8 30 5 (.array .int) true := ⟨RX8, TX8, tyX8, rfl, wX8, tyX8_ok, nmX8, by decide, q_mm 612 (by decide +kernel) (by decide +kernel), rfl, rfl, rfl⟩
set_option maxRecDepth 20000 in
theorem f_X8_25 : q_fld RX8 25 8 30 6 (.array .int) true := ⟨RX8, TX8, tyX8, rfl, wX8, tyX8_ok, nmX8, by decide, q_mm 613 (by decide +kernel) (by decide +kernel), rfl, rfl, rfl⟩
set_option maxRecDepth 20000 in
theorem f_X8_28 : q_fld RX8 28 8 30 7 (.array .int) true := ⟨RX8, TX8, tyX8, rfl, wX8, tyX8_ok, nmX8, by decide, q_mm 614 (by decide +kernel) (by decide +kernel), rfl, rfl, rfl⟩
set_option maxRecDepth 20000 in
theorem f_X8_31 : q_fld RX8 31 8 30 8 (.array .int) true := ⟨RX8, TX8, tyX8, rfl, wX8, tyX8_ok, nmX8, by decide, q_mm 615 (by decide +kernel) (by decide +kernel), rfl, rfl, rfl⟩
set_option maxRecDepth 20000 in
theorem f_X8_34 : q_fld RX8 34 8 30 9 (.array .int) true := ⟨RX8, TX8, tyX8, rfl, wX8, tyX8_ok, nmX8, by decide, q_mm 616 (by decide +kernel) (by decide +kernel), rfl, rfl, rfl⟩
set_option maxRecDepth 20000 in
theorem f_X8_37 : q_fld RX8 37 8 30 10 (.array .int) true := ⟨RX8, TX8, tyX8, rfl, wX8, tyX8_ok, nmX8, by decide, q_mm 617 (by decide +kernel) (by decide +kernel), rfl, rfl, rfl⟩
set_option maxRecDepth 20000 in
theorem f_X8_40 : q_fld RX8 40 8 30 11 (.array .int) true := ⟨RX8, TX8, tyX8, rfl, wX8, tyX8_ok, nmX8, by decide, q_mm 618 (by decide +kernel) (by decide +kernel), rfl, rfl, rfl⟩
set_option maxRecDepth 20000 in
theorem f_X8_92 : q_fld RX8 92 8 30 12 .int false := ⟨RX8, TX8, tyX8, rfl, wX8, tyX8_ok, nmX8, by decide, q_mm 619 (by decide +kernel) (by decide +kernel), rfl, rfl, rfl⟩
set_option maxRecDepth 20000 in
theorem f_X8_103 : q_fld RX8 103 8 30 13 .int false := ⟨RX8, TX8, tyX8, rfl, wX8, tyX8_ok, nmX8, by decide, q_mm 620 (by decide +kernel) (by decide +kernel), rfl, rfl, rfl⟩
set_option maxRecDepth 20000 in
theorem f_X8_112 : q_fld RX8 112 8 30 14 .int false := ⟨RX8, TX8, tyX8, rfl, wX8, tyX8_ok, nmX8, by decide, q_mm 621 (by decide +kernel) (by decide +kernel), rfl, rfl, rfl⟩
set_option maxRecDepth 20000 in
theorem f_X8_109 : q_fld RX8 109 8 30 15 .int false := ⟨RX8, TX8, tyX8, rfl, wX8, tyX8_ok, nmX8, by decide, q_mm 622 (by decide +kernel) (by decide +kernel), rfl, rfl, rfl⟩
set_option maxRecDepth 20000 in
theorem f_X8_125 : q_fld RX8 125 8 30 16 .int false := ⟨RX8, TX8, tyX8, rfl, wX8, tyX8_ok, nmX8, by decide, q_mm 623 (by decide +kernel) (by decide +kernel), rfl, rfl, rfl⟩
set_option maxRecDepth 20000 in
theorem f_X8_128 : q_fld RX8 128 8 30 17 .int false := ⟨RX8, TX8, tyX8, rfl, wX8, tyX8_ok, nmX8, by decide, q_mm 624 (by decide +kernel) (by decide +kernel), rfl, rfl, rfl⟩
set_option maxRecDepth 20000 in
theorem f_X8_131 : q_fld RX8 131 8 30 18 .int false := ⟨RX8, TX8, tyX8, rfl, wX8, tyX8_ok, nmX8, by decide, q_mm 625 (by decide +kernel) (by decide +kernel), rfl, rfl, rfl⟩
set_option maxRecDepth 20000 in
theorem f_X8_154 : q_fld RX8 154 8 30 19 .int false := ⟨RX8, TX8, tyX8, rfl, wX8, tyX8_ok, nmX8, by decide, q_mm 626 (by decide +kernel) (by decide +kernel), rfl, rfl, rfl⟩
set_option maxRecDepth 20000 in
theorem f_X8_140 : q_fld RX8 140 8 30 20 .int false := ⟨RX8, TX8, tyX8, rfl, wX8, tyX8_ok, nmX8, by decide, q_mm 627 (by decide +kernel) (by decide +kernel), rfl, rfl, rfl⟩
set_option maxRecDepth 20000 in
theorem f_X8_43 : q_fld RX8 43 8 30 21 .int false := ⟨RX8, TX8, tyX8, rfl, wX8, tyX8_ok, nmX8, by decide, q_mm 628 (by decide +kernel) (by decide +kernel), rfl, rfl, rfl⟩
set_option maxRecDepth 20000 in
theorem f_X8_47 : q_fld RX8 47 8 30 22 (.array .int) true := ⟨RX8, TX8, tyX8, rfl, wX8, tyX8_ok, nmX8, by decide, q_mm 629 (by decide +kernel) (by decide +kernel), rfl, rfl, rfl⟩
set_option maxRecDepth 20000 in
theorem f_X8_50 : q_fld RX8 50 8 30 23 (.array .int) true := ⟨RX8, TX8, tyX8, rfl, wX8, tyX8_ok, nmX8, by decide, q_mm 630 (by decide +kernel) (by decide +kernel), rfl, rfl, rfl⟩
set_option maxRecDepth 20000 in
theorem f_X8_53 : q_fld RX8 53 8 30 24 (.array .int) true := ⟨RX8, TX8, tyX8, rfl, wX8, tyX8_ok, nmX8, by decide, q_mm 631 (by decide +kernel) (by decide +kernel), rfl, rfl, rfl⟩
set_option maxRecDepth 20000 in
theorem f_X8_56 : q_fld RX8 56 8 30 25 (.array .int) true := ⟨RX8, TX8, tyX8, rfl, wX8, tyX8_ok, nmX8, by decide, q_mm 632 (by decide +kernel) (by decide +kernel), rfl, rfl, rfl⟩
set_option maxRecDepth 20000 in
theorem f_X8_59 : q_fld RX8 59 8 30 26 (.array .int) true := ⟨RX8, TX8, tyX8, rfl, wX8, tyX8_ok, nmX8, by decide, q_mm 633 (by decide +kernel) (by decide +kernel), rfl, rfl, rfl⟩
set_option maxRecDepth 20000 in
theorem f_X8_62 : q_fld RX8 62 8 30 27 (.array .int) true := ⟨RX8, TX8, tyX8, rfl, wX8, tyX8_ok, nmX8, by decide, q_mm 634 (by decide +kernel) (by decide +kernel), rfl, rfl, rfl⟩
set_option maxRecDepth 20000 in
theorem f_X8_65 : q_fld RX8 65 8 30 28 (.array .int) true := ⟨RX8, TX8, tyX8, rfl, wX8, tyX8_ok, nmX8, by decide, q_mm 635 (by decide +kernel) (by decide +kernel), rfl, rfl, rfl⟩
set_option maxRecDepth 20000 in
theorem f_X8_68 : q_fld RX8 68 8 30 29 (.array .int) true := ⟨RX8, TX8, tyX8, rfl, wX8, tyX8_ok, nmX8, by decide, q_mm 636 (by decide +kernel) (by decide +kernel), rfl, rfl, rfl⟩
abbrev FX7_init : q_F := (yX7_init, cX7_init, 1, none)
abbrev FX1_init : q_F := (yX1_init, cX1_init, 1, none)
abbrev FX4_init : q_F := (yX4_init, cX4_init, 1, none)
abbrev FX6_init : q_F := (yX6_init, cX6_init, 1, none)
abbrev FX0_init : q_F := (yX0_init, cX0_init, 1, none)
abbrev FX3_init : q_F := (yX3_init, cX3_init, 1, none)
abbrev FX2_init : q_F := (yX2_init, cX2_init, 1, none)
abbrev FX5_init : q_F := (yX5_init, cX5_init, 1, none)
abbrev FX7_camp : q_F := (yX7_camp, cX7_camp, 3, (some .boolean))
abbrev FX7_isCamp : q_F := (yX7_isCamp, cX7_isCamp, 1, (some .boolean))
abbrev FX7_within : q_F := (yX7_within, cX7_within, 3, (some .boolean))
abbrev FX4_forgetBreaksFrom : q_F := (yX4_forgetBreaksFrom, cX4_forgetBreaksFrom, 4, none)
abbrev FX7_hour : q_F := (yX7_hour, cX7_hour, 3, (some .boolean))
abbrev FX7_isStage : q_F := (yX7_isStage, cX7_isStage, 1, (some .boolean))
abbrev FX7_racer : q_F := (yX7_racer, cX7_racer, 2, (some .int))
abbrev FX4_add : q_F := (yX4_add, cX4_add, 2, (some .int))
abbrev FX7_breaks : q_F := (yX7_breaks, cX7_breaks, 4, (some .boolean))
abbrev FX4_has : q_F := (yX4_has, cX4_has, 2, (some .boolean))
abbrev FX7_set : q_F := (yX7_set, cX7_set, 3, (some .boolean))
abbrev FX7_feed : q_F := (yX7_feed, cX7_feed, 6, (some .int))
abbrev FX6_append : q_F := (yX6_append, cX6_append, 3, none)
abbrev FX7_end : q_F := (yX7_end, cX7_end, 2, (some .boolean))
abbrev FX7_book : q_F := (yX7_book, cX7_book, 3, (some .int))
abbrev FX0_read : q_F := (yX0_read, cX0_read, 7, (some .boolean))
abbrev FX5_clear : q_F := (yX5_clear, cX5_clear, 2, none)
abbrev FX0_behindBlanks : q_F := (yX0_behindBlanks, cX0_behindBlanks, 3, (some .int))
abbrev FX6_byteAt : q_F := (yX6_byteAt, cX6_byteAt, 2, (some .int))
abbrev FX0_isBlank : q_F := (yX0_isBlank, cX0_isBlank, 1, (some .boolean))
abbrev FX0_behindToken : q_F := (yX0_behindToken, cX0_behindToken, 3, (some .int))
abbrev FX0_isLetter : q_F := (yX0_isLetter, cX0_isLetter, 1, (some .boolean))
abbrev FX0_isDigit : q_F := (yX0_isDigit, cX0_isDigit, 1, (some .boolean))
abbrev FX0_faultOf : q_F := (yX0_faultOf, cX0_faultOf, 7, (some .int))
abbrev FX5_add : q_F := (yX5_add, cX5_add, 6, none)
abbrev FX5_isFull : q_F := (yX5_isFull, cX5_isFull, 2, (some .boolean))
abbrev FX0_keywordOf : q_F := (yX0_keywordOf, cX0_keywordOf, 1, (some (.object "java/lang/String")))
abbrev FX0_isWord : q_F := (yX0_isWord, cX0_isWord, 5, (some .boolean))
abbrev FJ0_length_8abf5 : q_F := (yJ0_length_8abf5, cJ0_length_8abf5, 1, (some .int))
abbrev FJ0_coder_7d493 : q_F := (yJ0_coder_7d493, cJ0_coder_7d493, 1, (some .byte))
abbrev FJ0_charAt_5068e : q_F := (yJ0_charAt_5068e, cJ0_charAt_5068e, 2, (some .char))
abbrev FJ0_isLatin1_aae02 : q_F := (yJ0_isLatin1_aae02, cJ0_isLatin1_aae02, 1, (some .boolean))
abbrev FJ1_charAt_3b067 : q_F := (yJ1_charAt_3b067, cJ1_charAt_3b067, 2, (some .char))
abbrev FJ0_checkIndex_df160 : q_F := (yJ0_checkIndex_df160, cJ0_checkIndex_df160, 2, none)
abbrev FJ3_checkIndex_8e157 : q_F := (yJ3_checkIndex_8e157, cJ3_checkIndex_8e157, 3, (some .int))
abbrev FJ2_charAt_3b067 : q_F := (yJ2_charAt_3b067, cJ2_charAt_3b067, 2, (some .char))
abbrev FJ2_checkIndex_2214a : q_F := (yJ2_checkIndex_2214a, cJ2_checkIndex_2214a, 2, none)
abbrev FJ2_length_9d52b : q_F := (yJ2_length_9d52b, cJ2_length_9d52b, 1, (some .int))
abbrev FJ2_getChar_3b067 : q_F := (yJ2_getChar_3b067, cJ2_getChar_3b067, 2, (some .char))
abbrev FX0_numberOf : q_F := (yX0_numberOf, cX0_numberOf, 5, (some .int))
abbrev FX0_faultOfNumber : q_F := (yX0_faultOfNumber, cX0_faultOfNumber, 4, (some .int))
abbrev FX5_reach : q_F := (yX5_reach, cX5_reach, 2, (some .int))
abbrev FX7_fault : q_F := (yX7_fault, cX7_fault, 2, (some .int))
abbrev FX7_look : q_F := (yX7_look, cX7_look, 2, (some .int))
abbrev FX1_kilometerOf : q_F := (yX1_kilometerOf, cX1_kilometerOf, 4, (some .int))
abbrev FX7_time : q_F := (yX7_time, cX7_time, 3, (some .int))
abbrev FX7_settle : q_F := (yX7_settle, cX7_settle, 1, none)
abbrev FX3_run : q_F := (yX3_run, cX3_run, 6, none)
abbrev FX3_forget : q_F := (yX3_forget, cX3_forget, 3, none)
abbrev FX1_begins : q_F := (yX1_begins, cX1_begins, 2, (some .int))
abbrev FX3_timeFor : q_F := (yX3_timeFor, cX3_timeFor, 12, (some .int))
abbrev FJ9_min_7cf53 : q_F := (yJ9_min_7cf53, cJ9_min_7cf53, 2, (some .int))
abbrev FX7_divideUpwards : q_F := (yX7_divideUpwards, cX7_divideUpwards, 4, (some .int))
abbrev FX3_runStage : q_F := (yX3_runStage, cX3_runStage, 6, none)
abbrev FX3_rank : q_F := (yX3_rank, cX3_rank, 4, none)
abbrev FX3_isAhead : q_F := (yX3_isAhead, cX3_isAhead, 4, (some .boolean))
abbrev FX3_tellPlaces : q_F := (yX3_tellPlaces, cX3_tellPlaces, 3, none)
abbrev FX2_plan : q_F := (yX2_plan, cX2_plan, 5, none)
abbrev FX3_firstArrival : q_F := (yX3_firstArrival, cX3_firstArrival, 5, (some .int))
abbrev FX3_lastArrival : q_F := (yX3_lastArrival, cX3_lastArrival, 4, (some .int))
abbrev FJ9_max_7cf53 : q_F := (yJ9_max_7cf53, cJ9_max_7cf53, 2, (some .int))
abbrev FX2_fewestSets : q_F := (yX2_fewestSets, cX2_fewestSets, 2, (some .int))
abbrev FX2_share : q_F := (yX2_share, cX2_share, 6, (some .boolean))
abbrev FX2_canDo : q_F := (yX2_canDo, cX2_canDo, 4, (some .boolean))
abbrev FX7_minutesFor : q_F := (yX7_minutesFor, cX7_minutesFor, 2, (some .int))
abbrev FX7_ran : q_F := (yX7_ran, cX7_ran, 4, (some .int))
abbrev FX7_standing : q_F := (yX7_standing, cX7_standing, 3, (some .int))
abbrev FX7_of : q_F := (yX7_of, cX7_of, 5, (some .int))
abbrev FX7_sets : q_F := (yX7_sets, cX7_sets, 1, (some .int))
abbrev FX7_goes : q_F := (yX7_goes, cX7_goes, 2, (some .int))
abbrev FX2_lastCampOf : q_F := (yX2_lastCampOf, cX2_lastCampOf, 3, (some .int))
abbrev FX2_firstCampOf : q_F := (yX2_firstCampOf, cX2_firstCampOf, 3, (some .int))
abbrev FX7_sweep : q_F := (yX7_sweep, cX7_sweep, 5, (some .int))
abbrev FX3_brokenDown : q_F := (yX3_brokenDown, cX3_brokenDown, 5, (some .int))
abbrev FJ6_bitCount_0f7a4 : q_F := (yJ6_bitCount_0f7a4, cJ6_bitCount_0f7a4, 1, (some .int))
abbrev FX7_sweepersCome : q_F := (yX7_sweepersCome, cX7_sweepersCome, 4, (some .int))
abbrev FX3_lastStart : q_F := (yX3_lastStart, cX3_lastStart, 2, (some .int))
abbrev FX8_init : q_F := (yX8_init, cX8_init, 2, none)
abbrev FX8_camp : q_F := (yX8_camp, cX8_camp, 4, (some .boolean))
abbrev FX8_isCamp : q_F := (yX8_isCamp, cX8_isCamp, 1, (some .boolean))
abbrev FX8_isIn : q_F := (yX8_isIn, cX8_isIn, 3, (some .boolean))
abbrev FX8_hour : q_F := (yX8_hour, cX8_hour, 3, (some .boolean))
abbrev FX8_isStage : q_F := (yX8_isStage, cX8_isStage, 1, (some .boolean))
abbrev FX8_racer : q_F := (yX8_racer, cX8_racer, 2, (some .int))
abbrev FX8_breaks : q_F := (yX8_breaks, cX8_breaks, 4, (some .boolean))
abbrev FX8_isRacer : q_F := (yX8_isRacer, cX8_isRacer, 2, (some .boolean))
abbrev FX8_length : q_F := (yX8_length, cX8_length, 2, (some .int))
abbrev FX8_set : q_F := (yX8_set, cX8_set, 4, (some .boolean))
abbrev FX8_feed : q_F := (yX8_feed, cX8_feed, 8, (some .int))
abbrev FX8_end : q_F := (yX8_end, cX8_end, 2, (some .boolean))
abbrev FX8_book : q_F := (yX8_book, cX8_book, 3, (some .int))
abbrev FX8_next0 : q_F := (yX8_next0, cX8_next0, 5, none)
abbrev FX8_see : q_F := (yX8_see, cX8_see, 2, (some .int))
abbrev FX8_isLetter : q_F := (yX8_isLetter, cX8_isLetter, 1, (some .boolean))
abbrev FX8_word : q_F := (yX8_word, cX8_word, 2, (some .int))
abbrev FX8_isDigit : q_F := (yX8_isDigit, cX8_isDigit, 1, (some .boolean))
abbrev FX8_aZone : q_F := (yX8_aZone, cX8_aZone, 3, (some .boolean))
abbrev FX8_need : q_F := (yX8_need, cX8_need, 2, (some .boolean))
abbrev FX8_bad : q_F := (yX8_bad, cX8_bad, 2, (some .boolean))
abbrev FX8_aNumber : q_F := (yX8_aNumber, cX8_aNumber, 3, (some .boolean))
abbrev FX8_all : q_F := (yX8_all, cX8_all, 3, (some .int))
abbrev FX8_fault : q_F := (yX8_fault, cX8_fault, 2, (some .int))
abbrev FX8_look : q_F := (yX8_look, cX8_look, 4, (some .int))
abbrev FX8_time : q_F := (yX8_time, cX8_time, 3, (some .int))
abbrev FX8_timeOf : q_F := (yX8_timeOf, cX8_timeOf, 12, (some .int))
abbrev FX8_lesser : q_F := (yX8_lesser, cX8_lesser, 2, (some .int))
abbrev FX8_ran : q_F := (yX8_ran, cX8_ran, 5, (some .int))
abbrev FX8_runs : q_F := (yX8_runs, cX8_runs, 6, none)
abbrev FX8_comes : q_F := (yX8_comes, cX8_comes, 4, none)
abbrev FX8_isAhead : q_F := (yX8_isAhead, cX8_isAhead, 4, (some .boolean))
abbrev FX8_standing : q_F := (yX8_standing, cX8_standing, 3, (some .int))
abbrev FX8_sets : q_F := (yX8_sets, cX8_sets, 1, (some .int))
abbrev FX8_finds : q_F := (yX8_finds, cX8_finds, 2, (some .int))
abbrev FX8_kitchens : q_F := (yX8_kitchens, cX8_kitchens, 6, none)
abbrev FX8_tries : q_F := (yX8_tries, cX8_tries, 4, (some .boolean))
abbrev FX8_isNeeded : q_F := (yX8_isNeeded, cX8_isNeeded, 2, (some .boolean))
abbrev FX8_canDo : q_F := (yX8_canDo, cX8_canDo, 4, (some .boolean))
abbrev FX8_lastOf : q_F := (yX8_lastOf, cX8_lastOf, 5, (some .int))
abbrev FX8_between : q_F := (yX8_between, cX8_between, 5, (some .int))
abbrev FX8_goes : q_F := (yX8_goes, cX8_goes, 5, (some .int))
abbrev FX8_of : q_F := (yX8_of, cX8_of, 4, (some .int))
abbrev FX8_sweep : q_F := (yX8_sweep, cX8_sweep, 7, (some .int))
set_option maxRecDepth 20000 in
theorem m_X7_init : q_mt FX7_init 0 := ⟨q_mm 52 (by decide +kernel) (by decide +kernel), q_mm 33 (by decide +kernel) (by decide +kernel), by decide +kernel, by decide⟩
set_option maxRecDepth 20000 in
theorem m_X1_init : q_mt FX1_init 0 := ⟨q_mm 60 (by decide +kernel) (by decide +kernel), q_mm 34 (by decide +kernel) (by decide +kernel), by decide +kernel, by decide⟩
set_option maxRecDepth 20000 in
theorem m_X4_init : q_mt FX4_init 0 := ⟨q_mm 77 (by decide +kernel) (by decide +kernel), q_mm 35 (by decide +kernel) (by decide +kernel), by decide +kernel, by decide⟩
set_option maxRecDepth 20000 in
theorem m_X6_init : q_mt FX6_init 0 := ⟨q_mm 102 (by decide +kernel) (by decide +kernel), q_mm 36 (by decide +kernel) (by decide +kernel), by decide +kernel, by decide⟩
set_option maxRecDepth 20000 in
theorem m_X0_init : q_mt FX0_init 0 := ⟨q_mm 118 (by decide +kernel) (by decide +kernel), q_mm 37 (by decide +kernel) (by decide +kernel), by decide +kernel, by decide⟩
set_option maxRecDepth 20000 in
theorem m_X3_init : q_mt FX3_init 0 := ⟨q_mm 145 (by decide +kernel) (by decide +kernel), q_mm 38 (by decide +kernel) (by decide +kernel), by decide +kernel, by decide⟩
set_option maxRecDepth 20000 in
theorem m_X2_init : q_mt FX2_init 0 := ⟨q_mm 189 (by decide +kernel) (by decide +kernel), q_mm 39 (by decide +kernel) (by decide +kernel), by decide +kernel, by decide⟩
set_option maxRecDepth 20000 in
theorem m_X5_init : q_mt FX5_init 0 := ⟨q_mm 224 (by decide +kernel) (by decide +kernel), q_mm 40 (by decide +kernel) (by decide +kernel), by decide +kernel, by decide⟩
set_option maxRecDepth 20000 in
theorem m_X7_camp : q_mt FX7_camp 2 := ⟨q_mm 282 (by decide +kernel) (by decide +kernel), q_mm 33 (by decide +kernel) (by decide +kernel), by decide +kernel, by decide⟩
set_option maxRecDepth 20000 in
theorem m_X7_isCamp : q_mt FX7_isCamp 1 := ⟨q_mm 285 (by decide +kernel) (by decide +kernel), q_mm 33 (by decide +kernel) (by decide +kernel), by decide +kernel, by decide⟩
set_option maxRecDepth 20000 in
theorem m_X7_within : q_mt FX7_within 3 := ⟨q_mm 288 (by decide +kernel) (by decide +kernel), q_mm 33 (by decide +kernel) (by decide +kernel), by decide +kernel, by decide⟩
set_option maxRecDepth 20000 in
theorem m_X4_forgetBreaksFrom : q_mt FX4_forgetBreaksFrom 2 := ⟨q_mm 292 (by decide +kernel) (by decide +kernel), q_mm 35 (by decide +kernel) (by decide +kernel), by decide +kernel, by decide⟩
set_option maxRecDepth 20000 in
theorem m_X7_hour : q_mt FX7_hour 2 := ⟨q_mm 296 (by decide +kernel) (by decide +kernel), q_mm 33 (by decide +kernel) (by decide +kernel), by decide +kernel, by decide⟩
set_option maxRecDepth 20000 in
theorem m_X7_isStage : q_mt FX7_isStage 1 := ⟨q_mm 299 (by decide +kernel) (by decide +kernel), q_mm 33 (by decide +kernel) (by decide +kernel), by decide +kernel, by decide⟩
set_option maxRecDepth 20000 in
theorem m_X7_racer : q_mt FX7_racer 1 := ⟨q_mm 303 (by decide +kernel) (by decide +kernel), q_mm 33 (by decide +kernel) (by decide +kernel), by decide +kernel, by decide⟩
set_option maxRecDepth 20000 in
theorem m_X4_add : q_mt FX4_add 1 := ⟨q_mm 307 (by decide +kernel) (by decide +kernel), q_mm 35 (by decide +kernel) (by decide +kernel), by decide +kernel, by decide⟩
set_option maxRecDepth 20000 in
theorem m_X7_breaks : q_mt FX7_breaks 3 := ⟨q_mm 311 (by decide +kernel) (by decide +kernel), q_mm 33 (by decide +kernel) (by decide +kernel), by decide +kernel, by decide⟩
set_option maxRecDepth 20000 in
theorem m_X4_has : q_mt FX4_has 1 := ⟨q_mm 315 (by decide +kernel) (by decide +kernel), q_mm 35 (by decide +kernel) (by decide +kernel), by decide +kernel, by decide⟩
set_option maxRecDepth 20000 in
theorem m_X7_set : q_mt FX7_set 2 := ⟨q_mm 320 (by decide +kernel) (by decide +kernel), q_mm 33 (by decide +kernel) (by decide +kernel), by decide +kernel, by decide⟩
set_option maxRecDepth 20000 in
theorem m_X7_feed : q_mt FX7_feed 5 := ⟨q_mm 328 (by decide +kernel) (by decide +kernel), q_mm 33 (by decide +kernel) (by decide +kernel), by decide +kernel, by decide⟩
set_option maxRecDepth 20000 in
theorem m_X6_append : q_mt FX6_append 1 := ⟨q_mm 332 (by decide +kernel) (by decide +kernel), q_mm 36 (by decide +kernel) (by decide +kernel), by decide +kernel, by decide⟩
set_option maxRecDepth 20000 in
theorem m_X7_end : q_mt FX7_end 1 := ⟨q_mm 336 (by decide +kernel) (by decide +kernel), q_mm 33 (by decide +kernel) (by decide +kernel), by decide +kernel, by decide⟩
set_option maxRecDepth 20000 in
theorem m_X7_book : q_mt FX7_book 0 := ⟨q_mm 340 (by decide +kernel) (by decide +kernel), q_mm 33 (by decide +kernel) (by decide +kernel), by decide +kernel, by decide⟩
set_option maxRecDepth 20000 in
theorem m_X0_read : q_mt FX0_read 2 := ⟨q_mm 344 (by decide +kernel) (by decide +kernel), q_mm 37 (by decide +kernel) (by decide +kernel), by decide +kernel, by decide⟩
set_option maxRecDepth 20000 in
theorem m_X5_clear : q_mt FX5_clear 0 := ⟨q_mm 348 (by decide +kernel) (by decide +kernel), q_mm 40 (by decide +kernel) (by decide +kernel), by decide +kernel, by decide⟩
set_option maxRecDepth 20000 in
theorem m_X0_behindBlanks : q_mt FX0_behindBlanks 2 := ⟨q_mm 351 (by decide +kernel) (by decide +kernel), q_mm 37 (by decide +kernel) (by decide +kernel), by decide +kernel, by decide⟩
set_option maxRecDepth 20000 in
theorem m_X6_byteAt : q_mt FX6_byteAt 1 := ⟨q_mm 355 (by decide +kernel) (by decide +kernel), q_mm 36 (by decide +kernel) (by decide +kernel), by decide +kernel, by decide⟩
set_option maxRecDepth 20000 in
theorem m_X0_isBlank : q_mt FX0_isBlank 1 := ⟨q_mm 359 (by decide +kernel) (by decide +kernel), q_mm 37 (by decide +kernel) (by decide +kernel), by decide +kernel, by decide⟩
set_option maxRecDepth 20000 in
theorem m_X0_behindToken : q_mt FX0_behindToken 2 := ⟨q_mm 362 (by decide +kernel) (by decide +kernel), q_mm 37 (by decide +kernel) (by decide +kernel), by decide +kernel, by decide⟩
set_option maxRecDepth 20000 in
theorem m_X0_isLetter : q_mt FX0_isLetter 1 := ⟨q_mm 365 (by decide +kernel) (by decide +kernel), q_mm 37 (by decide +kernel) (by decide +kernel), by decide +kernel, by decide⟩
set_option maxRecDepth 20000 in
theorem m_X0_isDigit : q_mt FX0_isDigit 1 := ⟨q_mm 369 (by decide +kernel) (by decide +kernel), q_mm 37 (by decide +kernel) (by decide +kernel), by decide +kernel, by decide⟩
set_option maxRecDepth 20000 in
theorem m_X0_faultOf : q_mt FX0_faultOf 5 := ⟨q_mm 373 (by decide +kernel) (by decide +kernel), q_mm 37 (by decide +kernel) (by decide +kernel), by decide +kernel, by decide⟩
set_option maxRecDepth 20000 in
theorem m_X5_add : q_mt FX5_add 4 := ⟨q_mm 377 (by decide +kernel) (by decide +kernel), q_mm 40 (by decide +kernel) (by decide +kernel), by decide +kernel, by decide⟩
set_option maxRecDepth 20000 in
theorem m_X5_isFull : q_mt FX5_isFull 1 := ⟨q_mm 381 (by decide +kernel) (by decide +kernel), q_mm 40 (by decide +kernel) (by decide +kernel), by decide +kernel, by decide⟩
set_option maxRecDepth 20000 in
theorem m_X0_keywordOf : q_mt FX0_keywordOf 1 := ⟨q_mm 385 (by decide +kernel) (by decide +kernel), q_mm 37 (by decide +kernel) (by decide +kernel), by decide +kernel, by decide⟩
set_option maxRecDepth 20000 in
theorem m_X0_isWord : q_mt FX0_isWord 4 := ⟨q_mm 392 (by decide +kernel) (by decide +kernel), q_mm 37 (by decide +kernel) (by decide +kernel), by decide +kernel, by decide⟩
set_option maxRecDepth 20000 in
theorem m_J0_length_8abf5 : q_mt FJ0_length_8abf5 0 := ⟨q_mm 396 (by decide +kernel) (by decide +kernel), q_mm 42 (by decide +kernel) (by decide +kernel), by decide +kernel, by decide⟩
set_option maxRecDepth 20000 in
theorem m_J0_coder_7d493 : q_mt FJ0_coder_7d493 0 := ⟨q_mm 400 (by decide +kernel) (by decide +kernel), q_mm 42 (by decide +kernel) (by decide +kernel), by decide +kernel, by decide⟩
set_option maxRecDepth 20000 in
theorem m_J0_charAt_5068e : q_mt FJ0_charAt_5068e 1 := ⟨q_mm 406 (by decide +kernel) (by decide +kernel), q_mm 42 (by decide +kernel) (by decide +kernel), by decide +kernel, by decide⟩
set_option maxRecDepth 20000 in
theorem m_J0_isLatin1_aae02 : q_mt FJ0_isLatin1_aae02 0 := ⟨q_mm 410 (by decide +kernel) (by decide +kernel), q_mm 42 (by decide +kernel) (by decide +kernel), by decide +kernel, by decide⟩
set_option maxRecDepth 20000 in
theorem m_J1_charAt_3b067 : q_mt FJ1_charAt_3b067 2 := ⟨q_mm 413 (by decide +kernel) (by decide +kernel), q_mm 43 (by decide +kernel) (by decide +kernel), by decide +kernel, by decide⟩
set_option maxRecDepth 20000 in
theorem m_J0_checkIndex_df160 : q_mt FJ0_checkIndex_df160 2 := ⟨q_mm 416 (by decide +kernel) (by decide +kernel), q_mm 42 (by decide +kernel) (by decide +kernel), by decide +kernel, by decide⟩
set_option maxRecDepth 20000 in
theorem m_J3_checkIndex_8e157 : q_mt FJ3_checkIndex_8e157 3 := ⟨q_mm 421 (by decide +kernel) (by decide +kernel), q_mm 44 (by decide +kernel) (by decide +kernel), by decide +kernel, by decide⟩
set_option maxRecDepth 20000 in
theorem m_J2_charAt_3b067 : q_mt FJ2_charAt_3b067 2 := ⟨q_mm 424 (by decide +kernel) (by decide +kernel), q_mm 45 (by decide +kernel) (by decide +kernel), by decide +kernel, by decide⟩
set_option maxRecDepth 20000 in
theorem m_J2_checkIndex_2214a : q_mt FJ2_checkIndex_2214a 2 := ⟨q_mm 427 (by decide +kernel) (by decide +kernel), q_mm 45 (by decide +kernel) (by decide +kernel), by decide +kernel, by decide⟩
set_option maxRecDepth 20000 in
theorem m_J2_length_9d52b : q_mt FJ2_length_9d52b 1 := ⟨q_mm 430 (by decide +kernel) (by decide +kernel), q_mm 45 (by decide +kernel) (by decide +kernel), by decide +kernel, by decide⟩
set_option maxRecDepth 20000 in
theorem m_J2_getChar_3b067 : q_mt FJ2_getChar_3b067 2 := ⟨q_mm 434 (by decide +kernel) (by decide +kernel), q_mm 45 (by decide +kernel) (by decide +kernel), by decide +kernel, by decide⟩
set_option maxRecDepth 20000 in
theorem m_X0_numberOf : q_mt FX0_numberOf 3 := ⟨q_mm 443 (by decide +kernel) (by decide +kernel), q_mm 37 (by decide +kernel) (by decide +kernel), by decide +kernel, by decide⟩
set_option maxRecDepth 20000 in
theorem m_X0_faultOfNumber : q_mt FX0_faultOfNumber 3 := ⟨q_mm 447 (by decide +kernel) (by decide +kernel), q_mm 37 (by decide +kernel) (by decide +kernel), by decide +kernel, by decide⟩
set_option maxRecDepth 20000 in
theorem m_X5_reach : q_mt FX5_reach 1 := ⟨q_mm 453 (by decide +kernel) (by decide +kernel), q_mm 40 (by decide +kernel) (by decide +kernel), by decide +kernel, by decide⟩
set_option maxRecDepth 20000 in
theorem m_X7_fault : q_mt FX7_fault 1 := ⟨q_mm 458 (by decide +kernel) (by decide +kernel), q_mm 33 (by decide +kernel) (by decide +kernel), by decide +kernel, by decide⟩
set_option maxRecDepth 20000 in
theorem m_X7_look : q_mt FX7_look 1 := ⟨q_mm 462 (by decide +kernel) (by decide +kernel), q_mm 33 (by decide +kernel) (by decide +kernel), by decide +kernel, by decide⟩
set_option maxRecDepth 20000 in
theorem m_X1_kilometerOf : q_mt FX1_kilometerOf 1 := ⟨q_mm 466 (by decide +kernel) (by decide +kernel), q_mm 34 (by decide +kernel) (by decide +kernel), by decide +kernel, by decide⟩
set_option maxRecDepth 20000 in
theorem m_X7_time : q_mt FX7_time 2 := ⟨q_mm 470 (by decide +kernel) (by decide +kernel), q_mm 33 (by decide +kernel) (by decide +kernel), by decide +kernel, by decide⟩
set_option maxRecDepth 20000 in
theorem m_X7_settle : q_mt FX7_settle 0 := ⟨q_mm 474 (by decide +kernel) (by decide +kernel), q_mm 33 (by decide +kernel) (by decide +kernel), by decide +kernel, by decide⟩
set_option maxRecDepth 20000 in
theorem m_X3_run : q_mt FX3_run 3 := ⟨q_mm 478 (by decide +kernel) (by decide +kernel), q_mm 38 (by decide +kernel) (by decide +kernel), by decide +kernel, by decide⟩
set_option maxRecDepth 20000 in
theorem m_X3_forget : q_mt FX3_forget 1 := ⟨q_mm 482 (by decide +kernel) (by decide +kernel), q_mm 38 (by decide +kernel) (by decide +kernel), by decide +kernel, by decide⟩
set_option maxRecDepth 20000 in
theorem m_X1_begins : q_mt FX1_begins 1 := ⟨q_mm 486 (by decide +kernel) (by decide +kernel), q_mm 34 (by decide +kernel) (by decide +kernel), by decide +kernel, by decide⟩
set_option maxRecDepth 20000 in
theorem m_X3_timeFor : q_mt FX3_timeFor 4 := ⟨q_mm 490 (by decide +kernel) (by decide +kernel), q_mm 38 (by decide +kernel) (by decide +kernel), by decide +kernel, by decide⟩
set_option maxRecDepth 20000 in
theorem m_J9_min_7cf53 : q_mt FJ9_min_7cf53 2 := ⟨q_mm 493 (by decide +kernel) (by decide +kernel), q_mm 46 (by decide +kernel) (by decide +kernel), by decide +kernel, by decide⟩
set_option maxRecDepth 20000 in
theorem m_X7_divideUpwards : q_mt FX7_divideUpwards 2 := ⟨q_mm 497 (by decide +kernel) (by decide +kernel), q_mm 33 (by decide +kernel) (by decide +kernel), by decide +kernel, by decide⟩
set_option maxRecDepth 20000 in
theorem m_X3_runStage : q_mt FX3_runStage 2 := ⟨q_mm 501 (by decide +kernel) (by decide +kernel), q_mm 38 (by decide +kernel) (by decide +kernel), by decide +kernel, by decide⟩
set_option maxRecDepth 20000 in
theorem m_X3_rank : q_mt FX3_rank 2 := ⟨q_mm 505 (by decide +kernel) (by decide +kernel), q_mm 38 (by decide +kernel) (by decide +kernel), by decide +kernel, by decide⟩
set_option maxRecDepth 20000 in
theorem m_X3_isAhead : q_mt FX3_isAhead 3 := ⟨q_mm 509 (by decide +kernel) (by decide +kernel), q_mm 38 (by decide +kernel) (by decide +kernel), by decide +kernel, by decide⟩
set_option maxRecDepth 20000 in
theorem m_X3_tellPlaces : q_mt FX3_tellPlaces 1 := ⟨q_mm 513 (by decide +kernel) (by decide +kernel), q_mm 38 (by decide +kernel) (by decide +kernel), by decide +kernel, by decide⟩
set_option maxRecDepth 20000 in
theorem m_X2_plan : q_mt FX2_plan 3 := ⟨q_mm 517 (by decide +kernel) (by decide +kernel), q_mm 39 (by decide +kernel) (by decide +kernel), by decide +kernel, by decide⟩
set_option maxRecDepth 20000 in
theorem m_X3_firstArrival : q_mt FX3_firstArrival 1 := ⟨q_mm 521 (by decide +kernel) (by decide +kernel), q_mm 38 (by decide +kernel) (by decide +kernel), by decide +kernel, by decide⟩
set_option maxRecDepth 20000 in
theorem m_X3_lastArrival : q_mt FX3_lastArrival 1 := ⟨q_mm 526 (by decide +kernel) (by decide +kernel), q_mm 38 (by decide +kernel) (by decide +kernel), by decide +kernel, by decide⟩
set_option maxRecDepth 20000 in
theorem m_J9_max_7cf53 : q_mt FJ9_max_7cf53 2 := ⟨q_mm 529 (by decide +kernel) (by decide +kernel), q_mm 46 (by decide +kernel) (by decide +kernel), by decide +kernel, by decide⟩
set_option maxRecDepth 20000 in
theorem m_X2_fewestSets : q_mt FX2_fewestSets 0 := ⟨q_mm 534 (by decide +kernel) (by decide +kernel), q_mm 39 (by decide +kernel) (by decide +kernel), by decide +kernel, by decide⟩
set_option maxRecDepth 20000 in
theorem m_X2_share : q_mt FX2_share 3 := ⟨q_mm 538 (by decide +kernel) (by decide +kernel), q_mm 39 (by decide +kernel) (by decide +kernel), by decide +kernel, by decide⟩
set_option maxRecDepth 20000 in
theorem m_X2_canDo : q_mt FX2_canDo 2 := ⟨q_mm 542 (by decide +kernel) (by decide +kernel), q_mm 39 (by decide +kernel) (by decide +kernel), by decide +kernel, by decide⟩
set_option maxRecDepth 20000 in
theorem m_X7_minutesFor : q_mt FX7_minutesFor 2 := ⟨q_mm 545 (by decide +kernel) (by decide +kernel), q_mm 33 (by decide +kernel) (by decide +kernel), by decide +kernel, by decide⟩
set_option maxRecDepth 20000 in
theorem m_X7_ran : q_mt FX7_ran 3 := ⟨q_mm 551 (by decide +kernel) (by decide +kernel), q_mm 33 (by decide +kernel) (by decide +kernel), by decide +kernel, by decide⟩
set_option maxRecDepth 20000 in
theorem m_X7_standing : q_mt FX7_standing 2 := ⟨q_mm 555 (by decide +kernel) (by decide +kernel), q_mm 33 (by decide +kernel) (by decide +kernel), by decide +kernel, by decide⟩
set_option maxRecDepth 20000 in
theorem m_X7_of : q_mt FX7_of 2 := ⟨q_mm 559 (by decide +kernel) (by decide +kernel), q_mm 33 (by decide +kernel) (by decide +kernel), by decide +kernel, by decide⟩
set_option maxRecDepth 20000 in
theorem m_X7_sets : q_mt FX7_sets 0 := ⟨q_mm 564 (by decide +kernel) (by decide +kernel), q_mm 33 (by decide +kernel) (by decide +kernel), by decide +kernel, by decide⟩
set_option maxRecDepth 20000 in
theorem m_X7_goes : q_mt FX7_goes 1 := ⟨q_mm 568 (by decide +kernel) (by decide +kernel), q_mm 33 (by decide +kernel) (by decide +kernel), by decide +kernel, by decide⟩
set_option maxRecDepth 20000 in
theorem m_X2_lastCampOf : q_mt FX2_lastCampOf 1 := ⟨q_mm 572 (by decide +kernel) (by decide +kernel), q_mm 39 (by decide +kernel) (by decide +kernel), by decide +kernel, by decide⟩
set_option maxRecDepth 20000 in
theorem m_X2_firstCampOf : q_mt FX2_firstCampOf 1 := ⟨q_mm 576 (by decide +kernel) (by decide +kernel), q_mm 39 (by decide +kernel) (by decide +kernel), by decide +kernel, by decide⟩
set_option maxRecDepth 20000 in
theorem m_X7_sweep : q_mt FX7_sweep 2 := ⟨q_mm 580 (by decide +kernel) (by decide +kernel), q_mm 33 (by decide +kernel) (by decide +kernel), by decide +kernel, by decide⟩
set_option maxRecDepth 20000 in
theorem m_X3_brokenDown : q_mt FX3_brokenDown 2 := ⟨q_mm 584 (by decide +kernel) (by decide +kernel), q_mm 38 (by decide +kernel) (by decide +kernel), by decide +kernel, by decide⟩
set_option maxRecDepth 20000 in
theorem m_J6_bitCount_0f7a4 : q_mt FJ6_bitCount_0f7a4 1 := ⟨q_mm 587 (by decide +kernel) (by decide +kernel), q_mm 47 (by decide +kernel) (by decide +kernel), by decide +kernel, by decide⟩
set_option maxRecDepth 20000 in
theorem m_X7_sweepersCome : q_mt FX7_sweepersCome 2 := ⟨q_mm 595 (by decide +kernel) (by decide +kernel), q_mm 33 (by decide +kernel) (by decide +kernel), by decide +kernel, by decide⟩
set_option maxRecDepth 20000 in
theorem m_X3_lastStart : q_mt FX3_lastStart 1 := ⟨q_mm 599 (by decide +kernel) (by decide +kernel), q_mm 38 (by decide +kernel) (by decide +kernel), by decide +kernel, by decide⟩
set_option maxRecDepth 20000 in
theorem m_X8_init : q_mt FX8_init 0 := ⟨q_mm 605 (by decide +kernel) (by decide +kernel), q_mm 41 (by decide +kernel) (by decide +kernel), by decide +kernel, by decide⟩
set_option maxRecDepth 20000 in
theorem m_X8_camp : q_mt FX8_camp 2 := ⟨q_mm 701 (by decide +kernel) (by decide +kernel), q_mm 41 (by decide +kernel) (by decide +kernel), by decide +kernel, by decide⟩
set_option maxRecDepth 20000 in
theorem m_X8_isCamp : q_mt FX8_isCamp 1 := ⟨q_mm 704 (by decide +kernel) (by decide +kernel), q_mm 41 (by decide +kernel) (by decide +kernel), by decide +kernel, by decide⟩
set_option maxRecDepth 20000 in
theorem m_X8_isIn : q_mt FX8_isIn 3 := ⟨q_mm 707 (by decide +kernel) (by decide +kernel), q_mm 41 (by decide +kernel) (by decide +kernel), by decide +kernel, by decide⟩
set_option maxRecDepth 20000 in
theorem m_X8_hour : q_mt FX8_hour 2 := ⟨q_mm 711 (by decide +kernel) (by decide +kernel), q_mm 41 (by decide +kernel) (by decide +kernel), by decide +kernel, by decide⟩
set_option maxRecDepth 20000 in
theorem m_X8_isStage : q_mt FX8_isStage 1 := ⟨q_mm 714 (by decide +kernel) (by decide +kernel), q_mm 41 (by decide +kernel) (by decide +kernel), by decide +kernel, by decide⟩
set_option maxRecDepth 20000 in
theorem m_X8_racer : q_mt FX8_racer 1 := ⟨q_mm 718 (by decide +kernel) (by decide +kernel), q_mm 41 (by decide +kernel) (by decide +kernel), by decide +kernel, by decide⟩
set_option maxRecDepth 20000 in
theorem m_X8_breaks : q_mt FX8_breaks 3 := ⟨q_mm 722 (by decide +kernel) (by decide +kernel), q_mm 41 (by decide +kernel) (by decide +kernel), by decide +kernel, by decide⟩
set_option maxRecDepth 20000 in
theorem m_X8_isRacer : q_mt FX8_isRacer 1 := ⟨q_mm 726 (by decide +kernel) (by decide +kernel), q_mm 41 (by decide +kernel) (by decide +kernel), by decide +kernel, by decide⟩
set_option maxRecDepth 20000 in
theorem m_X8_length : q_mt FX8_length 1 := ⟨q_mm 730 (by decide +kernel) (by decide +kernel), q_mm 41 (by decide +kernel) (by decide +kernel), by decide +kernel, by decide⟩
set_option maxRecDepth 20000 in
theorem m_X8_set : q_mt FX8_set 2 := ⟨q_mm 734 (by decide +kernel) (by decide +kernel), q_mm 41 (by decide +kernel) (by decide +kernel), by decide +kernel, by decide⟩
set_option maxRecDepth 20000 in
theorem m_X8_feed : q_mt FX8_feed 5 := ⟨q_mm 738 (by decide +kernel) (by decide +kernel), q_mm 41 (by decide +kernel) (by decide +kernel), by decide +kernel, by decide⟩
set_option maxRecDepth 20000 in
theorem m_X8_end : q_mt FX8_end 1 := ⟨q_mm 742 (by decide +kernel) (by decide +kernel), q_mm 41 (by decide +kernel) (by decide +kernel), by decide +kernel, by decide⟩
set_option maxRecDepth 20000 in
theorem m_X8_book : q_mt FX8_book 0 := ⟨q_mm 746 (by decide +kernel) (by decide +kernel), q_mm 41 (by decide +kernel) (by decide +kernel), by decide +kernel, by decide⟩
set_option maxRecDepth 20000 in
theorem m_X8_next0 : q_mt FX8_next0 0 := ⟨q_mm 750 (by decide +kernel) (by decide +kernel), q_mm 41 (by decide +kernel) (by decide +kernel), by decide +kernel, by decide⟩
set_option maxRecDepth 20000 in
theorem m_X8_see : q_mt FX8_see 1 := ⟨q_mm 754 (by decide +kernel) (by decide +kernel), q_mm 41 (by decide +kernel) (by decide +kernel), by decide +kernel, by decide⟩
set_option maxRecDepth 20000 in
theorem m_X8_isLetter : q_mt FX8_isLetter 1 := ⟨q_mm 757 (by decide +kernel) (by decide +kernel), q_mm 41 (by decide +kernel) (by decide +kernel), by decide +kernel, by decide⟩
set_option maxRecDepth 20000 in
theorem m_X8_word : q_mt FX8_word 1 := ⟨q_mm 760 (by decide +kernel) (by decide +kernel), q_mm 41 (by decide +kernel) (by decide +kernel), by decide +kernel, by decide⟩
set_option maxRecDepth 20000 in
theorem m_X8_isDigit : q_mt FX8_isDigit 1 := ⟨q_mm 767 (by decide +kernel) (by decide +kernel), q_mm 41 (by decide +kernel) (by decide +kernel), by decide +kernel, by decide⟩
set_option maxRecDepth 20000 in
theorem m_X8_aZone : q_mt FX8_aZone 0 := ⟨q_mm 771 (by decide +kernel) (by decide +kernel), q_mm 41 (by decide +kernel) (by decide +kernel), by decide +kernel, by decide⟩
set_option maxRecDepth 20000 in
theorem m_X8_need : q_mt FX8_need 1 := ⟨q_mm 775 (by decide +kernel) (by decide +kernel), q_mm 41 (by decide +kernel) (by decide +kernel), by decide +kernel, by decide⟩
set_option maxRecDepth 20000 in
theorem m_X8_bad : q_mt FX8_bad 1 := ⟨q_mm 779 (by decide +kernel) (by decide +kernel), q_mm 41 (by decide +kernel) (by decide +kernel), by decide +kernel, by decide⟩
set_option maxRecDepth 20000 in
theorem m_X8_aNumber : q_mt FX8_aNumber 2 := ⟨q_mm 783 (by decide +kernel) (by decide +kernel), q_mm 41 (by decide +kernel) (by decide +kernel), by decide +kernel, by decide⟩
set_option maxRecDepth 20000 in
theorem m_X8_all : q_mt FX8_all 0 := ⟨q_mm 787 (by decide +kernel) (by decide +kernel), q_mm 41 (by decide +kernel) (by decide +kernel), by decide +kernel, by decide⟩
set_option maxRecDepth 20000 in
theorem m_X8_fault : q_mt FX8_fault 1 := ⟨q_mm 791 (by decide +kernel) (by decide +kernel), q_mm 41 (by decide +kernel) (by decide +kernel), by decide +kernel, by decide⟩
set_option maxRecDepth 20000 in
theorem m_X8_look : q_mt FX8_look 1 := ⟨q_mm 795 (by decide +kernel) (by decide +kernel), q_mm 41 (by decide +kernel) (by decide +kernel), by decide +kernel, by decide⟩
set_option maxRecDepth 20000 in
theorem m_X8_time : q_mt FX8_time 2 := ⟨q_mm 799 (by decide +kernel) (by decide +kernel), q_mm 41 (by decide +kernel) (by decide +kernel), by decide +kernel, by decide⟩
set_option maxRecDepth 20000 in
theorem m_X8_timeOf : q_mt FX8_timeOf 2 := ⟨q_mm 803 (by decide +kernel) (by decide +kernel), q_mm 41 (by decide +kernel) (by decide +kernel), by decide +kernel, by decide⟩
set_option maxRecDepth 20000 in
theorem m_X8_lesser : q_mt FX8_lesser 2 := ⟨q_mm 806 (by decide +kernel) (by decide +kernel), q_mm 41 (by decide +kernel) (by decide +kernel), by decide +kernel, by decide⟩
set_option maxRecDepth 20000 in
theorem m_X8_ran : q_mt FX8_ran 3 := ⟨q_mm 811 (by decide +kernel) (by decide +kernel), q_mm 41 (by decide +kernel) (by decide +kernel), by decide +kernel, by decide⟩
set_option maxRecDepth 20000 in
theorem m_X8_runs : q_mt FX8_runs 0 := ⟨q_mm 815 (by decide +kernel) (by decide +kernel), q_mm 41 (by decide +kernel) (by decide +kernel), by decide +kernel, by decide⟩
set_option maxRecDepth 20000 in
theorem m_X8_comes : q_mt FX8_comes 2 := ⟨q_mm 819 (by decide +kernel) (by decide +kernel), q_mm 41 (by decide +kernel) (by decide +kernel), by decide +kernel, by decide⟩
set_option maxRecDepth 20000 in
theorem m_X8_isAhead : q_mt FX8_isAhead 3 := ⟨q_mm 823 (by decide +kernel) (by decide +kernel), q_mm 41 (by decide +kernel) (by decide +kernel), by decide +kernel, by decide⟩
set_option maxRecDepth 20000 in
theorem m_X8_standing : q_mt FX8_standing 2 := ⟨q_mm 827 (by decide +kernel) (by decide +kernel), q_mm 41 (by decide +kernel) (by decide +kernel), by decide +kernel, by decide⟩
set_option maxRecDepth 20000 in
theorem m_X8_sets : q_mt FX8_sets 0 := ⟨q_mm 831 (by decide +kernel) (by decide +kernel), q_mm 41 (by decide +kernel) (by decide +kernel), by decide +kernel, by decide⟩
set_option maxRecDepth 20000 in
theorem m_X8_finds : q_mt FX8_finds 0 := ⟨q_mm 835 (by decide +kernel) (by decide +kernel), q_mm 41 (by decide +kernel) (by decide +kernel), by decide +kernel, by decide⟩
set_option maxRecDepth 20000 in
theorem m_X8_kitchens : q_mt FX8_kitchens 0 := ⟨q_mm 839 (by decide +kernel) (by decide +kernel), q_mm 41 (by decide +kernel) (by decide +kernel), by decide +kernel, by decide⟩
set_option maxRecDepth 20000 in
theorem m_X8_tries : q_mt FX8_tries 2 := ⟨q_mm 843 (by decide +kernel) (by decide +kernel), q_mm 41 (by decide +kernel) (by decide +kernel), by decide +kernel, by decide⟩
set_option maxRecDepth 20000 in
theorem m_X8_isNeeded : q_mt FX8_isNeeded 1 := ⟨q_mm 847 (by decide +kernel) (by decide +kernel), q_mm 41 (by decide +kernel) (by decide +kernel), by decide +kernel, by decide⟩
set_option maxRecDepth 20000 in
theorem m_X8_canDo : q_mt FX8_canDo 2 := ⟨q_mm 851 (by decide +kernel) (by decide +kernel), q_mm 41 (by decide +kernel) (by decide +kernel), by decide +kernel, by decide⟩
set_option maxRecDepth 20000 in
theorem m_X8_lastOf : q_mt FX8_lastOf 2 := ⟨q_mm 855 (by decide +kernel) (by decide +kernel), q_mm 41 (by decide +kernel) (by decide +kernel), by decide +kernel, by decide⟩
set_option maxRecDepth 20000 in
theorem m_X8_between : q_mt FX8_between 2 := ⟨q_mm 859 (by decide +kernel) (by decide +kernel), q_mm 41 (by decide +kernel) (by decide +kernel), by decide +kernel, by decide⟩
set_option maxRecDepth 20000 in
theorem m_X8_goes : q_mt FX8_goes 1 := ⟨q_mm 863 (by decide +kernel) (by decide +kernel), q_mm 41 (by decide +kernel) (by decide +kernel), by decide +kernel, by decide⟩
set_option maxRecDepth 20000 in
theorem m_X8_of : q_mt FX8_of 2 := ⟨q_mm 867 (by decide +kernel) (by decide +kernel), q_mm 41 (by decide +kernel) (by decide +kernel), by decide +kernel, by decide⟩
set_option maxRecDepth 20000 in
theorem m_X8_sweep : q_mt FX8_sweep 2 := ⟨q_mm 871 (by decide +kernel) (by decide +kernel), q_mm 41 (by decide +kernel) (by decide +kernel), by decide +kernel, by decide⟩
set_option maxRecDepth 20000 in
theorem l_L_9 : Cond.methodLink RL 9 FX7_init.1 ∈ q_T ∧ FX7_init.1.name = "<init>" ∧ Cond.instanceMethod FX7_init.1 ∈ q_T ∧ FX7_init.2.2.2 = none := ⟨q_mm 50 (by decide +kernel) (by decide +kernel), rfl, q_mm 51 (by decide +kernel) (by decide +kernel), rfl⟩
set_option maxRecDepth 20000 in
theorem l_X7_11 : Cond.methodLinkNest RX7 11 FX1_init.1 "DesertTown" ∈ q_nest ∧ FX1_init.1.name = "<init>" ∧ Cond.instanceMethod FX1_init.1 ∈ q_T ∧ FX1_init.2.2.2 = none := ⟨by decide +kernel, rfl, q_mm 59 (by decide +kernel) (by decide +kernel), rfl⟩
set_option maxRecDepth 20000 in
theorem l_X7_18 : Cond.methodLinkNest RX7 18 FX4_init.1 "DesertTown" ∈ q_nest ∧ FX4_init.1.name = "<init>" ∧ Cond.instanceMethod FX4_init.1 ∈ q_T ∧ FX4_init.2.2.2 = none := ⟨by decide +kernel, rfl, q_mm 76 (by decide +kernel) (by decide +kernel), rfl⟩
set_option maxRecDepth 20000 in
theorem l_X7_25 : Cond.methodLinkNest RX7 25 FX6_init.1 "DesertTown" ∈ q_nest ∧ FX6_init.1.name = "<init>" ∧ Cond.instanceMethod FX6_init.1 ∈ q_T ∧ FX6_init.2.2.2 = none := ⟨by decide +kernel, rfl, q_mm 101 (by decide +kernel) (by decide +kernel), rfl⟩
set_option maxRecDepth 20000 in
theorem l_X7_32 : Cond.methodLinkNest RX7 32 FX0_init.1 "DesertTown" ∈ q_nest ∧ FX0_init.1.name = "<init>" ∧ Cond.instanceMethod FX0_init.1 ∈ q_T ∧ FX0_init.2.2.2 = none := ⟨by decide +kernel, rfl, q_mm 117 (by decide +kernel) (by decide +kernel), rfl⟩
set_option maxRecDepth 20000 in
theorem l_X7_39 : Cond.methodLinkNest RX7 39 FX3_init.1 "DesertTown" ∈ q_nest ∧ FX3_init.1.name = "<init>" ∧ Cond.instanceMethod FX3_init.1 ∈ q_T ∧ FX3_init.2.2.2 = none := ⟨by decide +kernel, rfl, q_mm 144 (by decide +kernel) (by decide +kernel), rfl⟩
set_option maxRecDepth 20000 in
theorem l_X7_46 : Cond.methodLinkNest RX7 46 FX2_init.1 "DesertTown" ∈ q_nest ∧ FX2_init.1.name = "<init>" ∧ Cond.instanceMethod FX2_init.1 ∈ q_T ∧ FX2_init.2.2.2 = none := ⟨by decide +kernel, rfl, q_mm 188 (by decide +kernel) (by decide +kernel), rfl⟩
set_option maxRecDepth 20000 in
theorem l_X7_57 : Cond.methodLinkNest RX7 57 FX5_init.1 "DesertTown" ∈ q_nest ∧ FX5_init.1.name = "<init>" ∧ Cond.instanceMethod FX5_init.1 ∈ q_T ∧ FX5_init.2.2.2 = none := ⟨by decide +kernel, rfl, q_mm 223 (by decide +kernel) (by decide +kernel), rfl⟩
set_option maxRecDepth 20000 in
theorem l_L_13 : Cond.methodLink RL 13 FX7_camp.1 ∈ q_T ∧ Cond.instanceMethod FX7_camp.1 ∈ q_T ∧ Cond.selects FX7_camp.1.cls FX7_camp.1 FX7_camp.1 ∈ q_T := ⟨q_mm 279 (by decide +kernel) (by decide +kernel), q_mm 280 (by decide +kernel) (by decide +kernel), q_mm 281 (by decide +kernel) (by decide +kernel)⟩
set_option maxRecDepth 20000 in
theorem l_X7_69 : Cond.methodLink RX7 69 FX7_isCamp.1 ∈ q_T ∧ Cond.static FX7_isCamp.1 ∈ q_T := ⟨q_mm 283 (by decide +kernel) (by decide +kernel), q_mm 284 (by decide +kernel) (by decide +kernel)⟩
set_option maxRecDepth 20000 in
theorem l_X7_73 : Cond.methodLink RX7 73 FX7_within.1 ∈ q_T ∧ Cond.static FX7_within.1 ∈ q_T := ⟨q_mm 286 (by decide +kernel) (by decide +kernel), q_mm 287 (by decide +kernel) (by decide +kernel)⟩
set_option maxRecDepth 20000 in
theorem l_X7_80 : Cond.methodLink RX7 80 FX4_forgetBreaksFrom.1 ∈ q_T ∧ Cond.instanceMethod FX4_forgetBreaksFrom.1 ∈ q_T ∧ Cond.selects FX4_forgetBreaksFrom.1.cls FX4_forgetBreaksFrom.1 FX4_forgetBreaksFrom.1 ∈ q_T := ⟨q_mm 289 (by decide +kernel) (by decide +kernel), q_mm 290 (by decide +kernel) (by decide +kernel), q_mm 291 (by decide +kernel) (by decide +kernel)⟩
set_option maxRecDepth 20000 in
theorem l_L_18 : Cond.methodLink RL 18 FX7_hour.1 ∈ q_T ∧ Cond.instanceMethod FX7_hour.1 ∈ q_T ∧ Cond.selects FX7_hour.1.cls FX7_hour.1 FX7_hour.1 ∈ q_T := ⟨q_mm 293 (by decide +kernel) (by decide +kernel), q_mm 294 (by decide +kernel) (by decide +kernel), q_mm 295 (by decide +kernel) (by decide +kernel)⟩
set_option maxRecDepth 20000 in
theorem l_X7_84 : Cond.methodLink RX7 84 FX7_isStage.1 ∈ q_T ∧ Cond.static FX7_isStage.1 ∈ q_T := ⟨q_mm 297 (by decide +kernel) (by decide +kernel), q_mm 298 (by decide +kernel) (by decide +kernel)⟩
set_option maxRecDepth 20000 in
theorem l_L_22 : Cond.methodLink RL 22 FX7_racer.1 ∈ q_T ∧ Cond.instanceMethod FX7_racer.1 ∈ q_T ∧ Cond.selects FX7_racer.1.cls FX7_racer.1 FX7_racer.1 ∈ q_T := ⟨q_mm 300 (by decide +kernel) (by decide +kernel), q_mm 301 (by decide +kernel) (by decide +kernel), q_mm 302 (by decide +kernel) (by decide +kernel)⟩
set_option maxRecDepth 20000 in
theorem l_X7_90 : Cond.methodLink RX7 90 FX4_add.1 ∈ q_T ∧ Cond.instanceMethod FX4_add.1 ∈ q_T ∧ Cond.selects FX4_add.1.cls FX4_add.1 FX4_add.1 ∈ q_T := ⟨q_mm 304 (by decide +kernel) (by decide +kernel), q_mm 305 (by decide +kernel) (by decide +kernel), q_mm 306 (by decide +kernel) (by decide +kernel)⟩
set_option maxRecDepth 20000 in
theorem l_L_27 : Cond.methodLink RL 27 FX7_breaks.1 ∈ q_T ∧ Cond.instanceMethod FX7_breaks.1 ∈ q_T ∧ Cond.selects FX7_breaks.1.cls FX7_breaks.1 FX7_breaks.1 ∈ q_T := ⟨q_mm 308 (by decide +kernel) (by decide +kernel), q_mm 309 (by decide +kernel) (by decide +kernel), q_mm 310 (by decide +kernel) (by decide +kernel)⟩
set_option maxRecDepth 20000 in
theorem l_X7_94 : Cond.methodLink RX7 94 FX4_has.1 ∈ q_T ∧ Cond.instanceMethod FX4_has.1 ∈ q_T ∧ Cond.selects FX4_has.1.cls FX4_has.1 FX4_has.1 ∈ q_T := ⟨q_mm 312 (by decide +kernel) (by decide +kernel), q_mm 313 (by decide +kernel) (by decide +kernel), q_mm 314 (by decide +kernel) (by decide +kernel)⟩
set_option maxRecDepth 20000 in
theorem l_X4_25 : Cond.methodLinkNest RX4 25 FX7_within.1 "DesertTown" ∈ q_nest ∧ Cond.static FX7_within.1 ∈ q_T := ⟨by decide +kernel, q_mm 287 (by decide +kernel) (by decide +kernel)⟩
set_option maxRecDepth 20000 in
theorem l_L_32 : Cond.methodLink RL 32 FX7_set.1 ∈ q_T ∧ Cond.instanceMethod FX7_set.1 ∈ q_T ∧ Cond.selects FX7_set.1.cls FX7_set.1 FX7_set.1 ∈ q_T := ⟨q_mm 317 (by decide +kernel) (by decide +kernel), q_mm 318 (by decide +kernel) (by decide +kernel), q_mm 319 (by decide +kernel) (by decide +kernel)⟩
set_option maxRecDepth 20000 in
theorem l_L_36 : Cond.methodLink RL 36 FX7_feed.1 ∈ q_T ∧ Cond.instanceMethod FX7_feed.1 ∈ q_T ∧ Cond.selects FX7_feed.1.cls FX7_feed.1 FX7_feed.1 ∈ q_T := ⟨q_mm 325 (by decide +kernel) (by decide +kernel), q_mm 326 (by decide +kernel) (by decide +kernel), q_mm 327 (by decide +kernel) (by decide +kernel)⟩
set_option maxRecDepth 20000 in
theorem l_X7_113 : Cond.methodLink RX7 113 FX6_append.1 ∈ q_T ∧ Cond.instanceMethod FX6_append.1 ∈ q_T ∧ Cond.selects FX6_append.1.cls FX6_append.1 FX6_append.1 ∈ q_T := ⟨q_mm 329 (by decide +kernel) (by decide +kernel), q_mm 330 (by decide +kernel) (by decide +kernel), q_mm 331 (by decide +kernel) (by decide +kernel)⟩
set_option maxRecDepth 20000 in
theorem l_L_41 : Cond.methodLink RL 41 FX7_end.1 ∈ q_T ∧ Cond.instanceMethod FX7_end.1 ∈ q_T ∧ Cond.selects FX7_end.1.cls FX7_end.1 FX7_end.1 ∈ q_T := ⟨q_mm 333 (by decide +kernel) (by decide +kernel), q_mm 334 (by decide +kernel) (by decide +kernel), q_mm 335 (by decide +kernel) (by decide +kernel)⟩
set_option maxRecDepth 20000 in
theorem l_L_46 : Cond.methodLink RL 46 FX7_book.1 ∈ q_T ∧ Cond.instanceMethod FX7_book.1 ∈ q_T ∧ Cond.selects FX7_book.1.cls FX7_book.1 FX7_book.1 ∈ q_T := ⟨q_mm 337 (by decide +kernel) (by decide +kernel), q_mm 338 (by decide +kernel) (by decide +kernel), q_mm 339 (by decide +kernel) (by decide +kernel)⟩
set_option maxRecDepth 20000 in
theorem l_X7_117 : Cond.methodLink RX7 117 FX0_read.1 ∈ q_T ∧ Cond.instanceMethod FX0_read.1 ∈ q_T ∧ Cond.selects FX0_read.1.cls FX0_read.1 FX0_read.1 ∈ q_T := ⟨q_mm 341 (by decide +kernel) (by decide +kernel), q_mm 342 (by decide +kernel) (by decide +kernel), q_mm 343 (by decide +kernel) (by decide +kernel)⟩
set_option maxRecDepth 20000 in
theorem l_X0_15 : Cond.methodLink RX0 15 FX5_clear.1 ∈ q_T ∧ Cond.instanceMethod FX5_clear.1 ∈ q_T ∧ Cond.selects FX5_clear.1.cls FX5_clear.1 FX5_clear.1 ∈ q_T := ⟨q_mm 345 (by decide +kernel) (by decide +kernel), q_mm 346 (by decide +kernel) (by decide +kernel), q_mm 347 (by decide +kernel) (by decide +kernel)⟩
set_option maxRecDepth 20000 in
theorem l_X0_23 : Cond.methodLink RX0 23 FX0_behindBlanks.1 ∈ q_T ∧ Cond.static FX0_behindBlanks.1 ∈ q_T := ⟨q_mm 349 (by decide +kernel) (by decide +kernel), q_mm 350 (by decide +kernel) (by decide +kernel)⟩
set_option maxRecDepth 20000 in
theorem l_X0_39 : Cond.methodLink RX0 39 FX6_byteAt.1 ∈ q_T ∧ Cond.instanceMethod FX6_byteAt.1 ∈ q_T ∧ Cond.selects FX6_byteAt.1.cls FX6_byteAt.1 FX6_byteAt.1 ∈ q_T := ⟨q_mm 352 (by decide +kernel) (by decide +kernel), q_mm 353 (by decide +kernel) (by decide +kernel), q_mm 354 (by decide +kernel) (by decide +kernel)⟩
set_option maxRecDepth 20000 in
theorem l_X6_19 : Cond.methodLinkNest RX6 19 FX7_within.1 "DesertTown" ∈ q_nest ∧ Cond.static FX7_within.1 ∈ q_T := ⟨by decide +kernel, q_mm 287 (by decide +kernel) (by decide +kernel)⟩
set_option maxRecDepth 20000 in
theorem l_X0_95 : Cond.methodLink RX0 95 FX0_isBlank.1 ∈ q_T ∧ Cond.static FX0_isBlank.1 ∈ q_T := ⟨q_mm 357 (by decide +kernel) (by decide +kernel), q_mm 358 (by decide +kernel) (by decide +kernel)⟩
set_option maxRecDepth 20000 in
theorem l_X0_32 : Cond.methodLink RX0 32 FX0_behindToken.1 ∈ q_T ∧ Cond.static FX0_behindToken.1 ∈ q_T := ⟨q_mm 360 (by decide +kernel) (by decide +kernel), q_mm 361 (by decide +kernel) (by decide +kernel)⟩
set_option maxRecDepth 20000 in
theorem l_X0_98 : Cond.methodLink RX0 98 FX0_isLetter.1 ∈ q_T ∧ Cond.static FX0_isLetter.1 ∈ q_T := ⟨q_mm 363 (by decide +kernel) (by decide +kernel), q_mm 364 (by decide +kernel) (by decide +kernel)⟩
set_option maxRecDepth 20000 in
theorem l_X0_85 : Cond.methodLinkNest RX0 85 FX7_within.1 "DesertTown" ∈ q_nest ∧ Cond.static FX7_within.1 ∈ q_T := ⟨by decide +kernel, q_mm 287 (by decide +kernel) (by decide +kernel)⟩
set_option maxRecDepth 20000 in
theorem l_X0_101 : Cond.methodLink RX0 101 FX0_isDigit.1 ∈ q_T ∧ Cond.static FX0_isDigit.1 ∈ q_T := ⟨q_mm 367 (by decide +kernel) (by decide +kernel), q_mm 368 (by decide +kernel) (by decide +kernel)⟩
set_option maxRecDepth 20000 in
theorem l_X0_35 : Cond.methodLink RX0 35 FX0_faultOf.1 ∈ q_T ∧ Cond.instanceMethod FX0_faultOf.1 ∈ q_T ∧ Cond.selects FX0_faultOf.1.cls FX0_faultOf.1 FX0_faultOf.1 ∈ q_T := ⟨q_mm 370 (by decide +kernel) (by decide +kernel), q_mm 372 (by decide +kernel) (by decide +kernel), q_mm 0 (by decide +kernel) (by decide +kernel)⟩
set_option maxRecDepth 20000 in
theorem l_X0_55 : Cond.methodLink RX0 55 FX5_add.1 ∈ q_T ∧ Cond.instanceMethod FX5_add.1 ∈ q_T ∧ Cond.selects FX5_add.1.cls FX5_add.1 FX5_add.1 ∈ q_T := ⟨q_mm 374 (by decide +kernel) (by decide +kernel), q_mm 375 (by decide +kernel) (by decide +kernel), q_mm 376 (by decide +kernel) (by decide +kernel)⟩
set_option maxRecDepth 20000 in
theorem l_X5_38 : Cond.methodLink RX5 38 FX5_isFull.1 ∈ q_T ∧ Cond.instanceMethod FX5_isFull.1 ∈ q_T ∧ Cond.selects FX5_isFull.1.cls FX5_isFull.1 FX5_isFull.1 ∈ q_T := ⟨q_mm 378 (by decide +kernel) (by decide +kernel), q_mm 379 (by decide +kernel) (by decide +kernel), q_mm 380 (by decide +kernel) (by decide +kernel)⟩
set_option maxRecDepth 20000 in
theorem l_X5_30 : Cond.methodLinkNest RX5 30 FX7_isStage.1 "DesertTown" ∈ q_nest ∧ Cond.static FX7_isStage.1 ∈ q_T := ⟨by decide +kernel, q_mm 298 (by decide +kernel) (by decide +kernel)⟩
set_option maxRecDepth 20000 in
theorem l_X0_59 : Cond.methodLink RX0 59 FX0_keywordOf.1 ∈ q_T ∧ Cond.static FX0_keywordOf.1 ∈ q_T := ⟨q_mm 383 (by decide +kernel) (by decide +kernel), q_mm 384 (by decide +kernel) (by decide +kernel)⟩
set_option maxRecDepth 20000 in
theorem l_X0_63 : Cond.methodLink RX0 63 FX0_isWord.1 ∈ q_T ∧ Cond.static FX0_isWord.1 ∈ q_T := ⟨q_mm 390 (by decide +kernel) (by decide +kernel), q_mm 391 (by decide +kernel) (by decide +kernel)⟩
set_option maxRecDepth 20000 in
theorem l_X0_104 : Cond.methodLink RX0 104 FJ0_length_8abf5.1 ∈ q_T ∧ Cond.instanceMethod FJ0_length_8abf5.1 ∈ q_T ∧ Cond.selects FJ0_length_8abf5.1.cls FJ0_length_8abf5.1 FJ0_length_8abf5.1 ∈ q_T := ⟨q_mm 393 (by decide +kernel) (by decide +kernel), q_mm 394 (by decide +kernel) (by decide +kernel), q_mm 395 (by decide +kernel) (by decide +kernel)⟩
set_option maxRecDepth 20000 in
theorem l_J0_335 : Cond.methodLink RJ0 335 FJ0_coder_7d493.1 ∈ q_T ∧ Cond.instanceMethod FJ0_coder_7d493.1 ∈ q_T ∧ Cond.selects FJ0_coder_7d493.1.cls FJ0_coder_7d493.1 FJ0_coder_7d493.1 ∈ q_T := ⟨q_mm 397 (by decide +kernel) (by decide +kernel), q_mm 398 (by decide +kernel) (by decide +kernel), q_mm 399 (by decide +kernel) (by decide +kernel)⟩
set_option maxRecDepth 20000 in
theorem l_X0_109 : Cond.methodLink RX0 109 FJ0_charAt_5068e.1 ∈ q_T ∧ Cond.instanceMethod FJ0_charAt_5068e.1 ∈ q_T ∧ Cond.selects FJ0_charAt_5068e.1.cls FJ0_charAt_5068e.1 FJ0_charAt_5068e.1 ∈ q_T := ⟨q_mm 403 (by decide +kernel) (by decide +kernel), q_mm 404 (by decide +kernel) (by decide +kernel), q_mm 405 (by decide +kernel) (by decide +kernel)⟩
set_option maxRecDepth 20000 in
theorem l_J0_492 : Cond.methodLink RJ0 492 FJ0_isLatin1_aae02.1 ∈ q_T ∧ Cond.instanceMethod FJ0_isLatin1_aae02.1 ∈ q_T ∧ Cond.selects FJ0_isLatin1_aae02.1.cls FJ0_isLatin1_aae02.1 FJ0_isLatin1_aae02.1 ∈ q_T := ⟨q_mm 407 (by decide +kernel) (by decide +kernel), q_mm 408 (by decide +kernel) (by decide +kernel), q_mm 409 (by decide +kernel) (by decide +kernel)⟩
set_option maxRecDepth 20000 in
theorem l_J0_495 : Cond.methodLink RJ0 495 FJ1_charAt_3b067.1 ∈ q_T ∧ Cond.static FJ1_charAt_3b067.1 ∈ q_T := ⟨q_mm 411 (by decide +kernel) (by decide +kernel), q_mm 412 (by decide +kernel) (by decide +kernel)⟩
set_option maxRecDepth 20000 in
theorem l_J1_9 : Cond.methodLink RJ1 9 FJ0_checkIndex_df160.1 ∈ q_T ∧ Cond.static FJ0_checkIndex_df160.1 ∈ q_T := ⟨q_mm 414 (by decide +kernel) (by decide +kernel), q_mm 415 (by decide +kernel) (by decide +kernel)⟩
set_option maxRecDepth 20000 in
theorem l_J0_1059 : Cond.methodLink RJ0 1059 FJ3_checkIndex_8e157.1 ∈ q_T ∧ Cond.static FJ3_checkIndex_8e157.1 ∈ q_T := ⟨q_mm 419 (by decide +kernel) (by decide +kernel), q_mm 420 (by decide +kernel) (by decide +kernel)⟩
set_option maxRecDepth 20000 in
theorem l_J0_498 : Cond.methodLink RJ0 498 FJ2_charAt_3b067.1 ∈ q_T ∧ Cond.static FJ2_charAt_3b067.1 ∈ q_T := ⟨q_mm 422 (by decide +kernel) (by decide +kernel), q_mm 423 (by decide +kernel) (by decide +kernel)⟩
set_option maxRecDepth 20000 in
theorem l_J2_67 : Cond.methodLink RJ2 67 FJ2_checkIndex_2214a.1 ∈ q_T ∧ Cond.static FJ2_checkIndex_2214a.1 ∈ q_T := ⟨q_mm 425 (by decide +kernel) (by decide +kernel), q_mm 426 (by decide +kernel) (by decide +kernel)⟩
set_option maxRecDepth 20000 in
theorem l_J2_48 : Cond.methodLink RJ2 48 FJ2_length_9d52b.1 ∈ q_T ∧ Cond.static FJ2_length_9d52b.1 ∈ q_T := ⟨q_mm 428 (by decide +kernel) (by decide +kernel), q_mm 429 (by decide +kernel) (by decide +kernel)⟩
set_option maxRecDepth 20000 in
theorem l_J2_414 : Cond.methodLink RJ2 414 FJ0_checkIndex_df160.1 ∈ q_T ∧ Cond.static FJ0_checkIndex_df160.1 ∈ q_T := ⟨q_mm 431 (by decide +kernel) (by decide +kernel), q_mm 415 (by decide +kernel) (by decide +kernel)⟩
set_option maxRecDepth 20000 in
theorem l_J2_71 : Cond.methodLink RJ2 71 FJ2_getChar_3b067.1 ∈ q_T ∧ Cond.static FJ2_getChar_3b067.1 ∈ q_T := ⟨q_mm 432 (by decide +kernel) (by decide +kernel), q_mm 433 (by decide +kernel) (by decide +kernel)⟩
set_option maxRecDepth 20000 in
theorem l_X0_67 : Cond.methodLink RX0 67 FX0_numberOf.1 ∈ q_T ∧ Cond.static FX0_numberOf.1 ∈ q_T := ⟨q_mm 441 (by decide +kernel) (by decide +kernel), q_mm 442 (by decide +kernel) (by decide +kernel)⟩
set_option maxRecDepth 20000 in
theorem l_X0_71 : Cond.methodLink RX0 71 FX0_faultOfNumber.1 ∈ q_T ∧ Cond.instanceMethod FX0_faultOfNumber.1 ∈ q_T ∧ Cond.selects FX0_faultOfNumber.1.cls FX0_faultOfNumber.1 FX0_faultOfNumber.1 ∈ q_T := ⟨q_mm 444 (by decide +kernel) (by decide +kernel), q_mm 446 (by decide +kernel) (by decide +kernel), q_mm 1 (by decide +kernel) (by decide +kernel)⟩
set_option maxRecDepth 20000 in
theorem l_X0_75 : Cond.methodLinkNest RX0 75 FX7_isStage.1 "DesertTown" ∈ q_nest ∧ Cond.static FX7_isStage.1 ∈ q_T := ⟨by decide +kernel, q_mm 298 (by decide +kernel) (by decide +kernel)⟩
set_option maxRecDepth 20000 in
theorem l_X0_79 : Cond.methodLink RX0 79 FX5_isFull.1 ∈ q_T ∧ Cond.instanceMethod FX5_isFull.1 ∈ q_T ∧ Cond.selects FX5_isFull.1.cls FX5_isFull.1 FX5_isFull.1 ∈ q_T := ⟨q_mm 449 (by decide +kernel) (by decide +kernel), q_mm 379 (by decide +kernel) (by decide +kernel), q_mm 380 (by decide +kernel) (by decide +kernel)⟩
set_option maxRecDepth 20000 in
theorem l_X0_82 : Cond.methodLink RX0 82 FX5_reach.1 ∈ q_T ∧ Cond.instanceMethod FX5_reach.1 ∈ q_T ∧ Cond.selects FX5_reach.1.cls FX5_reach.1 FX5_reach.1 ∈ q_T := ⟨q_mm 450 (by decide +kernel) (by decide +kernel), q_mm 451 (by decide +kernel) (by decide +kernel), q_mm 452 (by decide +kernel) (by decide +kernel)⟩
set_option maxRecDepth 20000 in
theorem l_X5_34 : Cond.methodLinkNest RX5 34 FX7_within.1 "DesertTown" ∈ q_nest ∧ Cond.static FX7_within.1 ∈ q_T := ⟨by decide +kernel, q_mm 287 (by decide +kernel) (by decide +kernel)⟩
set_option maxRecDepth 20000 in
theorem l_L_51 : Cond.methodLink RL 51 FX7_fault.1 ∈ q_T ∧ Cond.instanceMethod FX7_fault.1 ∈ q_T ∧ Cond.selects FX7_fault.1.cls FX7_fault.1 FX7_fault.1 ∈ q_T := ⟨q_mm 455 (by decide +kernel) (by decide +kernel), q_mm 456 (by decide +kernel) (by decide +kernel), q_mm 457 (by decide +kernel) (by decide +kernel)⟩
set_option maxRecDepth 20000 in
theorem l_L_55 : Cond.methodLink RL 55 FX7_look.1 ∈ q_T ∧ Cond.instanceMethod FX7_look.1 ∈ q_T ∧ Cond.selects FX7_look.1.cls FX7_look.1 FX7_look.1 ∈ q_T := ⟨q_mm 459 (by decide +kernel) (by decide +kernel), q_mm 460 (by decide +kernel) (by decide +kernel), q_mm 461 (by decide +kernel) (by decide +kernel)⟩
set_option maxRecDepth 20000 in
theorem l_X7_133 : Cond.methodLink RX7 133 FX1_kilometerOf.1 ∈ q_T ∧ Cond.instanceMethod FX1_kilometerOf.1 ∈ q_T ∧ Cond.selects FX1_kilometerOf.1.cls FX1_kilometerOf.1 FX1_kilometerOf.1 ∈ q_T := ⟨q_mm 463 (by decide +kernel) (by decide +kernel), q_mm 464 (by decide +kernel) (by decide +kernel), q_mm 465 (by decide +kernel) (by decide +kernel)⟩
set_option maxRecDepth 20000 in
theorem l_L_59 : Cond.methodLink RL 59 FX7_time.1 ∈ q_T ∧ Cond.instanceMethod FX7_time.1 ∈ q_T ∧ Cond.selects FX7_time.1.cls FX7_time.1 FX7_time.1 ∈ q_T := ⟨q_mm 467 (by decide +kernel) (by decide +kernel), q_mm 468 (by decide +kernel) (by decide +kernel), q_mm 469 (by decide +kernel) (by decide +kernel)⟩
set_option maxRecDepth 20000 in
theorem l_X7_136 : Cond.methodLink RX7 136 FX7_settle.1 ∈ q_T ∧ Cond.instanceMethod FX7_settle.1 ∈ q_T ∧ Cond.selects FX7_settle.1.cls FX7_settle.1 FX7_settle.1 ∈ q_T := ⟨q_mm 471 (by decide +kernel) (by decide +kernel), q_mm 473 (by decide +kernel) (by decide +kernel), q_mm 2 (by decide +kernel) (by decide +kernel)⟩
set_option maxRecDepth 20000 in
theorem l_X7_206 : Cond.methodLink RX7 206 FX3_run.1 ∈ q_T ∧ Cond.instanceMethod FX3_run.1 ∈ q_T ∧ Cond.selects FX3_run.1.cls FX3_run.1 FX3_run.1 ∈ q_T := ⟨q_mm 475 (by decide +kernel) (by decide +kernel), q_mm 476 (by decide +kernel) (by decide +kernel), q_mm 477 (by decide +kernel) (by decide +kernel)⟩
set_option maxRecDepth 20000 in
theorem l_X3_41 : Cond.methodLink RX3 41 FX3_forget.1 ∈ q_T ∧ Cond.instanceMethod FX3_forget.1 ∈ q_T ∧ Cond.selects FX3_forget.1.cls FX3_forget.1 FX3_forget.1 ∈ q_T := ⟨q_mm 479 (by decide +kernel) (by decide +kernel), q_mm 481 (by decide +kernel) (by decide +kernel), q_mm 3 (by decide +kernel) (by decide +kernel)⟩
set_option maxRecDepth 20000 in
theorem l_X3_45 : Cond.methodLink RX3 45 FX1_begins.1 ∈ q_T ∧ Cond.instanceMethod FX1_begins.1 ∈ q_T ∧ Cond.selects FX1_begins.1.cls FX1_begins.1 FX1_begins.1 ∈ q_T := ⟨q_mm 483 (by decide +kernel) (by decide +kernel), q_mm 484 (by decide +kernel) (by decide +kernel), q_mm 485 (by decide +kernel) (by decide +kernel)⟩
set_option maxRecDepth 20000 in
theorem l_X1_18 : Cond.methodLinkNest RX1 18 FX7_isStage.1 "DesertTown" ∈ q_nest ∧ Cond.static FX7_isStage.1 ∈ q_T := ⟨by decide +kernel, q_mm 298 (by decide +kernel) (by decide +kernel)⟩
set_option maxRecDepth 20000 in
theorem l_X3_62 : Cond.methodLink RX3 62 FX3_timeFor.1 ∈ q_T ∧ Cond.static FX3_timeFor.1 ∈ q_T := ⟨q_mm 488 (by decide +kernel) (by decide +kernel), q_mm 489 (by decide +kernel) (by decide +kernel)⟩
set_option maxRecDepth 20000 in
theorem l_X3_80 : Cond.methodLink RX3 80 FJ9_min_7cf53.1 ∈ q_T ∧ Cond.static FJ9_min_7cf53.1 ∈ q_T := ⟨q_mm 491 (by decide +kernel) (by decide +kernel), q_mm 492 (by decide +kernel) (by decide +kernel)⟩
set_option maxRecDepth 20000 in
theorem l_X3_112 : Cond.methodLinkNest RX3 112 FX7_divideUpwards.1 "DesertTown" ∈ q_nest ∧ Cond.static FX7_divideUpwards.1 ∈ q_T := ⟨by decide +kernel, q_mm 496 (by decide +kernel) (by decide +kernel)⟩
set_option maxRecDepth 20000 in
theorem l_X3_66 : Cond.methodLink RX3 66 FX3_runStage.1 ∈ q_T ∧ Cond.instanceMethod FX3_runStage.1 ∈ q_T ∧ Cond.selects FX3_runStage.1.cls FX3_runStage.1 FX3_runStage.1 ∈ q_T := ⟨q_mm 498 (by decide +kernel) (by decide +kernel), q_mm 500 (by decide +kernel) (by decide +kernel), q_mm 4 (by decide +kernel) (by decide +kernel)⟩
set_option maxRecDepth 20000 in
theorem l_X3_89 : Cond.methodLink RX3 89 FX3_rank.1 ∈ q_T ∧ Cond.instanceMethod FX3_rank.1 ∈ q_T ∧ Cond.selects FX3_rank.1.cls FX3_rank.1 FX3_rank.1 ∈ q_T := ⟨q_mm 502 (by decide +kernel) (by decide +kernel), q_mm 504 (by decide +kernel) (by decide +kernel), q_mm 5 (by decide +kernel) (by decide +kernel)⟩
set_option maxRecDepth 20000 in
theorem l_X3_93 : Cond.methodLink RX3 93 FX3_isAhead.1 ∈ q_T ∧ Cond.instanceMethod FX3_isAhead.1 ∈ q_T ∧ Cond.selects FX3_isAhead.1.cls FX3_isAhead.1 FX3_isAhead.1 ∈ q_T := ⟨q_mm 506 (by decide +kernel) (by decide +kernel), q_mm 508 (by decide +kernel) (by decide +kernel), q_mm 6 (by decide +kernel) (by decide +kernel)⟩
set_option maxRecDepth 20000 in
theorem l_X3_70 : Cond.methodLink RX3 70 FX3_tellPlaces.1 ∈ q_T ∧ Cond.instanceMethod FX3_tellPlaces.1 ∈ q_T ∧ Cond.selects FX3_tellPlaces.1.cls FX3_tellPlaces.1 FX3_tellPlaces.1 ∈ q_T := ⟨q_mm 510 (by decide +kernel) (by decide +kernel), q_mm 512 (by decide +kernel) (by decide +kernel), q_mm 7 (by decide +kernel) (by decide +kernel)⟩
set_option maxRecDepth 20000 in
theorem l_X7_210 : Cond.methodLink RX7 210 FX2_plan.1 ∈ q_T ∧ Cond.instanceMethod FX2_plan.1 ∈ q_T ∧ Cond.selects FX2_plan.1.cls FX2_plan.1 FX2_plan.1 ∈ q_T := ⟨q_mm 514 (by decide +kernel) (by decide +kernel), q_mm 515 (by decide +kernel) (by decide +kernel), q_mm 516 (by decide +kernel) (by decide +kernel)⟩
set_option maxRecDepth 20000 in
theorem l_X2_39 : Cond.methodLink RX2 39 FX3_firstArrival.1 ∈ q_T ∧ Cond.instanceMethod FX3_firstArrival.1 ∈ q_T ∧ Cond.selects FX3_firstArrival.1.cls FX3_firstArrival.1 FX3_firstArrival.1 ∈ q_T := ⟨q_mm 518 (by decide +kernel) (by decide +kernel), q_mm 519 (by decide +kernel) (by decide +kernel), q_mm 520 (by decide +kernel) (by decide +kernel)⟩
set_option maxRecDepth 20000 in
theorem l_X3_73 : Cond.methodLinkNest RX3 73 FX7_isStage.1 "DesertTown" ∈ q_nest ∧ Cond.static FX7_isStage.1 ∈ q_T := ⟨by decide +kernel, q_mm 298 (by decide +kernel) (by decide +kernel)⟩
set_option maxRecDepth 20000 in
theorem l_X2_43 : Cond.methodLink RX2 43 FX3_lastArrival.1 ∈ q_T ∧ Cond.instanceMethod FX3_lastArrival.1 ∈ q_T ∧ Cond.selects FX3_lastArrival.1.cls FX3_lastArrival.1 FX3_lastArrival.1 ∈ q_T := ⟨q_mm 523 (by decide +kernel) (by decide +kernel), q_mm 524 (by decide +kernel) (by decide +kernel), q_mm 525 (by decide +kernel) (by decide +kernel)⟩
set_option maxRecDepth 20000 in
theorem l_X3_86 : Cond.methodLink RX3 86 FJ9_max_7cf53.1 ∈ q_T ∧ Cond.static FJ9_max_7cf53.1 ∈ q_T := ⟨q_mm 527 (by decide +kernel) (by decide +kernel), q_mm 528 (by decide +kernel) (by decide +kernel)⟩
set_option maxRecDepth 20000 in
theorem l_X2_46 : Cond.methodLink RX2 46 FX1_kilometerOf.1 ∈ q_T ∧ Cond.instanceMethod FX1_kilometerOf.1 ∈ q_T ∧ Cond.selects FX1_kilometerOf.1.cls FX1_kilometerOf.1 FX1_kilometerOf.1 ∈ q_T := ⟨q_mm 530 (by decide +kernel) (by decide +kernel), q_mm 464 (by decide +kernel) (by decide +kernel), q_mm 465 (by decide +kernel) (by decide +kernel)⟩
set_option maxRecDepth 20000 in
theorem l_X2_51 : Cond.methodLink RX2 51 FX2_fewestSets.1 ∈ q_T ∧ Cond.instanceMethod FX2_fewestSets.1 ∈ q_T ∧ Cond.selects FX2_fewestSets.1.cls FX2_fewestSets.1 FX2_fewestSets.1 ∈ q_T := ⟨q_mm 531 (by decide +kernel) (by decide +kernel), q_mm 533 (by decide +kernel) (by decide +kernel), q_mm 8 (by decide +kernel) (by decide +kernel)⟩
set_option maxRecDepth 20000 in
theorem l_X2_58 : Cond.methodLink RX2 58 FX2_share.1 ∈ q_T ∧ Cond.instanceMethod FX2_share.1 ∈ q_T ∧ Cond.selects FX2_share.1.cls FX2_share.1 FX2_share.1 ∈ q_T := ⟨q_mm 535 (by decide +kernel) (by decide +kernel), q_mm 537 (by decide +kernel) (by decide +kernel), q_mm 9 (by decide +kernel) (by decide +kernel)⟩
set_option maxRecDepth 20000 in
theorem l_X2_62 : Cond.methodLink RX2 62 FX2_canDo.1 ∈ q_T ∧ Cond.instanceMethod FX2_canDo.1 ∈ q_T ∧ Cond.selects FX2_canDo.1.cls FX2_canDo.1 FX2_canDo.1 ∈ q_T := ⟨q_mm 539 (by decide +kernel) (by decide +kernel), q_mm 541 (by decide +kernel) (by decide +kernel), q_mm 10 (by decide +kernel) (by decide +kernel)⟩
set_option maxRecDepth 20000 in
theorem l_X2_66 : Cond.methodLinkNest RX2 66 FX7_minutesFor.1 "DesertTown" ∈ q_nest ∧ Cond.static FX7_minutesFor.1 ∈ q_T := ⟨by decide +kernel, q_mm 544 (by decide +kernel) (by decide +kernel)⟩
set_option maxRecDepth 20000 in
theorem l_X7_172 : Cond.methodLink RX7 172 FX7_divideUpwards.1 ∈ q_T ∧ Cond.static FX7_divideUpwards.1 ∈ q_T := ⟨q_mm 547 (by decide +kernel) (by decide +kernel), q_mm 496 (by decide +kernel) (by decide +kernel)⟩
set_option maxRecDepth 20000 in
theorem l_L_64 : Cond.methodLink RL 64 FX7_ran.1 ∈ q_T ∧ Cond.instanceMethod FX7_ran.1 ∈ q_T ∧ Cond.selects FX7_ran.1.cls FX7_ran.1 FX7_ran.1 ∈ q_T := ⟨q_mm 548 (by decide +kernel) (by decide +kernel), q_mm 549 (by decide +kernel) (by decide +kernel), q_mm 550 (by decide +kernel) (by decide +kernel)⟩
set_option maxRecDepth 20000 in
theorem l_L_69 : Cond.methodLink RL 69 FX7_standing.1 ∈ q_T ∧ Cond.instanceMethod FX7_standing.1 ∈ q_T ∧ Cond.selects FX7_standing.1.cls FX7_standing.1 FX7_standing.1 ∈ q_T := ⟨q_mm 552 (by decide +kernel) (by decide +kernel), q_mm 553 (by decide +kernel) (by decide +kernel), q_mm 554 (by decide +kernel) (by decide +kernel)⟩
set_option maxRecDepth 20000 in
theorem l_L_73 : Cond.methodLink RL 73 FX7_of.1 ∈ q_T ∧ Cond.instanceMethod FX7_of.1 ∈ q_T ∧ Cond.selects FX7_of.1.cls FX7_of.1 FX7_of.1 ∈ q_T := ⟨q_mm 556 (by decide +kernel) (by decide +kernel), q_mm 557 (by decide +kernel) (by decide +kernel), q_mm 558 (by decide +kernel) (by decide +kernel)⟩
set_option maxRecDepth 20000 in
theorem l_L_77 : Cond.methodLink RL 77 FX7_sets.1 ∈ q_T ∧ Cond.instanceMethod FX7_sets.1 ∈ q_T ∧ Cond.selects FX7_sets.1.cls FX7_sets.1 FX7_sets.1 ∈ q_T := ⟨q_mm 561 (by decide +kernel) (by decide +kernel), q_mm 562 (by decide +kernel) (by decide +kernel), q_mm 563 (by decide +kernel) (by decide +kernel)⟩
set_option maxRecDepth 20000 in
theorem l_L_81 : Cond.methodLink RL 81 FX7_goes.1 ∈ q_T ∧ Cond.instanceMethod FX7_goes.1 ∈ q_T ∧ Cond.selects FX7_goes.1.cls FX7_goes.1 FX7_goes.1 ∈ q_T := ⟨q_mm 565 (by decide +kernel) (by decide +kernel), q_mm 566 (by decide +kernel) (by decide +kernel), q_mm 567 (by decide +kernel) (by decide +kernel)⟩
set_option maxRecDepth 20000 in
theorem l_X7_179 : Cond.methodLink RX7 179 FX2_lastCampOf.1 ∈ q_T ∧ Cond.instanceMethod FX2_lastCampOf.1 ∈ q_T ∧ Cond.selects FX2_lastCampOf.1.cls FX2_lastCampOf.1 FX2_lastCampOf.1 ∈ q_T := ⟨q_mm 569 (by decide +kernel) (by decide +kernel), q_mm 570 (by decide +kernel) (by decide +kernel), q_mm 571 (by decide +kernel) (by decide +kernel)⟩
set_option maxRecDepth 20000 in
theorem l_X7_182 : Cond.methodLink RX7 182 FX2_firstCampOf.1 ∈ q_T ∧ Cond.instanceMethod FX2_firstCampOf.1 ∈ q_T ∧ Cond.selects FX2_firstCampOf.1.cls FX2_firstCampOf.1 FX2_firstCampOf.1 ∈ q_T := ⟨q_mm 573 (by decide +kernel) (by decide +kernel), q_mm 574 (by decide +kernel) (by decide +kernel), q_mm 575 (by decide +kernel) (by decide +kernel)⟩
set_option maxRecDepth 20000 in
theorem l_L_85 : Cond.methodLink RL 85 FX7_sweep.1 ∈ q_T ∧ Cond.instanceMethod FX7_sweep.1 ∈ q_T ∧ Cond.selects FX7_sweep.1.cls FX7_sweep.1 FX7_sweep.1 ∈ q_T := ⟨q_mm 577 (by decide +kernel) (by decide +kernel), q_mm 578 (by decide +kernel) (by decide +kernel), q_mm 579 (by decide +kernel) (by decide +kernel)⟩
set_option maxRecDepth 20000 in
theorem l_X7_185 : Cond.methodLink RX7 185 FX3_brokenDown.1 ∈ q_T ∧ Cond.instanceMethod FX3_brokenDown.1 ∈ q_T ∧ Cond.selects FX3_brokenDown.1.cls FX3_brokenDown.1 FX3_brokenDown.1 ∈ q_T := ⟨q_mm 581 (by decide +kernel) (by decide +kernel), q_mm 582 (by decide +kernel) (by decide +kernel), q_mm 583 (by decide +kernel) (by decide +kernel)⟩
set_option maxRecDepth 20000 in
theorem l_X7_189 : Cond.methodLink RX7 189 FJ6_bitCount_0f7a4.1 ∈ q_T ∧ Cond.static FJ6_bitCount_0f7a4.1 ∈ q_T := ⟨q_mm 585 (by decide +kernel) (by decide +kernel), q_mm 586 (by decide +kernel) (by decide +kernel)⟩
set_option maxRecDepth 20000 in
theorem l_X7_196 : Cond.methodLink RX7 196 FX7_sweepersCome.1 ∈ q_T ∧ Cond.instanceMethod FX7_sweepersCome.1 ∈ q_T ∧ Cond.selects FX7_sweepersCome.1.cls FX7_sweepersCome.1 FX7_sweepersCome.1 ∈ q_T := ⟨q_mm 592 (by decide +kernel) (by decide +kernel), q_mm 594 (by decide +kernel) (by decide +kernel), q_mm 11 (by decide +kernel) (by decide +kernel)⟩
set_option maxRecDepth 20000 in
theorem l_X7_200 : Cond.methodLink RX7 200 FX3_lastStart.1 ∈ q_T ∧ Cond.instanceMethod FX3_lastStart.1 ∈ q_T ∧ Cond.selects FX3_lastStart.1.cls FX3_lastStart.1 FX3_lastStart.1 ∈ q_T := ⟨q_mm 596 (by decide +kernel) (by decide +kernel), q_mm 597 (by decide +kernel) (by decide +kernel), q_mm 598 (by decide +kernel) (by decide +kernel)⟩
set_option maxRecDepth 20000 in
theorem l_X7_203 : Cond.methodLink RX7 203 FX7_minutesFor.1 ∈ q_T ∧ Cond.static FX7_minutesFor.1 ∈ q_T := ⟨q_mm 600 (by decide +kernel) (by decide +kernel), q_mm 544 (by decide +kernel) (by decide +kernel)⟩
set_option maxRecDepth 20000 in
theorem l_L_12 : Cond.methodLink RL 12 FX8_init.1 ∈ q_T ∧ FX8_init.1.name = "<init>" ∧ Cond.instanceMethod FX8_init.1 ∈ q_T ∧ FX8_init.2.2.2 = none := ⟨q_mm 603 (by decide +kernel) (by decide +kernel), rfl, q_mm 604 (by decide +kernel) (by decide +kernel), rfl⟩
set_option maxRecDepth 20000 in
theorem l_L_17 : Cond.methodLink RL 17 FX8_camp.1 ∈ q_T ∧ Cond.instanceMethod FX8_camp.1 ∈ q_T ∧ Cond.selects FX8_camp.1.cls FX8_camp.1 FX8_camp.1 ∈ q_T := ⟨q_mm 698 (by decide +kernel) (by decide +kernel), q_mm 699 (by decide +kernel) (by decide +kernel), q_mm 700 (by decide +kernel) (by decide +kernel)⟩
set_option maxRecDepth 20000 in
theorem l_X8_78 : Cond.methodLink RX8 78 FX8_isCamp.1 ∈ q_T ∧ Cond.static FX8_isCamp.1 ∈ q_T := ⟨q_mm 702 (by decide +kernel) (by decide +kernel), q_mm 703 (by decide +kernel) (by decide +kernel)⟩
set_option maxRecDepth 20000 in
theorem l_X8_71 : Cond.methodLink RX8 71 FX8_isIn.1 ∈ q_T ∧ Cond.static FX8_isIn.1 ∈ q_T := ⟨q_mm 705 (by decide +kernel) (by decide +kernel), q_mm 706 (by decide +kernel) (by decide +kernel)⟩
set_option maxRecDepth 20000 in
theorem l_L_21 : Cond.methodLink RL 21 FX8_hour.1 ∈ q_T ∧ Cond.instanceMethod FX8_hour.1 ∈ q_T ∧ Cond.selects FX8_hour.1.cls FX8_hour.1 FX8_hour.1 ∈ q_T := ⟨q_mm 708 (by decide +kernel) (by decide +kernel), q_mm 709 (by decide +kernel) (by decide +kernel), q_mm 710 (by decide +kernel) (by decide +kernel)⟩
set_option maxRecDepth 20000 in
theorem l_X8_82 : Cond.methodLink RX8 82 FX8_isStage.1 ∈ q_T ∧ Cond.static FX8_isStage.1 ∈ q_T := ⟨q_mm 712 (by decide +kernel) (by decide +kernel), q_mm 713 (by decide +kernel) (by decide +kernel)⟩
set_option maxRecDepth 20000 in
theorem l_L_26 : Cond.methodLink RL 26 FX8_racer.1 ∈ q_T ∧ Cond.instanceMethod FX8_racer.1 ∈ q_T ∧ Cond.selects FX8_racer.1.cls FX8_racer.1 FX8_racer.1 ∈ q_T := ⟨q_mm 715 (by decide +kernel) (by decide +kernel), q_mm 716 (by decide +kernel) (by decide +kernel), q_mm 717 (by decide +kernel) (by decide +kernel)⟩
set_option maxRecDepth 20000 in
theorem l_L_31 : Cond.methodLink RL 31 FX8_breaks.1 ∈ q_T ∧ Cond.instanceMethod FX8_breaks.1 ∈ q_T ∧ Cond.selects FX8_breaks.1.cls FX8_breaks.1 FX8_breaks.1 ∈ q_T := ⟨q_mm 719 (by decide +kernel) (by decide +kernel), q_mm 720 (by decide +kernel) (by decide +kernel), q_mm 721 (by decide +kernel) (by decide +kernel)⟩
set_option maxRecDepth 20000 in
theorem l_X8_85 : Cond.methodLink RX8 85 FX8_isRacer.1 ∈ q_T ∧ Cond.instanceMethod FX8_isRacer.1 ∈ q_T ∧ Cond.selects FX8_isRacer.1.cls FX8_isRacer.1 FX8_isRacer.1 ∈ q_T := ⟨q_mm 723 (by decide +kernel) (by decide +kernel), q_mm 725 (by decide +kernel) (by decide +kernel), q_mm 12 (by decide +kernel) (by decide +kernel)⟩
set_option maxRecDepth 20000 in
theorem l_X8_88 : Cond.methodLink RX8 88 FX8_length.1 ∈ q_T ∧ Cond.instanceMethod FX8_length.1 ∈ q_T ∧ Cond.selects FX8_length.1.cls FX8_length.1 FX8_length.1 ∈ q_T := ⟨q_mm 727 (by decide +kernel) (by decide +kernel), q_mm 729 (by decide +kernel) (by decide +kernel), q_mm 13 (by decide +kernel) (by decide +kernel)⟩
set_option maxRecDepth 20000 in
theorem l_L_35 : Cond.methodLink RL 35 FX8_set.1 ∈ q_T ∧ Cond.instanceMethod FX8_set.1 ∈ q_T ∧ Cond.selects FX8_set.1.cls FX8_set.1 FX8_set.1 ∈ q_T := ⟨q_mm 731 (by decide +kernel) (by decide +kernel), q_mm 732 (by decide +kernel) (by decide +kernel), q_mm 733 (by decide +kernel) (by decide +kernel)⟩
set_option maxRecDepth 20000 in
theorem l_L_40 : Cond.methodLink RL 40 FX8_feed.1 ∈ q_T ∧ Cond.instanceMethod FX8_feed.1 ∈ q_T ∧ Cond.selects FX8_feed.1.cls FX8_feed.1 FX8_feed.1 ∈ q_T := ⟨q_mm 735 (by decide +kernel) (by decide +kernel), q_mm 736 (by decide +kernel) (by decide +kernel), q_mm 737 (by decide +kernel) (by decide +kernel)⟩
set_option maxRecDepth 20000 in
theorem l_L_45 : Cond.methodLink RL 45 FX8_end.1 ∈ q_T ∧ Cond.instanceMethod FX8_end.1 ∈ q_T ∧ Cond.selects FX8_end.1.cls FX8_end.1 FX8_end.1 ∈ q_T := ⟨q_mm 739 (by decide +kernel) (by decide +kernel), q_mm 740 (by decide +kernel) (by decide +kernel), q_mm 741 (by decide +kernel) (by decide +kernel)⟩
set_option maxRecDepth 20000 in
theorem l_L_50 : Cond.methodLink RL 50 FX8_book.1 ∈ q_T ∧ Cond.instanceMethod FX8_book.1 ∈ q_T ∧ Cond.selects FX8_book.1.cls FX8_book.1 FX8_book.1 ∈ q_T := ⟨q_mm 743 (by decide +kernel) (by decide +kernel), q_mm 744 (by decide +kernel) (by decide +kernel), q_mm 745 (by decide +kernel) (by decide +kernel)⟩
set_option maxRecDepth 20000 in
theorem l_X8_137 : Cond.methodLink RX8 137 FX8_next0.1 ∈ q_T ∧ Cond.instanceMethod FX8_next0.1 ∈ q_T ∧ Cond.selects FX8_next0.1.cls FX8_next0.1 FX8_next0.1 ∈ q_T := ⟨q_mm 747 (by decide +kernel) (by decide +kernel), q_mm 749 (by decide +kernel) (by decide +kernel), q_mm 14 (by decide +kernel) (by decide +kernel)⟩
set_option maxRecDepth 20000 in
theorem l_X8_106 : Cond.methodLink RX8 106 FX8_see.1 ∈ q_T ∧ Cond.instanceMethod FX8_see.1 ∈ q_T ∧ Cond.selects FX8_see.1.cls FX8_see.1 FX8_see.1 ∈ q_T := ⟨q_mm 751 (by decide +kernel) (by decide +kernel), q_mm 753 (by decide +kernel) (by decide +kernel), q_mm 15 (by decide +kernel) (by decide +kernel)⟩
set_option maxRecDepth 20000 in
theorem l_X8_115 : Cond.methodLink RX8 115 FX8_isLetter.1 ∈ q_T ∧ Cond.static FX8_isLetter.1 ∈ q_T := ⟨q_mm 755 (by decide +kernel) (by decide +kernel), q_mm 756 (by decide +kernel) (by decide +kernel)⟩
set_option maxRecDepth 20000 in
theorem l_X8_118 : Cond.methodLink RX8 118 FX8_word.1 ∈ q_T ∧ Cond.static FX8_word.1 ∈ q_T := ⟨q_mm 758 (by decide +kernel) (by decide +kernel), q_mm 759 (by decide +kernel) (by decide +kernel)⟩
set_option maxRecDepth 20000 in
theorem l_X8_122 : Cond.methodLink RX8 122 FX8_isDigit.1 ∈ q_T ∧ Cond.static FX8_isDigit.1 ∈ q_T := ⟨q_mm 765 (by decide +kernel) (by decide +kernel), q_mm 766 (by decide +kernel) (by decide +kernel)⟩
set_option maxRecDepth 20000 in
theorem l_X8_150 : Cond.methodLink RX8 150 FX8_aZone.1 ∈ q_T ∧ Cond.instanceMethod FX8_aZone.1 ∈ q_T ∧ Cond.selects FX8_aZone.1.cls FX8_aZone.1 FX8_aZone.1 ∈ q_T := ⟨q_mm 768 (by decide +kernel) (by decide +kernel), q_mm 770 (by decide +kernel) (by decide +kernel), q_mm 16 (by decide +kernel) (by decide +kernel)⟩
set_option maxRecDepth 20000 in
theorem l_X8_143 : Cond.methodLink RX8 143 FX8_need.1 ∈ q_T ∧ Cond.instanceMethod FX8_need.1 ∈ q_T ∧ Cond.selects FX8_need.1.cls FX8_need.1 FX8_need.1 ∈ q_T := ⟨q_mm 772 (by decide +kernel) (by decide +kernel), q_mm 774 (by decide +kernel) (by decide +kernel), q_mm 17 (by decide +kernel) (by decide +kernel)⟩
set_option maxRecDepth 20000 in
theorem l_X8_134 : Cond.methodLink RX8 134 FX8_bad.1 ∈ q_T ∧ Cond.instanceMethod FX8_bad.1 ∈ q_T ∧ Cond.selects FX8_bad.1.cls FX8_bad.1 FX8_bad.1 ∈ q_T := ⟨q_mm 776 (by decide +kernel) (by decide +kernel), q_mm 778 (by decide +kernel) (by decide +kernel), q_mm 18 (by decide +kernel) (by decide +kernel)⟩
set_option maxRecDepth 20000 in
theorem l_X8_146 : Cond.methodLink RX8 146 FX8_aNumber.1 ∈ q_T ∧ Cond.instanceMethod FX8_aNumber.1 ∈ q_T ∧ Cond.selects FX8_aNumber.1.cls FX8_aNumber.1 FX8_aNumber.1 ∈ q_T := ⟨q_mm 780 (by decide +kernel) (by decide +kernel), q_mm 782 (by decide +kernel) (by decide +kernel), q_mm 19 (by decide +kernel) (by decide +kernel)⟩
set_option maxRecDepth 20000 in
theorem l_X8_157 : Cond.methodLink RX8 157 FX8_all.1 ∈ q_T ∧ Cond.instanceMethod FX8_all.1 ∈ q_T ∧ Cond.selects FX8_all.1.cls FX8_all.1 FX8_all.1 ∈ q_T := ⟨q_mm 784 (by decide +kernel) (by decide +kernel), q_mm 786 (by decide +kernel) (by decide +kernel), q_mm 20 (by decide +kernel) (by decide +kernel)⟩
set_option maxRecDepth 20000 in
theorem l_L_54 : Cond.methodLink RL 54 FX8_fault.1 ∈ q_T ∧ Cond.instanceMethod FX8_fault.1 ∈ q_T ∧ Cond.selects FX8_fault.1.cls FX8_fault.1 FX8_fault.1 ∈ q_T := ⟨q_mm 788 (by decide +kernel) (by decide +kernel), q_mm 789 (by decide +kernel) (by decide +kernel), q_mm 790 (by decide +kernel) (by decide +kernel)⟩
set_option maxRecDepth 20000 in
theorem l_L_58 : Cond.methodLink RL 58 FX8_look.1 ∈ q_T ∧ Cond.instanceMethod FX8_look.1 ∈ q_T ∧ Cond.selects FX8_look.1.cls FX8_look.1 FX8_look.1 ∈ q_T := ⟨q_mm 792 (by decide +kernel) (by decide +kernel), q_mm 793 (by decide +kernel) (by decide +kernel), q_mm 794 (by decide +kernel) (by decide +kernel)⟩
set_option maxRecDepth 20000 in
theorem l_L_63 : Cond.methodLink RL 63 FX8_time.1 ∈ q_T ∧ Cond.instanceMethod FX8_time.1 ∈ q_T ∧ Cond.selects FX8_time.1.cls FX8_time.1 FX8_time.1 ∈ q_T := ⟨q_mm 796 (by decide +kernel) (by decide +kernel), q_mm 797 (by decide +kernel) (by decide +kernel), q_mm 798 (by decide +kernel) (by decide +kernel)⟩
set_option maxRecDepth 20000 in
theorem l_X8_167 : Cond.methodLink RX8 167 FX8_timeOf.1 ∈ q_T ∧ Cond.instanceMethod FX8_timeOf.1 ∈ q_T ∧ Cond.selects FX8_timeOf.1.cls FX8_timeOf.1 FX8_timeOf.1 ∈ q_T := ⟨q_mm 800 (by decide +kernel) (by decide +kernel), q_mm 802 (by decide +kernel) (by decide +kernel), q_mm 21 (by decide +kernel) (by decide +kernel)⟩
set_option maxRecDepth 20000 in
theorem l_X8_161 : Cond.methodLink RX8 161 FX8_lesser.1 ∈ q_T ∧ Cond.static FX8_lesser.1 ∈ q_T := ⟨q_mm 804 (by decide +kernel) (by decide +kernel), q_mm 805 (by decide +kernel) (by decide +kernel)⟩
set_option maxRecDepth 20000 in
theorem l_L_68 : Cond.methodLink RL 68 FX8_ran.1 ∈ q_T ∧ Cond.instanceMethod FX8_ran.1 ∈ q_T ∧ Cond.selects FX8_ran.1.cls FX8_ran.1 FX8_ran.1 ∈ q_T := ⟨q_mm 808 (by decide +kernel) (by decide +kernel), q_mm 809 (by decide +kernel) (by decide +kernel), q_mm 810 (by decide +kernel) (by decide +kernel)⟩
set_option maxRecDepth 20000 in
theorem l_X8_177 : Cond.methodLink RX8 177 FX8_runs.1 ∈ q_T ∧ Cond.instanceMethod FX8_runs.1 ∈ q_T ∧ Cond.selects FX8_runs.1.cls FX8_runs.1 FX8_runs.1 ∈ q_T := ⟨q_mm 812 (by decide +kernel) (by decide +kernel), q_mm 814 (by decide +kernel) (by decide +kernel), q_mm 22 (by decide +kernel) (by decide +kernel)⟩
set_option maxRecDepth 20000 in
theorem l_X8_170 : Cond.methodLink RX8 170 FX8_comes.1 ∈ q_T ∧ Cond.instanceMethod FX8_comes.1 ∈ q_T ∧ Cond.selects FX8_comes.1.cls FX8_comes.1 FX8_comes.1 ∈ q_T := ⟨q_mm 816 (by decide +kernel) (by decide +kernel), q_mm 818 (by decide +kernel) (by decide +kernel), q_mm 23 (by decide +kernel) (by decide +kernel)⟩
set_option maxRecDepth 20000 in
theorem l_X8_174 : Cond.methodLink RX8 174 FX8_isAhead.1 ∈ q_T ∧ Cond.instanceMethod FX8_isAhead.1 ∈ q_T ∧ Cond.selects FX8_isAhead.1.cls FX8_isAhead.1 FX8_isAhead.1 ∈ q_T := ⟨q_mm 820 (by decide +kernel) (by decide +kernel), q_mm 822 (by decide +kernel) (by decide +kernel), q_mm 24 (by decide +kernel) (by decide +kernel)⟩
set_option maxRecDepth 20000 in
theorem l_L_72 : Cond.methodLink RL 72 FX8_standing.1 ∈ q_T ∧ Cond.instanceMethod FX8_standing.1 ∈ q_T ∧ Cond.selects FX8_standing.1.cls FX8_standing.1 FX8_standing.1 ∈ q_T := ⟨q_mm 824 (by decide +kernel) (by decide +kernel), q_mm 825 (by decide +kernel) (by decide +kernel), q_mm 826 (by decide +kernel) (by decide +kernel)⟩
set_option maxRecDepth 20000 in
theorem l_L_80 : Cond.methodLink RL 80 FX8_sets.1 ∈ q_T ∧ Cond.instanceMethod FX8_sets.1 ∈ q_T ∧ Cond.selects FX8_sets.1.cls FX8_sets.1 FX8_sets.1 ∈ q_T := ⟨q_mm 828 (by decide +kernel) (by decide +kernel), q_mm 829 (by decide +kernel) (by decide +kernel), q_mm 830 (by decide +kernel) (by decide +kernel)⟩
set_option maxRecDepth 20000 in
theorem l_X8_198 : Cond.methodLink RX8 198 FX8_finds.1 ∈ q_T ∧ Cond.instanceMethod FX8_finds.1 ∈ q_T ∧ Cond.selects FX8_finds.1.cls FX8_finds.1 FX8_finds.1 ∈ q_T := ⟨q_mm 832 (by decide +kernel) (by decide +kernel), q_mm 834 (by decide +kernel) (by decide +kernel), q_mm 25 (by decide +kernel) (by decide +kernel)⟩
set_option maxRecDepth 20000 in
theorem l_X8_195 : Cond.methodLink RX8 195 FX8_kitchens.1 ∈ q_T ∧ Cond.instanceMethod FX8_kitchens.1 ∈ q_T ∧ Cond.selects FX8_kitchens.1.cls FX8_kitchens.1 FX8_kitchens.1 ∈ q_T := ⟨q_mm 836 (by decide +kernel) (by decide +kernel), q_mm 838 (by decide +kernel) (by decide +kernel), q_mm 26 (by decide +kernel) (by decide +kernel)⟩
set_option maxRecDepth 20000 in
theorem l_X8_189 : Cond.methodLink RX8 189 FX8_tries.1 ∈ q_T ∧ Cond.instanceMethod FX8_tries.1 ∈ q_T ∧ Cond.selects FX8_tries.1.cls FX8_tries.1 FX8_tries.1 ∈ q_T := ⟨q_mm 840 (by decide +kernel) (by decide +kernel), q_mm 842 (by decide +kernel) (by decide +kernel), q_mm 27 (by decide +kernel) (by decide +kernel)⟩
set_option maxRecDepth 20000 in
theorem l_X8_180 : Cond.methodLink RX8 180 FX8_isNeeded.1 ∈ q_T ∧ Cond.instanceMethod FX8_isNeeded.1 ∈ q_T ∧ Cond.selects FX8_isNeeded.1.cls FX8_isNeeded.1 FX8_isNeeded.1 ∈ q_T := ⟨q_mm 844 (by decide +kernel) (by decide +kernel), q_mm 846 (by decide +kernel) (by decide +kernel), q_mm 28 (by decide +kernel) (by decide +kernel)⟩
set_option maxRecDepth 20000 in
theorem l_X8_192 : Cond.methodLink RX8 192 FX8_canDo.1 ∈ q_T ∧ Cond.instanceMethod FX8_canDo.1 ∈ q_T ∧ Cond.selects FX8_canDo.1.cls FX8_canDo.1 FX8_canDo.1 ∈ q_T := ⟨q_mm 848 (by decide +kernel) (by decide +kernel), q_mm 850 (by decide +kernel) (by decide +kernel), q_mm 29 (by decide +kernel) (by decide +kernel)⟩
set_option maxRecDepth 20000 in
theorem l_X8_183 : Cond.methodLink RX8 183 FX8_lastOf.1 ∈ q_T ∧ Cond.instanceMethod FX8_lastOf.1 ∈ q_T ∧ Cond.selects FX8_lastOf.1.cls FX8_lastOf.1 FX8_lastOf.1 ∈ q_T := ⟨q_mm 852 (by decide +kernel) (by decide +kernel), q_mm 854 (by decide +kernel) (by decide +kernel), q_mm 30 (by decide +kernel) (by decide +kernel)⟩
set_option maxRecDepth 20000 in
theorem l_X8_186 : Cond.methodLink RX8 186 FX8_between.1 ∈ q_T ∧ Cond.instanceMethod FX8_between.1 ∈ q_T ∧ Cond.selects FX8_between.1.cls FX8_between.1 FX8_between.1 ∈ q_T := ⟨q_mm 856 (by decide +kernel) (by decide +kernel), q_mm 858 (by decide +kernel) (by decide +kernel), q_mm 31 (by decide +kernel) (by decide +kernel)⟩
set_option maxRecDepth 20000 in
theorem l_L_84 : Cond.methodLink RL 84 FX8_goes.1 ∈ q_T ∧ Cond.instanceMethod FX8_goes.1 ∈ q_T ∧ Cond.selects FX8_goes.1.cls FX8_goes.1 FX8_goes.1 ∈ q_T := ⟨q_mm 860 (by decide +kernel) (by decide +kernel), q_mm 861 (by decide +kernel) (by decide +kernel), q_mm 862 (by decide +kernel) (by decide +kernel)⟩
set_option maxRecDepth 20000 in
theorem l_L_76 : Cond.methodLink RL 76 FX8_of.1 ∈ q_T ∧ Cond.instanceMethod FX8_of.1 ∈ q_T ∧ Cond.selects FX8_of.1.cls FX8_of.1 FX8_of.1 ∈ q_T := ⟨q_mm 864 (by decide +kernel) (by decide +kernel), q_mm 865 (by decide +kernel) (by decide +kernel), q_mm 866 (by decide +kernel) (by decide +kernel)⟩
set_option maxRecDepth 20000 in
theorem l_L_88 : Cond.methodLink RL 88 FX8_sweep.1 ∈ q_T ∧ Cond.instanceMethod FX8_sweep.1 ∈ q_T ∧ Cond.selects FX8_sweep.1.cls FX8_sweep.1 FX8_sweep.1 ∈ q_T := ⟨q_mm 868 (by decide +kernel) (by decide +kernel), q_mm 869 (by decide +kernel) (by decide +kernel), q_mm 870 (by decide +kernel) (by decide +kernel)⟩
set_option maxRecDepth 20000 in
theorem o_X7_3 : Cond.methodLink RX7 3 Lib.objectInit ∈ q_T := q_mm 53 (by decide +kernel) (by decide +kernel)
set_option maxRecDepth 20000 in
theorem o_X1_3 : Cond.methodLink RX1 3 Lib.objectInit ∈ q_T := q_mm 61 (by decide +kernel) (by decide +kernel)
set_option maxRecDepth 20000 in
theorem o_X4_3 : Cond.methodLink RX4 3 Lib.objectInit ∈ q_T := q_mm 78 (by decide +kernel) (by decide +kernel)
set_option maxRecDepth 20000 in
theorem o_X6_3 : Cond.methodLink RX6 3 Lib.objectInit ∈ q_T := q_mm 103 (by decide +kernel) (by decide +kernel)
set_option maxRecDepth 20000 in
theorem o_X0_3 : Cond.methodLink RX0 3 Lib.objectInit ∈ q_T := q_mm 119 (by decide +kernel) (by decide +kernel)
set_option maxRecDepth 20000 in
theorem o_X3_3 : Cond.methodLink RX3 3 Lib.objectInit ∈ q_T := q_mm 146 (by decide +kernel) (by decide +kernel)
set_option maxRecDepth 20000 in
theorem o_X2_3 : Cond.methodLink RX2 3 Lib.objectInit ∈ q_T := q_mm 190 (by decide +kernel) (by decide +kernel)
set_option maxRecDepth 20000 in
theorem o_X5_3 : Cond.methodLink RX5 3 Lib.objectInit ∈ q_T := q_mm 225 (by decide +kernel) (by decide +kernel)
set_option maxRecDepth 20000 in
theorem o_X8_1 : Cond.methodLink RX8 1 Lib.objectInit ∈ q_T := q_mm 606 (by decide +kernel) (by decide +kernel)
set_option maxRecDepth 20000 in
theorem o_im : Cond.instanceMethod Lib.objectInit ∈ q_T := q_mm 54 (by decide +kernel) (by decide +kernel)
set_option maxRecDepth 20000 in
theorem o_cd : Cond.code Lib.objectInit ⟨#[0xb1]⟩ 1 none ∈ q_T := q_mm 55 (by decide +kernel) (by decide +kernel)
set_option maxRecDepth 20000 in
theorem k_L_7 : q_cls RL 7 7 10 := ⟨RX7, TX7, tyX7, rfl, wX7, tyX7_ok, q_mm 48 (by decide +kernel) (by decide +kernel), q_mm 49 (by decide +kernel) (by decide +kernel), q_mm 33 (by decide +kernel) (by decide +kernel), by decide +kernel⟩
set_option maxRecDepth 20000 in
theorem k_X7_9 : q_cls RX7 9 1 2 := ⟨RX1, TX1, tyX1, rfl, wX1, tyX1_ok, q_mm 56 (by decide +kernel) (by decide +kernel), q_mm 57 (by decide +kernel) (by decide +kernel), q_mm 34 (by decide +kernel) (by decide +kernel), by decide +kernel⟩
set_option maxRecDepth 20000 in
theorem k_X7_16 : q_cls RX7 16 4 4 := ⟨RX4, TX4, tyX4, rfl, wX4, tyX4_ok, q_mm 73 (by decide +kernel) (by decide +kernel), q_mm 74 (by decide +kernel) (by decide +kernel), q_mm 35 (by decide +kernel) (by decide +kernel), by decide +kernel⟩
set_option maxRecDepth 20000 in
theorem k_X7_23 : q_cls RX7 23 6 2 := ⟨RX6, TX6, tyX6, rfl, wX6, tyX6_ok, q_mm 98 (by decide +kernel) (by decide +kernel), q_mm 99 (by decide +kernel) (by decide +kernel), q_mm 36 (by decide +kernel) (by decide +kernel), by decide +kernel⟩
set_option maxRecDepth 20000 in
theorem k_X7_30 : q_cls RX7 30 0 6 := ⟨RX0, TX0, tyX0, rfl, wX0, tyX0_ok, q_mm 114 (by decide +kernel) (by decide +kernel), q_mm 115 (by decide +kernel) (by decide +kernel), q_mm 37 (by decide +kernel) (by decide +kernel), by decide +kernel⟩
set_option maxRecDepth 20000 in
theorem k_X7_37 : q_cls RX7 37 3 9 := ⟨RX3, TX3, tyX3, rfl, wX3, tyX3_ok, q_mm 141 (by decide +kernel) (by decide +kernel), q_mm 142 (by decide +kernel) (by decide +kernel), q_mm 38 (by decide +kernel) (by decide +kernel), by decide +kernel⟩
set_option maxRecDepth 20000 in
theorem k_X3_9 : Cond.classLink RX3 9 "[[I" ∈ q_T := q_mm 147 (by decide +kernel) (by decide +kernel)
set_option maxRecDepth 20000 in
theorem k_X7_44 : q_cls RX7 44 2 8 := ⟨RX2, TX2, tyX2, rfl, wX2, tyX2_ok, q_mm 185 (by decide +kernel) (by decide +kernel), q_mm 186 (by decide +kernel) (by decide +kernel), q_mm 39 (by decide +kernel) (by decide +kernel), by decide +kernel⟩
set_option maxRecDepth 20000 in
theorem k_X7_55 : q_cls RX7 55 5 5 := ⟨RX5, TX5, tyX5, rfl, wX5, tyX5_ok, q_mm 220 (by decide +kernel) (by decide +kernel), q_mm 221 (by decide +kernel) (by decide +kernel), q_mm 40 (by decide +kernel) (by decide +kernel), by decide +kernel⟩
set_option maxRecDepth 20000 in
theorem k_X5_15 : Cond.classLink RX5 15 "[[I" ∈ q_T := q_mm 226 (by decide +kernel) (by decide +kernel)
set_option maxRecDepth 20000 in
theorem k_L_10 : q_cls RL 10 8 30 := ⟨RX8, TX8, tyX8, rfl, wX8, tyX8_ok, q_mm 601 (by decide +kernel) (by decide +kernel), q_mm 602 (by decide +kernel) (by decide +kernel), q_mm 41 (by decide +kernel) (by decide +kernel), by decide +kernel⟩
theorem k_int : Cond.arrayClass .int ∈ q_T := q_mm 72 (by decide +kernel) (by decide +kernel)
theorem k_byte : Cond.arrayClass .byte ∈ q_T := q_mm 113 (by decide +kernel) (by decide +kernel)
set_option maxRecDepth 20000 in
theorem n_X3_110 : Cond.constantLong RX3 110 60 ∈ q_T := q_mm 494 (by decide +kernel) (by decide +kernel)
set_option maxRecDepth 20000 in
theorem n_X7_214 : Cond.constantLong RX7 214 60 ∈ q_T := q_mm 546 (by decide +kernel) (by decide +kernel)
set_option maxRecDepth 20000 in
theorem n_X7_170 : Cond.constantLong RX7 170 1000 ∈ q_T := q_mm 560 (by decide +kernel) (by decide +kernel)
set_option maxRecDepth 20000 in
theorem n_J6_265 : Cond.constant RJ6 265 1431655765 ∈ q_T := q_mm 588 (by decide +kernel) (by decide +kernel)
set_option maxRecDepth 20000 in
theorem n_J6_266 : Cond.constant RJ6 266 858993459 ∈ q_T := q_mm 589 (by decide +kernel) (by decide +kernel)
set_option maxRecDepth 20000 in
theorem n_J6_267 : Cond.constant RJ6 267 252645135 ∈ q_T := q_mm 590 (by decide +kernel) (by decide +kernel)
set_option maxRecDepth 20000 in
theorem n_X7_194 : Cond.constantLong RX7 194 4 ∈ q_T := q_mm 591 (by decide +kernel) (by decide +kernel)
set_option maxRecDepth 20000 in
theorem n_X8_95 : Cond.constantLong RX8 95 2054123109 ∈ q_T := q_mm 761 (by decide +kernel) (by decide +kernel)
set_option maxRecDepth 20000 in
theorem n_X8_97 : Cond.constantLong RX8 97 1718775661 ∈ q_T := q_mm 762 (by decide +kernel) (by decide +kernel)
set_option maxRecDepth 20000 in
theorem n_X8_99 : Cond.constantLong RX8 99 29807 ∈ q_T := q_mm 763 (by decide +kernel) (by decide +kernel)
set_option maxRecDepth 20000 in
theorem n_X8_101 : Cond.constantLong RX8 101 24948 ∈ q_T := q_mm 764 (by decide +kernel) (by decide +kernel)
set_option maxRecDepth 20000 in
theorem n_X8_165 : Cond.constantLong RX8 165 60 ∈ q_T := q_mm 807 (by decide +kernel) (by decide +kernel)
set_option maxRecDepth 20000 in
theorem s_X7_103 : Cond.fieldLink RX7 103 "DesertTown" "LEAST_SETTING" "[I" ∈ q_T := q_mm 321 (by decide +kernel) (by decide +kernel)
set_option maxRecDepth 20000 in
theorem s_X7_106 : Cond.fieldLink RX7 106 "DesertTown" "MOST_SETTING" "[I" ∈ q_T := q_mm 323 (by decide +kernel) (by decide +kernel)
set_option maxRecDepth 20000 in
theorem a_X3_86 : Cond.methodLink RX3 86 Lib.Math.max.name ∈ q_T := q_mm 527 (by decide +kernel) (by decide +kernel)
set_option maxRecDepth 20000 in
theorem a_max_s : Cond.static Lib.Math.max.name ∈ q_T := q_mm 528 (by decide +kernel) (by decide +kernel)
set_option maxRecDepth 20000 in
theorem a_max_c : Cond.code Lib.Math.max.name Lib.Math.max.code 2 (some .int) ∈ q_T := q_mm 529 (by decide +kernel) (by decide +kernel)
set_option maxRecDepth 20000 in
theorem a_X3_80 : Cond.methodLink RX3 80 Lib.Math.min.name ∈ q_T := q_mm 491 (by decide +kernel) (by decide +kernel)
set_option maxRecDepth 20000 in
theorem a_min_s : Cond.static Lib.Math.min.name ∈ q_T := q_mm 492 (by decide +kernel) (by decide +kernel)
set_option maxRecDepth 20000 in
theorem a_min_c : Cond.code Lib.Math.min.name Lib.Math.min.code 2 (some .int) ∈ q_T := q_mm 493 (by decide +kernel) (by decide +kernel)
set_option maxRecDepth 20000 in
theorem a_ini : Cond.initialized "java/lang/Math" ∈ q_T := q_mm 46 (by decide +kernel) (by decide +kernel)
end
section
def q_lo (j : Nat) : Int32 := ([0, 0, 10, 0, 0] : List Int32).getD j 0
def q_hi (j : Nat) : Int32 := ([600, 600, 120, 5000, 50] : List Int32).getD j 0
def q_kn : List Nat := [4, 4, 2, 2]
def q_kb : List (List Int32) := [[122, 111, 110, 101], [102, 114, 111, 109], [116, 111], [97, 116]]
def q_AO (U : State) : Prop := (Cond.arrayOver (.array .int)).before #[] U = true
theorem q_AO.moved {u U : State} (hvm : u.vm.Alike U.vm) (h : q_AO u) : q_AO U := by
  unfold q_AO Cond.before at h
  simp only [Cond.holds, Cond.value, beq_iff_eq] at h
  cases hc : u.vm.findClass (FieldType.array FieldType.int).toString with
  | none => simp [hc] at h
  | some comp =>
    simp only [hc, Option.bind_some, Option.bind_eq_some_iff, Option.map_eq_some_iff] at h
    obtain ⟨c, hi, k, hk, hb⟩ := h
    obtain ⟨k', hk', he⟩ := hvm.2.2 _ _ hk
    have hi2 : (U.vm.classes.findIdx? fun (x : Class) => match x.kind with | .array component _ => component == comp | _ => false) = some c := by
      have b1 := va_idx_bare U.vm comp
      have b2 := va_idx_bare u.vm comp
      rw [hvm.bare_eq] at b1
      exact b1.symm.trans (b2.trans hi)
    have f1 : U.vm.findClass (FieldType.array FieldType.int).toString = some comp := by rw [hvm.findClass]; exact hc
    have hkk : k'.kind = k.kind := by rw [he]
    unfold q_AO Cond.before
    simp only [Cond.holds, Cond.value, beq_iff_eq]
    rw [f1, Option.bind_some]
    refine Option.bind_eq_some_iff.mpr ⟨c, hi2, ?_⟩
    refine Option.map_eq_some_iff.mpr ⟨k', hk', ?_⟩
    rw [hkk]
    rw [← hb]
    cases k.kind <;> simp [hvm.findClass]
/-- what every method of the system finds at its start, besides the cells -/
def q_U (C : q_C) (U : State) : Prop :=
  va_K (q_D C) vwCl (q_tys C) U ∧ C.1 ≤ U.heap.size ∧ (∀ w ∈ q_nest, va_Nw w U) ∧
  (va_Z "DesertTown" "LEAST_SETTING" "[I" (.ref (q_x C 0)) (q_A C) U U.heap ∧ va_T .int (q_x C 0) 5 (fun j => .int (q_lo j)) (q_A C) U U.heap) ∧
  (va_Z "DesertTown" "MOST_SETTING" "[I" (.ref (q_x C 1)) (q_A C) U U.heap ∧ va_T .int (q_x C 1) 5 (fun j => .int (q_hi j)) (q_A C) U U.heap) ∧
  vk_S 4 q_kn q_kb (fun i => q_x C (2 + i)) C.2.2.1 (q_A C) U U.heap ∧
  (vk_R RX0 89 "zone" (q_x C 2) U ∧ vk_R RX0 91 "from" (q_x C 3) U ∧ vk_R RX0 92 "to" (q_x C 4) U ∧ vk_R RX0 93 "at" (q_x C 5) U) ∧
  va_Z "java/lang/String" "COMPACT_STRINGS" "Z" (.int 1) (q_A C) U U.heap ∧ q_AO U
theorem q_U.moved {C : q_C} {s U : State} {H : Heap} {locs : List Loc} (h : q_U C s) (hS : va_S (q_A C) s.heap H locs) (hH : U.heap = H) (hW : s.WarmedH U.vm) : q_U C U := by
  obtain ⟨h1, h2, h3, ⟨h4, h5⟩, ⟨h6, h7⟩, h8, ⟨r1, r2, r3, r4⟩, h9, h10⟩ := h
  have ha := hW.alike
  subst hH
  exact ⟨va_K.moved ha h1, Nat.le_trans h2 hS.1, fun w hw => q_nestM w hw s U hW (h3 w hw), ⟨(h4.moved ha).kept hS.2.1, (h5.moved ha).kept hS.2.1⟩, ⟨(h6.moved ha).kept hS.2.1, (h7.moved ha).kept hS.2.1⟩, (h8.moved ha).kept hS.2.1, ⟨r1.warm hW, r2.warm hW, r3.warm hW, r4.warm hW⟩, (h9.moved ha).kept hS.2.1, q_AO.moved ha h10⟩
/-! ===== locals: the newest first; what it hides doesn't count ===== -/
def q_dd : List (Nat × Value) → List (Nat × Value)
  | [] => []
  | (i, v) :: t => (i, v) :: (q_dd t).filter (fun q => !(q.1 == i) && ((v.category == 1 || !(q.1 == i + 1)) && !(q.1 + 1 == i && q.2.category == 2)))
def q_chk (i j : Nat) : Option Value → Option Value
  | none => none
  | some v => bif (Nat.beq v.category 2 && Nat.beq (i + 1) j) then none else some v
def q_get (i : Nat) : List (Nat × Value) → Option Value
  | [] => none
  | (j, w) :: t => bif Nat.beq j i then some w else bif (Nat.beq w.category 2 && Nat.beq i (j + 1)) then none else q_chk i j (q_get i t)
theorem q_get_mem {i : Nat} {v : Value} : ∀ {lv : List (Nat × Value)}, q_get i lv = some v → (i, v) ∈ q_dd lv
  | [], h => by cases h
  | (j, w) :: t, h => by
    unfold q_get at h
    unfold q_dd
    cases e : Nat.beq j i with
    | true =>
      rw [e] at h
      have e2 : j = i := Nat.eq_of_beq_eq_true e
      subst e2
      cases h
      exact List.mem_cons_self
    | false =>
      rw [e] at h
      have ne : j ≠ i := Nat.ne_of_beq_eq_false e
      cases e3 : (Nat.beq w.category 2 && Nat.beq i (j + 1)) with
      | true => rw [e3] at h; cases h
      | false =>
        rw [e3] at h
        simp only [cond_false] at h
        cases e4 : q_get i t with
        | none => rw [e4] at h; cases h
        | some v' =>
          rw [e4] at h
          unfold q_chk at h
          cases e5 : (Nat.beq v'.category 2 && Nat.beq (i + 1) j) with
          | true => simp only [e5, cond_true] at h; cases h
          | false =>
            simp only [e5, cond_false] at h
            cases h
            refine List.mem_cons_of_mem _ (List.mem_filter.mpr ⟨q_get_mem e4, ?_⟩)
            have c12 : w.category = 1 ∨ w.category = 2 := by cases w <;> simp [Value.category]
            simp only [Bool.and_eq_false_iff] at e3 e5
            have h5 : v.category ≠ 2 ∨ i + 1 ≠ j := e5.imp Nat.ne_of_beq_eq_false Nat.ne_of_beq_eq_false
            have h3 : w.category ≠ 2 ∨ i ≠ j + 1 := e3.imp Nat.ne_of_beq_eq_false Nat.ne_of_beq_eq_false
            rcases c12 with hc | hc
            · simp [hc]
              omega
            · simp [hc]
              omega
theorem q_dd_mem : ∀ {lv : List (Nat × Value)} {q : Nat × Value}, q ∈ q_dd lv → q ∈ lv
  | [], _, h => by cases h
  | (j, w) :: t, q, h => by
    unfold q_dd at h
    rcases List.mem_cons.mp h with rfl | h
    · exact List.mem_cons_self
    · exact List.mem_cons_of_mem _ (q_dd_mem (List.mem_filter.mp h).1)
theorem q_dd1 {lv : List (Nat × Value)} {i : Nat} {v : Value} (hv : v.category = 1) : (i, v) :: (q_dd lv).filter (fun q => !(q.1 == i) && !(q.1 + 1 == i && q.2.category == 2)) = q_dd ((i, v) :: lv) := by
  simp [q_dd, hv]
theorem q_dd2 {lv : List (Nat × Value)} {i : Nat} {v : Value} (hv : v.category = 2) : (i, v) :: (q_dd lv).filter (fun q => !(q.1 == i) && (!(q.1 == i + 1) && !(q.1 + 1 == i && q.2.category == 2))) = q_dd ((i, v) :: lv) := by
  simp [q_dd, hv]
theorem q_hat {ls : Array Slot} {nL i : Nat} {lv : List (Nat × Value)} {v : Value} (hl : lv_has ls nL (q_dd lv)) (h : q_get i lv = some v) : ls[i]? = some (.val v) := hl.2.2 (i, v) (q_get_mem h)
/-! ===== the judgement: a frame goes on to an end with Po ===== -/
def q_X (C : q_C) (p : Program) (F : q_F) (s : State) (m : MethodId) (args : Array Value) (meth : Method) (c : Code) : Prop :=
  p.tables.exec = Jvm.exec ∧ c.code = F.2.1 ∧ meth.sig.returnType = F.2.2.2 ∧ c.maxLocals = F.2.2.1 ∧ s.vm.findClass F.1.cls = some m.cls ∧ (∀ w ∈ q_T, w.before args s = true) ∧ meth.locks = false ∧ meth.name = F.1.name ∧ q_U C s
def q_rm (d n0 n1 : Nat) : Room := { frames := d, cells := n1 - n0, slots := q_sl n1 - q_sl n0, locals := 64 * d }
abbrev q_P : Type := Option Value → q_M → q_R → Prop
def q_Q (C : q_C) (n1 : Nat) (Po : q_P) : Array Value → State → Outcome → State → Prop := fun _ st o t => (∃ (r : Option Value) (μ : q_M) (ρ : q_R), o = .returned r ∧ Po r μ ρ ∧ q_H C n1 μ ρ t.heap) ∧ va_F (q_A C) st t
def q_G (C : q_C) (l : Launch) (F : q_F) (d n0 n1 : Nat) (Po : q_P) (n : Nat) (μ : q_M) (ρ : q_R) (lv : List (Nat × Value)) (st : List Value) (pc : Nat) : Prop :=
  ∀ (p : Program) (e : Env) (s : State) (m : MethodId) (args : Array Value) (below : List Frame) (meth : Method) (c : Code) (H : Heap) (locs : List Loc) (ls : Array Slot), q_X C p F s m args meth c → q_H C n μ ρ H → va_S (q_A C) s.heap H locs → lv_has ls F.2.2.1 (q_dd lv) → n0 ≤ n ∧ n ≤ n1 →
    W p l e (q_rm d n0 n1) s m args below meth c H locs (n - n0) (q_sl n - q_sl n0) (MQ below (q_Q C n1 Po) args s (n1 - n0) (q_sl n1 - q_sl n0) (q_A C)) (F0 m pc ls st)
/-- a method's contract -/
def q_Ct (C : q_C) (l : Launch) (F : q_F) (d n0 n1 : Nat) (as : List Value) (μ : q_M) (ρ : q_R) (Po : q_P) : Prop :=
  Met l F.1 (.code F.1 F.2.1 F.2.2.1 F.2.2.2 :: q_T) (q_rm d n0 n1) (va_Pc as (fun U => q_U C U ∧ q_H C n0 μ ρ U.heap)) (q_Q C n1 Po) (n1 - n0) (q_sl n1 - q_sl n0) (q_A C)
section QG
variable {C : q_C} {l : Launch} {F : q_F} {d n0 n1 : Nat} {Po : q_P} {n : Nat} {μ : q_M} {ρ : q_R} {lv : List (Nat × Value)} {st : List Value} {pc : Nat}
theorem q_entry {as : List Value} (hF : plainName F.1.cls = true) (hn : n0 ≤ n1) (ha : (lg_sl as).length ≤ F.2.2.1) (h : q_G C l F d n0 n1 Po n0 μ ρ (lv_args 0 as) [] 0) : q_Ct C l F d n0 n1 as μ ρ Po := by
  refine Met.ofW (cc := F.2.1) (maxL := F.2.2.1) (ret := F.2.2.2) hF rfl ?_
  intro p e s m args below meth c s₁ B hml hv
  obtain ⟨rfl, hU, hH⟩ := hv
  have hts := atoms_spec (ws := .code F.1 F.2.1 F.2.2.1 F.2.2.2 :: q_T) B.pre
  have hX : q_X C p F s m as.toArray meth c := ⟨B.exec, B.bytes, B.returns, hml, findClass_of_methodNamed B.named, fun w hw => hts w (List.mem_cons_of_mem _ hw), B.notSynchronized, (name_of_methodNamed B.named B.method).1, hU⟩
  have hl := lv_entry as (n := F.2.2.1) ha
  rw [lg_entry_eq]
  have k := h p e s m as.toArray below meth c s.heap [] _ hX hH va_S.rf ⟨hl.1, hl.2.1, fun q hq => hl.2.2 q (q_dd_mem hq)⟩ ⟨Nat.le_refl _, hn⟩
  rw [Nat.sub_self, Nat.sub_self] at k
  exact k
theorem g_lv (lv' : List (Nat × Value)) (h : lv'.map (fun q => q_get q.1 lv) = lv'.map (fun q => some q.2)) (k : q_G C l F d n0 n1 Po n μ ρ lv' st pc) : q_G C l F d n0 n1 Po n μ ρ lv st pc := by
  intro p e s m args below meth c H locs ls hX hH hS hl hn
  refine k p e s m args below meth c H locs ls hX hH hS ⟨hl.1, hl.2.1, fun q hq => ?_⟩ hn
  have hq := q_dd_mem hq
  obtain ⟨j, hj⟩ := List.getElem?_of_mem hq
  have h1 : (lv'.map (fun q => q_get q.1 lv))[j]? = some (some q.2) := by rw [h, List.getElem?_map, hj]; rfl
  rw [List.getElem?_map, hj] at h1
  exact q_hat hl (Option.some.inj h1)
theorem g_iadd (pc' : Nat) {x y : Int32} (hd : decode F.2.1 pc = .ok (.iadd, 1)) (hp : pc + 1 = pc') (k : q_G C l F d n0 n1 Po n μ ρ lv (.int (x + y) :: st) pc') : q_G C l F d n0 n1 Po n μ ρ lv (.int y :: .int x :: st) pc := by
  subst hp
  intro p e s m args below meth c H locs ls hX hH hS hl hn
  exact lv_iadd hX.1 hX.2.1 hd (k p e s m args below meth c H locs ls hX hH hS hl hn)
theorem g_isub (pc' : Nat) {x y : Int32} (hd : decode F.2.1 pc = .ok (.isub, 1)) (hp : pc + 1 = pc') (k : q_G C l F d n0 n1 Po n μ ρ lv (.int (x - y) :: st) pc') : q_G C l F d n0 n1 Po n μ ρ lv (.int y :: .int x :: st) pc := by
  subst hp
  intro p e s m args below meth c H locs ls hX hH hS hl hn
  exact lv_isub hX.1 hX.2.1 hd (k p e s m args below meth c H locs ls hX hH hS hl hn)
theorem g_imul (pc' : Nat) {x y : Int32} (hd : decode F.2.1 pc = .ok (.imul, 1)) (hp : pc + 1 = pc') (k : q_G C l F d n0 n1 Po n μ ρ lv (.int (x * y) :: st) pc') : q_G C l F d n0 n1 Po n μ ρ lv (.int y :: .int x :: st) pc := by
  subst hp
  intro p e s m args below meth c H locs ls hX hH hS hl hn
  exact lv_imul hX.1 hX.2.1 hd (k p e s m args below meth c H locs ls hX hH hS hl hn)
theorem g_iand (pc' : Nat) {x y : Int32} (hd : decode F.2.1 pc = .ok (.iand, 1)) (hp : pc + 1 = pc') (k : q_G C l F d n0 n1 Po n μ ρ lv (.int (x &&& y) :: st) pc') : q_G C l F d n0 n1 Po n μ ρ lv (.int y :: .int x :: st) pc := by
  subst hp
  intro p e s m args below meth c H locs ls hX hH hS hl hn
  exact lv_iand hX.1 hX.2.1 hd (k p e s m args below meth c H locs ls hX hH hS hl hn)
theorem g_ior (pc' : Nat) {x y : Int32} (hd : decode F.2.1 pc = .ok (.ior, 1)) (hp : pc + 1 = pc') (k : q_G C l F d n0 n1 Po n μ ρ lv (.int (x ||| y) :: st) pc') : q_G C l F d n0 n1 Po n μ ρ lv (.int y :: .int x :: st) pc := by
  subst hp
  intro p e s m args below meth c H locs ls hX hH hS hl hn
  exact lv_ior hX.1 hX.2.1 hd (k p e s m args below meth c H locs ls hX hH hS hl hn)
theorem g_ishl (pc' : Nat) {x y : Int32} (hd : decode F.2.1 pc = .ok (.ishl, 1)) (hp : pc + 1 = pc') (k : q_G C l F d n0 n1 Po n μ ρ lv (.int (x <<< (y &&& 31)) :: st) pc') : q_G C l F d n0 n1 Po n μ ρ lv (.int y :: .int x :: st) pc := by
  subst hp
  intro p e s m args below meth c H locs ls hX hH hS hl hn
  exact lv_ishl hX.1 hX.2.1 hd (k p e s m args below meth c H locs ls hX hH hS hl hn)
theorem g_ishr (pc' : Nat) {x y : Int32} (hd : decode F.2.1 pc = .ok (.ishr, 1)) (hp : pc + 1 = pc') (k : q_G C l F d n0 n1 Po n μ ρ lv (.int (x >>> (y &&& 31)) :: st) pc') : q_G C l F d n0 n1 Po n μ ρ lv (.int y :: .int x :: st) pc := by
  subst hp
  intro p e s m args below meth c H locs ls hX hH hS hl hn
  exact lv_ishr hX.1 hX.2.1 hd (k p e s m args below meth c H locs ls hX hH hS hl hn)
theorem g_idiv (pc' : Nat) {x y : Int32} (hd : decode F.2.1 pc = .ok (.idiv, 1)) (hp : pc + 1 = pc') (hne : ¬ y = 0) (k : q_G C l F d n0 n1 Po n μ ρ lv (.int (x / y) :: st) pc') : q_G C l F d n0 n1 Po n μ ρ lv (.int y :: .int x :: st) pc := by
  subst hp
  intro p e s m args below meth c H locs ls hX hH hS hl hn
  exact lv_idiv hX.1 hX.2.1 hd hne (k p e s m args below meth c H locs ls hX hH hS hl hn)
theorem g_irem (pc' : Nat) {x y : Int32} (hd : decode F.2.1 pc = .ok (.irem, 1)) (hp : pc + 1 = pc') (hne : ¬ y = 0) (k : q_G C l F d n0 n1 Po n μ ρ lv (.int (x - x / y * y) :: st) pc') : q_G C l F d n0 n1 Po n μ ρ lv (.int y :: .int x :: st) pc := by
  subst hp
  intro p e s m args below meth c H locs ls hX hH hS hl hn
  exact lv_irem hX.1 hX.2.1 hd hne (k p e s m args below meth c H locs ls hX hH hS hl hn)
theorem g_iushr (pc' : Nat) {x y : Int32} (hd : decode F.2.1 pc = .ok (.iushr, 1)) (hp : pc + 1 = pc') (k : q_G C l F d n0 n1 Po n μ ρ lv (.int ((x.toUInt32 >>> (y.toUInt32 &&& Int32.toUInt32 31)).toInt32) :: st) pc') : q_G C l F d n0 n1 Po n μ ρ lv (.int y :: .int x :: st) pc := by
  subst hp
  intro p e s m args below meth c H locs ls hX hH hS hl hn
  exact lv_iushr hX.1 hX.2.1 hd rfl (k p e s m args below meth c H locs ls hX hH hS hl hn)
theorem g_ladd (pc' : Nat) {x y : Int64} (hd : decode F.2.1 pc = .ok (.ladd, 1)) (hp : pc + 1 = pc') (k : q_G C l F d n0 n1 Po n μ ρ lv (.long (x + y) :: st) pc') : q_G C l F d n0 n1 Po n μ ρ lv (.long y :: .long x :: st) pc := by
  subst hp
  intro p e s m args below meth c H locs ls hX hH hS hl hn
  exact lv_ladd hX.1 hX.2.1 hd (k p e s m args below meth c H locs ls hX hH hS hl hn)
theorem g_lsub (pc' : Nat) {x y : Int64} (hd : decode F.2.1 pc = .ok (.lsub, 1)) (hp : pc + 1 = pc') (k : q_G C l F d n0 n1 Po n μ ρ lv (.long (x - y) :: st) pc') : q_G C l F d n0 n1 Po n μ ρ lv (.long y :: .long x :: st) pc := by
  subst hp
  intro p e s m args below meth c H locs ls hX hH hS hl hn
  exact lv_lsub hX.1 hX.2.1 hd (k p e s m args below meth c H locs ls hX hH hS hl hn)
theorem g_lmul (pc' : Nat) {x y : Int64} (hd : decode F.2.1 pc = .ok (.lmul, 1)) (hp : pc + 1 = pc') (k : q_G C l F d n0 n1 Po n μ ρ lv (.long (x * y) :: st) pc') : q_G C l F d n0 n1 Po n μ ρ lv (.long y :: .long x :: st) pc := by
  subst hp
  intro p e s m args below meth c H locs ls hX hH hS hl hn
  exact lv_lmul hX.1 hX.2.1 hd (k p e s m args below meth c H locs ls hX hH hS hl hn)
theorem g_lor (pc' : Nat) {x y : Int64} (hd : decode F.2.1 pc = .ok (.lor, 1)) (hp : pc + 1 = pc') (k : q_G C l F d n0 n1 Po n μ ρ lv (.long (x ||| y) :: st) pc') : q_G C l F d n0 n1 Po n μ ρ lv (.long y :: .long x :: st) pc := by
  subst hp
  intro p e s m args below meth c H locs ls hX hH hS hl hn
  exact lv_lor hX.1 hX.2.1 hd (k p e s m args below meth c H locs ls hX hH hS hl hn)
theorem g_ldiv (pc' : Nat) {x y : Int64} (hd : decode F.2.1 pc = .ok (.ldiv, 1)) (hp : pc + 1 = pc') (hne : ¬ y = 0) (k : q_G C l F d n0 n1 Po n μ ρ lv (.long (x / y) :: st) pc') : q_G C l F d n0 n1 Po n μ ρ lv (.long y :: .long x :: st) pc := by
  subst hp
  intro p e s m args below meth c H locs ls hX hH hS hl hn
  exact lv_ldiv hX.1 hX.2.1 hd hne (k p e s m args below meth c H locs ls hX hH hS hl hn)
theorem g_lshl (pc' : Nat) {x : Int64} {y : Int32} (hd : decode F.2.1 pc = .ok (.lshl, 1)) (hp : pc + 1 = pc') (k : q_G C l F d n0 n1 Po n μ ρ lv (.long (x <<< (y.toInt64 &&& 63)) :: st) pc') : q_G C l F d n0 n1 Po n μ ρ lv (.int y :: .long x :: st) pc := by
  subst hp
  intro p e s m args below meth c H locs ls hX hH hS hl hn
  exact lv_lshl hX.1 hX.2.1 hd rfl (k p e s m args below meth c H locs ls hX hH hS hl hn)
theorem g_i2l (pc' : Nat) {x : Int32} (hd : decode F.2.1 pc = .ok (.i2l, 1)) (hp : pc + 1 = pc') (k : q_G C l F d n0 n1 Po n μ ρ lv (.long x.toInt64 :: st) pc') : q_G C l F d n0 n1 Po n μ ρ lv (.int x :: st) pc := by
  subst hp
  intro p e s m args below meth c H locs ls hX hH hS hl hn
  exact lv_i2l hX.1 hX.2.1 hd rfl (k p e s m args below meth c H locs ls hX hH hS hl hn)
theorem g_l2i (pc' : Nat) {x : Int64} (hd : decode F.2.1 pc = .ok (.l2i, 1)) (hp : pc + 1 = pc') (k : q_G C l F d n0 n1 Po n μ ρ lv (.int x.toInt32 :: st) pc') : q_G C l F d n0 n1 Po n μ ρ lv (.long x :: st) pc := by
  subst hp
  intro p e s m args below meth c H locs ls hX hH hS hl hn
  exact lv_l2i hX.1 hX.2.1 hd rfl (k p e s m args below meth c H locs ls hX hH hS hl hn)
theorem g_i2b (pc' : Nat) {x : Int32} (hd : decode F.2.1 pc = .ok (.i2b, 1)) (hp : pc + 1 = pc') (k : q_G C l F d n0 n1 Po n μ ρ lv (.int x.toInt8.toInt32 :: st) pc') : q_G C l F d n0 n1 Po n μ ρ lv (.int x :: st) pc := by
  subst hp
  intro p e s m args below meth c H locs ls hX hH hS hl hn
  exact lv_i2b hX.1 hX.2.1 hd rfl (k p e s m args below meth c H locs ls hX hH hS hl hn)
theorem g_i2c (pc' : Nat) {x : Int32} (hd : decode F.2.1 pc = .ok (.i2c, 1)) (hp : pc + 1 = pc') (k : q_G C l F d n0 n1 Po n μ ρ lv (.int ((x.toUInt32 % 65536).toInt32) :: st) pc') : q_G C l F d n0 n1 Po n μ ρ lv (.int x :: st) pc := by
  subst hp
  intro p e s m args below meth c H locs ls hX hH hS hl hn
  exact lv_i2c hX.1 hX.2.1 hd rfl (k p e s m args below meth c H locs ls hX hH hS hl hn)
theorem g_lcmp (pc' : Nat) {x y : Int64} (hd : decode F.2.1 pc = .ok (.lcmp, 1)) (hp : pc + 1 = pc') (k : q_G C l F d n0 n1 Po n μ ρ lv (.int (lg_cmp x y) :: st) pc') : q_G C l F d n0 n1 Po n μ ρ lv (.long y :: .long x :: st) pc := by
  subst hp
  intro p e s m args below meth c H locs ls hX hH hS hl hn
  exact W.lcmp hX.1 hX.2.1 hd (k p e s m args below meth c H locs ls hX hH hS hl hn)
theorem g_iconst (pc' : Nat) (v : Int32) {i : Int} (hd : decode F.2.1 pc = .ok (.iconst i, 1)) (hp : pc + 1 = pc') (hv : Int32.ofInt i = v) (k : q_G C l F d n0 n1 Po n μ ρ lv (.int v :: st) pc') : q_G C l F d n0 n1 Po n μ ρ lv st pc := by
  subst hp
  intro p e s m args below meth c H locs ls hX hH hS hl hn
  exact lv_iconst hX.1 hX.2.1 hd hv (k p e s m args below meth c H locs ls hX hH hS hl hn)
theorem g_bipush (pc' : Nat) (v : Int32) {i : Int} (hd : decode F.2.1 pc = .ok (.bipush i, 2)) (hp : pc + 2 = pc') (hv : (Int8.ofInt i).toInt32 = v) (k : q_G C l F d n0 n1 Po n μ ρ lv (.int v :: st) pc') : q_G C l F d n0 n1 Po n μ ρ lv st pc := by
  subst hp
  intro p e s m args below meth c H locs ls hX hH hS hl hn
  exact lv_bipush hX.1 hX.2.1 hd hv (k p e s m args below meth c H locs ls hX hH hS hl hn)
theorem g_sipush (pc' : Nat) (v : Int32) {i : Int} (hd : decode F.2.1 pc = .ok (.sipush i, 3)) (hp : pc + 3 = pc') (hv : (Int16.ofInt i).toInt32 = v) (k : q_G C l F d n0 n1 Po n μ ρ lv (.int v :: st) pc') : q_G C l F d n0 n1 Po n μ ρ lv st pc := by
  subst hp
  intro p e s m args below meth c H locs ls hX hH hS hl hn
  exact lv_sipush hX.1 hX.2.1 hd hv (k p e s m args below meth c H locs ls hX hH hS hl hn)
theorem g_lconst (pc' : Nat) (v : Int64) {i : Fin 2} (hd : decode F.2.1 pc = .ok (.lconst i, 1)) (hp : pc + 1 = pc') (hv : Int64.ofNat (i : Nat) = v) (k : q_G C l F d n0 n1 Po n μ ρ lv (.long v :: st) pc') : q_G C l F d n0 n1 Po n μ ρ lv st pc := by
  subst hp
  intro p e s m args below meth c H locs ls hX hH hS hl hn
  exact lv_lconst hX.1 hX.2.1 hd hv (k p e s m args below meth c H locs ls hX hH hS hl hn)
theorem g_dup (pc' : Nat) {va : Value} (hd : decode F.2.1 pc = .ok (.dup, 1)) (hp : pc + 1 = pc') (hva : va.category = 1) (k : q_G C l F d n0 n1 Po n μ ρ lv (va :: va :: st) pc') : q_G C l F d n0 n1 Po n μ ρ lv (va :: st) pc := by
  subst hp
  intro p e s m args below meth c H locs ls hX hH hS hl hn
  exact lv_dup hX.1 hX.2.1 hd hva (k p e s m args below meth c H locs ls hX hH hS hl hn)
theorem g_pop (pc' : Nat) {va : Value} (hd : decode F.2.1 pc = .ok (.pop, 1)) (hp : pc + 1 = pc') (hva : va.category = 1) (k : q_G C l F d n0 n1 Po n μ ρ lv st pc') : q_G C l F d n0 n1 Po n μ ρ lv (va :: st) pc := by
  subst hp
  intro p e s m args below meth c H locs ls hX hH hS hl hn
  exact lv_pop hX.1 hX.2.1 hd hva (k p e s m args below meth c H locs ls hX hH hS hl hn)
theorem g_dup2 (pc' : Nat) {va vb : Value} (hd : decode F.2.1 pc = .ok (.dup2, 1)) (hp : pc + 1 = pc') (hva : va.category = 1) (hvb : vb.category = 1) (k : q_G C l F d n0 n1 Po n μ ρ lv (va :: vb :: va :: vb :: st) pc') : q_G C l F d n0 n1 Po n μ ρ lv (va :: vb :: st) pc := by
  subst hp
  intro p e s m args below meth c H locs ls hX hH hS hl hn
  exact lv_dup2_11 hX.1 hX.2.1 hd hva hvb (k p e s m args below meth c H locs ls hX hH hS hl hn)
theorem g_ldc2 (pc' : Nat) (v : Int64) {i : Nat} (hd : decode F.2.1 pc = .ok (.ldc2_w i, 3)) (hp : pc + 3 = pc') (hc : Cond.constantLong F.1.cls i v ∈ q_T) (k : q_G C l F d n0 n1 Po n μ ρ lv (.long v :: st) pc') : q_G C l F d n0 n1 Po n μ ρ lv st pc := by
  subst hp
  intro p e s m args below meth c H locs ls hX hH hS hl hn
  exact lv_ldc2 hX.1 hX.2.1 hX.2.2.2.2.1 (hX.2.2.2.2.2.1 _ hc) hd (k p e s m args below meth c H locs ls hX hH hS hl hn)
theorem g_ldcw (pc' : Nat) (v : Int32) {i : Nat} (hd : decode F.2.1 pc = .ok (.ldc_w i, 3)) (hp : pc + 3 = pc') (hc : Cond.constant F.1.cls i v ∈ q_T) (k : q_G C l F d n0 n1 Po n μ ρ lv (.int v :: st) pc') : q_G C l F d n0 n1 Po n μ ρ lv st pc := by
  subst hp
  intro p e s m args below meth c H locs ls hX hH hS hl hn
  exact lv_ldcw hX.1 hX.2.1 hX.2.2.2.2.1 (hX.2.2.2.2.2.1 _ hc) hd (k p e s m args below meth c H locs ls hX hH hS hl hn)
theorem g_iload_n (pc' : Nat) {i : Fin 4} {x : Int32} (hd : decode F.2.1 pc = .ok (.iload_n i, 1)) (hp : pc + 1 = pc') (hk : q_get (i : Nat) lv = some (.int x)) (k : q_G C l F d n0 n1 Po n μ ρ lv (.int x :: st) pc') : q_G C l F d n0 n1 Po n μ ρ lv st pc := by
  subst hp
  intro p e s m args below meth c H locs ls hX hH hS hl hn
  exact lv_iload_n hX.1 hX.2.1 hd rfl (q_hat hl hk) (k p e s m args below meth c H locs ls hX hH hS hl hn)
theorem g_iload (pc' : Nat) {i : Nat} {x : Int32} (hd : decode F.2.1 pc = .ok (.iload i, 2)) (hp : pc + 2 = pc') (hk : q_get i lv = some (.int x)) (k : q_G C l F d n0 n1 Po n μ ρ lv (.int x :: st) pc') : q_G C l F d n0 n1 Po n μ ρ lv st pc := by
  subst hp
  intro p e s m args below meth c H locs ls hX hH hS hl hn
  exact lv_iload hX.1 hX.2.1 hd (q_hat hl hk) (k p e s m args below meth c H locs ls hX hH hS hl hn)
theorem g_istore_n (pc' : Nat) {i : Fin 4} {x : Int32} (hd : decode F.2.1 pc = .ok (.istore_n i, 1)) (hp : pc + 1 = pc') (hi : (i : Nat) < F.2.2.1) (k : q_G C l F d n0 n1 Po n μ ρ (((i : Nat), .int x) :: lv) st pc') : q_G C l F d n0 n1 Po n μ ρ lv (.int x :: st) pc := by
  subst hp
  intro p e s m args below meth c H locs ls hX hH hS hl hn
  exact lv_istore_n hX.1 hX.2.1 hd rfl hl hi (q_dd1 rfl) (fun ls hl => k p e s m args below meth c H locs ls hX hH hS hl hn)
theorem g_istore (pc' : Nat) {i : Nat} {x : Int32} (hd : decode F.2.1 pc = .ok (.istore i, 2)) (hp : pc + 2 = pc') (hi : i < F.2.2.1) (k : q_G C l F d n0 n1 Po n μ ρ ((i, .int x) :: lv) st pc') : q_G C l F d n0 n1 Po n μ ρ lv (.int x :: st) pc := by
  subst hp
  intro p e s m args below meth c H locs ls hX hH hS hl hn
  exact lv_istore hX.1 hX.2.1 hd hl hi (q_dd1 rfl) (fun ls hl => k p e s m args below meth c H locs ls hX hH hS hl hn)
theorem g_lload_n (pc' : Nat) {i : Fin 4} {x : Int64} (hd : decode F.2.1 pc = .ok (.lload_n i, 1)) (hp : pc + 1 = pc') (hk : q_get (i : Nat) lv = some (.long x)) (k : q_G C l F d n0 n1 Po n μ ρ lv (.long x :: st) pc') : q_G C l F d n0 n1 Po n μ ρ lv st pc := by
  subst hp
  intro p e s m args below meth c H locs ls hX hH hS hl hn
  exact lv_lload_n hX.1 hX.2.1 hd rfl (q_hat hl hk) (k p e s m args below meth c H locs ls hX hH hS hl hn)
theorem g_lload (pc' : Nat) {i : Nat} {x : Int64} (hd : decode F.2.1 pc = .ok (.lload i, 2)) (hp : pc + 2 = pc') (hk : q_get i lv = some (.long x)) (k : q_G C l F d n0 n1 Po n μ ρ lv (.long x :: st) pc') : q_G C l F d n0 n1 Po n μ ρ lv st pc := by
  subst hp
  intro p e s m args below meth c H locs ls hX hH hS hl hn
  exact lv_lload hX.1 hX.2.1 hd (q_hat hl hk) (k p e s m args below meth c H locs ls hX hH hS hl hn)
theorem g_lstore_n (pc' : Nat) {i : Fin 4} {x : Int64} (hd : decode F.2.1 pc = .ok (.lstore_n i, 1)) (hp : pc + 1 = pc') (hi : (i : Nat) + 1 < F.2.2.1) (k : q_G C l F d n0 n1 Po n μ ρ (((i : Nat), .long x) :: lv) st pc') : q_G C l F d n0 n1 Po n μ ρ lv (.long x :: st) pc := by
  subst hp
  intro p e s m args below meth c H locs ls hX hH hS hl hn
  exact lv_lstore_n hX.1 hX.2.1 hd rfl hl hi (q_dd2 rfl) (fun ls hl => k p e s m args below meth c H locs ls hX hH hS hl hn)
theorem g_lstore (pc' : Nat) {i : Nat} {x : Int64} (hd : decode F.2.1 pc = .ok (.lstore i, 2)) (hp : pc + 2 = pc') (hi : i + 1 < F.2.2.1) (k : q_G C l F d n0 n1 Po n μ ρ ((i, .long x) :: lv) st pc') : q_G C l F d n0 n1 Po n μ ρ lv (.long x :: st) pc := by
  subst hp
  intro p e s m args below meth c H locs ls hX hH hS hl hn
  exact lv_lstore hX.1 hX.2.1 hd hl hi (q_dd2 rfl) (fun ls hl => k p e s m args below meth c H locs ls hX hH hS hl hn)
theorem g_aload_n (pc' : Nat) {i : Fin 4} {x : Nat} (hd : decode F.2.1 pc = .ok (.aload_n i, 1)) (hp : pc + 1 = pc') (hk : q_get (i : Nat) lv = some (.ref x)) (k : q_G C l F d n0 n1 Po n μ ρ lv (.ref x :: st) pc') : q_G C l F d n0 n1 Po n μ ρ lv st pc := by
  subst hp
  intro p e s m args below meth c H locs ls hX hH hS hl hn
  exact lv_aload_n hX.1 hX.2.1 hd rfl (q_hat hl hk) (k p e s m args below meth c H locs ls hX hH hS hl hn)
theorem g_aload (pc' : Nat) {i : Nat} {x : Nat} (hd : decode F.2.1 pc = .ok (.aload i, 2)) (hp : pc + 2 = pc') (hk : q_get i lv = some (.ref x)) (k : q_G C l F d n0 n1 Po n μ ρ lv (.ref x :: st) pc') : q_G C l F d n0 n1 Po n μ ρ lv st pc := by
  subst hp
  intro p e s m args below meth c H locs ls hX hH hS hl hn
  exact lv_aload hX.1 hX.2.1 hd (q_hat hl hk) (k p e s m args below meth c H locs ls hX hH hS hl hn)
theorem g_astore_n (pc' : Nat) {i : Fin 4} {x : Nat} (hd : decode F.2.1 pc = .ok (.astore_n i, 1)) (hp : pc + 1 = pc') (hi : (i : Nat) < F.2.2.1) (k : q_G C l F d n0 n1 Po n μ ρ (((i : Nat), .ref x) :: lv) st pc') : q_G C l F d n0 n1 Po n μ ρ lv (.ref x :: st) pc := by
  subst hp
  intro p e s m args below meth c H locs ls hX hH hS hl hn
  exact lv_astore_n hX.1 hX.2.1 hd rfl hl hi (q_dd1 rfl) (fun ls hl => k p e s m args below meth c H locs ls hX hH hS hl hn)
theorem g_astore (pc' : Nat) {i : Nat} {x : Nat} (hd : decode F.2.1 pc = .ok (.astore i, 2)) (hp : pc + 2 = pc') (hi : i < F.2.2.1) (k : q_G C l F d n0 n1 Po n μ ρ ((i, .ref x) :: lv) st pc') : q_G C l F d n0 n1 Po n μ ρ lv (.ref x :: st) pc := by
  subst hp
  intro p e s m args below meth c H locs ls hX hH hS hl hn
  exact lv_astore hX.1 hX.2.1 hd hl hi (q_dd1 rfl) (fun ls hl => k p e s m args below meth c H locs ls hX hH hS hl hn)
theorem g_iinc (pc' : Nat) (v : Int32) {i : Nat} {z : Int} {x : Int32} (hd : decode F.2.1 pc = .ok (.iinc i z, 3)) (hp : pc + 3 = pc') (hk : q_get i lv = some (.int x)) (hv : x + Int32.ofInt z = v) (hi : i < F.2.2.1) (k : q_G C l F d n0 n1 Po n μ ρ ((i, .int v) :: lv) st pc') : q_G C l F d n0 n1 Po n μ ρ lv st pc := by
  subst hp
  intro p e s m args below meth c H locs ls hX hH hS hl hn
  obtain ⟨kk, hkk⟩ := List.getElem?_of_mem (q_get_mem hk)
  exact lv_iinc hX.1 hX.2.1 hd hl hkk hv hi (q_dd1 rfl) (fun ls hl => k p e s m args below meth c H locs ls hX hH hS hl hn)
theorem g_icmp_eq (pt pc' : Nat) {off : Int} {x y : Int32} (hd : decode F.2.1 pc = .ok (.if_icmp .eq off, 3)) (hp : pc + 3 = pc') (ht : (pc : Int) + off = (pt : Int)) (kt : x = y → q_G C l F d n0 n1 Po n μ ρ lv st pt) (kf : ¬ x = y → q_G C l F d n0 n1 Po n μ ρ lv st pc') : q_G C l F d n0 n1 Po n μ ρ lv (.int y :: .int x :: st) pc := by
  subst hp
  intro p e s m args below meth c H locs ls hX hH hS hl hn
  exact lv_icmp_eq hX.1 hX.2.1 hd ht (fun c9 => kt c9 p e s m args below meth c H locs ls hX hH hS hl hn) (fun c9 => kf c9 p e s m args below meth c H locs ls hX hH hS hl hn)
theorem g_if_eq (pt pc' : Nat) {off : Int} {x : Int32} (hd : decode F.2.1 pc = .ok (.ifCond .eq off, 3)) (hp : pc + 3 = pc') (ht : (pc : Int) + off = (pt : Int)) (kt : x = 0 → q_G C l F d n0 n1 Po n μ ρ lv st pt) (kf : ¬ x = 0 → q_G C l F d n0 n1 Po n μ ρ lv st pc') : q_G C l F d n0 n1 Po n μ ρ lv (.int x :: st) pc := by
  subst hp
  intro p e s m args below meth c H locs ls hX hH hS hl hn
  exact lv_if_eq hX.1 hX.2.1 hd ht (fun c9 => kt c9 p e s m args below meth c H locs ls hX hH hS hl hn) (fun c9 => kf c9 p e s m args below meth c H locs ls hX hH hS hl hn)
theorem g_icmp_ne (pt pc' : Nat) {off : Int} {x y : Int32} (hd : decode F.2.1 pc = .ok (.if_icmp .ne off, 3)) (hp : pc + 3 = pc') (ht : (pc : Int) + off = (pt : Int)) (kt : ¬ x = y → q_G C l F d n0 n1 Po n μ ρ lv st pt) (kf : x = y → q_G C l F d n0 n1 Po n μ ρ lv st pc') : q_G C l F d n0 n1 Po n μ ρ lv (.int y :: .int x :: st) pc := by
  subst hp
  intro p e s m args below meth c H locs ls hX hH hS hl hn
  exact lv_icmp_ne hX.1 hX.2.1 hd ht (fun c9 => kt c9 p e s m args below meth c H locs ls hX hH hS hl hn) (fun c9 => kf c9 p e s m args below meth c H locs ls hX hH hS hl hn)
theorem g_if_ne (pt pc' : Nat) {off : Int} {x : Int32} (hd : decode F.2.1 pc = .ok (.ifCond .ne off, 3)) (hp : pc + 3 = pc') (ht : (pc : Int) + off = (pt : Int)) (kt : ¬ x = 0 → q_G C l F d n0 n1 Po n μ ρ lv st pt) (kf : x = 0 → q_G C l F d n0 n1 Po n μ ρ lv st pc') : q_G C l F d n0 n1 Po n μ ρ lv (.int x :: st) pc := by
  subst hp
  intro p e s m args below meth c H locs ls hX hH hS hl hn
  exact lv_if_ne hX.1 hX.2.1 hd ht (fun c9 => kt c9 p e s m args below meth c H locs ls hX hH hS hl hn) (fun c9 => kf c9 p e s m args below meth c H locs ls hX hH hS hl hn)
theorem g_icmp_lt (pt pc' : Nat) {off : Int} {x y : Int32} (hd : decode F.2.1 pc = .ok (.if_icmp .lt off, 3)) (hp : pc + 3 = pc') (ht : (pc : Int) + off = (pt : Int)) (kt : x < y → q_G C l F d n0 n1 Po n μ ρ lv st pt) (kf : ¬ x < y → q_G C l F d n0 n1 Po n μ ρ lv st pc') : q_G C l F d n0 n1 Po n μ ρ lv (.int y :: .int x :: st) pc := by
  subst hp
  intro p e s m args below meth c H locs ls hX hH hS hl hn
  exact lv_icmp_lt hX.1 hX.2.1 hd ht (fun c9 => kt c9 p e s m args below meth c H locs ls hX hH hS hl hn) (fun c9 => kf c9 p e s m args below meth c H locs ls hX hH hS hl hn)
theorem g_if_lt (pt pc' : Nat) {off : Int} {x : Int32} (hd : decode F.2.1 pc = .ok (.ifCond .lt off, 3)) (hp : pc + 3 = pc') (ht : (pc : Int) + off = (pt : Int)) (kt : x < 0 → q_G C l F d n0 n1 Po n μ ρ lv st pt) (kf : ¬ x < 0 → q_G C l F d n0 n1 Po n μ ρ lv st pc') : q_G C l F d n0 n1 Po n μ ρ lv (.int x :: st) pc := by
  subst hp
  intro p e s m args below meth c H locs ls hX hH hS hl hn
  exact lv_if_lt hX.1 hX.2.1 hd ht (fun c9 => kt c9 p e s m args below meth c H locs ls hX hH hS hl hn) (fun c9 => kf c9 p e s m args below meth c H locs ls hX hH hS hl hn)
theorem g_icmp_ge (pt pc' : Nat) {off : Int} {x y : Int32} (hd : decode F.2.1 pc = .ok (.if_icmp .ge off, 3)) (hp : pc + 3 = pc') (ht : (pc : Int) + off = (pt : Int)) (kt : y ≤ x → q_G C l F d n0 n1 Po n μ ρ lv st pt) (kf : ¬ y ≤ x → q_G C l F d n0 n1 Po n μ ρ lv st pc') : q_G C l F d n0 n1 Po n μ ρ lv (.int y :: .int x :: st) pc := by
  subst hp
  intro p e s m args below meth c H locs ls hX hH hS hl hn
  exact lv_icmp_ge hX.1 hX.2.1 hd ht (fun c9 => kt c9 p e s m args below meth c H locs ls hX hH hS hl hn) (fun c9 => kf c9 p e s m args below meth c H locs ls hX hH hS hl hn)
theorem g_if_ge (pt pc' : Nat) {off : Int} {x : Int32} (hd : decode F.2.1 pc = .ok (.ifCond .ge off, 3)) (hp : pc + 3 = pc') (ht : (pc : Int) + off = (pt : Int)) (kt : 0 ≤ x → q_G C l F d n0 n1 Po n μ ρ lv st pt) (kf : ¬ 0 ≤ x → q_G C l F d n0 n1 Po n μ ρ lv st pc') : q_G C l F d n0 n1 Po n μ ρ lv (.int x :: st) pc := by
  subst hp
  intro p e s m args below meth c H locs ls hX hH hS hl hn
  exact lv_if_ge hX.1 hX.2.1 hd ht (fun c9 => kt c9 p e s m args below meth c H locs ls hX hH hS hl hn) (fun c9 => kf c9 p e s m args below meth c H locs ls hX hH hS hl hn)
theorem g_icmp_gt (pt pc' : Nat) {off : Int} {x y : Int32} (hd : decode F.2.1 pc = .ok (.if_icmp .gt off, 3)) (hp : pc + 3 = pc') (ht : (pc : Int) + off = (pt : Int)) (kt : y < x → q_G C l F d n0 n1 Po n μ ρ lv st pt) (kf : ¬ y < x → q_G C l F d n0 n1 Po n μ ρ lv st pc') : q_G C l F d n0 n1 Po n μ ρ lv (.int y :: .int x :: st) pc := by
  subst hp
  intro p e s m args below meth c H locs ls hX hH hS hl hn
  exact lv_icmp_gt hX.1 hX.2.1 hd ht (fun c9 => kt c9 p e s m args below meth c H locs ls hX hH hS hl hn) (fun c9 => kf c9 p e s m args below meth c H locs ls hX hH hS hl hn)
theorem g_if_gt (pt pc' : Nat) {off : Int} {x : Int32} (hd : decode F.2.1 pc = .ok (.ifCond .gt off, 3)) (hp : pc + 3 = pc') (ht : (pc : Int) + off = (pt : Int)) (kt : 0 < x → q_G C l F d n0 n1 Po n μ ρ lv st pt) (kf : ¬ 0 < x → q_G C l F d n0 n1 Po n μ ρ lv st pc') : q_G C l F d n0 n1 Po n μ ρ lv (.int x :: st) pc := by
  subst hp
  intro p e s m args below meth c H locs ls hX hH hS hl hn
  exact lv_if_gt hX.1 hX.2.1 hd ht (fun c9 => kt c9 p e s m args below meth c H locs ls hX hH hS hl hn) (fun c9 => kf c9 p e s m args below meth c H locs ls hX hH hS hl hn)
theorem g_icmp_le (pt pc' : Nat) {off : Int} {x y : Int32} (hd : decode F.2.1 pc = .ok (.if_icmp .le off, 3)) (hp : pc + 3 = pc') (ht : (pc : Int) + off = (pt : Int)) (kt : x ≤ y → q_G C l F d n0 n1 Po n μ ρ lv st pt) (kf : ¬ x ≤ y → q_G C l F d n0 n1 Po n μ ρ lv st pc') : q_G C l F d n0 n1 Po n μ ρ lv (.int y :: .int x :: st) pc := by
  subst hp
  intro p e s m args below meth c H locs ls hX hH hS hl hn
  exact lv_icmp_le hX.1 hX.2.1 hd ht (fun c9 => kt c9 p e s m args below meth c H locs ls hX hH hS hl hn) (fun c9 => kf c9 p e s m args below meth c H locs ls hX hH hS hl hn)
theorem g_if_le (pt pc' : Nat) {off : Int} {x : Int32} (hd : decode F.2.1 pc = .ok (.ifCond .le off, 3)) (hp : pc + 3 = pc') (ht : (pc : Int) + off = (pt : Int)) (kt : x ≤ 0 → q_G C l F d n0 n1 Po n μ ρ lv st pt) (kf : ¬ x ≤ 0 → q_G C l F d n0 n1 Po n μ ρ lv st pc') : q_G C l F d n0 n1 Po n μ ρ lv (.int x :: st) pc := by
  subst hp
  intro p e s m args below meth c H locs ls hX hH hS hl hn
  exact lv_if_le hX.1 hX.2.1 hd ht (fun c9 => kt c9 p e s m args below meth c H locs ls hX hH hS hl hn) (fun c9 => kf c9 p e s m args below meth c H locs ls hX hH hS hl hn)
theorem g_goto (pt : Nat) {off : Int} (hd : decode F.2.1 pc = .ok (.goto off, 3)) (ht : (pc : Int) + off = (pt : Int)) (k : q_G C l F d n0 n1 Po n μ ρ lv st pt) : q_G C l F d n0 n1 Po n μ ρ lv st pc := by
  intro p e s m args below meth c H locs ls hX hH hS hl hn
  exact lv_goto hX.1 hX.2.1 hd ht (k p e s m args below meth c H locs ls hX hH hS hl hn)
theorem g_tabIn (pt : Nat) {dflt lo hi : Int} {offs : Array Int} {len : Nat} {x : Int32} {off : Int} (hd : decode F.2.1 pc = .ok (.tableswitch dflt lo hi offs, len)) (h1 : ¬ x.toInt < lo) (h2 : ¬ hi < x.toInt) (ho : offs[(x.toInt - lo).toNat]? = some off) (ht : (pc : Int) + off = (pt : Int)) (k : q_G C l F d n0 n1 Po n μ ρ lv st pt) : q_G C l F d n0 n1 Po n μ ρ lv (.int x :: st) pc := by
  intro p e s m args below meth c H locs ls hX hH hS hl hn
  exact lv_tableIn hX.1 hX.2.1 hd h1 h2 ho ht (k p e s m args below meth c H locs ls hX hH hS hl hn)
theorem g_tabOut (pt : Nat) {dflt lo hi : Int} {offs : Array Int} {len : Nat} {x : Int32} (hd : decode F.2.1 pc = .ok (.tableswitch dflt lo hi offs, len)) (h : x.toInt < lo ∨ hi < x.toInt) (ht : (pc : Int) + dflt = (pt : Int)) (k : q_G C l F d n0 n1 Po n μ ρ lv st pt) : q_G C l F d n0 n1 Po n μ ρ lv (.int x :: st) pc := by
  intro p e s m args below meth c H locs ls hX hH hS hl hn
  exact lv_tableOut hX.1 hX.2.1 hd h ht (k p e s m args below meth c H locs ls hX hH hS hl hn)
theorem g_look (pt : Nat) {dflt : Int} {ps : Array (Int × Int)} {len : Nat} {x : Int32} {off : Int} (hd : decode F.2.1 pc = .ok (.lookupswitch dflt ps, len)) (hs : (ps.toList.zip (ps.toList.drop 1)).all (fun (a, next) => a.1 < next.1) = true) (ho : Op.lookupswitch.offset ps.toList dflt x.toInt = off) (ht : (pc : Int) + off = (pt : Int)) (k : q_G C l F d n0 n1 Po n μ ρ lv st pt) : q_G C l F d n0 n1 Po n μ ρ lv (.int x :: st) pc := by
  intro p e s m args below meth c H locs ls hX hH hS hl hn
  exact lv_lookup hX.1 hX.2.1 hd hs ho ht (k p e s m args below meth c H locs ls hX hH hS hl hn)
theorem g_iret {v : Int32} (hd : decode F.2.1 pc = .ok (.ireturn, 1)) (hr : F.2.2.2 = some .int) (he : n = n1) (hPo : Po (some (.int v)) μ ρ) : q_G C l F d n0 n1 Po n μ ρ lv [.int v] pc := by
  intro p e s m args below meth c H locs ls hX hH hS hl hn
  subst he
  have hlk := hX.2.2.2.2.2.2.1
  exact W.iret hX.1 hX.2.1 (hX.2.2.1.trans hr) (fun t ht hW => ⟨⟨_, μ, ρ, rfl, hPo, by rw [ht]; exact hH⟩, hS.F ht⟩) hS.2.2 hd hlk
theorem g_zret {v : Int32} (hd : decode F.2.1 pc = .ok (.ireturn, 1)) (hr : F.2.2.2 = some .boolean) (hz : v = 0 ∨ v = 1) (he : n = n1) (hPo : Po (some (.int v)) μ ρ) : q_G C l F d n0 n1 Po n μ ρ lv [.int v] pc := by
  intro p e s m args below meth c H locs ls hX hH hS hl hn
  subst he
  have hlk := hX.2.2.2.2.2.2.1
  exact W.zret (ty := .boolean) hX.1 hX.2.1 (hX.2.2.1.trans hr) (by rcases hz with rfl | rfl <;> decide) (fun t ht hW => ⟨⟨_, μ, ρ, rfl, hPo, by rw [ht]; exact hH⟩, hS.F ht⟩) hS.2.2 hd hlk
theorem g_vret (hd : decode F.2.1 pc = .ok (.return_, 1)) (hr : F.2.2.2 = none) (he : n = n1) (hPo : Po none μ ρ) : q_G C l F d n0 n1 Po n μ ρ lv [] pc := by
  intro p e s m args below meth c H locs ls hX hH hS hl hn
  subst he
  have hlk := hX.2.2.2.2.2.2.1
  exact W.vret hX.1 hX.2.1 (hX.2.2.1.trans hr) (fun t ht hW => ⟨⟨_, μ, ρ, rfl, hPo, by rw [ht]; exact hH⟩, hS.F ht⟩) hS.2.2 hd hlk
end QG
end
section
/-! ===== rules: fields and arrays ===== -/
section QH
variable {C : q_C} {l : Launch} {F : q_F} {d n0 n1 : Nat} {Po : q_P} {n : Nat} {μ : q_M} {ρ : q_R} {lv : List (Nat × Value)} {st : List Value} {pc : Nat}
theorem g_getI (pc' : Nat) {c idx ci N k : Nat} {ty : FieldType} {fin : Bool} (hd : decode F.2.1 pc = .ok (.getfield idx, 3)) (hp : pc + 3 = pc') (hf : q_fld F.1.cls idx ci N k ty fin) (hc : c < n) (hk : q_kd c = (ci, N)) (hr : q_isr ci k = false) (kk : q_G C l F d n0 n1 Po n μ ρ lv (.int (μ c k) :: st) pc') : q_G C l F d n0 n1 Po n μ ρ lv (.ref (q_a C c) :: st) pc := by
  subst hp
  intro p e s m args below meth c9 H locs ls hX hH hS hl hn
  obtain ⟨E, T, tys, e1, e2, e3, e4, e5, e6, e7, e8, e9⟩ := hf
  have h9 : ci < 9 := (List.getElem?_eq_some_iff.mp e1).1
  have hat := hH.2 c hc
  unfold q_at at hat
  rw [hk, if_pos h9] at hat
  obtain ⟨cell, q1, q2, q3, q4⟩ := hat
  have hts := hX.2.2.2.2.2.1
  have hK := hX.2.2.2.2.2.2.2.2.1
  obtain ⟨hSl, hfc, kC, hkC, hkind⟩ := hK.1 ci _ e1
  obtain ⟨cf, kf, fi, f, hi, hsl⟩ := hSl k e5
  refine W.getf hX.1 hX.2.1 hX.2.2.2.2.1 (hts _ e6) hi (u_facts hfc hkC (u_lays hts e2 e5) hi).1 q1 (by rw [q3]; exact fun h => by cases h) (v := .int (μ c k)) ?_ rfl rfl hd (kk p e s m args below meth c9 H locs ls hX hH hS hl hn)
  have q5 := q4 k e5
  rw [hsl, q5]
  simp [q_V, hk, hr]
theorem g_getR (pc' : Nat) (r : Nat) {c idx ci N k : Nat} {ty : FieldType} {fin : Bool} (hd : decode F.2.1 pc = .ok (.getfield idx, 3)) (hp : pc + 3 = pc') (hf : q_fld F.1.cls idx ci N k ty fin) (hc : c < n) (hk : q_kd c = (ci, N)) (hr : q_isr ci k = true) (hv : ρ c k = some r) (kk : q_G C l F d n0 n1 Po n μ ρ lv (.ref (q_a C r) :: st) pc') : q_G C l F d n0 n1 Po n μ ρ lv (.ref (q_a C c) :: st) pc := by
  subst hp
  intro p e s m args below meth c9 H locs ls hX hH hS hl hn
  obtain ⟨E, T, tys, e1, e2, e3, e4, e5, e6, e7, e8, e9⟩ := hf
  have h9 : ci < 9 := (List.getElem?_eq_some_iff.mp e1).1
  have hat := hH.2 c hc
  unfold q_at at hat
  rw [hk, if_pos h9] at hat
  obtain ⟨cell, q1, q2, q3, q4⟩ := hat
  have hts := hX.2.2.2.2.2.1
  have hK := hX.2.2.2.2.2.2.2.2.1
  obtain ⟨hSl, hfc, kC, hkC, hkind⟩ := hK.1 ci _ e1
  obtain ⟨cf, kf, fi, f, hi, hsl⟩ := hSl k e5
  refine W.getf hX.1 hX.2.1 hX.2.2.2.2.1 (hts _ e6) hi (u_facts hfc hkC (u_lays hts e2 e5) hi).1 q1 (by rw [q3]; exact fun h => by cases h) (v := .ref (q_a C r)) ?_ rfl rfl hd (kk p e s m args below meth c9 H locs ls hX hH hS hl hn)
  have q5 := q4 k e5
  rw [hsl, q5]
  simp [q_V, hk, hr, hv, va_rf]
theorem q_put {p : Program} {e : Env} {s : State} {m : MethodId} {args : Array Value} {below : List Frame} {meth : Method} {c9 : Code} {H : Heap} {locs : List Loc} {ls : Array Slot} {R : Room} {cells slots : Nat} {Q : State → Prop} {c idx ci N k : Nat} {ty : FieldType} {fin : Bool} {v : Value} (hd : decode F.2.1 pc = .ok (.putfield idx, 3)) (hf : q_fld F.1.cls idx ci N k ty fin) (hc : c < n) (hk : q_kd c = (ci, N)) (hfin : fin = false ∨ (F.1.name = "<init>" ∧ vwCl[ci]?.map (fun q => q.1) = some F.1.cls)) (hnr : narrow ty v = v) (hft : fits ty v = true)
    (hX : q_X C p F s m args meth c9) (hH : q_H C n μ ρ H)
    (kk : ∀ (H1 : Heap) (k9 : Nat), H1.size = H.size → (∀ q, q ≠ q_a C c → H1[q]? = H[q]?) → q_at C c (updV (q_V C μ ρ c) k v) H1 → W p l e R s m args below meth c9 H1 (locs ++ [⟨q_a C c, k9⟩]) cells slots Q (F0 m (pc + 3) ls st)) : W p l e R s m args below meth c9 H locs cells slots Q (F0 m pc ls (v :: .ref (q_a C c) :: st)) := by
  obtain ⟨E, T, tys, e1, e2, e3, e4, e5, e6, e7, e8, e9⟩ := hf
  have h9 : ci < 9 := (List.getElem?_eq_some_iff.mp e1).1
  have hat := hH.2 c hc
  unfold q_at at hat
  rw [hk, if_pos h9] at hat
  obtain ⟨cell, q1, q2, q3, q4⟩ := hat
  have hts := hX.2.2.2.2.2.1
  have hK := hX.2.2.2.2.2.2.2.2.1
  have hap := va_apart (own := "") (s := s) (args := args) hts e2 tys e3 e4 hK e1
  obtain ⟨hSl, hfc, kC, hkC, hkind⟩ := hK.1 ci _ e1
  obtain ⟨cf, kf, fi, f, hi, hsl⟩ := hSl k e5
  have hlay := hts _ (e2 _ (u_in_lay e5))
  unfold u_lay at hlay
  have hst := (u_facts hfc hkC (u_lays hts e2 e5) hi).1
  have hpd : parseFieldDescriptor (T k).2.2.1 = some ty := by rw [e3 k e5, e7]
  have key : ∀ H' : Heap, H'[q_a C c]? = some (cell.setSlot f.slot v) → H'.size = H.size → (∀ q, q ≠ q_a C c → H'[q]? = H[q]?) → W p l e R s m args below meth c9 H' (locs ++ [⟨q_a C c, f.slot⟩]) cells slots Q (F0 m (pc + 3) ls st) := by
    intro H' f1 f2 f3
    refine kk H' f.slot f2 f3 ?_
    unfold q_at
    rw [hk, if_pos h9]
    rw [hsl] at f1
    exact ⟨_, f1, q2, q3, t_set q4 hap e5 v⟩
  cases hfe : fin with
  | false =>
    rw [if_neg (by rw [e8, hfe]; decide)] at hlay
    have h6 := u_store hfc hkC hkind hlay hi hpd hnr hft
    exact W.putK hX.1 hX.2.1 (f := f) ⟨hX.2.2.2.2.1, hts _ e6, ⟨_, _, _, hi⟩, hst⟩ (by rw [q2]; exact h6) q1 q3 (by rw [hsl]; exact k2_hasslot (q4 k e5)) rfl rfl hd key
  | true =>
    rw [if_pos (by rw [e8, hfe])] at hlay
    obtain ⟨hin2, hE⟩ : F.1.name = "<init>" ∧ vwCl[ci]?.map (fun q => q.1) = some F.1.cls := by
      rcases hfin with h | h
      · rw [hfe] at h; cases h
      · exact h
    have hEo : E = F.1.cls := by rw [e1] at hE; exact Option.some.inj hE
    have hcf : m.cls = cf := by
      obtain ⟨_, _, c', _, _, _, -, -, hf', -, -, -, hown2, -⟩ := Cond.laysFinal_spec hlay
      have e1' : c' = cf := by have := hi.symm.trans hf'; simp at this; exact this.1.symm
      rw [e9, hEo] at hown2
      rw [← e1']; exact Option.some.inj (hX.2.2.2.2.1.symm.trans hown2)
    have h6 := u_fits hfc hkC hkind (Or.inr hlay) hi hpd hnr hft
    exact W.putFinK hX.1 hX.2.1 hX.2.2.2.2.1 (hts _ e6) hi hst hcf (hX.2.2.2.2.2.2.2.1.trans hin2) (by rw [q2]; exact h6) q1 q3 (by rw [hsl]; exact k2_hasslot (q4 k e5)) rfl rfl hd key
theorem q_Aa {C : q_C} {c : Nat} : q_A C (q_a C c) := Nat.le_add_right _ _
theorem g_putI (pc' : Nat) {c idx ci N k : Nat} {fin : Bool} {x : Int32} (hd : decode F.2.1 pc = .ok (.putfield idx, 3)) (hp : pc + 3 = pc') (hf : q_fld F.1.cls idx ci N k .int fin) (hc : c < n) (hk : q_kd c = (ci, N)) (hr : q_isr ci k = false) (hfin : fin = false ∨ (F.1.name = "<init>" ∧ vwCl[ci]?.map (fun q => q.1) = some F.1.cls)) (kk : q_G C l F d n0 n1 Po n (q_up μ c k x) ρ lv st pc') : q_G C l F d n0 n1 Po n μ ρ lv (.int x :: .ref (q_a C c) :: st) pc := by
  subst hp
  intro p e s m args below meth c9 H locs ls hX hH hS hl hn
  refine q_put hd hf hc hk hfin rfl rfl hX hH (fun H1 k9 z oq ha => ?_)
  exact kk p e s m args below meth c9 H1 _ ls hX (hH.setI z oq (by rw [hk]; exact hr) ha) (hS.put z oq q_Aa) hl hn
theorem g_putZ (pc' : Nat) {c idx ci N k : Nat} {x : Int32} (hd : decode F.2.1 pc = .ok (.putfield idx, 3)) (hp : pc + 3 = pc') (hf : q_fld F.1.cls idx ci N k .boolean false) (hc : c < n) (hk : q_kd c = (ci, N)) (hr : q_isr ci k = false) (hz : x = 0 ∨ x = 1) (kk : q_G C l F d n0 n1 Po n (q_up μ c k x) ρ lv st pc') : q_G C l F d n0 n1 Po n μ ρ lv (.int x :: .ref (q_a C c) :: st) pc := by
  subst hp
  intro p e s m args below meth c9 H locs ls hX hH hS hl hn
  refine q_put hd hf hc hk (Or.inl rfl) (by rcases hz with rfl | rfl <;> decide) (by rcases hz with rfl | rfl <;> decide) hX hH (fun H1 k9 z oq ha => ?_)
  exact kk p e s m args below meth c9 H1 _ ls hX (hH.setI z oq (by rw [hk]; exact hr) ha) (hS.put z oq q_Aa) hl hn
theorem g_putR (pc' : Nat) {c r idx ci N k : Nat} {ty : FieldType} {fin : Bool} (hd : decode F.2.1 pc = .ok (.putfield idx, 3)) (hp : pc + 3 = pc') (hf : q_fld F.1.cls idx ci N k ty fin) (hc : c < n) (hk : q_kd c = (ci, N)) (hr : q_isr ci k = true) (hfin : fin = false ∨ (F.1.name = "<init>" ∧ vwCl[ci]?.map (fun q => q.1) = some F.1.cls)) (hty : ty.isReference = true) (kk : q_G C l F d n0 n1 Po n μ (q_up ρ c k (some r)) lv st pc') : q_G C l F d n0 n1 Po n μ ρ lv (.ref (q_a C r) :: .ref (q_a C c) :: st) pc := by
  subst hp
  intro p e s m args below meth c9 H locs ls hX hH hS hl hn
  refine q_put hd hf hc hk hfin (by cases ty <;> first | rfl | cases hty) (by cases ty <;> first | rfl | cases hty) hX hH (fun H1 k9 z oq ha => ?_)
  exact kk p e s m args below meth c9 H1 _ ls hX (hH.setR z oq (by rw [hk]; exact hr) ha) (hS.put z oq q_Aa) hl hn
theorem q_arr {C : q_C} {n : Nat} {μ : q_M} {ρ : q_R} {H : Heap} {c kd N : Nat} (hH : q_H C n μ ρ H) (hc : c < n) (hk : q_kd c = (kd, N)) (h9 : ¬ kd < 9) : H[q_a C c]? = some (arrV (q_cA C (kd - 9)) N (q_V C μ ρ c)) := by
  have hat := hH.2 c hc
  unfold q_at at hat
  rw [hk, if_neg h9] at hat
  exact hat
theorem g_iald (pc' : Nat) {c N : Nat} {i : Int32} (hd : decode F.2.1 pc = .ok (.iaload, 1)) (hp : pc + 1 = pc') (hc : c < n) (hk : q_kd c = (10, N)) (hin : vp_in i N) (kk : q_G C l F d n0 n1 Po n μ ρ lv (.int (μ c i.toNatClampNeg) :: st) pc') : q_G C l F d n0 n1 Po n μ ρ lv (.int i :: .ref (q_a C c) :: st) pc := by
  subst hp
  intro p e s m args below meth c9 H locs ls hX hH hS hl hn
  have hlt : i.toNatClampNeg < N := Nat.not_le.mp fun q => hin (Or.inr q)
  have hK := hX.2.2.2.2.2.2.2.2.1
  exact W.iald (v := .int (μ c i.toNatClampNeg)) hX.1 hX.2.1 (q_arr hH hc hk (by decide)) ((hK.2 1 _ rfl).1 N _) (fun q => by cases q) (by rw [arrV_size]; exact hin) (by rw [arrV_read _ _ hlt]; simp [q_V, hk, q_isr, q_rl]) rfl rfl hd (kk p e s m args below meth c9 H locs ls hX hH hS hl hn)
theorem g_bald (pc' : Nat) {c N : Nat} {i : Int32} (hd : decode F.2.1 pc = .ok (.baload, 1)) (hp : pc + 1 = pc') (hc : c < n) (hk : q_kd c = (9, N)) (hin : vp_in i N) (kk : q_G C l F d n0 n1 Po n μ ρ lv (.int (μ c i.toNatClampNeg) :: st) pc') : q_G C l F d n0 n1 Po n μ ρ lv (.int i :: .ref (q_a C c) :: st) pc := by
  subst hp
  intro p e s m args below meth c9 H locs ls hX hH hS hl hn
  have hlt : i.toNatClampNeg < N := Nat.not_le.mp fun q => hin (Or.inr q)
  have hK := hX.2.2.2.2.2.2.2.2.1
  exact W.bald (v := .int (μ c i.toNatClampNeg)) hX.1 hX.2.1 (q_arr hH hc hk (by decide)) ((hK.2 0 _ rfl).1 N _) (fun q => by cases q) (by rw [arrV_size]; exact hin) (by rw [arrV_read _ _ hlt]; simp [q_V, hk, q_isr, q_rl]) rfl rfl hd (kk p e s m args below meth c9 H locs ls hX hH hS hl hn)
theorem g_aald (pc' : Nat) (r : Nat) {c N : Nat} {i : Int32} (hd : decode F.2.1 pc = .ok (.aaload, 1)) (hp : pc + 1 = pc') (hc : c < n) (hk : q_kd c = (11, N)) (hin : vp_in i N) (hv : ρ c i.toNatClampNeg = some r) (kk : q_G C l F d n0 n1 Po n μ ρ lv (.ref (q_a C r) :: st) pc') : q_G C l F d n0 n1 Po n μ ρ lv (.int i :: .ref (q_a C c) :: st) pc := by
  subst hp
  intro p e s m args below meth c9 H locs ls hX hH hS hl hn
  have hlt : i.toNatClampNeg < N := Nat.not_le.mp fun q => hin (Or.inr q)
  have hK := hX.2.2.2.2.2.2.2.2.1
  exact W.aald (v := .ref (q_a C r)) (ty := .array .int) hX.1 hX.2.1 (q_arr hH hc hk (by decide)) ((hK.2 2 _ rfl).1 N _) rfl (fun q => by cases q) (by rw [arrV_size]; exact hin) (by rw [arrV_read _ _ hlt]; simp [q_V, hk, q_isr, hv, va_rf]) rfl rfl hd (kk p e s m args below meth c9 H locs ls hX hH hS hl hn)
theorem g_iast (pc' : Nat) {c N : Nat} {i x : Int32} (hd : decode F.2.1 pc = .ok (.iastore, 1)) (hp : pc + 1 = pc') (hc : c < n) (hk : q_kd c = (10, N)) (hin : vp_in i N) (kk : q_G C l F d n0 n1 Po n (q_up μ c i.toNatClampNeg x) ρ lv st pc') : q_G C l F d n0 n1 Po n μ ρ lv (.int x :: .int i :: .ref (q_a C c) :: st) pc := by
  subst hp
  intro p e s m args below meth c9 H locs ls hX hH hS hl hn
  have hK := hX.2.2.2.2.2.2.2.2.1
  refine W.iast hX.1 hX.2.1 (q_arr hH hc hk (by decide)) ((hK.2 1 _ rfl).1 N _) (fun q => by cases q) (by rw [arrV_size]; exact hin) rfl rfl hd fun H1 e z oq => ?_
  refine kk p _ s m args below meth c9 H1 _ ls hX (hH.setI z oq (by rw [hk]; rfl) ?_) (hS.put z oq q_Aa) hl hn
  unfold q_at
  rw [hk, if_neg (show ¬ ((10, N) : Nat × Nat).1 < 9 from by show ¬ 10 < 9; decide), e, arrV_store]
theorem g_bast (pc' : Nat) {c N : Nat} {i x : Int32} (hd : decode F.2.1 pc = .ok (.bastore, 1)) (hp : pc + 1 = pc') (hc : c < n) (hk : q_kd c = (9, N)) (hin : vp_in i N) (kk : q_G C l F d n0 n1 Po n (q_up μ c i.toNatClampNeg x.toInt8.toInt32) ρ lv st pc') : q_G C l F d n0 n1 Po n μ ρ lv (.int x :: .int i :: .ref (q_a C c) :: st) pc := by
  subst hp
  intro p e s m args below meth c9 H locs ls hX hH hS hl hn
  have hK := hX.2.2.2.2.2.2.2.2.1
  refine W.bast hX.1 hX.2.1 (q_arr hH hc hk (by decide)) ((hK.2 0 _ rfl).1 N _) (fun q => by cases q) (by rw [arrV_size]; exact hin) rfl rfl hd fun H1 e z oq => ?_
  refine kk p _ s m args below meth c9 H1 _ ls hX (hH.setI z oq (by rw [hk]; rfl) ?_) (hS.put z oq q_Aa) hl hn
  unfold q_at
  rw [hk, if_neg (show ¬ ((9, N) : Nat × Nat).1 < 9 from by show ¬ 9 < 9; decide), e, arrV_store]
  rfl
end QH
end
section
/-! ===== rules: making cells ===== -/
section QN
variable {C : q_C} {l : Launch} {F : q_F} {d n0 n1 : Nat} {Po : q_P} {n : Nat} {μ : q_M} {ρ : q_R} {lv : List (Nat × Value)} {st : List Value} {pc : Nat}
theorem q_sl_succ (n : Nat) (h : n < q_kl.length) : q_sl (n + 1) = q_sl n + (q_kd n).2 := by
  unfold q_sl q_kd
  rw [List.take_add_one, List.map_append, List.sum_append]
  simp [h]
theorem arrV_congr {cA : ClassId} {N : Nat} {f g : Nat → Value} (h : ∀ j, j < N → f j = g j) : arrV cA N f = arrV cA N g := by
  unfold arrV
  congr 1
  apply Array.ext
  · simp
  · intro i h1 h2
    simp at h1
    simp [h i h1]
theorem q_H.keep {C : q_C} {n : Nat} {μ : q_M} {ρ : q_R} {H H1 : Heap} (h : q_H C n μ ρ H) (o : ∀ q, q < H.size → H1[q]? = H[q]?) : ∀ c, c < n → q_at C c (q_V C μ ρ c) H1 := fun c hc => (h.2 c hc).kept (o _ (by rw [h.1]; unfold q_a; omega))
theorem g_new (pc' : Nat) {idx ci N : Nat} (hd : decode F.2.1 pc = .ok (.new idx, 3)) (hp : pc + 3 = pc') (hf : q_cls F.1.cls idx ci N) (hk : q_kd n = (ci, N)) (h9 : ci < 9) (hL : n < q_kl.length) (hn1 : n < n1) (hμ : ∀ k, μ n k = 0) (hρ : ∀ k, ρ n k = none) (kk : q_G C l F d n0 n1 Po (n + 1) μ ρ lv (.ref (q_a C n) :: st) pc') : q_G C l F d n0 n1 Po n μ ρ lv st pc := by
  subst hp
  intro p e s m args below meth c9 H locs ls hX hH hS hl hn
  obtain ⟨E, T, tys, e1, e2, e3, e4, e5, e6, e7⟩ := hf
  have hts := hX.2.2.2.2.2.1
  have hK := hX.2.2.2.2.2.2.2.2.1
  have hKn := hK.1 ci _ e1
  have s1 : q_sl (n + 1) = q_sl n + N := by rw [q_sl_succ n hL, hk]
  have s2 := q_sl_mono hn.1
  have s3 : q_sl (n + 1) ≤ q_sl n1 := q_sl_mono hn1
  have hz : H.size = q_a C n := hH.1
  refine W.newcK hX.1 hX.2.1 hX.2.2.2.2.1 (hts _ e4) (hts _ e5) (hts _ e6) rfl hd (by show n - n0 + 1 ≤ n1 - n0; omega) (by show q_sl n - q_sl n0 + N ≤ q_sl n1 - q_sl n0; omega) hKn.2.1 hz fun H1 kC hkC f1 f2 f3 => ?_
  have hH1 : q_H C (n + 1) μ ρ H1 := by
    refine ⟨by rw [f2]; unfold q_a; omega, fun c hc => ?_⟩
    by_cases hcn : c < n
    · exact hH.keep (fun q hq => f3 q (by rw [← hz]; exact hq)) c hcn
    · have hce : c = n := by omega
      subst hce
      unfold q_at
      rw [hk, if_pos h9]
      refine (u_born tys hts e2 hKn hkC f1 e3).to (fun k hk2 => ?_)
      rw [e7 k hk2]
      unfold q_V
      rw [hk, hμ, hρ]
      rfl
  have k2 := kk p e s m args below meth c9 H1 locs ls hX hH1 ⟨Nat.le_trans hS.1 (by rw [f2, hz]; omega), fun x g1 g2 => (f3 x (by rw [← hz]; exact Nat.lt_of_lt_of_le g1 hS.1)).trans (hS.2.1 x g1 g2), hS.2.2⟩ hl ⟨by omega, by omega⟩
  have c1 : n - n0 + 1 = n + 1 - n0 := by omega
  have c2 : q_sl n - q_sl n0 + N = q_sl (n + 1) - q_sl n0 := by omega
  rw [c1, c2]
  exact k2
theorem g_newI (pc' : Nat) {N : Nat} {i : Int32} (hd : decode F.2.1 pc = .ok (.newarray .int, 2)) (hp : pc + 2 = pc') (hw : Cond.arrayClass .int ∈ q_T) (hk : q_kd n = (10, N)) (hi : ¬ i < 0) (hN : i.toNatClampNeg = N) (hb : N * 4 ≤ 536870912) (hL : n < q_kl.length) (hn1 : n < n1) (hμ : ∀ k, μ n k = 0) (kk : q_G C l F d n0 n1 Po (n + 1) μ ρ lv (.ref (q_a C n) :: st) pc') : q_G C l F d n0 n1 Po n μ ρ lv (.int i :: st) pc := by
  subst hp
  intro p e s m args below meth c9 H locs ls hX hH hS hl hn
  have hts := hX.2.2.2.2.2.1
  have hK := hX.2.2.2.2.2.2.2.2.1
  have s1 : q_sl (n + 1) = q_sl n + N := by rw [q_sl_succ n hL, hk]
  have s2 := q_sl_mono hn.1
  have s3 : q_sl (n + 1) ≤ q_sl n1 := q_sl_mono hn1
  have hz : H.size = q_a C n := hH.1
  refine va_newaK hX.1 hX.2.1 (atype := .int) (hts _ hw) rfl hd rfl hi hN hb (by show n - n0 + 1 ≤ n1 - n0; omega) (by show q_sl n - q_sl n0 + N ≤ q_sl n1 - q_sl n0; omega) hz fun H1 cA f1 f2 f3 hAr hNm => ?_
  have hcA : q_cA C 1 = cA := Option.some.inj ((hK.2 1 _ rfl).2.symm.trans hNm)
  have hH1 : q_H C (n + 1) μ ρ H1 := by
    refine ⟨by rw [f2]; unfold q_a; omega, fun c hc => ?_⟩
    by_cases hcn : c < n
    · exact hH.keep (fun q hq => f3 q (by rw [← hz]; exact hq)) c hcn
    · have hce : c = n := by omega
      subst hce
      unfold q_at
      rw [hk, if_neg (show ¬ ((10, N) : Nat × Nat).1 < 9 from by show ¬ 10 < 9; decide), f1]
      show some (arrV cA N _) = some (arrV (q_cA C 1) N _)
      rw [hcA]
      refine congrArg some (arrV_congr (fun j hj => ?_))
      unfold q_V
      rw [hk, hμ]
      rfl
  have k2 := kk p e s m args below meth c9 H1 locs ls hX hH1 ⟨Nat.le_trans hS.1 (by rw [f2, hz]; omega), fun x g1 g2 => (f3 x (by rw [← hz]; exact Nat.lt_of_lt_of_le g1 hS.1)).trans (hS.2.1 x g1 g2), hS.2.2⟩ hl ⟨by omega, by omega⟩
  have c1 : n - n0 + 1 = n + 1 - n0 := by omega
  have c2 : q_sl n - q_sl n0 + N = q_sl (n + 1) - q_sl n0 := by omega
  rw [c1, c2]
  exact k2
theorem g_newB (pc' : Nat) {N : Nat} {i : Int32} (hd : decode F.2.1 pc = .ok (.newarray .byte, 2)) (hp : pc + 2 = pc') (hw : Cond.arrayClass .byte ∈ q_T) (hk : q_kd n = (9, N)) (hi : ¬ i < 0) (hN : i.toNatClampNeg = N) (hb : N * 1 ≤ 536870912) (hL : n < q_kl.length) (hn1 : n < n1) (hμ : ∀ k, μ n k = 0) (kk : q_G C l F d n0 n1 Po (n + 1) μ ρ lv (.ref (q_a C n) :: st) pc') : q_G C l F d n0 n1 Po n μ ρ lv (.int i :: st) pc := by
  subst hp
  intro p e s m args below meth c9 H locs ls hX hH hS hl hn
  have hts := hX.2.2.2.2.2.1
  have hK := hX.2.2.2.2.2.2.2.2.1
  have s1 : q_sl (n + 1) = q_sl n + N := by rw [q_sl_succ n hL, hk]
  have s2 := q_sl_mono hn.1
  have s3 : q_sl (n + 1) ≤ q_sl n1 := q_sl_mono hn1
  have hz : H.size = q_a C n := hH.1
  refine va_newaK hX.1 hX.2.1 (atype := .byte) (hts _ hw) rfl hd rfl hi hN hb (by show n - n0 + 1 ≤ n1 - n0; omega) (by show q_sl n - q_sl n0 + N ≤ q_sl n1 - q_sl n0; omega) hz fun H1 cA f1 f2 f3 hAr hNm => ?_
  have hcA : q_cA C 0 = cA := Option.some.inj ((hK.2 0 _ rfl).2.symm.trans hNm)
  have hH1 : q_H C (n + 1) μ ρ H1 := by
    refine ⟨by rw [f2]; unfold q_a; omega, fun c hc => ?_⟩
    by_cases hcn : c < n
    · exact hH.keep (fun q hq => f3 q (by rw [← hz]; exact hq)) c hcn
    · have hce : c = n := by omega
      subst hce
      unfold q_at
      rw [hk, if_neg (show ¬ ((9, N) : Nat × Nat).1 < 9 from by show ¬ 9 < 9; decide), f1]
      show some (arrV cA N _) = some (arrV (q_cA C 0) N _)
      rw [hcA]
      refine congrArg some (arrV_congr (fun j hj => ?_))
      unfold q_V
      rw [hk, hμ]
      rfl
  have k2 := kk p e s m args below meth c9 H1 locs ls hX hH1 ⟨Nat.le_trans hS.1 (by rw [f2, hz]; omega), fun x g1 g2 => (f3 x (by rw [← hz]; exact Nat.lt_of_lt_of_le g1 hS.1)).trans (hS.2.1 x g1 g2), hS.2.2⟩ hl ⟨by omega, by omega⟩
  have c1 : n - n0 + 1 = n + 1 - n0 := by omega
  have c2 : q_sl n - q_sl n0 + N = q_sl (n + 1) - q_sl n0 := by omega
  rw [c1, c2]
  exact k2
theorem q_outer (c : ClassId) (N h0 : Nat) : ∀ i : Nat, Jvm.Free.Multi.outerC c N h0 i = arrV c N (fun j => va_rf (if j < i then some (h0 + 1 + j) else none))
  | 0 => by
    show ({ cls := c, slots := Array.replicate N .null, vm := .none } : Cell) = _
    rw [arrV_new]
    refine congrArg (arrV c N) (funext fun j => ?_)
    simp [va_rf]
  | i + 1 => by
    show (Jvm.Free.Multi.outerC c N h0 i).setSlot i (.ref (h0 + 1 + i)) = _
    rw [q_outer c N h0 i, arrV_store]
    refine congrArg (arrV c N) (funext fun j => ?_)
    by_cases e : j = i
    · subst e
      simp [updV, va_rf]
    · by_cases h : j < i
      · simp [updV, e, h, Nat.lt_succ_of_lt h]
      · simp [updV, e, h, show ¬ j < i + 1 by omega]
/-- rows of a grid: the outer cell n refers to the rows behind it -/
def q_rows (ρ : q_R) (n : Nat) : q_R := fun c j => if c = n then some (n + 1 + j) else ρ c j
theorem g_mna (pc' : Nat) {idx N K : Nat} {i k : Int32} (hd : decode F.2.1 pc = .ok (.multianewarray idx 2, 4)) (hp : pc + 4 = pc') (hcl : Cond.classLink F.1.cls idx "[[I" ∈ q_T) (hw : Cond.arrayClass .int ∈ q_T) (hk : q_kd n = (11, N)) (hrw : ∀ j, j < N → q_kd (n + 1 + j) = (10, K)) (hi : ¬ i < 0) (hkk : ¬ k < 0) (hN : i.toNatClampNeg = N) (hK1 : k.toNatClampNeg = K) (hb1 : N * 4 ≤ 536870912) (hb2 : K * 4 ≤ 536870912) (hb3 : K ≤ 536870912) (hsl : q_sl (n + 1 + N) = q_sl n + N + N * K) (hn1 : n + 1 + N ≤ n1) (hμ : ∀ c j, n ≤ c → μ c j = 0)
    (kk : q_G C l F d n0 n1 Po (n + 1 + N) μ (q_rows ρ n) lv (.ref (q_a C n) :: st) pc') : q_G C l F d n0 n1 Po n μ ρ lv (.int k :: .int i :: st) pc := by
  subst hp
  intro p e s m args below meth c9 H locs ls hX hH hS hl hn
  have hts := hX.2.2.2.2.2.1
  have hK := hX.2.2.2.2.2.2.2.2.1
  have hAO := hX.2.2.2.2.2.2.2.2.2.2.2.2.2.2.2.2
  have s2 := q_sl_mono hn.1
  have s3 : q_sl (n + 1 + N) ≤ q_sl n1 := q_sl_mono hn1
  have hz : H.size = q_a C n := hH.1
  subst hN
  subst hK1
  intro T hT Xs
  obtain ⟨vm₁, cA, comp, -, fA, fC, hO, -, X', step⟩ := Xs.multianewarray2F hX.1 hX.2.2.2.2.1 (ty := .int) (hts _ hcl) hAO (hts _ hw) (g := F0 m pc ls (.int k :: .int i :: st)) rfl (by rw [hX.2.1]; exact hd) rfl hi hkk hb1 hb2 hb3 rfl rfl (by show n - n0 + _ ≤ n1 - n0; omega) (by show q_sl n - q_sl n0 + _ ≤ q_sl n1 - q_sl n0; omega)
  have hc2 : q_cA C 2 = cA := Option.some.inj ((hK.2 2 _ rfl).2.symm.trans fA)
  have hc1 : q_cA C 1 = comp := Option.some.inj ((hK.2 1 _ rfl).2.symm.trans fC)
  subst hc2
  subst hc1
  generalize hF : Jvm.Free.Multi.fill (T.setVm vm₁) (q_cA C 2) (q_cA C 1) i.toNatClampNeg k.toNatClampNeg (defaultValue .int) i.toNatClampNeg = Z at X' step
  have hTh : (T.setVm vm₁).heap = H := hT
  obtain ⟨f1, f2, -, -⟩ := Jvm.Free.Multi.fill_facts (T.setVm vm₁) (q_cA C 2) (q_cA C 1) i.toNatClampNeg k.toNatClampNeg (defaultValue .int) i.toNatClampNeg
  rw [hF, hTh] at f1 f2
  have hold : ∀ x : Nat, x < H.size → Z.heap[x]? = H[x]? := fun x hx => by
    have := Jvm.Free.Multi.fill_old (T.setVm vm₁) (q_cA C 2) (q_cA C 1) i.toNatClampNeg k.toNatClampNeg (defaultValue .int) (a := x) (by rw [hTh]; exact hx) i.toNatClampNeg
    rw [hF, hTh] at this
    exact this
  have hrow : ∀ j : Nat, j < i.toNatClampNeg → Z.heap[H.size + 1 + j]? = some (arrV (q_cA C 1) k.toNatClampNeg (fun _ => .int 0)) := fun j hj => by
    have := Jvm.Free.Multi.fill_inner (T.setVm vm₁) (q_cA C 2) (q_cA C 1) i.toNatClampNeg k.toNatClampNeg (defaultValue .int) i.toNatClampNeg j hj
    rw [hF, hTh] at this
    rw [this]
    show some ({ cls := q_cA C 1, slots := Array.replicate k.toNatClampNeg (.int 0), vm := .none } : Cell) = _
    rw [arrV_new]
  rw [q_outer] at f2
  have hH1 : q_H C (n + 1 + i.toNatClampNeg) μ (q_rows ρ n) Z.heap := by
    refine ⟨by rw [f1, hz]; unfold q_a; omega, fun c hc => ?_⟩
    by_cases hcn : c < n
    · have e2 : q_V C μ (q_rows ρ n) c = q_V C μ ρ c := by
        funext j
        simp [q_V, q_rows, show ¬ c = n by omega]
      rw [e2]
      exact hH.keep hold c hcn
    · by_cases hce : c = n
      · subst hce
        unfold q_at
        rw [hk, if_neg (show ¬ ((11, i.toNatClampNeg) : Nat × Nat).1 < 9 from by show ¬ 11 < 9; decide), ← hz, f2]
        refine congrArg some (arrV_congr (fun j hj => ?_))
        have hq : q_isr (q_kd c).1 j = true := by rw [hk]; rfl
        unfold q_V
        rw [if_pos hq]
        rw [if_pos hj, show q_rows ρ c c j = some (c + 1 + j) from if_pos rfl]
        show Value.ref (H.size + 1 + j) = Value.ref (q_a C (c + 1 + j))
        rw [hz, show q_a C c + 1 + j = q_a C (c + 1 + j) from by unfold q_a; omega]
      · obtain ⟨j, hj, rfl⟩ : ∃ j, j < i.toNatClampNeg ∧ c = n + 1 + j := ⟨c - (n + 1), by omega, by omega⟩
        unfold q_at
        rw [hrw j hj, if_neg (show ¬ ((10, k.toNatClampNeg) : Nat × Nat).1 < 9 from by show ¬ 10 < 9; decide)]
        have ha : q_a C (n + 1 + j) = H.size + 1 + j := by rw [hz]; unfold q_a; omega
        rw [ha, hrow j hj]
        refine congrArg some (arrV_congr (fun j2 hj2 => ?_))
        unfold q_V
        rw [hrw j hj, hμ _ _ (by omega)]
        rfl
  have k2 := kk p e s m args below meth c9 Z.heap locs ls hX hH1 ⟨Nat.le_trans hS.1 (by rw [f1]; omega), fun x g1 g2 => (hold x (Nat.lt_of_lt_of_le g1 hS.1)).trans (hS.2.1 x g1 g2), hS.2.2⟩ hl ⟨by omega, by omega⟩
  have c1 : n + 1 + i.toNatClampNeg - n0 = n - n0 + 1 + i.toNatClampNeg := by omega
  have c2 : q_sl (n + 1 + i.toNatClampNeg) - q_sl n0 = q_sl n - q_sl n0 + i.toNatClampNeg + i.toNatClampNeg * k.toNatClampNeg := by omega
  rw [c1, c2] at k2
  obtain ⟨t, a1, b1⟩ := k2 Z rfl X'
  refine ⟨t, step t ?_, b1⟩
  have e : T.heap.size = q_a C n := by rw [hT]; exact hz
  rw [e]
  exact a1
theorem g_obj (pc' : Nat) {idx a : Nat} (hd : decode F.2.1 pc = .ok (.invokespecial idx, 3)) (hp : pc + 3 = pc') (h1 : Cond.methodLink F.1.cls idx Lib.objectInit ∈ q_T) (h2 : Cond.instanceMethod Lib.objectInit ∈ q_T) (h3 : Cond.code Lib.objectInit ⟨#[0xb1]⟩ 1 none ∈ q_T) (hdd : 1 ≤ d) (hc : (st.map fun v => v.category).sum ≤ 8) (kk : q_G C l F d n0 n1 Po n μ ρ lv st pc') : q_G C l F d n0 n1 Po n μ ρ lv (.ref a :: st) pc := by
  subst hp
  intro p e s m args below meth c9 H locs ls hX hH hS hl hn
  have hts := hX.2.2.2.2.2.1
  exact W.objInit hX.1 hX.2.1 hX.2.2.2.2.1 (hts _ h1) (hts _ h2) (hts _ h3) rfl (by rw [hX.2.2.2.1]; exact hl.1) rfl hd hdd (by show 2 * 0 + _ + 12 ≤ 64 * d; omega) (kk p e s m args below meth c9 H locs ls hX hH hS hl hn)
/-! ===== rules: static fields, String constants ===== -/
theorem g_getL (pc' : Nat) {idx : Nat} (hd : decode F.2.1 pc = .ok (.getstatic idx, 3)) (hp : pc + 3 = pc') (hw : Cond.fieldLink F.1.cls idx "DesertTown" "LEAST_SETTING" "[I" ∈ q_T) (kk : q_G C l F d n0 n1 Po n μ ρ lv (.ref (q_x C 0) :: st) pc') : q_G C l F d n0 n1 Po n μ ρ lv st pc := by
  subst hp
  intro p e s m args below meth c9 H locs ls hX hH hS hl hn
  exact va_gets hX.1 hX.2.1 hX.2.2.2.2.2.2.2.2.2.2.2.1.1 hS hX.2.2.2.2.1 (hX.2.2.2.2.2.1 _ hw) (fun _ h => h) hd (kk p e s m args below meth c9 H locs ls hX hH hS hl hn)
theorem g_getH (pc' : Nat) {idx : Nat} (hd : decode F.2.1 pc = .ok (.getstatic idx, 3)) (hp : pc + 3 = pc') (hw : Cond.fieldLink F.1.cls idx "DesertTown" "MOST_SETTING" "[I" ∈ q_T) (kk : q_G C l F d n0 n1 Po n μ ρ lv (.ref (q_x C 1) :: st) pc') : q_G C l F d n0 n1 Po n μ ρ lv st pc := by
  subst hp
  intro p e s m args below meth c9 H locs ls hX hH hS hl hn
  exact va_gets hX.1 hX.2.1 hX.2.2.2.2.2.2.2.2.2.2.2.2.1.1 hS hX.2.2.2.2.1 (hX.2.2.2.2.2.1 _ hw) (fun _ h => h) hd (kk p e s m args below meth c9 H locs ls hX hH hS hl hn)
theorem g_ldL (pc' : Nat) {i : Int32} (hd : decode F.2.1 pc = .ok (.iaload, 1)) (hp : pc + 1 = pc') (hin : vp_in i 5) (kk : q_G C l F d n0 n1 Po n μ ρ lv (.int (q_lo i.toNatClampNeg) :: st) pc') : q_G C l F d n0 n1 Po n μ ρ lv (.int i :: .ref (q_x C 0) :: st) pc := by
  subst hp
  intro p e s m args below meth c9 H locs ls hX hH hS hl hn
  exact va_ti hX.1 hX.2.1 hX.2.2.2.2.2.2.2.2.2.2.2.1.2 hS hin rfl hd (kk p e s m args below meth c9 H locs ls hX hH hS hl hn)
theorem g_ldH (pc' : Nat) {i : Int32} (hd : decode F.2.1 pc = .ok (.iaload, 1)) (hp : pc + 1 = pc') (hin : vp_in i 5) (kk : q_G C l F d n0 n1 Po n μ ρ lv (.int (q_hi i.toNatClampNeg) :: st) pc') : q_G C l F d n0 n1 Po n μ ρ lv (.int i :: .ref (q_x C 1) :: st) pc := by
  subst hp
  intro p e s m args below meth c9 H locs ls hX hH hS hl hn
  exact va_ti hX.1 hX.2.1 hX.2.2.2.2.2.2.2.2.2.2.2.2.1.2 hS hin rfl hd (kk p e s m args below meth c9 H locs ls hX hH hS hl hn)
/-! ===== rules: calls ===== -/
theorem q_gd {F : q_F} {np : Nat} (hm : q_mt F np) : GoodIn q_T (.code F.1 F.2.1 F.2.2.1 F.2.2.2 :: q_T) := by
  intro w hw
  rcases List.mem_cons.mp hw with rfl | h
  · exact q_good (fun _ h => h) _ hm.1
  · exact q_good (fun _ h => h) _ h
theorem q_call {p : Program} {e : Env} {R : Room} {s : State} {m : MethodId} {args : Array Value} {below : List Frame} {meth : Method} {c : Code} {H : Heap} {locs : List Loc} {cells slots mc ms : Nat} {Q : State → Prop} {ls : Array Slot} {rest st0 : List Value} {a : Array Value} {n' : Nat} {Po' : q_P}
    (hr : va_Run p l e R s m args below meth c H locs cells slots mc ms (F0 m pc ls st0) rest (q_Q C n' Po' a) (q_A C)) (hS : va_S (q_A C) s.heap H locs)
    (kk : ∀ (r : Option Value) (μ' : q_M) (ρ' : q_R) (H1 : Heap) (locs1 : List Loc), Po' r μ' ρ' → q_H C n' μ' ρ' H1 → va_S (q_A C) s.heap H1 locs1 → W p l e R s m args below meth c H1 locs1 (cells + mc) (slots + ms) Q (F0 m (pc + 3) ls (r.toList ++ rest))) : W p l e R s m args below meth c H locs cells slots Q (F0 m pc ls st0) := by
  intro T hT X
  obtain ⟨v, st₀, t, T', L, h0, X', hL, e1, e2, ⟨⟨r, μ', ρ', hv, hp, hb⟩, hz, hk⟩, st⟩ := hr T hT X
  cases hv
  rw [h0] at hz hk
  obtain ⟨t2, a1, b1⟩ := kk v μ' ρ' T'.heap (locs ++ L) hp (by rw [e1]; exact hb)
    ⟨Nat.le_trans hS.1 (by rw [e1]; exact hz), fun q h1 h2 => by rw [e1, hk q (Nat.lt_of_lt_of_le h1 hS.1) h2]; exact hS.2.1 q h1 h2, fun q hq => by
      rcases List.mem_append.mp hq with h | h
      · exact hS.2.2 q h
      · exact hL q h⟩ T' rfl X'
  exact ⟨t2, st t2 a1, b1⟩
theorem q_blind {as : List Value} {n : Nat} {μ : q_M} {ρ : q_R} : FrameBlind (va_Pc as (fun U => q_U C U ∧ q_H C n μ ρ U.heap)) := by
  intro a U g mk q
  obtain ⟨q0, q1, q2⟩ := q
  exact ⟨q0, q_U.moved (U := U.calling g mk a) q1 va_S.rf rfl (State.WarmedH.refl U), q2⟩
theorem q_rooms {n' : Nat} (hn : n0 ≤ n ∧ n ≤ n1) (h1 : n ≤ n') (h2 : n' ≤ n1) : (n - n0) + (n' - n) ≤ n1 - n0 ∧ (q_sl n - q_sl n0) + (q_sl n' - q_sl n) ≤ q_sl n1 - q_sl n0 := by
  have s1 := q_sl_mono hn.1
  have s2 := q_sl_mono h1
  have s3 := q_sl_mono h2
  omega
theorem q_rooms2 {n' : Nat} (hn : n0 ≤ n ∧ n ≤ n1) (h1 : n ≤ n') : (n - n0) + (n' - n) = n' - n0 ∧ (q_sl n - q_sl n0) + (q_sl n' - q_sl n) = q_sl n' - q_sl n0 := by
  have s1 := q_sl_mono hn.1
  have s2 := q_sl_mono h1
  omega
theorem g_callS (pc' : Nat) (as rest : List Value) {idx np d' n' : Nat} {F' : q_F} {Po' : q_P} (hd : decode F.2.1 pc = .ok (.invokestatic idx, 3)) (hp : pc + 3 = pc') (hm : q_mt F' np) (hl1 : Cond.methodLink F.1.cls idx F'.1 ∈ q_T ∧ Cond.static F'.1 ∈ q_T) (hct : q_Ct C l F' d' n n' as μ ρ Po') (hst : st = as.reverse ++ rest) (hnp : as.length = np) (hcat : (rest.map fun v => v.category).sum ≤ 8) (hdd : d' < d) (h1 : n ≤ n') (h2 : n' ≤ n1)
    (kk : ∀ (r : Option Value) (μ' : q_M) (ρ' : q_R), Po' r μ' ρ' → q_G C l F d n0 n1 Po n' μ' ρ' lv (r.toList ++ rest) pc') : q_G C l F d n0 n1 Po n μ ρ lv st pc := by
  subst hp
  subst hst
  intro p e s m args below meth c9 H locs ls hX hH hS hl hn
  have hts := hX.2.2.2.2.2.1
  obtain ⟨m1, m2, m3, m4⟩ := id hm
  refine q_call (va_runS ⟨hX.1, hX.2.1, hX.2.2.2.1, hX.2.2.2.2.1, hts⟩ hct ⟨callB_of np hts (q_gd hm) rfl rfl rfl (hts _ m2) (hts _ hl1.1) m3 ⟨by show d' + 1 ≤ d; omega, by show 8 + (F'.2.2.1 + 11) + 64 * d' ≤ 64 * d; omega⟩, hts _ hl1.2⟩ ⟨q_blind, fun U hU hW => ⟨rfl, hX.2.2.2.2.2.2.2.2.moved hS hU hW, by rw [hU]; exact hH⟩⟩ rfl hnp hl.1 rfl (lv_room hcat) hd (q_rooms hn h1 h2)) hS ?_
  intro r μ' ρ' H1 locs1 hpo hH1 hS1
  have k2 := kk r μ' ρ' hpo p e s m args below meth c9 H1 locs1 ls hX hH1 hS1 hl ⟨by omega, h2⟩
  rw [(q_rooms2 hn h1).1, (q_rooms2 hn h1).2]
  exact k2
theorem g_callSN (pc' : Nat) (as rest : List Value) {idx np d' n' : Nat} {F' : q_F} {Po' : q_P} (hd : decode F.2.1 pc = .ok (.invokestatic idx, 3)) (hp : pc + 3 = pc') (hm : q_mt F' np) (hl1 : Cond.methodLinkNest F.1.cls idx F'.1 "DesertTown" ∈ q_nest ∧ Cond.static F'.1 ∈ q_T) (hct : q_Ct C l F' d' n n' as μ ρ Po') (hst : st = as.reverse ++ rest) (hnp : as.length = np) (hcat : (rest.map fun v => v.category).sum ≤ 8) (hdd : d' < d) (h1 : n ≤ n') (h2 : n' ≤ n1)
    (kk : ∀ (r : Option Value) (μ' : q_M) (ρ' : q_R), Po' r μ' ρ' → q_G C l F d n0 n1 Po n' μ' ρ' lv (r.toList ++ rest) pc') : q_G C l F d n0 n1 Po n μ ρ lv st pc := by
  subst hp
  subst hst
  intro p e s m args below meth c9 H locs ls hX hH hS hl hn
  have hts := hX.2.2.2.2.2.1
  obtain ⟨m1, m2, m3, m4⟩ := id hm
  have hnw := hX.2.2.2.2.2.2.2.2.2.2.1 _ hl1.1
  refine q_call (va_runSN ⟨hX.1, hX.2.1, hX.2.2.2.1, hX.2.2.2.2.1, hts⟩ hct ⟨va_cnB np hts (q_gd hm) rfl rfl rfl hnw (hts _ m2) m3 ⟨by show d' + 1 ≤ d; omega, by show 8 + (F'.2.2.1 + 11) + 64 * d' ≤ 64 * d; omega⟩, hts _ hl1.2, trivial⟩ ⟨q_blind, fun U hU hW => ⟨rfl, hX.2.2.2.2.2.2.2.2.moved hS hU hW, by rw [hU]; exact hH⟩⟩ rfl hnp hl.1 rfl (lv_room hcat) hd (q_rooms hn h1 h2)) hS ?_
  intro r μ' ρ' H1 locs1 hpo hH1 hS1
  have k2 := kk r μ' ρ' hpo p e s m args below meth c9 H1 locs1 ls hX hH1 hS1 hl ⟨by omega, h2⟩
  rw [(q_rooms2 hn h1).1, (q_rooms2 hn h1).2]
  exact k2
theorem g_callIN (pc' : Nat) (as rest : List Value) {b idx np d' n' : Nat} {F' : q_F} {Po' : q_P} (hd : decode F.2.1 pc = .ok (.invokespecial idx, 3)) (hp : pc + 3 = pc') (hm : q_mt F' np) (hl1 : Cond.methodLinkNest F.1.cls idx F'.1 "DesertTown" ∈ q_nest ∧ F'.1.name = "<init>" ∧ Cond.instanceMethod F'.1 ∈ q_T ∧ F'.2.2.2 = none) (hct : q_Ct C l F' d' n n' (.ref b :: as) μ ρ Po') (hst : st = as.reverse ++ .ref b :: rest) (hnp : as.length = np) (hcat : (rest.map fun v => v.category).sum ≤ 8) (hdd : d' < d) (h1 : n ≤ n') (h2 : n' ≤ n1)
    (kk : ∀ (r : Option Value) (μ' : q_M) (ρ' : q_R), Po' r μ' ρ' → q_G C l F d n0 n1 Po n' μ' ρ' lv (r.toList ++ rest) pc') : q_G C l F d n0 n1 Po n μ ρ lv st pc := by
  subst hp
  subst hst
  intro p e s m args below meth c9 H locs ls hX hH hS hl hn
  have hts := hX.2.2.2.2.2.1
  obtain ⟨m1, m2, m3, m4⟩ := id hm
  have hnw := hX.2.2.2.2.2.2.2.2.2.2.1 _ hl1.1
  have hgd := q_gd hm
  unfold q_Ct at hct
  rw [hl1.2.2.2] at hct hgd
  refine q_call (va_runIN ⟨hX.1, hX.2.1, hX.2.2.2.1, hX.2.2.2.2.1, hts⟩ hct ⟨va_cnB np hts hgd rfl rfl rfl hnw (hts _ m2) m3 ⟨by show d' + 1 ≤ d; omega, by show 8 + (F'.2.2.1 + 11) + 64 * d' ≤ 64 * d; omega⟩, hl1.2.1, hts _ hl1.2.2.1⟩ ⟨q_blind, fun U hU hW => ⟨rfl, hX.2.2.2.2.2.2.2.2.moved hS hU hW, by rw [hU]; exact hH⟩⟩ rfl hnp hl.1 rfl (lv_room hcat) hd (q_rooms hn h1 h2)) hS ?_
  intro r μ' ρ' H1 locs1 hpo hH1 hS1
  have k2 := kk r μ' ρ' hpo p e s m args below meth c9 H1 locs1 ls hX hH1 hS1 hl ⟨by omega, h2⟩
  rw [(q_rooms2 hn h1).1, (q_rooms2 hn h1).2]
  exact k2
theorem g_callV (pc' : Nat) (c : Nat) (as rest : List Value) {idx np d' n' ci N : Nat} {F' : q_F} {Po' : q_P} (hd : decode F.2.1 pc = .ok (.invokevirtual idx, 3)) (hp : pc + 3 = pc') (hm : q_mt F' np) (hl1 : Cond.methodLink F.1.cls idx F'.1 ∈ q_T ∧ Cond.instanceMethod F'.1 ∈ q_T ∧ Cond.selects F'.1.cls F'.1 F'.1 ∈ q_T) (hc : c < n) (hk : q_kd c = (ci, N)) (hci : vwCl[ci]?.map (fun q => q.1) = some F'.1.cls) (hct : q_Ct C l F' d' n n' (.ref (q_a C c) :: as) μ ρ Po') (hst : st = as.reverse ++ .ref (q_a C c) :: rest) (hnp : as.length = np) (hcat : (rest.map fun v => v.category).sum ≤ 8) (hdd : d' < d) (h1 : n ≤ n') (h2 : n' ≤ n1)
    (kk : ∀ (r : Option Value) (μ' : q_M) (ρ' : q_R), Po' r μ' ρ' → q_G C l F d n0 n1 Po n' μ' ρ' lv (r.toList ++ rest) pc') : q_G C l F d n0 n1 Po n μ ρ lv st pc := by
  subst hp
  subst hst
  intro p e s m args below meth c9 H locs ls hX hH hS hl hn
  have hts := hX.2.2.2.2.2.1
  obtain ⟨m1, m2, m3, m4⟩ := id hm
  have hK := hX.2.2.2.2.2.2.2.2.1
  have hrecv : ∃ cellB : Cell, H[q_a C c]? = some cellB ∧ cellB.vm.isStatics = false ∧ s.vm.findClass F'.1.cls = some cellB.cls := by
    cases e1 : vwCl[ci]? with
    | none => rw [e1] at hci; cases hci
    | some q =>
      rw [e1] at hci
      have h9 : ci < 9 := (List.getElem?_eq_some_iff.mp e1).1
      have hat := hH.2 c hc
      unfold q_at at hat
      rw [hk, if_pos h9] at hat
      obtain ⟨cell, q1, q2, q3, q4⟩ := hat
      exact ⟨cell, q1, by rw [q3]; rfl, by rw [q2, ← Option.some.inj hci]; exact (hK.1 ci q e1).2.1⟩
  refine q_call (va_runV (C := F'.1.cls) ⟨hX.1, hX.2.1, hX.2.2.2.1, hX.2.2.2.2.1, hts⟩ hct ⟨callB_of np hts (q_gd hm) rfl rfl rfl (hts _ m2) (hts _ hl1.1) m3 ⟨by show d' + 1 ≤ d; omega, by show 8 + (F'.2.2.1 + 11) + 64 * d' ≤ 64 * d; omega⟩, hts _ hl1.2.1, hts _ hl1.2.2⟩ ⟨q_blind, hrecv, fun U hU hW => ⟨rfl, hX.2.2.2.2.2.2.2.2.moved hS hU hW, by rw [hU]; exact hH⟩⟩ rfl hnp hl.1 rfl (lv_room hcat) hd (q_rooms hn h1 h2)) hS ?_
  intro r μ' ρ' H1 locs1 hpo hH1 hS1
  have k2 := kk r μ' ρ' hpo p e s m args below meth c9 H1 locs1 ls hX hH1 hS1 hl ⟨by omega, h2⟩
  rw [(q_rooms2 hn h1).1, (q_rooms2 hn h1).2]
  exact k2
theorem g_max (pc' : Nat) {idx : Nat} {x y : Int32} (hd : decode F.2.1 pc = .ok (.invokestatic idx, 3)) (hp : pc + 3 = pc') (h1 : Cond.methodLink F.1.cls idx Lib.Math.max.name ∈ q_T) (h2 : Cond.static Lib.Math.max.name ∈ q_T) (h3 : Cond.initialized "java/lang/Math" ∈ q_T) (h4 : Cond.code Lib.Math.max.name Lib.Math.max.code 2 (some .int) ∈ q_T) (hdd : 1 ≤ d) (hc : (st.map fun v => v.category).sum ≤ 8) (kk : q_G C l F d n0 n1 Po n μ ρ lv (.int (if x < y then y else x) :: st) pc') : q_G C l F d n0 n1 Po n μ ρ lv (.int y :: .int x :: st) pc := by
  subst hp
  intro p e s m args below meth c9 H locs ls hX hH hS hl hn
  have hts := hX.2.2.2.2.2.1
  have s1 := q_sl_mono hn.1
  have s2 := q_sl_mono hn.2
  exact va_mmax hX.1 hX.2.1 (by rw [hX.2.2.2.1]; exact hl.1.symm) hX.2.2.2.2.1 (hts _ h1) (hts _ h2) (hts _ h3) (hts _ h4) hdd (by show _ + 13 ≤ 64 * d; omega) (by show _ ≤ n1 - n0; omega) (by show _ ≤ q_sl n1 - q_sl n0; omega) hd (kk p e s m args below meth c9 H locs ls hX hH hS hl hn)
theorem g_min (pc' : Nat) {idx : Nat} {x y : Int32} (hd : decode F.2.1 pc = .ok (.invokestatic idx, 3)) (hp : pc + 3 = pc') (h1 : Cond.methodLink F.1.cls idx Lib.Math.min.name ∈ q_T) (h2 : Cond.static Lib.Math.min.name ∈ q_T) (h3 : Cond.initialized "java/lang/Math" ∈ q_T) (h4 : Cond.code Lib.Math.min.name Lib.Math.min.code 2 (some .int) ∈ q_T) (hdd : 1 ≤ d) (hc : (st.map fun v => v.category).sum ≤ 8) (kk : q_G C l F d n0 n1 Po n μ ρ lv (.int (if y < x then y else x) :: st) pc') : q_G C l F d n0 n1 Po n μ ρ lv (.int y :: .int x :: st) pc := by
  subst hp
  intro p e s m args below meth c9 H locs ls hX hH hS hl hn
  have hts := hX.2.2.2.2.2.1
  have s1 := q_sl_mono hn.1
  have s2 := q_sl_mono hn.2
  exact va_mmin hX.1 hX.2.1 (by rw [hX.2.2.2.1]; exact hl.1.symm) hX.2.2.2.2.1 (hts _ h1) (hts _ h2) (hts _ h3) (hts _ h4) hdd (by show _ + 13 ≤ 64 * d; omega) (by show _ ≤ n1 - n0; omega) (by show _ ≤ q_sl n1 - q_sl n0; omega) hd (kk p e s m args below meth c9 H locs ls hX hH hS hl hn)
end QN
end
section
/-! ===== calls by what they answer; the system's own references ===== -/
def q_PI (P : Int32 → q_M → q_R → Prop) : q_P := fun r μ ρ => ∃ v : Int32, r = some (.int v) ∧ P v μ ρ
def q_PV (P : q_M → q_R → Prop) : q_P := fun r μ ρ => r = none ∧ P μ ρ
section QK
variable {C : q_C} {l : Launch} {F : q_F} {d n0 n1 : Nat} {Po : q_P} {n : Nat} {μ : q_M} {ρ : q_R} {lv : List (Nat × Value)} {st : List Value} {pc : Nat}
theorem g_ri {P : Int32 → q_M → q_R → Prop} {v : Int32} (hd : decode F.2.1 pc = .ok (.ireturn, 1)) (hr : F.2.2.2 = some .int) (he : n = n1) (h : P v μ ρ) : q_G C l F d n0 n1 (q_PI P) n μ ρ lv [.int v] pc := g_iret hd hr he ⟨v, rfl, h⟩
theorem g_rz {P : Int32 → q_M → q_R → Prop} {v : Int32} (hd : decode F.2.1 pc = .ok (.ireturn, 1)) (hr : F.2.2.2 = some .boolean) (hz : v = 0 ∨ v = 1) (he : n = n1) (h : P v μ ρ) : q_G C l F d n0 n1 (q_PI P) n μ ρ lv [.int v] pc := g_zret hd hr hz he ⟨v, rfl, h⟩
theorem g_rv {P : q_M → q_R → Prop} (hd : decode F.2.1 pc = .ok (.return_, 1)) (hr : F.2.2.2 = none) (he : n = n1) (h : P μ ρ) : q_G C l F d n0 n1 (q_PV P) n μ ρ lv [] pc := g_vret hd hr he ⟨rfl, h⟩
theorem g_Si (pc' : Nat) (as rest : List Value) {idx np d' : Nat} {F' : q_F} {P : Int32 → q_M → q_R → Prop} (hd : decode F.2.1 pc = .ok (.invokestatic idx, 3)) (hp : pc + 3 = pc') (hm : q_mt F' np) (hl1 : Cond.methodLink F.1.cls idx F'.1 ∈ q_T ∧ Cond.static F'.1 ∈ q_T) (hst : st = as.reverse ++ rest) (hct : q_Ct C l F' d' n n as μ ρ (q_PI P)) (hnp : as.length = np) (hcat : (rest.map fun v => v.category).sum ≤ 8) (hdd : d' < d)
    (kk : ∀ (v : Int32) (μ' : q_M) (ρ' : q_R), P v μ' ρ' → q_G C l F d n0 n1 Po n μ' ρ' lv (.int v :: rest) pc') : q_G C l F d n0 n1 Po n μ ρ lv st pc := by
  by_cases hn : n ≤ n1
  · exact g_callS pc' as rest hd hp hm hl1 hct hst hnp hcat hdd (Nat.le_refl _) hn (fun r μ' ρ' h => by obtain ⟨v, rfl, h⟩ := h; exact kk v μ' ρ' h)
  · intro p e s m args below meth c9 H locs ls hX hH hS hl hn2
    exact absurd hn2.2 hn
theorem g_SNi (pc' : Nat) (as rest : List Value) {idx np d' : Nat} {F' : q_F} {P : Int32 → q_M → q_R → Prop} (hd : decode F.2.1 pc = .ok (.invokestatic idx, 3)) (hp : pc + 3 = pc') (hm : q_mt F' np) (hl1 : Cond.methodLinkNest F.1.cls idx F'.1 "DesertTown" ∈ q_nest ∧ Cond.static F'.1 ∈ q_T) (hst : st = as.reverse ++ rest) (hct : q_Ct C l F' d' n n as μ ρ (q_PI P)) (hnp : as.length = np) (hcat : (rest.map fun v => v.category).sum ≤ 8) (hdd : d' < d)
    (kk : ∀ (v : Int32) (μ' : q_M) (ρ' : q_R), P v μ' ρ' → q_G C l F d n0 n1 Po n μ' ρ' lv (.int v :: rest) pc') : q_G C l F d n0 n1 Po n μ ρ lv st pc := by
  by_cases hn : n ≤ n1
  · exact g_callSN pc' as rest hd hp hm hl1 hct hst hnp hcat hdd (Nat.le_refl _) hn (fun r μ' ρ' h => by obtain ⟨v, rfl, h⟩ := h; exact kk v μ' ρ' h)
  · intro p e s m args below meth c9 H locs ls hX hH hS hl hn2
    exact absurd hn2.2 hn
theorem g_Vi (pc' : Nat) (as rest : List Value) {c idx np d' ci N : Nat} {F' : q_F} {P : Int32 → q_M → q_R → Prop} (hd : decode F.2.1 pc = .ok (.invokevirtual idx, 3)) (hp : pc + 3 = pc') (hm : q_mt F' np) (hl1 : Cond.methodLink F.1.cls idx F'.1 ∈ q_T ∧ Cond.instanceMethod F'.1 ∈ q_T ∧ Cond.selects F'.1.cls F'.1 F'.1 ∈ q_T) (hst : st = as.reverse ++ .ref (q_a C c) :: rest) (hk : q_kd c = (ci, N)) (hci : vwCl[ci]?.map (fun q => q.1) = some F'.1.cls) (hc : c < n) (hct : q_Ct C l F' d' n n (.ref (q_a C c) :: as) μ ρ (q_PI P)) (hnp : as.length = np) (hcat : (rest.map fun v => v.category).sum ≤ 8) (hdd : d' < d)
    (kk : ∀ (v : Int32) (μ' : q_M) (ρ' : q_R), P v μ' ρ' → q_G C l F d n0 n1 Po n μ' ρ' lv (.int v :: rest) pc') : q_G C l F d n0 n1 Po n μ ρ lv st pc := by
  by_cases hn : n ≤ n1
  · exact g_callV pc' c as rest hd hp hm hl1 hc hk hci hct hst hnp hcat hdd (Nat.le_refl _) hn (fun r μ' ρ' h => by obtain ⟨v, rfl, h⟩ := h; exact kk v μ' ρ' h)
  · intro p e s m args below meth c9 H locs ls hX hH hS hl hn2
    exact absurd hn2.2 hn
theorem g_Vv (pc' : Nat) (as rest : List Value) {c idx np d' ci N : Nat} {F' : q_F} {P : q_M → q_R → Prop} (hd : decode F.2.1 pc = .ok (.invokevirtual idx, 3)) (hp : pc + 3 = pc') (hm : q_mt F' np) (hl1 : Cond.methodLink F.1.cls idx F'.1 ∈ q_T ∧ Cond.instanceMethod F'.1 ∈ q_T ∧ Cond.selects F'.1.cls F'.1 F'.1 ∈ q_T) (hst : st = as.reverse ++ .ref (q_a C c) :: rest) (hk : q_kd c = (ci, N)) (hci : vwCl[ci]?.map (fun q => q.1) = some F'.1.cls) (hc : c < n) (hct : q_Ct C l F' d' n n (.ref (q_a C c) :: as) μ ρ (q_PV P)) (hnp : as.length = np) (hcat : (rest.map fun v => v.category).sum ≤ 8) (hdd : d' < d)
    (kk : ∀ (μ' : q_M) (ρ' : q_R), P μ' ρ' → q_G C l F d n0 n1 Po n μ' ρ' lv rest pc') : q_G C l F d n0 n1 Po n μ ρ lv st pc := by
  by_cases hn : n ≤ n1
  · exact g_callV pc' c as rest hd hp hm hl1 hc hk hci hct hst hnp hcat hdd (Nat.le_refl _) hn (fun r μ' ρ' h => by obtain ⟨rfl, h⟩ := h; exact kk μ' ρ' h)
  · intro p e s m args below meth c9 H locs ls hX hH hS hl hn2
    exact absurd hn2.2 hn
/-- a contract may promise less -/
theorem q_Ct.weak {as : List Value} {Po' : q_P} (h : q_Ct C l F d n0 n1 as μ ρ Po') (hw : ∀ r μ' ρ', Po' r μ' ρ' → Po r μ' ρ') : q_Ct C l F d n0 n1 as μ ρ Po := by
  unfold q_Ct at h ⊢
  intro p e ha hc hk s m args below hf hfit hheap happ
  obtain ⟨t, o, h1, h2, h3, h4, h5⟩ := h p e ha hc hk s m args below hf hfit hheap happ
  obtain ⟨⟨r, μ', ρ', g1, g2, g3⟩, g4⟩ := h4
  exact ⟨t, o, h1, h2, h3, ⟨⟨r, μ', ρ', g1, hw _ _ _ g2, g3⟩, g4⟩, h5⟩
end QK
/-- the references of the built system; b: the two road books have changed places -/
def q_ρ (b : Bool) : q_R := fun c j => match c with
  | 0 => match j with
    | 0 => some 1
    | 1 => some 4
    | 2 => some 8
    | 3 => some 10
    | 4 => some 11
    | 5 => some 63
    | 6 => some 69
    | 7 => some (bif b then 96 else 70)
    | 8 => some (bif b then 70 else 96)
    | _ => none
  | 1 => match j with
    | 0 => some 2
    | _ => some 3
  | 4 => match j with
    | 0 => some 5
    | 1 => some 6
    | _ => some 7
  | 8 => some 9
  | 11 => match j with
    | 0 => some 12
    | 1 => some 20
    | 2 => some 28
    | 3 => some 36
    | 4 => some 44
    | 5 => some 52
    | 6 => some 60
    | 7 => some 61
    | _ => some 62
  | 12 => some (13 + j)
  | 20 => some (21 + j)
  | 28 => some (29 + j)
  | 36 => some (37 + j)
  | 44 => some (45 + j)
  | 52 => some (53 + j)
  | 63 => match j with
    | 0 => some 64
    | 1 => some 65
    | 2 => some 66
    | 4 => some 67
    | _ => some 68
  | 70 => match j with
    | 0 => some 71
    | 1 => some 72
    | 2 => some 80
    | _ => some 88
  | 72 => some (73 + j)
  | 80 => some (81 + j)
  | 88 => some (89 + j)
  | 96 => match j with
    | 0 => some 97
    | 1 => some 98
    | 2 => some 106
    | _ => some 114
  | 98 => some (99 + j)
  | 106 => some (107 + j)
  | 114 => some (115 + j)
  | 122 => match j with
    | 1 => some 123
    | 2 => some 124
    | 3 => some 125
    | 4 => some 126
    | 5 => some 127
    | 6 => some 128
    | 7 => some 129
    | 8 => some 130
    | 9 => some 131
    | 10 => some 132
    | 11 => some 133
    | 22 => some 134
    | 23 => some 135
    | 24 => some 136
    | 25 => some 137
    | 26 => some 138
    | 27 => some 139
    | 28 => some 140
    | _ => some 141
  | _ => none
end
section
/-! ===== small methods ===== -/
def q_b (P : Prop) [Decidable P] : Int32 := if P then 1 else 0
theorem q_b_t {P : Prop} [Decidable P] (h : P) : q_b P = 1 := if_pos h
theorem q_b_f {P : Prop} [Decidable P] (h : ¬ P) : q_b P = 0 := if_neg h
theorem q_b_01 {P : Prop} [Decidable P] : q_b P = 0 ∨ q_b P = 1 := by by_cases h : P <;> simp [q_b, h]
theorem q_b_0 {P : Prop} [Decidable P] : q_b P = 0 ↔ ¬ P := by by_cases h : P <;> simp [q_b, h]
theorem q_b_1 {P : Prop} [Decidable P] : q_b P = 1 ↔ P := by by_cases h : P <;> simp [q_b, h]
theorem q_b_n {P : Prop} [Decidable P] : ¬ q_b P = 0 ↔ P := by by_cases h : P <;> simp [q_b, h]
/-- nothing but the answer -/
abbrev q_is (x : Int32) (μ : q_M) (ρ : q_R) : q_P := q_PI fun v μ' ρ' => x = v ∧ μ = μ' ∧ ρ = ρ'
abbrev q_to (μ : q_M) (ρ : q_R) : q_P := q_PV fun μ' ρ' => μ = μ' ∧ ρ = ρ'
abbrev q_in (x a b : Int32) : Prop := a ≤ x ∧ x ≤ b
theorem q_vp {x M : Int32} {N : Nat} (h0 : 0 ≤ x) (h1 : x ≤ M) (hM : M.toInt < (N : Int)) : vp_in x N := by
  rw [vp_in_iff]
  have e1 := Int32.le_iff_toInt_le.mp h0
  have e2 := Int32.le_iff_toInt_le.mp h1
  have e3 : (0 : Int32).toInt = 0 := rfl
  omega
theorem q_stage {x : Int32} (h : q_in x 0 6) : ∃ j : Nat, j < 7 ∧ x = nI j := by
  obtain ⟨j, h1, h2⟩ := nI_of2 (n := 6) (M := 6) rfl (Int32.not_lt.mpr h.1) h.2
  exact ⟨j, by omega, h2⟩
theorem q_camp {x : Int32} (h : q_in x 1 7) : ∃ j : Nat, j < 7 ∧ x = nI (j + 1) := by
  have h0 : ¬ x < 0 := fun q => by
    have e1 := Int32.lt_iff_toInt_lt.mp q
    have e2 := Int32.le_iff_toInt_le.mp h.1
    have e3 : (0 : Int32).toInt = 0 := rfl
    have e4 : (1 : Int32).toInt = 1 := rfl
    omega
  obtain ⟨j, h1, h2⟩ := nI_of2 (n := 7) (M := 7) rfl h0 h.2
  cases j with
  | zero =>
    have e2 := Int32.le_iff_toInt_le.mp h.1
    rw [h2] at e2
    exact absurd e2 (by decide)
  | succ j => exact ⟨j, by omega, h2⟩
def q_sum (f : Nat → Int32) : Nat → Int32
  | 0 => 0
  | n + 1 => q_sum f n + f n
/-- who would break down behind the end does so no more -/
def q_fg (μ : q_M) (cs ck : Nat) (s km : Int32) (i : Nat) : q_M := fun c j => if c = cs ∧ j < i ∧ μ cs j = s ∧ km ≤ μ ck j then -1 else μ c j
theorem q_fg_0 {μ : q_M} {cs ck : Nat} {s km : Int32} : q_fg μ cs ck s km 0 = μ := by funext c j; simp [q_fg]
theorem q_fg_y {μ : q_M} {cs ck : Nat} {s km : Int32} {i : Nat} (h1 : μ cs i = s) (h2 : km ≤ μ ck i) : q_up (q_fg μ cs ck s km i) cs i (-1) = q_fg μ cs ck s km (i + 1) := by
  funext c j
  by_cases hc : c = cs
  · subst hc
    by_cases hj : j = i
    · subst hj
      simp [q_up, q_fg, h1, h2]
    · have e : (j < i + 1) = (j < i) := by apply propext; omega
      simp [q_up, q_fg, hj, e]
  · simp [q_up, q_fg, hc]
theorem q_fg_n {μ : q_M} {cs ck : Nat} {s km : Int32} {i : Nat} (h : ¬ (μ cs i = s ∧ km ≤ μ ck i)) : q_fg μ cs ck s km i = q_fg μ cs ck s km (i + 1) := by
  funext c j
  by_cases hc : c = cs
  · subst hc
    by_cases hj : j = i
    · subst hj
      simp only [q_fg, Nat.lt_irrefl, Nat.lt_succ_self, true_and, false_and, if_false]
      rw [if_neg h]
    · have e : (j < i + 1) = (j < i) := by apply propext; omega
      simp [q_fg, e]
  · simp [q_fg, hc]
theorem q_fg_at {μ : q_M} {cs ck : Nat} {s km : Int32} {i : Nat} : q_fg μ cs ck s km i cs i = μ cs i := by simp [q_fg]
theorem q_fg_o {μ : q_M} {cs ck c j : Nat} {s km : Int32} {i : Nat} (h : c ≠ cs) : q_fg μ cs ck s km i c j = μ c j := by simp [q_fg, h]
section SM
variable {C : q_C} {l : Launch} {μ : q_M} {ρ : q_R}
set_option maxRecDepth 100000 in
set_option maxHeartbeats 4000000 in
theorem c_within (x a b : Int32) : q_Ct C l FX7_within 0 142 142 [.int x, .int a, .int b] μ ρ (q_is (q_b (q_in x a b)) μ ρ) := by
  refine q_entry rfl (by decide) (Nat.le_of_ble_eq_true rfl) ?_
  refine g_lv [(0, _), (1, _), (2, _)] rfl ?_
  refine g_iload_n 1 dX7_within_0 rfl rfl ?_
  refine g_iload_n 2 dX7_within_1 rfl rfl ?_
  refine g_icmp_gt 14 5 dX7_within_2 rfl (by decide) (fun h2 => ?_) (fun h2 => ?_)
  · refine g_iconst 15 0 dX7_within_14 rfl (by decide) ?_
    exact g_rz dX7_within_15 rfl (by first | exact Or.inl rfl | exact Or.inr rfl | assumption) rfl ⟨q_b_f (fun q => absurd q.1 (Int32.not_le.mpr h2)), rfl, rfl⟩
  · refine g_iload_n 6 dX7_within_5 rfl rfl ?_
    refine g_iload_n 7 dX7_within_6 rfl rfl ?_
    refine g_icmp_gt 14 10 dX7_within_7 rfl (by decide) (fun h7 => ?_) (fun h7 => ?_)
    · refine g_iconst 15 0 dX7_within_14 rfl (by decide) ?_
      exact g_rz dX7_within_15 rfl (by first | exact Or.inl rfl | exact Or.inr rfl | assumption) rfl ⟨q_b_f (fun q => absurd q.2 (Int32.not_le.mpr h7)), rfl, rfl⟩
    · refine g_iconst 11 1 dX7_within_10 rfl (by decide) ?_
      refine g_goto 15 dX7_within_11 (by decide) ?_
      exact g_rz dX7_within_15 rfl (by first | exact Or.inl rfl | exact Or.inr rfl | assumption) rfl ⟨q_b_t ⟨Int32.not_lt.mp h2, Int32.not_lt.mp h7⟩, rfl, rfl⟩
set_option maxRecDepth 100000 in
set_option maxHeartbeats 4000000 in
theorem c_isIn (x a b : Int32) : q_Ct C l FX8_isIn 0 142 142 [.int x, .int a, .int b] μ ρ (q_is (q_b (q_in x a b)) μ ρ) := by
  refine q_entry rfl (by decide) (Nat.le_of_ble_eq_true rfl) ?_
  refine g_lv [(0, _), (1, _), (2, _)] rfl ?_
  refine g_iload_n 1 dX8_isIn_0 rfl rfl ?_
  refine g_iload_n 2 dX8_isIn_1 rfl rfl ?_
  refine g_icmp_lt 14 5 dX8_isIn_2 rfl (by decide) (fun h2 => ?_) (fun h2 => ?_)
  · refine g_iconst 15 0 dX8_isIn_14 rfl (by decide) ?_
    exact g_rz dX8_isIn_15 rfl (by first | exact Or.inl rfl | exact Or.inr rfl | assumption) rfl ⟨q_b_f (fun q => absurd q.1 (Int32.not_le.mpr h2)), rfl, rfl⟩
  · refine g_iload_n 6 dX8_isIn_5 rfl rfl ?_
    refine g_iload_n 7 dX8_isIn_6 rfl rfl ?_
    refine g_icmp_gt 14 10 dX8_isIn_7 rfl (by decide) (fun h7 => ?_) (fun h7 => ?_)
    · refine g_iconst 15 0 dX8_isIn_14 rfl (by decide) ?_
      exact g_rz dX8_isIn_15 rfl (by first | exact Or.inl rfl | exact Or.inr rfl | assumption) rfl ⟨q_b_f (fun q => absurd q.2 (Int32.not_le.mpr h7)), rfl, rfl⟩
    · refine g_iconst 11 1 dX8_isIn_10 rfl (by decide) ?_
      refine g_goto 15 dX8_isIn_11 (by decide) ?_
      exact g_rz dX8_isIn_15 rfl (by first | exact Or.inl rfl | exact Or.inr rfl | assumption) rfl ⟨q_b_t ⟨Int32.not_lt.mp h2, Int32.not_lt.mp h7⟩, rfl, rfl⟩
set_option maxRecDepth 100000 in
set_option maxHeartbeats 4000000 in
theorem c_isStage (x : Int32) : q_Ct C l FX7_isStage 1 142 142 [.int x] μ ρ (q_is (q_b (q_in x 0 6)) μ ρ) := by
  refine q_entry rfl (by decide) (Nat.le_of_ble_eq_true rfl) ?_
  refine g_lv [(0, _)] rfl ?_
  refine g_iload_n 1 dX7_isStage_0 rfl rfl ?_
  refine g_iconst 2 0 dX7_isStage_1 rfl (by decide) ?_
  refine g_bipush 4 6 dX7_isStage_2 rfl (by decide) ?_
  refine g_Si 7 [_, _, _] _ dX7_isStage_4 rfl m_X7_within l_X7_73 rfl (c_within _ _ _) rfl (Nat.le_of_ble_eq_true rfl) (by decide) (fun v4 μ4 ρ4 hc9 => ?_)
  obtain ⟨rfl, rfl, rfl⟩ := hc9
  exact g_rz dX7_isStage_7 rfl q_b_01 rfl ⟨rfl, rfl, rfl⟩
set_option maxRecDepth 100000 in
set_option maxHeartbeats 4000000 in
theorem c_isCamp (x : Int32) : q_Ct C l FX7_isCamp 1 142 142 [.int x] μ ρ (q_is (q_b (q_in x 1 7)) μ ρ) := by
  refine q_entry rfl (by decide) (Nat.le_of_ble_eq_true rfl) ?_
  refine g_lv [(0, _)] rfl ?_
  refine g_iload_n 1 dX7_isCamp_0 rfl rfl ?_
  refine g_iconst 2 1 dX7_isCamp_1 rfl (by decide) ?_
  refine g_bipush 4 7 dX7_isCamp_2 rfl (by decide) ?_
  refine g_Si 7 [_, _, _] _ dX7_isCamp_4 rfl m_X7_within l_X7_73 rfl (c_within _ _ _) rfl (Nat.le_of_ble_eq_true rfl) (by decide) (fun v4 μ4 ρ4 hc9 => ?_)
  obtain ⟨rfl, rfl, rfl⟩ := hc9
  exact g_rz dX7_isCamp_7 rfl q_b_01 rfl ⟨rfl, rfl, rfl⟩
set_option maxRecDepth 100000 in
set_option maxHeartbeats 4000000 in
theorem c_MisStage (x : Int32) : q_Ct C l FX8_isStage 1 142 142 [.int x] μ ρ (q_is (q_b (q_in x 0 6)) μ ρ) := by
  refine q_entry rfl (by decide) (Nat.le_of_ble_eq_true rfl) ?_
  refine g_lv [(0, _)] rfl ?_
  refine g_iload_n 1 dX8_isStage_0 rfl rfl ?_
  refine g_iconst 2 0 dX8_isStage_1 rfl (by decide) ?_
  refine g_bipush 4 6 dX8_isStage_2 rfl (by decide) ?_
  refine g_Si 7 [_, _, _] _ dX8_isStage_4 rfl m_X8_isIn l_X8_71 rfl (c_isIn _ _ _) rfl (Nat.le_of_ble_eq_true rfl) (by decide) (fun v4 μ4 ρ4 hc9 => ?_)
  obtain ⟨rfl, rfl, rfl⟩ := hc9
  exact g_rz dX8_isStage_7 rfl q_b_01 rfl ⟨rfl, rfl, rfl⟩
set_option maxRecDepth 100000 in
set_option maxHeartbeats 4000000 in
theorem c_MisCamp (x : Int32) : q_Ct C l FX8_isCamp 1 142 142 [.int x] μ ρ (q_is (q_b (q_in x 1 7)) μ ρ) := by
  refine q_entry rfl (by decide) (Nat.le_of_ble_eq_true rfl) ?_
  refine g_lv [(0, _)] rfl ?_
  refine g_iload_n 1 dX8_isCamp_0 rfl rfl ?_
  refine g_iconst 2 1 dX8_isCamp_1 rfl (by decide) ?_
  refine g_bipush 4 7 dX8_isCamp_2 rfl (by decide) ?_
  refine g_Si 7 [_, _, _] _ dX8_isCamp_4 rfl m_X8_isIn l_X8_71 rfl (c_isIn _ _ _) rfl (Nat.le_of_ble_eq_true rfl) (by decide) (fun v4 μ4 ρ4 hc9 => ?_)
  obtain ⟨rfl, rfl, rfl⟩ := hc9
  exact g_rz dX8_isCamp_7 rfl q_b_01 rfl ⟨rfl, rfl, rfl⟩
theorem q_lcmp {x y : Int64} : 0 ≤ lg_cmp x y ↔ y ≤ x := by
  unfold lg_cmp
  have e : x > y ↔ y.toInt < x.toInt := Int64.lt_iff_toInt_lt
  have e2 : y ≤ x ↔ y.toInt ≤ x.toInt := Int64.le_iff_toInt_le
  by_cases h : x > y
  · rw [if_pos h, e2]
    have := e.mp h
    exact ⟨fun _ => by omega, fun _ => by decide⟩
  · rw [if_neg h]
    by_cases h2 : x = y
    · rw [if_pos h2, e2, h2]
      exact ⟨fun _ => Int.le_refl _, fun _ => by decide⟩
    · rw [if_neg h2, e2]
      refine ⟨fun q => absurd q (by decide), fun q => ?_⟩
      exfalso
      have h3 : ¬ y.toInt < x.toInt := fun z => h (e.mpr z)
      exact h2 (Int64.toInt_inj.mp (by omega))
theorem q_lcmp0 {x y : Int64} : lg_cmp x y = 0 ↔ x = y := by
  unfold lg_cmp
  by_cases h : x > y
  · rw [if_pos h]
    refine ⟨fun q => absurd q (by decide), fun q => ?_⟩
    subst q
    exact absurd h (Int64.lt_irrefl)
  · rw [if_neg h]
    by_cases h2 : x = y
    · simp [h2]
    · rw [if_neg h2]
      exact ⟨fun q => absurd q (by decide), fun q => absurd q h2⟩
def q_dv (a d : Int64) : Int32 := if 1 ≤ d then ((a + d - 1) / d).toInt32 else 0
theorem q_nz {d : Int64} (h : 1 ≤ d) : ¬ d = 0 := fun e => by rw [e] at h; exact absurd h (by decide)
set_option maxRecDepth 100000 in
set_option maxHeartbeats 4000000 in
theorem c_divUp (x y : Int64) : q_Ct C l FX7_divideUpwards 0 142 142 [.long x, .long y] μ ρ (q_is (q_dv x y) μ ρ) := by
  refine q_entry rfl (by decide) (Nat.le_of_ble_eq_true rfl) ?_
  refine g_lv [(0, _), (2, _)] rfl ?_
  refine g_lload_n 1 dX7_divideUpwards_0 rfl rfl ?_
  refine g_lconst 2 1 dX7_divideUpwards_1 rfl (by decide) ?_
  refine g_lcmp 3 dX7_divideUpwards_2 rfl ?_
  refine g_if_ge 10 6 dX7_divideUpwards_3 rfl (by decide) (fun h3 => ?_) (fun h3 => ?_)
  · refine g_lload_n 11 dX7_divideUpwards_10 rfl rfl ?_
    refine g_lload_n 12 dX7_divideUpwards_11 rfl rfl ?_
    refine g_ladd 13 dX7_divideUpwards_12 rfl ?_
    refine g_lconst 14 1 dX7_divideUpwards_13 rfl (by decide) ?_
    refine g_lsub 15 dX7_divideUpwards_14 rfl ?_
    refine g_lload_n 16 dX7_divideUpwards_15 rfl rfl ?_
    refine g_ldiv 17 dX7_divideUpwards_16 rfl (q_nz (q_lcmp.mp h3)) ?_
    refine g_l2i 18 dX7_divideUpwards_17 rfl ?_
    exact g_ri dX7_divideUpwards_18 rfl rfl ⟨if_pos (q_lcmp.mp h3), rfl, rfl⟩
  · refine g_iconst 7 0 dX7_divideUpwards_6 rfl (by decide) ?_
    refine g_goto 18 dX7_divideUpwards_7 (by decide) ?_
    exact g_ri dX7_divideUpwards_18 rfl rfl ⟨if_neg (fun q => h3 (q_lcmp.mpr q)), rfl, rfl⟩
set_option maxRecDepth 100000 in
set_option maxHeartbeats 4000000 in
theorem c_minFor (x y : Int32) : q_Ct C l FX7_minutesFor 1 142 142 [.int x, .int y] μ ρ (q_is (q_dv (x.toInt64 * 60) y.toInt64) μ ρ) := by
  refine q_entry rfl (by decide) (Nat.le_of_ble_eq_true rfl) ?_
  refine g_lv [(0, _), (1, _)] rfl ?_
  refine g_iload_n 1 dX7_minutesFor_0 rfl rfl ?_
  refine g_i2l 2 dX7_minutesFor_1 rfl ?_
  refine g_ldc2 5 60 dX7_minutesFor_2 rfl n_X7_214 ?_
  refine g_lmul 6 dX7_minutesFor_5 rfl ?_
  refine g_iload_n 7 dX7_minutesFor_6 rfl rfl ?_
  refine g_i2l 8 dX7_minutesFor_7 rfl ?_
  refine g_Si 11 [_, _] _ dX7_minutesFor_8 rfl m_X7_divideUpwards l_X7_172 rfl (c_divUp _ _) rfl (Nat.le_of_ble_eq_true rfl) (by decide) (fun v8 μ8 ρ8 hc9 => ?_)
  obtain ⟨rfl, rfl, rfl⟩ := hc9
  exact g_ri dX7_minutesFor_11 rfl rfl ⟨rfl, rfl, rfl⟩
end SM
section SB
variable {C : q_C} {l : Launch} {μ : q_M} {b : Bool}
set_option maxRecDepth 100000 in
set_option maxHeartbeats 4000000 in
theorem c_has (x : Int32) : q_Ct C l FX4_has 1 142 142 [.ref (q_a C 4), .int x] μ (q_ρ b) (q_is (q_b (q_in x 0 (μ 4 3 - 1))) μ (q_ρ b)) := by
  refine q_entry rfl (by decide) (Nat.le_of_ble_eq_true rfl) ?_
  refine g_lv [(0, _), (1, _)] rfl ?_
  refine g_iload_n 1 dX4_has_0 rfl rfl ?_
  refine g_iconst 2 0 dX4_has_1 rfl (by decide) ?_
  refine g_aload_n 3 dX4_has_2 rfl rfl ?_
  refine g_getI 6 dX4_has_3 rfl f_X4_21 (by decide) rfl rfl ?_
  refine g_iconst 7 1 dX4_has_6 rfl (by decide) ?_
  refine g_isub 8 dX4_has_7 rfl ?_
  refine g_SNi 11 [_, _, _] _ dX4_has_8 rfl m_X7_within l_X4_25 rfl (c_within _ _ _) rfl (Nat.le_of_ble_eq_true rfl) (by decide) (fun v8 μ8 ρ8 hc9 => ?_)
  obtain ⟨rfl, rfl, rfl⟩ := hc9
  exact g_rz dX4_has_11 rfl q_b_01 rfl ⟨rfl, rfl, rfl⟩
set_option maxRecDepth 100000 in
set_option maxHeartbeats 4000000 in
theorem c_MisRacer (x : Int32) : q_Ct C l FX8_isRacer 1 142 142 [.ref (q_a C 122), .int x] μ (q_ρ b) (q_is (q_b (q_in x 0 (μ 122 0 - 1))) μ (q_ρ b)) := by
  refine q_entry rfl (by decide) (Nat.le_of_ble_eq_true rfl) ?_
  refine g_lv [(0, _), (1, _)] rfl ?_
  refine g_iload_n 1 dX8_isRacer_0 rfl rfl ?_
  refine g_iconst 2 0 dX8_isRacer_1 rfl (by decide) ?_
  refine g_aload_n 3 dX8_isRacer_2 rfl rfl ?_
  refine g_getI 6 dX8_isRacer_3 rfl f_X8_75 (by decide) rfl rfl ?_
  refine g_iconst 7 1 dX8_isRacer_6 rfl (by decide) ?_
  refine g_isub 8 dX8_isRacer_7 rfl ?_
  refine g_Si 11 [_, _, _] _ dX8_isRacer_8 rfl m_X8_isIn l_X8_71 rfl (c_isIn _ _ _) rfl (Nat.le_of_ble_eq_true rfl) (by decide) (fun v8 μ8 ρ8 hc9 => ?_)
  obtain ⟨rfl, rfl, rfl⟩ := hc9
  exact g_rz dX8_isRacer_11 rfl q_b_01 rfl ⟨rfl, rfl, rfl⟩
set_option maxRecDepth 100000 in
set_option maxHeartbeats 4000000 in
theorem c_Mlength (x : Int32) (hx : vp_in (x + 1) 8) : q_Ct C l FX8_length 0 142 142 [.ref (q_a C 122), .int x] μ (q_ρ b) (q_is (μ 123 (x + 1).toNatClampNeg) μ (q_ρ b)) := by
  refine q_entry rfl (by decide) (Nat.le_of_ble_eq_true rfl) ?_
  refine g_lv [(0, _), (1, _)] rfl ?_
  refine g_aload_n 1 dX8_length_0 rfl rfl ?_
  refine g_getR 4 _ dX8_length_1 rfl f_X8_7 (by decide) rfl rfl rfl ?_
  refine g_iload_n 5 dX8_length_4 rfl rfl ?_
  refine g_iconst 6 1 dX8_length_5 rfl (by decide) ?_
  refine g_iadd 7 dX8_length_6 rfl ?_
  refine g_iald 8 dX8_length_7 rfl (by decide) rfl hx ?_
  exact g_ri dX8_length_8 rfl rfl ⟨rfl, rfl, rfl⟩
set_option maxRecDepth 100000 in
set_option maxHeartbeats 4000000 in
theorem lp_km {m : Nat} (hm : m ≤ 7) : ∀ k i, i + k = m → q_G C l FX1_kilometerOf 0 142 142 (q_is (q_sum (μ 2) m) μ (q_ρ b)) 142 μ (q_ρ b) [(0, .ref (q_a C 1)), (1, .int (nI m)), (2, .int (q_sum (μ 2) i)), (3, .int (nI i))] [] 4 := by
  intro k
  induction k with
  | zero =>
    intro i hi
    refine g_iload_n 5 dX1_kilometerOf_4 rfl rfl ?_
    refine g_iload_n 6 dX1_kilometerOf_5 rfl rfl ?_
    refine g_icmp_ge 30 9 dX1_kilometerOf_6 rfl (by decide) (fun h6 => ?_) (fun h6 => ?_)
    · refine g_iload_n 31 dX1_kilometerOf_30 rfl rfl ?_
      exact g_ri dX1_kilometerOf_31 rfl rfl ⟨by rw [show i = m by omega], rfl, rfl⟩
    · exact absurd (nI_le (by omega) (by omega)) h6
  | succ k ih =>
    intro i hi
    refine g_iload_n 5 dX1_kilometerOf_4 rfl rfl ?_
    refine g_iload_n 6 dX1_kilometerOf_5 rfl rfl ?_
    refine g_icmp_ge 30 9 dX1_kilometerOf_6 rfl (by decide) (fun h6 => ?_) (fun h6 => ?_)
    · exact absurd h6 (nI_ge (by omega) (by omega))
    · refine g_iload_n 10 dX1_kilometerOf_9 rfl rfl ?_
      refine g_bipush 12 7 dX1_kilometerOf_10 rfl (by decide) ?_
      refine g_icmp_ge 30 15 dX1_kilometerOf_12 rfl (by decide) (fun h12 => ?_) (fun h12 => ?_)
      · exact absurd h12 (nI_ge (a := i) (b := 7) (by omega) (by omega))
      · refine g_iload_n 16 dX1_kilometerOf_15 rfl rfl ?_
        refine g_aload_n 17 dX1_kilometerOf_16 rfl rfl ?_
        refine g_getR 20 _ dX1_kilometerOf_17 rfl f_X1_9 (by decide) rfl rfl rfl ?_
        refine g_iload_n 21 dX1_kilometerOf_20 rfl rfl ?_
        refine g_iald 22 dX1_kilometerOf_21 rfl (by decide) rfl (vp_in_nI (by omega) (by omega)) ?_
        refine g_iadd 23 dX1_kilometerOf_22 rfl ?_
        refine g_istore_n 24 dX1_kilometerOf_23 rfl (by decide) ?_
        refine g_iinc 27 (_ + 1) dX1_kilometerOf_24 rfl rfl rfl (by decide) ?_
        refine g_goto 4 dX1_kilometerOf_27 (by decide) ?_
        rw [nI_clamp (show i < 2 ^ 31 by omega), nI_1]
        refine g_lv [(0, _), (1, _), (2, _), (3, _)] rfl ?_
        exact ih (i + 1) (by omega)
set_option maxRecDepth 100000 in
set_option maxHeartbeats 4000000 in
theorem c_km (m : Nat) (hm : m ≤ 7) : q_Ct C l FX1_kilometerOf 0 142 142 [.ref (q_a C 1), .int (nI m)] μ (q_ρ b) (q_is (q_sum (μ 2) m) μ (q_ρ b)) := by
  refine q_entry rfl (by decide) (Nat.le_of_ble_eq_true rfl) ?_
  refine g_lv [(0, _), (1, _)] rfl ?_
  refine g_iconst 1 0 dX1_kilometerOf_0 rfl (by decide) ?_
  refine g_istore_n 2 dX1_kilometerOf_1 rfl (by decide) ?_
  refine g_iconst 3 0 dX1_kilometerOf_2 rfl (by decide) ?_
  refine g_istore_n 4 dX1_kilometerOf_3 rfl (by decide) ?_
  refine g_lv [(0, _), (1, _), (2, .int 0), (3, .int 0)] rfl ?_
  exact lp_km hm m 0 (by omega)
set_option maxRecDepth 100000 in
set_option maxHeartbeats 4000000 in
theorem c_begins (i : Nat) (hi : i < 7) : q_Ct C l FX1_begins 2 142 142 [.ref (q_a C 1), .int (nI i)] μ (q_ρ b) (q_is (nI i * 1440 + μ 3 i * 60) μ (q_ρ b)) := by
  refine q_entry rfl (by decide) (Nat.le_of_ble_eq_true rfl) ?_
  refine g_lv [(0, _), (1, _)] rfl ?_
  refine g_iload_n 1 dX1_begins_0 rfl rfl ?_
  refine g_SNi 4 [_] _ dX1_begins_1 rfl m_X7_isStage l_X1_18 rfl (c_isStage _) rfl (Nat.le_of_ble_eq_true rfl) (by decide) (fun v1 μ1 ρ1 hc9 => ?_)
  obtain ⟨rfl, rfl, rfl⟩ := hc9
  refine g_if_eq 25 7 dX1_begins_4 rfl (by decide) (fun h4 => ?_) (fun h4 => ?_)
  · exact (q_b_0.mp h4 ⟨nI_pos' (by omega), nI_leI (a := i) (b := 6) (by omega) (by omega) |>.mpr (by omega)⟩).elim
  · refine g_iload_n 8 dX1_begins_7 rfl rfl ?_
    refine g_sipush 11 1440 dX1_begins_8 rfl (by decide) ?_
    refine g_imul 12 dX1_begins_11 rfl ?_
    refine g_aload_n 13 dX1_begins_12 rfl rfl ?_
    refine g_getR 16 _ dX1_begins_13 rfl f_X1_15 (by decide) rfl rfl rfl ?_
    refine g_iload_n 17 dX1_begins_16 rfl rfl ?_
    refine g_iald 18 dX1_begins_17 rfl (by decide) rfl (vp_in_nI hi (by omega)) ?_
    refine g_bipush 20 60 dX1_begins_18 rfl (by decide) ?_
    refine g_imul 21 dX1_begins_20 rfl ?_
    refine g_iadd 22 dX1_begins_21 rfl ?_
    refine g_goto 26 dX1_begins_22 (by decide) ?_
    exact g_ri dX1_begins_26 rfl rfl ⟨by rw [nI_clamp (show i < 2 ^ 31 by omega)], rfl, rfl⟩
set_option maxRecDepth 100000 in
set_option maxHeartbeats 4000000 in
theorem lp_forget {m : Nat} {s km : Int32} (hm : m ≤ 10) (hc : μ 4 3 = nI m) : ∀ k i, i + k = m → q_G C l FX4_forgetBreaksFrom 0 142 142 (q_to (q_fg μ 6 7 s km m) (q_ρ b)) 142 (q_fg μ 6 7 s km i) (q_ρ b) [(0, .ref (q_a C 4)), (1, .int s), (2, .int km), (3, .int (nI i))] [] 2 := by
  intro k
  induction k with
  | zero =>
    intro i hi
    refine g_iload_n 3 dX4_forgetBreaksFrom_2 rfl rfl ?_
    refine g_aload_n 4 dX4_forgetBreaksFrom_3 rfl rfl ?_
    refine g_getI 7 dX4_forgetBreaksFrom_4 rfl f_X4_21 (by decide) rfl rfl ?_
    rw [q_fg_o (by decide), hc]
    refine g_icmp_ge 43 10 dX4_forgetBreaksFrom_7 rfl (by decide) (fun h7 => ?_) (fun h7 => ?_)
    · exact g_rv dX4_forgetBreaksFrom_43 rfl rfl ⟨by rw [show i = m by omega], rfl⟩
    · exact absurd (nI_le (by omega) (by omega)) h7
  | succ k ih =>
    intro i hi
    refine g_iload_n 3 dX4_forgetBreaksFrom_2 rfl rfl ?_
    refine g_aload_n 4 dX4_forgetBreaksFrom_3 rfl rfl ?_
    refine g_getI 7 dX4_forgetBreaksFrom_4 rfl f_X4_21 (by decide) rfl rfl ?_
    rw [q_fg_o (by decide), hc]
    refine g_icmp_ge 43 10 dX4_forgetBreaksFrom_7 rfl (by decide) (fun h7 => ?_) (fun h7 => ?_)
    · exact absurd h7 (nI_ge (by omega) (by omega))
    · refine g_aload_n 11 dX4_forgetBreaksFrom_10 rfl rfl ?_
      refine g_getR 14 _ dX4_forgetBreaksFrom_11 rfl f_X4_15 (by decide) rfl rfl rfl ?_
      refine g_iload_n 15 dX4_forgetBreaksFrom_14 rfl rfl ?_
      refine g_iald 16 dX4_forgetBreaksFrom_15 rfl (by decide) rfl (vp_in_nI (by omega) (by omega)) ?_
      rw [nI_clamp (show i < 2 ^ 31 by omega)]
      refine g_iload_n 17 dX4_forgetBreaksFrom_16 rfl rfl ?_
      refine g_icmp_ne 37 20 dX4_forgetBreaksFrom_17 rfl (by decide) (fun h17 => ?_) (fun h17 => ?_)
      · refine g_iinc 40 (_ + 1) dX4_forgetBreaksFrom_37 rfl rfl rfl (by decide) ?_
        refine g_goto 2 dX4_forgetBreaksFrom_40 (by decide) ?_
        rw [q_fg_n (i := i) (fun q => h17 (by rw [q_fg_at]; exact q.1))]
        rw [nI_1]
        refine g_lv [(0, _), (1, _), (2, _), (3, _)] rfl ?_
        exact ih (i + 1) (by omega)
      · refine g_aload_n 21 dX4_forgetBreaksFrom_20 rfl rfl ?_
        refine g_getR 24 _ dX4_forgetBreaksFrom_21 rfl f_X4_18 (by decide) rfl rfl rfl ?_
        refine g_iload_n 25 dX4_forgetBreaksFrom_24 rfl rfl ?_
        refine g_iald 26 dX4_forgetBreaksFrom_25 rfl (by decide) rfl (vp_in_nI (by omega) (by omega)) ?_
        rw [nI_clamp (show i < 2 ^ 31 by omega)]
        refine g_iload_n 27 dX4_forgetBreaksFrom_26 rfl rfl ?_
        refine g_icmp_lt 37 30 dX4_forgetBreaksFrom_27 rfl (by decide) (fun h27 => ?_) (fun h27 => ?_)
        · refine g_iinc 40 (_ + 1) dX4_forgetBreaksFrom_37 rfl rfl rfl (by decide) ?_
          refine g_goto 2 dX4_forgetBreaksFrom_40 (by decide) ?_
          rw [q_fg_n (i := i) (fun q => absurd h27 (Int32.not_lt.mpr (by rw [q_fg_o (by decide)]; exact q.2)))]
          rw [nI_1]
          refine g_lv [(0, _), (1, _), (2, _), (3, _)] rfl ?_
          exact ih (i + 1) (by omega)
        · refine g_aload_n 31 dX4_forgetBreaksFrom_30 rfl rfl ?_
          refine g_getR 34 _ dX4_forgetBreaksFrom_31 rfl f_X4_15 (by decide) rfl rfl rfl ?_
          refine g_iload_n 35 dX4_forgetBreaksFrom_34 rfl rfl ?_
          refine g_iconst 36 (-1) dX4_forgetBreaksFrom_35 rfl (by decide) ?_
          refine g_iast 37 dX4_forgetBreaksFrom_36 rfl (by decide) rfl (vp_in_nI (by omega) (by omega)) ?_
          rw [nI_clamp (show i < 2 ^ 31 by omega)]
          refine g_iinc 40 (_ + 1) dX4_forgetBreaksFrom_37 rfl rfl rfl (by decide) ?_
          refine g_goto 2 dX4_forgetBreaksFrom_40 (by decide) ?_
          rw [q_fg_y (by rw [q_fg_at] at h17; exact h17) (by rw [q_fg_o (by decide)] at h27; exact Int32.not_lt.mp h27)]
          rw [nI_1]
          refine g_lv [(0, _), (1, _), (2, _), (3, _)] rfl ?_
          exact ih (i + 1) (by omega)
set_option maxRecDepth 100000 in
set_option maxHeartbeats 4000000 in
theorem c_forget (m : Nat) (s km : Int32) (hm : m ≤ 10) (hc : μ 4 3 = nI m) : q_Ct C l FX4_forgetBreaksFrom 0 142 142 [.ref (q_a C 4), .int s, .int km] μ (q_ρ b) (q_to (q_fg μ 6 7 s km m) (q_ρ b)) := by
  refine q_entry rfl (by decide) (Nat.le_of_ble_eq_true rfl) ?_
  refine g_lv [(0, _), (1, _), (2, _)] rfl ?_
  refine g_iconst 1 0 dX4_forgetBreaksFrom_0 rfl (by decide) ?_
  refine g_istore_n 2 dX4_forgetBreaksFrom_1 rfl (by decide) ?_
  refine g_lv [(0, _), (1, _), (2, _), (3, .int 0)] rfl ?_
  have h9 := lp_forget (C := C) (l := l) (b := b) (s := s) (km := km) hm hc m 0 (by omega)
  rw [q_fg_0] at h9
  exact h9
end SB
end
section
/-! ===== what is told: the class ===== -/
theorem q_stageI {j : Nat} (h : j < 7) : q_in (nI j) 0 6 := ⟨nI_pos' (by omega), (nI_leI (a := j) (b := 6) (by omega) (by omega)).mpr (by omega)⟩
theorem q_campI {j : Nat} (h : j < 7) : q_in (nI (j + 1)) 1 7 := ⟨(nI_leI (a := 1) (b := j + 1) (by omega) (by omega)).mpr (by omega), (nI_leI (a := j + 1) (b := 7) (by omega) (by omega)).mpr (by omega)⟩
theorem q_upo {α : Type} {f : Nat → Nat → α} {c k c' k' : Nat} {v : α} (h : ¬ (c' = c ∧ k' = k)) : q_up f c k v c' k' = f c' k' := if_neg h
theorem q_upc {α : Type} {f : Nat → Nat → α} {c k c' k' : Nat} {v : α} (h : c' ≠ c) : q_up f c k v c' k' = f c' k' := if_neg (fun q => h q.1)
theorem q_ups {α : Type} {f : Nat → Nat → α} {c k : Nat} {v : α} : q_up f c k v c k = v := if_pos ⟨rfl, rfl⟩
theorem q_rin {r m : Nat} (h : r < m) (hm : m ≤ 10) : q_in (nI r) 0 (nI m - 1) := by
  cases m with
  | zero => omega
  | succ m =>
    rw [nI_pred]
    exact ⟨nI_pos' (by omega), nI_le (by omega) (by omega)⟩
section TL
variable {C : q_C} {l : Launch} {μ : q_M} {b : Bool}
set_option maxRecDepth 100000 in
set_option maxHeartbeats 4000000 in
theorem c_camp_y {j m : Nat} {far : Int32} (hj : j < 7) (hf : q_in far 1 900) (hm : m ≤ 10) (hc : μ 4 3 = nI m) : q_Ct C l FX7_camp 2 142 142 [.ref (q_a C 0), .int (nI (j + 1)), .int far] μ (q_ρ b) (q_is 1 (q_up (q_fg (q_up μ 2 j far) 6 7 (nI j) far m) 0 9 1) (q_ρ b)) := by
  refine q_entry rfl (by decide) (Nat.le_of_ble_eq_true rfl) ?_
  refine g_lv [(0, _), (1, _), (2, _)] rfl ?_
  refine g_iload_n 1 dX7_camp_0 rfl rfl ?_
  refine g_Si 4 [_] _ dX7_camp_1 rfl m_X7_isCamp l_X7_69 rfl (c_isCamp _) rfl (Nat.le_of_ble_eq_true rfl) (by decide) (fun v1 μ1 ρ1 hc9 => ?_)
  obtain ⟨rfl, rfl, rfl⟩ := hc9
  refine g_if_eq 18 7 dX7_camp_4 rfl (by decide) (fun h4 => ?_) (fun h4 => ?_)
  · exact (q_b_0.mp h4 (q_campI hj)).elim
  · refine g_iload_n 8 dX7_camp_7 rfl rfl ?_
    refine g_iconst 9 1 dX7_camp_8 rfl (by decide) ?_
    refine g_sipush 12 900 dX7_camp_9 rfl (by decide) ?_
    refine g_Si 15 [_, _, _] _ dX7_camp_12 rfl m_X7_within l_X7_73 rfl (c_within _ _ _) rfl (Nat.le_of_ble_eq_true rfl) (by decide) (fun v12 μ12 ρ12 hc9 => ?_)
    obtain ⟨rfl, rfl, rfl⟩ := hc9
    refine g_if_ne 20 18 dX7_camp_15 rfl (by decide) (fun h15 => ?_) (fun h15 => ?_)
    · refine g_aload_n 21 dX7_camp_20 rfl rfl ?_
      refine g_getR 24 _ dX7_camp_21 rfl f_X7_12 (by decide) rfl rfl rfl ?_
      refine g_getR 27 _ dX7_camp_24 rfl f_X7_77 (by decide) rfl rfl rfl ?_
      refine g_iload_n 28 dX7_camp_27 rfl rfl ?_
      refine g_iconst 29 1 dX7_camp_28 rfl (by decide) ?_
      refine g_isub 30 dX7_camp_29 rfl ?_
      refine g_iload_n 31 dX7_camp_30 rfl rfl ?_
      refine g_iast 32 dX7_camp_31 rfl (by decide) rfl (by rw [nI_pred]; exact vp_in_nI hj (by omega)) ?_
      rw [nI_pred, nI_clamp (show j < 2 ^ 31 by omega)]
      refine g_aload_n 33 dX7_camp_32 rfl rfl ?_
      refine g_getR 36 _ dX7_camp_33 rfl f_X7_19 (by decide) rfl rfl rfl ?_
      refine g_iload_n 37 dX7_camp_36 rfl rfl ?_
      refine g_iconst 38 1 dX7_camp_37 rfl (by decide) ?_
      refine g_isub 39 dX7_camp_38 rfl ?_
      refine g_iload_n 40 dX7_camp_39 rfl rfl ?_
      refine g_Vv 43 [_, _] _ dX7_camp_40 rfl m_X4_forgetBreaksFrom l_X7_80 rfl rfl rfl (by decide) (c_forget m _ _ hm (by rw [q_upc (by decide)]; exact hc)) rfl (Nat.le_of_ble_eq_true rfl) (by decide) (fun μ40 ρ40 hc9 => ?_)
      obtain ⟨rfl, rfl⟩ := hc9
      rw [nI_pred]
      refine g_aload_n 44 dX7_camp_43 rfl rfl ?_
      refine g_iconst 45 1 dX7_camp_44 rfl (by decide) ?_
      refine g_putZ 48 dX7_camp_45 rfl f_X7_65 (by decide) rfl rfl (by decide) ?_
      refine g_iconst 49 1 dX7_camp_48 rfl (by decide) ?_
      exact g_rz dX7_camp_49 rfl (by first | exact Or.inl rfl | exact Or.inr rfl | assumption) rfl ⟨rfl, rfl, rfl⟩
    · exact (q_b_0.mp h15 hf).elim
set_option maxRecDepth 100000 in
set_option maxHeartbeats 4000000 in
theorem c_camp_n {c far : Int32} (h : ¬ (q_in c 1 7 ∧ q_in far 1 900)) : q_Ct C l FX7_camp 2 142 142 [.ref (q_a C 0), .int c, .int far] μ (q_ρ b) (q_is 0 μ (q_ρ b)) := by
  refine q_entry rfl (by decide) (Nat.le_of_ble_eq_true rfl) ?_
  refine g_lv [(0, _), (1, _), (2, _)] rfl ?_
  refine g_iload_n 1 dX7_camp_0 rfl rfl ?_
  refine g_Si 4 [_] _ dX7_camp_1 rfl m_X7_isCamp l_X7_69 rfl (c_isCamp _) rfl (Nat.le_of_ble_eq_true rfl) (by decide) (fun v1 μ1 ρ1 hc9 => ?_)
  obtain ⟨rfl, rfl, rfl⟩ := hc9
  refine g_if_eq 18 7 dX7_camp_4 rfl (by decide) (fun h4 => ?_) (fun h4 => ?_)
  · refine g_iconst 19 0 dX7_camp_18 rfl (by decide) ?_
    exact g_rz dX7_camp_19 rfl (by first | exact Or.inl rfl | exact Or.inr rfl | assumption) rfl ⟨rfl, rfl, rfl⟩
  · refine g_iload_n 8 dX7_camp_7 rfl rfl ?_
    refine g_iconst 9 1 dX7_camp_8 rfl (by decide) ?_
    refine g_sipush 12 900 dX7_camp_9 rfl (by decide) ?_
    refine g_Si 15 [_, _, _] _ dX7_camp_12 rfl m_X7_within l_X7_73 rfl (c_within _ _ _) rfl (Nat.le_of_ble_eq_true rfl) (by decide) (fun v12 μ12 ρ12 hc9 => ?_)
    obtain ⟨rfl, rfl, rfl⟩ := hc9
    refine g_if_ne 20 18 dX7_camp_15 rfl (by decide) (fun h15 => ?_) (fun h15 => ?_)
    · exact (h ⟨q_b_n.mp h4, q_b_n.mp h15⟩).elim
    · refine g_iconst 19 0 dX7_camp_18 rfl (by decide) ?_
      exact g_rz dX7_camp_19 rfl (by first | exact Or.inl rfl | exact Or.inr rfl | assumption) rfl ⟨rfl, rfl, rfl⟩
set_option maxRecDepth 100000 in
set_option maxHeartbeats 4000000 in
theorem c_hour_y {j : Nat} {h : Int32} (hj : j < 7) (hf : q_in h 0 23) : q_Ct C l FX7_hour 2 142 142 [.ref (q_a C 0), .int (nI j), .int h] μ (q_ρ b) (q_is 1 (q_up (q_up μ 3 j h) 0 9 1) (q_ρ b)) := by
  refine q_entry rfl (by decide) (Nat.le_of_ble_eq_true rfl) ?_
  refine g_lv [(0, _), (1, _), (2, _)] rfl ?_
  refine g_iload_n 1 dX7_hour_0 rfl rfl ?_
  refine g_Si 4 [_] _ dX7_hour_1 rfl m_X7_isStage l_X7_84 rfl (c_isStage _) rfl (Nat.le_of_ble_eq_true rfl) (by decide) (fun v1 μ1 ρ1 hc9 => ?_)
  obtain ⟨rfl, rfl, rfl⟩ := hc9
  refine g_if_eq 17 7 dX7_hour_4 rfl (by decide) (fun h4 => ?_) (fun h4 => ?_)
  · exact (q_b_0.mp h4 (q_stageI hj)).elim
  · refine g_iload_n 8 dX7_hour_7 rfl rfl ?_
    refine g_iconst 9 0 dX7_hour_8 rfl (by decide) ?_
    refine g_bipush 11 23 dX7_hour_9 rfl (by decide) ?_
    refine g_Si 14 [_, _, _] _ dX7_hour_11 rfl m_X7_within l_X7_73 rfl (c_within _ _ _) rfl (Nat.le_of_ble_eq_true rfl) (by decide) (fun v11 μ11 ρ11 hc9 => ?_)
    obtain ⟨rfl, rfl, rfl⟩ := hc9
    refine g_if_ne 19 17 dX7_hour_14 rfl (by decide) (fun h14 => ?_) (fun h14 => ?_)
    · refine g_aload_n 20 dX7_hour_19 rfl rfl ?_
      refine g_getR 23 _ dX7_hour_20 rfl f_X7_12 (by decide) rfl rfl rfl ?_
      refine g_getR 26 _ dX7_hour_23 rfl f_X7_87 (by decide) rfl rfl rfl ?_
      refine g_iload_n 27 dX7_hour_26 rfl rfl ?_
      refine g_iload_n 28 dX7_hour_27 rfl rfl ?_
      refine g_iast 29 dX7_hour_28 rfl (by decide) rfl (vp_in_nI hj (by omega)) ?_
      rw [nI_clamp (show j < 2 ^ 31 by omega)]
      refine g_aload_n 30 dX7_hour_29 rfl rfl ?_
      refine g_iconst 31 1 dX7_hour_30 rfl (by decide) ?_
      refine g_putZ 34 dX7_hour_31 rfl f_X7_65 (by decide) rfl rfl (by decide) ?_
      refine g_iconst 35 1 dX7_hour_34 rfl (by decide) ?_
      exact g_rz dX7_hour_35 rfl (by first | exact Or.inl rfl | exact Or.inr rfl | assumption) rfl ⟨rfl, rfl, rfl⟩
    · exact (q_b_0.mp h14 hf).elim
set_option maxRecDepth 100000 in
set_option maxHeartbeats 4000000 in
theorem c_hour_n {c far : Int32} (h : ¬ (q_in c 0 6 ∧ q_in far 0 23)) : q_Ct C l FX7_hour 2 142 142 [.ref (q_a C 0), .int c, .int far] μ (q_ρ b) (q_is 0 μ (q_ρ b)) := by
  refine q_entry rfl (by decide) (Nat.le_of_ble_eq_true rfl) ?_
  refine g_lv [(0, _), (1, _), (2, _)] rfl ?_
  refine g_iload_n 1 dX7_hour_0 rfl rfl ?_
  refine g_Si 4 [_] _ dX7_hour_1 rfl m_X7_isStage l_X7_84 rfl (c_isStage _) rfl (Nat.le_of_ble_eq_true rfl) (by decide) (fun v1 μ1 ρ1 hc9 => ?_)
  obtain ⟨rfl, rfl, rfl⟩ := hc9
  refine g_if_eq 17 7 dX7_hour_4 rfl (by decide) (fun h4 => ?_) (fun h4 => ?_)
  · refine g_iconst 18 0 dX7_hour_17 rfl (by decide) ?_
    exact g_rz dX7_hour_18 rfl (by first | exact Or.inl rfl | exact Or.inr rfl | assumption) rfl ⟨rfl, rfl, rfl⟩
  · refine g_iload_n 8 dX7_hour_7 rfl rfl ?_
    refine g_iconst 9 0 dX7_hour_8 rfl (by decide) ?_
    refine g_bipush 11 23 dX7_hour_9 rfl (by decide) ?_
    refine g_Si 14 [_, _, _] _ dX7_hour_11 rfl m_X7_within l_X7_73 rfl (c_within _ _ _) rfl (Nat.le_of_ble_eq_true rfl) (by decide) (fun v11 μ11 ρ11 hc9 => ?_)
    obtain ⟨rfl, rfl, rfl⟩ := hc9
    refine g_if_ne 19 17 dX7_hour_14 rfl (by decide) (fun h14 => ?_) (fun h14 => ?_)
    · exact (h ⟨q_b_n.mp h4, q_b_n.mp h14⟩).elim
    · refine g_iconst 18 0 dX7_hour_17 rfl (by decide) ?_
      exact g_rz dX7_hour_18 rfl (by first | exact Or.inl rfl | exact Or.inr rfl | assumption) rfl ⟨rfl, rfl, rfl⟩
set_option maxRecDepth 100000 in
set_option maxHeartbeats 4000000 in
theorem c_add_y {m : Nat} (s : Int32) (hm : m < 10) (hc : μ 4 3 = nI m) : q_Ct C l FX4_add 0 142 142 [.ref (q_a C 4), .int s] μ (q_ρ b) (q_is (nI m) (q_up (q_up (q_up μ 5 m s) 6 m (-1)) 4 3 (nI (m + 1))) (q_ρ b)) := by
  refine q_entry rfl (by decide) (Nat.le_of_ble_eq_true rfl) ?_
  refine g_lv [(0, _), (1, _)] rfl ?_
  refine g_aload_n 1 dX4_add_0 rfl rfl ?_
  refine g_getI 4 dX4_add_1 rfl f_X4_21 (by decide) rfl rfl ?_
  rw [hc]
  refine g_bipush 6 10 dX4_add_4 rfl (by decide) ?_
  refine g_icmp_lt 11 9 dX4_add_6 rfl (by decide) (fun h6 => ?_) (fun h6 => ?_)
  · refine g_aload_n 12 dX4_add_11 rfl rfl ?_
    refine g_getR 15 _ dX4_add_12 rfl f_X4_9 (by decide) rfl rfl rfl ?_
    refine g_aload_n 16 dX4_add_15 rfl rfl ?_
    refine g_getI 19 dX4_add_16 rfl f_X4_21 (by decide) rfl rfl ?_
    rw [hc]
    refine g_iload_n 20 dX4_add_19 rfl rfl ?_
    refine g_iast 21 dX4_add_20 rfl (by decide) rfl (vp_in_nI hm (by omega)) ?_
    rw [nI_clamp (show m < 2 ^ 31 by omega)]
    refine g_aload_n 22 dX4_add_21 rfl rfl ?_
    refine g_getR 25 _ dX4_add_22 rfl f_X4_15 (by decide) rfl rfl rfl ?_
    refine g_aload_n 26 dX4_add_25 rfl rfl ?_
    refine g_getI 29 dX4_add_26 rfl f_X4_21 (by decide) rfl rfl ?_
    rw [q_upc (by decide), hc]
    refine g_iconst 30 (-1) dX4_add_29 rfl (by decide) ?_
    refine g_iast 31 dX4_add_30 rfl (by decide) rfl (vp_in_nI hm (by omega)) ?_
    rw [nI_clamp (show m < 2 ^ 31 by omega)]
    refine g_aload_n 32 dX4_add_31 rfl rfl ?_
    refine g_dup 33 dX4_add_32 rfl rfl ?_
    refine g_getI 36 dX4_add_33 rfl f_X4_21 (by decide) rfl rfl ?_
    rw [q_upc (by decide), q_upc (by decide), hc]
    refine g_iconst 37 1 dX4_add_36 rfl (by decide) ?_
    refine g_iadd 38 dX4_add_37 rfl ?_
    rw [nI_1]
    refine g_putI 41 dX4_add_38 rfl f_X4_21 (by decide) rfl rfl (Or.inl rfl) ?_
    refine g_aload_n 42 dX4_add_41 rfl rfl ?_
    refine g_getI 45 dX4_add_42 rfl f_X4_21 (by decide) rfl rfl ?_
    rw [q_ups]
    refine g_iconst 46 1 dX4_add_45 rfl (by decide) ?_
    refine g_isub 47 dX4_add_46 rfl ?_
    rw [nI_pred]
    exact g_ri dX4_add_47 rfl rfl ⟨rfl, rfl, rfl⟩
  · exact absurd (nI_lt (a := m) (b := 10) hm (by omega)) h6
set_option maxRecDepth 100000 in
set_option maxHeartbeats 4000000 in
theorem c_add_n (s : Int32) (hc : μ 4 3 = nI 10) : q_Ct C l FX4_add 0 142 142 [.ref (q_a C 4), .int s] μ (q_ρ b) (q_is (-1) μ (q_ρ b)) := by
  refine q_entry rfl (by decide) (Nat.le_of_ble_eq_true rfl) ?_
  refine g_lv [(0, _), (1, _)] rfl ?_
  refine g_aload_n 1 dX4_add_0 rfl rfl ?_
  refine g_getI 4 dX4_add_1 rfl f_X4_21 (by decide) rfl rfl ?_
  rw [hc]
  refine g_bipush 6 10 dX4_add_4 rfl (by decide) ?_
  refine g_icmp_lt 11 9 dX4_add_6 rfl (by decide) (fun h6 => ?_) (fun h6 => ?_)
  · exact absurd h6 (by decide)
  · refine g_iconst 10 (-1) dX4_add_9 rfl (by decide) ?_
    exact g_ri dX4_add_10 rfl rfl ⟨rfl, rfl, rfl⟩
set_option maxRecDepth 100000 in
set_option maxHeartbeats 4000000 in
theorem c_racer_y {m : Nat} {s : Int32} (hs : q_in s 10 120) (hm : m < 10) (hc : μ 4 3 = nI m) : q_Ct C l FX7_racer 2 142 142 [.ref (q_a C 0), .int s] μ (q_ρ b) (q_is (nI m) (q_up (q_up (q_up (q_up μ 0 9 1) 5 m s) 6 m (-1)) 4 3 (nI (m + 1))) (q_ρ b)) := by
  refine q_entry rfl (by decide) (Nat.le_of_ble_eq_true rfl) ?_
  refine g_lv [(0, _), (1, _)] rfl ?_
  refine g_iload_n 1 dX7_racer_0 rfl rfl ?_
  refine g_bipush 3 10 dX7_racer_1 rfl (by decide) ?_
  refine g_bipush 5 120 dX7_racer_3 rfl (by decide) ?_
  refine g_Si 8 [_, _, _] _ dX7_racer_5 rfl m_X7_within l_X7_73 rfl (c_within _ _ _) rfl (Nat.le_of_ble_eq_true rfl) (by decide) (fun v5 μ5 ρ5 hc9 => ?_)
  obtain ⟨rfl, rfl, rfl⟩ := hc9
  refine g_if_ne 13 11 dX7_racer_8 rfl (by decide) (fun h8 => ?_) (fun h8 => ?_)
  · refine g_aload_n 14 dX7_racer_13 rfl rfl ?_
    refine g_iconst 15 1 dX7_racer_14 rfl (by decide) ?_
    refine g_putZ 18 dX7_racer_15 rfl f_X7_65 (by decide) rfl rfl (by decide) ?_
    refine g_aload_n 19 dX7_racer_18 rfl rfl ?_
    refine g_getR 22 _ dX7_racer_19 rfl f_X7_19 (by decide) rfl rfl rfl ?_
    refine g_iload_n 23 dX7_racer_22 rfl rfl ?_
    refine g_Vi 26 [_] _ dX7_racer_23 rfl m_X4_add l_X7_90 rfl rfl rfl (by decide) (c_add_y _ hm (by rw [q_upc (by decide)]; exact hc)) rfl (Nat.le_of_ble_eq_true rfl) (by decide) (fun v23 μ23 ρ23 hc9 => ?_)
    obtain ⟨rfl, rfl, rfl⟩ := hc9
    exact g_ri dX7_racer_26 rfl rfl ⟨rfl, rfl, rfl⟩
  · exact (q_b_0.mp h8 hs).elim
set_option maxRecDepth 100000 in
set_option maxHeartbeats 4000000 in
theorem c_racer_f {s : Int32} (hs : q_in s 10 120) (hc : μ 4 3 = nI 10) : q_Ct C l FX7_racer 2 142 142 [.ref (q_a C 0), .int s] μ (q_ρ b) (q_is (-1) (q_up μ 0 9 1) (q_ρ b)) := by
  refine q_entry rfl (by decide) (Nat.le_of_ble_eq_true rfl) ?_
  refine g_lv [(0, _), (1, _)] rfl ?_
  refine g_iload_n 1 dX7_racer_0 rfl rfl ?_
  refine g_bipush 3 10 dX7_racer_1 rfl (by decide) ?_
  refine g_bipush 5 120 dX7_racer_3 rfl (by decide) ?_
  refine g_Si 8 [_, _, _] _ dX7_racer_5 rfl m_X7_within l_X7_73 rfl (c_within _ _ _) rfl (Nat.le_of_ble_eq_true rfl) (by decide) (fun v5 μ5 ρ5 hc9 => ?_)
  obtain ⟨rfl, rfl, rfl⟩ := hc9
  refine g_if_ne 13 11 dX7_racer_8 rfl (by decide) (fun h8 => ?_) (fun h8 => ?_)
  · refine g_aload_n 14 dX7_racer_13 rfl rfl ?_
    refine g_iconst 15 1 dX7_racer_14 rfl (by decide) ?_
    refine g_putZ 18 dX7_racer_15 rfl f_X7_65 (by decide) rfl rfl (by decide) ?_
    refine g_aload_n 19 dX7_racer_18 rfl rfl ?_
    refine g_getR 22 _ dX7_racer_19 rfl f_X7_19 (by decide) rfl rfl rfl ?_
    refine g_iload_n 23 dX7_racer_22 rfl rfl ?_
    refine g_Vi 26 [_] _ dX7_racer_23 rfl m_X4_add l_X7_90 rfl rfl rfl (by decide) (c_add_n _ (by rw [q_upc (by decide)]; exact hc)) rfl (Nat.le_of_ble_eq_true rfl) (by decide) (fun v23 μ23 ρ23 hc9 => ?_)
    obtain ⟨rfl, rfl, rfl⟩ := hc9
    exact g_ri dX7_racer_26 rfl rfl ⟨rfl, rfl, rfl⟩
  · exact (q_b_0.mp h8 hs).elim
set_option maxRecDepth 100000 in
set_option maxHeartbeats 4000000 in
theorem c_racer_n {s : Int32} (hs : ¬ q_in s 10 120) : q_Ct C l FX7_racer 2 142 142 [.ref (q_a C 0), .int s] μ (q_ρ b) (q_is (-1) μ (q_ρ b)) := by
  refine q_entry rfl (by decide) (Nat.le_of_ble_eq_true rfl) ?_
  refine g_lv [(0, _), (1, _)] rfl ?_
  refine g_iload_n 1 dX7_racer_0 rfl rfl ?_
  refine g_bipush 3 10 dX7_racer_1 rfl (by decide) ?_
  refine g_bipush 5 120 dX7_racer_3 rfl (by decide) ?_
  refine g_Si 8 [_, _, _] _ dX7_racer_5 rfl m_X7_within l_X7_73 rfl (c_within _ _ _) rfl (Nat.le_of_ble_eq_true rfl) (by decide) (fun v5 μ5 ρ5 hc9 => ?_)
  obtain ⟨rfl, rfl, rfl⟩ := hc9
  refine g_if_ne 13 11 dX7_racer_8 rfl (by decide) (fun h8 => ?_) (fun h8 => ?_)
  · exact (hs (q_b_n.mp h8)).elim
  · refine g_iconst 12 (-1) dX7_racer_11 rfl (by decide) ?_
    exact g_ri dX7_racer_12 rfl rfl ⟨rfl, rfl, rfl⟩
set_option maxRecDepth 100000 in
set_option maxHeartbeats 4000000 in
theorem c_breaks_0 {r m : Nat} {a : Int32} (hr : r < m) (hm : m ≤ 10) (hc : μ 4 3 = nI m) : q_Ct C l FX7_breaks 2 142 142 [.ref (q_a C 0), .int (nI r), .int (-1), .int a] μ (q_ρ b) (q_is 1 (q_up (q_up (q_up μ 6 r (-1)) 7 r a) 0 9 1) (q_ρ b)) := by
  refine q_entry rfl (by decide) (Nat.le_of_ble_eq_true rfl) ?_
  refine g_lv [(0, _), (1, _), (2, _), (3, _)] rfl ?_
  refine g_aload_n 1 dX7_breaks_0 rfl rfl ?_
  refine g_getR 4 _ dX7_breaks_1 rfl f_X7_19 (by decide) rfl rfl rfl ?_
  refine g_iload_n 5 dX7_breaks_4 rfl rfl ?_
  refine g_Vi 8 [_] _ dX7_breaks_5 rfl m_X4_has l_X7_94 rfl rfl rfl (by decide) (c_has _) rfl (Nat.le_of_ble_eq_true rfl) (by decide) (fun v5 μ5 ρ5 hc9 => ?_)
  obtain ⟨rfl, rfl, rfl⟩ := hc9
  refine g_if_ne 13 11 dX7_breaks_8 rfl (by decide) (fun h8 => ?_) (fun h8 => ?_)
  · refine g_iload_n 14 dX7_breaks_13 rfl rfl ?_
    refine g_iconst 15 (-1) dX7_breaks_14 rfl (by decide) ?_
    refine g_icmp_eq 46 18 dX7_breaks_15 rfl (by decide) (fun h15 => ?_) (fun h15 => ?_)
    · refine g_aload_n 47 dX7_breaks_46 rfl rfl ?_
      refine g_getR 50 _ dX7_breaks_47 rfl f_X7_19 (by decide) rfl rfl rfl ?_
      refine g_getR 53 _ dX7_breaks_50 rfl f_X7_97 (by decide) rfl rfl rfl ?_
      refine g_iload_n 54 dX7_breaks_53 rfl rfl ?_
      refine g_iload_n 55 dX7_breaks_54 rfl rfl ?_
      refine g_iast 56 dX7_breaks_55 rfl (by decide) rfl (vp_in_nI (show r < 10 by omega) (by omega)) ?_
      rw [nI_clamp (show r < 2 ^ 31 by omega)]
      refine g_aload_n 57 dX7_breaks_56 rfl rfl ?_
      refine g_getR 60 _ dX7_breaks_57 rfl f_X7_19 (by decide) rfl rfl rfl ?_
      refine g_getR 63 _ dX7_breaks_60 rfl f_X7_100 (by decide) rfl rfl rfl ?_
      refine g_iload_n 64 dX7_breaks_63 rfl rfl ?_
      refine g_iload_n 65 dX7_breaks_64 rfl rfl ?_
      refine g_iast 66 dX7_breaks_65 rfl (by decide) rfl (vp_in_nI (show r < 10 by omega) (by omega)) ?_
      rw [nI_clamp (show r < 2 ^ 31 by omega)]
      refine g_aload_n 67 dX7_breaks_66 rfl rfl ?_
      refine g_iconst 68 1 dX7_breaks_67 rfl (by decide) ?_
      refine g_putZ 71 dX7_breaks_68 rfl f_X7_65 (by decide) rfl rfl (by decide) ?_
      refine g_iconst 72 1 dX7_breaks_71 rfl (by decide) ?_
      exact g_rz dX7_breaks_72 rfl (by first | exact Or.inl rfl | exact Or.inr rfl | assumption) rfl ⟨rfl, rfl, rfl⟩
    · exact absurd rfl h15
  · exact (q_b_0.mp h8 (by rw [hc]; exact q_rin hr hm)).elim
set_option maxRecDepth 100000 in
set_option maxHeartbeats 4000000 in
theorem c_breaks_y {r m j : Nat} {a : Int32} (hr : r < m) (hm : m ≤ 10) (hc : μ 4 3 = nI m) (hj : j < 7) (ha : q_in a 0 (μ 2 j - 1)) : q_Ct C l FX7_breaks 2 142 142 [.ref (q_a C 0), .int (nI r), .int (nI j), .int a] μ (q_ρ b) (q_is 1 (q_up (q_up (q_up μ 6 r (nI j)) 7 r a) 0 9 1) (q_ρ b)) := by
  refine q_entry rfl (by decide) (Nat.le_of_ble_eq_true rfl) ?_
  refine g_lv [(0, _), (1, _), (2, _), (3, _)] rfl ?_
  refine g_aload_n 1 dX7_breaks_0 rfl rfl ?_
  refine g_getR 4 _ dX7_breaks_1 rfl f_X7_19 (by decide) rfl rfl rfl ?_
  refine g_iload_n 5 dX7_breaks_4 rfl rfl ?_
  refine g_Vi 8 [_] _ dX7_breaks_5 rfl m_X4_has l_X7_94 rfl rfl rfl (by decide) (c_has _) rfl (Nat.le_of_ble_eq_true rfl) (by decide) (fun v5 μ5 ρ5 hc9 => ?_)
  obtain ⟨rfl, rfl, rfl⟩ := hc9
  refine g_if_ne 13 11 dX7_breaks_8 rfl (by decide) (fun h8 => ?_) (fun h8 => ?_)
  · refine g_iload_n 14 dX7_breaks_13 rfl rfl ?_
    refine g_iconst 15 (-1) dX7_breaks_14 rfl (by decide) ?_
    refine g_icmp_eq 46 18 dX7_breaks_15 rfl (by decide) (fun h15 => ?_) (fun h15 => ?_)
    · exact absurd (nI_pos' (show j < 2 ^ 31 by omega)) (by rw [h15]; decide)
    · refine g_iload_n 19 dX7_breaks_18 rfl rfl ?_
      refine g_Si 22 [_] _ dX7_breaks_19 rfl m_X7_isStage l_X7_84 rfl (c_isStage _) rfl (Nat.le_of_ble_eq_true rfl) (by decide) (fun v19 μ19 ρ19 hc9 => ?_)
      obtain ⟨rfl, rfl, rfl⟩ := hc9
      refine g_if_eq 44 25 dX7_breaks_22 rfl (by decide) (fun h22 => ?_) (fun h22 => ?_)
      · exact (q_b_0.mp h22 (q_stageI hj)).elim
      · refine g_iload_n 26 dX7_breaks_25 rfl rfl ?_
        refine g_iconst 27 0 dX7_breaks_26 rfl (by decide) ?_
        refine g_aload_n 28 dX7_breaks_27 rfl rfl ?_
        refine g_getR 31 _ dX7_breaks_28 rfl f_X7_12 (by decide) rfl rfl rfl ?_
        refine g_getR 34 _ dX7_breaks_31 rfl f_X7_77 (by decide) rfl rfl rfl ?_
        refine g_iload_n 35 dX7_breaks_34 rfl rfl ?_
        refine g_iald 36 dX7_breaks_35 rfl (by decide) rfl (vp_in_nI hj (by omega)) ?_
        rw [nI_clamp (show j < 2 ^ 31 by omega)]
        refine g_iconst 37 1 dX7_breaks_36 rfl (by decide) ?_
        refine g_isub 38 dX7_breaks_37 rfl ?_
        refine g_Si 41 [_, _, _] _ dX7_breaks_38 rfl m_X7_within l_X7_73 rfl (c_within _ _ _) rfl (Nat.le_of_ble_eq_true rfl) (by decide) (fun v38 μ38 ρ38 hc9 => ?_)
        obtain ⟨rfl, rfl, rfl⟩ := hc9
        refine g_if_ne 46 44 dX7_breaks_41 rfl (by decide) (fun h41 => ?_) (fun h41 => ?_)
        · refine g_aload_n 47 dX7_breaks_46 rfl rfl ?_
          refine g_getR 50 _ dX7_breaks_47 rfl f_X7_19 (by decide) rfl rfl rfl ?_
          refine g_getR 53 _ dX7_breaks_50 rfl f_X7_97 (by decide) rfl rfl rfl ?_
          refine g_iload_n 54 dX7_breaks_53 rfl rfl ?_
          refine g_iload_n 55 dX7_breaks_54 rfl rfl ?_
          refine g_iast 56 dX7_breaks_55 rfl (by decide) rfl (vp_in_nI (show r < 10 by omega) (by omega)) ?_
          rw [nI_clamp (show r < 2 ^ 31 by omega)]
          refine g_aload_n 57 dX7_breaks_56 rfl rfl ?_
          refine g_getR 60 _ dX7_breaks_57 rfl f_X7_19 (by decide) rfl rfl rfl ?_
          refine g_getR 63 _ dX7_breaks_60 rfl f_X7_100 (by decide) rfl rfl rfl ?_
          refine g_iload_n 64 dX7_breaks_63 rfl rfl ?_
          refine g_iload_n 65 dX7_breaks_64 rfl rfl ?_
          refine g_iast 66 dX7_breaks_65 rfl (by decide) rfl (vp_in_nI (show r < 10 by omega) (by omega)) ?_
          rw [nI_clamp (show r < 2 ^ 31 by omega)]
          refine g_aload_n 67 dX7_breaks_66 rfl rfl ?_
          refine g_iconst 68 1 dX7_breaks_67 rfl (by decide) ?_
          refine g_putZ 71 dX7_breaks_68 rfl f_X7_65 (by decide) rfl rfl (by decide) ?_
          refine g_iconst 72 1 dX7_breaks_71 rfl (by decide) ?_
          exact g_rz dX7_breaks_72 rfl (by first | exact Or.inl rfl | exact Or.inr rfl | assumption) rfl ⟨rfl, rfl, rfl⟩
        · exact (q_b_0.mp h41 ha).elim
  · exact (q_b_0.mp h8 (by rw [hc]; exact q_rin hr hm)).elim
set_option maxRecDepth 100000 in
set_option maxHeartbeats 4000000 in
theorem c_breaks_n {r i a : Int32} (h : ¬ (q_in r 0 (μ 4 3 - 1) ∧ (i = -1 ∨ (q_in i 0 6 ∧ q_in a 0 (μ 2 i.toNatClampNeg - 1))))) : q_Ct C l FX7_breaks 2 142 142 [.ref (q_a C 0), .int r, .int i, .int a] μ (q_ρ b) (q_is 0 μ (q_ρ b)) := by
  refine q_entry rfl (by decide) (Nat.le_of_ble_eq_true rfl) ?_
  refine g_lv [(0, _), (1, _), (2, _), (3, _)] rfl ?_
  refine g_aload_n 1 dX7_breaks_0 rfl rfl ?_
  refine g_getR 4 _ dX7_breaks_1 rfl f_X7_19 (by decide) rfl rfl rfl ?_
  refine g_iload_n 5 dX7_breaks_4 rfl rfl ?_
  refine g_Vi 8 [_] _ dX7_breaks_5 rfl m_X4_has l_X7_94 rfl rfl rfl (by decide) (c_has _) rfl (Nat.le_of_ble_eq_true rfl) (by decide) (fun v5 μ5 ρ5 hc9 => ?_)
  obtain ⟨rfl, rfl, rfl⟩ := hc9
  refine g_if_ne 13 11 dX7_breaks_8 rfl (by decide) (fun h8 => ?_) (fun h8 => ?_)
  · refine g_iload_n 14 dX7_breaks_13 rfl rfl ?_
    refine g_iconst 15 (-1) dX7_breaks_14 rfl (by decide) ?_
    refine g_icmp_eq 46 18 dX7_breaks_15 rfl (by decide) (fun h15 => ?_) (fun h15 => ?_)
    · exact (h ⟨q_b_n.mp h8, Or.inl h15⟩).elim
    · refine g_iload_n 19 dX7_breaks_18 rfl rfl ?_
      refine g_Si 22 [_] _ dX7_breaks_19 rfl m_X7_isStage l_X7_84 rfl (c_isStage _) rfl (Nat.le_of_ble_eq_true rfl) (by decide) (fun v19 μ19 ρ19 hc9 => ?_)
      obtain ⟨rfl, rfl, rfl⟩ := hc9
      refine g_if_eq 44 25 dX7_breaks_22 rfl (by decide) (fun h22 => ?_) (fun h22 => ?_)
      · refine g_iconst 45 0 dX7_breaks_44 rfl (by decide) ?_
        exact g_rz dX7_breaks_45 rfl (by first | exact Or.inl rfl | exact Or.inr rfl | assumption) rfl ⟨rfl, rfl, rfl⟩
      · refine g_iload_n 26 dX7_breaks_25 rfl rfl ?_
        refine g_iconst 27 0 dX7_breaks_26 rfl (by decide) ?_
        refine g_aload_n 28 dX7_breaks_27 rfl rfl ?_
        refine g_getR 31 _ dX7_breaks_28 rfl f_X7_12 (by decide) rfl rfl rfl ?_
        refine g_getR 34 _ dX7_breaks_31 rfl f_X7_77 (by decide) rfl rfl rfl ?_
        refine g_iload_n 35 dX7_breaks_34 rfl rfl ?_
        refine g_iald 36 dX7_breaks_35 rfl (by decide) rfl (q_vp (q_b_n.mp h22).1 (q_b_n.mp h22).2 (by decide)) ?_
        refine g_iconst 37 1 dX7_breaks_36 rfl (by decide) ?_
        refine g_isub 38 dX7_breaks_37 rfl ?_
        refine g_Si 41 [_, _, _] _ dX7_breaks_38 rfl m_X7_within l_X7_73 rfl (c_within _ _ _) rfl (Nat.le_of_ble_eq_true rfl) (by decide) (fun v38 μ38 ρ38 hc9 => ?_)
        obtain ⟨rfl, rfl, rfl⟩ := hc9
        refine g_if_ne 46 44 dX7_breaks_41 rfl (by decide) (fun h41 => ?_) (fun h41 => ?_)
        · exact (h ⟨q_b_n.mp h8, Or.inr ⟨q_b_n.mp h22, q_b_n.mp h41⟩⟩).elim
        · refine g_iconst 45 0 dX7_breaks_44 rfl (by decide) ?_
          exact g_rz dX7_breaks_45 rfl (by first | exact Or.inl rfl | exact Or.inr rfl | assumption) rfl ⟨rfl, rfl, rfl⟩
  · refine g_iconst 12 0 dX7_breaks_11 rfl (by decide) ?_
    exact g_rz dX7_breaks_12 rfl (by first | exact Or.inl rfl | exact Or.inr rfl | assumption) rfl ⟨rfl, rfl, rfl⟩
set_option maxRecDepth 100000 in
set_option maxHeartbeats 4000000 in
theorem c_set_y {k : Nat} {v : Int32} (hk : k < 5) (hv : q_in v (q_lo k) (q_hi k)) : q_Ct C l FX7_set 1 142 142 [.ref (q_a C 0), .int (nI k), .int v] μ (q_ρ b) (q_is 1 (q_up (q_up μ 69 k v) 0 9 1) (q_ρ b)) := by
  refine q_entry rfl (by decide) (Nat.le_of_ble_eq_true rfl) ?_
  refine g_lv [(0, _), (1, _), (2, _)] rfl ?_
  refine g_iload_n 1 dX7_set_0 rfl rfl ?_
  refine g_iconst 2 0 dX7_set_1 rfl (by decide) ?_
  refine g_iconst 3 4 dX7_set_2 rfl (by decide) ?_
  refine g_Si 6 [_, _, _] _ dX7_set_3 rfl m_X7_within l_X7_73 rfl (c_within _ _ _) rfl (Nat.le_of_ble_eq_true rfl) (by decide) (fun v3 μ3 ρ3 hc9 => ?_)
  obtain ⟨rfl, rfl, rfl⟩ := hc9
  refine g_if_eq 26 9 dX7_set_6 rfl (by decide) (fun h6 => ?_) (fun h6 => ?_)
  · exact (q_b_0.mp h6 ⟨nI_pos' (by omega), (nI_leI (a := k) (b := 4) (by omega) (by omega)).mpr (by omega)⟩).elim
  · refine g_iload_n 10 dX7_set_9 rfl rfl ?_
    refine g_getL 13 dX7_set_10 rfl s_X7_103 ?_
    refine g_iload_n 14 dX7_set_13 rfl rfl ?_
    refine g_ldL 15 dX7_set_14 rfl (vp_in_nI hk (by omega)) ?_
    rw [nI_clamp (show k < 2 ^ 31 by omega)]
    refine g_getH 18 dX7_set_15 rfl s_X7_106 ?_
    refine g_iload_n 19 dX7_set_18 rfl rfl ?_
    refine g_ldH 20 dX7_set_19 rfl (vp_in_nI hk (by omega)) ?_
    rw [nI_clamp (show k < 2 ^ 31 by omega)]
    refine g_Si 23 [_, _, _] _ dX7_set_20 rfl m_X7_within l_X7_73 rfl (c_within _ _ _) rfl (Nat.le_of_ble_eq_true rfl) (by decide) (fun v20 μ20 ρ20 hc9 => ?_)
    obtain ⟨rfl, rfl, rfl⟩ := hc9
    refine g_if_ne 28 26 dX7_set_23 rfl (by decide) (fun h23 => ?_) (fun h23 => ?_)
    · refine g_aload_n 29 dX7_set_28 rfl rfl ?_
      refine g_getR 32 _ dX7_set_29 rfl f_X7_51 (by decide) rfl rfl rfl ?_
      refine g_iload_n 33 dX7_set_32 rfl rfl ?_
      refine g_iload_n 34 dX7_set_33 rfl rfl ?_
      refine g_iast 35 dX7_set_34 rfl (by decide) rfl (vp_in_nI hk (by omega)) ?_
      rw [nI_clamp (show k < 2 ^ 31 by omega)]
      refine g_aload_n 36 dX7_set_35 rfl rfl ?_
      refine g_iconst 37 1 dX7_set_36 rfl (by decide) ?_
      refine g_putZ 40 dX7_set_37 rfl f_X7_65 (by decide) rfl rfl (by decide) ?_
      refine g_iconst 41 1 dX7_set_40 rfl (by decide) ?_
      exact g_rz dX7_set_41 rfl (by first | exact Or.inl rfl | exact Or.inr rfl | assumption) rfl ⟨rfl, rfl, rfl⟩
    · exact (q_b_0.mp h23 hv).elim
set_option maxRecDepth 100000 in
set_option maxHeartbeats 4000000 in
theorem c_set_n {k v : Int32} (h : ¬ (q_in k 0 4 ∧ q_in v (q_lo k.toNatClampNeg) (q_hi k.toNatClampNeg))) : q_Ct C l FX7_set 1 142 142 [.ref (q_a C 0), .int k, .int v] μ (q_ρ b) (q_is 0 μ (q_ρ b)) := by
  refine q_entry rfl (by decide) (Nat.le_of_ble_eq_true rfl) ?_
  refine g_lv [(0, _), (1, _), (2, _)] rfl ?_
  refine g_iload_n 1 dX7_set_0 rfl rfl ?_
  refine g_iconst 2 0 dX7_set_1 rfl (by decide) ?_
  refine g_iconst 3 4 dX7_set_2 rfl (by decide) ?_
  refine g_Si 6 [_, _, _] _ dX7_set_3 rfl m_X7_within l_X7_73 rfl (c_within _ _ _) rfl (Nat.le_of_ble_eq_true rfl) (by decide) (fun v3 μ3 ρ3 hc9 => ?_)
  obtain ⟨rfl, rfl, rfl⟩ := hc9
  refine g_if_eq 26 9 dX7_set_6 rfl (by decide) (fun h6 => ?_) (fun h6 => ?_)
  · refine g_iconst 27 0 dX7_set_26 rfl (by decide) ?_
    exact g_rz dX7_set_27 rfl (by first | exact Or.inl rfl | exact Or.inr rfl | assumption) rfl ⟨rfl, rfl, rfl⟩
  · refine g_iload_n 10 dX7_set_9 rfl rfl ?_
    refine g_getL 13 dX7_set_10 rfl s_X7_103 ?_
    refine g_iload_n 14 dX7_set_13 rfl rfl ?_
    refine g_ldL 15 dX7_set_14 rfl (q_vp (q_b_n.mp h6).1 (q_b_n.mp h6).2 (by decide)) ?_
    refine g_getH 18 dX7_set_15 rfl s_X7_106 ?_
    refine g_iload_n 19 dX7_set_18 rfl rfl ?_
    refine g_ldH 20 dX7_set_19 rfl (q_vp (q_b_n.mp h6).1 (q_b_n.mp h6).2 (by decide)) ?_
    refine g_Si 23 [_, _, _] _ dX7_set_20 rfl m_X7_within l_X7_73 rfl (c_within _ _ _) rfl (Nat.le_of_ble_eq_true rfl) (by decide) (fun v20 μ20 ρ20 hc9 => ?_)
    obtain ⟨rfl, rfl, rfl⟩ := hc9
    refine g_if_ne 28 26 dX7_set_23 rfl (by decide) (fun h23 => ?_) (fun h23 => ?_)
    · exact (h ⟨q_b_n.mp h6, q_b_n.mp h23⟩).elim
    · refine g_iconst 27 0 dX7_set_26 rfl (by decide) ?_
      exact g_rz dX7_set_27 rfl (by first | exact Or.inl rfl | exact Or.inr rfl | assumption) rfl ⟨rfl, rfl, rfl⟩
set_option maxRecDepth 100000 in
set_option maxHeartbeats 4000000 in
theorem c_end_y {k : Int32} (h : q_in k 0 (μ 8 1)) : q_Ct C l FX7_end 1 142 142 [.ref (q_a C 0), .int k] μ (q_ρ b) (q_is 1 (q_up μ 8 1 k) (q_ρ b)) := by
  refine q_entry rfl (by decide) (Nat.le_of_ble_eq_true rfl) ?_
  refine g_lv [(0, _), (1, _)] rfl ?_
  refine g_iload_n 1 dX7_end_0 rfl rfl ?_
  refine g_iconst 2 0 dX7_end_1 rfl (by decide) ?_
  refine g_aload_n 3 dX7_end_2 rfl rfl ?_
  refine g_getR 6 _ dX7_end_3 rfl f_X7_26 (by decide) rfl rfl rfl ?_
  refine g_getI 9 dX7_end_6 rfl f_X7_109 (by decide) rfl rfl ?_
  refine g_Si 12 [_, _, _] _ dX7_end_9 rfl m_X7_within l_X7_73 rfl (c_within _ _ _) rfl (Nat.le_of_ble_eq_true rfl) (by decide) (fun v9 μ9 ρ9 hc9 => ?_)
  obtain ⟨rfl, rfl, rfl⟩ := hc9
  refine g_if_ne 17 15 dX7_end_12 rfl (by decide) (fun h12 => ?_) (fun h12 => ?_)
  · refine g_aload_n 18 dX7_end_17 rfl rfl ?_
    refine g_getR 21 _ dX7_end_18 rfl f_X7_26 (by decide) rfl rfl rfl ?_
    refine g_iload_n 22 dX7_end_21 rfl rfl ?_
    refine g_putI 25 dX7_end_22 rfl f_X7_109 (by decide) rfl rfl (Or.inl rfl) ?_
    refine g_iconst 26 1 dX7_end_25 rfl (by decide) ?_
    exact g_rz dX7_end_26 rfl (by first | exact Or.inl rfl | exact Or.inr rfl | assumption) rfl ⟨rfl, rfl, rfl⟩
  · exact (q_b_0.mp h12 h).elim
set_option maxRecDepth 100000 in
set_option maxHeartbeats 4000000 in
theorem c_end_n {k : Int32} (h : ¬ q_in k 0 (μ 8 1)) : q_Ct C l FX7_end 1 142 142 [.ref (q_a C 0), .int k] μ (q_ρ b) (q_is 0 μ (q_ρ b)) := by
  refine q_entry rfl (by decide) (Nat.le_of_ble_eq_true rfl) ?_
  refine g_lv [(0, _), (1, _)] rfl ?_
  refine g_iload_n 1 dX7_end_0 rfl rfl ?_
  refine g_iconst 2 0 dX7_end_1 rfl (by decide) ?_
  refine g_aload_n 3 dX7_end_2 rfl rfl ?_
  refine g_getR 6 _ dX7_end_3 rfl f_X7_26 (by decide) rfl rfl rfl ?_
  refine g_getI 9 dX7_end_6 rfl f_X7_109 (by decide) rfl rfl ?_
  refine g_Si 12 [_, _, _] _ dX7_end_9 rfl m_X7_within l_X7_73 rfl (c_within _ _ _) rfl (Nat.le_of_ble_eq_true rfl) (by decide) (fun v9 μ9 ρ9 hc9 => ?_)
  obtain ⟨rfl, rfl, rfl⟩ := hc9
  refine g_if_ne 17 15 dX7_end_12 rfl (by decide) (fun h12 => ?_) (fun h12 => ?_)
  · exact (h (q_b_n.mp h12)).elim
  · refine g_iconst 16 0 dX7_end_15 rfl (by decide) ?_
    exact g_rz dX7_end_16 rfl (by first | exact Or.inl rfl | exact Or.inr rfl | assumption) rfl ⟨rfl, rfl, rfl⟩
set_option maxRecDepth 100000 in
set_option maxHeartbeats 4000000 in
theorem c_fault_0  : q_Ct C l FX7_fault 0 142 142 [.ref (q_a C 0), .int 0] μ (q_ρ b) (q_is (μ 10 0) μ (q_ρ b)) := by
  refine q_entry rfl (by decide) (Nat.le_of_ble_eq_true rfl) ?_
  refine g_lv [(0, _), (1, _)] rfl ?_
  refine g_iload_n 1 dX7_fault_0 rfl rfl ?_
  refine g_look 28 dX7_fault_1 (by decide) rfl (by decide) ?_
  refine g_aload_n 29 dX7_fault_28 rfl rfl ?_
  refine g_getR 32 _ dX7_fault_29 rfl f_X7_33 (by decide) rfl rfl rfl ?_
  refine g_getI 35 dX7_fault_32 rfl f_X7_124 (by decide) rfl rfl ?_
  exact g_ri dX7_fault_35 rfl rfl ⟨rfl, rfl, rfl⟩
set_option maxRecDepth 100000 in
set_option maxHeartbeats 4000000 in
theorem c_fault_1  : q_Ct C l FX7_fault 0 142 142 [.ref (q_a C 0), .int 1] μ (q_ρ b) (q_is (μ 10 1) μ (q_ρ b)) := by
  refine q_entry rfl (by decide) (Nat.le_of_ble_eq_true rfl) ?_
  refine g_lv [(0, _), (1, _)] rfl ?_
  refine g_iload_n 1 dX7_fault_0 rfl rfl ?_
  refine g_look 36 dX7_fault_1 (by decide) rfl (by decide) ?_
  refine g_aload_n 37 dX7_fault_36 rfl rfl ?_
  refine g_getR 40 _ dX7_fault_37 rfl f_X7_33 (by decide) rfl rfl rfl ?_
  refine g_getI 43 dX7_fault_40 rfl f_X7_127 (by decide) rfl rfl ?_
  exact g_ri dX7_fault_43 rfl rfl ⟨rfl, rfl, rfl⟩
set_option maxRecDepth 100000 in
set_option maxHeartbeats 4000000 in
theorem c_fault_n {k : Int32} (h0 : k ≠ 0) (h1 : k ≠ 1) : q_Ct C l FX7_fault 0 142 142 [.ref (q_a C 0), .int k] μ (q_ρ b) (q_is (-1) μ (q_ρ b)) := by
  refine q_entry rfl (by decide) (Nat.le_of_ble_eq_true rfl) ?_
  refine g_lv [(0, _), (1, _)] rfl ?_
  refine g_iload_n 1 dX7_fault_0 rfl rfl ?_
  have e0 : k.toInt ≠ 0 := fun e => h0 (Int32.toInt_inj.mp e)
  have e1 : k.toInt ≠ 1 := fun e => h1 (Int32.toInt_inj.mp e)
  refine g_look (off := 43) 44 dX7_fault_1 (by decide) (by simp [Op.lookupswitch.offset, Ne.symm e0, Ne.symm e1, e0, e1]) (by decide) ?_
  refine g_iconst 45 (-1) dX7_fault_44 rfl (by decide) ?_
  exact g_ri dX7_fault_45 rfl rfl ⟨rfl, rfl, rfl⟩
set_option maxRecDepth 100000 in
set_option maxHeartbeats 4000000 in
theorem c_look_0  : q_Ct C l FX7_look 1 142 142 [.ref (q_a C 0), .int 0] μ (q_ρ b) (q_is (μ 4 3) μ (q_ρ b)) := by
  refine q_entry rfl (by decide) (Nat.le_of_ble_eq_true rfl) ?_
  refine g_lv [(0, _), (1, _)] rfl ?_
  refine g_iload_n 1 dX7_look_0 rfl rfl ?_
  refine g_tabIn 28 dX7_look_1 (by decide) (by decide) rfl (by decide) ?_
  refine g_aload_n 29 dX7_look_28 rfl rfl ?_
  refine g_getR 32 _ dX7_look_29 rfl f_X7_19 (by decide) rfl rfl rfl ?_
  refine g_getI 35 dX7_look_32 rfl f_X7_130 (by decide) rfl rfl ?_
  exact g_ri dX7_look_35 rfl rfl ⟨rfl, rfl, rfl⟩
set_option maxRecDepth 100000 in
set_option maxHeartbeats 4000000 in
theorem c_look_2  : q_Ct C l FX7_look 1 142 142 [.ref (q_a C 0), .int 2] μ (q_ρ b) (q_is (q_sum (μ 2) 7) μ (q_ρ b)) := by
  refine q_entry rfl (by decide) (Nat.le_of_ble_eq_true rfl) ?_
  refine g_lv [(0, _), (1, _)] rfl ?_
  refine g_iload_n 1 dX7_look_0 rfl rfl ?_
  refine g_tabIn 44 dX7_look_1 (by decide) (by decide) rfl (by decide) ?_
  refine g_aload_n 45 dX7_look_44 rfl rfl ?_
  refine g_getR 48 _ dX7_look_45 rfl f_X7_12 (by decide) rfl rfl rfl ?_
  refine g_bipush 50 7 dX7_look_48 rfl (by decide) ?_
  refine g_Vi 53 [_] _ dX7_look_50 rfl m_X1_kilometerOf l_X7_133 rfl rfl rfl (by decide) (c_km 7 (by decide)) rfl (Nat.le_of_ble_eq_true rfl) (by decide) (fun v50 μ50 ρ50 hc9 => ?_)
  obtain ⟨rfl, rfl, rfl⟩ := hc9
  exact g_ri dX7_look_53 rfl rfl ⟨rfl, rfl, rfl⟩
set_option maxRecDepth 100000 in
set_option maxHeartbeats 4000000 in
theorem c_look_s {k : Nat} (hk : k < 5) : q_Ct C l FX7_look 1 142 142 [.ref (q_a C 0), .int (nI (k + 3))] μ (q_ρ b) (q_is (μ 69 k) μ (q_ρ b)) := by
  refine q_entry rfl (by decide) (Nat.le_of_ble_eq_true rfl) ?_
  refine g_lv [(0, _), (1, _)] rfl ?_
  refine g_iload_n 1 dX7_look_0 rfl rfl ?_
  refine g_tabOut 54 dX7_look_1 (Or.inr (by rw [nI_toInt (by omega)]; omega)) (by decide) ?_
  refine g_iload_n 55 dX7_look_54 rfl rfl ?_
  refine g_iconst 56 3 dX7_look_55 rfl (by decide) ?_
  refine g_bipush 58 7 dX7_look_56 rfl (by decide) ?_
  refine g_Si 61 [_, _, _] _ dX7_look_58 rfl m_X7_within l_X7_73 rfl (c_within _ _ _) rfl (Nat.le_of_ble_eq_true rfl) (by decide) (fun v58 μ58 ρ58 hc9 => ?_)
  obtain ⟨rfl, rfl, rfl⟩ := hc9
  refine g_if_eq 75 64 dX7_look_61 rfl (by decide) (fun h61 => ?_) (fun h61 => ?_)
  · exact (q_b_0.mp h61 ⟨(nI_leI (a := 3) (b := k + 3) (by omega) (by omega)).mpr (by omega), (nI_leI (a := k + 3) (b := 7) (by omega) (by omega)).mpr (by omega)⟩).elim
  · refine g_aload_n 65 dX7_look_64 rfl rfl ?_
    refine g_getR 68 _ dX7_look_65 rfl f_X7_51 (by decide) rfl rfl rfl ?_
    refine g_iload_n 69 dX7_look_68 rfl rfl ?_
    refine g_iconst 70 3 dX7_look_69 rfl (by decide) ?_
    refine g_isub 71 dX7_look_70 rfl ?_
    refine g_iald 72 dX7_look_71 rfl (by decide) rfl (by rw [show nI (k + 3) - 3 = nI k from pk_sub (a := k + 3) (b := 3) (by omega)]; exact vp_in_nI hk (by omega)) ?_
    rw [show nI (k + 3) - 3 = nI k from pk_sub (a := k + 3) (b := 3) (by omega), nI_clamp (show k < 2 ^ 31 by omega)]
    refine g_goto 76 dX7_look_72 (by decide) ?_
    exact g_ri dX7_look_76 rfl rfl ⟨rfl, rfl, rfl⟩
set_option maxRecDepth 100000 in
set_option maxHeartbeats 4000000 in
theorem c_look_n {k : Int32} (h : ¬ q_in k 0 7) : q_Ct C l FX7_look 1 142 142 [.ref (q_a C 0), .int k] μ (q_ρ b) (q_is (-1) μ (q_ρ b)) := by
  refine q_entry rfl (by decide) (Nat.le_of_ble_eq_true rfl) ?_
  refine g_lv [(0, _), (1, _)] rfl ?_
  refine g_iload_n 1 dX7_look_0 rfl rfl ?_
  have h9 : k.toInt < 0 ∨ 2 < k.toInt := by
    have e1 : q_in k 0 7 ↔ ((0 : Int32).toInt ≤ k.toInt ∧ k.toInt ≤ (7 : Int32).toInt) := by simp only [q_in, Int32.le_iff_toInt_le]
    rw [e1] at h
    have e2 : (0 : Int32).toInt = 0 := rfl
    have e3 : (7 : Int32).toInt = 7 := rfl
    omega
  refine g_tabOut 54 dX7_look_1 h9 (by decide) ?_
  refine g_iload_n 55 dX7_look_54 rfl rfl ?_
  refine g_iconst 56 3 dX7_look_55 rfl (by decide) ?_
  refine g_bipush 58 7 dX7_look_56 rfl (by decide) ?_
  refine g_Si 61 [_, _, _] _ dX7_look_58 rfl m_X7_within l_X7_73 rfl (c_within _ _ _) rfl (Nat.le_of_ble_eq_true rfl) (by decide) (fun v58 μ58 ρ58 hc9 => ?_)
  obtain ⟨rfl, rfl, rfl⟩ := hc9
  refine g_if_eq 75 64 dX7_look_61 rfl (by decide) (fun h61 => ?_) (fun h61 => ?_)
  · refine g_iconst 76 (-1) dX7_look_75 rfl (by decide) ?_
    exact g_ri dX7_look_76 rfl rfl ⟨rfl, rfl, rfl⟩
  · exact (h ⟨Int32.le_trans (by decide) (q_b_n.mp h61).1, (q_b_n.mp h61).2⟩).elim
set_option maxRecDepth 100000 in
set_option maxHeartbeats 4000000 in
theorem c_look_1t  : q_Ct C l FX7_look 1 142 142 [.ref (q_a C 0), .int 1] μ (q_ρ true) (q_is (μ 96 4) μ (q_ρ true)) := by
  refine q_entry rfl (by decide) (Nat.le_of_ble_eq_true rfl) ?_
  refine g_lv [(0, _), (1, _)] rfl ?_
  refine g_iload_n 1 dX7_look_0 rfl rfl ?_
  refine g_tabIn 36 dX7_look_1 (by decide) (by decide) rfl (by decide) ?_
  refine g_aload_n 37 dX7_look_36 rfl rfl ?_
  refine g_getR 40 96 dX7_look_37 rfl f_X7_58 (by decide) rfl rfl rfl ?_
  refine g_getI 43 dX7_look_40 rfl f_X7_121 (by decide) rfl rfl ?_
  exact g_ri dX7_look_43 rfl rfl ⟨rfl, rfl, rfl⟩
set_option maxRecDepth 100000 in
set_option maxHeartbeats 4000000 in
theorem c_look_1f  : q_Ct C l FX7_look 1 142 142 [.ref (q_a C 0), .int 1] μ (q_ρ false) (q_is (μ 70 4) μ (q_ρ false)) := by
  refine q_entry rfl (by decide) (Nat.le_of_ble_eq_true rfl) ?_
  refine g_lv [(0, _), (1, _)] rfl ?_
  refine g_iload_n 1 dX7_look_0 rfl rfl ?_
  refine g_tabIn 36 dX7_look_1 (by decide) (by decide) rfl (by decide) ?_
  refine g_aload_n 37 dX7_look_36 rfl rfl ?_
  refine g_getR 40 70 dX7_look_37 rfl f_X7_58 (by decide) rfl rfl rfl ?_
  refine g_getI 43 dX7_look_40 rfl f_X7_121 (by decide) rfl rfl ?_
  exact g_ri dX7_look_43 rfl rfl ⟨rfl, rfl, rfl⟩
end TL
end
section
/-! ===== what is told: the reference ===== -/
section MT
variable {C : q_C} {l : Launch} {μ : q_M} {b : Bool}
set_option maxRecDepth 100000 in
set_option maxHeartbeats 4000000 in
theorem lp_Mcamp {j m : Nat} {far : Int32} (hm : m ≤ 10) (hc : μ 122 0 = nI m) : ∀ k i, i + k = m → q_G C l FX8_camp 2 142 142 (q_is 1 (q_fg μ 126 127 (nI j) far m) (q_ρ b)) 142 (q_fg μ 126 127 (nI j) far i) (q_ρ b) [(0, .ref (q_a C 122)), (1, .int (nI (j + 1))), (2, .int far), (3, .int (nI i))] [] 29 := by
  intro k
  induction k with
  | zero =>
    intro i hi
    refine g_iload_n 30 dX8_camp_29 rfl rfl ?_
    refine g_aload_n 31 dX8_camp_30 rfl rfl ?_
    refine g_getI 34 dX8_camp_31 rfl f_X8_75 (by decide) rfl rfl ?_
    rw [q_fg_o (by decide), hc]
    refine g_icmp_ge 72 37 dX8_camp_34 rfl (by decide) (fun h34 => ?_) (fun h34 => ?_)
    · refine g_iconst 73 1 dX8_camp_72 rfl (by decide) ?_
      exact g_rz dX8_camp_73 rfl (by first | exact Or.inl rfl | exact Or.inr rfl | assumption) rfl ⟨rfl, by rw [show i = m by omega], rfl⟩
    · exact absurd (nI_le (by omega) (by omega)) h34
  | succ k ih =>
    intro i hi
    refine g_iload_n 30 dX8_camp_29 rfl rfl ?_
    refine g_aload_n 31 dX8_camp_30 rfl rfl ?_
    refine g_getI 34 dX8_camp_31 rfl f_X8_75 (by decide) rfl rfl ?_
    rw [q_fg_o (by decide), hc]
    refine g_icmp_ge 72 37 dX8_camp_34 rfl (by decide) (fun h34 => ?_) (fun h34 => ?_)
    · exact absurd h34 (nI_ge (by omega) (by omega))
    · refine g_aload_n 38 dX8_camp_37 rfl rfl ?_
      refine g_getR 41 _ dX8_camp_38 rfl f_X8_19 (by decide) rfl rfl rfl ?_
      refine g_iload_n 42 dX8_camp_41 rfl rfl ?_
      refine g_iald 43 dX8_camp_42 rfl (by decide) rfl (vp_in_nI (by omega) (by omega)) ?_
      rw [nI_clamp (show i < 2 ^ 31 by omega)]
      refine g_iload_n 44 dX8_camp_43 rfl rfl ?_
      refine g_iconst 45 1 dX8_camp_44 rfl (by decide) ?_
      refine g_isub 46 dX8_camp_45 rfl ?_
      rw [nI_pred]
      refine g_icmp_ne 66 49 dX8_camp_46 rfl (by decide) (fun h46 => ?_) (fun h46 => ?_)
      · refine g_iinc 69 (_ + 1) dX8_camp_66 rfl rfl rfl (by decide) ?_
        refine g_goto 29 dX8_camp_69 (by decide) ?_
        rw [q_fg_n (i := i) (fun q => h46 (by rw [q_fg_at]; exact q.1))]
        rw [nI_1]
        refine g_lv [(0, _), (1, _), (2, _), (3, _)] rfl ?_
        exact ih (i + 1) (by omega)
      · refine g_aload_n 50 dX8_camp_49 rfl rfl ?_
        refine g_getR 53 _ dX8_camp_50 rfl f_X8_22 (by decide) rfl rfl rfl ?_
        refine g_iload_n 54 dX8_camp_53 rfl rfl ?_
        refine g_iald 55 dX8_camp_54 rfl (by decide) rfl (vp_in_nI (by omega) (by omega)) ?_
        rw [nI_clamp (show i < 2 ^ 31 by omega)]
        refine g_iload_n 56 dX8_camp_55 rfl rfl ?_
        refine g_icmp_lt 66 59 dX8_camp_56 rfl (by decide) (fun h56 => ?_) (fun h56 => ?_)
        · refine g_iinc 69 (_ + 1) dX8_camp_66 rfl rfl rfl (by decide) ?_
          refine g_goto 29 dX8_camp_69 (by decide) ?_
          rw [q_fg_n (i := i) (fun q => absurd h56 (Int32.not_lt.mpr (by rw [q_fg_o (by decide)]; exact q.2)))]
          rw [nI_1]
          refine g_lv [(0, _), (1, _), (2, _), (3, _)] rfl ?_
          exact ih (i + 1) (by omega)
        · refine g_aload_n 60 dX8_camp_59 rfl rfl ?_
          refine g_getR 63 _ dX8_camp_60 rfl f_X8_19 (by decide) rfl rfl rfl ?_
          refine g_iload_n 64 dX8_camp_63 rfl rfl ?_
          refine g_iconst 65 (-1) dX8_camp_64 rfl (by decide) ?_
          refine g_iast 66 dX8_camp_65 rfl (by decide) rfl (vp_in_nI (by omega) (by omega)) ?_
          rw [nI_clamp (show i < 2 ^ 31 by omega)]
          refine g_iinc 69 (_ + 1) dX8_camp_66 rfl rfl rfl (by decide) ?_
          refine g_goto 29 dX8_camp_69 (by decide) ?_
          rw [q_fg_y (by rw [q_fg_at] at h46; exact h46) (by rw [q_fg_o (by decide)] at h56; exact Int32.not_lt.mp h56)]
          rw [nI_1]
          refine g_lv [(0, _), (1, _), (2, _), (3, _)] rfl ?_
          exact ih (i + 1) (by omega)
set_option maxRecDepth 100000 in
set_option maxHeartbeats 4000000 in
theorem c_Mcamp_y {j m : Nat} {far : Int32} (hj : j < 7) (hf : q_in far 1 900) (hm : m ≤ 10) (hc : μ 122 0 = nI m) : q_Ct C l FX8_camp 2 142 142 [.ref (q_a C 122), .int (nI (j + 1)), .int far] μ (q_ρ b) (q_is 1 (q_fg (q_up μ 123 (j + 1) far) 126 127 (nI j) far m) (q_ρ b)) := by
  refine q_entry rfl (by decide) (Nat.le_of_ble_eq_true rfl) ?_
  refine g_lv [(0, _), (1, _), (2, _)] rfl ?_
  refine g_iload_n 1 dX8_camp_0 rfl rfl ?_
  refine g_Si 4 [_] _ dX8_camp_1 rfl m_X8_isCamp l_X8_78 rfl (c_MisCamp _) rfl (Nat.le_of_ble_eq_true rfl) (by decide) (fun v1 μ1 ρ1 hc9 => ?_)
  obtain ⟨rfl, rfl, rfl⟩ := hc9
  refine g_if_eq 18 7 dX8_camp_4 rfl (by decide) (fun h4 => ?_) (fun h4 => ?_)
  · exact (q_b_0.mp h4 (q_campI hj)).elim
  · refine g_iload_n 8 dX8_camp_7 rfl rfl ?_
    refine g_iconst 9 1 dX8_camp_8 rfl (by decide) ?_
    refine g_sipush 12 900 dX8_camp_9 rfl (by decide) ?_
    refine g_Si 15 [_, _, _] _ dX8_camp_12 rfl m_X8_isIn l_X8_71 rfl (c_isIn _ _ _) rfl (Nat.le_of_ble_eq_true rfl) (by decide) (fun v12 μ12 ρ12 hc9 => ?_)
    obtain ⟨rfl, rfl, rfl⟩ := hc9
    refine g_if_ne 20 18 dX8_camp_15 rfl (by decide) (fun h15 => ?_) (fun h15 => ?_)
    · refine g_aload_n 21 dX8_camp_20 rfl rfl ?_
      refine g_getR 24 _ dX8_camp_21 rfl f_X8_7 (by decide) rfl rfl rfl ?_
      refine g_iload_n 25 dX8_camp_24 rfl rfl ?_
      refine g_iload_n 26 dX8_camp_25 rfl rfl ?_
      refine g_iast 27 dX8_camp_26 rfl (by decide) rfl (vp_in_nI (show j + 1 < 8 by omega) (by omega)) ?_
      rw [nI_clamp (show j + 1 < 2 ^ 31 by omega)]
      refine g_iconst 28 0 dX8_camp_27 rfl (by decide) ?_
      refine g_istore_n 29 dX8_camp_28 rfl (by decide) ?_
      refine g_lv [(0, _), (1, _), (2, _), (3, .int 0)] rfl ?_
      have h9 := lp_Mcamp (C := C) (l := l) (b := b) (μ := q_up μ 123 (j + 1) far) (j := j) (far := far) hm (by rw [q_upc (by decide)]; exact hc) m 0 (by omega)
      rw [q_fg_0] at h9
      exact h9
    · exact (q_b_0.mp h15 hf).elim
set_option maxRecDepth 100000 in
set_option maxHeartbeats 4000000 in
theorem c_Mcamp_n {c far : Int32} (h : ¬ (q_in c 1 7 ∧ q_in far 1 900)) : q_Ct C l FX8_camp 2 142 142 [.ref (q_a C 122), .int c, .int far] μ (q_ρ b) (q_is 0 μ (q_ρ b)) := by
  refine q_entry rfl (by decide) (Nat.le_of_ble_eq_true rfl) ?_
  refine g_lv [(0, _), (1, _), (2, _)] rfl ?_
  refine g_iload_n 1 dX8_camp_0 rfl rfl ?_
  refine g_Si 4 [_] _ dX8_camp_1 rfl m_X8_isCamp l_X8_78 rfl (c_MisCamp _) rfl (Nat.le_of_ble_eq_true rfl) (by decide) (fun v1 μ1 ρ1 hc9 => ?_)
  obtain ⟨rfl, rfl, rfl⟩ := hc9
  refine g_if_eq 18 7 dX8_camp_4 rfl (by decide) (fun h4 => ?_) (fun h4 => ?_)
  · refine g_iconst 19 0 dX8_camp_18 rfl (by decide) ?_
    exact g_rz dX8_camp_19 rfl (by first | exact Or.inl rfl | exact Or.inr rfl | assumption) rfl ⟨rfl, rfl, rfl⟩
  · refine g_iload_n 8 dX8_camp_7 rfl rfl ?_
    refine g_iconst 9 1 dX8_camp_8 rfl (by decide) ?_
    refine g_sipush 12 900 dX8_camp_9 rfl (by decide) ?_
    refine g_Si 15 [_, _, _] _ dX8_camp_12 rfl m_X8_isIn l_X8_71 rfl (c_isIn _ _ _) rfl (Nat.le_of_ble_eq_true rfl) (by decide) (fun v12 μ12 ρ12 hc9 => ?_)
    obtain ⟨rfl, rfl, rfl⟩ := hc9
    refine g_if_ne 20 18 dX8_camp_15 rfl (by decide) (fun h15 => ?_) (fun h15 => ?_)
    · exact (h ⟨q_b_n.mp h4, q_b_n.mp h15⟩).elim
    · refine g_iconst 19 0 dX8_camp_18 rfl (by decide) ?_
      exact g_rz dX8_camp_19 rfl (by first | exact Or.inl rfl | exact Or.inr rfl | assumption) rfl ⟨rfl, rfl, rfl⟩
set_option maxRecDepth 100000 in
set_option maxHeartbeats 4000000 in
theorem c_Mhour_y {j : Nat} {h : Int32} (hj : j < 7) (hf : q_in h 0 23) : q_Ct C l FX8_hour 2 142 142 [.ref (q_a C 122), .int (nI j), .int h] μ (q_ρ b) (q_is 1 (q_up μ 124 j h) (q_ρ b)) := by
  refine q_entry rfl (by decide) (Nat.le_of_ble_eq_true rfl) ?_
  refine g_lv [(0, _), (1, _), (2, _)] rfl ?_
  refine g_iload_n 1 dX8_hour_0 rfl rfl ?_
  refine g_Si 4 [_] _ dX8_hour_1 rfl m_X8_isStage l_X8_82 rfl (c_MisStage _) rfl (Nat.le_of_ble_eq_true rfl) (by decide) (fun v1 μ1 ρ1 hc9 => ?_)
  obtain ⟨rfl, rfl, rfl⟩ := hc9
  refine g_if_eq 17 7 dX8_hour_4 rfl (by decide) (fun h4 => ?_) (fun h4 => ?_)
  · exact (q_b_0.mp h4 (q_stageI hj)).elim
  · refine g_iload_n 8 dX8_hour_7 rfl rfl ?_
    refine g_iconst 9 0 dX8_hour_8 rfl (by decide) ?_
    refine g_bipush 11 23 dX8_hour_9 rfl (by decide) ?_
    refine g_Si 14 [_, _, _] _ dX8_hour_11 rfl m_X8_isIn l_X8_71 rfl (c_isIn _ _ _) rfl (Nat.le_of_ble_eq_true rfl) (by decide) (fun v11 μ11 ρ11 hc9 => ?_)
    obtain ⟨rfl, rfl, rfl⟩ := hc9
    refine g_if_ne 19 17 dX8_hour_14 rfl (by decide) (fun h14 => ?_) (fun h14 => ?_)
    · refine g_aload_n 20 dX8_hour_19 rfl rfl ?_
      refine g_getR 23 _ dX8_hour_20 rfl f_X8_13 (by decide) rfl rfl rfl ?_
      refine g_iload_n 24 dX8_hour_23 rfl rfl ?_
      refine g_iload_n 25 dX8_hour_24 rfl rfl ?_
      refine g_iast 26 dX8_hour_25 rfl (by decide) rfl (vp_in_nI hj (by omega)) ?_
      rw [nI_clamp (show j < 2 ^ 31 by omega)]
      refine g_iconst 27 1 dX8_hour_26 rfl (by decide) ?_
      exact g_rz dX8_hour_27 rfl (by first | exact Or.inl rfl | exact Or.inr rfl | assumption) rfl ⟨rfl, rfl, rfl⟩
    · exact (q_b_0.mp h14 hf).elim
set_option maxRecDepth 100000 in
set_option maxHeartbeats 4000000 in
theorem c_Mhour_n {c far : Int32} (h : ¬ (q_in c 0 6 ∧ q_in far 0 23)) : q_Ct C l FX8_hour 2 142 142 [.ref (q_a C 122), .int c, .int far] μ (q_ρ b) (q_is 0 μ (q_ρ b)) := by
  refine q_entry rfl (by decide) (Nat.le_of_ble_eq_true rfl) ?_
  refine g_lv [(0, _), (1, _), (2, _)] rfl ?_
  refine g_iload_n 1 dX8_hour_0 rfl rfl ?_
  refine g_Si 4 [_] _ dX8_hour_1 rfl m_X8_isStage l_X8_82 rfl (c_MisStage _) rfl (Nat.le_of_ble_eq_true rfl) (by decide) (fun v1 μ1 ρ1 hc9 => ?_)
  obtain ⟨rfl, rfl, rfl⟩ := hc9
  refine g_if_eq 17 7 dX8_hour_4 rfl (by decide) (fun h4 => ?_) (fun h4 => ?_)
  · refine g_iconst 18 0 dX8_hour_17 rfl (by decide) ?_
    exact g_rz dX8_hour_18 rfl (by first | exact Or.inl rfl | exact Or.inr rfl | assumption) rfl ⟨rfl, rfl, rfl⟩
  · refine g_iload_n 8 dX8_hour_7 rfl rfl ?_
    refine g_iconst 9 0 dX8_hour_8 rfl (by decide) ?_
    refine g_bipush 11 23 dX8_hour_9 rfl (by decide) ?_
    refine g_Si 14 [_, _, _] _ dX8_hour_11 rfl m_X8_isIn l_X8_71 rfl (c_isIn _ _ _) rfl (Nat.le_of_ble_eq_true rfl) (by decide) (fun v11 μ11 ρ11 hc9 => ?_)
    obtain ⟨rfl, rfl, rfl⟩ := hc9
    refine g_if_ne 19 17 dX8_hour_14 rfl (by decide) (fun h14 => ?_) (fun h14 => ?_)
    · exact (h ⟨q_b_n.mp h4, q_b_n.mp h14⟩).elim
    · refine g_iconst 18 0 dX8_hour_17 rfl (by decide) ?_
      exact g_rz dX8_hour_18 rfl (by first | exact Or.inl rfl | exact Or.inr rfl | assumption) rfl ⟨rfl, rfl, rfl⟩
set_option maxRecDepth 100000 in
set_option maxHeartbeats 4000000 in
theorem c_Mracer_y {m : Nat} {s : Int32} (hs : q_in s 10 120) (hm : m < 10) (hc : μ 122 0 = nI m) : q_Ct C l FX8_racer 1 142 142 [.ref (q_a C 122), .int s] μ (q_ρ b) (q_is (nI m) (q_up (q_up (q_up μ 125 m s) 126 m (-1)) 122 0 (nI (m + 1))) (q_ρ b)) := by
  refine q_entry rfl (by decide) (Nat.le_of_ble_eq_true rfl) ?_
  refine g_lv [(0, _), (1, _)] rfl ?_
  refine g_iload_n 1 dX8_racer_0 rfl rfl ?_
  refine g_bipush 3 10 dX8_racer_1 rfl (by decide) ?_
  refine g_bipush 5 120 dX8_racer_3 rfl (by decide) ?_
  refine g_Si 8 [_, _, _] _ dX8_racer_5 rfl m_X8_isIn l_X8_71 rfl (c_isIn _ _ _) rfl (Nat.le_of_ble_eq_true rfl) (by decide) (fun v5 μ5 ρ5 hc9 => ?_)
  obtain ⟨rfl, rfl, rfl⟩ := hc9
  refine g_if_eq 20 11 dX8_racer_8 rfl (by decide) (fun h8 => ?_) (fun h8 => ?_)
  · exact (q_b_0.mp h8 hs).elim
  · refine g_aload_n 12 dX8_racer_11 rfl rfl ?_
    refine g_getI 15 dX8_racer_12 rfl f_X8_75 (by decide) rfl rfl ?_
    rw [hc]
    refine g_bipush 17 10 dX8_racer_15 rfl (by decide) ?_
    refine g_icmp_ne 22 20 dX8_racer_17 rfl (by decide) (fun h17 => ?_) (fun h17 => ?_)
    · refine g_aload_n 23 dX8_racer_22 rfl rfl ?_
      refine g_getR 26 _ dX8_racer_23 rfl f_X8_16 (by decide) rfl rfl rfl ?_
      refine g_aload_n 27 dX8_racer_26 rfl rfl ?_
      refine g_getI 30 dX8_racer_27 rfl f_X8_75 (by decide) rfl rfl ?_
      rw [hc]
      refine g_iload_n 31 dX8_racer_30 rfl rfl ?_
      refine g_iast 32 dX8_racer_31 rfl (by decide) rfl (vp_in_nI hm (by omega)) ?_
      rw [nI_clamp (show m < 2 ^ 31 by omega)]
      refine g_aload_n 33 dX8_racer_32 rfl rfl ?_
      refine g_getR 36 _ dX8_racer_33 rfl f_X8_19 (by decide) rfl rfl rfl ?_
      refine g_aload_n 37 dX8_racer_36 rfl rfl ?_
      refine g_getI 40 dX8_racer_37 rfl f_X8_75 (by decide) rfl rfl ?_
      rw [q_upc (by decide), hc]
      refine g_iconst 41 (-1) dX8_racer_40 rfl (by decide) ?_
      refine g_iast 42 dX8_racer_41 rfl (by decide) rfl (vp_in_nI hm (by omega)) ?_
      rw [nI_clamp (show m < 2 ^ 31 by omega)]
      refine g_aload_n 43 dX8_racer_42 rfl rfl ?_
      refine g_dup 44 dX8_racer_43 rfl rfl ?_
      refine g_getI 47 dX8_racer_44 rfl f_X8_75 (by decide) rfl rfl ?_
      rw [q_upc (by decide), q_upc (by decide), hc]
      refine g_iconst 48 1 dX8_racer_47 rfl (by decide) ?_
      refine g_iadd 49 dX8_racer_48 rfl ?_
      rw [nI_1]
      refine g_putI 52 dX8_racer_49 rfl f_X8_75 (by decide) rfl rfl (Or.inl rfl) ?_
      refine g_aload_n 53 dX8_racer_52 rfl rfl ?_
      refine g_getI 56 dX8_racer_53 rfl f_X8_75 (by decide) rfl rfl ?_
      rw [q_ups]
      refine g_iconst 57 1 dX8_racer_56 rfl (by decide) ?_
      refine g_isub 58 dX8_racer_57 rfl ?_
      rw [nI_pred]
      exact g_ri dX8_racer_58 rfl rfl ⟨rfl, rfl, rfl⟩
    · exact absurd ((nI_eq (a := m) (b := 10) (by omega) (by omega)).mp h17) (by omega)
set_option maxRecDepth 100000 in
set_option maxHeartbeats 4000000 in
theorem c_Mracer_f {s : Int32} (hs : q_in s 10 120) (hc : μ 122 0 = nI 10) : q_Ct C l FX8_racer 1 142 142 [.ref (q_a C 122), .int s] μ (q_ρ b) (q_is (-1) μ (q_ρ b)) := by
  refine q_entry rfl (by decide) (Nat.le_of_ble_eq_true rfl) ?_
  refine g_lv [(0, _), (1, _)] rfl ?_
  refine g_iload_n 1 dX8_racer_0 rfl rfl ?_
  refine g_bipush 3 10 dX8_racer_1 rfl (by decide) ?_
  refine g_bipush 5 120 dX8_racer_3 rfl (by decide) ?_
  refine g_Si 8 [_, _, _] _ dX8_racer_5 rfl m_X8_isIn l_X8_71 rfl (c_isIn _ _ _) rfl (Nat.le_of_ble_eq_true rfl) (by decide) (fun v5 μ5 ρ5 hc9 => ?_)
  obtain ⟨rfl, rfl, rfl⟩ := hc9
  refine g_if_eq 20 11 dX8_racer_8 rfl (by decide) (fun h8 => ?_) (fun h8 => ?_)
  · exact (q_b_0.mp h8 hs).elim
  · refine g_aload_n 12 dX8_racer_11 rfl rfl ?_
    refine g_getI 15 dX8_racer_12 rfl f_X8_75 (by decide) rfl rfl ?_
    rw [hc]
    refine g_bipush 17 10 dX8_racer_15 rfl (by decide) ?_
    refine g_icmp_ne 22 20 dX8_racer_17 rfl (by decide) (fun h17 => ?_) (fun h17 => ?_)
    · exact absurd rfl h17
    · refine g_iconst 21 (-1) dX8_racer_20 rfl (by decide) ?_
      exact g_ri dX8_racer_21 rfl rfl ⟨rfl, rfl, rfl⟩
set_option maxRecDepth 100000 in
set_option maxHeartbeats 4000000 in
theorem c_Mracer_n {s : Int32} (hs : ¬ q_in s 10 120) : q_Ct C l FX8_racer 1 142 142 [.ref (q_a C 122), .int s] μ (q_ρ b) (q_is (-1) μ (q_ρ b)) := by
  refine q_entry rfl (by decide) (Nat.le_of_ble_eq_true rfl) ?_
  refine g_lv [(0, _), (1, _)] rfl ?_
  refine g_iload_n 1 dX8_racer_0 rfl rfl ?_
  refine g_bipush 3 10 dX8_racer_1 rfl (by decide) ?_
  refine g_bipush 5 120 dX8_racer_3 rfl (by decide) ?_
  refine g_Si 8 [_, _, _] _ dX8_racer_5 rfl m_X8_isIn l_X8_71 rfl (c_isIn _ _ _) rfl (Nat.le_of_ble_eq_true rfl) (by decide) (fun v5 μ5 ρ5 hc9 => ?_)
  obtain ⟨rfl, rfl, rfl⟩ := hc9
  refine g_if_eq 20 11 dX8_racer_8 rfl (by decide) (fun h8 => ?_) (fun h8 => ?_)
  · refine g_iconst 21 (-1) dX8_racer_20 rfl (by decide) ?_
    exact g_ri dX8_racer_21 rfl rfl ⟨rfl, rfl, rfl⟩
  · exact (hs (q_b_n.mp h8)).elim
set_option maxRecDepth 100000 in
set_option maxHeartbeats 4000000 in
theorem c_Mbreaks_0 {r m : Nat} {a : Int32} (hr : r < m) (hm : m ≤ 10) (hc : μ 122 0 = nI m) : q_Ct C l FX8_breaks 2 142 142 [.ref (q_a C 122), .int (nI r), .int (-1), .int a] μ (q_ρ b) (q_is 1 (q_up (q_up μ 126 r (-1)) 127 r a) (q_ρ b)) := by
  refine q_entry rfl (by decide) (Nat.le_of_ble_eq_true rfl) ?_
  refine g_lv [(0, _), (1, _), (2, _), (3, _)] rfl ?_
  refine g_aload_n 1 dX8_breaks_0 rfl rfl ?_
  refine g_iload_n 2 dX8_breaks_1 rfl rfl ?_
  refine g_Vi 5 [_] _ dX8_breaks_2 rfl m_X8_isRacer l_X8_85 rfl rfl rfl (by decide) (c_MisRacer _) rfl (Nat.le_of_ble_eq_true rfl) (by decide) (fun v2 μ2 ρ2 hc9 => ?_)
  obtain ⟨rfl, rfl, rfl⟩ := hc9
  refine g_if_eq 35 8 dX8_breaks_5 rfl (by decide) (fun h5 => ?_) (fun h5 => ?_)
  · exact (q_b_0.mp h5 (by rw [hc]; exact q_rin hr hm)).elim
  · refine g_iload_n 9 dX8_breaks_8 rfl rfl ?_
    refine g_iconst 10 (-1) dX8_breaks_9 rfl (by decide) ?_
    refine g_icmp_eq 37 13 dX8_breaks_10 rfl (by decide) (fun h10 => ?_) (fun h10 => ?_)
    · refine g_aload_n 38 dX8_breaks_37 rfl rfl ?_
      refine g_getR 41 _ dX8_breaks_38 rfl f_X8_19 (by decide) rfl rfl rfl ?_
      refine g_iload_n 42 dX8_breaks_41 rfl rfl ?_
      refine g_iload_n 43 dX8_breaks_42 rfl rfl ?_
      refine g_iast 44 dX8_breaks_43 rfl (by decide) rfl (vp_in_nI (show r < 10 by omega) (by omega)) ?_
      rw [nI_clamp (show r < 2 ^ 31 by omega)]
      refine g_aload_n 45 dX8_breaks_44 rfl rfl ?_
      refine g_getR 48 _ dX8_breaks_45 rfl f_X8_22 (by decide) rfl rfl rfl ?_
      refine g_iload_n 49 dX8_breaks_48 rfl rfl ?_
      refine g_iload_n 50 dX8_breaks_49 rfl rfl ?_
      refine g_iast 51 dX8_breaks_50 rfl (by decide) rfl (vp_in_nI (show r < 10 by omega) (by omega)) ?_
      rw [nI_clamp (show r < 2 ^ 31 by omega)]
      refine g_iconst 52 1 dX8_breaks_51 rfl (by decide) ?_
      exact g_rz dX8_breaks_52 rfl (by first | exact Or.inl rfl | exact Or.inr rfl | assumption) rfl ⟨rfl, rfl, rfl⟩
    · exact absurd rfl h10
set_option maxRecDepth 100000 in
set_option maxHeartbeats 4000000 in
theorem c_Mbreaks_y {r m j : Nat} {a : Int32} (hr : r < m) (hm : m ≤ 10) (hc : μ 122 0 = nI m) (hj : j < 7) (ha : q_in a 0 (μ 123 (j + 1) - 1)) : q_Ct C l FX8_breaks 2 142 142 [.ref (q_a C 122), .int (nI r), .int (nI j), .int a] μ (q_ρ b) (q_is 1 (q_up (q_up μ 126 r (nI j)) 127 r a) (q_ρ b)) := by
  refine q_entry rfl (by decide) (Nat.le_of_ble_eq_true rfl) ?_
  refine g_lv [(0, _), (1, _), (2, _), (3, _)] rfl ?_
  refine g_aload_n 1 dX8_breaks_0 rfl rfl ?_
  refine g_iload_n 2 dX8_breaks_1 rfl rfl ?_
  refine g_Vi 5 [_] _ dX8_breaks_2 rfl m_X8_isRacer l_X8_85 rfl rfl rfl (by decide) (c_MisRacer _) rfl (Nat.le_of_ble_eq_true rfl) (by decide) (fun v2 μ2 ρ2 hc9 => ?_)
  obtain ⟨rfl, rfl, rfl⟩ := hc9
  refine g_if_eq 35 8 dX8_breaks_5 rfl (by decide) (fun h5 => ?_) (fun h5 => ?_)
  · exact (q_b_0.mp h5 (by rw [hc]; exact q_rin hr hm)).elim
  · refine g_iload_n 9 dX8_breaks_8 rfl rfl ?_
    refine g_iconst 10 (-1) dX8_breaks_9 rfl (by decide) ?_
    refine g_icmp_eq 37 13 dX8_breaks_10 rfl (by decide) (fun h10 => ?_) (fun h10 => ?_)
    · exact absurd (nI_pos' (show j < 2 ^ 31 by omega)) (by rw [h10]; decide)
    · refine g_iload_n 14 dX8_breaks_13 rfl rfl ?_
      refine g_Si 17 [_] _ dX8_breaks_14 rfl m_X8_isStage l_X8_82 rfl (c_MisStage _) rfl (Nat.le_of_ble_eq_true rfl) (by decide) (fun v14 μ14 ρ14 hc9 => ?_)
      obtain ⟨rfl, rfl, rfl⟩ := hc9
      refine g_if_eq 35 20 dX8_breaks_17 rfl (by decide) (fun h17 => ?_) (fun h17 => ?_)
      · exact (q_b_0.mp h17 (q_stageI hj)).elim
      · refine g_iload_n 21 dX8_breaks_20 rfl rfl ?_
        refine g_iconst 22 0 dX8_breaks_21 rfl (by decide) ?_
        refine g_aload_n 23 dX8_breaks_22 rfl rfl ?_
        refine g_iload_n 24 dX8_breaks_23 rfl rfl ?_
        refine g_Vi 27 [_] _ dX8_breaks_24 rfl m_X8_length l_X8_88 rfl rfl rfl (by decide) (c_Mlength _ (by rw [nI_1]; exact vp_in_nI (by omega) (by omega))) rfl (Nat.le_of_ble_eq_true rfl) (by decide) (fun v24 μ24 ρ24 hc9 => ?_)
        obtain ⟨rfl, rfl, rfl⟩ := hc9
        rw [nI_1, nI_clamp (show j + 1 < 2 ^ 31 by omega)]
        refine g_iconst 28 1 dX8_breaks_27 rfl (by decide) ?_
        refine g_isub 29 dX8_breaks_28 rfl ?_
        refine g_Si 32 [_, _, _] _ dX8_breaks_29 rfl m_X8_isIn l_X8_71 rfl (c_isIn _ _ _) rfl (Nat.le_of_ble_eq_true rfl) (by decide) (fun v29 μ29 ρ29 hc9 => ?_)
        obtain ⟨rfl, rfl, rfl⟩ := hc9
        refine g_if_ne 37 35 dX8_breaks_32 rfl (by decide) (fun h32 => ?_) (fun h32 => ?_)
        · refine g_aload_n 38 dX8_breaks_37 rfl rfl ?_
          refine g_getR 41 _ dX8_breaks_38 rfl f_X8_19 (by decide) rfl rfl rfl ?_
          refine g_iload_n 42 dX8_breaks_41 rfl rfl ?_
          refine g_iload_n 43 dX8_breaks_42 rfl rfl ?_
          refine g_iast 44 dX8_breaks_43 rfl (by decide) rfl (vp_in_nI (show r < 10 by omega) (by omega)) ?_
          rw [nI_clamp (show r < 2 ^ 31 by omega)]
          refine g_aload_n 45 dX8_breaks_44 rfl rfl ?_
          refine g_getR 48 _ dX8_breaks_45 rfl f_X8_22 (by decide) rfl rfl rfl ?_
          refine g_iload_n 49 dX8_breaks_48 rfl rfl ?_
          refine g_iload_n 50 dX8_breaks_49 rfl rfl ?_
          refine g_iast 51 dX8_breaks_50 rfl (by decide) rfl (vp_in_nI (show r < 10 by omega) (by omega)) ?_
          rw [nI_clamp (show r < 2 ^ 31 by omega)]
          refine g_iconst 52 1 dX8_breaks_51 rfl (by decide) ?_
          exact g_rz dX8_breaks_52 rfl (by first | exact Or.inl rfl | exact Or.inr rfl | assumption) rfl ⟨rfl, rfl, rfl⟩
        · exact (q_b_0.mp h32 ha).elim
theorem q_st1 {i : Int32} (h : q_in i 0 6) : vp_in (i + 1) 8 := by
  obtain ⟨j, hj, rfl⟩ := q_stage h
  rw [nI_1]
  exact vp_in_nI (by omega) (by omega)
set_option maxRecDepth 100000 in
set_option maxHeartbeats 4000000 in
theorem c_Mbreaks_n {r i a : Int32} (h : ¬ (q_in r 0 (μ 122 0 - 1) ∧ (i = -1 ∨ (q_in i 0 6 ∧ q_in a 0 (μ 123 (i + 1).toNatClampNeg - 1))))) : q_Ct C l FX8_breaks 2 142 142 [.ref (q_a C 122), .int r, .int i, .int a] μ (q_ρ b) (q_is 0 μ (q_ρ b)) := by
  refine q_entry rfl (by decide) (Nat.le_of_ble_eq_true rfl) ?_
  refine g_lv [(0, _), (1, _), (2, _), (3, _)] rfl ?_
  refine g_aload_n 1 dX8_breaks_0 rfl rfl ?_
  refine g_iload_n 2 dX8_breaks_1 rfl rfl ?_
  refine g_Vi 5 [_] _ dX8_breaks_2 rfl m_X8_isRacer l_X8_85 rfl rfl rfl (by decide) (c_MisRacer _) rfl (Nat.le_of_ble_eq_true rfl) (by decide) (fun v2 μ2 ρ2 hc9 => ?_)
  obtain ⟨rfl, rfl, rfl⟩ := hc9
  refine g_if_eq 35 8 dX8_breaks_5 rfl (by decide) (fun h5 => ?_) (fun h5 => ?_)
  · refine g_iconst 36 0 dX8_breaks_35 rfl (by decide) ?_
    exact g_rz dX8_breaks_36 rfl (by first | exact Or.inl rfl | exact Or.inr rfl | assumption) rfl ⟨rfl, rfl, rfl⟩
  · refine g_iload_n 9 dX8_breaks_8 rfl rfl ?_
    refine g_iconst 10 (-1) dX8_breaks_9 rfl (by decide) ?_
    refine g_icmp_eq 37 13 dX8_breaks_10 rfl (by decide) (fun h10 => ?_) (fun h10 => ?_)
    · exact (h ⟨q_b_n.mp h5, Or.inl h10⟩).elim
    · refine g_iload_n 14 dX8_breaks_13 rfl rfl ?_
      refine g_Si 17 [_] _ dX8_breaks_14 rfl m_X8_isStage l_X8_82 rfl (c_MisStage _) rfl (Nat.le_of_ble_eq_true rfl) (by decide) (fun v14 μ14 ρ14 hc9 => ?_)
      obtain ⟨rfl, rfl, rfl⟩ := hc9
      refine g_if_eq 35 20 dX8_breaks_17 rfl (by decide) (fun h17 => ?_) (fun h17 => ?_)
      · refine g_iconst 36 0 dX8_breaks_35 rfl (by decide) ?_
        exact g_rz dX8_breaks_36 rfl (by first | exact Or.inl rfl | exact Or.inr rfl | assumption) rfl ⟨rfl, rfl, rfl⟩
      · refine g_iload_n 21 dX8_breaks_20 rfl rfl ?_
        refine g_iconst 22 0 dX8_breaks_21 rfl (by decide) ?_
        refine g_aload_n 23 dX8_breaks_22 rfl rfl ?_
        refine g_iload_n 24 dX8_breaks_23 rfl rfl ?_
        refine g_Vi 27 [_] _ dX8_breaks_24 rfl m_X8_length l_X8_88 rfl rfl rfl (by decide) (c_Mlength _ (q_st1 (q_b_n.mp h17))) rfl (Nat.le_of_ble_eq_true rfl) (by decide) (fun v24 μ24 ρ24 hc9 => ?_)
        obtain ⟨rfl, rfl, rfl⟩ := hc9
        refine g_iconst 28 1 dX8_breaks_27 rfl (by decide) ?_
        refine g_isub 29 dX8_breaks_28 rfl ?_
        refine g_Si 32 [_, _, _] _ dX8_breaks_29 rfl m_X8_isIn l_X8_71 rfl (c_isIn _ _ _) rfl (Nat.le_of_ble_eq_true rfl) (by decide) (fun v29 μ29 ρ29 hc9 => ?_)
        obtain ⟨rfl, rfl, rfl⟩ := hc9
        refine g_if_ne 37 35 dX8_breaks_32 rfl (by decide) (fun h32 => ?_) (fun h32 => ?_)
        · exact (h ⟨q_b_n.mp h5, Or.inr ⟨q_b_n.mp h17, q_b_n.mp h32⟩⟩).elim
        · refine g_iconst 36 0 dX8_breaks_35 rfl (by decide) ?_
          exact g_rz dX8_breaks_36 rfl (by first | exact Or.inl rfl | exact Or.inr rfl | assumption) rfl ⟨rfl, rfl, rfl⟩
set_option maxRecDepth 100000 in
set_option maxHeartbeats 4000000 in
theorem c_Mset_y0 {v : Int32} (hv : q_in v 0 600) : q_Ct C l FX8_set 1 142 142 [.ref (q_a C 122), .int 0, .int v] μ (q_ρ b) (q_is 1 (q_up μ 128 0 v) (q_ρ b)) := by
  refine q_entry rfl (by decide) (Nat.le_of_ble_eq_true rfl) ?_
  refine g_lv [(0, _), (1, _), (2, _)] rfl ?_
  refine g_iload_n 1 dX8_set_0 rfl rfl ?_
  refine g_if_eq 9 4 dX8_set_1 rfl (by decide) (fun h1 => ?_) (fun h1 => ?_)
  · refine g_iload_n 10 dX8_set_9 rfl rfl ?_
    refine g_iconst 11 0 dX8_set_10 rfl (by decide) ?_
    refine g_sipush 14 600 dX8_set_11 rfl (by decide) ?_
    refine g_Si 17 [_, _, _] _ dX8_set_14 rfl m_X8_isIn l_X8_71 rfl (c_isIn _ _ _) rfl (Nat.le_of_ble_eq_true rfl) (by decide) (fun v14 μ14 ρ14 hc9 => ?_)
    obtain ⟨rfl, rfl, rfl⟩ := hc9
    refine g_goto 72 dX8_set_17 (by decide) ?_
    refine g_istore_n 73 dX8_set_72 rfl (by decide) ?_
    refine g_iload_n 74 dX8_set_73 rfl rfl ?_
    refine g_if_eq 84 77 dX8_set_74 rfl (by decide) (fun h74 => ?_) (fun h74 => ?_)
    · exact (q_b_0.mp h74 hv).elim
    · refine g_aload_n 78 dX8_set_77 rfl rfl ?_
      refine g_getR 81 _ dX8_set_78 rfl f_X8_25 (by decide) rfl rfl rfl ?_
      refine g_iload_n 82 dX8_set_81 rfl rfl ?_
      refine g_iload_n 83 dX8_set_82 rfl rfl ?_
      refine g_iast 84 dX8_set_83 rfl (by decide) rfl (vp_in_nI (n := 0) (N := 5) (by decide) (by decide)) ?_
      refine g_iload_n 85 dX8_set_84 rfl rfl ?_
      exact g_rz dX8_set_85 rfl q_b_01 rfl ⟨(q_b_t hv).symm, rfl, rfl⟩
  · exact absurd rfl h1
set_option maxRecDepth 100000 in
set_option maxHeartbeats 4000000 in
theorem c_Mset_n0 {v : Int32} (hv : ¬ q_in v 0 600) : q_Ct C l FX8_set 1 142 142 [.ref (q_a C 122), .int 0, .int v] μ (q_ρ b) (q_is 0 μ (q_ρ b)) := by
  refine q_entry rfl (by decide) (Nat.le_of_ble_eq_true rfl) ?_
  refine g_lv [(0, _), (1, _), (2, _)] rfl ?_
  refine g_iload_n 1 dX8_set_0 rfl rfl ?_
  refine g_if_eq 9 4 dX8_set_1 rfl (by decide) (fun h1 => ?_) (fun h1 => ?_)
  · refine g_iload_n 10 dX8_set_9 rfl rfl ?_
    refine g_iconst 11 0 dX8_set_10 rfl (by decide) ?_
    refine g_sipush 14 600 dX8_set_11 rfl (by decide) ?_
    refine g_Si 17 [_, _, _] _ dX8_set_14 rfl m_X8_isIn l_X8_71 rfl (c_isIn _ _ _) rfl (Nat.le_of_ble_eq_true rfl) (by decide) (fun v14 μ14 ρ14 hc9 => ?_)
    obtain ⟨rfl, rfl, rfl⟩ := hc9
    refine g_goto 72 dX8_set_17 (by decide) ?_
    refine g_istore_n 73 dX8_set_72 rfl (by decide) ?_
    refine g_iload_n 74 dX8_set_73 rfl rfl ?_
    refine g_if_eq 84 77 dX8_set_74 rfl (by decide) (fun h74 => ?_) (fun h74 => ?_)
    · refine g_iload_n 85 dX8_set_84 rfl rfl ?_
      exact g_rz dX8_set_85 rfl q_b_01 rfl ⟨(q_b_f hv).symm, rfl, rfl⟩
    · exact (hv (q_b_n.mp h74)).elim
  · exact absurd rfl h1
set_option maxRecDepth 100000 in
set_option maxHeartbeats 4000000 in
theorem c_Mset_y1 {v : Int32} (hv : q_in v 0 600) : q_Ct C l FX8_set 1 142 142 [.ref (q_a C 122), .int 1, .int v] μ (q_ρ b) (q_is 1 (q_up μ 128 1 v) (q_ρ b)) := by
  refine q_entry rfl (by decide) (Nat.le_of_ble_eq_true rfl) ?_
  refine g_lv [(0, _), (1, _), (2, _)] rfl ?_
  refine g_iload_n 1 dX8_set_0 rfl rfl ?_
  refine g_if_eq 9 4 dX8_set_1 rfl (by decide) (fun h1 => ?_) (fun h1 => ?_)
  · exact absurd h1 (by decide)
  · refine g_iload_n 5 dX8_set_4 rfl rfl ?_
    refine g_iconst 6 1 dX8_set_5 rfl (by decide) ?_
    refine g_icmp_ne 20 9 dX8_set_6 rfl (by decide) (fun h6 => ?_) (fun h6 => ?_)
    · exact absurd rfl h6
    · refine g_iload_n 10 dX8_set_9 rfl rfl ?_
      refine g_iconst 11 0 dX8_set_10 rfl (by decide) ?_
      refine g_sipush 14 600 dX8_set_11 rfl (by decide) ?_
      refine g_Si 17 [_, _, _] _ dX8_set_14 rfl m_X8_isIn l_X8_71 rfl (c_isIn _ _ _) rfl (Nat.le_of_ble_eq_true rfl) (by decide) (fun v14 μ14 ρ14 hc9 => ?_)
      obtain ⟨rfl, rfl, rfl⟩ := hc9
      refine g_goto 72 dX8_set_17 (by decide) ?_
      refine g_istore_n 73 dX8_set_72 rfl (by decide) ?_
      refine g_iload_n 74 dX8_set_73 rfl rfl ?_
      refine g_if_eq 84 77 dX8_set_74 rfl (by decide) (fun h74 => ?_) (fun h74 => ?_)
      · exact (q_b_0.mp h74 hv).elim
      · refine g_aload_n 78 dX8_set_77 rfl rfl ?_
        refine g_getR 81 _ dX8_set_78 rfl f_X8_25 (by decide) rfl rfl rfl ?_
        refine g_iload_n 82 dX8_set_81 rfl rfl ?_
        refine g_iload_n 83 dX8_set_82 rfl rfl ?_
        refine g_iast 84 dX8_set_83 rfl (by decide) rfl (vp_in_nI (n := 1) (N := 5) (by decide) (by decide)) ?_
        refine g_iload_n 85 dX8_set_84 rfl rfl ?_
        exact g_rz dX8_set_85 rfl q_b_01 rfl ⟨(q_b_t hv).symm, rfl, rfl⟩
set_option maxRecDepth 100000 in
set_option maxHeartbeats 4000000 in
theorem c_Mset_n1 {v : Int32} (hv : ¬ q_in v 0 600) : q_Ct C l FX8_set 1 142 142 [.ref (q_a C 122), .int 1, .int v] μ (q_ρ b) (q_is 0 μ (q_ρ b)) := by
  refine q_entry rfl (by decide) (Nat.le_of_ble_eq_true rfl) ?_
  refine g_lv [(0, _), (1, _), (2, _)] rfl ?_
  refine g_iload_n 1 dX8_set_0 rfl rfl ?_
  refine g_if_eq 9 4 dX8_set_1 rfl (by decide) (fun h1 => ?_) (fun h1 => ?_)
  · exact absurd h1 (by decide)
  · refine g_iload_n 5 dX8_set_4 rfl rfl ?_
    refine g_iconst 6 1 dX8_set_5 rfl (by decide) ?_
    refine g_icmp_ne 20 9 dX8_set_6 rfl (by decide) (fun h6 => ?_) (fun h6 => ?_)
    · exact absurd rfl h6
    · refine g_iload_n 10 dX8_set_9 rfl rfl ?_
      refine g_iconst 11 0 dX8_set_10 rfl (by decide) ?_
      refine g_sipush 14 600 dX8_set_11 rfl (by decide) ?_
      refine g_Si 17 [_, _, _] _ dX8_set_14 rfl m_X8_isIn l_X8_71 rfl (c_isIn _ _ _) rfl (Nat.le_of_ble_eq_true rfl) (by decide) (fun v14 μ14 ρ14 hc9 => ?_)
      obtain ⟨rfl, rfl, rfl⟩ := hc9
      refine g_goto 72 dX8_set_17 (by decide) ?_
      refine g_istore_n 73 dX8_set_72 rfl (by decide) ?_
      refine g_iload_n 74 dX8_set_73 rfl rfl ?_
      refine g_if_eq 84 77 dX8_set_74 rfl (by decide) (fun h74 => ?_) (fun h74 => ?_)
      · refine g_iload_n 85 dX8_set_84 rfl rfl ?_
        exact g_rz dX8_set_85 rfl q_b_01 rfl ⟨(q_b_f hv).symm, rfl, rfl⟩
      · exact (hv (q_b_n.mp h74)).elim
set_option maxRecDepth 100000 in
set_option maxHeartbeats 4000000 in
theorem c_Mset_y2 {v : Int32} (hv : q_in v 10 120) : q_Ct C l FX8_set 1 142 142 [.ref (q_a C 122), .int 2, .int v] μ (q_ρ b) (q_is 1 (q_up μ 128 2 v) (q_ρ b)) := by
  refine q_entry rfl (by decide) (Nat.le_of_ble_eq_true rfl) ?_
  refine g_lv [(0, _), (1, _), (2, _)] rfl ?_
  refine g_iload_n 1 dX8_set_0 rfl rfl ?_
  refine g_if_eq 9 4 dX8_set_1 rfl (by decide) (fun h1 => ?_) (fun h1 => ?_)
  · exact absurd h1 (by decide)
  · refine g_iload_n 5 dX8_set_4 rfl rfl ?_
    refine g_iconst 6 1 dX8_set_5 rfl (by decide) ?_
    refine g_icmp_ne 20 9 dX8_set_6 rfl (by decide) (fun h6 => ?_) (fun h6 => ?_)
    · refine g_iload_n 21 dX8_set_20 rfl rfl ?_
      refine g_iconst 22 2 dX8_set_21 rfl (by decide) ?_
      refine g_icmp_ne 36 25 dX8_set_22 rfl (by decide) (fun h22 => ?_) (fun h22 => ?_)
      · exact absurd rfl h22
      · refine g_iload_n 26 dX8_set_25 rfl rfl ?_
        refine g_bipush 28 10 dX8_set_26 rfl (by decide) ?_
        refine g_bipush 30 120 dX8_set_28 rfl (by decide) ?_
        refine g_Si 33 [_, _, _] _ dX8_set_30 rfl m_X8_isIn l_X8_71 rfl (c_isIn _ _ _) rfl (Nat.le_of_ble_eq_true rfl) (by decide) (fun v30 μ30 ρ30 hc9 => ?_)
        obtain ⟨rfl, rfl, rfl⟩ := hc9
        refine g_goto 72 dX8_set_33 (by decide) ?_
        refine g_istore_n 73 dX8_set_72 rfl (by decide) ?_
        refine g_iload_n 74 dX8_set_73 rfl rfl ?_
        refine g_if_eq 84 77 dX8_set_74 rfl (by decide) (fun h74 => ?_) (fun h74 => ?_)
        · exact (q_b_0.mp h74 hv).elim
        · refine g_aload_n 78 dX8_set_77 rfl rfl ?_
          refine g_getR 81 _ dX8_set_78 rfl f_X8_25 (by decide) rfl rfl rfl ?_
          refine g_iload_n 82 dX8_set_81 rfl rfl ?_
          refine g_iload_n 83 dX8_set_82 rfl rfl ?_
          refine g_iast 84 dX8_set_83 rfl (by decide) rfl (vp_in_nI (n := 2) (N := 5) (by decide) (by decide)) ?_
          refine g_iload_n 85 dX8_set_84 rfl rfl ?_
          exact g_rz dX8_set_85 rfl q_b_01 rfl ⟨(q_b_t hv).symm, rfl, rfl⟩
    · exact absurd h6 (by decide)
set_option maxRecDepth 100000 in
set_option maxHeartbeats 4000000 in
theorem c_Mset_n2 {v : Int32} (hv : ¬ q_in v 10 120) : q_Ct C l FX8_set 1 142 142 [.ref (q_a C 122), .int 2, .int v] μ (q_ρ b) (q_is 0 μ (q_ρ b)) := by
  refine q_entry rfl (by decide) (Nat.le_of_ble_eq_true rfl) ?_
  refine g_lv [(0, _), (1, _), (2, _)] rfl ?_
  refine g_iload_n 1 dX8_set_0 rfl rfl ?_
  refine g_if_eq 9 4 dX8_set_1 rfl (by decide) (fun h1 => ?_) (fun h1 => ?_)
  · exact absurd h1 (by decide)
  · refine g_iload_n 5 dX8_set_4 rfl rfl ?_
    refine g_iconst 6 1 dX8_set_5 rfl (by decide) ?_
    refine g_icmp_ne 20 9 dX8_set_6 rfl (by decide) (fun h6 => ?_) (fun h6 => ?_)
    · refine g_iload_n 21 dX8_set_20 rfl rfl ?_
      refine g_iconst 22 2 dX8_set_21 rfl (by decide) ?_
      refine g_icmp_ne 36 25 dX8_set_22 rfl (by decide) (fun h22 => ?_) (fun h22 => ?_)
      · exact absurd rfl h22
      · refine g_iload_n 26 dX8_set_25 rfl rfl ?_
        refine g_bipush 28 10 dX8_set_26 rfl (by decide) ?_
        refine g_bipush 30 120 dX8_set_28 rfl (by decide) ?_
        refine g_Si 33 [_, _, _] _ dX8_set_30 rfl m_X8_isIn l_X8_71 rfl (c_isIn _ _ _) rfl (Nat.le_of_ble_eq_true rfl) (by decide) (fun v30 μ30 ρ30 hc9 => ?_)
        obtain ⟨rfl, rfl, rfl⟩ := hc9
        refine g_goto 72 dX8_set_33 (by decide) ?_
        refine g_istore_n 73 dX8_set_72 rfl (by decide) ?_
        refine g_iload_n 74 dX8_set_73 rfl rfl ?_
        refine g_if_eq 84 77 dX8_set_74 rfl (by decide) (fun h74 => ?_) (fun h74 => ?_)
        · refine g_iload_n 85 dX8_set_84 rfl rfl ?_
          exact g_rz dX8_set_85 rfl q_b_01 rfl ⟨(q_b_f hv).symm, rfl, rfl⟩
        · exact (hv (q_b_n.mp h74)).elim
    · exact absurd h6 (by decide)
set_option maxRecDepth 100000 in
set_option maxHeartbeats 4000000 in
theorem c_Mset_y3 {v : Int32} (hv : q_in v 0 5000) : q_Ct C l FX8_set 1 142 142 [.ref (q_a C 122), .int 3, .int v] μ (q_ρ b) (q_is 1 (q_up μ 128 3 v) (q_ρ b)) := by
  refine q_entry rfl (by decide) (Nat.le_of_ble_eq_true rfl) ?_
  refine g_lv [(0, _), (1, _), (2, _)] rfl ?_
  refine g_iload_n 1 dX8_set_0 rfl rfl ?_
  refine g_if_eq 9 4 dX8_set_1 rfl (by decide) (fun h1 => ?_) (fun h1 => ?_)
  · exact absurd h1 (by decide)
  · refine g_iload_n 5 dX8_set_4 rfl rfl ?_
    refine g_iconst 6 1 dX8_set_5 rfl (by decide) ?_
    refine g_icmp_ne 20 9 dX8_set_6 rfl (by decide) (fun h6 => ?_) (fun h6 => ?_)
    · refine g_iload_n 21 dX8_set_20 rfl rfl ?_
      refine g_iconst 22 2 dX8_set_21 rfl (by decide) ?_
      refine g_icmp_ne 36 25 dX8_set_22 rfl (by decide) (fun h22 => ?_) (fun h22 => ?_)
      · refine g_iload_n 37 dX8_set_36 rfl rfl ?_
        refine g_iconst 38 3 dX8_set_37 rfl (by decide) ?_
        refine g_icmp_ne 52 41 dX8_set_38 rfl (by decide) (fun h38 => ?_) (fun h38 => ?_)
        · exact absurd rfl h38
        · refine g_iload_n 42 dX8_set_41 rfl rfl ?_
          refine g_iconst 43 0 dX8_set_42 rfl (by decide) ?_
          refine g_sipush 46 5000 dX8_set_43 rfl (by decide) ?_
          refine g_Si 49 [_, _, _] _ dX8_set_46 rfl m_X8_isIn l_X8_71 rfl (c_isIn _ _ _) rfl (Nat.le_of_ble_eq_true rfl) (by decide) (fun v46 μ46 ρ46 hc9 => ?_)
          obtain ⟨rfl, rfl, rfl⟩ := hc9
          refine g_goto 72 dX8_set_49 (by decide) ?_
          refine g_istore_n 73 dX8_set_72 rfl (by decide) ?_
          refine g_iload_n 74 dX8_set_73 rfl rfl ?_
          refine g_if_eq 84 77 dX8_set_74 rfl (by decide) (fun h74 => ?_) (fun h74 => ?_)
          · exact (q_b_0.mp h74 hv).elim
          · refine g_aload_n 78 dX8_set_77 rfl rfl ?_
            refine g_getR 81 _ dX8_set_78 rfl f_X8_25 (by decide) rfl rfl rfl ?_
            refine g_iload_n 82 dX8_set_81 rfl rfl ?_
            refine g_iload_n 83 dX8_set_82 rfl rfl ?_
            refine g_iast 84 dX8_set_83 rfl (by decide) rfl (vp_in_nI (n := 3) (N := 5) (by decide) (by decide)) ?_
            refine g_iload_n 85 dX8_set_84 rfl rfl ?_
            exact g_rz dX8_set_85 rfl q_b_01 rfl ⟨(q_b_t hv).symm, rfl, rfl⟩
      · exact absurd h22 (by decide)
    · exact absurd h6 (by decide)
set_option maxRecDepth 100000 in
set_option maxHeartbeats 4000000 in
theorem c_Mset_n3 {v : Int32} (hv : ¬ q_in v 0 5000) : q_Ct C l FX8_set 1 142 142 [.ref (q_a C 122), .int 3, .int v] μ (q_ρ b) (q_is 0 μ (q_ρ b)) := by
  refine q_entry rfl (by decide) (Nat.le_of_ble_eq_true rfl) ?_
  refine g_lv [(0, _), (1, _), (2, _)] rfl ?_
  refine g_iload_n 1 dX8_set_0 rfl rfl ?_
  refine g_if_eq 9 4 dX8_set_1 rfl (by decide) (fun h1 => ?_) (fun h1 => ?_)
  · exact absurd h1 (by decide)
  · refine g_iload_n 5 dX8_set_4 rfl rfl ?_
    refine g_iconst 6 1 dX8_set_5 rfl (by decide) ?_
    refine g_icmp_ne 20 9 dX8_set_6 rfl (by decide) (fun h6 => ?_) (fun h6 => ?_)
    · refine g_iload_n 21 dX8_set_20 rfl rfl ?_
      refine g_iconst 22 2 dX8_set_21 rfl (by decide) ?_
      refine g_icmp_ne 36 25 dX8_set_22 rfl (by decide) (fun h22 => ?_) (fun h22 => ?_)
      · refine g_iload_n 37 dX8_set_36 rfl rfl ?_
        refine g_iconst 38 3 dX8_set_37 rfl (by decide) ?_
        refine g_icmp_ne 52 41 dX8_set_38 rfl (by decide) (fun h38 => ?_) (fun h38 => ?_)
        · exact absurd rfl h38
        · refine g_iload_n 42 dX8_set_41 rfl rfl ?_
          refine g_iconst 43 0 dX8_set_42 rfl (by decide) ?_
          refine g_sipush 46 5000 dX8_set_43 rfl (by decide) ?_
          refine g_Si 49 [_, _, _] _ dX8_set_46 rfl m_X8_isIn l_X8_71 rfl (c_isIn _ _ _) rfl (Nat.le_of_ble_eq_true rfl) (by decide) (fun v46 μ46 ρ46 hc9 => ?_)
          obtain ⟨rfl, rfl, rfl⟩ := hc9
          refine g_goto 72 dX8_set_49 (by decide) ?_
          refine g_istore_n 73 dX8_set_72 rfl (by decide) ?_
          refine g_iload_n 74 dX8_set_73 rfl rfl ?_
          refine g_if_eq 84 77 dX8_set_74 rfl (by decide) (fun h74 => ?_) (fun h74 => ?_)
          · refine g_iload_n 85 dX8_set_84 rfl rfl ?_
            exact g_rz dX8_set_85 rfl q_b_01 rfl ⟨(q_b_f hv).symm, rfl, rfl⟩
          · exact (hv (q_b_n.mp h74)).elim
      · exact absurd h22 (by decide)
    · exact absurd h6 (by decide)
set_option maxRecDepth 100000 in
set_option maxHeartbeats 4000000 in
theorem c_Mset_y4 {v : Int32} (hv : q_in v 0 50) : q_Ct C l FX8_set 1 142 142 [.ref (q_a C 122), .int 4, .int v] μ (q_ρ b) (q_is 1 (q_up μ 128 4 v) (q_ρ b)) := by
  refine q_entry rfl (by decide) (Nat.le_of_ble_eq_true rfl) ?_
  refine g_lv [(0, _), (1, _), (2, _)] rfl ?_
  refine g_iload_n 1 dX8_set_0 rfl rfl ?_
  refine g_if_eq 9 4 dX8_set_1 rfl (by decide) (fun h1 => ?_) (fun h1 => ?_)
  · exact absurd h1 (by decide)
  · refine g_iload_n 5 dX8_set_4 rfl rfl ?_
    refine g_iconst 6 1 dX8_set_5 rfl (by decide) ?_
    refine g_icmp_ne 20 9 dX8_set_6 rfl (by decide) (fun h6 => ?_) (fun h6 => ?_)
    · refine g_iload_n 21 dX8_set_20 rfl rfl ?_
      refine g_iconst 22 2 dX8_set_21 rfl (by decide) ?_
      refine g_icmp_ne 36 25 dX8_set_22 rfl (by decide) (fun h22 => ?_) (fun h22 => ?_)
      · refine g_iload_n 37 dX8_set_36 rfl rfl ?_
        refine g_iconst 38 3 dX8_set_37 rfl (by decide) ?_
        refine g_icmp_ne 52 41 dX8_set_38 rfl (by decide) (fun h38 => ?_) (fun h38 => ?_)
        · refine g_iload_n 53 dX8_set_52 rfl rfl ?_
          refine g_iconst 54 4 dX8_set_53 rfl (by decide) ?_
          refine g_icmp_ne 71 57 dX8_set_54 rfl (by decide) (fun h54 => ?_) (fun h54 => ?_)
          · exact absurd rfl h54
          · refine g_iload_n 58 dX8_set_57 rfl rfl ?_
            refine g_iconst 59 0 dX8_set_58 rfl (by decide) ?_
            refine g_bipush 61 50 dX8_set_59 rfl (by decide) ?_
            refine g_Si 64 [_, _, _] _ dX8_set_61 rfl m_X8_isIn l_X8_71 rfl (c_isIn _ _ _) rfl (Nat.le_of_ble_eq_true rfl) (by decide) (fun v61 μ61 ρ61 hc9 => ?_)
            obtain ⟨rfl, rfl, rfl⟩ := hc9
            refine g_if_eq 71 67 dX8_set_64 rfl (by decide) (fun h64 => ?_) (fun h64 => ?_)
            · exact (q_b_0.mp h64 hv).elim
            · refine g_iconst 68 1 dX8_set_67 rfl (by decide) ?_
              refine g_goto 72 dX8_set_68 (by decide) ?_
              refine g_istore_n 73 dX8_set_72 rfl (by decide) ?_
              refine g_iload_n 74 dX8_set_73 rfl rfl ?_
              refine g_if_eq 84 77 dX8_set_74 rfl (by decide) (fun h74 => ?_) (fun h74 => ?_)
              · exact absurd h74 (by decide)
              · refine g_aload_n 78 dX8_set_77 rfl rfl ?_
                refine g_getR 81 _ dX8_set_78 rfl f_X8_25 (by decide) rfl rfl rfl ?_
                refine g_iload_n 82 dX8_set_81 rfl rfl ?_
                refine g_iload_n 83 dX8_set_82 rfl rfl ?_
                refine g_iast 84 dX8_set_83 rfl (by decide) rfl (vp_in_nI (n := 4) (N := 5) (by decide) (by decide)) ?_
                refine g_iload_n 85 dX8_set_84 rfl rfl ?_
                exact g_rz dX8_set_85 rfl (Or.inr rfl) rfl ⟨rfl, rfl, rfl⟩
        · exact absurd h38 (by decide)
      · exact absurd h22 (by decide)
    · exact absurd h6 (by decide)
set_option maxRecDepth 100000 in
set_option maxHeartbeats 4000000 in
theorem c_Mset_n4 {v : Int32} (hv : ¬ q_in v 0 50) : q_Ct C l FX8_set 1 142 142 [.ref (q_a C 122), .int 4, .int v] μ (q_ρ b) (q_is 0 μ (q_ρ b)) := by
  refine q_entry rfl (by decide) (Nat.le_of_ble_eq_true rfl) ?_
  refine g_lv [(0, _), (1, _), (2, _)] rfl ?_
  refine g_iload_n 1 dX8_set_0 rfl rfl ?_
  refine g_if_eq 9 4 dX8_set_1 rfl (by decide) (fun h1 => ?_) (fun h1 => ?_)
  · exact absurd h1 (by decide)
  · refine g_iload_n 5 dX8_set_4 rfl rfl ?_
    refine g_iconst 6 1 dX8_set_5 rfl (by decide) ?_
    refine g_icmp_ne 20 9 dX8_set_6 rfl (by decide) (fun h6 => ?_) (fun h6 => ?_)
    · refine g_iload_n 21 dX8_set_20 rfl rfl ?_
      refine g_iconst 22 2 dX8_set_21 rfl (by decide) ?_
      refine g_icmp_ne 36 25 dX8_set_22 rfl (by decide) (fun h22 => ?_) (fun h22 => ?_)
      · refine g_iload_n 37 dX8_set_36 rfl rfl ?_
        refine g_iconst 38 3 dX8_set_37 rfl (by decide) ?_
        refine g_icmp_ne 52 41 dX8_set_38 rfl (by decide) (fun h38 => ?_) (fun h38 => ?_)
        · refine g_iload_n 53 dX8_set_52 rfl rfl ?_
          refine g_iconst 54 4 dX8_set_53 rfl (by decide) ?_
          refine g_icmp_ne 71 57 dX8_set_54 rfl (by decide) (fun h54 => ?_) (fun h54 => ?_)
          · exact absurd rfl h54
          · refine g_iload_n 58 dX8_set_57 rfl rfl ?_
            refine g_iconst 59 0 dX8_set_58 rfl (by decide) ?_
            refine g_bipush 61 50 dX8_set_59 rfl (by decide) ?_
            refine g_Si 64 [_, _, _] _ dX8_set_61 rfl m_X8_isIn l_X8_71 rfl (c_isIn _ _ _) rfl (Nat.le_of_ble_eq_true rfl) (by decide) (fun v61 μ61 ρ61 hc9 => ?_)
            obtain ⟨rfl, rfl, rfl⟩ := hc9
            refine g_if_eq 71 67 dX8_set_64 rfl (by decide) (fun h64 => ?_) (fun h64 => ?_)
            · refine g_iconst 72 0 dX8_set_71 rfl (by decide) ?_
              refine g_istore_n 73 dX8_set_72 rfl (by decide) ?_
              refine g_iload_n 74 dX8_set_73 rfl rfl ?_
              refine g_if_eq 84 77 dX8_set_74 rfl (by decide) (fun h74 => ?_) (fun h74 => ?_)
              · refine g_iload_n 85 dX8_set_84 rfl rfl ?_
                exact g_rz dX8_set_85 rfl (Or.inl rfl) rfl ⟨rfl, rfl, rfl⟩
              · exact absurd rfl h74
            · exact (hv (q_b_n.mp h64)).elim
        · exact absurd h38 (by decide)
      · exact absurd h22 (by decide)
    · exact absurd h6 (by decide)
set_option maxRecDepth 100000 in
set_option maxHeartbeats 4000000 in
theorem c_Mset_o {k v : Int32} (h : ¬ q_in k 0 4) : q_Ct C l FX8_set 1 142 142 [.ref (q_a C 122), .int k, .int v] μ (q_ρ b) (q_is 0 μ (q_ρ b)) := by
  refine q_entry rfl (by decide) (Nat.le_of_ble_eq_true rfl) ?_
  refine g_lv [(0, _), (1, _), (2, _)] rfl ?_
  refine g_iload_n 1 dX8_set_0 rfl rfl ?_
  refine g_if_eq 9 4 dX8_set_1 rfl (by decide) (fun h1 => ?_) (fun h1 => ?_)
  · exact (h ⟨by rw [h1]; decide, by rw [h1]; decide⟩).elim
  · refine g_iload_n 5 dX8_set_4 rfl rfl ?_
    refine g_iconst 6 1 dX8_set_5 rfl (by decide) ?_
    refine g_icmp_ne 20 9 dX8_set_6 rfl (by decide) (fun h6 => ?_) (fun h6 => ?_)
    · refine g_iload_n 21 dX8_set_20 rfl rfl ?_
      refine g_iconst 22 2 dX8_set_21 rfl (by decide) ?_
      refine g_icmp_ne 36 25 dX8_set_22 rfl (by decide) (fun h22 => ?_) (fun h22 => ?_)
      · refine g_iload_n 37 dX8_set_36 rfl rfl ?_
        refine g_iconst 38 3 dX8_set_37 rfl (by decide) ?_
        refine g_icmp_ne 52 41 dX8_set_38 rfl (by decide) (fun h38 => ?_) (fun h38 => ?_)
        · refine g_iload_n 53 dX8_set_52 rfl rfl ?_
          refine g_iconst 54 4 dX8_set_53 rfl (by decide) ?_
          refine g_icmp_ne 71 57 dX8_set_54 rfl (by decide) (fun h54 => ?_) (fun h54 => ?_)
          · refine g_iconst 72 0 dX8_set_71 rfl (by decide) ?_
            refine g_istore_n 73 dX8_set_72 rfl (by decide) ?_
            refine g_iload_n 74 dX8_set_73 rfl rfl ?_
            refine g_if_eq 84 77 dX8_set_74 rfl (by decide) (fun h74 => ?_) (fun h74 => ?_)
            · refine g_iload_n 85 dX8_set_84 rfl rfl ?_
              exact g_rz dX8_set_85 rfl (Or.inl rfl) rfl ⟨rfl, rfl, rfl⟩
            · exact absurd rfl h74
          · exact (h ⟨by rw [h54]; decide, by rw [h54]; decide⟩).elim
        · exact (h ⟨by rw [h38]; decide, by rw [h38]; decide⟩).elim
      · exact (h ⟨by rw [h22]; decide, by rw [h22]; decide⟩).elim
    · exact (h ⟨by rw [h6]; decide, by rw [h6]; decide⟩).elim
set_option maxRecDepth 100000 in
set_option maxHeartbeats 4000000 in
theorem c_Mend_y {k : Int32} (h : q_in k 0 (μ 122 12)) : q_Ct C l FX8_end 1 142 142 [.ref (q_a C 122), .int k] μ (q_ρ b) (q_is 1 (q_up μ 122 12 k) (q_ρ b)) := by
  refine q_entry rfl (by decide) (Nat.le_of_ble_eq_true rfl) ?_
  refine g_lv [(0, _), (1, _)] rfl ?_
  refine g_iload_n 1 dX8_end_0 rfl rfl ?_
  refine g_iconst 2 0 dX8_end_1 rfl (by decide) ?_
  refine g_aload_n 3 dX8_end_2 rfl rfl ?_
  refine g_getI 6 dX8_end_3 rfl f_X8_92 (by decide) rfl rfl ?_
  refine g_Si 9 [_, _, _] _ dX8_end_6 rfl m_X8_isIn l_X8_71 rfl (c_isIn _ _ _) rfl (Nat.le_of_ble_eq_true rfl) (by decide) (fun v6 μ6 ρ6 hc9 => ?_)
  obtain ⟨rfl, rfl, rfl⟩ := hc9
  refine g_if_ne 14 12 dX8_end_9 rfl (by decide) (fun h9 => ?_) (fun h9 => ?_)
  · refine g_aload_n 15 dX8_end_14 rfl rfl ?_
    refine g_iload_n 16 dX8_end_15 rfl rfl ?_
    refine g_putI 19 dX8_end_16 rfl f_X8_92 (by decide) rfl rfl (Or.inl rfl) ?_
    refine g_iconst 20 1 dX8_end_19 rfl (by decide) ?_
    exact g_rz dX8_end_20 rfl (by first | exact Or.inl rfl | exact Or.inr rfl | assumption) rfl ⟨rfl, rfl, rfl⟩
  · exact (q_b_0.mp h9 h).elim
set_option maxRecDepth 100000 in
set_option maxHeartbeats 4000000 in
theorem c_Mend_n {k : Int32} (h : ¬ q_in k 0 (μ 122 12)) : q_Ct C l FX8_end 1 142 142 [.ref (q_a C 122), .int k] μ (q_ρ b) (q_is 0 μ (q_ρ b)) := by
  refine q_entry rfl (by decide) (Nat.le_of_ble_eq_true rfl) ?_
  refine g_lv [(0, _), (1, _)] rfl ?_
  refine g_iload_n 1 dX8_end_0 rfl rfl ?_
  refine g_iconst 2 0 dX8_end_1 rfl (by decide) ?_
  refine g_aload_n 3 dX8_end_2 rfl rfl ?_
  refine g_getI 6 dX8_end_3 rfl f_X8_92 (by decide) rfl rfl ?_
  refine g_Si 9 [_, _, _] _ dX8_end_6 rfl m_X8_isIn l_X8_71 rfl (c_isIn _ _ _) rfl (Nat.le_of_ble_eq_true rfl) (by decide) (fun v6 μ6 ρ6 hc9 => ?_)
  obtain ⟨rfl, rfl, rfl⟩ := hc9
  refine g_if_ne 14 12 dX8_end_9 rfl (by decide) (fun h9 => ?_) (fun h9 => ?_)
  · exact (h (q_b_n.mp h9)).elim
  · refine g_iconst 13 0 dX8_end_12 rfl (by decide) ?_
    exact g_rz dX8_end_13 rfl (by first | exact Or.inl rfl | exact Or.inr rfl | assumption) rfl ⟨rfl, rfl, rfl⟩
set_option maxRecDepth 100000 in
set_option maxHeartbeats 4000000 in
theorem c_Mfault (k : Int32) : q_Ct C l FX8_fault 0 142 142 [.ref (q_a C 122), .int k] μ (q_ρ b) (q_is (if k = 0 then μ 122 19 else if k = 1 then μ 122 21 else -1) μ (q_ρ b)) := by
  refine q_entry rfl (by decide) (Nat.le_of_ble_eq_true rfl) ?_
  refine g_lv [(0, _), (1, _)] rfl ?_
  refine g_iload_n 1 dX8_fault_0 rfl rfl ?_
  refine g_if_ne 11 4 dX8_fault_1 rfl (by decide) (fun h1 => ?_) (fun h1 => ?_)
  · refine g_iload_n 12 dX8_fault_11 rfl rfl ?_
    refine g_iconst 13 1 dX8_fault_12 rfl (by decide) ?_
    refine g_icmp_ne 23 16 dX8_fault_13 rfl (by decide) (fun h13 => ?_) (fun h13 => ?_)
    · refine g_iconst 24 (-1) dX8_fault_23 rfl (by decide) ?_
      exact g_ri dX8_fault_24 rfl rfl ⟨by rw [if_neg h1, if_neg h13], rfl, rfl⟩
    · refine g_aload_n 17 dX8_fault_16 rfl rfl ?_
      refine g_getI 20 dX8_fault_17 rfl f_X8_43 (by decide) rfl rfl ?_
      refine g_goto 24 dX8_fault_20 (by decide) ?_
      exact g_ri dX8_fault_24 rfl rfl ⟨by rw [if_neg h1, if_pos h13], rfl, rfl⟩
  · refine g_aload_n 5 dX8_fault_4 rfl rfl ?_
    refine g_getI 8 dX8_fault_5 rfl f_X8_154 (by decide) rfl rfl ?_
    refine g_goto 24 dX8_fault_8 (by decide) ?_
    exact g_ri dX8_fault_24 rfl rfl ⟨if_pos h1, rfl, rfl⟩
set_option maxRecDepth 100000 in
set_option maxHeartbeats 4000000 in
theorem lp_all  : ∀ k i, i + k = 7 → q_G C l FX8_all 0 142 142 (q_is (q_sum (μ 129) 7) μ (q_ρ b)) 142 μ (q_ρ b) [(0, .ref (q_a C 122)), (1, .int (q_sum (μ 129) i)), (2, .int (nI i))] [] 4 := by
  intro k
  induction k with
  | zero =>
    intro i hi
    refine g_iload_n 5 dX8_all_4 rfl rfl ?_
    refine g_bipush 7 7 dX8_all_5 rfl (by decide) ?_
    refine g_icmp_ge 25 10 dX8_all_7 rfl (by decide) (fun h7 => ?_) (fun h7 => ?_)
    · refine g_iload_n 26 dX8_all_25 rfl rfl ?_
      exact g_ri dX8_all_26 rfl rfl ⟨by rw [show i = 7 by omega], rfl, rfl⟩
    · exact absurd (nI_le (a := 7) (b := i) (by omega) (by omega)) h7
  | succ k ih =>
    intro i hi
    refine g_iload_n 5 dX8_all_4 rfl rfl ?_
    refine g_bipush 7 7 dX8_all_5 rfl (by decide) ?_
    refine g_icmp_ge 25 10 dX8_all_7 rfl (by decide) (fun h7 => ?_) (fun h7 => ?_)
    · exact absurd h7 (nI_ge (a := i) (b := 7) (by omega) (by omega))
    · refine g_iload_n 11 dX8_all_10 rfl rfl ?_
      refine g_aload_n 12 dX8_all_11 rfl rfl ?_
      refine g_getR 15 _ dX8_all_12 rfl f_X8_28 (by decide) rfl rfl rfl ?_
      refine g_iload_n 16 dX8_all_15 rfl rfl ?_
      refine g_iald 17 dX8_all_16 rfl (by decide) rfl (vp_in_nI (by omega) (by omega)) ?_
      refine g_iadd 18 dX8_all_17 rfl ?_
      refine g_istore_n 19 dX8_all_18 rfl (by decide) ?_
      refine g_iinc 22 (_ + 1) dX8_all_19 rfl rfl rfl (by decide) ?_
      refine g_goto 4 dX8_all_22 (by decide) ?_
      rw [nI_clamp (show i < 2 ^ 31 by omega), nI_1]
      refine g_lv [(0, _), (1, _), (2, _)] rfl ?_
      exact ih (i + 1) (by omega)
set_option maxRecDepth 100000 in
set_option maxHeartbeats 4000000 in
theorem c_all  : q_Ct C l FX8_all 0 142 142 [.ref (q_a C 122)] μ (q_ρ b) (q_is (q_sum (μ 129) 7) μ (q_ρ b)) := by
  refine q_entry rfl (by decide) (Nat.le_of_ble_eq_true rfl) ?_
  refine g_lv [(0, _)] rfl ?_
  refine g_iconst 1 0 dX8_all_0 rfl (by decide) ?_
  refine g_istore_n 2 dX8_all_1 rfl (by decide) ?_
  refine g_iconst 3 0 dX8_all_2 rfl (by decide) ?_
  refine g_istore_n 4 dX8_all_3 rfl (by decide) ?_
  refine g_lv [(0, _), (1, .int 0), (2, .int 0)] rfl ?_
  exact lp_all 7 0 (by omega)
set_option maxRecDepth 100000 in
set_option maxHeartbeats 4000000 in
theorem c_Mlook_0  : q_Ct C l FX8_look 1 142 142 [.ref (q_a C 122), .int 0] μ (q_ρ b) (q_is (μ 122 0) μ (q_ρ b)) := by
  refine q_entry rfl (by decide) (Nat.le_of_ble_eq_true rfl) ?_
  refine g_lv [(0, _), (1, _)] rfl ?_
  refine g_iconst 1 0 dX8_look_0 rfl (by decide) ?_
  refine g_istore_n 2 dX8_look_1 rfl (by decide) ?_
  refine g_iload_n 3 dX8_look_2 rfl rfl ?_
  refine g_tabIn 28 dX8_look_3 (by decide) (by decide) rfl (by decide) ?_
  refine g_aload_n 29 dX8_look_28 rfl rfl ?_
  refine g_getI 32 dX8_look_29 rfl f_X8_75 (by decide) rfl rfl ?_
  exact g_ri dX8_look_32 rfl rfl ⟨rfl, rfl, rfl⟩
set_option maxRecDepth 100000 in
set_option maxHeartbeats 4000000 in
theorem c_Mlook_1  : q_Ct C l FX8_look 1 142 142 [.ref (q_a C 122), .int 1] μ (q_ρ b) (q_is (q_sum (μ 129) 7) μ (q_ρ b)) := by
  refine q_entry rfl (by decide) (Nat.le_of_ble_eq_true rfl) ?_
  refine g_lv [(0, _), (1, _)] rfl ?_
  refine g_iconst 1 0 dX8_look_0 rfl (by decide) ?_
  refine g_istore_n 2 dX8_look_1 rfl (by decide) ?_
  refine g_iload_n 3 dX8_look_2 rfl rfl ?_
  refine g_tabIn 33 dX8_look_3 (by decide) (by decide) rfl (by decide) ?_
  refine g_aload_n 34 dX8_look_33 rfl rfl ?_
  refine g_Vi 37 [] _ dX8_look_34 rfl m_X8_all l_X8_157 rfl rfl rfl (by decide) c_all rfl (Nat.le_of_ble_eq_true rfl) (by decide) (fun v34 μ34 ρ34 hc9 => ?_)
  obtain ⟨rfl, rfl, rfl⟩ := hc9
  exact g_ri dX8_look_37 rfl rfl ⟨rfl, rfl, rfl⟩
set_option maxRecDepth 100000 in
set_option maxHeartbeats 4000000 in
theorem lp_Mlook  : ∀ k i, i + k = 7 → q_G C l FX8_look 1 142 142 (q_is (q_sum (fun j => μ 123 (j + 1)) 7) μ (q_ρ b)) 142 μ (q_ρ b) [(0, .ref (q_a C 122)), (2, .int (q_sum (fun j => μ 123 (j + 1)) i)), (3, .int (nI (i + 1)))] [] 40 := by
  intro k
  induction k with
  | zero =>
    intro i hi
    refine g_iload_n 41 dX8_look_40 rfl rfl ?_
    refine g_bipush 43 8 dX8_look_41 rfl (by decide) ?_
    refine g_icmp_ge 61 46 dX8_look_43 rfl (by decide) (fun h43 => ?_) (fun h43 => ?_)
    · refine g_iload_n 62 dX8_look_61 rfl rfl ?_
      exact g_ri dX8_look_62 rfl rfl ⟨by rw [show i = 7 by omega], rfl, rfl⟩
    · exact absurd (nI_le (a := 8) (b := i + 1) (by omega) (by omega)) h43
  | succ k ih =>
    intro i hi
    refine g_iload_n 41 dX8_look_40 rfl rfl ?_
    refine g_bipush 43 8 dX8_look_41 rfl (by decide) ?_
    refine g_icmp_ge 61 46 dX8_look_43 rfl (by decide) (fun h43 => ?_) (fun h43 => ?_)
    · exact absurd h43 (nI_ge (a := i + 1) (b := 8) (by omega) (by omega))
    · refine g_iload_n 47 dX8_look_46 rfl rfl ?_
      refine g_aload_n 48 dX8_look_47 rfl rfl ?_
      refine g_getR 51 _ dX8_look_48 rfl f_X8_7 (by decide) rfl rfl rfl ?_
      refine g_iload_n 52 dX8_look_51 rfl rfl ?_
      refine g_iald 53 dX8_look_52 rfl (by decide) rfl (vp_in_nI (by omega) (by omega)) ?_
      refine g_iadd 54 dX8_look_53 rfl ?_
      refine g_istore_n 55 dX8_look_54 rfl (by decide) ?_
      refine g_iinc 58 (_ + 1) dX8_look_55 rfl rfl rfl (by decide) ?_
      refine g_goto 40 dX8_look_58 (by decide) ?_
      rw [nI_clamp (show i + 1 < 2 ^ 31 by omega), nI_1]
      refine g_lv [(0, _), (2, _), (3, _)] rfl ?_
      exact ih (i + 1) (by omega)
set_option maxRecDepth 100000 in
set_option maxHeartbeats 4000000 in
theorem c_Mlook_2  : q_Ct C l FX8_look 1 142 142 [.ref (q_a C 122), .int 2] μ (q_ρ b) (q_is (q_sum (fun j => μ 123 (j + 1)) 7) μ (q_ρ b)) := by
  refine q_entry rfl (by decide) (Nat.le_of_ble_eq_true rfl) ?_
  refine g_lv [(0, _), (1, _)] rfl ?_
  refine g_iconst 1 0 dX8_look_0 rfl (by decide) ?_
  refine g_istore_n 2 dX8_look_1 rfl (by decide) ?_
  refine g_iload_n 3 dX8_look_2 rfl rfl ?_
  refine g_tabIn 38 dX8_look_3 (by decide) (by decide) rfl (by decide) ?_
  refine g_iconst 39 1 dX8_look_38 rfl (by decide) ?_
  refine g_istore_n 40 dX8_look_39 rfl (by decide) ?_
  refine g_lv [(0, _), (2, .int 0), (3, .int 1)] rfl ?_
  exact lp_Mlook 7 0 (by omega)
set_option maxRecDepth 100000 in
set_option maxHeartbeats 4000000 in
theorem c_Mlook_s {k : Nat} (hk : k < 5) : q_Ct C l FX8_look 1 142 142 [.ref (q_a C 122), .int (nI (k + 3))] μ (q_ρ b) (q_is (μ 128 k) μ (q_ρ b)) := by
  refine q_entry rfl (by decide) (Nat.le_of_ble_eq_true rfl) ?_
  refine g_lv [(0, _), (1, _)] rfl ?_
  refine g_iconst 1 0 dX8_look_0 rfl (by decide) ?_
  refine g_istore_n 2 dX8_look_1 rfl (by decide) ?_
  refine g_iload_n 3 dX8_look_2 rfl rfl ?_
  refine g_tabOut 63 dX8_look_3 (Or.inr (by rw [nI_toInt (by omega)]; omega)) (by decide) ?_
  refine g_iload_n 64 dX8_look_63 rfl rfl ?_
  refine g_iconst 65 3 dX8_look_64 rfl (by decide) ?_
  refine g_bipush 67 7 dX8_look_65 rfl (by decide) ?_
  refine g_Si 70 [_, _, _] _ dX8_look_67 rfl m_X8_isIn l_X8_71 rfl (c_isIn _ _ _) rfl (Nat.le_of_ble_eq_true rfl) (by decide) (fun v67 μ67 ρ67 hc9 => ?_)
  obtain ⟨rfl, rfl, rfl⟩ := hc9
  refine g_if_eq 84 73 dX8_look_70 rfl (by decide) (fun h70 => ?_) (fun h70 => ?_)
  · exact (q_b_0.mp h70 ⟨(nI_leI (a := 3) (b := k + 3) (by omega) (by omega)).mpr (by omega), (nI_leI (a := k + 3) (b := 7) (by omega) (by omega)).mpr (by omega)⟩).elim
  · refine g_aload_n 74 dX8_look_73 rfl rfl ?_
    refine g_getR 77 _ dX8_look_74 rfl f_X8_25 (by decide) rfl rfl rfl ?_
    refine g_iload_n 78 dX8_look_77 rfl rfl ?_
    refine g_iconst 79 3 dX8_look_78 rfl (by decide) ?_
    refine g_isub 80 dX8_look_79 rfl ?_
    refine g_iald 81 dX8_look_80 rfl (by decide) rfl (by rw [show nI (k + 3) - 3 = nI k from pk_sub (a := k + 3) (b := 3) (by omega)]; exact vp_in_nI hk (by omega)) ?_
    rw [show nI (k + 3) - 3 = nI k from pk_sub (a := k + 3) (b := 3) (by omega), nI_clamp (show k < 2 ^ 31 by omega)]
    refine g_goto 85 dX8_look_81 (by decide) ?_
    exact g_ri dX8_look_85 rfl rfl ⟨rfl, rfl, rfl⟩
set_option maxRecDepth 100000 in
set_option maxHeartbeats 4000000 in
theorem c_Mlook_n {k : Int32} (h : ¬ q_in k 0 7) : q_Ct C l FX8_look 1 142 142 [.ref (q_a C 122), .int k] μ (q_ρ b) (q_is (-1) μ (q_ρ b)) := by
  refine q_entry rfl (by decide) (Nat.le_of_ble_eq_true rfl) ?_
  refine g_lv [(0, _), (1, _)] rfl ?_
  refine g_iconst 1 0 dX8_look_0 rfl (by decide) ?_
  refine g_istore_n 2 dX8_look_1 rfl (by decide) ?_
  refine g_iload_n 3 dX8_look_2 rfl rfl ?_
  have h9 : k.toInt < 0 ∨ 2 < k.toInt := by
    have e1 : q_in k 0 7 ↔ ((0 : Int32).toInt ≤ k.toInt ∧ k.toInt ≤ (7 : Int32).toInt) := by simp only [q_in, Int32.le_iff_toInt_le]
    rw [e1] at h
    have e2 : (0 : Int32).toInt = 0 := rfl
    have e3 : (7 : Int32).toInt = 7 := rfl
    omega
  refine g_tabOut 63 dX8_look_3 h9 (by decide) ?_
  refine g_iload_n 64 dX8_look_63 rfl rfl ?_
  refine g_iconst 65 3 dX8_look_64 rfl (by decide) ?_
  refine g_bipush 67 7 dX8_look_65 rfl (by decide) ?_
  refine g_Si 70 [_, _, _] _ dX8_look_67 rfl m_X8_isIn l_X8_71 rfl (c_isIn _ _ _) rfl (Nat.le_of_ble_eq_true rfl) (by decide) (fun v67 μ67 ρ67 hc9 => ?_)
  obtain ⟨rfl, rfl, rfl⟩ := hc9
  refine g_if_eq 84 73 dX8_look_70 rfl (by decide) (fun h70 => ?_) (fun h70 => ?_)
  · refine g_iconst 85 (-1) dX8_look_84 rfl (by decide) ?_
    exact g_ri dX8_look_85 rfl rfl ⟨rfl, rfl, rfl⟩
  · exact (h ⟨Int32.le_trans (by decide) (q_b_n.mp h70).1, (q_b_n.mp h70).2⟩).elim
end MT
end
section
/-! ===== feed ===== -/
/-- the k-th byte of a number, the highest first -/
def q_byt (x : Int32) (k : Nat) : Int32 := (x >>> (nI (24 - 8 * k) &&& 31)).toInt8.toInt32
def q_ap (μ : q_M) (L : Nat) (x : Int32) : q_M := fun c j => if c = 9 ∧ L ≤ j ∧ j < L + 4 then q_byt x (j - L) else if c = 8 ∧ j = 1 then nI (L + 4) else μ c j
theorem q_b8 (y : Int32) : y.toInt8.toInt32.toInt8.toInt32 = y.toInt8.toInt32 := by rw [← vp_nar_byte, pk_vb]
theorem q_ap_eq {μ : q_M} {L : Nat} {x a0 a1 a2 a3 : Int32} (h0 : a0 = q_byt x 0) (h1 : a1 = q_byt x 1) (h2 : a2 = q_byt x 2) (h3 : a3 = q_byt x 3) :
    q_up (q_up (q_up (q_up (q_up (q_up (q_up (q_up μ 9 L a0) 8 1 (nI (L + 1))) 9 (L + 1) a1) 8 1 (nI (L + 1 + 1))) 9 (L + 1 + 1) a2) 8 1 (nI (L + 1 + 1 + 1))) 9 (L + 1 + 1 + 1) a3) 8 1 (nI (L + 1 + 1 + 1 + 1)) = q_ap μ L x := by
  subst h0 h1 h2 h3
  funext c j
  unfold q_ap
  by_cases h9 : c = 9
  · subst h9
    have e8 : ¬ ((9 : Nat) = 8 ∧ j = 1) := by omega
    simp only [q_up, e8, if_false, true_and]
    by_cases g3 : j = L + 1 + 1 + 1
    · rw [if_pos g3, if_pos (by omega), show j - L = 3 by omega]
    · rw [if_neg g3]
      by_cases g2 : j = L + 1 + 1
      · rw [if_pos g2, if_pos (by omega), show j - L = 2 by omega]
      · rw [if_neg g2]
        by_cases g1 : j = L + 1
        · rw [if_pos g1, if_pos (by omega), show j - L = 1 by omega]
        · rw [if_neg g1]
          by_cases g0 : j = L
          · rw [if_pos g0, if_pos (by omega), show j - L = 0 by omega]
          · rw [if_neg g0, if_neg (by omega)]
  · rw [if_neg (fun q => h9 q.1)]
    by_cases h8 : c = 8 ∧ j = 1
    · rw [if_pos h8, q_up, if_pos h8]
    · rw [if_neg h8]
      simp [q_up, h9, h8]
def q_arg (a b c d e : Int32) (i : Nat) : Int32 := if i < 4 then a else if i < 8 then b else if i < 12 then c else if i < 16 then d else e
def q_mb (a b c d e : Int32) (i : Nat) : Int32 := (q_arg a b c d e i >>> (nI (24 - 8 * (i % 4)) &&& 31)) &&& 255
def q_mf (μ : q_M) (L : Nat) (g : Nat → Int32) (k : Nat) : q_M := fun c j => if c = 133 ∧ L ≤ j ∧ j < L + k then g (j - L) else if c = 122 ∧ j = 12 then nI (L + k) else μ c j
theorem q_mf_0 {μ : q_M} {L : Nat} {g : Nat → Int32} (h : μ 122 12 = nI L) : q_mf μ L g 0 = μ := by
  funext c j
  unfold q_mf
  rw [if_neg (by omega)]
  by_cases e : c = 122 ∧ j = 12
  · rw [if_pos e, e.1, e.2, h]
    rfl
  · rw [if_neg e]
theorem q_mf_s {μ : q_M} {L k : Nat} {g : Nat → Int32} {v : Int32} (h : v = g k) : q_up (q_up (q_mf μ L g k) 133 (L + k) v) 122 12 (nI (L + k + 1)) = q_mf μ L g (k + 1) := by
  subst h
  funext c j
  unfold q_mf q_up
  by_cases e : c = 122 ∧ j = 12
  · rw [if_pos e, if_neg (by omega), if_pos e]
    rfl
  · rw [if_neg e]
    by_cases e2 : c = 133 ∧ j = L + k
    · rw [if_pos e2, if_pos (by omega), show j - L = k by omega]
    · rw [if_neg e2, if_neg e]
      dsimp only
      by_cases e3 : c = 133 ∧ L ≤ j ∧ j < L + k
      · rw [if_pos e3, if_pos (by omega)]
      · rw [if_neg e3, if_neg e, if_neg (by omega)]
theorem q_mf_t {μ : q_M} {L k : Nat} {g : Nat → Int32} : q_mf μ L g k 122 12 = nI (L + k) := by simp [q_mf]
section FD
variable {C : q_C} {l : Launch} {μ : q_M} {b : Bool}
set_option maxRecDepth 100000 in
set_option maxHeartbeats 4000000 in
theorem c_append {L : Nat} (x : Int32) (hL : L + 4 ≤ 600) (hl : μ 8 1 = nI L) : q_Ct C l FX6_append 0 142 142 [.ref (q_a C 8), .int x] μ (q_ρ b) (q_to (q_ap μ L x) (q_ρ b)) := by
  refine q_entry rfl (by decide) (Nat.le_of_ble_eq_true rfl) ?_
  refine g_lv [(0, _), (1, _)] rfl ?_
  refine g_bipush 2 24 dX6_append_0 rfl (by decide) ?_
  refine g_istore_n 3 dX6_append_2 rfl (by decide) ?_
  refine g_iload_n 4 dX6_append_3 rfl rfl ?_
  refine g_if_lt 46 7 dX6_append_4 rfl (by decide) (fun h4 => ?_) (fun h4 => ?_)
  · exact absurd h4 (by decide)
  · refine g_aload_n 8 dX6_append_7 rfl rfl ?_
    refine g_getI 11 dX6_append_8 rfl f_X6_15 (by decide) rfl rfl ?_
    rw [hl]
    refine g_sipush 14 600 dX6_append_11 rfl (by decide) ?_
    refine g_icmp_ge 46 17 dX6_append_14 rfl (by decide) (fun h14 => ?_) (fun h14 => ?_)
    · exact absurd h14 (nI_ge (a := L) (b := 600) (by omega) (by omega))
    · refine g_aload_n 18 dX6_append_17 rfl rfl ?_
      refine g_getR 21 _ dX6_append_18 rfl f_X6_9 (by decide) rfl rfl rfl ?_
      refine g_aload_n 22 dX6_append_21 rfl rfl ?_
      refine g_getI 25 dX6_append_22 rfl f_X6_15 (by decide) rfl rfl ?_
      rw [hl]
      refine g_iload_n 26 dX6_append_25 rfl rfl ?_
      refine g_iload_n 27 dX6_append_26 rfl rfl ?_
      refine g_ishr 28 dX6_append_27 rfl ?_
      refine g_i2b 29 dX6_append_28 rfl ?_
      refine g_bast 30 dX6_append_29 rfl (by decide) rfl (vp_in_nI (show L < 600 by omega) (by omega)) ?_
      rw [nI_clamp (show L < 2 ^ 31 by omega)]
      refine g_aload_n 31 dX6_append_30 rfl rfl ?_
      refine g_dup 32 dX6_append_31 rfl rfl ?_
      refine g_getI 35 dX6_append_32 rfl f_X6_15 (by decide) rfl rfl ?_
      rw [q_upc (by decide), hl]
      refine g_iconst 36 1 dX6_append_35 rfl (by decide) ?_
      refine g_iadd 37 dX6_append_36 rfl ?_
      rw [nI_1]
      refine g_putI 40 dX6_append_37 rfl f_X6_15 (by decide) rfl rfl (Or.inl rfl) ?_
      refine g_iinc 43 (_ + (-8)) dX6_append_40 rfl rfl rfl (by decide) ?_
      refine g_goto 3 dX6_append_43 (by decide) ?_
      rw [show (24 : Int32) + -8 = 16 from by decide]
      refine g_iload_n 4 dX6_append_3 rfl rfl ?_
      refine g_if_lt 46 7 dX6_append_4 rfl (by decide) (fun h4 => ?_) (fun h4 => ?_)
      · exact absurd h4 (by decide)
      · refine g_aload_n 8 dX6_append_7 rfl rfl ?_
        refine g_getI 11 dX6_append_8 rfl f_X6_15 (by decide) rfl rfl ?_
        rw [q_ups]
        refine g_sipush 14 600 dX6_append_11 rfl (by decide) ?_
        refine g_icmp_ge 46 17 dX6_append_14 rfl (by decide) (fun h14 => ?_) (fun h14 => ?_)
        · exact absurd h14 (nI_ge (a := L + 1) (b := 600) (by omega) (by omega))
        · refine g_aload_n 18 dX6_append_17 rfl rfl ?_
          refine g_getR 21 _ dX6_append_18 rfl f_X6_9 (by decide) rfl rfl rfl ?_
          refine g_aload_n 22 dX6_append_21 rfl rfl ?_
          refine g_getI 25 dX6_append_22 rfl f_X6_15 (by decide) rfl rfl ?_
          rw [q_ups]
          refine g_iload_n 26 dX6_append_25 rfl rfl ?_
          refine g_iload_n 27 dX6_append_26 rfl rfl ?_
          refine g_ishr 28 dX6_append_27 rfl ?_
          refine g_i2b 29 dX6_append_28 rfl ?_
          refine g_bast 30 dX6_append_29 rfl (by decide) rfl (vp_in_nI (show L + 1 < 600 by omega) (by omega)) ?_
          rw [nI_clamp (show L + 1 < 2 ^ 31 by omega)]
          refine g_aload_n 31 dX6_append_30 rfl rfl ?_
          refine g_dup 32 dX6_append_31 rfl rfl ?_
          refine g_getI 35 dX6_append_32 rfl f_X6_15 (by decide) rfl rfl ?_
          rw [q_upc (by decide), q_ups]
          refine g_iconst 36 1 dX6_append_35 rfl (by decide) ?_
          refine g_iadd 37 dX6_append_36 rfl ?_
          rw [nI_1]
          refine g_putI 40 dX6_append_37 rfl f_X6_15 (by decide) rfl rfl (Or.inl rfl) ?_
          refine g_iinc 43 (_ + (-8)) dX6_append_40 rfl rfl rfl (by decide) ?_
          refine g_goto 3 dX6_append_43 (by decide) ?_
          rw [show (16 : Int32) + -8 = 8 from by decide]
          refine g_iload_n 4 dX6_append_3 rfl rfl ?_
          refine g_if_lt 46 7 dX6_append_4 rfl (by decide) (fun h4 => ?_) (fun h4 => ?_)
          · exact absurd h4 (by decide)
          · refine g_aload_n 8 dX6_append_7 rfl rfl ?_
            refine g_getI 11 dX6_append_8 rfl f_X6_15 (by decide) rfl rfl ?_
            rw [q_ups]
            refine g_sipush 14 600 dX6_append_11 rfl (by decide) ?_
            refine g_icmp_ge 46 17 dX6_append_14 rfl (by decide) (fun h14 => ?_) (fun h14 => ?_)
            · exact absurd h14 (nI_ge (a := L + 1 + 1) (b := 600) (by omega) (by omega))
            · refine g_aload_n 18 dX6_append_17 rfl rfl ?_
              refine g_getR 21 _ dX6_append_18 rfl f_X6_9 (by decide) rfl rfl rfl ?_
              refine g_aload_n 22 dX6_append_21 rfl rfl ?_
              refine g_getI 25 dX6_append_22 rfl f_X6_15 (by decide) rfl rfl ?_
              rw [q_ups]
              refine g_iload_n 26 dX6_append_25 rfl rfl ?_
              refine g_iload_n 27 dX6_append_26 rfl rfl ?_
              refine g_ishr 28 dX6_append_27 rfl ?_
              refine g_i2b 29 dX6_append_28 rfl ?_
              refine g_bast 30 dX6_append_29 rfl (by decide) rfl (vp_in_nI (show L + 1 + 1 < 600 by omega) (by omega)) ?_
              rw [nI_clamp (show L + 1 + 1 < 2 ^ 31 by omega)]
              refine g_aload_n 31 dX6_append_30 rfl rfl ?_
              refine g_dup 32 dX6_append_31 rfl rfl ?_
              refine g_getI 35 dX6_append_32 rfl f_X6_15 (by decide) rfl rfl ?_
              rw [q_upc (by decide), q_ups]
              refine g_iconst 36 1 dX6_append_35 rfl (by decide) ?_
              refine g_iadd 37 dX6_append_36 rfl ?_
              rw [nI_1]
              refine g_putI 40 dX6_append_37 rfl f_X6_15 (by decide) rfl rfl (Or.inl rfl) ?_
              refine g_iinc 43 (_ + (-8)) dX6_append_40 rfl rfl rfl (by decide) ?_
              refine g_goto 3 dX6_append_43 (by decide) ?_
              rw [show (8 : Int32) + -8 = 0 from by decide]
              refine g_iload_n 4 dX6_append_3 rfl rfl ?_
              refine g_if_lt 46 7 dX6_append_4 rfl (by decide) (fun h4 => ?_) (fun h4 => ?_)
              · exact absurd h4 (by decide)
              · refine g_aload_n 8 dX6_append_7 rfl rfl ?_
                refine g_getI 11 dX6_append_8 rfl f_X6_15 (by decide) rfl rfl ?_
                rw [q_ups]
                refine g_sipush 14 600 dX6_append_11 rfl (by decide) ?_
                refine g_icmp_ge 46 17 dX6_append_14 rfl (by decide) (fun h14 => ?_) (fun h14 => ?_)
                · exact absurd h14 (nI_ge (a := L + 1 + 1 + 1) (b := 600) (by omega) (by omega))
                · refine g_aload_n 18 dX6_append_17 rfl rfl ?_
                  refine g_getR 21 _ dX6_append_18 rfl f_X6_9 (by decide) rfl rfl rfl ?_
                  refine g_aload_n 22 dX6_append_21 rfl rfl ?_
                  refine g_getI 25 dX6_append_22 rfl f_X6_15 (by decide) rfl rfl ?_
                  rw [q_ups]
                  refine g_iload_n 26 dX6_append_25 rfl rfl ?_
                  refine g_iload_n 27 dX6_append_26 rfl rfl ?_
                  refine g_ishr 28 dX6_append_27 rfl ?_
                  refine g_i2b 29 dX6_append_28 rfl ?_
                  refine g_bast 30 dX6_append_29 rfl (by decide) rfl (vp_in_nI (show L + 1 + 1 + 1 < 600 by omega) (by omega)) ?_
                  rw [nI_clamp (show L + 1 + 1 + 1 < 2 ^ 31 by omega)]
                  refine g_aload_n 31 dX6_append_30 rfl rfl ?_
                  refine g_dup 32 dX6_append_31 rfl rfl ?_
                  refine g_getI 35 dX6_append_32 rfl f_X6_15 (by decide) rfl rfl ?_
                  rw [q_upc (by decide), q_ups]
                  refine g_iconst 36 1 dX6_append_35 rfl (by decide) ?_
                  refine g_iadd 37 dX6_append_36 rfl ?_
                  rw [nI_1]
                  refine g_putI 40 dX6_append_37 rfl f_X6_15 (by decide) rfl rfl (Or.inl rfl) ?_
                  refine g_iinc 43 (_ + (-8)) dX6_append_40 rfl rfl rfl (by decide) ?_
                  refine g_goto 3 dX6_append_43 (by decide) ?_
                  rw [show (0 : Int32) + -8 = -8 from by decide]
                  refine g_iload_n 4 dX6_append_3 rfl rfl ?_
                  refine g_if_lt 46 7 dX6_append_4 rfl (by decide) (fun h4 => ?_) (fun h4 => ?_)
                  · exact g_rv dX6_append_46 rfl rfl ⟨by rw [q_b8, q_b8, q_b8, q_b8]; exact (q_ap_eq rfl rfl rfl rfl).symm, rfl⟩
                  · exact absurd (by decide) h4
theorem q_ap_t {μ : q_M} {L : Nat} {x : Int32} : q_ap μ L x 8 1 = nI (L + 4) := by simp [q_ap]
set_option maxRecDepth 100000 in
set_option maxHeartbeats 4000000 in
theorem c_feed_y {L : Nat} (a b2 c d2 e : Int32) (hL : L + 20 ≤ 600) (hl : μ 8 1 = nI L) : q_Ct C l FX7_feed 1 142 142 [.ref (q_a C 0), .int a, .int b2, .int c, .int d2, .int e] μ (q_ρ b) (q_is (nI (L + 4 + 4 + 4 + 4 + 4)) (q_ap (q_ap (q_ap (q_ap (q_ap μ L a) (L + 4) b2) (L + 4 + 4) c) (L + 4 + 4 + 4) d2) (L + 4 + 4 + 4 + 4) e) (q_ρ b)) := by
  refine q_entry rfl (by decide) (Nat.le_of_ble_eq_true rfl) ?_
  refine g_lv [(0, _), (1, _), (2, _), (3, _), (4, _), (5, _)] rfl ?_
  refine g_aload_n 1 dX7_feed_0 rfl rfl ?_
  refine g_getR 4 _ dX7_feed_1 rfl f_X7_26 (by decide) rfl rfl rfl ?_
  refine g_getI 7 dX7_feed_4 rfl f_X7_109 (by decide) rfl rfl ?_
  rw [hl]
  refine g_bipush 9 20 dX7_feed_7 rfl (by decide) ?_
  refine g_iadd 10 dX7_feed_9 rfl ?_
  refine g_sipush 13 600 dX7_feed_10 rfl (by decide) ?_
  refine g_icmp_le 18 16 dX7_feed_13 rfl (by decide) (fun h13 => ?_) (fun h13 => ?_)
  · refine g_aload_n 19 dX7_feed_18 rfl rfl ?_
    refine g_getR 22 _ dX7_feed_19 rfl f_X7_26 (by decide) rfl rfl rfl ?_
    refine g_iload_n 23 dX7_feed_22 rfl rfl ?_
    refine g_Vv 26 [_] _ dX7_feed_23 rfl m_X6_append l_X7_113 rfl rfl rfl (by decide) (c_append (L := L) _ (by omega) hl) rfl (Nat.le_of_ble_eq_true rfl) (by decide) (fun μ23 ρ23 hc9 => ?_)
    obtain ⟨rfl, rfl⟩ := hc9
    refine g_aload_n 27 dX7_feed_26 rfl rfl ?_
    refine g_getR 30 _ dX7_feed_27 rfl f_X7_26 (by decide) rfl rfl rfl ?_
    refine g_iload_n 31 dX7_feed_30 rfl rfl ?_
    refine g_Vv 34 [_] _ dX7_feed_31 rfl m_X6_append l_X7_113 rfl rfl rfl (by decide) (c_append (L := L + 4) _ (by omega) q_ap_t) rfl (Nat.le_of_ble_eq_true rfl) (by decide) (fun μ31 ρ31 hc9 => ?_)
    obtain ⟨rfl, rfl⟩ := hc9
    refine g_aload_n 35 dX7_feed_34 rfl rfl ?_
    refine g_getR 38 _ dX7_feed_35 rfl f_X7_26 (by decide) rfl rfl rfl ?_
    refine g_iload_n 39 dX7_feed_38 rfl rfl ?_
    refine g_Vv 42 [_] _ dX7_feed_39 rfl m_X6_append l_X7_113 rfl rfl rfl (by decide) (c_append (L := L + 4 + 4) _ (by omega) q_ap_t) rfl (Nat.le_of_ble_eq_true rfl) (by decide) (fun μ39 ρ39 hc9 => ?_)
    obtain ⟨rfl, rfl⟩ := hc9
    refine g_aload_n 43 dX7_feed_42 rfl rfl ?_
    refine g_getR 46 _ dX7_feed_43 rfl f_X7_26 (by decide) rfl rfl rfl ?_
    refine g_iload 48 dX7_feed_46 rfl rfl ?_
    refine g_Vv 51 [_] _ dX7_feed_48 rfl m_X6_append l_X7_113 rfl rfl rfl (by decide) (c_append (L := L + 4 + 4 + 4) _ (by omega) q_ap_t) rfl (Nat.le_of_ble_eq_true rfl) (by decide) (fun μ48 ρ48 hc9 => ?_)
    obtain ⟨rfl, rfl⟩ := hc9
    refine g_aload_n 52 dX7_feed_51 rfl rfl ?_
    refine g_getR 55 _ dX7_feed_52 rfl f_X7_26 (by decide) rfl rfl rfl ?_
    refine g_iload 57 dX7_feed_55 rfl rfl ?_
    refine g_Vv 60 [_] _ dX7_feed_57 rfl m_X6_append l_X7_113 rfl rfl rfl (by decide) (c_append (L := L + 4 + 4 + 4 + 4) _ (by omega) q_ap_t) rfl (Nat.le_of_ble_eq_true rfl) (by decide) (fun μ57 ρ57 hc9 => ?_)
    obtain ⟨rfl, rfl⟩ := hc9
    refine g_aload_n 61 dX7_feed_60 rfl rfl ?_
    refine g_getR 64 _ dX7_feed_61 rfl f_X7_26 (by decide) rfl rfl rfl ?_
    refine g_getI 67 dX7_feed_64 rfl f_X7_109 (by decide) rfl rfl ?_
    rw [q_ap_t]
    exact g_ri dX7_feed_67 rfl rfl ⟨rfl, rfl, rfl⟩
  · exact absurd ((nI_leI (a := L + 20) (b := 600) (by omega) (by omega)).mpr (by omega)) (by rw [← nI_add]; exact h13)
set_option maxRecDepth 100000 in
set_option maxHeartbeats 4000000 in
theorem c_feed_n {L : Nat} (a b2 c d2 e : Int32) (hL : L ≤ 600) (hL2 : ¬ L + 20 ≤ 600) (hl : μ 8 1 = nI L) : q_Ct C l FX7_feed 1 142 142 [.ref (q_a C 0), .int a, .int b2, .int c, .int d2, .int e] μ (q_ρ b) (q_is (-1) μ (q_ρ b)) := by
  refine q_entry rfl (by decide) (Nat.le_of_ble_eq_true rfl) ?_
  refine g_lv [(0, _), (1, _), (2, _), (3, _), (4, _), (5, _)] rfl ?_
  refine g_aload_n 1 dX7_feed_0 rfl rfl ?_
  refine g_getR 4 _ dX7_feed_1 rfl f_X7_26 (by decide) rfl rfl rfl ?_
  refine g_getI 7 dX7_feed_4 rfl f_X7_109 (by decide) rfl rfl ?_
  rw [hl]
  refine g_bipush 9 20 dX7_feed_7 rfl (by decide) ?_
  refine g_iadd 10 dX7_feed_9 rfl ?_
  refine g_sipush 13 600 dX7_feed_10 rfl (by decide) ?_
  refine g_icmp_le 18 16 dX7_feed_13 rfl (by decide) (fun h13 => ?_) (fun h13 => ?_)
  · exact absurd ((nI_leI (a := L + 20) (b := 600) (by omega) (by omega)).mp (by rw [← nI_add]; exact h13)) hL2
  · refine g_iconst 17 (-1) dX7_feed_16 rfl (by decide) ?_
    exact g_ri dX7_feed_17 rfl rfl ⟨rfl, rfl, rfl⟩
set_option maxRecDepth 100000 in
set_option maxHeartbeats 4000000 in
theorem lp_Mfeed {L : Nat} {a b2 c d2 e : Int32} (hL : L + 20 ≤ 600) : ∀ k i, i + k = 20 → q_G C l FX8_feed 0 142 142 (q_is (nI (L + 20)) (q_mf μ L (q_mb a b2 c d2 e) 20) (q_ρ b)) 142 (q_mf μ L (q_mb a b2 c d2 e) i) (q_ρ b) [(0, .ref (q_a C 122)), (1, .int a), (2, .int b2), (3, .int c), (4, .int d2), (5, .int e), (6, .int (nI i))] [] 18 := by
  intro k
  induction k with
  | zero =>
    intro i hi
    refine g_iload 20 dX8_feed_18 rfl rfl ?_
    refine g_bipush 22 20 dX8_feed_20 rfl (by decide) ?_
    refine g_icmp_ge 115 25 dX8_feed_22 rfl (by decide) (fun h22 => ?_) (fun h22 => ?_)
    · refine g_aload_n 116 dX8_feed_115 rfl rfl ?_
      refine g_getI 119 dX8_feed_116 rfl f_X8_92 (by decide) rfl rfl ?_
      rw [q_mf_t, show i = 20 by omega]
      exact g_ri dX8_feed_119 rfl rfl ⟨rfl, rfl, rfl⟩
    · exact absurd (nI_le (a := 20) (b := i) (by omega) (by omega)) h22
  | succ k ih =>
    intro i hi
    refine g_iload 20 dX8_feed_18 rfl rfl ?_
    refine g_bipush 22 20 dX8_feed_20 rfl (by decide) ?_
    refine g_icmp_ge 115 25 dX8_feed_22 rfl (by decide) (fun h22 => ?_) (fun h22 => ?_)
    · exact absurd h22 (nI_ge (a := i) (b := 20) (by omega) (by omega))
    · refine g_iload 27 dX8_feed_25 rfl rfl ?_
      refine g_iconst 28 4 dX8_feed_27 rfl (by decide) ?_
      refine g_icmp_ge 35 31 dX8_feed_28 rfl (by decide) (fun h28 => ?_) (fun h28 => ?_)
      · refine g_iload 37 dX8_feed_35 rfl rfl ?_
        refine g_bipush 39 8 dX8_feed_37 rfl (by decide) ?_
        refine g_icmp_ge 46 42 dX8_feed_39 rfl (by decide) (fun h39 => ?_) (fun h39 => ?_)
        · refine g_iload 48 dX8_feed_46 rfl rfl ?_
          refine g_bipush 50 12 dX8_feed_48 rfl (by decide) ?_
          refine g_icmp_ge 57 53 dX8_feed_50 rfl (by decide) (fun h50 => ?_) (fun h50 => ?_)
          · refine g_iload 59 dX8_feed_57 rfl rfl ?_
            refine g_bipush 61 16 dX8_feed_59 rfl (by decide) ?_
            refine g_icmp_ge 69 64 dX8_feed_61 rfl (by decide) (fun h61 => ?_) (fun h61 => ?_)
            · refine g_iload 71 dX8_feed_69 rfl rfl ?_
              refine g_istore 73 dX8_feed_71 rfl (by decide) ?_
              refine g_aload_n 74 dX8_feed_73 rfl rfl ?_
              refine g_getR 77 _ dX8_feed_74 rfl f_X8_40 (by decide) rfl rfl rfl ?_
              refine g_aload_n 78 dX8_feed_77 rfl rfl ?_
              refine g_getI 81 dX8_feed_78 rfl f_X8_92 (by decide) rfl rfl ?_
              rw [q_mf_t]
              refine g_iload 83 dX8_feed_81 rfl rfl ?_
              refine g_bipush 85 24 dX8_feed_83 rfl (by decide) ?_
              refine g_bipush 87 8 dX8_feed_85 rfl (by decide) ?_
              refine g_iload 89 dX8_feed_87 rfl rfl ?_
              refine g_iconst 90 4 dX8_feed_89 rfl (by decide) ?_
              refine g_irem 91 dX8_feed_90 rfl (by decide) ?_
              rw [show nI i - nI i / 4 * 4 = nI (i % 4) from pk_rem (a := i) (d := 4) (by omega) (by omega) (by omega)]
              refine g_imul 92 dX8_feed_91 rfl ?_
              rw [show (8 : Int32) * nI (i % 4) = nI (8 * (i % 4)) from pk_mul 8 (i % 4)]
              refine g_isub 93 dX8_feed_92 rfl ?_
              rw [show (24 : Int32) - nI (8 * (i % 4)) = nI (24 - 8 * (i % 4)) from pk_sub (a := 24) (by omega)]
              refine g_ishr 94 dX8_feed_93 rfl ?_
              refine g_sipush 97 255 dX8_feed_94 rfl (by decide) ?_
              refine g_iand 98 dX8_feed_97 rfl ?_
              refine g_iast 99 dX8_feed_98 rfl (by decide) rfl (vp_in_nI (show L + i < 600 by omega) (by omega)) ?_
              rw [nI_clamp (show L + i < 2 ^ 31 by omega)]
              refine g_aload_n 100 dX8_feed_99 rfl rfl ?_
              refine g_dup 101 dX8_feed_100 rfl rfl ?_
              refine g_getI 104 dX8_feed_101 rfl f_X8_92 (by decide) rfl rfl ?_
              rw [q_upc (by decide), q_mf_t]
              refine g_iconst 105 1 dX8_feed_104 rfl (by decide) ?_
              refine g_iadd 106 dX8_feed_105 rfl ?_
              rw [nI_1]
              refine g_putI 109 dX8_feed_106 rfl f_X8_92 (by decide) rfl rfl (Or.inl rfl) ?_
              refine g_iinc 112 (_ + 1) dX8_feed_109 rfl rfl rfl (by decide) ?_
              refine g_goto 18 dX8_feed_112 (by decide) ?_
              have gh28 : ¬ i < 4 := fun q => absurd h28 (nI_ge (a := i) (b := 4) q (by omega))
              have gh39 : ¬ i < 8 := fun q => absurd h39 (nI_ge (a := i) (b := 8) q (by omega))
              have gh50 : ¬ i < 12 := fun q => absurd h50 (nI_ge (a := i) (b := 12) q (by omega))
              have gh61 : ¬ i < 16 := fun q => absurd h61 (nI_ge (a := i) (b := 16) q (by omega))
              rw [q_mf_s (g := (q_mb a b2 c d2 e)) (by simp [q_mb, q_arg, gh28, gh39, gh50, gh61]), nI_1]
              refine g_lv [(0, _), (1, _), (2, _), (3, _), (4, _), (5, _), (6, _)] rfl ?_
              exact ih (i + 1) (by omega)
            · refine g_iload 66 dX8_feed_64 rfl rfl ?_
              refine g_goto 71 dX8_feed_66 (by decide) ?_
              refine g_istore 73 dX8_feed_71 rfl (by decide) ?_
              refine g_aload_n 74 dX8_feed_73 rfl rfl ?_
              refine g_getR 77 _ dX8_feed_74 rfl f_X8_40 (by decide) rfl rfl rfl ?_
              refine g_aload_n 78 dX8_feed_77 rfl rfl ?_
              refine g_getI 81 dX8_feed_78 rfl f_X8_92 (by decide) rfl rfl ?_
              rw [q_mf_t]
              refine g_iload 83 dX8_feed_81 rfl rfl ?_
              refine g_bipush 85 24 dX8_feed_83 rfl (by decide) ?_
              refine g_bipush 87 8 dX8_feed_85 rfl (by decide) ?_
              refine g_iload 89 dX8_feed_87 rfl rfl ?_
              refine g_iconst 90 4 dX8_feed_89 rfl (by decide) ?_
              refine g_irem 91 dX8_feed_90 rfl (by decide) ?_
              rw [show nI i - nI i / 4 * 4 = nI (i % 4) from pk_rem (a := i) (d := 4) (by omega) (by omega) (by omega)]
              refine g_imul 92 dX8_feed_91 rfl ?_
              rw [show (8 : Int32) * nI (i % 4) = nI (8 * (i % 4)) from pk_mul 8 (i % 4)]
              refine g_isub 93 dX8_feed_92 rfl ?_
              rw [show (24 : Int32) - nI (8 * (i % 4)) = nI (24 - 8 * (i % 4)) from pk_sub (a := 24) (by omega)]
              refine g_ishr 94 dX8_feed_93 rfl ?_
              refine g_sipush 97 255 dX8_feed_94 rfl (by decide) ?_
              refine g_iand 98 dX8_feed_97 rfl ?_
              refine g_iast 99 dX8_feed_98 rfl (by decide) rfl (vp_in_nI (show L + i < 600 by omega) (by omega)) ?_
              rw [nI_clamp (show L + i < 2 ^ 31 by omega)]
              refine g_aload_n 100 dX8_feed_99 rfl rfl ?_
              refine g_dup 101 dX8_feed_100 rfl rfl ?_
              refine g_getI 104 dX8_feed_101 rfl f_X8_92 (by decide) rfl rfl ?_
              rw [q_upc (by decide), q_mf_t]
              refine g_iconst 105 1 dX8_feed_104 rfl (by decide) ?_
              refine g_iadd 106 dX8_feed_105 rfl ?_
              rw [nI_1]
              refine g_putI 109 dX8_feed_106 rfl f_X8_92 (by decide) rfl rfl (Or.inl rfl) ?_
              refine g_iinc 112 (_ + 1) dX8_feed_109 rfl rfl rfl (by decide) ?_
              refine g_goto 18 dX8_feed_112 (by decide) ?_
              have gh28 : ¬ i < 4 := fun q => absurd h28 (nI_ge (a := i) (b := 4) q (by omega))
              have gh39 : ¬ i < 8 := fun q => absurd h39 (nI_ge (a := i) (b := 8) q (by omega))
              have gh50 : ¬ i < 12 := fun q => absurd h50 (nI_ge (a := i) (b := 12) q (by omega))
              have gh61 : i < 16 := by
                rcases Nat.lt_or_ge i 16 with q | q
                · exact q
                · exact absurd (nI_le (a := 16) (b := i) q (by omega)) h61
              rw [q_mf_s (g := (q_mb a b2 c d2 e)) (by simp [q_mb, q_arg, gh28, gh39, gh50, gh61]), nI_1]
              refine g_lv [(0, _), (1, _), (2, _), (3, _), (4, _), (5, _), (6, _)] rfl ?_
              exact ih (i + 1) (by omega)
          · refine g_iload_n 54 dX8_feed_53 rfl rfl ?_
            refine g_goto 71 dX8_feed_54 (by decide) ?_
            refine g_istore 73 dX8_feed_71 rfl (by decide) ?_
            refine g_aload_n 74 dX8_feed_73 rfl rfl ?_
            refine g_getR 77 _ dX8_feed_74 rfl f_X8_40 (by decide) rfl rfl rfl ?_
            refine g_aload_n 78 dX8_feed_77 rfl rfl ?_
            refine g_getI 81 dX8_feed_78 rfl f_X8_92 (by decide) rfl rfl ?_
            rw [q_mf_t]
            refine g_iload 83 dX8_feed_81 rfl rfl ?_
            refine g_bipush 85 24 dX8_feed_83 rfl (by decide) ?_
            refine g_bipush 87 8 dX8_feed_85 rfl (by decide) ?_
            refine g_iload 89 dX8_feed_87 rfl rfl ?_
            refine g_iconst 90 4 dX8_feed_89 rfl (by decide) ?_
            refine g_irem 91 dX8_feed_90 rfl (by decide) ?_
            rw [show nI i - nI i / 4 * 4 = nI (i % 4) from pk_rem (a := i) (d := 4) (by omega) (by omega) (by omega)]
            refine g_imul 92 dX8_feed_91 rfl ?_
            rw [show (8 : Int32) * nI (i % 4) = nI (8 * (i % 4)) from pk_mul 8 (i % 4)]
            refine g_isub 93 dX8_feed_92 rfl ?_
            rw [show (24 : Int32) - nI (8 * (i % 4)) = nI (24 - 8 * (i % 4)) from pk_sub (a := 24) (by omega)]
            refine g_ishr 94 dX8_feed_93 rfl ?_
            refine g_sipush 97 255 dX8_feed_94 rfl (by decide) ?_
            refine g_iand 98 dX8_feed_97 rfl ?_
            refine g_iast 99 dX8_feed_98 rfl (by decide) rfl (vp_in_nI (show L + i < 600 by omega) (by omega)) ?_
            rw [nI_clamp (show L + i < 2 ^ 31 by omega)]
            refine g_aload_n 100 dX8_feed_99 rfl rfl ?_
            refine g_dup 101 dX8_feed_100 rfl rfl ?_
            refine g_getI 104 dX8_feed_101 rfl f_X8_92 (by decide) rfl rfl ?_
            rw [q_upc (by decide), q_mf_t]
            refine g_iconst 105 1 dX8_feed_104 rfl (by decide) ?_
            refine g_iadd 106 dX8_feed_105 rfl ?_
            rw [nI_1]
            refine g_putI 109 dX8_feed_106 rfl f_X8_92 (by decide) rfl rfl (Or.inl rfl) ?_
            refine g_iinc 112 (_ + 1) dX8_feed_109 rfl rfl rfl (by decide) ?_
            refine g_goto 18 dX8_feed_112 (by decide) ?_
            have gh28 : ¬ i < 4 := fun q => absurd h28 (nI_ge (a := i) (b := 4) q (by omega))
            have gh39 : ¬ i < 8 := fun q => absurd h39 (nI_ge (a := i) (b := 8) q (by omega))
            have gh50 : i < 12 := by
              rcases Nat.lt_or_ge i 12 with q | q
              · exact q
              · exact absurd (nI_le (a := 12) (b := i) q (by omega)) h50
            rw [q_mf_s (g := (q_mb a b2 c d2 e)) (by simp [q_mb, q_arg, gh28, gh39, gh50]), nI_1]
            refine g_lv [(0, _), (1, _), (2, _), (3, _), (4, _), (5, _), (6, _)] rfl ?_
            exact ih (i + 1) (by omega)
        · refine g_iload_n 43 dX8_feed_42 rfl rfl ?_
          refine g_goto 71 dX8_feed_43 (by decide) ?_
          refine g_istore 73 dX8_feed_71 rfl (by decide) ?_
          refine g_aload_n 74 dX8_feed_73 rfl rfl ?_
          refine g_getR 77 _ dX8_feed_74 rfl f_X8_40 (by decide) rfl rfl rfl ?_
          refine g_aload_n 78 dX8_feed_77 rfl rfl ?_
          refine g_getI 81 dX8_feed_78 rfl f_X8_92 (by decide) rfl rfl ?_
          rw [q_mf_t]
          refine g_iload 83 dX8_feed_81 rfl rfl ?_
          refine g_bipush 85 24 dX8_feed_83 rfl (by decide) ?_
          refine g_bipush 87 8 dX8_feed_85 rfl (by decide) ?_
          refine g_iload 89 dX8_feed_87 rfl rfl ?_
          refine g_iconst 90 4 dX8_feed_89 rfl (by decide) ?_
          refine g_irem 91 dX8_feed_90 rfl (by decide) ?_
          rw [show nI i - nI i / 4 * 4 = nI (i % 4) from pk_rem (a := i) (d := 4) (by omega) (by omega) (by omega)]
          refine g_imul 92 dX8_feed_91 rfl ?_
          rw [show (8 : Int32) * nI (i % 4) = nI (8 * (i % 4)) from pk_mul 8 (i % 4)]
          refine g_isub 93 dX8_feed_92 rfl ?_
          rw [show (24 : Int32) - nI (8 * (i % 4)) = nI (24 - 8 * (i % 4)) from pk_sub (a := 24) (by omega)]
          refine g_ishr 94 dX8_feed_93 rfl ?_
          refine g_sipush 97 255 dX8_feed_94 rfl (by decide) ?_
          refine g_iand 98 dX8_feed_97 rfl ?_
          refine g_iast 99 dX8_feed_98 rfl (by decide) rfl (vp_in_nI (show L + i < 600 by omega) (by omega)) ?_
          rw [nI_clamp (show L + i < 2 ^ 31 by omega)]
          refine g_aload_n 100 dX8_feed_99 rfl rfl ?_
          refine g_dup 101 dX8_feed_100 rfl rfl ?_
          refine g_getI 104 dX8_feed_101 rfl f_X8_92 (by decide) rfl rfl ?_
          rw [q_upc (by decide), q_mf_t]
          refine g_iconst 105 1 dX8_feed_104 rfl (by decide) ?_
          refine g_iadd 106 dX8_feed_105 rfl ?_
          rw [nI_1]
          refine g_putI 109 dX8_feed_106 rfl f_X8_92 (by decide) rfl rfl (Or.inl rfl) ?_
          refine g_iinc 112 (_ + 1) dX8_feed_109 rfl rfl rfl (by decide) ?_
          refine g_goto 18 dX8_feed_112 (by decide) ?_
          have gh28 : ¬ i < 4 := fun q => absurd h28 (nI_ge (a := i) (b := 4) q (by omega))
          have gh39 : i < 8 := by
            rcases Nat.lt_or_ge i 8 with q | q
            · exact q
            · exact absurd (nI_le (a := 8) (b := i) q (by omega)) h39
          rw [q_mf_s (g := (q_mb a b2 c d2 e)) (by simp [q_mb, q_arg, gh28, gh39]), nI_1]
          refine g_lv [(0, _), (1, _), (2, _), (3, _), (4, _), (5, _), (6, _)] rfl ?_
          exact ih (i + 1) (by omega)
      · refine g_iload_n 32 dX8_feed_31 rfl rfl ?_
        refine g_goto 71 dX8_feed_32 (by decide) ?_
        refine g_istore 73 dX8_feed_71 rfl (by decide) ?_
        refine g_aload_n 74 dX8_feed_73 rfl rfl ?_
        refine g_getR 77 _ dX8_feed_74 rfl f_X8_40 (by decide) rfl rfl rfl ?_
        refine g_aload_n 78 dX8_feed_77 rfl rfl ?_
        refine g_getI 81 dX8_feed_78 rfl f_X8_92 (by decide) rfl rfl ?_
        rw [q_mf_t]
        refine g_iload 83 dX8_feed_81 rfl rfl ?_
        refine g_bipush 85 24 dX8_feed_83 rfl (by decide) ?_
        refine g_bipush 87 8 dX8_feed_85 rfl (by decide) ?_
        refine g_iload 89 dX8_feed_87 rfl rfl ?_
        refine g_iconst 90 4 dX8_feed_89 rfl (by decide) ?_
        refine g_irem 91 dX8_feed_90 rfl (by decide) ?_
        rw [show nI i - nI i / 4 * 4 = nI (i % 4) from pk_rem (a := i) (d := 4) (by omega) (by omega) (by omega)]
        refine g_imul 92 dX8_feed_91 rfl ?_
        rw [show (8 : Int32) * nI (i % 4) = nI (8 * (i % 4)) from pk_mul 8 (i % 4)]
        refine g_isub 93 dX8_feed_92 rfl ?_
        rw [show (24 : Int32) - nI (8 * (i % 4)) = nI (24 - 8 * (i % 4)) from pk_sub (a := 24) (by omega)]
        refine g_ishr 94 dX8_feed_93 rfl ?_
        refine g_sipush 97 255 dX8_feed_94 rfl (by decide) ?_
        refine g_iand 98 dX8_feed_97 rfl ?_
        refine g_iast 99 dX8_feed_98 rfl (by decide) rfl (vp_in_nI (show L + i < 600 by omega) (by omega)) ?_
        rw [nI_clamp (show L + i < 2 ^ 31 by omega)]
        refine g_aload_n 100 dX8_feed_99 rfl rfl ?_
        refine g_dup 101 dX8_feed_100 rfl rfl ?_
        refine g_getI 104 dX8_feed_101 rfl f_X8_92 (by decide) rfl rfl ?_
        rw [q_upc (by decide), q_mf_t]
        refine g_iconst 105 1 dX8_feed_104 rfl (by decide) ?_
        refine g_iadd 106 dX8_feed_105 rfl ?_
        rw [nI_1]
        refine g_putI 109 dX8_feed_106 rfl f_X8_92 (by decide) rfl rfl (Or.inl rfl) ?_
        refine g_iinc 112 (_ + 1) dX8_feed_109 rfl rfl rfl (by decide) ?_
        refine g_goto 18 dX8_feed_112 (by decide) ?_
        have gh28 : i < 4 := by
          rcases Nat.lt_or_ge i 4 with q | q
          · exact q
          · exact absurd (nI_le (a := 4) (b := i) q (by omega)) h28
        rw [q_mf_s (g := (q_mb a b2 c d2 e)) (by simp [q_mb, q_arg, gh28]), nI_1]
        refine g_lv [(0, _), (1, _), (2, _), (3, _), (4, _), (5, _), (6, _)] rfl ?_
        exact ih (i + 1) (by omega)
set_option maxRecDepth 100000 in
set_option maxHeartbeats 4000000 in
theorem c_Mfeed_y {L : Nat} (a b2 c d2 e : Int32) (hL : L + 20 ≤ 600) (hl : μ 122 12 = nI L) : q_Ct C l FX8_feed 0 142 142 [.ref (q_a C 122), .int a, .int b2, .int c, .int d2, .int e] μ (q_ρ b) (q_is (nI (L + 20)) (q_mf μ L (q_mb a b2 c d2 e) 20) (q_ρ b)) := by
  refine q_entry rfl (by decide) (Nat.le_of_ble_eq_true rfl) ?_
  refine g_lv [(0, _), (1, _), (2, _), (3, _), (4, _), (5, _)] rfl ?_
  refine g_aload_n 1 dX8_feed_0 rfl rfl ?_
  refine g_getI 4 dX8_feed_1 rfl f_X8_92 (by decide) rfl rfl ?_
  rw [hl]
  refine g_bipush 6 20 dX8_feed_4 rfl (by decide) ?_
  refine g_iadd 7 dX8_feed_6 rfl ?_
  refine g_sipush 10 600 dX8_feed_7 rfl (by decide) ?_
  refine g_icmp_le 15 13 dX8_feed_10 rfl (by decide) (fun h10 => ?_) (fun h10 => ?_)
  · refine g_iconst 16 0 dX8_feed_15 rfl (by decide) ?_
    refine g_istore 18 dX8_feed_16 rfl (by decide) ?_
    refine g_lv [(0, _), (1, _), (2, _), (3, _), (4, _), (5, _), (6, .int 0)] rfl ?_
    have h9 := lp_Mfeed (C := C) (l := l) (μ := μ) (b := b) (a := a) (b2 := b2) (c := c) (d2 := d2) (e := e) hL 20 0 (by omega)
    rw [q_mf_0 hl] at h9
    exact h9
  · exact absurd ((nI_leI (a := L + 20) (b := 600) (by omega) (by omega)).mpr (by omega)) (by rw [← nI_add]; exact h10)
set_option maxRecDepth 100000 in
set_option maxHeartbeats 4000000 in
theorem c_Mfeed_n {L : Nat} (a b2 c d2 e : Int32) (hL : L ≤ 600) (hL2 : ¬ L + 20 ≤ 600) (hl : μ 122 12 = nI L) : q_Ct C l FX8_feed 0 142 142 [.ref (q_a C 122), .int a, .int b2, .int c, .int d2, .int e] μ (q_ρ b) (q_is (-1) μ (q_ρ b)) := by
  refine q_entry rfl (by decide) (Nat.le_of_ble_eq_true rfl) ?_
  refine g_lv [(0, _), (1, _), (2, _), (3, _), (4, _), (5, _)] rfl ?_
  refine g_aload_n 1 dX8_feed_0 rfl rfl ?_
  refine g_getI 4 dX8_feed_1 rfl f_X8_92 (by decide) rfl rfl ?_
  rw [hl]
  refine g_bipush 6 20 dX8_feed_4 rfl (by decide) ?_
  refine g_iadd 7 dX8_feed_6 rfl ?_
  refine g_sipush 10 600 dX8_feed_7 rfl (by decide) ?_
  refine g_icmp_le 15 13 dX8_feed_10 rfl (by decide) (fun h10 => ?_) (fun h10 => ?_)
  · exact absurd ((nI_leI (a := L + 20) (b := 600) (by omega) (by omega)).mp (by rw [← nI_add]; exact h10)) hL2
  · refine g_iconst 14 (-1) dX8_feed_13 rfl (by decide) ?_
    exact g_ri dX8_feed_14 rfl rfl ⟨rfl, rfl, rfl⟩
end FD
end
section
/-! ===== times ===== -/
theorem k_13 (i : Nat) (h : i < 7) : q_kd (13 + i) = (10, 10) := by
  have h9 : ∀ i, i < 7 → q_kd (13 + i) = (10, 10) := by decide
  exact h9 i h
theorem k_21 (i : Nat) (h : i < 7) : q_kd (21 + i) = (10, 10) := by
  have h9 : ∀ i, i < 7 → q_kd (21 + i) = (10, 10) := by decide
  exact h9 i h
theorem k_29 (i : Nat) (h : i < 7) : q_kd (29 + i) = (10, 10) := by
  have h9 : ∀ i, i < 7 → q_kd (29 + i) = (10, 10) := by decide
  exact h9 i h
theorem k_37 (i : Nat) (h : i < 7) : q_kd (37 + i) = (10, 10) := by
  have h9 : ∀ i, i < 7 → q_kd (37 + i) = (10, 10) := by decide
  exact h9 i h
theorem k_45 (i : Nat) (h : i < 7) : q_kd (45 + i) = (10, 10) := by
  have h9 : ∀ i, i < 7 → q_kd (45 + i) = (10, 10) := by decide
  exact h9 i h
theorem k_53 (i : Nat) (h : i < 7) : q_kd (53 + i) = (10, 10) := by
  have h9 : ∀ i, i < 7 → q_kd (53 + i) = (10, 10) := by decide
  exact h9 i h
theorem k_73 (i : Nat) (h : i < 7) : q_kd (73 + i) = (10, 4) := by
  have h9 : ∀ i, i < 7 → q_kd (73 + i) = (10, 4) := by decide
  exact h9 i h
theorem k_81 (i : Nat) (h : i < 7) : q_kd (81 + i) = (10, 4) := by
  have h9 : ∀ i, i < 7 → q_kd (81 + i) = (10, 4) := by decide
  exact h9 i h
theorem k_89 (i : Nat) (h : i < 7) : q_kd (89 + i) = (10, 4) := by
  have h9 : ∀ i, i < 7 → q_kd (89 + i) = (10, 4) := by decide
  exact h9 i h
theorem k_99 (i : Nat) (h : i < 7) : q_kd (99 + i) = (10, 4) := by
  have h9 : ∀ i, i < 7 → q_kd (99 + i) = (10, 4) := by decide
  exact h9 i h
theorem k_107 (i : Nat) (h : i < 7) : q_kd (107 + i) = (10, 4) := by
  have h9 : ∀ i, i < 7 → q_kd (107 + i) = (10, 4) := by decide
  exact h9 i h
theorem k_115 (i : Nat) (h : i < 7) : q_kd (115 + i) = (10, 4) := by
  have h9 : ∀ i, i < 7 → q_kd (115 + i) = (10, 4) := by decide
  exact h9 i h
def q_mn (x y : Int32) : Int32 := if y < x then y else x
def q_tf (sp len : Int32) (fr to zs : Nat → Int32) : Nat → Int64 × Int64 × Int32
  | 0 => (0, 1, len)
  | z + 1 => ((q_tf sp len fr to zs z).1 * (q_mn sp (zs z)).toInt64 + (q_mn (to z) len - q_mn (fr z) len).toInt64 * 60 * (q_tf sp len fr to zs z).2.1, (q_tf sp len fr to zs z).2.1 * (q_mn sp (zs z)).toInt64, (q_tf sp len fr to zs z).2.2 - (q_mn (to z) len - q_mn (fr z) len))
def q_time (sp len : Int32) (fr to zs : Nat → Int32) (k : Nat) : Int32 := q_dv ((q_tf sp len fr to zs k).1 * sp.toInt64 + (q_tf sp len fr to zs k).2.2.toInt64 * 60 * (q_tf sp len fr to zs k).2.1) ((q_tf sp len fr to zs k).2.1 * sp.toInt64)
def q_ls (x y : Int32) : Int32 := if x < y then x else y
def q_tm (sp len : Int32) (fr to zs : Nat → Int32) : Nat → Int64 × Int64 × Int32
  | 0 => (0, sp.toInt64, len)
  | z + 1 => if q_ls (to z) len - q_ls (fr z) len = 0 ∨ sp ≤ zs z then q_tm sp len fr to zs z else ((q_tm sp len fr to zs z).1 * (zs z).toInt64 + 60 * (q_ls (to z) len - q_ls (fr z) len).toInt64 * (q_tm sp len fr to zs z).2.1, (q_tm sp len fr to zs z).2.1 * (zs z).toInt64, (q_tm sp len fr to zs z).2.2 - (q_ls (to z) len - q_ls (fr z) len))
def q_mtime (sp len : Int32) (fr to zs : Nat → Int32) (k : Nat) : Int32 := (((q_tm sp len fr to zs k).1 + 60 * (q_tm sp len fr to zs k).2.2.toInt64 * ((q_tm sp len fr to zs k).2.1 / sp.toInt64) + (q_tm sp len fr to zs k).2.1 - 1) / (q_tm sp len fr to zs k).2.1).toInt32
section TM
variable {C : q_C} {l : Launch} {μ : q_M} {b : Bool}
set_option maxRecDepth 100000 in
set_option maxHeartbeats 4000000 in
theorem lp_time {r i K : Nat} {sp len : Int32} (hr : r = 70 ∨ r = 96) (hi7 : i < 7) (hK : K ≤ 4) (hc : μ (r + 1) i = nI K) : ∀ k z, z + k = K → q_G C l FX3_timeFor 1 142 142 (q_is (q_time sp len (μ (r + 3 + i)) (μ (r + 11 + i)) (μ (r + 19 + i)) K) μ (q_ρ b)) 142 μ (q_ρ b) [(0, .int sp), (1, .int len), (2, .ref (q_a C r)), (3, .int (nI i)), (4, .long (q_tf sp len (μ (r + 3 + i)) (μ (r + 11 + i)) (μ (r + 19 + i)) z).1), (6, .long (q_tf sp len (μ (r + 3 + i)) (μ (r + 11 + i)) (μ (r + 19 + i)) z).2.1), (8, .int (q_tf sp len (μ (r + 3 + i)) (μ (r + 11 + i)) (μ (r + 19 + i)) z).2.2), (9, .int (nI z))] [] 12 := by
  intro k
  induction k with
  | zero =>
    intro z hi
    rcases hr with rfl | rfl
    all_goals
      refine g_iload 14 dX3_timeFor_12 rfl rfl ?_
      refine g_aload_n 15 dX3_timeFor_14 rfl rfl ?_
      refine g_getR 18 _ dX3_timeFor_15 rfl f_X3_97 (by decide) rfl rfl rfl ?_
      refine g_iload_n 19 dX3_timeFor_18 rfl rfl ?_
      refine g_iald 20 dX3_timeFor_19 rfl (by decide) rfl (vp_in_nI hi7 (by omega)) ?_
      rw [nI_clamp (show i < 2 ^ 31 by omega)]
      rw [show μ _ i = nI K from hc]
      refine g_icmp_ge 113 23 dX3_timeFor_20 rfl (by decide) (fun h20 => ?_) (fun h20 => ?_)
      · refine g_lload 115 dX3_timeFor_113 rfl rfl ?_
        refine g_iload_n 116 dX3_timeFor_115 rfl rfl ?_
        refine g_i2l 117 dX3_timeFor_116 rfl ?_
        refine g_lmul 118 dX3_timeFor_117 rfl ?_
        refine g_iload 120 dX3_timeFor_118 rfl rfl ?_
        refine g_i2l 121 dX3_timeFor_120 rfl ?_
        refine g_ldc2 124 60 dX3_timeFor_121 rfl n_X3_110 ?_
        refine g_lmul 125 dX3_timeFor_124 rfl ?_
        refine g_lload 127 dX3_timeFor_125 rfl rfl ?_
        refine g_lmul 128 dX3_timeFor_127 rfl ?_
        refine g_ladd 129 dX3_timeFor_128 rfl ?_
        refine g_lstore 131 dX3_timeFor_129 rfl (by decide) ?_
        refine g_lload 133 dX3_timeFor_131 rfl rfl ?_
        refine g_lload 135 dX3_timeFor_133 rfl rfl ?_
        refine g_iload_n 136 dX3_timeFor_135 rfl rfl ?_
        refine g_i2l 137 dX3_timeFor_136 rfl ?_
        refine g_lmul 138 dX3_timeFor_137 rfl ?_
        refine g_SNi 141 [_, _] _ dX3_timeFor_138 rfl m_X7_divideUpwards l_X3_112 rfl (c_divUp _ _) rfl (Nat.le_of_ble_eq_true rfl) (by decide) (fun v138 μ138 ρ138 hc9 => ?_)
        obtain ⟨rfl, rfl, rfl⟩ := hc9
        exact g_ri dX3_timeFor_141 rfl rfl ⟨by rw [show z = K by omega]; rfl, rfl, rfl⟩
      · exact absurd (nI_le (by omega) (by omega)) h20
  | succ k ih =>
    intro z hi
    rcases hr with rfl | rfl
    all_goals
      refine g_iload 14 dX3_timeFor_12 rfl rfl ?_
      refine g_aload_n 15 dX3_timeFor_14 rfl rfl ?_
      refine g_getR 18 _ dX3_timeFor_15 rfl f_X3_97 (by decide) rfl rfl rfl ?_
      refine g_iload_n 19 dX3_timeFor_18 rfl rfl ?_
      refine g_iald 20 dX3_timeFor_19 rfl (by decide) rfl (vp_in_nI hi7 (by omega)) ?_
      rw [nI_clamp (show i < 2 ^ 31 by omega)]
      rw [show μ _ i = nI K from hc]
      refine g_icmp_ge 113 23 dX3_timeFor_20 rfl (by decide) (fun h20 => ?_) (fun h20 => ?_)
      · exact absurd h20 (nI_ge (by omega) (by omega))
      · refine g_iload 25 dX3_timeFor_23 rfl rfl ?_
        refine g_iconst 26 4 dX3_timeFor_25 rfl (by decide) ?_
        refine g_icmp_ge 113 29 dX3_timeFor_26 rfl (by decide) (fun h26 => ?_) (fun h26 => ?_)
        · exact absurd h26 (nI_ge (a := z) (b := 4) (by omega) (by omega))
        · refine g_aload_n 30 dX3_timeFor_29 rfl rfl ?_
          refine g_getR 33 _ dX3_timeFor_30 rfl f_X3_102 (by decide) rfl rfl rfl ?_
          refine g_iload_n 34 dX3_timeFor_33 rfl rfl ?_
          refine g_aald 35 _ dX3_timeFor_34 rfl (by decide) rfl (vp_in_nI hi7 (by omega)) rfl ?_
          refine g_iload 37 dX3_timeFor_35 rfl rfl ?_
          rw [nI_clamp (show i < 2 ^ 31 by omega)]
          refine g_iald 38 dX3_timeFor_37 rfl (by omega) (by first | exact k_81 i hi7 | exact k_107 i hi7) (vp_in_nI (show z < 4 by omega) (by omega)) ?_
          rw [nI_clamp (show z < 2 ^ 31 by omega)]
          refine g_iload_n 39 dX3_timeFor_38 rfl rfl ?_
          refine g_min 42 dX3_timeFor_39 rfl a_X3_80 a_min_s a_ini a_min_c (by decide) (Nat.le_of_ble_eq_true rfl) ?_
          refine g_aload_n 43 dX3_timeFor_42 rfl rfl ?_
          refine g_getR 46 _ dX3_timeFor_43 rfl f_X3_105 (by decide) rfl rfl rfl ?_
          refine g_iload_n 47 dX3_timeFor_46 rfl rfl ?_
          refine g_aald 48 _ dX3_timeFor_47 rfl (by decide) rfl (vp_in_nI hi7 (by omega)) rfl ?_
          refine g_iload 50 dX3_timeFor_48 rfl rfl ?_
          rw [nI_clamp (show i < 2 ^ 31 by omega)]
          refine g_iald 51 dX3_timeFor_50 rfl (by omega) (by first | exact k_73 i hi7 | exact k_99 i hi7) (vp_in_nI (show z < 4 by omega) (by omega)) ?_
          rw [nI_clamp (show z < 2 ^ 31 by omega)]
          refine g_iload_n 52 dX3_timeFor_51 rfl rfl ?_
          refine g_min 55 dX3_timeFor_52 rfl a_X3_80 a_min_s a_ini a_min_c (by decide) (Nat.le_of_ble_eq_true rfl) ?_
          refine g_isub 56 dX3_timeFor_55 rfl ?_
          refine g_istore 58 dX3_timeFor_56 rfl (by decide) ?_
          refine g_iload_n 59 dX3_timeFor_58 rfl rfl ?_
          refine g_aload_n 60 dX3_timeFor_59 rfl rfl ?_
          refine g_getR 63 _ dX3_timeFor_60 rfl f_X3_108 (by decide) rfl rfl rfl ?_
          refine g_iload_n 64 dX3_timeFor_63 rfl rfl ?_
          refine g_aald 65 _ dX3_timeFor_64 rfl (by decide) rfl (vp_in_nI hi7 (by omega)) rfl ?_
          refine g_iload 67 dX3_timeFor_65 rfl rfl ?_
          rw [nI_clamp (show i < 2 ^ 31 by omega)]
          refine g_iald 68 dX3_timeFor_67 rfl (by omega) (by first | exact k_89 i hi7 | exact k_115 i hi7) (vp_in_nI (show z < 4 by omega) (by omega)) ?_
          rw [nI_clamp (show z < 2 ^ 31 by omega)]
          refine g_min 71 dX3_timeFor_68 rfl a_X3_80 a_min_s a_ini a_min_c (by decide) (Nat.le_of_ble_eq_true rfl) ?_
          refine g_istore 73 dX3_timeFor_71 rfl (by decide) ?_
          refine g_lload 75 dX3_timeFor_73 rfl rfl ?_
          refine g_iload 77 dX3_timeFor_75 rfl rfl ?_
          refine g_i2l 78 dX3_timeFor_77 rfl ?_
          refine g_lmul 79 dX3_timeFor_78 rfl ?_
          refine g_iload 81 dX3_timeFor_79 rfl rfl ?_
          refine g_i2l 82 dX3_timeFor_81 rfl ?_
          refine g_ldc2 85 60 dX3_timeFor_82 rfl n_X3_110 ?_
          refine g_lmul 86 dX3_timeFor_85 rfl ?_
          refine g_lload 88 dX3_timeFor_86 rfl rfl ?_
          refine g_lmul 89 dX3_timeFor_88 rfl ?_
          refine g_ladd 90 dX3_timeFor_89 rfl ?_
          refine g_lstore 92 dX3_timeFor_90 rfl (by decide) ?_
          refine g_lload 94 dX3_timeFor_92 rfl rfl ?_
          refine g_iload 96 dX3_timeFor_94 rfl rfl ?_
          refine g_i2l 97 dX3_timeFor_96 rfl ?_
          refine g_lmul 98 dX3_timeFor_97 rfl ?_
          refine g_lstore 100 dX3_timeFor_98 rfl (by decide) ?_
          refine g_iload 102 dX3_timeFor_100 rfl rfl ?_
          refine g_iload 104 dX3_timeFor_102 rfl rfl ?_
          refine g_isub 105 dX3_timeFor_104 rfl ?_
          refine g_istore 107 dX3_timeFor_105 rfl (by decide) ?_
          refine g_iinc 110 (_ + 1) dX3_timeFor_107 rfl rfl rfl (by decide) ?_
          refine g_goto 12 dX3_timeFor_110 (by decide) ?_
          rw [nI_1]
          refine g_lv [(0, _), (1, _), (2, _), (3, _), (4, _), (6, _), (8, _), (9, _)] rfl ?_
          exact ih (z + 1) (by omega)
set_option maxRecDepth 100000 in
set_option maxHeartbeats 4000000 in
theorem c_time {r i K : Nat} (sp len : Int32) (hr : r = 70 ∨ r = 96) (hi7 : i < 7) (hK : K ≤ 4) (hc : μ (r + 1) i = nI K) : q_Ct C l FX3_timeFor 1 142 142 [.int sp, .int len, .ref (q_a C r), .int (nI i)] μ (q_ρ b) (q_is (q_time sp len (μ (r + 3 + i)) (μ (r + 11 + i)) (μ (r + 19 + i)) K) μ (q_ρ b)) := by
  refine q_entry rfl (by decide) (Nat.le_of_ble_eq_true rfl) ?_
  refine g_lv [(0, _), (1, _), (2, _), (3, _)] rfl ?_
  refine g_lconst 1 0 dX3_timeFor_0 rfl (by decide) ?_
  refine g_lstore 3 dX3_timeFor_1 rfl (by decide) ?_
  refine g_lconst 4 1 dX3_timeFor_3 rfl (by decide) ?_
  refine g_lstore 6 dX3_timeFor_4 rfl (by decide) ?_
  refine g_iload_n 7 dX3_timeFor_6 rfl rfl ?_
  refine g_istore 9 dX3_timeFor_7 rfl (by decide) ?_
  refine g_iconst 10 0 dX3_timeFor_9 rfl (by decide) ?_
  refine g_istore 12 dX3_timeFor_10 rfl (by decide) ?_
  refine g_lv [(0, _), (1, _), (2, _), (3, _), (4, .long 0), (6, .long 1), (8, _), (9, .int 0)] rfl ?_
  exact lp_time hr hi7 hK hc K 0 (by omega)
end TM
section TL2
variable {C : q_C} {l : Launch} {μ : q_M} {ρ : q_R}
set_option maxRecDepth 100000 in
set_option maxHeartbeats 4000000 in
theorem c_lesser (x y : Int32) : q_Ct C l FX8_lesser 0 142 142 [.int x, .int y] μ ρ (q_is (q_ls x y) μ ρ) := by
  refine q_entry rfl (by decide) (Nat.le_of_ble_eq_true rfl) ?_
  refine g_lv [(0, _), (1, _)] rfl ?_
  refine g_iload_n 1 dX8_lesser_0 rfl rfl ?_
  refine g_iload_n 2 dX8_lesser_1 rfl rfl ?_
  refine g_icmp_ge 9 5 dX8_lesser_2 rfl (by decide) (fun h2 => ?_) (fun h2 => ?_)
  · refine g_iload_n 10 dX8_lesser_9 rfl rfl ?_
    exact g_ri dX8_lesser_10 rfl rfl ⟨if_neg (fun q => absurd h2 (Int32.not_le.mpr q)), rfl, rfl⟩
  · refine g_iload_n 6 dX8_lesser_5 rfl rfl ?_
    refine g_goto 10 dX8_lesser_6 (by decide) ?_
    exact g_ri dX8_lesser_10 rfl rfl ⟨if_pos (Int32.not_le.mp h2), rfl, rfl⟩
end TL2
section TM2
variable {C : q_C} {l : Launch} {μ : q_M} {b : Bool}
set_option maxRecDepth 100000 in
set_option maxHeartbeats 4000000 in
theorem lp_Mtime {r i K : Nat} (hr : r < 10) (hi7 : i < 7) (hK : K ≤ 4) (hc : μ 129 i = nI K) (hs : ¬ (μ 125 r).toInt64 = 0) (hb : ¬ (q_tm (μ 125 r) (μ 123 (i + 1)) (fun z => μ 130 (12 * i + 3 * z)) (fun z => μ 130 (12 * i + 3 * z + 1)) (fun z => μ 130 (12 * i + 3 * z + 2)) K).2.1 = 0) : ∀ k z, z + k = K → q_G C l FX8_timeOf 1 142 142 (q_is (q_mtime (μ 125 r) (μ 123 (i + 1)) (fun z => μ 130 (12 * i + 3 * z)) (fun z => μ 130 (12 * i + 3 * z + 1)) (fun z => μ 130 (12 * i + 3 * z + 2)) K) μ (q_ρ b)) 142 μ (q_ρ b) [(0, .ref (q_a C 122)), (1, .int (nI r)), (2, .int (nI i)), (3, .int (μ 123 (i + 1))), (4, .int (q_tm (μ 125 r) (μ 123 (i + 1)) (fun z => μ 130 (12 * i + 3 * z)) (fun z => μ 130 (12 * i + 3 * z + 1)) (fun z => μ 130 (12 * i + 3 * z + 2)) z).2.2), (5, .long (q_tm (μ 125 r) (μ 123 (i + 1)) (fun z => μ 130 (12 * i + 3 * z)) (fun z => μ 130 (12 * i + 3 * z + 1)) (fun z => μ 130 (12 * i + 3 * z + 2)) z).2.1), (7, .long (q_tm (μ 125 r) (μ 123 (i + 1)) (fun z => μ 130 (12 * i + 3 * z)) (fun z => μ 130 (12 * i + 3 * z + 1)) (fun z => μ 130 (12 * i + 3 * z + 2)) z).1), (9, .int (nI z))] [] 24 := by
  intro k
  induction k with
  | zero =>
    intro z hi
    refine g_iload 26 dX8_timeOf_24 rfl rfl ?_
    refine g_aload_n 27 dX8_timeOf_26 rfl rfl ?_
    refine g_getR 30 _ dX8_timeOf_27 rfl f_X8_28 (by decide) rfl rfl rfl ?_
    refine g_iload_n 31 dX8_timeOf_30 rfl rfl ?_
    refine g_iald 32 dX8_timeOf_31 rfl (by decide) rfl (vp_in_nI hi7 (by omega)) ?_
    rw [nI_clamp (show i < 2 ^ 31 by omega)]
    rw [hc]
    refine g_icmp_ge 153 35 dX8_timeOf_32 rfl (by decide) (fun h32 => ?_) (fun h32 => ?_)
    · rw [show z = K by omega]
      refine g_lload 155 dX8_timeOf_153 rfl rfl ?_
      refine g_ldc2 158 60 dX8_timeOf_155 rfl n_X8_165 ?_
      refine g_iload 160 dX8_timeOf_158 rfl rfl ?_
      refine g_i2l 161 dX8_timeOf_160 rfl ?_
      refine g_lmul 162 dX8_timeOf_161 rfl ?_
      refine g_lload 164 dX8_timeOf_162 rfl rfl ?_
      refine g_aload_n 165 dX8_timeOf_164 rfl rfl ?_
      refine g_getR 168 _ dX8_timeOf_165 rfl f_X8_16 (by decide) rfl rfl rfl ?_
      refine g_iload_n 169 dX8_timeOf_168 rfl rfl ?_
      refine g_iald 170 dX8_timeOf_169 rfl (by decide) rfl (vp_in_nI hr (by omega)) ?_
      rw [nI_clamp (show r < 2 ^ 31 by omega)]
      refine g_i2l 171 dX8_timeOf_170 rfl ?_
      refine g_ldiv 172 dX8_timeOf_171 rfl hs ?_
      refine g_lmul 173 dX8_timeOf_172 rfl ?_
      refine g_ladd 174 dX8_timeOf_173 rfl ?_
      refine g_lstore 176 dX8_timeOf_174 rfl (by decide) ?_
      refine g_lload 178 dX8_timeOf_176 rfl rfl ?_
      refine g_lload 180 dX8_timeOf_178 rfl rfl ?_
      refine g_ladd 181 dX8_timeOf_180 rfl ?_
      refine g_lconst 182 1 dX8_timeOf_181 rfl (by decide) ?_
      refine g_lsub 183 dX8_timeOf_182 rfl ?_
      refine g_lload 185 dX8_timeOf_183 rfl rfl ?_
      refine g_ldiv 186 dX8_timeOf_185 rfl hb ?_
      refine g_l2i 187 dX8_timeOf_186 rfl ?_
      exact g_ri dX8_timeOf_187 rfl rfl ⟨rfl, rfl, rfl⟩
    · exact absurd (nI_le (by omega) (by omega)) h32
  | succ k ih =>
    intro z hi
    refine g_iload 26 dX8_timeOf_24 rfl rfl ?_
    refine g_aload_n 27 dX8_timeOf_26 rfl rfl ?_
    refine g_getR 30 _ dX8_timeOf_27 rfl f_X8_28 (by decide) rfl rfl rfl ?_
    refine g_iload_n 31 dX8_timeOf_30 rfl rfl ?_
    refine g_iald 32 dX8_timeOf_31 rfl (by decide) rfl (vp_in_nI hi7 (by omega)) ?_
    rw [nI_clamp (show i < 2 ^ 31 by omega)]
    rw [hc]
    refine g_icmp_ge 153 35 dX8_timeOf_32 rfl (by decide) (fun h32 => ?_) (fun h32 => ?_)
    · exact absurd h32 (nI_ge (by omega) (by omega))
    · refine g_bipush 37 12 dX8_timeOf_35 rfl (by decide) ?_
      refine g_iload_n 38 dX8_timeOf_37 rfl rfl ?_
      refine g_imul 39 dX8_timeOf_38 rfl ?_
      refine g_iconst 40 3 dX8_timeOf_39 rfl (by decide) ?_
      refine g_iload 42 dX8_timeOf_40 rfl rfl ?_
      refine g_imul 43 dX8_timeOf_42 rfl ?_
      refine g_iadd 44 dX8_timeOf_43 rfl ?_
      rw [show (12 : Int32) * nI i + 3 * nI z = nI (12 * i + 3 * z) from by rw [show (12 : Int32) * nI i = nI (12 * i) from pk_mul 12 i, show (3 : Int32) * nI z = nI (3 * z) from pk_mul 3 z, nI_add]]
      refine g_istore 46 dX8_timeOf_44 rfl (by decide) ?_
      refine g_aload_n 47 dX8_timeOf_46 rfl rfl ?_
      refine g_getR 50 _ dX8_timeOf_47 rfl f_X8_31 (by decide) rfl rfl rfl ?_
      refine g_iload 52 dX8_timeOf_50 rfl rfl ?_
      refine g_iconst 53 1 dX8_timeOf_52 rfl (by decide) ?_
      refine g_iadd 54 dX8_timeOf_53 rfl ?_
      rw [nI_1]
      refine g_iald 55 dX8_timeOf_54 rfl (by decide) rfl (vp_in_nI (show 12 * i + 3 * z + 1 < 84 by omega) (by omega)) ?_
      rw [nI_clamp (show 12 * i + 3 * z + 1 < 2 ^ 31 by omega)]
      refine g_iload_n 56 dX8_timeOf_55 rfl rfl ?_
      refine g_Si 59 [_, _] _ dX8_timeOf_56 rfl m_X8_lesser l_X8_161 rfl (c_lesser _ _) rfl (Nat.le_of_ble_eq_true rfl) (by decide) (fun v56 μ56 ρ56 hc9 => ?_)
      obtain ⟨rfl, rfl, rfl⟩ := hc9
      refine g_aload_n 60 dX8_timeOf_59 rfl rfl ?_
      refine g_getR 63 _ dX8_timeOf_60 rfl f_X8_31 (by decide) rfl rfl rfl ?_
      refine g_iload 65 dX8_timeOf_63 rfl rfl ?_
      refine g_iald 66 dX8_timeOf_65 rfl (by decide) rfl (vp_in_nI (show 12 * i + 3 * z < 84 by omega) (by omega)) ?_
      rw [nI_clamp (show 12 * i + 3 * z < 2 ^ 31 by omega)]
      refine g_iload_n 67 dX8_timeOf_66 rfl rfl ?_
      refine g_Si 70 [_, _] _ dX8_timeOf_67 rfl m_X8_lesser l_X8_161 rfl (c_lesser _ _) rfl (Nat.le_of_ble_eq_true rfl) (by decide) (fun v67 μ67 ρ67 hc9 => ?_)
      obtain ⟨rfl, rfl, rfl⟩ := hc9
      refine g_isub 71 dX8_timeOf_70 rfl ?_
      refine g_istore 73 dX8_timeOf_71 rfl (by decide) ?_
      refine g_iload 75 dX8_timeOf_73 rfl rfl ?_
      refine g_if_eq 147 78 dX8_timeOf_75 rfl (by decide) (fun h75 => ?_) (fun h75 => ?_)
      · refine g_iinc 150 (_ + 1) dX8_timeOf_147 rfl rfl rfl (by decide) ?_
        refine g_goto 24 dX8_timeOf_150 (by decide) ?_
        rw [nI_1]
        refine g_lv [(0, _), (1, _), (2, _), (3, _), (4, _), (5, _), (7, _), (9, _)] rfl ?_
        have h9 := ih (z + 1) (by omega)
        rw [q_tm, if_pos (Or.inl h75)] at h9
        exact h9
      · refine g_aload_n 79 dX8_timeOf_78 rfl rfl ?_
        refine g_getR 82 _ dX8_timeOf_79 rfl f_X8_31 (by decide) rfl rfl rfl ?_
        refine g_iload 84 dX8_timeOf_82 rfl rfl ?_
        refine g_iconst 85 2 dX8_timeOf_84 rfl (by decide) ?_
        refine g_iadd 86 dX8_timeOf_85 rfl ?_
        rw [show nI (12 * i + 3 * z) + 2 = nI (12 * i + 3 * z + 2) from nI_add _ 2]
        refine g_iald 87 dX8_timeOf_86 rfl (by decide) rfl (vp_in_nI (show 12 * i + 3 * z + 2 < 84 by omega) (by omega)) ?_
        rw [nI_clamp (show 12 * i + 3 * z + 2 < 2 ^ 31 by omega)]
        refine g_aload_n 88 dX8_timeOf_87 rfl rfl ?_
        refine g_getR 91 _ dX8_timeOf_88 rfl f_X8_16 (by decide) rfl rfl rfl ?_
        refine g_iload_n 92 dX8_timeOf_91 rfl rfl ?_
        refine g_iald 93 dX8_timeOf_92 rfl (by decide) rfl (vp_in_nI hr (by omega)) ?_
        rw [nI_clamp (show r < 2 ^ 31 by omega)]
        refine g_icmp_lt 99 96 dX8_timeOf_93 rfl (by decide) (fun h93 => ?_) (fun h93 => ?_)
        · refine g_iload 101 dX8_timeOf_99 rfl rfl ?_
          refine g_iload 103 dX8_timeOf_101 rfl rfl ?_
          refine g_isub 104 dX8_timeOf_103 rfl ?_
          refine g_istore 106 dX8_timeOf_104 rfl (by decide) ?_
          refine g_lload 108 dX8_timeOf_106 rfl rfl ?_
          refine g_aload_n 109 dX8_timeOf_108 rfl rfl ?_
          refine g_getR 112 _ dX8_timeOf_109 rfl f_X8_31 (by decide) rfl rfl rfl ?_
          refine g_iload 114 dX8_timeOf_112 rfl rfl ?_
          refine g_iconst 115 2 dX8_timeOf_114 rfl (by decide) ?_
          refine g_iadd 116 dX8_timeOf_115 rfl ?_
          rw [show nI (12 * i + 3 * z) + 2 = nI (12 * i + 3 * z + 2) from nI_add _ 2]
          refine g_iald 117 dX8_timeOf_116 rfl (by decide) rfl (vp_in_nI (show 12 * i + 3 * z + 2 < 84 by omega) (by omega)) ?_
          rw [nI_clamp (show 12 * i + 3 * z + 2 < 2 ^ 31 by omega)]
          refine g_i2l 118 dX8_timeOf_117 rfl ?_
          refine g_lmul 119 dX8_timeOf_118 rfl ?_
          refine g_ldc2 122 60 dX8_timeOf_119 rfl n_X8_165 ?_
          refine g_iload 124 dX8_timeOf_122 rfl rfl ?_
          refine g_i2l 125 dX8_timeOf_124 rfl ?_
          refine g_lmul 126 dX8_timeOf_125 rfl ?_
          refine g_lload 128 dX8_timeOf_126 rfl rfl ?_
          refine g_lmul 129 dX8_timeOf_128 rfl ?_
          refine g_ladd 130 dX8_timeOf_129 rfl ?_
          refine g_lstore 132 dX8_timeOf_130 rfl (by decide) ?_
          refine g_lload 134 dX8_timeOf_132 rfl rfl ?_
          refine g_aload_n 135 dX8_timeOf_134 rfl rfl ?_
          refine g_getR 138 _ dX8_timeOf_135 rfl f_X8_31 (by decide) rfl rfl rfl ?_
          refine g_iload 140 dX8_timeOf_138 rfl rfl ?_
          refine g_iconst 141 2 dX8_timeOf_140 rfl (by decide) ?_
          refine g_iadd 142 dX8_timeOf_141 rfl ?_
          rw [show nI (12 * i + 3 * z) + 2 = nI (12 * i + 3 * z + 2) from nI_add _ 2]
          refine g_iald 143 dX8_timeOf_142 rfl (by decide) rfl (vp_in_nI (show 12 * i + 3 * z + 2 < 84 by omega) (by omega)) ?_
          rw [nI_clamp (show 12 * i + 3 * z + 2 < 2 ^ 31 by omega)]
          refine g_i2l 144 dX8_timeOf_143 rfl ?_
          refine g_lmul 145 dX8_timeOf_144 rfl ?_
          refine g_lstore 147 dX8_timeOf_145 rfl (by decide) ?_
          refine g_iinc 150 (_ + 1) dX8_timeOf_147 rfl rfl rfl (by decide) ?_
          refine g_goto 24 dX8_timeOf_150 (by decide) ?_
          rw [nI_1]
          refine g_lv [(0, _), (1, _), (2, _), (3, _), (4, _), (5, _), (7, _), (9, _)] rfl ?_
          have h9 := ih (z + 1) (by omega)
          rw [q_tm, if_neg (fun q => q.elim h75 (fun q2 => absurd h93 (Int32.not_lt.mpr q2)))] at h9
          exact h9
        · refine g_goto 147 dX8_timeOf_96 (by decide) ?_
          refine g_iinc 150 (_ + 1) dX8_timeOf_147 rfl rfl rfl (by decide) ?_
          refine g_goto 24 dX8_timeOf_150 (by decide) ?_
          rw [nI_1]
          refine g_lv [(0, _), (1, _), (2, _), (3, _), (4, _), (5, _), (7, _), (9, _)] rfl ?_
          have h9 := ih (z + 1) (by omega)
          rw [q_tm, if_pos (Or.inr (Int32.not_lt.mp h93))] at h9
          exact h9
set_option maxRecDepth 100000 in
set_option maxHeartbeats 4000000 in
theorem c_Mtime {r i K : Nat} (hr : r < 10) (hi7 : i < 7) (hK : K ≤ 4) (hc : μ 129 i = nI K) (hs : ¬ (μ 125 r).toInt64 = 0) (hb : ¬ (q_tm (μ 125 r) (μ 123 (i + 1)) (fun z => μ 130 (12 * i + 3 * z)) (fun z => μ 130 (12 * i + 3 * z + 1)) (fun z => μ 130 (12 * i + 3 * z + 2)) K).2.1 = 0) : q_Ct C l FX8_timeOf 1 142 142 [.ref (q_a C 122), .int (nI r), .int (nI i)] μ (q_ρ b) (q_is (q_mtime (μ 125 r) (μ 123 (i + 1)) (fun z => μ 130 (12 * i + 3 * z)) (fun z => μ 130 (12 * i + 3 * z + 1)) (fun z => μ 130 (12 * i + 3 * z + 2)) K) μ (q_ρ b)) := by
  refine q_entry rfl (by decide) (Nat.le_of_ble_eq_true rfl) ?_
  refine g_lv [(0, _), (1, _), (2, _)] rfl ?_
  refine g_aload_n 1 dX8_timeOf_0 rfl rfl ?_
  refine g_iload_n 2 dX8_timeOf_1 rfl rfl ?_
  refine g_Vi 5 [_] _ dX8_timeOf_2 rfl m_X8_length l_X8_88 rfl rfl rfl (by decide) (c_Mlength _ (by rw [nI_1]; exact vp_in_nI (show i + 1 < 8 by omega) (by omega))) rfl (Nat.le_of_ble_eq_true rfl) (by decide) (fun v2 μ2 ρ2 hc9 => ?_)
  obtain ⟨rfl, rfl, rfl⟩ := hc9
  rw [nI_1, nI_clamp (show i + 1 < 2 ^ 31 by omega)]
  refine g_istore_n 6 dX8_timeOf_5 rfl (by decide) ?_
  refine g_iload_n 7 dX8_timeOf_6 rfl rfl ?_
  refine g_istore 9 dX8_timeOf_7 rfl (by decide) ?_
  refine g_aload_n 10 dX8_timeOf_9 rfl rfl ?_
  refine g_getR 13 _ dX8_timeOf_10 rfl f_X8_16 (by decide) rfl rfl rfl ?_
  refine g_iload_n 14 dX8_timeOf_13 rfl rfl ?_
  refine g_iald 15 dX8_timeOf_14 rfl (by decide) rfl (vp_in_nI hr (by omega)) ?_
  rw [nI_clamp (show r < 2 ^ 31 by omega)]
  refine g_i2l 16 dX8_timeOf_15 rfl ?_
  refine g_lstore 18 dX8_timeOf_16 rfl (by decide) ?_
  refine g_lconst 19 0 dX8_timeOf_18 rfl (by decide) ?_
  refine g_lstore 21 dX8_timeOf_19 rfl (by decide) ?_
  refine g_iconst 22 0 dX8_timeOf_21 rfl (by decide) ?_
  refine g_istore 24 dX8_timeOf_22 rfl (by decide) ?_
  refine g_lv [(0, _), (1, _), (2, _), (3, _), (4, _), (5, _), (7, .long 0), (9, .int 0)] rfl ?_
  exact lp_Mtime hr hi7 hK hc hs hb K 0 (by omega)
end TM2
end
section
/-! ===== standings: pure ===== -/
def q_ah (S : Nat → Int32) (r x : Nat) : Bool := decide (S r < S x ∨ (S r = S x ∧ nI r < nI x))
def q_ps (A : Nat → Bool) (o : Nat → Nat) : Nat → Nat
  | 0 => 0
  | p + 1 => bif A (o p) then q_ps A o p else p + 1
theorem q_ps_le (A : Nat → Bool) (o : Nat → Nat) : ∀ m, q_ps A o m ≤ m
  | 0 => Nat.le_refl _
  | p + 1 => by
    unfold q_ps
    cases A (o p) with
    | true => exact Nat.le_succ_of_le (q_ps_le A o p)
    | false => exact Nat.le_refl _
def q_io (A : Nat → Bool) (o : Nat → Nat) (m r : Nat) : Nat → Nat := fun k => if k < q_ps A o m then o k else if k = q_ps A o m then r else o (k - 1)
/-- who came of the first k starters, and in which order -/
def q_so (S bk : Nat → Int32) (i : Nat) (rin : Nat → Nat) : Nat → (Nat → Nat) × Nat
  | 0 => (fun _ => 0, 0)
  | k + 1 => if bk (rin k) = nI i then q_so S bk i rin k else (q_io (q_ah S (rin k)) (q_so S bk i rin k).1 (q_so S bk i rin k).2 (rin k), (q_so S bk i rin k).2 + 1)
theorem q_so_le (S bk : Nat → Int32) (i : Nat) (rin : Nat → Nat) : ∀ k, (q_so S bk i rin k).2 ≤ k
  | 0 => Nat.le_refl _
  | k + 1 => by
    have h := q_so_le S bk i rin k
    unfold q_so
    split
    · omega
    · exact Nat.succ_le_succ h
theorem q_so_mem (S bk : Nat → Int32) (i : Nat) (rin : Nat → Nat) : ∀ k j, j < (q_so S bk i rin k).2 → ∃ k', k' < k ∧ (q_so S bk i rin k).1 j = rin k' ∧ ¬ bk (rin k') = nI i
  | 0, j, h => absurd h (Nat.not_lt_zero _)
  | k + 1, j, h => by
    unfold q_so at h ⊢
    by_cases e : bk (rin k) = nI i
    · rw [if_pos e] at h ⊢
      obtain ⟨k', h1, h2, h3⟩ := q_so_mem S bk i rin k j h
      exact ⟨k', by omega, h2, h3⟩
    · rw [if_neg e] at h ⊢
      have hp := q_ps_le (q_ah S (rin k)) (q_so S bk i rin k).1 (q_so S bk i rin k).2
      show ∃ k', k' < k + 1 ∧ q_io (q_ah S (rin k)) (q_so S bk i rin k).1 (q_so S bk i rin k).2 (rin k) j = rin k' ∧ _
      have h : j < (q_so S bk i rin k).2 + 1 := h
      unfold q_io
      by_cases g1 : j < q_ps (q_ah S (rin k)) (q_so S bk i rin k).1 (q_so S bk i rin k).2
      · rw [if_pos g1]
        obtain ⟨k', h1, h2, h3⟩ := q_so_mem S bk i rin k j (by omega)
        exact ⟨k', by omega, h2, h3⟩
      · rw [if_neg g1]
        by_cases g2 : j = q_ps (q_ah S (rin k)) (q_so S bk i rin k).1 (q_so S bk i rin k).2
        · rw [if_pos g2]
          exact ⟨k, by omega, rfl, e⟩
        · rw [if_neg g2]
          obtain ⟨k', h1, h2, h3⟩ := q_so_mem S bk i rin k (j - 1) (by omega)
          exact ⟨k', by omega, h2, h3⟩
/-- the row while a place is made in it -/
def q_sh (μ : q_M) (oc off m p : Nat) : q_M := fun c j => if c = oc ∧ off + p < j ∧ j ≤ off + m then μ oc (j - 1) else μ c j
theorem q_sh_0 {μ : q_M} {oc off m : Nat} : q_sh μ oc off m m = μ := by
  funext c j
  unfold q_sh
  rw [if_neg (by omega)]
theorem q_sh_o {μ : q_M} {oc off m p c j : Nat} (h : c ≠ oc) : q_sh μ oc off m p c j = μ c j := if_neg (fun q => h q.1)
theorem q_sh_l {μ : q_M} {oc off m p j : Nat} (h : j ≤ off + p) : q_sh μ oc off m p oc j = μ oc j := if_neg (by omega)
theorem q_sh_s {μ : q_M} {oc off m p : Nat} (h : p + 1 ≤ m) : q_up (q_sh μ oc off m (p + 1)) oc (off + (p + 1)) (μ oc (off + p)) = q_sh μ oc off m p := by
  funext c j
  unfold q_up q_sh
  by_cases e : c = oc ∧ j = off + (p + 1)
  · rw [if_pos e, if_pos (by omega), show j - 1 = off + p by omega]
  · rw [if_neg e]
    by_cases e2 : c = oc ∧ off + (p + 1) < j ∧ j ≤ off + m
    · rw [if_pos e2, if_pos (by omega)]
    · rw [if_neg e2, if_neg (by omega)]
/-- the row with r in its place, and one more who came -/
def q_rk (μ : q_M) (oc off cc ci m p r : Nat) : q_M := q_up (q_up (q_sh μ oc off m p) oc (off + p) (nI r)) cc ci (nI (m + 1))
/-! ===== standings: the class ===== -/
section RK
variable {C : q_C} {l : Launch} {μ : q_M} {b : Bool}
set_option maxRecDepth 100000 in
set_option maxHeartbeats 4000000 in
theorem c_isAhead {i r x : Nat} (hi : i < 7) (hr : r < 10) (hx : x < 10) : q_Ct C l FX3_isAhead 0 142 142 [.ref (q_a C 11), .int (nI i), .int (nI r), .int (nI x)] μ (q_ρ b) (q_is (q_b (μ (45 + i) r < μ (45 + i) x ∨ (μ (45 + i) r = μ (45 + i) x ∧ nI r < nI x))) μ (q_ρ b)) := by
  refine q_entry rfl (by decide) (Nat.le_of_ble_eq_true rfl) ?_
  refine g_lv [(0, _), (1, _), (2, _), (3, _)] rfl ?_
  refine g_aload_n 1 dX3_isAhead_0 rfl rfl ?_
  refine g_getR 4 _ dX3_isAhead_1 rfl f_X3_25 (by decide) rfl rfl rfl ?_
  refine g_iload_n 5 dX3_isAhead_4 rfl rfl ?_
  refine g_aald 6 _ dX3_isAhead_5 rfl (by decide) rfl (vp_in_nI hi (by omega)) rfl ?_
  rw [nI_clamp (show i < 2 ^ 31 by omega)]
  refine g_iload_n 7 dX3_isAhead_6 rfl rfl ?_
  refine g_iald 8 dX3_isAhead_7 rfl (by omega) (k_45 i hi) (vp_in_nI hr (by omega)) ?_
  rw [nI_clamp (show r < 2 ^ 31 by omega)]
  refine g_aload_n 9 dX3_isAhead_8 rfl rfl ?_
  refine g_getR 12 _ dX3_isAhead_9 rfl f_X3_25 (by decide) rfl rfl rfl ?_
  refine g_iload_n 13 dX3_isAhead_12 rfl rfl ?_
  refine g_aald 14 _ dX3_isAhead_13 rfl (by decide) rfl (vp_in_nI hi (by omega)) rfl ?_
  rw [nI_clamp (show i < 2 ^ 31 by omega)]
  refine g_iload_n 15 dX3_isAhead_14 rfl rfl ?_
  refine g_iald 16 dX3_isAhead_15 rfl (by omega) (k_45 i hi) (vp_in_nI hx (by omega)) ?_
  rw [nI_clamp (show x < 2 ^ 31 by omega)]
  refine g_icmp_lt 43 19 dX3_isAhead_16 rfl (by decide) (fun h16 => ?_) (fun h16 => ?_)
  · refine g_iconst 44 1 dX3_isAhead_43 rfl (by decide) ?_
    refine g_goto 48 dX3_isAhead_44 (by decide) ?_
    exact g_rz dX3_isAhead_48 rfl (by first | exact Or.inl rfl | exact Or.inr rfl | assumption) rfl ⟨q_b_t (Or.inl h16), rfl, rfl⟩
  · refine g_aload_n 20 dX3_isAhead_19 rfl rfl ?_
    refine g_getR 23 _ dX3_isAhead_20 rfl f_X3_25 (by decide) rfl rfl rfl ?_
    refine g_iload_n 24 dX3_isAhead_23 rfl rfl ?_
    refine g_aald 25 _ dX3_isAhead_24 rfl (by decide) rfl (vp_in_nI hi (by omega)) rfl ?_
    rw [nI_clamp (show i < 2 ^ 31 by omega)]
    refine g_iload_n 26 dX3_isAhead_25 rfl rfl ?_
    refine g_iald 27 dX3_isAhead_26 rfl (by omega) (k_45 i hi) (vp_in_nI hr (by omega)) ?_
    rw [nI_clamp (show r < 2 ^ 31 by omega)]
    refine g_aload_n 28 dX3_isAhead_27 rfl rfl ?_
    refine g_getR 31 _ dX3_isAhead_28 rfl f_X3_25 (by decide) rfl rfl rfl ?_
    refine g_iload_n 32 dX3_isAhead_31 rfl rfl ?_
    refine g_aald 33 _ dX3_isAhead_32 rfl (by decide) rfl (vp_in_nI hi (by omega)) rfl ?_
    rw [nI_clamp (show i < 2 ^ 31 by omega)]
    refine g_iload_n 34 dX3_isAhead_33 rfl rfl ?_
    refine g_iald 35 dX3_isAhead_34 rfl (by omega) (k_45 i hi) (vp_in_nI hx (by omega)) ?_
    rw [nI_clamp (show x < 2 ^ 31 by omega)]
    refine g_icmp_ne 47 38 dX3_isAhead_35 rfl (by decide) (fun h35 => ?_) (fun h35 => ?_)
    · refine g_iconst 48 0 dX3_isAhead_47 rfl (by decide) ?_
      exact g_rz dX3_isAhead_48 rfl (by first | exact Or.inl rfl | exact Or.inr rfl | assumption) rfl ⟨q_b_f (fun q => q.elim h16 (fun q2 => h35 q2.1)), rfl, rfl⟩
    · refine g_iload_n 39 dX3_isAhead_38 rfl rfl ?_
      refine g_iload_n 40 dX3_isAhead_39 rfl rfl ?_
      refine g_icmp_ge 47 43 dX3_isAhead_40 rfl (by decide) (fun h40 => ?_) (fun h40 => ?_)
      · refine g_iconst 48 0 dX3_isAhead_47 rfl (by decide) ?_
        exact g_rz dX3_isAhead_48 rfl (by first | exact Or.inl rfl | exact Or.inr rfl | assumption) rfl ⟨q_b_f (fun q => q.elim h16 (fun q2 => absurd h40 (Int32.not_le.mpr q2.2))), rfl, rfl⟩
      · refine g_iconst 44 1 dX3_isAhead_43 rfl (by decide) ?_
        refine g_goto 48 dX3_isAhead_44 (by decide) ?_
        exact g_rz dX3_isAhead_48 rfl (by first | exact Or.inl rfl | exact Or.inr rfl | assumption) rfl ⟨q_b_t (Or.inr ⟨h35, Int32.not_le.mp h40⟩), rfl, rfl⟩
theorem q_ahb {S : Nat → Int32} {r x : Nat} {y z : Int32} (h1 : y = S r) (h2 : z = S x) : q_b (y < z ∨ (y = z ∧ nI r < nI x)) = 0 ↔ q_ah S r x = false := by
  subst h1 h2
  rw [q_b_0]
  simp [q_ah]
set_option maxRecDepth 100000 in
set_option maxHeartbeats 4000000 in
theorem lp_rank {i r m : Nat} {o : Nat → Nat} {S : Nat → Int32} (hi : i < 7) (hr : r < 10) (hm : m < 10) (hcm : μ 60 i = nI m) (ho : ∀ j, j < m → μ (53 + i) j = nI (o j) ∧ o j < 10 ∧ μ (45 + i) (o j) = S (o j)) (hSr : μ (45 + i) r = S r) : ∀ p, p ≤ m → q_G C l FX3_rank 1 142 142 (q_to (q_rk μ (53 + i) 0 60 i m (q_ps (q_ah S r) o p) r) (q_ρ b)) 142 (q_sh μ (53 + i) 0 m p) (q_ρ b) [(0, .ref (q_a C 11)), (1, .int (nI i)), (2, .int (nI r)), (3, .int (nI p))] [] 7 := by
  intro p
  induction p with
  | zero =>
    intro hpm
    refine g_iload_n 8 dX3_rank_7 rfl rfl ?_
    refine g_if_le 54 11 dX3_rank_8 rfl (by decide) (fun h8 => ?_) (fun h8 => ?_)
    · refine g_aload_n 55 dX3_rank_54 rfl rfl ?_
      refine g_getR 58 _ dX3_rank_55 rfl f_X3_28 (by decide) rfl rfl rfl ?_
      refine g_iload_n 59 dX3_rank_58 rfl rfl ?_
      refine g_aald 60 _ dX3_rank_59 rfl (by decide) rfl (vp_in_nI hi (by omega)) rfl ?_
      rw [nI_clamp (show i < 2 ^ 31 by omega)]
      refine g_iload_n 61 dX3_rank_60 rfl rfl ?_
      refine g_iload_n 62 dX3_rank_61 rfl rfl ?_
      refine g_iast 63 dX3_rank_62 rfl (by omega) (k_53 i hi) (vp_in_nI (show 0 < 10 by omega) (by omega)) ?_
      rw [nI_clamp (show 0 < 2 ^ 31 by omega)]
      refine g_aload_n 64 dX3_rank_63 rfl rfl ?_
      refine g_getR 67 _ dX3_rank_64 rfl f_X3_31 (by decide) rfl rfl rfl ?_
      refine g_iload_n 68 dX3_rank_67 rfl rfl ?_
      refine g_dup2 69 dX3_rank_68 rfl rfl rfl ?_
      refine g_iald 70 dX3_rank_69 rfl (by decide) rfl (vp_in_nI hi (by omega)) ?_
      rw [nI_clamp (show i < 2 ^ 31 by omega), q_upc (by omega), q_sh_o (by omega), hcm]
      refine g_iconst 71 1 dX3_rank_70 rfl (by decide) ?_
      refine g_iadd 72 dX3_rank_71 rfl ?_
      rw [nI_1]
      refine g_iast 73 dX3_rank_72 rfl (by decide) rfl (vp_in_nI hi (by omega)) ?_
      rw [nI_clamp (show i < 2 ^ 31 by omega)]
      exact g_rv dX3_rank_73 rfl rfl (by unfold q_rk; exact ⟨rfl, rfl⟩)
    · exact absurd (by decide) h8
  | succ p ih =>
    intro hpm
    refine g_iload_n 8 dX3_rank_7 rfl rfl ?_
    refine g_if_le 54 11 dX3_rank_8 rfl (by decide) (fun h8 => ?_) (fun h8 => ?_)
    · exact absurd h8 (nI_nle (by omega) (by omega))
    · refine g_aload_n 12 dX3_rank_11 rfl rfl ?_
      refine g_iload_n 13 dX3_rank_12 rfl rfl ?_
      refine g_iload_n 14 dX3_rank_13 rfl rfl ?_
      refine g_aload_n 15 dX3_rank_14 rfl rfl ?_
      refine g_getR 18 _ dX3_rank_15 rfl f_X3_28 (by decide) rfl rfl rfl ?_
      refine g_iload_n 19 dX3_rank_18 rfl rfl ?_
      refine g_aald 20 _ dX3_rank_19 rfl (by decide) rfl (vp_in_nI hi (by omega)) rfl ?_
      rw [nI_clamp (show i < 2 ^ 31 by omega)]
      refine g_iload_n 21 dX3_rank_20 rfl rfl ?_
      refine g_iconst 22 1 dX3_rank_21 rfl (by decide) ?_
      refine g_isub 23 dX3_rank_22 rfl ?_
      rw [nI_pred]
      refine g_iald 24 dX3_rank_23 rfl (by omega) (k_53 i hi) (vp_in_nI (show p < 10 by omega) (by omega)) ?_
      rw [nI_clamp (show p < 2 ^ 31 by omega), q_sh_l (by omega), (ho p (by omega)).1]
      refine g_Vi 27 [_, _, _] _ dX3_rank_24 rfl m_X3_isAhead l_X3_93 rfl rfl rfl (by decide) (c_isAhead hi hr (ho p (by omega)).2.1) rfl (Nat.le_of_ble_eq_true rfl) (by decide) (fun v24 μ24 ρ24 hc9 => ?_)
      obtain ⟨rfl, rfl, rfl⟩ := hc9
      rw [q_sh_o (by omega), q_sh_o (by omega)]
      refine g_if_eq 54 30 dX3_rank_27 rfl (by decide) (fun h27 => ?_) (fun h27 => ?_)
      · refine g_aload_n 55 dX3_rank_54 rfl rfl ?_
        refine g_getR 58 _ dX3_rank_55 rfl f_X3_28 (by decide) rfl rfl rfl ?_
        refine g_iload_n 59 dX3_rank_58 rfl rfl ?_
        refine g_aald 60 _ dX3_rank_59 rfl (by decide) rfl (vp_in_nI hi (by omega)) rfl ?_
        rw [nI_clamp (show i < 2 ^ 31 by omega)]
        refine g_iload_n 61 dX3_rank_60 rfl rfl ?_
        refine g_iload_n 62 dX3_rank_61 rfl rfl ?_
        refine g_iast 63 dX3_rank_62 rfl (by omega) (k_53 i hi) (vp_in_nI (show p + 1 < 10 by omega) (by omega)) ?_
        rw [nI_clamp (show p + 1 < 2 ^ 31 by omega)]
        refine g_aload_n 64 dX3_rank_63 rfl rfl ?_
        refine g_getR 67 _ dX3_rank_64 rfl f_X3_31 (by decide) rfl rfl rfl ?_
        refine g_iload_n 68 dX3_rank_67 rfl rfl ?_
        refine g_dup2 69 dX3_rank_68 rfl rfl rfl ?_
        refine g_iald 70 dX3_rank_69 rfl (by decide) rfl (vp_in_nI hi (by omega)) ?_
        rw [nI_clamp (show i < 2 ^ 31 by omega), q_upc (by omega), q_sh_o (by omega), hcm]
        refine g_iconst 71 1 dX3_rank_70 rfl (by decide) ?_
        refine g_iadd 72 dX3_rank_71 rfl ?_
        rw [nI_1]
        refine g_iast 73 dX3_rank_72 rfl (by decide) rfl (vp_in_nI hi (by omega)) ?_
        rw [nI_clamp (show i < 2 ^ 31 by omega)]
        exact g_rv dX3_rank_73 rfl rfl (by
      have ht : q_ah S r (o p) = false := (q_ahb hSr (ho p (by omega)).2.2).mp h27
      rw [q_ps, ht]
      unfold q_rk
      rw [Nat.zero_add]
      exact ⟨rfl, rfl⟩)
      · refine g_aload_n 31 dX3_rank_30 rfl rfl ?_
        refine g_getR 34 _ dX3_rank_31 rfl f_X3_28 (by decide) rfl rfl rfl ?_
        refine g_iload_n 35 dX3_rank_34 rfl rfl ?_
        refine g_aald 36 _ dX3_rank_35 rfl (by decide) rfl (vp_in_nI hi (by omega)) rfl ?_
        rw [nI_clamp (show i < 2 ^ 31 by omega)]
        refine g_iload_n 37 dX3_rank_36 rfl rfl ?_
        refine g_aload_n 38 dX3_rank_37 rfl rfl ?_
        refine g_getR 41 _ dX3_rank_38 rfl f_X3_28 (by decide) rfl rfl rfl ?_
        refine g_iload_n 42 dX3_rank_41 rfl rfl ?_
        refine g_aald 43 _ dX3_rank_42 rfl (by decide) rfl (vp_in_nI hi (by omega)) rfl ?_
        rw [nI_clamp (show i < 2 ^ 31 by omega)]
        refine g_iload_n 44 dX3_rank_43 rfl rfl ?_
        refine g_iconst 45 1 dX3_rank_44 rfl (by decide) ?_
        refine g_isub 46 dX3_rank_45 rfl ?_
        rw [nI_pred]
        refine g_iald 47 dX3_rank_46 rfl (by omega) (k_53 i hi) (vp_in_nI (show p < 10 by omega) (by omega)) ?_
        rw [nI_clamp (show p < 2 ^ 31 by omega), q_sh_l (by omega)]
        refine g_iast 48 dX3_rank_47 rfl (by omega) (k_53 i hi) (vp_in_nI (show p + 1 < 10 by omega) (by omega)) ?_
        rw [nI_clamp (show p + 1 < 2 ^ 31 by omega)]
        have e9 := q_sh_s (μ := μ) (oc := 53 + i) (off := 0) (m := m) (p := p) (by omega)
        rw [Nat.zero_add, Nat.zero_add] at e9
        rw [e9]
        refine g_iinc 51 (_ + (-1)) dX3_rank_48 rfl rfl rfl (by decide) ?_
        refine g_goto 7 dX3_rank_51 (by decide) ?_
        rw [show nI (p + 1) + -1 = nI p from pk_m1 p]
        refine g_lv [(0, _), (1, _), (2, _), (3, _)] rfl ?_
        have h9 := ih (by omega)
        have ht : q_ah S r (o p) = true := by
          cases ht : q_ah S r (o p) with
          | true => rfl
          | false => exact absurd ((q_ahb hSr (ho p (by omega)).2.2).mpr ht) h27
        rw [q_ps, ht]
        exact h9
set_option maxRecDepth 100000 in
set_option maxHeartbeats 4000000 in
theorem c_rank {i r m : Nat} {o : Nat → Nat} {S : Nat → Int32} (hi : i < 7) (hr : r < 10) (hm : m < 10) (hcm : μ 60 i = nI m) (ho : ∀ j, j < m → μ (53 + i) j = nI (o j) ∧ o j < 10 ∧ μ (45 + i) (o j) = S (o j)) (hSr : μ (45 + i) r = S r) : q_Ct C l FX3_rank 1 142 142 [.ref (q_a C 11), .int (nI i), .int (nI r)] μ (q_ρ b) (q_to (q_rk μ (53 + i) 0 60 i m (q_ps (q_ah S r) o m) r) (q_ρ b)) := by
  refine q_entry rfl (by decide) (Nat.le_of_ble_eq_true rfl) ?_
  refine g_lv [(0, _), (1, _), (2, _)] rfl ?_
  refine g_aload_n 1 dX3_rank_0 rfl rfl ?_
  refine g_getR 4 _ dX3_rank_1 rfl f_X3_31 (by decide) rfl rfl rfl ?_
  refine g_iload_n 5 dX3_rank_4 rfl rfl ?_
  refine g_iald 6 dX3_rank_5 rfl (by decide) rfl (vp_in_nI hi (by omega)) ?_
  rw [nI_clamp (show i < 2 ^ 31 by omega), hcm]
  refine g_istore_n 7 dX3_rank_6 rfl (by decide) ?_
  refine g_lv [(0, _), (1, _), (2, _), (3, _)] rfl ?_
  have h9 := lp_rank (C := C) (l := l) (b := b) hi hr hm hcm ho hSr m (Nat.le_refl _)
  rw [q_sh_0] at h9
  exact h9
end RK
end
section
/-! ===== a stage: pure ===== -/
def q_st (bg : Int32) (rin : Nat → Nat) : Nat → Nat → Int32
  | 0, _ => -1
  | k + 1, r => if r = rin k then bg + 2 * nI k else q_st bg rin k r
def q_ar (bg : Int32) (tm bk : Nat → Int32) (i : Nat) (rin : Nat → Nat) : Nat → Nat → Int32
  | 0, _ => -1
  | k + 1, r => if r = rin k ∧ ¬ bk (rin k) = nI i then bg + 2 * nI k + tm (rin k) else q_ar bg tm bk i rin k r
def q_su (S bk : Nat → Int32) (i : Nat) (rin : Nat → Nat) : Nat → Nat → Int32
  | 0, _ => -1
  | k + 1, r => if r = rin k ∧ ¬ bk (rin k) = nI i then S (rin k) else q_su S bk i rin k r
theorem q_su_S (S bk : Nat → Int32) (i : Nat) (rin : Nat → Nat) : ∀ k k', k' < k → ¬ bk (rin k') = nI i → q_su S bk i rin k (rin k') = S (rin k')
  | 0, k', h, _ => absurd h (Nat.not_lt_zero _)
  | k + 1, k', h, hb => by
    unfold q_su
    by_cases e : rin k' = rin k ∧ ¬ bk (rin k) = nI i
    · rw [if_pos e, e.1]
    · rw [if_neg e]
      have hk : k' ≠ k := fun q => e ⟨by rw [q], by rw [← q]; exact hb⟩
      exact q_su_S S bk i rin k k' (by omega) hb
theorem q_so_su (S bk : Nat → Int32) (i : Nat) (rin : Nat → Nat) (k j : Nat) (h : j < (q_so S bk i rin k).2) : q_su S bk i rin k ((q_so S bk i rin k).1 j) = S ((q_so S bk i rin k).1 j) := by
  obtain ⟨k', h1, h2, h3⟩ := q_so_mem S bk i rin k j h
  rw [h2]
  exact q_su_S S bk i rin k k' h1 h3
def q_pl (f : Nat → Int32) (o : Nat → Nat) : Nat → Nat → Int32
  | 0, r => f r
  | p + 1, r => if r = o p then nI p else q_pl f o p r
/-- of the first k starters of stage i -/
def q_RS (μ0 μ : q_M) (i k : Nat) (rin : Nat → Nat) (bg : Int32) (tm S bk : Nat → Int32) : Prop :=
  (∀ c j, c ≠ 21 + i → c ≠ 29 + i → c ≠ 45 + i → c ≠ 53 + i → (c ≠ 60 ∨ j ≠ i) → μ c j = μ0 c j) ∧
  (∀ r, r < 10 → μ (21 + i) r = q_st bg rin k r) ∧ (∀ r, r < 10 → μ (29 + i) r = q_ar bg tm bk i rin k r) ∧ (∀ r, r < 10 → μ (45 + i) r = q_su S bk i rin k r) ∧
  (∀ j, j < (q_so S bk i rin k).2 → μ (53 + i) j = nI ((q_so S bk i rin k).1 j)) ∧ μ 60 i = nI (q_so S bk i rin k).2
theorem q_RS_n {μ0 μ : q_M} {i k : Nat} {rin : Nat → Nat} {bg : Int32} {tm S bk : Nat → Int32} (hi : i < 7) (h : q_RS μ0 μ i k rin bg tm S bk) (hb : bk (rin k) = nI i) : q_RS μ0 (q_up μ (21 + i) (rin k) (bg + 2 * nI k)) i (k + 1) rin bg tm S bk := by
  obtain ⟨h1, h2, h3, h4, h5, h6⟩ := h
  have e : q_so S bk i rin (k + 1) = q_so S bk i rin k := by rw [q_so, if_pos hb]
  refine ⟨fun c j g1 g2 g3 g4 g5 => ?_, fun r hr => ?_, fun r hr => ?_, fun r hr => ?_, fun j hj => ?_, ?_⟩
  · rw [q_upc g1]; exact h1 c j g1 g2 g3 g4 g5
  · unfold q_st q_up
    by_cases q : r = rin k
    · rw [if_pos q, if_pos ⟨rfl, q⟩]
    · rw [if_neg q, if_neg (fun z => q z.2)]; exact h2 r hr
  · rw [q_upc (by omega), q_ar, if_neg (fun z => z.2 hb)]; exact h3 r hr
  · rw [q_upc (by omega), q_su, if_neg (fun z => z.2 hb)]; exact h4 r hr
  · rw [e] at hj ⊢
    rw [q_upc (by omega)]; exact h5 j hj
  · rw [e, q_upc (by omega)]; exact h6
theorem q_RS_y {μ0 μ : q_M} {i k : Nat} {rin : Nat → Nat} {bg a s : Int32} {tm S bk : Nat → Int32} (hi : i < 7) (h : q_RS μ0 μ i k rin bg tm S bk) (hb : ¬ bk (rin k) = nI i) (ha : a = bg + 2 * nI k + tm (rin k)) (hs : s = S (rin k)) :
    q_RS μ0 (q_rk (q_up (q_up (q_up μ (21 + i) (rin k) (bg + 2 * nI k)) (29 + i) (rin k) a) (45 + i) (rin k) s) (53 + i) 0 60 i (q_so S bk i rin k).2 (q_ps (q_ah S (rin k)) (q_so S bk i rin k).1 (q_so S bk i rin k).2) (rin k)) i (k + 1) rin bg tm S bk := by
  obtain ⟨h1, h2, h3, h4, h5, h6⟩ := h
  subst ha hs
  have e : q_so S bk i rin (k + 1) = (q_io (q_ah S (rin k)) (q_so S bk i rin k).1 (q_so S bk i rin k).2 (rin k), (q_so S bk i rin k).2 + 1) := by rw [q_so, if_neg hb]
  have hp := q_ps_le (q_ah S (rin k)) (q_so S bk i rin k).1 (q_so S bk i rin k).2
  generalize hm : (q_so S bk i rin k).2 = m at *
  generalize ho : (q_so S bk i rin k).1 = o at *
  generalize hP : q_ps (q_ah S (rin k)) o m = p at *
  have off : ∀ c j, c ≠ 53 + i → (c ≠ 60 ∨ j ≠ i) → q_rk (q_up (q_up (q_up μ (21 + i) (rin k) (bg + 2 * nI k)) (29 + i) (rin k) (bg + 2 * nI k + tm (rin k))) (45 + i) (rin k) (S (rin k))) (53 + i) 0 60 i m p (rin k) c j = (q_up (q_up (q_up μ (21 + i) (rin k) (bg + 2 * nI k)) (29 + i) (rin k) (bg + 2 * nI k + tm (rin k))) (45 + i) (rin k) (S (rin k))) c j := by
    intro c j g1 g2
    unfold q_rk
    rw [q_upo (by omega), q_upc g1, q_sh_o g1]
  refine ⟨fun c j g1 g2 g3 g4 g5 => ?_, fun r hr => ?_, fun r hr => ?_, fun r hr => ?_, fun j hj => ?_, ?_⟩
  · rw [off c j g4 g5, q_upc g3, q_upc g2, q_upc g1]; exact h1 c j g1 g2 g3 g4 g5
  · rw [off _ _ (by omega) (by omega), q_upc (by omega), q_upc (by omega)]
    unfold q_st q_up
    by_cases q : r = rin k
    · rw [if_pos q, if_pos ⟨rfl, q⟩]
    · rw [if_neg q, if_neg (fun z => q z.2)]; exact h2 r hr
  · rw [off _ _ (by omega) (by omega), q_upc (by omega), q_ar]
    by_cases q : r = rin k
    · rw [if_pos ⟨q, hb⟩, q, q_ups]
    · rw [if_neg (fun z => q z.1), q_upo (fun z => q z.2), q_upc (by omega)]; exact h3 r hr
  · rw [off _ _ (by omega) (by omega), q_su]
    by_cases q : r = rin k
    · rw [if_pos ⟨q, hb⟩, q, q_ups]
    · rw [if_neg (fun z => q z.1), q_upo (fun z => q z.2), q_upc (by omega), q_upc (by omega)]; exact h4 r hr
  · rw [e] at hj ⊢
    have hj : j < m + 1 := hj
    show _ = nI (q_io (q_ah S (rin k)) o m (rin k) j)
    unfold q_io q_rk
    rw [hP, q_upc (by omega)]
    by_cases g1 : j < p
    · rw [if_pos g1, q_upo (by omega), q_sh_l (by omega), q_upc (by omega), q_upc (by omega), q_upc (by omega)]
      exact h5 j (by omega)
    · rw [if_neg g1]
      by_cases g2 : j = p
      · rw [if_pos g2, Nat.zero_add, g2, q_ups]
      · rw [if_neg g2, q_upo (by omega)]
        unfold q_sh
        rw [if_pos (by omega), q_upc (by omega), q_upc (by omega), q_upc (by omega)]
        exact h5 (j - 1) (by omega)
  · rw [e]
    unfold q_rk
    rw [q_ups]
def q_fl (μ : q_M) (i k : Nat) : q_M := fun c j => if (c = 21 + i ∨ c = 29 + i ∨ c = 37 + i ∨ c = 45 + i) ∧ j < k then -1 else μ c j
theorem q_fl_0 {μ : q_M} {i : Nat} : q_fl μ i 0 = μ := by funext c j; unfold q_fl; rw [if_neg (by omega)]
theorem q_fl_s {μ : q_M} {i k : Nat} : q_up (q_up (q_up (q_up (q_fl μ i k) (21 + i) k (-1)) (29 + i) k (-1)) (37 + i) k (-1)) (45 + i) k (-1) = q_fl μ i (k + 1) := by
  funext c j
  unfold q_up q_fl
  by_cases e1 : c = 45 + i ∧ j = k
  · rw [if_pos e1, if_pos (by omega)]
  · rw [if_neg e1]
    by_cases e2 : c = 37 + i ∧ j = k
    · rw [if_pos e2, if_pos (by omega)]
    · rw [if_neg e2]
      by_cases e3 : c = 29 + i ∧ j = k
      · rw [if_pos e3, if_pos (by omega)]
      · rw [if_neg e3]
        by_cases e4 : c = 21 + i ∧ j = k
        · rw [if_pos e4, if_pos (by omega)]
        · rw [if_neg e4]
          try dsimp only
          by_cases e5 : (c = 21 + i ∨ c = 29 + i ∨ c = 37 + i ∨ c = 45 + i) ∧ j < k
          · rw [if_pos e5, if_pos (by omega)]
          · rw [if_neg e5, if_neg (by omega)]
def q_tp (μ : q_M) (i : Nat) (o : Nat → Nat) (p : Nat) : q_M := fun c j => if c = 37 + i then q_pl (μ (37 + i)) o p j else μ c j
theorem q_tp_0 {μ : q_M} {i : Nat} {o : Nat → Nat} : q_tp μ i o 0 = μ := by
  funext c j
  unfold q_tp q_pl
  by_cases e : c = 37 + i
  · rw [if_pos e, e]
  · rw [if_neg e]
theorem q_tp_s {μ : q_M} {i p : Nat} {o : Nat → Nat} : q_up (q_tp μ i o p) (37 + i) (o p) (nI p) = q_tp μ i o (p + 1) := by
  funext c j
  unfold q_up q_tp
  by_cases e : c = 37 + i
  · by_cases e2 : j = o p
    · rw [if_pos ⟨e, e2⟩, if_pos e, q_pl, if_pos e2]
    · rw [if_neg (fun z => e2 z.2), if_pos e, if_pos e, q_pl, if_neg e2]
  · rw [if_neg (fun z => e z.1), if_neg e, if_neg e]
/-! ===== a stage: the class ===== -/
section SG
variable {C : q_C} {l : Launch} {μ : q_M} {b : Bool}
set_option maxRecDepth 100000 in
set_option maxHeartbeats 4000000 in
theorem lp_frg {i : Nat} (hi : i < 7) : ∀ k k2, k2 + k = 10 → q_G C l FX3_forget 0 142 142 (q_to (q_up (q_up (q_fl μ i 10) 60 i 0) 61 i 0) (q_ρ b)) 142 (q_fl μ i k2) (q_ρ b) [(0, .ref (q_a C 11)), (1, .int (nI i)), (2, .int (nI k2))] [] 2 := by
  intro k
  induction k with
  | zero =>
    intro k2 hK9
    refine g_iload_n 3 dX3_forget_2 rfl rfl ?_
    refine g_bipush 5 10 dX3_forget_3 rfl (by decide) ?_
    refine g_icmp_ge 50 8 dX3_forget_5 rfl (by decide) (fun h5 => ?_) (fun h5 => ?_)
    · refine g_aload_n 51 dX3_forget_50 rfl rfl ?_
      refine g_getR 54 _ dX3_forget_51 rfl f_X3_31 (by decide) rfl rfl rfl ?_
      refine g_iload_n 55 dX3_forget_54 rfl rfl ?_
      refine g_iconst 56 0 dX3_forget_55 rfl (by decide) ?_
      refine g_iast 57 dX3_forget_56 rfl (by decide) rfl (vp_in_nI hi (by omega)) ?_
      rw [nI_clamp (show i < 2 ^ 31 by omega)]
      refine g_aload_n 58 dX3_forget_57 rfl rfl ?_
      refine g_getR 61 _ dX3_forget_58 rfl f_X3_35 (by decide) rfl rfl rfl ?_
      refine g_iload_n 62 dX3_forget_61 rfl rfl ?_
      refine g_iconst 63 0 dX3_forget_62 rfl (by decide) ?_
      refine g_iast 64 dX3_forget_63 rfl (by decide) rfl (vp_in_nI hi (by omega)) ?_
      rw [nI_clamp (show i < 2 ^ 31 by omega)]
      exact g_rv dX3_forget_64 rfl rfl ⟨by rw [show k2 = 10 by omega], rfl⟩
    · exact absurd (nI_le (a := 10) (b := k2) (by omega) (by omega)) h5
  | succ k ih =>
    intro k2 hK9
    refine g_iload_n 3 dX3_forget_2 rfl rfl ?_
    refine g_bipush 5 10 dX3_forget_3 rfl (by decide) ?_
    refine g_icmp_ge 50 8 dX3_forget_5 rfl (by decide) (fun h5 => ?_) (fun h5 => ?_)
    · exact absurd h5 (nI_ge (a := k2) (b := 10) (by omega) (by omega))
    · refine g_aload_n 9 dX3_forget_8 rfl rfl ?_
      refine g_getR 12 _ dX3_forget_9 rfl f_X3_16 (by decide) rfl rfl rfl ?_
      refine g_iload_n 13 dX3_forget_12 rfl rfl ?_
      refine g_aald 14 _ dX3_forget_13 rfl (by decide) rfl (vp_in_nI hi (by omega)) rfl ?_
      rw [nI_clamp (show i < 2 ^ 31 by omega)]
      refine g_iload_n 15 dX3_forget_14 rfl rfl ?_
      refine g_iconst 16 (-1) dX3_forget_15 rfl (by decide) ?_
      refine g_iast 17 dX3_forget_16 rfl (by omega) (k_21 i hi) (vp_in_nI (show k2 < 10 by omega) (by omega)) ?_
      rw [nI_clamp (show k2 < 2 ^ 31 by omega)]
      refine g_aload_n 18 dX3_forget_17 rfl rfl ?_
      refine g_getR 21 _ dX3_forget_18 rfl f_X3_19 (by decide) rfl rfl rfl ?_
      refine g_iload_n 22 dX3_forget_21 rfl rfl ?_
      refine g_aald 23 _ dX3_forget_22 rfl (by decide) rfl (vp_in_nI hi (by omega)) rfl ?_
      rw [nI_clamp (show i < 2 ^ 31 by omega)]
      refine g_iload_n 24 dX3_forget_23 rfl rfl ?_
      refine g_iconst 25 (-1) dX3_forget_24 rfl (by decide) ?_
      refine g_iast 26 dX3_forget_25 rfl (by omega) (k_29 i hi) (vp_in_nI (show k2 < 10 by omega) (by omega)) ?_
      rw [nI_clamp (show k2 < 2 ^ 31 by omega)]
      refine g_aload_n 27 dX3_forget_26 rfl rfl ?_
      refine g_getR 30 _ dX3_forget_27 rfl f_X3_22 (by decide) rfl rfl rfl ?_
      refine g_iload_n 31 dX3_forget_30 rfl rfl ?_
      refine g_aald 32 _ dX3_forget_31 rfl (by decide) rfl (vp_in_nI hi (by omega)) rfl ?_
      rw [nI_clamp (show i < 2 ^ 31 by omega)]
      refine g_iload_n 33 dX3_forget_32 rfl rfl ?_
      refine g_iconst 34 (-1) dX3_forget_33 rfl (by decide) ?_
      refine g_iast 35 dX3_forget_34 rfl (by omega) (k_37 i hi) (vp_in_nI (show k2 < 10 by omega) (by omega)) ?_
      rw [nI_clamp (show k2 < 2 ^ 31 by omega)]
      refine g_aload_n 36 dX3_forget_35 rfl rfl ?_
      refine g_getR 39 _ dX3_forget_36 rfl f_X3_25 (by decide) rfl rfl rfl ?_
      refine g_iload_n 40 dX3_forget_39 rfl rfl ?_
      refine g_aald 41 _ dX3_forget_40 rfl (by decide) rfl (vp_in_nI hi (by omega)) rfl ?_
      rw [nI_clamp (show i < 2 ^ 31 by omega)]
      refine g_iload_n 42 dX3_forget_41 rfl rfl ?_
      refine g_iconst 43 (-1) dX3_forget_42 rfl (by decide) ?_
      refine g_iast 44 dX3_forget_43 rfl (by omega) (k_45 i hi) (vp_in_nI (show k2 < 10 by omega) (by omega)) ?_
      rw [nI_clamp (show k2 < 2 ^ 31 by omega)]
      refine g_iinc 47 (_ + 1) dX3_forget_44 rfl rfl rfl (by decide) ?_
      refine g_goto 2 dX3_forget_47 (by decide) ?_
      rw [q_fl_s, nI_1]
      refine g_lv [(0, _), (1, _), (2, _)] rfl ?_
      exact ih (k2 + 1) (by omega)
set_option maxRecDepth 100000 in
set_option maxHeartbeats 4000000 in
theorem c_frg {i : Nat} (hi : i < 7) : q_Ct C l FX3_forget 0 142 142 [.ref (q_a C 11), .int (nI i)] μ (q_ρ b) (q_to (q_up (q_up (q_fl μ i 10) 60 i 0) 61 i 0) (q_ρ b)) := by
  refine q_entry rfl (by decide) (Nat.le_of_ble_eq_true rfl) ?_
  refine g_lv [(0, _), (1, _)] rfl ?_
  refine g_iconst 1 0 dX3_forget_0 rfl (by decide) ?_
  refine g_istore_n 2 dX3_forget_1 rfl (by decide) ?_
  refine g_lv [(0, _), (1, _), (2, .int 0)] rfl ?_
  have h9 := lp_frg (C := C) (l := l) (μ := μ) (b := b) hi 10 0 (by omega)
  rw [q_fl_0] at h9
  exact h9
set_option maxRecDepth 100000 in
set_option maxHeartbeats 4000000 in
theorem lp_tp {i m : Nat} {o : Nat → Nat} (hi : i < 7) (hm : m ≤ 10) (hcm : μ 60 i = nI m) (ho : ∀ j, j < m → μ (53 + i) j = nI (o j) ∧ o j < 10) : ∀ k p, p + k = m → q_G C l FX3_tellPlaces 0 142 142 (q_to (q_tp μ i o m) (q_ρ b)) 142 (q_tp μ i o p) (q_ρ b) [(0, .ref (q_a C 11)), (1, .int (nI i)), (2, .int (nI p))] [] 2 := by
  intro k
  induction k with
  | zero =>
    intro p hK9
    refine g_iload_n 3 dX3_tellPlaces_2 rfl rfl ?_
    refine g_aload_n 4 dX3_tellPlaces_3 rfl rfl ?_
    refine g_getR 7 _ dX3_tellPlaces_4 rfl f_X3_31 (by decide) rfl rfl rfl ?_
    refine g_iload_n 8 dX3_tellPlaces_7 rfl rfl ?_
    refine g_iald 9 dX3_tellPlaces_8 rfl (by decide) rfl (vp_in_nI hi (by omega)) ?_
    rw [nI_clamp (show i < 2 ^ 31 by omega), show q_tp μ i o p 60 i = μ 60 i from if_neg (by omega), hcm]
    refine g_icmp_ge 34 12 dX3_tellPlaces_9 rfl (by decide) (fun h9 => ?_) (fun h9 => ?_)
    · exact g_rv dX3_tellPlaces_34 rfl rfl ⟨by rw [show p = m by omega], rfl⟩
    · exact absurd (nI_le (by omega) (by omega)) h9
  | succ k ih =>
    intro p hK9
    refine g_iload_n 3 dX3_tellPlaces_2 rfl rfl ?_
    refine g_aload_n 4 dX3_tellPlaces_3 rfl rfl ?_
    refine g_getR 7 _ dX3_tellPlaces_4 rfl f_X3_31 (by decide) rfl rfl rfl ?_
    refine g_iload_n 8 dX3_tellPlaces_7 rfl rfl ?_
    refine g_iald 9 dX3_tellPlaces_8 rfl (by decide) rfl (vp_in_nI hi (by omega)) ?_
    rw [nI_clamp (show i < 2 ^ 31 by omega), show q_tp μ i o p 60 i = μ 60 i from if_neg (by omega), hcm]
    refine g_icmp_ge 34 12 dX3_tellPlaces_9 rfl (by decide) (fun h9 => ?_) (fun h9 => ?_)
    · exact absurd h9 (nI_ge (by omega) (by omega))
    · refine g_aload_n 13 dX3_tellPlaces_12 rfl rfl ?_
      refine g_getR 16 _ dX3_tellPlaces_13 rfl f_X3_22 (by decide) rfl rfl rfl ?_
      refine g_iload_n 17 dX3_tellPlaces_16 rfl rfl ?_
      refine g_aald 18 _ dX3_tellPlaces_17 rfl (by decide) rfl (vp_in_nI hi (by omega)) rfl ?_
      rw [nI_clamp (show i < 2 ^ 31 by omega)]
      refine g_aload_n 19 dX3_tellPlaces_18 rfl rfl ?_
      refine g_getR 22 _ dX3_tellPlaces_19 rfl f_X3_28 (by decide) rfl rfl rfl ?_
      refine g_iload_n 23 dX3_tellPlaces_22 rfl rfl ?_
      refine g_aald 24 _ dX3_tellPlaces_23 rfl (by decide) rfl (vp_in_nI hi (by omega)) rfl ?_
      rw [nI_clamp (show i < 2 ^ 31 by omega)]
      refine g_iload_n 25 dX3_tellPlaces_24 rfl rfl ?_
      refine g_iald 26 dX3_tellPlaces_25 rfl (by omega) (k_53 i hi) (vp_in_nI (show p < 10 by omega) (by omega)) ?_
      rw [nI_clamp (show p < 2 ^ 31 by omega), show q_tp μ i o p (53 + i) p = μ (53 + i) p from if_neg (by omega), (ho p (by omega)).1]
      refine g_iload_n 27 dX3_tellPlaces_26 rfl rfl ?_
      refine g_iast 28 dX3_tellPlaces_27 rfl (by omega) (k_37 i hi) (vp_in_nI (ho p (by omega)).2 (by omega)) ?_
      rw [nI_clamp (show o p < 2 ^ 31 from by have := (ho p (by omega)).2; omega)]
      refine g_iinc 31 (_ + 1) dX3_tellPlaces_28 rfl rfl rfl (by decide) ?_
      refine g_goto 2 dX3_tellPlaces_31 (by decide) ?_
      rw [q_tp_s, nI_1]
      refine g_lv [(0, _), (1, _), (2, _)] rfl ?_
      exact ih (p + 1) (by omega)
set_option maxRecDepth 100000 in
set_option maxHeartbeats 4000000 in
theorem c_tp {i m : Nat} {o : Nat → Nat} (hi : i < 7) (hm : m ≤ 10) (hcm : μ 60 i = nI m) (ho : ∀ j, j < m → μ (53 + i) j = nI (o j) ∧ o j < 10) : q_Ct C l FX3_tellPlaces 0 142 142 [.ref (q_a C 11), .int (nI i)] μ (q_ρ b) (q_to (q_tp μ i o m) (q_ρ b)) := by
  refine q_entry rfl (by decide) (Nat.le_of_ble_eq_true rfl) ?_
  refine g_lv [(0, _), (1, _)] rfl ?_
  refine g_iconst 1 0 dX3_tellPlaces_0 rfl (by decide) ?_
  refine g_istore_n 2 dX3_tellPlaces_1 rfl (by decide) ?_
  refine g_lv [(0, _), (1, _), (2, .int 0)] rfl ?_
  have h9 := lp_tp (C := C) (l := l) (μ := μ) (b := b) hi hm hcm ho m 0 (by omega)
  rw [q_tp_0] at h9
  exact h9
set_option maxRecDepth 100000 in
set_option maxHeartbeats 8000000 in
theorem lp_stage0 {M : Nat} {rin : Nat → Nat} {bg : Int32} {tm S bk : Nat → Int32} {μ0 : q_M} (hM : M ≤ 10) (hr : ∀ k, k < M → rin k = k) (hbg : μ0 62 0 = bg) (htm : ∀ k, k < M → μ0 13 (rin k) = tm (rin k)) (hS : ∀ r, S r = tm r + 0) (hbk : ∀ k, k < M → μ0 6 (rin k) = bk (rin k)) : ∀ k k2, k2 + k = M → ∀ μ, q_RS μ0 μ 0 k2 rin bg tm S bk → q_G C l FX3_runStage 2 142 142 (q_PV fun μ' ρ' => q_ρ b = ρ' ∧ ∃ μ1, q_RS μ0 μ1 0 M rin bg tm S bk ∧ q_up μ1 61 0 (nI M) = μ') 142 μ (q_ρ b) [(0, .ref (q_a C 11)), (1, .int (nI 0)), (2, .ref (q_a C 4)), (3, .int (nI M)), (4, .int (nI k2))] [] 23 := by
  intro k
  induction k with
  | zero =>
    intro k2 hk μ hq
    refine g_iload 25 dX3_runStage_23 rfl rfl ?_
    refine g_iload_n 26 dX3_runStage_25 rfl rfl ?_
    refine g_icmp_ge 161 29 dX3_runStage_26 rfl (by decide) (fun h26 => ?_) (fun h26 => ?_)
    · refine g_aload_n 162 dX3_runStage_161 rfl rfl ?_
      refine g_getR 165 _ dX3_runStage_162 rfl f_X3_35 (by decide) rfl rfl rfl ?_
      refine g_iload_n 166 dX3_runStage_165 rfl rfl ?_
      refine g_iload_n 167 dX3_runStage_166 rfl rfl ?_
      refine g_iast 168 dX3_runStage_167 rfl (by decide) rfl (vp_in_nI (show 0 < 7 by decide) (by omega)) ?_
      rw [nI_clamp (show 0 < 2 ^ 31 by omega)]
      exact g_rv dX3_runStage_168 rfl rfl ⟨rfl, μ, by rw [show k2 = M by omega] at hq; exact hq, rfl⟩
    · exact absurd (nI_le (by omega) (by omega)) h26
  | succ k ih =>
    intro k2 hk μ hq
    refine g_iload 25 dX3_runStage_23 rfl rfl ?_
    refine g_iload_n 26 dX3_runStage_25 rfl rfl ?_
    refine g_icmp_ge 161 29 dX3_runStage_26 rfl (by decide) (fun h26 => ?_) (fun h26 => ?_)
    · exact absurd h26 (nI_ge (by omega) (by omega))
    · refine g_iload_n 30 dX3_runStage_29 rfl rfl ?_
      refine g_if_ne 38 33 dX3_runStage_30 rfl (by decide) (fun h30 => ?_) (fun h30 => ?_)
      · exact absurd rfl h30
      · refine g_iload 35 dX3_runStage_33 rfl rfl ?_
        refine g_goto 49 dX3_runStage_35 (by decide) ?_
        refine g_istore 51 dX3_runStage_49 rfl (by decide) ?_
        have hr10 : rin k2 < 10 := (by rw [hr k2 (by omega)]; omega)
        refine g_lv [(0, _), (1, _), (2, _), (3, _), (4, .int (nI k2)), (5, .int (nI (rin k2)))] (by rw [hr k2 (by omega)]; rfl) ?_
        refine g_aload_n 52 dX3_runStage_51 rfl rfl ?_
        refine g_getR 55 _ dX3_runStage_52 rfl f_X3_16 (by decide) rfl rfl rfl ?_
        refine g_iload_n 56 dX3_runStage_55 rfl rfl ?_
        refine g_aald 57 _ dX3_runStage_56 rfl (by decide) rfl (vp_in_nI (show 0 < 7 by decide) (by omega)) rfl ?_
        rw [nI_clamp (show 0 < 2 ^ 31 by omega)]
        refine g_iload 59 dX3_runStage_57 rfl rfl ?_
        refine g_aload_n 60 dX3_runStage_59 rfl rfl ?_
        refine g_getR 63 _ dX3_runStage_60 rfl f_X3_38 (by decide) rfl rfl rfl ?_
        refine g_iload_n 64 dX3_runStage_63 rfl rfl ?_
        refine g_iald 65 dX3_runStage_64 rfl (by decide) rfl (vp_in_nI (show 0 < 7 by decide) (by omega)) ?_
        rw [nI_clamp (show 0 < 2 ^ 31 by omega), hq.1 62 0 (by omega) (by omega) (by omega) (by omega) (by omega), hbg]
        refine g_iconst 66 2 dX3_runStage_65 rfl (by decide) ?_
        refine g_iload 68 dX3_runStage_66 rfl rfl ?_
        refine g_imul 69 dX3_runStage_68 rfl ?_
        refine g_iadd 70 dX3_runStage_69 rfl ?_
        refine g_iast 71 dX3_runStage_70 rfl (by omega) (k_21 0 (show 0 < 7 by decide)) (vp_in_nI hr10 (by omega)) ?_
        rw [nI_clamp (show rin k2 < 2 ^ 31 by omega)]
        refine g_aload_n 72 dX3_runStage_71 rfl rfl ?_
        refine g_getR 75 _ dX3_runStage_72 rfl f_X3_77 (by decide) rfl rfl rfl ?_
        refine g_iload 77 dX3_runStage_75 rfl rfl ?_
        refine g_iald 78 dX3_runStage_77 rfl (by decide) rfl (vp_in_nI hr10 (by omega)) ?_
        rw [nI_clamp (show rin k2 < 2 ^ 31 by omega), q_upc (by omega), hq.1 6 (rin k2) (by omega) (by omega) (by omega) (by omega) (by omega), hbk k2 (by omega)]
        refine g_iload_n 79 dX3_runStage_78 rfl rfl ?_
        refine g_icmp_eq 155 82 dX3_runStage_79 rfl (by decide) (fun h79 => ?_) (fun h79 => ?_)
        · refine g_iinc 158 (_ + 1) dX3_runStage_155 rfl rfl rfl (by decide) ?_
          refine g_goto 23 dX3_runStage_158 (by decide) ?_
          rw [nI_1]
          refine g_lv [(0, _), (1, _), (2, _), (3, _), (4, _)] rfl ?_
          exact ih (k2 + 1) (by omega) _ (q_RS_n (show 0 < 7 by decide) hq h79)
        · refine g_aload_n 83 dX3_runStage_82 rfl rfl ?_
          refine g_getR 86 _ dX3_runStage_83 rfl f_X3_19 (by decide) rfl rfl rfl ?_
          refine g_iload_n 87 dX3_runStage_86 rfl rfl ?_
          refine g_aald 88 _ dX3_runStage_87 rfl (by decide) rfl (vp_in_nI (show 0 < 7 by decide) (by omega)) rfl ?_
          rw [nI_clamp (show 0 < 2 ^ 31 by omega)]
          refine g_iload 90 dX3_runStage_88 rfl rfl ?_
          refine g_aload_n 91 dX3_runStage_90 rfl rfl ?_
          refine g_getR 94 _ dX3_runStage_91 rfl f_X3_16 (by decide) rfl rfl rfl ?_
          refine g_iload_n 95 dX3_runStage_94 rfl rfl ?_
          refine g_aald 96 _ dX3_runStage_95 rfl (by decide) rfl (vp_in_nI (show 0 < 7 by decide) (by omega)) rfl ?_
          rw [nI_clamp (show 0 < 2 ^ 31 by omega)]
          refine g_iload 98 dX3_runStage_96 rfl rfl ?_
          refine g_iald 99 dX3_runStage_98 rfl (by omega) (k_21 0 (show 0 < 7 by decide)) (vp_in_nI hr10 (by omega)) ?_
          rw [nI_clamp (show rin k2 < 2 ^ 31 by omega), q_ups]
          refine g_aload_n 100 dX3_runStage_99 rfl rfl ?_
          refine g_getR 103 _ dX3_runStage_100 rfl f_X3_11 (by decide) rfl rfl rfl ?_
          refine g_iload_n 104 dX3_runStage_103 rfl rfl ?_
          refine g_aald 105 _ dX3_runStage_104 rfl (by decide) rfl (vp_in_nI (show 0 < 7 by decide) (by omega)) rfl ?_
          rw [nI_clamp (show 0 < 2 ^ 31 by omega)]
          refine g_iload 107 dX3_runStage_105 rfl rfl ?_
          refine g_iald 108 dX3_runStage_107 rfl (by omega) (k_13 0 (show 0 < 7 by decide)) (vp_in_nI hr10 (by omega)) ?_
          rw [nI_clamp (show rin k2 < 2 ^ 31 by omega), q_upc (by omega), hq.1 (13 + 0) (rin k2) (by omega) (by omega) (by omega) (by omega) (by omega), htm k2 (by omega)]
          refine g_iadd 109 dX3_runStage_108 rfl ?_
          refine g_iast 110 dX3_runStage_109 rfl (by omega) (k_29 0 (show 0 < 7 by decide)) (vp_in_nI hr10 (by omega)) ?_
          rw [nI_clamp (show rin k2 < 2 ^ 31 by omega)]
          refine g_aload_n 111 dX3_runStage_110 rfl rfl ?_
          refine g_getR 114 _ dX3_runStage_111 rfl f_X3_25 (by decide) rfl rfl rfl ?_
          refine g_iload_n 115 dX3_runStage_114 rfl rfl ?_
          refine g_aald 116 _ dX3_runStage_115 rfl (by decide) rfl (vp_in_nI (show 0 < 7 by decide) (by omega)) rfl ?_
          rw [nI_clamp (show 0 < 2 ^ 31 by omega)]
          refine g_iload 118 dX3_runStage_116 rfl rfl ?_
          refine g_aload_n 119 dX3_runStage_118 rfl rfl ?_
          refine g_getR 122 _ dX3_runStage_119 rfl f_X3_11 (by decide) rfl rfl rfl ?_
          refine g_iload_n 123 dX3_runStage_122 rfl rfl ?_
          refine g_aald 124 _ dX3_runStage_123 rfl (by decide) rfl (vp_in_nI (show 0 < 7 by decide) (by omega)) rfl ?_
          rw [nI_clamp (show 0 < 2 ^ 31 by omega)]
          refine g_iload 126 dX3_runStage_124 rfl rfl ?_
          refine g_iald 127 dX3_runStage_126 rfl (by omega) (k_13 0 (show 0 < 7 by decide)) (vp_in_nI hr10 (by omega)) ?_
          rw [nI_clamp (show rin k2 < 2 ^ 31 by omega), q_upc (by omega), q_upc (by omega), hq.1 (13 + 0) (rin k2) (by omega) (by omega) (by omega) (by omega) (by omega), htm k2 (by omega)]
          refine g_iload_n 128 dX3_runStage_127 rfl rfl ?_
          refine g_if_ne 135 131 dX3_runStage_128 rfl (by decide) (fun h128 => ?_) (fun h128 => ?_)
          · exact absurd rfl h128
          · refine g_iconst 132 0 dX3_runStage_131 rfl (by decide) ?_
            refine g_goto 146 dX3_runStage_132 (by decide) ?_
            refine g_iadd 147 dX3_runStage_146 rfl ?_
            refine g_iast 148 dX3_runStage_147 rfl (by omega) (k_45 0 (show 0 < 7 by decide)) (vp_in_nI hr10 (by omega)) ?_
            rw [nI_clamp (show rin k2 < 2 ^ 31 by omega), ← hS]
            refine g_aload_n 149 dX3_runStage_148 rfl rfl ?_
            refine g_iload_n 150 dX3_runStage_149 rfl rfl ?_
            refine g_iload 152 dX3_runStage_150 rfl rfl ?_
            have hle := q_so_le S bk 0 rin k2
            have hcm : (q_up (q_up (q_up μ (21 + 0) (rin k2) (bg + 2 * nI k2)) (29 + 0) (rin k2) (bg + 2 * nI k2 + tm (rin k2))) (45 + 0) (rin k2) (S (rin k2))) 60 0 = nI (q_so S bk 0 rin k2).2 := by rw [q_upc (by omega), q_upc (by omega), q_upc (by omega)]; exact hq.2.2.2.2.2
            have ho : ∀ j, j < (q_so S bk 0 rin k2).2 → (q_up (q_up (q_up μ (21 + 0) (rin k2) (bg + 2 * nI k2)) (29 + 0) (rin k2) (bg + 2 * nI k2 + tm (rin k2))) (45 + 0) (rin k2) (S (rin k2))) (53 + 0) j = nI ((q_so S bk 0 rin k2).1 j) ∧ (q_so S bk 0 rin k2).1 j < 10 ∧ (q_up (q_up (q_up μ (21 + 0) (rin k2) (bg + 2 * nI k2)) (29 + 0) (rin k2) (bg + 2 * nI k2 + tm (rin k2))) (45 + 0) (rin k2) (S (rin k2))) (45 + 0) ((q_so S bk 0 rin k2).1 j) = S ((q_so S bk 0 rin k2).1 j) := by
              intro j hj
              obtain ⟨k9, g1, g2, g3⟩ := q_so_mem S bk 0 rin k2 j hj
              have hk9 : rin k9 < 10 := (by rw [hr k9 (by omega)]; omega)
              refine ⟨by rw [q_upc (by omega), q_upc (by omega), q_upc (by omega)]; exact hq.2.2.2.2.1 j hj, by rw [g2]; exact hk9, ?_⟩
              by_cases q : (q_so S bk 0 rin k2).1 j = rin k2
              · rw [q, q_ups]
              · rw [q_upo (fun z => q z.2), q_upc (by omega), q_upc (by omega), hq.2.2.2.1 _ (by rw [g2]; exact hk9)]
                exact q_so_su S bk 0 rin k2 j hj
            refine g_Vv 155 [_, _] _ dX3_runStage_152 rfl m_X3_rank l_X3_89 rfl rfl rfl (by decide) (c_rank (show 0 < 7 by decide) hr10 (by omega) hcm ho q_ups) rfl (Nat.le_of_ble_eq_true rfl) (by decide) (fun μ152 ρ152 hc9 => ?_)
            obtain ⟨rfl, rfl⟩ := hc9
            refine g_iinc 158 (_ + 1) dX3_runStage_155 rfl rfl rfl (by decide) ?_
            refine g_goto 23 dX3_runStage_158 (by decide) ?_
            rw [nI_1]
            refine g_lv [(0, _), (1, _), (2, _), (3, _), (4, _)] rfl ?_
            exact ih (k2 + 1) (by omega) _ (q_RS_y (show 0 < 7 by decide) hq h79 rfl rfl)
set_option maxRecDepth 100000 in
set_option maxHeartbeats 4000000 in
theorem c_stage0 {M : Nat} {rin : Nat → Nat} {bg : Int32} {tm S bk : Nat → Int32} {μ0 : q_M} (hM : M ≤ 10) (hr : ∀ k, k < M → rin k = k) (hbg : μ0 62 0 = bg) (htm : ∀ k, k < M → μ0 13 (rin k) = tm (rin k)) (hS : ∀ r, S r = tm r + 0) (hbk : ∀ k, k < M → μ0 6 (rin k) = bk (rin k)) (hcnt : μ0 4 3 = nI M) (h0 : q_RS μ0 μ0 0 0 rin bg tm S bk) : q_Ct C l FX3_runStage 2 142 142 [.ref (q_a C 11), .int (nI 0), .ref (q_a C 4)] μ0 (q_ρ b) (q_PV fun μ' ρ' => q_ρ b = ρ' ∧ ∃ μ1, q_RS μ0 μ1 0 M rin bg tm S bk ∧ q_up μ1 61 0 (nI M) = μ') := by
  refine q_entry rfl (by decide) (Nat.le_of_ble_eq_true rfl) ?_
  refine g_lv [(0, _), (1, _), (2, _)] rfl ?_
  refine g_iload_n 1 dX3_runStage_0 rfl rfl ?_
  refine g_if_ne 11 4 dX3_runStage_1 rfl (by decide) (fun h1 => ?_) (fun h1 => ?_)
  · exact absurd rfl h1
  · refine g_aload_n 5 dX3_runStage_4 rfl rfl ?_
    refine g_getI 8 dX3_runStage_5 rfl f_X3_50 (by decide) rfl rfl ?_
    rw [hcnt]
    refine g_goto 19 dX3_runStage_8 (by decide) ?_
    refine g_istore_n 20 dX3_runStage_19 rfl (by decide) ?_
    refine g_iconst 21 0 dX3_runStage_20 rfl (by decide) ?_
    refine g_istore 23 dX3_runStage_21 rfl (by decide) ?_
    refine g_lv [(0, _), (1, _), (2, _), (3, _), (4, .int (nI 0))] rfl ?_
    exact lp_stage0 hM hr hbg htm hS hbk M 0 (by omega) μ0 h0
set_option maxRecDepth 100000 in
set_option maxHeartbeats 8000000 in
theorem lp_stages {i M : Nat} {rin : Nat → Nat} {bg : Int32} {tm S Sp bk : Nat → Int32} {μ0 : q_M} (hi : i + 1 < 7) (hM : M ≤ 10) (hr : ∀ k, k < M → rin k < 10 ∧ μ0 (53 + i) k = nI (rin k) ∧ μ0 (45 + i) (rin k) = Sp (rin k)) (hbg : μ0 62 (i + 1) = bg) (htm : ∀ k, k < M → μ0 (13 + (i + 1)) (rin k) = tm (rin k)) (hS : ∀ r, S r = tm r + Sp r) (hbk : ∀ k, k < M → μ0 6 (rin k) = bk (rin k)) : ∀ k k2, k2 + k = M → ∀ μ, q_RS μ0 μ (i + 1) k2 rin bg tm S bk → q_G C l FX3_runStage 2 142 142 (q_PV fun μ' ρ' => q_ρ b = ρ' ∧ ∃ μ1, q_RS μ0 μ1 (i + 1) M rin bg tm S bk ∧ q_up μ1 61 (i + 1) (nI M) = μ') 142 μ (q_ρ b) [(0, .ref (q_a C 11)), (1, .int (nI (i + 1))), (2, .ref (q_a C 4)), (3, .int (nI M)), (4, .int (nI k2))] [] 23 := by
  intro k
  induction k with
  | zero =>
    intro k2 hk μ hq
    refine g_iload 25 dX3_runStage_23 rfl rfl ?_
    refine g_iload_n 26 dX3_runStage_25 rfl rfl ?_
    refine g_icmp_ge 161 29 dX3_runStage_26 rfl (by decide) (fun h26 => ?_) (fun h26 => ?_)
    · refine g_aload_n 162 dX3_runStage_161 rfl rfl ?_
      refine g_getR 165 _ dX3_runStage_162 rfl f_X3_35 (by decide) rfl rfl rfl ?_
      refine g_iload_n 166 dX3_runStage_165 rfl rfl ?_
      refine g_iload_n 167 dX3_runStage_166 rfl rfl ?_
      refine g_iast 168 dX3_runStage_167 rfl (by decide) rfl (vp_in_nI hi (by omega)) ?_
      rw [nI_clamp (show (i + 1) < 2 ^ 31 by omega)]
      exact g_rv dX3_runStage_168 rfl rfl ⟨rfl, μ, by rw [show k2 = M by omega] at hq; exact hq, rfl⟩
    · exact absurd (nI_le (by omega) (by omega)) h26
  | succ k ih =>
    intro k2 hk μ hq
    refine g_iload 25 dX3_runStage_23 rfl rfl ?_
    refine g_iload_n 26 dX3_runStage_25 rfl rfl ?_
    refine g_icmp_ge 161 29 dX3_runStage_26 rfl (by decide) (fun h26 => ?_) (fun h26 => ?_)
    · exact absurd h26 (nI_ge (by omega) (by omega))
    · refine g_iload_n 30 dX3_runStage_29 rfl rfl ?_
      refine g_if_ne 38 33 dX3_runStage_30 rfl (by decide) (fun h30 => ?_) (fun h30 => ?_)
      · refine g_aload_n 39 dX3_runStage_38 rfl rfl ?_
        refine g_getR 42 _ dX3_runStage_39 rfl f_X3_28 (by decide) rfl rfl rfl ?_
        refine g_iload_n 43 dX3_runStage_42 rfl rfl ?_
        refine g_iconst 44 1 dX3_runStage_43 rfl (by decide) ?_
        refine g_isub 45 dX3_runStage_44 rfl ?_
        rw [nI_pred]
        refine g_aald 46 _ dX3_runStage_45 rfl (by decide) rfl (vp_in_nI (show i < 7 by omega) (by omega)) rfl ?_
        rw [nI_clamp (show i < 2 ^ 31 by omega)]
        refine g_iload 48 dX3_runStage_46 rfl rfl ?_
        refine g_iald 49 dX3_runStage_48 rfl (by omega) (k_53 i (by omega)) (vp_in_nI (show k2 < 10 by omega) (by omega)) ?_
        rw [nI_clamp (show k2 < 2 ^ 31 by omega), hq.1 (53 + i) k2 (by omega) (by omega) (by omega) (by omega) (by omega), (hr k2 (by omega)).2.1]
        refine g_istore 51 dX3_runStage_49 rfl (by decide) ?_
        have hr10 : rin k2 < 10 := (hr k2 (by omega)).1
        refine g_aload_n 52 dX3_runStage_51 rfl rfl ?_
        refine g_getR 55 _ dX3_runStage_52 rfl f_X3_16 (by decide) rfl rfl rfl ?_
        refine g_iload_n 56 dX3_runStage_55 rfl rfl ?_
        refine g_aald 57 _ dX3_runStage_56 rfl (by decide) rfl (vp_in_nI hi (by omega)) rfl ?_
        rw [nI_clamp (show (i + 1) < 2 ^ 31 by omega)]
        refine g_iload 59 dX3_runStage_57 rfl rfl ?_
        refine g_aload_n 60 dX3_runStage_59 rfl rfl ?_
        refine g_getR 63 _ dX3_runStage_60 rfl f_X3_38 (by decide) rfl rfl rfl ?_
        refine g_iload_n 64 dX3_runStage_63 rfl rfl ?_
        refine g_iald 65 dX3_runStage_64 rfl (by decide) rfl (vp_in_nI hi (by omega)) ?_
        rw [nI_clamp (show (i + 1) < 2 ^ 31 by omega), hq.1 62 (i + 1) (by omega) (by omega) (by omega) (by omega) (by omega), hbg]
        refine g_iconst 66 2 dX3_runStage_65 rfl (by decide) ?_
        refine g_iload 68 dX3_runStage_66 rfl rfl ?_
        refine g_imul 69 dX3_runStage_68 rfl ?_
        refine g_iadd 70 dX3_runStage_69 rfl ?_
        refine g_iast 71 dX3_runStage_70 rfl (by omega) (k_21 (i + 1) hi) (vp_in_nI hr10 (by omega)) ?_
        rw [nI_clamp (show rin k2 < 2 ^ 31 by omega)]
        refine g_aload_n 72 dX3_runStage_71 rfl rfl ?_
        refine g_getR 75 _ dX3_runStage_72 rfl f_X3_77 (by decide) rfl rfl rfl ?_
        refine g_iload 77 dX3_runStage_75 rfl rfl ?_
        refine g_iald 78 dX3_runStage_77 rfl (by decide) rfl (vp_in_nI hr10 (by omega)) ?_
        rw [nI_clamp (show rin k2 < 2 ^ 31 by omega), q_upc (by omega), hq.1 6 (rin k2) (by omega) (by omega) (by omega) (by omega) (by omega), hbk k2 (by omega)]
        refine g_iload_n 79 dX3_runStage_78 rfl rfl ?_
        refine g_icmp_eq 155 82 dX3_runStage_79 rfl (by decide) (fun h79 => ?_) (fun h79 => ?_)
        · refine g_iinc 158 (_ + 1) dX3_runStage_155 rfl rfl rfl (by decide) ?_
          refine g_goto 23 dX3_runStage_158 (by decide) ?_
          rw [nI_1]
          refine g_lv [(0, _), (1, _), (2, _), (3, _), (4, _)] rfl ?_
          exact ih (k2 + 1) (by omega) _ (q_RS_n hi hq h79)
        · refine g_aload_n 83 dX3_runStage_82 rfl rfl ?_
          refine g_getR 86 _ dX3_runStage_83 rfl f_X3_19 (by decide) rfl rfl rfl ?_
          refine g_iload_n 87 dX3_runStage_86 rfl rfl ?_
          refine g_aald 88 _ dX3_runStage_87 rfl (by decide) rfl (vp_in_nI hi (by omega)) rfl ?_
          rw [nI_clamp (show (i + 1) < 2 ^ 31 by omega)]
          refine g_iload 90 dX3_runStage_88 rfl rfl ?_
          refine g_aload_n 91 dX3_runStage_90 rfl rfl ?_
          refine g_getR 94 _ dX3_runStage_91 rfl f_X3_16 (by decide) rfl rfl rfl ?_
          refine g_iload_n 95 dX3_runStage_94 rfl rfl ?_
          refine g_aald 96 _ dX3_runStage_95 rfl (by decide) rfl (vp_in_nI hi (by omega)) rfl ?_
          rw [nI_clamp (show (i + 1) < 2 ^ 31 by omega)]
          refine g_iload 98 dX3_runStage_96 rfl rfl ?_
          refine g_iald 99 dX3_runStage_98 rfl (by omega) (k_21 (i + 1) hi) (vp_in_nI hr10 (by omega)) ?_
          rw [nI_clamp (show rin k2 < 2 ^ 31 by omega), q_ups]
          refine g_aload_n 100 dX3_runStage_99 rfl rfl ?_
          refine g_getR 103 _ dX3_runStage_100 rfl f_X3_11 (by decide) rfl rfl rfl ?_
          refine g_iload_n 104 dX3_runStage_103 rfl rfl ?_
          refine g_aald 105 _ dX3_runStage_104 rfl (by decide) rfl (vp_in_nI hi (by omega)) rfl ?_
          rw [nI_clamp (show (i + 1) < 2 ^ 31 by omega)]
          refine g_iload 107 dX3_runStage_105 rfl rfl ?_
          refine g_iald 108 dX3_runStage_107 rfl (by omega) (k_13 (i + 1) hi) (vp_in_nI hr10 (by omega)) ?_
          rw [nI_clamp (show rin k2 < 2 ^ 31 by omega), q_upc (by omega), hq.1 (13 + (i + 1)) (rin k2) (by omega) (by omega) (by omega) (by omega) (by omega), htm k2 (by omega)]
          refine g_iadd 109 dX3_runStage_108 rfl ?_
          refine g_iast 110 dX3_runStage_109 rfl (by omega) (k_29 (i + 1) hi) (vp_in_nI hr10 (by omega)) ?_
          rw [nI_clamp (show rin k2 < 2 ^ 31 by omega)]
          refine g_aload_n 111 dX3_runStage_110 rfl rfl ?_
          refine g_getR 114 _ dX3_runStage_111 rfl f_X3_25 (by decide) rfl rfl rfl ?_
          refine g_iload_n 115 dX3_runStage_114 rfl rfl ?_
          refine g_aald 116 _ dX3_runStage_115 rfl (by decide) rfl (vp_in_nI hi (by omega)) rfl ?_
          rw [nI_clamp (show (i + 1) < 2 ^ 31 by omega)]
          refine g_iload 118 dX3_runStage_116 rfl rfl ?_
          refine g_aload_n 119 dX3_runStage_118 rfl rfl ?_
          refine g_getR 122 _ dX3_runStage_119 rfl f_X3_11 (by decide) rfl rfl rfl ?_
          refine g_iload_n 123 dX3_runStage_122 rfl rfl ?_
          refine g_aald 124 _ dX3_runStage_123 rfl (by decide) rfl (vp_in_nI hi (by omega)) rfl ?_
          rw [nI_clamp (show (i + 1) < 2 ^ 31 by omega)]
          refine g_iload 126 dX3_runStage_124 rfl rfl ?_
          refine g_iald 127 dX3_runStage_126 rfl (by omega) (k_13 (i + 1) hi) (vp_in_nI hr10 (by omega)) ?_
          rw [nI_clamp (show rin k2 < 2 ^ 31 by omega), q_upc (by omega), q_upc (by omega), hq.1 (13 + (i + 1)) (rin k2) (by omega) (by omega) (by omega) (by omega) (by omega), htm k2 (by omega)]
          refine g_iload_n 128 dX3_runStage_127 rfl rfl ?_
          refine g_if_ne 135 131 dX3_runStage_128 rfl (by decide) (fun h128 => ?_) (fun h128 => ?_)
          · refine g_aload_n 136 dX3_runStage_135 rfl rfl ?_
            refine g_getR 139 _ dX3_runStage_136 rfl f_X3_25 (by decide) rfl rfl rfl ?_
            refine g_iload_n 140 dX3_runStage_139 rfl rfl ?_
            refine g_iconst 141 1 dX3_runStage_140 rfl (by decide) ?_
            refine g_isub 142 dX3_runStage_141 rfl ?_
            rw [nI_pred]
            refine g_aald 143 _ dX3_runStage_142 rfl (by decide) rfl (vp_in_nI (show i < 7 by omega) (by omega)) rfl ?_
            rw [nI_clamp (show i < 2 ^ 31 by omega)]
            refine g_iload 145 dX3_runStage_143 rfl rfl ?_
            refine g_iald 146 dX3_runStage_145 rfl (by omega) (k_45 i (by omega)) (vp_in_nI hr10 (by omega)) ?_
            rw [nI_clamp (show rin k2 < 2 ^ 31 by omega), q_upc (by omega), q_upc (by omega), hq.1 (45 + i) (rin k2) (by omega) (by omega) (by omega) (by omega) (by omega), (hr k2 (by omega)).2.2]
            refine g_iadd 147 dX3_runStage_146 rfl ?_
            refine g_iast 148 dX3_runStage_147 rfl (by omega) (k_45 (i + 1) hi) (vp_in_nI hr10 (by omega)) ?_
            rw [nI_clamp (show rin k2 < 2 ^ 31 by omega), ← hS]
            refine g_aload_n 149 dX3_runStage_148 rfl rfl ?_
            refine g_iload_n 150 dX3_runStage_149 rfl rfl ?_
            refine g_iload 152 dX3_runStage_150 rfl rfl ?_
            have hle := q_so_le S bk (i + 1) rin k2
            have hcm : (q_up (q_up (q_up μ (21 + (i + 1)) (rin k2) (bg + 2 * nI k2)) (29 + (i + 1)) (rin k2) (bg + 2 * nI k2 + tm (rin k2))) (45 + (i + 1)) (rin k2) (S (rin k2))) 60 (i + 1) = nI (q_so S bk (i + 1) rin k2).2 := by rw [q_upc (by omega), q_upc (by omega), q_upc (by omega)]; exact hq.2.2.2.2.2
            have ho : ∀ j, j < (q_so S bk (i + 1) rin k2).2 → (q_up (q_up (q_up μ (21 + (i + 1)) (rin k2) (bg + 2 * nI k2)) (29 + (i + 1)) (rin k2) (bg + 2 * nI k2 + tm (rin k2))) (45 + (i + 1)) (rin k2) (S (rin k2))) (53 + (i + 1)) j = nI ((q_so S bk (i + 1) rin k2).1 j) ∧ (q_so S bk (i + 1) rin k2).1 j < 10 ∧ (q_up (q_up (q_up μ (21 + (i + 1)) (rin k2) (bg + 2 * nI k2)) (29 + (i + 1)) (rin k2) (bg + 2 * nI k2 + tm (rin k2))) (45 + (i + 1)) (rin k2) (S (rin k2))) (45 + (i + 1)) ((q_so S bk (i + 1) rin k2).1 j) = S ((q_so S bk (i + 1) rin k2).1 j) := by
              intro j hj
              obtain ⟨k9, g1, g2, g3⟩ := q_so_mem S bk (i + 1) rin k2 j hj
              have hk9 : rin k9 < 10 := (hr k9 (by omega)).1
              refine ⟨by rw [q_upc (by omega), q_upc (by omega), q_upc (by omega)]; exact hq.2.2.2.2.1 j hj, by rw [g2]; exact hk9, ?_⟩
              by_cases q : (q_so S bk (i + 1) rin k2).1 j = rin k2
              · rw [q, q_ups]
              · rw [q_upo (fun z => q z.2), q_upc (by omega), q_upc (by omega), hq.2.2.2.1 _ (by rw [g2]; exact hk9)]
                exact q_so_su S bk (i + 1) rin k2 j hj
            refine g_Vv 155 [_, _] _ dX3_runStage_152 rfl m_X3_rank l_X3_89 rfl rfl rfl (by decide) (c_rank hi hr10 (by omega) hcm ho q_ups) rfl (Nat.le_of_ble_eq_true rfl) (by decide) (fun μ152 ρ152 hc9 => ?_)
            obtain ⟨rfl, rfl⟩ := hc9
            refine g_iinc 158 (_ + 1) dX3_runStage_155 rfl rfl rfl (by decide) ?_
            refine g_goto 23 dX3_runStage_158 (by decide) ?_
            rw [nI_1]
            refine g_lv [(0, _), (1, _), (2, _), (3, _), (4, _)] rfl ?_
            exact ih (k2 + 1) (by omega) _ (q_RS_y hi hq h79 rfl rfl)
          · exact absurd h128 (nI_ne0 (by omega) (by omega))
      · exact absurd h30 (nI_ne0 (by omega) (by omega))
set_option maxRecDepth 100000 in
set_option maxHeartbeats 4000000 in
theorem c_stages {i M : Nat} {rin : Nat → Nat} {bg : Int32} {tm S Sp bk : Nat → Int32} {μ0 : q_M} (hi : i + 1 < 7) (hM : M ≤ 10) (hr : ∀ k, k < M → rin k < 10 ∧ μ0 (53 + i) k = nI (rin k) ∧ μ0 (45 + i) (rin k) = Sp (rin k)) (hbg : μ0 62 (i + 1) = bg) (htm : ∀ k, k < M → μ0 (13 + (i + 1)) (rin k) = tm (rin k)) (hS : ∀ r, S r = tm r + Sp r) (hbk : ∀ k, k < M → μ0 6 (rin k) = bk (rin k)) (hcnt : μ0 60 i = nI M) (h0 : q_RS μ0 μ0 (i + 1) 0 rin bg tm S bk) : q_Ct C l FX3_runStage 2 142 142 [.ref (q_a C 11), .int (nI (i + 1)), .ref (q_a C 4)] μ0 (q_ρ b) (q_PV fun μ' ρ' => q_ρ b = ρ' ∧ ∃ μ1, q_RS μ0 μ1 (i + 1) M rin bg tm S bk ∧ q_up μ1 61 (i + 1) (nI M) = μ') := by
  refine q_entry rfl (by decide) (Nat.le_of_ble_eq_true rfl) ?_
  refine g_lv [(0, _), (1, _), (2, _)] rfl ?_
  refine g_iload_n 1 dX3_runStage_0 rfl rfl ?_
  refine g_if_ne 11 4 dX3_runStage_1 rfl (by decide) (fun h1 => ?_) (fun h1 => ?_)
  · refine g_aload_n 12 dX3_runStage_11 rfl rfl ?_
    refine g_getR 15 _ dX3_runStage_12 rfl f_X3_31 (by decide) rfl rfl rfl ?_
    refine g_iload_n 16 dX3_runStage_15 rfl rfl ?_
    refine g_iconst 17 1 dX3_runStage_16 rfl (by decide) ?_
    refine g_isub 18 dX3_runStage_17 rfl ?_
    rw [nI_pred]
    refine g_iald 19 dX3_runStage_18 rfl (by decide) rfl (vp_in_nI (show i < 7 by omega) (by omega)) ?_
    rw [nI_clamp (show i < 2 ^ 31 by omega), hcnt]
    refine g_istore_n 20 dX3_runStage_19 rfl (by decide) ?_
    refine g_iconst 21 0 dX3_runStage_20 rfl (by decide) ?_
    refine g_istore 23 dX3_runStage_21 rfl (by decide) ?_
    refine g_lv [(0, _), (1, _), (2, _), (3, _), (4, .int (nI 0))] rfl ?_
    exact lp_stages hi hM hr hbg htm hS hbk M 0 (by omega) μ0 h0
  · exact absurd h1 (nI_ne0 (by omega) (by omega))
end SG
end
section
/-! ===== the race: pure ===== -/
def q_S (tm : Nat → Nat → Int32) : Nat → Nat → Int32
  | 0, r => tm 0 r + 0
  | i + 1, r => tm (i + 1) r + q_S tm i r
/-- who starts in stage i, in which order -/
def q_od (cnt : Nat) (tm : Nat → Nat → Int32) (bk : Nat → Int32) : Nat → (Nat → Nat) × Nat
  | 0 => (fun k => k, cnt)
  | i + 1 => q_so (q_S tm i) bk i (q_od cnt tm bk i).1 (q_od cnt tm bk i).2
theorem q_od_le (cnt : Nat) (tm : Nat → Nat → Int32) (bk : Nat → Int32) : ∀ i, (q_od cnt tm bk i).2 ≤ cnt
  | 0 => Nat.le_refl _
  | i + 1 => Nat.le_trans (q_so_le _ _ _ _ _) (q_od_le cnt tm bk i)
theorem q_od_dec (cnt : Nat) (tm : Nat → Nat → Int32) (bk : Nat → Int32) (i : Nat) : (q_od cnt tm bk (i + 1)).2 ≤ (q_od cnt tm bk i).2 := q_so_le _ _ _ _ _
theorem q_od_lt (cnt : Nat) (tm : Nat → Nat → Int32) (bk : Nat → Int32) : ∀ i j, j < (q_od cnt tm bk i).2 → (q_od cnt tm bk i).1 j < cnt
  | 0, j, h => h
  | i + 1, j, h => by
    obtain ⟨k', h1, h2, h3⟩ := q_so_mem _ _ _ _ _ j h
    have e : (q_od cnt tm bk (i + 1)).1 j = (q_od cnt tm bk i).1 k' := h2
    rw [e]
    exact q_od_lt cnt tm bk i k' h1
/-- stage i as the class holds it -/
def q_SG (μ : q_M) (cnt : Nat) (tm : Nat → Nat → Int32) (bk bg : Nat → Int32) (i : Nat) : Prop :=
  (∀ r, r < cnt → μ (13 + i) r = tm i r) ∧ (∀ r, r < 10 → μ (21 + i) r = q_st (bg i) (q_od cnt tm bk i).1 (q_od cnt tm bk i).2 r) ∧
  (∀ r, r < 10 → μ (29 + i) r = q_ar (bg i) (tm i) bk i (q_od cnt tm bk i).1 (q_od cnt tm bk i).2 r) ∧
  (∀ r, r < 10 → μ (37 + i) r = q_pl (fun _ => -1) (q_od cnt tm bk (i + 1)).1 (q_od cnt tm bk (i + 1)).2 r) ∧
  (∀ r, r < 10 → μ (45 + i) r = q_su (q_S tm i) bk i (q_od cnt tm bk i).1 (q_od cnt tm bk i).2 r) ∧
  (∀ j, j < (q_od cnt tm bk (i + 1)).2 → μ (53 + i) j = nI ((q_od cnt tm bk (i + 1)).1 j)) ∧
  μ 60 i = nI (q_od cnt tm bk (i + 1)).2 ∧ μ 61 i = nI (q_od cnt tm bk i).2 ∧ μ 62 i = bg i
def q_RN (μ0 μ : q_M) (cnt : Nat) (tm : Nat → Nat → Int32) (bk bg : Nat → Int32) (i : Nat) : Prop :=
  (∀ i', i' < i → q_SG μ cnt tm bk bg i') ∧ ∀ c j, (c < 13 ∨ 62 < c) → μ c j = μ0 c j
def q_tz (μ : q_M) (i : Nat) (t : Nat → Int32) (k : Nat) : q_M := fun c j => if c = 13 + i ∧ j < k then t j else μ c j
theorem q_tz_0 {μ : q_M} {i : Nat} {t : Nat → Int32} : q_tz μ i t 0 = μ := by funext c j; unfold q_tz; rw [if_neg (by omega)]
theorem q_tz_s {μ : q_M} {i k : Nat} {t : Nat → Int32} {v : Int32} (h : v = t k) : q_up (q_tz μ i t k) (13 + i) k v = q_tz μ i t (k + 1) := by
  subst h
  funext c j
  unfold q_up q_tz
  by_cases e : c = 13 + i ∧ j = k
  · rw [if_pos e, if_pos (by omega), e.2]
  · rw [if_neg e]
    by_cases e2 : c = 13 + i ∧ j < k
    · rw [if_pos e2, if_pos (by omega)]
    · rw [if_neg e2, if_neg (by omega)]
theorem q_tz_o {μ : q_M} {i k c j : Nat} {t : Nat → Int32} (h : c ≠ 13 + i) : q_tz μ i t k c j = μ c j := if_neg (fun z => h z.1)
def q_m2 (μ : q_M) (i : Nat) (v : Int32) : q_M := q_up (q_up (q_up (q_fl μ i 10) 60 i 0) 61 i 0) 62 i v
theorem q_m2_o {μ : q_M} {i c j : Nat} {v : Int32} (h1 : c ≠ 21 + i) (h2 : c ≠ 29 + i) (h3 : c ≠ 37 + i) (h4 : c ≠ 45 + i) (h5 : (c ≠ 60 ∧ c ≠ 61 ∧ c ≠ 62) ∨ j ≠ i) : q_m2 μ i v c j = μ c j := by
  unfold q_m2
  rw [q_upo (by omega), q_upo (by omega), q_upo (by omega)]
  exact if_neg (by omega)
theorem q_m2_f {μ : q_M} {i c j : Nat} {v : Int32} (hi : i < 7) (h : c = 21 + i ∨ c = 29 + i ∨ c = 37 + i ∨ c = 45 + i) (hj : j < 10) : q_m2 μ i v c j = -1 := by
  unfold q_m2
  rw [q_upc (by omega), q_upc (by omega), q_upc (by omega)]
  exact if_pos ⟨h, hj⟩
/-- what the stage finds -/
theorem q_RS_0 {μ : q_M} {i cnt : Nat} {t : Nat → Int32} {v : Int32} {rin : Nat → Nat} {bg : Int32} {tm S bk : Nat → Int32} (hi : i < 7) : q_RS (q_tz (q_m2 μ i v) i t cnt) (q_tz (q_m2 μ i v) i t cnt) i 0 rin bg tm S bk := by
  refine ⟨fun c j _ _ _ _ _ => rfl, fun r hr => ?_, fun r hr => ?_, fun r hr => ?_, fun j hj => absurd hj (Nat.not_lt_zero _), ?_⟩
  · rw [q_tz_o (by omega), q_m2_f hi (by omega) hr]; rfl
  · rw [q_tz_o (by omega), q_m2_f hi (by omega) hr]; rfl
  · rw [q_tz_o (by omega), q_m2_f hi (by omega) hr]; rfl
  · rw [q_tz_o (by omega)]
    unfold q_m2
    rw [q_upc (by decide), q_upc (by decide), q_ups]
    rfl
theorem q_RN_s {μ0 μ μ4 : q_M} {cnt i : Nat} {tm : Nat → Nat → Int32} {bk bg : Nat → Int32} (hi : i < 7) (hc : cnt ≤ 10) (h : q_RN μ0 μ cnt tm bk bg i) (h4 : q_RS (q_tz (q_m2 μ i (bg i)) i (tm i) cnt) μ4 i (q_od cnt tm bk i).2 (q_od cnt tm bk i).1 (bg i) (tm i) (q_S tm i) bk) :
    q_RN μ0 (q_tp (q_up μ4 61 i (nI (q_od cnt tm bk i).2)) i (q_od cnt tm bk (i + 1)).1 (q_od cnt tm bk (i + 1)).2) cnt tm bk bg (i + 1) := by
  obtain ⟨g1, g2, g3, g4, g5, g6⟩ := h4
  have tp : ∀ c j, c ≠ 37 + i → q_tp (q_up μ4 61 i (nI (q_od cnt tm bk i).2)) i (q_od cnt tm bk (i + 1)).1 (q_od cnt tm bk (i + 1)).2 c j = q_up μ4 61 i (nI (q_od cnt tm bk i).2) c j := fun c j hc => if_neg hc
  have off : ∀ c j, c ≠ 13 + i → c ≠ 21 + i → c ≠ 29 + i → c ≠ 37 + i → c ≠ 45 + i → c ≠ 53 + i → ((c ≠ 60 ∧ c ≠ 61 ∧ c ≠ 62) ∨ j ≠ i) → q_tp (q_up μ4 61 i (nI (q_od cnt tm bk i).2)) i (q_od cnt tm bk (i + 1)).1 (q_od cnt tm bk (i + 1)).2 c j = μ c j := by
    intro c j a0 a1 a2 a3 a4 a5 a6
    rw [tp c j a3, q_upo (by omega), g1 c j a1 a2 a4 a5 (by omega), q_tz_o a0, q_m2_o a1 a2 a3 a4 a6]
  refine ⟨fun i' hi' => ?_, fun c j hcj => ?_⟩
  · by_cases e : i' = i
    · subst e
      refine ⟨fun r hr => ?_, fun r hr => ?_, fun r hr => ?_, fun r hr => ?_, fun r hr => ?_, fun j hj => ?_, ?_, ?_, ?_⟩
      · rw [tp _ _ (by omega), q_upc (by omega), g1 _ _ (by omega) (by omega) (by omega) (by omega) (by omega)]
        exact if_pos ⟨rfl, hr⟩
      · rw [tp _ _ (by omega), q_upc (by omega)]; exact g2 r hr
      · rw [tp _ _ (by omega), q_upc (by omega)]; exact g3 r hr
      · show (if 37 + i' = 37 + i' then _ else _) = _
        rw [if_pos rfl]
        have hf : ∀ r, r < 10 → q_up μ4 61 i' (nI (q_od cnt tm bk i').2) (37 + i') r = -1 := by
          intro r hr
          rw [q_upc (by omega), g1 _ _ (by omega) (by omega) (by omega) (by omega) (by omega), q_tz_o (by omega), q_m2_f hi (by omega) hr]
        have key : ∀ p r, r < 10 → q_pl (q_up μ4 61 i' (nI (q_od cnt tm bk i').2) (37 + i')) (q_od cnt tm bk (i' + 1)).1 p r = q_pl (fun _ => -1) (q_od cnt tm bk (i' + 1)).1 p r := by
          intro p
          induction p with
          | zero => intro r hr; exact hf r hr
          | succ p ih => intro r hr; unfold q_pl; rw [ih r hr]
        exact key _ r hr
      · rw [tp _ _ (by omega), q_upc (by omega)]; exact g4 r hr
      · rw [tp _ _ (by omega), q_upc (by omega)]; exact g5 j hj
      · rw [tp _ _ (by omega), q_upc (by omega)]; exact g6
      · rw [tp _ _ (by omega), q_ups]
      · rw [tp _ _ (by omega), q_upc (by omega), g1 _ _ (by omega) (by omega) (by omega) (by omega) (by omega), q_tz_o (by omega)]
        unfold q_m2
        rw [q_ups]
    · obtain ⟨a1, a2, a3, a4, a5, a6, a7, a8, a9⟩ := h.1 i' (by omega)
      refine ⟨fun r hr => ?_, fun r hr => ?_, fun r hr => ?_, fun r hr => ?_, fun r hr => ?_, fun j hj => ?_, ?_, ?_, ?_⟩
      · rw [off _ _ (by omega) (by omega) (by omega) (by omega) (by omega) (by omega) (by omega)]; exact a1 r hr
      · rw [off _ _ (by omega) (by omega) (by omega) (by omega) (by omega) (by omega) (by omega)]; exact a2 r hr
      · rw [off _ _ (by omega) (by omega) (by omega) (by omega) (by omega) (by omega) (by omega)]; exact a3 r hr
      · rw [off _ _ (by omega) (by omega) (by omega) (by omega) (by omega) (by omega) (by omega)]; exact a4 r hr
      · rw [off _ _ (by omega) (by omega) (by omega) (by omega) (by omega) (by omega) (by omega)]; exact a5 r hr
      · rw [off _ _ (by omega) (by omega) (by omega) (by omega) (by omega) (by omega) (by omega)]; exact a6 j hj
      · rw [off _ _ (by omega) (by omega) (by omega) (by omega) (by omega) (by omega) (by omega)]; exact a7
      · rw [off _ _ (by omega) (by omega) (by omega) (by omega) (by omega) (by omega) (by omega)]; exact a8
      · rw [off _ _ (by omega) (by omega) (by omega) (by omega) (by omega) (by omega) (by omega)]; exact a9
  · rw [off c j (by omega) (by omega) (by omega) (by omega) (by omega) (by omega) (by omega)]
    exact h.2 c j hcj
/-! ===== the race: the class ===== -/
/-- what a race needs of the told things, in the class -/
def q_IN (μ0 : q_M) (cnt rb : Nat) (K : Nat → Nat) (tm : Nat → Nat → Int32) (bk bg : Nat → Int32) : Prop :=
  cnt ≤ 10 ∧ (rb = 70 ∨ rb = 96) ∧ μ0 4 3 = nI cnt ∧ (∀ i, i < 7 → K i ≤ 4 ∧ μ0 (rb + 1) i = nI (K i)) ∧
  (∀ i r, i < 7 → r < cnt → tm i r = q_time (μ0 5 r) (μ0 2 i) (μ0 (rb + 3 + i)) (μ0 (rb + 11 + i)) (μ0 (rb + 19 + i)) (K i)) ∧ (∀ r, r < cnt → μ0 6 r = bk r) ∧ (∀ i, i < 7 → bg i = nI i * 1440 + μ0 3 i * 60)
section RN
variable {C : q_C} {l : Launch} {μ μ0 : q_M} {b : Bool}
set_option maxRecDepth 100000 in
set_option maxHeartbeats 4000000 in
theorem lp_times {rb cnt : Nat} {K : Nat → Nat} {tm : Nat → Nat → Int32} {bk bg : Nat → Int32} {i : Nat} {μ2 : q_M} {Po : q_P} (hI : q_IN μ0 cnt rb K tm bk bg) (hi : i < 7) (hf : ∀ c j, (c < 13 ∨ 62 < c) → μ2 c j = μ0 c j) (hk9 : q_G C l FX3_run 3 142 142 Po 142 (q_tz μ2 i (tm i) cnt) (q_ρ b) [(0, .ref (q_a C 11)), (1, .ref (q_a C 1)), (2, .ref (q_a C 4)), (3, .ref (q_a C rb)), (4, .int (nI i))] [] 77) : ∀ k r2, r2 + k = cnt → q_G C l FX3_run 3 142 142 Po 142 (q_tz μ2 i (tm i) r2) (q_ρ b) [(0, .ref (q_a C 11)), (1, .ref (q_a C 1)), (2, .ref (q_a C 4)), (3, .ref (q_a C rb)), (4, .int (nI i)), (5, .int (nI r2))] [] 32 := by
  intro k
  induction k with
  | zero =>
    intro r2 hK9
    refine g_iload 34 dX3_run_32 rfl rfl ?_
    refine g_aload_n 35 dX3_run_34 rfl rfl ?_
    refine g_getI 38 dX3_run_35 rfl f_X3_50 (by decide) rfl rfl ?_
    rw [q_tz_o (by omega), hf 4 3 (by omega), hI.2.2.1]
    refine g_icmp_ge 77 41 dX3_run_38 rfl (by decide) (fun h38 => ?_) (fun h38 => ?_)
    · rw [show r2 = cnt by omega]
      refine g_lv [(0, _), (1, _), (2, _), (3, _), (4, _)] rfl ?_
      exact hk9
    · exact absurd (nI_le (by omega) (by have := hI.1; omega)) h38
  | succ k ih =>
    intro r2 hK9
    refine g_iload 34 dX3_run_32 rfl rfl ?_
    refine g_aload_n 35 dX3_run_34 rfl rfl ?_
    refine g_getI 38 dX3_run_35 rfl f_X3_50 (by decide) rfl rfl ?_
    rw [q_tz_o (by omega), hf 4 3 (by omega), hI.2.2.1]
    refine g_icmp_ge 77 41 dX3_run_38 rfl (by decide) (fun h38 => ?_) (fun h38 => ?_)
    · exact absurd h38 (nI_ge (by omega) (by have := hI.1; omega))
    · refine g_aload_n 42 dX3_run_41 rfl rfl ?_
      refine g_getR 45 _ dX3_run_42 rfl f_X3_11 (by decide) rfl rfl rfl ?_
      refine g_iload 47 dX3_run_45 rfl rfl ?_
      refine g_aald 48 _ dX3_run_47 rfl (by decide) rfl (vp_in_nI hi (by omega)) rfl ?_
      rw [nI_clamp (show i < 2 ^ 31 by omega)]
      have hcn := hI.1
      refine g_iload 50 dX3_run_48 rfl rfl ?_
      refine g_aload_n 51 dX3_run_50 rfl rfl ?_
      refine g_getR 54 _ dX3_run_51 rfl f_X3_56 (by decide) rfl rfl rfl ?_
      refine g_iload 56 dX3_run_54 rfl rfl ?_
      refine g_iald 57 dX3_run_56 rfl (by decide) rfl (vp_in_nI (show r2 < 10 by omega) (by omega)) ?_
      rw [nI_clamp (show r2 < 2 ^ 31 by omega), q_tz_o (by omega), hf 5 r2 (by omega)]
      refine g_aload_n 58 dX3_run_57 rfl rfl ?_
      refine g_getR 61 _ dX3_run_58 rfl f_X3_59 (by decide) rfl rfl rfl ?_
      refine g_iload 63 dX3_run_61 rfl rfl ?_
      refine g_iald 64 dX3_run_63 rfl (by decide) rfl (vp_in_nI hi (by omega)) ?_
      rw [nI_clamp (show i < 2 ^ 31 by omega), q_tz_o (by omega), hf 2 i (by omega)]
      refine g_aload_n 65 dX3_run_64 rfl rfl ?_
      refine g_iload 67 dX3_run_65 rfl rfl ?_
      refine g_Si 70 [_, _, _, _] _ dX3_run_67 rfl m_X3_timeFor l_X3_62 rfl (c_time (r := rb) (K := K i) _ _ hI.2.1 hi (hI.2.2.2.1 i hi).1 (by rw [q_tz_o (by have := hI.2.1; omega), hf _ _ (by have := hI.2.1; omega)]; exact (hI.2.2.2.1 i hi).2)) rfl (Nat.le_of_ble_eq_true rfl) (by decide) (fun v67 μ67 ρ67 hc9 => ?_)
      obtain ⟨rfl, rfl, rfl⟩ := hc9
      have hrb := hI.2.1
      have e1 : q_tz μ2 i (tm i) r2 (rb + 3 + i) = μ0 (rb + 3 + i) := by funext j; rw [q_tz_o (by omega), hf _ _ (by omega)]
      have e2 : q_tz μ2 i (tm i) r2 (rb + 11 + i) = μ0 (rb + 11 + i) := by funext j; rw [q_tz_o (by omega), hf _ _ (by omega)]
      have e3 : q_tz μ2 i (tm i) r2 (rb + 19 + i) = μ0 (rb + 19 + i) := by funext j; rw [q_tz_o (by omega), hf _ _ (by omega)]
      rw [e1, e2, e3, ← hI.2.2.2.2.1 i r2 hi (by omega)]
      refine g_iast 71 dX3_run_70 rfl (by omega) (k_13 i hi) (vp_in_nI (show r2 < 10 by omega) (by omega)) ?_
      rw [nI_clamp (show r2 < 2 ^ 31 by omega), q_tz_s rfl]
      refine g_iinc 74 (_ + 1) dX3_run_71 rfl rfl rfl (by decide) ?_
      refine g_goto 32 dX3_run_74 (by decide) ?_
      rw [nI_1]
      refine g_lv [(0, _), (1, _), (2, _), (3, _), (4, _), (5, _)] rfl ?_
      exact ih (r2 + 1) (by omega)
set_option maxRecDepth 100000 in
set_option maxHeartbeats 8000000 in
theorem lp_run {rb cnt : Nat} {K : Nat → Nat} {tm : Nat → Nat → Int32} {bk bg : Nat → Int32} (hI : q_IN μ0 cnt rb K tm bk bg) : ∀ k i, i + k = 7 → ∀ μ, q_RN μ0 μ cnt tm bk bg i → q_G C l FX3_run 3 142 142 (q_PV fun μ' ρ' => q_ρ b = ρ' ∧ q_RN μ0 μ' cnt tm bk bg 7) 142 μ (q_ρ b) [(0, .ref (q_a C 11)), (1, .ref (q_a C 1)), (2, .ref (q_a C 4)), (3, .ref (q_a C rb)), (4, .int (nI i))] [] 3 := by
  intro k
  induction k with
  | zero =>
    intro i hk μ hq
    refine g_iload 5 dX3_run_3 rfl rfl ?_
    refine g_bipush 7 7 dX3_run_5 rfl (by decide) ?_
    refine g_icmp_ge 96 10 dX3_run_7 rfl (by decide) (fun h7 => ?_) (fun h7 => ?_)
    · exact g_rv dX3_run_96 rfl rfl ⟨rfl, by rw [show i = 7 by omega] at hq; exact hq⟩
    · exact absurd (nI_le (a := 7) (b := i) (by omega) (by omega)) h7
  | succ k ih =>
    intro i hk μ hq
    have hi : i < 7 := by omega
    have hcn := hI.1
    cases i with
    | zero =>
      refine g_iload 5 dX3_run_3 rfl rfl ?_
      refine g_bipush 7 7 dX3_run_5 rfl (by decide) ?_
      refine g_icmp_ge 96 10 dX3_run_7 rfl (by decide) (fun h7 => ?_) (fun h7 => ?_)
      · exact absurd h7 (nI_ge (a := 0) (b := 7) (by omega) (by omega))
      · refine g_aload_n 11 dX3_run_10 rfl rfl ?_
        refine g_iload 13 dX3_run_11 rfl rfl ?_
        refine g_Vv 16 [_] _ dX3_run_13 rfl m_X3_forget l_X3_41 rfl rfl rfl (by decide) (c_frg (show 0 < 7 by decide)) rfl (Nat.le_of_ble_eq_true rfl) (by decide) (fun μ13 ρ13 hc9 => ?_)
        obtain ⟨rfl, rfl⟩ := hc9
        refine g_aload_n 17 dX3_run_16 rfl rfl ?_
        refine g_getR 20 _ dX3_run_17 rfl f_X3_38 (by decide) rfl rfl rfl ?_
        refine g_iload 22 dX3_run_20 rfl rfl ?_
        refine g_aload_n 23 dX3_run_22 rfl rfl ?_
        refine g_iload 25 dX3_run_23 rfl rfl ?_
        refine g_Vi 28 [_] _ dX3_run_25 rfl m_X1_begins l_X3_45 rfl rfl rfl (by decide) (c_begins 0 (show 0 < 7 by decide)) rfl (Nat.le_of_ble_eq_true rfl) (by decide) (fun v25 μ25 ρ25 hc9 => ?_)
        obtain ⟨rfl, rfl, rfl⟩ := hc9
        rw [q_upc (by decide), q_upc (by decide), show q_fl μ 0 10 3 0 = μ 3 0 from if_neg (by omega), hq.2 3 0 (by decide), ← hI.2.2.2.2.2.2 0 (show 0 < 7 by decide)]
        refine g_iast 29 dX3_run_28 rfl (by decide) rfl (vp_in_nI (show 0 < 7 by decide) (by omega)) ?_
        rw [nI_clamp (show 0 < 2 ^ 31 by omega)]
        refine g_iconst 30 0 dX3_run_29 rfl (by decide) ?_
        refine g_istore 32 dX3_run_30 rfl (by decide) ?_
        have h9 := lp_times (C := C) (l := l) (b := b) (Po := (q_PV fun μ' ρ' => q_ρ b = ρ' ∧ q_RN μ0 μ' cnt tm bk bg 7)) (μ2 := q_m2 μ 0 (bg 0)) hI (show 0 < 7 by decide) (fun c j hc => by rw [q_m2_o (by omega) (by omega) (by omega) (by omega) (by omega)]; exact hq.2 c j hc) ?_ cnt 0 (by omega)
        · refine g_lv [(0, _), (1, _), (2, _), (3, _), (4, _), (5, .int 0)] rfl ?_
          rw [q_tz_0] at h9
          exact h9
        refine g_aload_n 78 dX3_run_77 rfl rfl ?_
        refine g_iload 80 dX3_run_78 rfl rfl ?_
        refine g_aload_n 81 dX3_run_80 rfl rfl ?_
        refine g_Vv 84 [_, _] _ dX3_run_81 rfl m_X3_runStage l_X3_66 rfl rfl rfl (by decide) (c_stage0 (rin := (q_od cnt tm bk 0).1) (S := q_S tm 0) (bk := bk) hI.1 (fun k _ => rfl) (show q_tz (q_m2 μ 0 (bg 0)) 0 (tm 0) cnt 62 0 = bg 0 from by rw [q_tz_o (by decide)]; exact q_ups) (fun k hk => if_pos ⟨rfl, hk⟩) (fun r => rfl) (fun k hk => by rw [q_tz_o (by decide), q_m2_o (by decide) (by decide) (by decide) (by decide) (by omega), hq.2 6 _ (by decide)]; exact hI.2.2.2.2.2.1 k hk) (by rw [q_tz_o (by decide), q_m2_o (by decide) (by decide) (by decide) (by decide) (by decide), hq.2 4 3 (by decide)]; exact hI.2.2.1) (q_RS_0 (by decide))) rfl (Nat.le_of_ble_eq_true rfl) (by decide) (fun μ81 ρ81 hc9 => ?_)
        obtain ⟨rfl, μ4, h4, rfl⟩ := hc9
        refine g_aload_n 85 dX3_run_84 rfl rfl ?_
        refine g_iload 87 dX3_run_85 rfl rfl ?_
        refine g_Vv 90 [_] _ dX3_run_87 rfl m_X3_tellPlaces l_X3_70 rfl rfl rfl (by decide) (c_tp (o := (q_od cnt tm bk (0 + 1)).1) (m := (q_od cnt tm bk (0 + 1)).2) (by decide) (Nat.le_trans (q_od_le cnt tm bk _) hI.1) (by rw [q_upc (by decide)]; exact h4.2.2.2.2.2) (fun j hj => ⟨by rw [q_upc (by omega)]; exact h4.2.2.2.2.1 j hj, Nat.lt_of_lt_of_le (q_od_lt cnt tm bk _ j hj) hI.1⟩)) rfl (Nat.le_of_ble_eq_true rfl) (by decide) (fun μ87 ρ87 hc9 => ?_)
        obtain ⟨rfl, rfl⟩ := hc9
        refine g_iinc 93 (_ + 1) dX3_run_90 rfl rfl rfl (by decide) ?_
        refine g_goto 3 dX3_run_93 (by decide) ?_
        rw [nI_1]
        refine g_lv [(0, _), (1, _), (2, _), (3, _), (4, _)] rfl ?_
        exact ih (0 + 1) (by omega) _ (q_RN_s (by decide) hI.1 hq h4)
    | succ i =>
      refine g_iload 5 dX3_run_3 rfl rfl ?_
      refine g_bipush 7 7 dX3_run_5 rfl (by decide) ?_
      refine g_icmp_ge 96 10 dX3_run_7 rfl (by decide) (fun h7 => ?_) (fun h7 => ?_)
      · exact absurd h7 (nI_ge (a := (i + 1)) (b := 7) (by omega) (by omega))
      · refine g_aload_n 11 dX3_run_10 rfl rfl ?_
        refine g_iload 13 dX3_run_11 rfl rfl ?_
        refine g_Vv 16 [_] _ dX3_run_13 rfl m_X3_forget l_X3_41 rfl rfl rfl (by decide) (c_frg hi) rfl (Nat.le_of_ble_eq_true rfl) (by decide) (fun μ13 ρ13 hc9 => ?_)
        obtain ⟨rfl, rfl⟩ := hc9
        refine g_aload_n 17 dX3_run_16 rfl rfl ?_
        refine g_getR 20 _ dX3_run_17 rfl f_X3_38 (by decide) rfl rfl rfl ?_
        refine g_iload 22 dX3_run_20 rfl rfl ?_
        refine g_aload_n 23 dX3_run_22 rfl rfl ?_
        refine g_iload 25 dX3_run_23 rfl rfl ?_
        refine g_Vi 28 [_] _ dX3_run_25 rfl m_X1_begins l_X3_45 rfl rfl rfl (by decide) (c_begins (i + 1) hi) rfl (Nat.le_of_ble_eq_true rfl) (by decide) (fun v25 μ25 ρ25 hc9 => ?_)
        obtain ⟨rfl, rfl, rfl⟩ := hc9
        rw [q_upc (by decide), q_upc (by decide), show q_fl μ (i + 1) 10 3 (i + 1) = μ 3 (i + 1) from if_neg (by omega), hq.2 3 (i + 1) (by decide), ← hI.2.2.2.2.2.2 (i + 1) hi]
        refine g_iast 29 dX3_run_28 rfl (by decide) rfl (vp_in_nI hi (by omega)) ?_
        rw [nI_clamp (show (i + 1) < 2 ^ 31 by omega)]
        refine g_iconst 30 0 dX3_run_29 rfl (by decide) ?_
        refine g_istore 32 dX3_run_30 rfl (by decide) ?_
        have h9 := lp_times (C := C) (l := l) (b := b) (Po := (q_PV fun μ' ρ' => q_ρ b = ρ' ∧ q_RN μ0 μ' cnt tm bk bg 7)) (μ2 := q_m2 μ (i + 1) (bg (i + 1))) hI hi (fun c j hc => by rw [q_m2_o (by omega) (by omega) (by omega) (by omega) (by omega)]; exact hq.2 c j hc) ?_ cnt 0 (by omega)
        · refine g_lv [(0, _), (1, _), (2, _), (3, _), (4, _), (5, .int 0)] rfl ?_
          rw [q_tz_0] at h9
          exact h9
        have hSG := hq.1 i (by omega)
        have hr3 : ∀ k, k < (q_od cnt tm bk (i + 1)).2 → (q_od cnt tm bk (i + 1)).1 k < 10 ∧ q_tz (q_m2 μ (i + 1) (bg (i + 1))) (i + 1) (tm (i + 1)) cnt (53 + i) k = nI ((q_od cnt tm bk (i + 1)).1 k) ∧ q_tz (q_m2 μ (i + 1) (bg (i + 1))) (i + 1) (tm (i + 1)) cnt (45 + i) ((q_od cnt tm bk (i + 1)).1 k) = q_S tm i ((q_od cnt tm bk (i + 1)).1 k) := by
          intro k hk
          have hl := q_od_lt cnt tm bk (i + 1) k hk
          refine ⟨by omega, ?_, ?_⟩
          · rw [q_tz_o (by omega), q_m2_o (by omega) (by omega) (by omega) (by omega) (by omega)]
            exact hSG.2.2.2.2.2.1 k hk
          · rw [q_tz_o (by omega), q_m2_o (by omega) (by omega) (by omega) (by omega) (by omega), hSG.2.2.2.2.1 _ (by omega)]
            exact q_so_su _ _ _ _ _ k hk
        refine g_aload_n 78 dX3_run_77 rfl rfl ?_
        refine g_iload 80 dX3_run_78 rfl rfl ?_
        refine g_aload_n 81 dX3_run_80 rfl rfl ?_
        refine g_Vv 84 [_, _] _ dX3_run_81 rfl m_X3_runStage l_X3_66 rfl rfl rfl (by decide) (c_stages (M := (q_od cnt tm bk (i + 1)).2) (rin := (q_od cnt tm bk (i + 1)).1) (S := q_S tm (i + 1)) (Sp := q_S tm i) (bk := bk) hi (Nat.le_trans (q_od_le cnt tm bk (i + 1)) hI.1) hr3 (show q_tz (q_m2 μ (i + 1) (bg (i + 1))) (i + 1) (tm (i + 1)) cnt 62 (i + 1) = bg (i + 1) from by rw [q_tz_o (by omega)]; exact q_ups) (fun k hk => if_pos ⟨rfl, q_od_lt cnt tm bk (i + 1) k hk⟩) (fun r => rfl) (fun k hk => by rw [q_tz_o (by omega), q_m2_o (by omega) (by omega) (by omega) (by omega) (by omega), hq.2 6 _ (by decide)]; exact hI.2.2.2.2.2.1 _ (q_od_lt cnt tm bk (i + 1) k hk)) (by rw [q_tz_o (by omega), q_m2_o (by omega) (by omega) (by omega) (by omega) (by omega)]; exact hSG.2.2.2.2.2.2.1) (q_RS_0 hi)) rfl (Nat.le_of_ble_eq_true rfl) (by decide) (fun μ81 ρ81 hc9 => ?_)
        obtain ⟨rfl, μ4, h4, rfl⟩ := hc9
        refine g_aload_n 85 dX3_run_84 rfl rfl ?_
        refine g_iload 87 dX3_run_85 rfl rfl ?_
        refine g_Vv 90 [_] _ dX3_run_87 rfl m_X3_tellPlaces l_X3_70 rfl rfl rfl (by decide) (c_tp (o := (q_od cnt tm bk ((i + 1) + 1)).1) (m := (q_od cnt tm bk ((i + 1) + 1)).2) hi (Nat.le_trans (q_od_le cnt tm bk _) hI.1) (by rw [q_upc (by decide)]; exact h4.2.2.2.2.2) (fun j hj => ⟨by rw [q_upc (by omega)]; exact h4.2.2.2.2.1 j hj, Nat.lt_of_lt_of_le (q_od_lt cnt tm bk _ j hj) hI.1⟩)) rfl (Nat.le_of_ble_eq_true rfl) (by decide) (fun μ87 ρ87 hc9 => ?_)
        obtain ⟨rfl, rfl⟩ := hc9
        refine g_iinc 93 (_ + 1) dX3_run_90 rfl rfl rfl (by decide) ?_
        refine g_goto 3 dX3_run_93 (by decide) ?_
        rw [nI_1]
        refine g_lv [(0, _), (1, _), (2, _), (3, _), (4, _)] rfl ?_
        exact ih ((i + 1) + 1) (by omega) _ (q_RN_s hi hI.1 hq h4)
set_option maxRecDepth 100000 in
set_option maxHeartbeats 4000000 in
theorem c_run {rb cnt : Nat} {K : Nat → Nat} {tm : Nat → Nat → Int32} {bk bg : Nat → Int32} (hI : q_IN μ cnt rb K tm bk bg) : q_Ct C l FX3_run 3 142 142 [.ref (q_a C 11), .ref (q_a C 1), .ref (q_a C 4), .ref (q_a C rb)] μ (q_ρ b) (q_PV fun μ' ρ' => q_ρ b = ρ' ∧ q_RN μ μ' cnt tm bk bg 7) := by
  refine q_entry rfl (by decide) (Nat.le_of_ble_eq_true rfl) ?_
  refine g_lv [(0, _), (1, _), (2, _), (3, _)] rfl ?_
  refine g_iconst 1 0 dX3_run_0 rfl (by decide) ?_
  refine g_istore 3 dX3_run_1 rfl (by decide) ?_
  refine g_lv [(0, _), (1, _), (2, _), (3, _), (4, .int (nI 0))] rfl ?_
  exact lp_run hI 7 0 (by omega) μ ⟨fun i h => absurd h (Nat.not_lt_zero _), fun c j _ => rfl⟩
end RN
end
section
/-! ===== the race: the reference ===== -/
theorem q_ix (i r : Nat) : (10 : Int32) * nI i + nI r = nI (10 * i + r) := by rw [show (10 : Int32) * nI i = nI (10 * i) from pk_mul 10 i, nI_add]
theorem q_ixm (i p : Nat) : (10 : Int32) * nI i + nI (p + 1) - 1 = nI (10 * i + p) := by rw [q_ix, show 10 * i + (p + 1) = (10 * i + p) + 1 by omega, nI_pred]
theorem q_ixp (i r : Nat) : (10 : Int32) * nI (i + 1) - 10 + nI r = nI (10 * i + r) := by
  rw [show (10 : Int32) * nI (i + 1) = nI (10 * (i + 1)) from pk_mul 10 (i + 1), show nI (10 * (i + 1)) - 10 = nI (10 * (i + 1) - 10) from pk_sub (b := 10) (by omega), nI_add, show 10 * (i + 1) - 10 + r = 10 * i + r by omega]
section MR
variable {C : q_C} {l : Launch} {μ : q_M} {b : Bool}
set_option maxRecDepth 100000 in
set_option maxHeartbeats 4000000 in
theorem c_MisAhead {i r x : Nat} (hi : i < 7) (hr : r < 10) (hx : x < 10) : q_Ct C l FX8_isAhead 0 142 142 [.ref (q_a C 122), .int (nI i), .int (nI r), .int (nI x)] μ (q_ρ b) (q_is (q_b (μ 136 (10 * i + r) < μ 136 (10 * i + x) ∨ (μ 136 (10 * i + r) = μ 136 (10 * i + x) ∧ nI r < nI x))) μ (q_ρ b)) := by
  refine q_entry rfl (by decide) (Nat.le_of_ble_eq_true rfl) ?_
  refine g_lv [(0, _), (1, _), (2, _), (3, _)] rfl ?_
  refine g_aload_n 1 dX8_isAhead_0 rfl rfl ?_
  refine g_getR 4 _ dX8_isAhead_1 rfl f_X8_53 (by decide) rfl rfl rfl ?_
  refine g_bipush 6 10 dX8_isAhead_4 rfl (by decide) ?_
  refine g_iload_n 7 dX8_isAhead_6 rfl rfl ?_
  refine g_imul 8 dX8_isAhead_7 rfl ?_
  refine g_iload_n 9 dX8_isAhead_8 rfl rfl ?_
  refine g_iadd 10 dX8_isAhead_9 rfl ?_
  rw [q_ix]
  refine g_iald 11 dX8_isAhead_10 rfl (by decide) rfl (vp_in_nI (show 10 * i + r < 70 by omega) (by omega)) ?_
  rw [nI_clamp (show 10 * i + r < 2 ^ 31 by omega)]
  refine g_aload_n 12 dX8_isAhead_11 rfl rfl ?_
  refine g_getR 15 _ dX8_isAhead_12 rfl f_X8_53 (by decide) rfl rfl rfl ?_
  refine g_bipush 17 10 dX8_isAhead_15 rfl (by decide) ?_
  refine g_iload_n 18 dX8_isAhead_17 rfl rfl ?_
  refine g_imul 19 dX8_isAhead_18 rfl ?_
  refine g_iload_n 20 dX8_isAhead_19 rfl rfl ?_
  refine g_iadd 21 dX8_isAhead_20 rfl ?_
  rw [q_ix]
  refine g_iald 22 dX8_isAhead_21 rfl (by decide) rfl (vp_in_nI (show 10 * i + x < 70 by omega) (by omega)) ?_
  rw [nI_clamp (show 10 * i + x < 2 ^ 31 by omega)]
  refine g_icmp_lt 55 25 dX8_isAhead_22 rfl (by decide) (fun h22 => ?_) (fun h22 => ?_)
  · refine g_iconst 56 1 dX8_isAhead_55 rfl (by decide) ?_
    refine g_goto 60 dX8_isAhead_56 (by decide) ?_
    exact g_rz dX8_isAhead_60 rfl (by first | exact Or.inl rfl | exact Or.inr rfl | assumption) rfl ⟨q_b_t (Or.inl h22), rfl, rfl⟩
  · refine g_aload_n 26 dX8_isAhead_25 rfl rfl ?_
    refine g_getR 29 _ dX8_isAhead_26 rfl f_X8_53 (by decide) rfl rfl rfl ?_
    refine g_bipush 31 10 dX8_isAhead_29 rfl (by decide) ?_
    refine g_iload_n 32 dX8_isAhead_31 rfl rfl ?_
    refine g_imul 33 dX8_isAhead_32 rfl ?_
    refine g_iload_n 34 dX8_isAhead_33 rfl rfl ?_
    refine g_iadd 35 dX8_isAhead_34 rfl ?_
    rw [q_ix]
    refine g_iald 36 dX8_isAhead_35 rfl (by decide) rfl (vp_in_nI (show 10 * i + r < 70 by omega) (by omega)) ?_
    rw [nI_clamp (show 10 * i + r < 2 ^ 31 by omega)]
    refine g_aload_n 37 dX8_isAhead_36 rfl rfl ?_
    refine g_getR 40 _ dX8_isAhead_37 rfl f_X8_53 (by decide) rfl rfl rfl ?_
    refine g_bipush 42 10 dX8_isAhead_40 rfl (by decide) ?_
    refine g_iload_n 43 dX8_isAhead_42 rfl rfl ?_
    refine g_imul 44 dX8_isAhead_43 rfl ?_
    refine g_iload_n 45 dX8_isAhead_44 rfl rfl ?_
    refine g_iadd 46 dX8_isAhead_45 rfl ?_
    rw [q_ix]
    refine g_iald 47 dX8_isAhead_46 rfl (by decide) rfl (vp_in_nI (show 10 * i + x < 70 by omega) (by omega)) ?_
    rw [nI_clamp (show 10 * i + x < 2 ^ 31 by omega)]
    refine g_icmp_ne 59 50 dX8_isAhead_47 rfl (by decide) (fun h47 => ?_) (fun h47 => ?_)
    · refine g_iconst 60 0 dX8_isAhead_59 rfl (by decide) ?_
      exact g_rz dX8_isAhead_60 rfl (by first | exact Or.inl rfl | exact Or.inr rfl | assumption) rfl ⟨q_b_f (fun q => q.elim h22 (fun q2 => h47 q2.1)), rfl, rfl⟩
    · refine g_iload_n 51 dX8_isAhead_50 rfl rfl ?_
      refine g_iload_n 52 dX8_isAhead_51 rfl rfl ?_
      refine g_icmp_ge 59 55 dX8_isAhead_52 rfl (by decide) (fun h52 => ?_) (fun h52 => ?_)
      · refine g_iconst 60 0 dX8_isAhead_59 rfl (by decide) ?_
        exact g_rz dX8_isAhead_60 rfl (by first | exact Or.inl rfl | exact Or.inr rfl | assumption) rfl ⟨q_b_f (fun q => q.elim h22 (fun q2 => absurd h52 (Int32.not_le.mpr q2.2))), rfl, rfl⟩
      · refine g_iconst 56 1 dX8_isAhead_55 rfl (by decide) ?_
        refine g_goto 60 dX8_isAhead_56 (by decide) ?_
        exact g_rz dX8_isAhead_60 rfl (by first | exact Or.inl rfl | exact Or.inr rfl | assumption) rfl ⟨q_b_t (Or.inr ⟨h47, Int32.not_le.mp h52⟩), rfl, rfl⟩
set_option maxRecDepth 100000 in
set_option maxHeartbeats 4000000 in
theorem lp_comes {i r m : Nat} {o : Nat → Nat} {S : Nat → Int32} (hi : i < 7) (hr : r < 10) (hm : m < 10) (hcm : μ 138 i = nI m) (ho : ∀ j, j < m → μ 137 (10 * i + j) = nI (o j) ∧ o j < 10 ∧ μ 136 (10 * i + o j) = S (o j)) (hSr : μ 136 (10 * i + r) = S r) : ∀ p, p ≤ m → q_G C l FX8_comes 1 142 142 (q_to (q_rk μ 137 (10 * i) 138 i m (q_ps (q_ah S r) o p) r) (q_ρ b)) 142 (q_sh μ 137 (10 * i) m p) (q_ρ b) [(0, .ref (q_a C 122)), (1, .int (nI i)), (2, .int (nI r)), (3, .int (nI p))] [] 7 := by
  intro p
  induction p with
  | zero =>
    intro hpm
    refine g_iload_n 8 dX8_comes_7 rfl rfl ?_
    refine g_if_le 63 11 dX8_comes_8 rfl (by decide) (fun h8 => ?_) (fun h8 => ?_)
    · refine g_aload_n 64 dX8_comes_63 rfl rfl ?_
      refine g_getR 67 _ dX8_comes_64 rfl f_X8_56 (by decide) rfl rfl rfl ?_
      refine g_bipush 69 10 dX8_comes_67 rfl (by decide) ?_
      refine g_iload_n 70 dX8_comes_69 rfl rfl ?_
      refine g_imul 71 dX8_comes_70 rfl ?_
      refine g_iload_n 72 dX8_comes_71 rfl rfl ?_
      refine g_iadd 73 dX8_comes_72 rfl ?_
      refine g_iload_n 74 dX8_comes_73 rfl rfl ?_
      rw [q_ix]
      refine g_iast 75 dX8_comes_74 rfl (by decide) rfl (vp_in_nI (show 10 * i + (0) < 70 by omega) (by omega)) ?_
      rw [nI_clamp (show 10 * i + (0) < 2 ^ 31 by omega)]
      refine g_aload_n 76 dX8_comes_75 rfl rfl ?_
      refine g_getR 79 _ dX8_comes_76 rfl f_X8_59 (by decide) rfl rfl rfl ?_
      refine g_iload_n 80 dX8_comes_79 rfl rfl ?_
      refine g_dup2 81 dX8_comes_80 rfl rfl rfl ?_
      refine g_iald 82 dX8_comes_81 rfl (by decide) rfl (vp_in_nI hi (by omega)) ?_
      rw [nI_clamp (show i < 2 ^ 31 by omega), q_upc (by omega), q_sh_o (by omega), hcm]
      refine g_iconst 83 1 dX8_comes_82 rfl (by decide) ?_
      refine g_iadd 84 dX8_comes_83 rfl ?_
      rw [nI_1]
      refine g_iast 85 dX8_comes_84 rfl (by decide) rfl (vp_in_nI hi (by omega)) ?_
      rw [nI_clamp (show i < 2 ^ 31 by omega)]
      exact g_rv dX8_comes_85 rfl rfl (by unfold q_rk; exact ⟨rfl, rfl⟩)
    · exact absurd (by decide) h8
  | succ p ih =>
    intro hpm
    refine g_iload_n 8 dX8_comes_7 rfl rfl ?_
    refine g_if_le 63 11 dX8_comes_8 rfl (by decide) (fun h8 => ?_) (fun h8 => ?_)
    · exact absurd h8 (nI_nle (by omega) (by omega))
    · refine g_aload_n 12 dX8_comes_11 rfl rfl ?_
      refine g_iload_n 13 dX8_comes_12 rfl rfl ?_
      refine g_iload_n 14 dX8_comes_13 rfl rfl ?_
      refine g_aload_n 15 dX8_comes_14 rfl rfl ?_
      refine g_getR 18 _ dX8_comes_15 rfl f_X8_56 (by decide) rfl rfl rfl ?_
      refine g_bipush 20 10 dX8_comes_18 rfl (by decide) ?_
      refine g_iload_n 21 dX8_comes_20 rfl rfl ?_
      refine g_imul 22 dX8_comes_21 rfl ?_
      refine g_iload_n 23 dX8_comes_22 rfl rfl ?_
      refine g_iadd 24 dX8_comes_23 rfl ?_
      refine g_iconst 25 1 dX8_comes_24 rfl (by decide) ?_
      refine g_isub 26 dX8_comes_25 rfl ?_
      rw [q_ixm]
      refine g_iald 27 dX8_comes_26 rfl (by decide) rfl (vp_in_nI (show 10 * i + p < 70 by omega) (by omega)) ?_
      rw [nI_clamp (show 10 * i + p < 2 ^ 31 by omega), q_sh_l (by omega), (ho p (by omega)).1]
      refine g_Vi 30 [_, _, _] _ dX8_comes_27 rfl m_X8_isAhead l_X8_174 rfl rfl rfl (by decide) (c_MisAhead hi hr (ho p (by omega)).2.1) rfl (Nat.le_of_ble_eq_true rfl) (by decide) (fun v27 μ27 ρ27 hc9 => ?_)
      obtain ⟨rfl, rfl, rfl⟩ := hc9
      rw [q_sh_o (by omega), q_sh_o (by omega)]
      refine g_if_eq 63 33 dX8_comes_30 rfl (by decide) (fun h30 => ?_) (fun h30 => ?_)
      · refine g_aload_n 64 dX8_comes_63 rfl rfl ?_
        refine g_getR 67 _ dX8_comes_64 rfl f_X8_56 (by decide) rfl rfl rfl ?_
        refine g_bipush 69 10 dX8_comes_67 rfl (by decide) ?_
        refine g_iload_n 70 dX8_comes_69 rfl rfl ?_
        refine g_imul 71 dX8_comes_70 rfl ?_
        refine g_iload_n 72 dX8_comes_71 rfl rfl ?_
        refine g_iadd 73 dX8_comes_72 rfl ?_
        refine g_iload_n 74 dX8_comes_73 rfl rfl ?_
        rw [q_ix]
        refine g_iast 75 dX8_comes_74 rfl (by decide) rfl (vp_in_nI (show 10 * i + (p + 1) < 70 by omega) (by omega)) ?_
        rw [nI_clamp (show 10 * i + (p + 1) < 2 ^ 31 by omega)]
        refine g_aload_n 76 dX8_comes_75 rfl rfl ?_
        refine g_getR 79 _ dX8_comes_76 rfl f_X8_59 (by decide) rfl rfl rfl ?_
        refine g_iload_n 80 dX8_comes_79 rfl rfl ?_
        refine g_dup2 81 dX8_comes_80 rfl rfl rfl ?_
        refine g_iald 82 dX8_comes_81 rfl (by decide) rfl (vp_in_nI hi (by omega)) ?_
        rw [nI_clamp (show i < 2 ^ 31 by omega), q_upc (by omega), q_sh_o (by omega), hcm]
        refine g_iconst 83 1 dX8_comes_82 rfl (by decide) ?_
        refine g_iadd 84 dX8_comes_83 rfl ?_
        rw [nI_1]
        refine g_iast 85 dX8_comes_84 rfl (by decide) rfl (vp_in_nI hi (by omega)) ?_
        rw [nI_clamp (show i < 2 ^ 31 by omega)]
        exact g_rv dX8_comes_85 rfl rfl (by
      have ht : q_ah S r (o p) = false := (q_ahb hSr (ho p (by omega)).2.2).mp h30
      rw [q_ps, ht]
      unfold q_rk
      exact ⟨rfl, rfl⟩)
      · refine g_aload_n 34 dX8_comes_33 rfl rfl ?_
        refine g_getR 37 _ dX8_comes_34 rfl f_X8_56 (by decide) rfl rfl rfl ?_
        refine g_bipush 39 10 dX8_comes_37 rfl (by decide) ?_
        refine g_iload_n 40 dX8_comes_39 rfl rfl ?_
        refine g_imul 41 dX8_comes_40 rfl ?_
        refine g_iload_n 42 dX8_comes_41 rfl rfl ?_
        refine g_iadd 43 dX8_comes_42 rfl ?_
        rw [q_ix]
        refine g_aload_n 44 dX8_comes_43 rfl rfl ?_
        refine g_getR 47 _ dX8_comes_44 rfl f_X8_56 (by decide) rfl rfl rfl ?_
        refine g_bipush 49 10 dX8_comes_47 rfl (by decide) ?_
        refine g_iload_n 50 dX8_comes_49 rfl rfl ?_
        refine g_imul 51 dX8_comes_50 rfl ?_
        refine g_iload_n 52 dX8_comes_51 rfl rfl ?_
        refine g_iadd 53 dX8_comes_52 rfl ?_
        refine g_iconst 54 1 dX8_comes_53 rfl (by decide) ?_
        refine g_isub 55 dX8_comes_54 rfl ?_
        rw [q_ixm]
        refine g_iald 56 dX8_comes_55 rfl (by decide) rfl (vp_in_nI (show 10 * i + p < 70 by omega) (by omega)) ?_
        rw [nI_clamp (show 10 * i + p < 2 ^ 31 by omega), q_sh_l (by omega)]
        refine g_iast 57 dX8_comes_56 rfl (by decide) rfl (vp_in_nI (show 10 * i + (p + 1) < 70 by omega) (by omega)) ?_
        rw [nI_clamp (show 10 * i + (p + 1) < 2 ^ 31 by omega), q_sh_s (by omega)]
        refine g_iinc 60 (_ + (-1)) dX8_comes_57 rfl rfl rfl (by decide) ?_
        refine g_goto 7 dX8_comes_60 (by decide) ?_
        rw [show nI (p + 1) + -1 = nI p from pk_m1 p]
        refine g_lv [(0, _), (1, _), (2, _), (3, _)] rfl ?_
        have h9 := ih (by omega)
        have ht : q_ah S r (o p) = true := by
          cases ht : q_ah S r (o p) with
          | true => rfl
          | false => exact absurd ((q_ahb hSr (ho p (by omega)).2.2).mpr ht) h30
        rw [q_ps, ht]
        exact h9
set_option maxRecDepth 100000 in
set_option maxHeartbeats 4000000 in
theorem c_comes {i r m : Nat} {o : Nat → Nat} {S : Nat → Int32} (hi : i < 7) (hr : r < 10) (hm : m < 10) (hcm : μ 138 i = nI m) (ho : ∀ j, j < m → μ 137 (10 * i + j) = nI (o j) ∧ o j < 10 ∧ μ 136 (10 * i + o j) = S (o j)) (hSr : μ 136 (10 * i + r) = S r) : q_Ct C l FX8_comes 1 142 142 [.ref (q_a C 122), .int (nI i), .int (nI r)] μ (q_ρ b) (q_to (q_rk μ 137 (10 * i) 138 i m (q_ps (q_ah S r) o m) r) (q_ρ b)) := by
  refine q_entry rfl (by decide) (Nat.le_of_ble_eq_true rfl) ?_
  refine g_lv [(0, _), (1, _), (2, _)] rfl ?_
  refine g_aload_n 1 dX8_comes_0 rfl rfl ?_
  refine g_getR 4 _ dX8_comes_1 rfl f_X8_59 (by decide) rfl rfl rfl ?_
  refine g_iload_n 5 dX8_comes_4 rfl rfl ?_
  refine g_iald 6 dX8_comes_5 rfl (by decide) rfl (vp_in_nI hi (by omega)) ?_
  rw [nI_clamp (show i < 2 ^ 31 by omega), hcm]
  refine g_istore_n 7 dX8_comes_6 rfl (by decide) ?_
  refine g_lv [(0, _), (1, _), (2, _), (3, _)] rfl ?_
  have h9 := lp_comes (C := C) (l := l) (b := b) hi hr hm hcm ho hSr m (Nat.le_refl _)
  rw [q_sh_0] at h9
  exact h9
end MR
/-- of the first k starters of stage i, as the reference holds it -/
def q_MS (μ0 μ : q_M) (i k : Nat) (rin : Nat → Nat) (bg : Int32) (tm S bk : Nat → Int32) : Prop :=
  (∀ c j, ¬ ((c = 134 ∨ c = 135 ∨ c = 136 ∨ c = 137) ∧ 10 * i ≤ j ∧ j < 10 * i + 10) → ¬ (c = 138 ∧ j = i) → μ c j = μ0 c j) ∧
  (∀ r, r < 10 → μ 134 (10 * i + r) = q_st bg rin k r) ∧ (∀ r, r < 10 → μ 135 (10 * i + r) = q_ar bg tm bk i rin k r) ∧ (∀ k', k' < k → ¬ bk (rin k') = nI i → μ 136 (10 * i + rin k') = S (rin k')) ∧
  (∀ j, j < (q_so S bk i rin k).2 → μ 137 (10 * i + j) = nI ((q_so S bk i rin k).1 j)) ∧ μ 138 i = nI (q_so S bk i rin k).2
theorem q_MS_n {μ0 μ : q_M} {i k : Nat} {rin : Nat → Nat} {bg : Int32} {tm S bk : Nat → Int32} (hr : rin k < 10) (h : q_MS μ0 μ i k rin bg tm S bk) (hb : bk (rin k) = nI i) : q_MS μ0 (q_up μ 134 (10 * i + rin k) (bg + 2 * nI k)) i (k + 1) rin bg tm S bk := by
  obtain ⟨h1, h2, h3, h4, h5, h6⟩ := h
  have e : q_so S bk i rin (k + 1) = q_so S bk i rin k := by rw [q_so, if_pos hb]
  refine ⟨fun c j g1 g2 => ?_, fun r hr => ?_, fun r hr => ?_, fun k' hk' hb' => ?_, fun j hj => ?_, ?_⟩
  · rw [q_upo (by omega)]; exact h1 c j g1 g2
  · unfold q_st q_up
    by_cases q : r = rin k
    · rw [if_pos q, if_pos ⟨rfl, by omega⟩]
    · rw [if_neg q, if_neg (by omega)]; exact h2 r hr
  · rw [q_upc (by decide), q_ar, if_neg (fun z => z.2 hb)]; exact h3 r hr
  · rw [q_upc (by decide)]
    have hk : k' ≠ k := fun q => hb' (by rw [q]; exact hb)
    exact h4 k' (by omega) hb'
  · rw [e] at hj ⊢
    rw [q_upc (by decide)]; exact h5 j hj
  · rw [e, q_upc (by decide)]; exact h6
theorem q_MS_y {μ0 μ : q_M} {i k : Nat} {rin : Nat → Nat} {bg a s : Int32} {tm S bk : Nat → Int32} (hr : rin k < 10) (hk10 : k < 10) (h : q_MS μ0 μ i k rin bg tm S bk) (hb : ¬ bk (rin k) = nI i) (ha : a = bg + 2 * nI k + tm (rin k)) (hs : s = S (rin k)) :
    q_MS μ0 (q_rk (q_up (q_up (q_up μ 134 (10 * i + rin k) (bg + 2 * nI k)) 135 (10 * i + rin k) a) 136 (10 * i + rin k) s) 137 (10 * i) 138 i (q_so S bk i rin k).2 (q_ps (q_ah S (rin k)) (q_so S bk i rin k).1 (q_so S bk i rin k).2) (rin k)) i (k + 1) rin bg tm S bk := by
  obtain ⟨h1, h2, h3, h4, h5, h6⟩ := h
  subst ha hs
  have e : q_so S bk i rin (k + 1) = (q_io (q_ah S (rin k)) (q_so S bk i rin k).1 (q_so S bk i rin k).2 (rin k), (q_so S bk i rin k).2 + 1) := by rw [q_so, if_neg hb]
  have hp := q_ps_le (q_ah S (rin k)) (q_so S bk i rin k).1 (q_so S bk i rin k).2
  have hle := q_so_le S bk i rin k
  generalize hm : (q_so S bk i rin k).2 = m at *
  generalize ho : (q_so S bk i rin k).1 = o at *
  generalize hP : q_ps (q_ah S (rin k)) o m = p at *
  have off : ∀ c j, ¬ (c = 137 ∧ 10 * i ≤ j ∧ j < 10 * i + 10) → ¬ (c = 138 ∧ j = i) → q_rk (q_up (q_up (q_up μ 134 (10 * i + rin k) (bg + 2 * nI k)) 135 (10 * i + rin k) (bg + 2 * nI k + tm (rin k))) 136 (10 * i + rin k) (S (rin k))) 137 (10 * i) 138 i m p (rin k) c j = (q_up (q_up (q_up μ 134 (10 * i + rin k) (bg + 2 * nI k)) 135 (10 * i + rin k) (bg + 2 * nI k + tm (rin k))) 136 (10 * i + rin k) (S (rin k))) c j := by
    intro c j g1 g2
    unfold q_rk
    rw [q_upo g2, q_upo (by omega)]
    exact if_neg (by omega)
  refine ⟨fun c j g1 g2 => ?_, fun r hr => ?_, fun r hr => ?_, fun k' hk' hb' => ?_, fun j hj => ?_, ?_⟩
  · rw [off c j (by omega) g2, q_upo (by omega), q_upo (by omega), q_upo (by omega)]; exact h1 c j g1 g2
  · rw [off _ _ (by omega) (by omega), q_upc (by decide), q_upc (by decide)]
    unfold q_st q_up
    by_cases q : r = rin k
    · rw [if_pos q, if_pos ⟨rfl, by omega⟩]
    · rw [if_neg q, if_neg (by omega)]; exact h2 r hr
  · rw [off _ _ (by omega) (by omega), q_upc (by decide), q_ar]
    by_cases q : r = rin k
    · rw [if_pos ⟨q, hb⟩, q, q_ups]
    · rw [if_neg (fun z => q z.1), q_upo (by omega), q_upc (by decide)]; exact h3 r hr
  · rw [off _ _ (by omega) (by omega)]
    by_cases q : rin k' = rin k
    · rw [q, q_ups]
    · rw [q_upo (by omega), q_upc (by decide), q_upc (by decide)]
      have hk : k' ≠ k := fun z => q (by rw [z])
      exact h4 k' (by omega) hb'
  · rw [e] at hj ⊢
    have hj : j < m + 1 := hj
    show _ = nI (q_io (q_ah S (rin k)) o m (rin k) j)
    unfold q_io q_rk
    rw [hP, q_upc (by decide)]
    by_cases g1 : j < p
    · rw [if_pos g1, q_upo (by omega), q_sh_l (by omega), q_upc (by decide), q_upc (by decide), q_upc (by decide)]
      exact h5 j (by omega)
    · rw [if_neg g1]
      by_cases g2 : j = p
      · rw [if_pos g2, g2, q_ups]
      · rw [if_neg g2, q_upo (by omega)]
        unfold q_sh
        rw [if_pos (by omega), q_upc (by decide), q_upc (by decide), q_upc (by decide), show 10 * i + j - 1 = 10 * i + (j - 1) by omega]
        exact h5 (j - 1) (by omega)
  · rw [e]
    unfold q_rk
    rw [q_ups]
def q_ml (μ : q_M) (i k : Nat) : q_M := fun c j => if (c = 134 ∨ c = 135) ∧ 10 * i ≤ j ∧ j < 10 * i + k then -1 else μ c j
theorem q_ml_0 {μ : q_M} {i : Nat} : q_ml μ i 0 = μ := by funext c j; unfold q_ml; rw [if_neg (by omega)]
theorem q_ml_s {μ : q_M} {i k : Nat} : q_up (q_up (q_ml μ i k) 134 (10 * i + k) (-1)) 135 (10 * i + k) (-1) = q_ml μ i (k + 1) := by
  funext c j
  unfold q_up q_ml
  by_cases e1 : c = 135 ∧ j = 10 * i + k
  · rw [if_pos e1, if_pos (by omega)]
  · rw [if_neg e1]
    by_cases e2 : c = 134 ∧ j = 10 * i + k
    · rw [if_pos e2, if_pos (by omega)]
    · rw [if_neg e2]
      try dsimp only
      by_cases e5 : (c = 134 ∨ c = 135) ∧ 10 * i ≤ j ∧ j < 10 * i + k
      · rw [if_pos e5, if_pos (by omega)]
      · rw [if_neg e5, if_neg (by omega)]
/-- stage i as the reference holds it -/
def q_MG (μ : q_M) (cnt : Nat) (tm : Nat → Nat → Int32) (bk bg : Nat → Int32) (i : Nat) : Prop :=
  (∀ r, r < 10 → μ 134 (10 * i + r) = q_st (bg i) (q_od cnt tm bk i).1 (q_od cnt tm bk i).2 r) ∧
  (∀ r, r < 10 → μ 135 (10 * i + r) = q_ar (bg i) (tm i) bk i (q_od cnt tm bk i).1 (q_od cnt tm bk i).2 r) ∧
  (∀ j, j < (q_od cnt tm bk (i + 1)).2 → μ 136 (10 * i + (q_od cnt tm bk (i + 1)).1 j) = q_S tm i ((q_od cnt tm bk (i + 1)).1 j)) ∧
  (∀ j, j < (q_od cnt tm bk (i + 1)).2 → μ 137 (10 * i + j) = nI ((q_od cnt tm bk (i + 1)).1 j)) ∧ μ 138 i = nI (q_od cnt tm bk (i + 1)).2
def q_MN (μ0 μ : q_M) (cnt : Nat) (tm : Nat → Nat → Int32) (bk bg : Nat → Int32) (i : Nat) : Prop :=
  (∀ i', i' < i → q_MG μ cnt tm bk bg i') ∧ ∀ c j, (c < 134 ∨ 138 < c) → μ c j = μ0 c j
theorem q_MS_0 {μ : q_M} {i : Nat} {rin : Nat → Nat} {bg : Int32} {tm S bk : Nat → Int32} : q_MS (q_up (q_ml μ i 10) 138 i 0) (q_up (q_ml μ i 10) 138 i 0) i 0 rin bg tm S bk := by
  refine ⟨fun c j _ _ => rfl, fun r hr => ?_, fun r hr => ?_, fun k' hk' _ => absurd hk' (Nat.not_lt_zero _), fun j hj => absurd hj (Nat.not_lt_zero _), ?_⟩
  · rw [q_upc (by decide)]; exact if_pos (by omega)
  · rw [q_upc (by decide)]; exact if_pos (by omega)
  · rw [q_ups]; rfl
theorem q_MN_s {μ0 μ μ4 : q_M} {cnt i : Nat} {tm : Nat → Nat → Int32} {bk bg : Nat → Int32} (h : q_MN μ0 μ cnt tm bk bg i) (hc : cnt ≤ 10) (h4 : q_MS (q_up (q_ml μ i 10) 138 i 0) μ4 i (q_od cnt tm bk i).2 (q_od cnt tm bk i).1 (bg i) (tm i) (q_S tm i) bk) : q_MN μ0 μ4 cnt tm bk bg (i + 1) := by
  obtain ⟨g1, g2, g3, g4, g5, g6⟩ := h4
  have off : ∀ c j, ¬ ((c = 134 ∨ c = 135 ∨ c = 136 ∨ c = 137) ∧ 10 * i ≤ j ∧ j < 10 * i + 10) → ¬ (c = 138 ∧ j = i) → μ4 c j = μ c j := by
    intro c j a1 a2
    rw [g1 c j a1 a2, q_upo a2]
    exact if_neg (by omega)
  refine ⟨fun i' hi' => ?_, fun c j hcj => ?_⟩
  · by_cases e : i' = i
    · subst e
      refine ⟨g2, g3, fun j hj => ?_, g5, g6⟩
      obtain ⟨k', a1, a2, a3⟩ := q_so_mem _ _ _ _ _ j hj
      have e2 : (q_od cnt tm bk (i' + 1)).1 j = (q_od cnt tm bk i').1 k' := a2
      rw [e2]
      exact g4 k' a1 a3
    · obtain ⟨a1, a2, a3, a4, a5⟩ := h.1 i' (by omega)
      refine ⟨fun r hr => ?_, fun r hr => ?_, fun j hj => ?_, fun j hj => ?_, ?_⟩
      · rw [off _ _ (by omega) (by omega)]; exact a1 r hr
      · rw [off _ _ (by omega) (by omega)]; exact a2 r hr
      · have := q_od_lt cnt tm bk (i' + 1) j hj
        rw [off _ _ (by omega) (by omega)]; exact a3 j hj
      · have := q_od_le cnt tm bk (i' + 1)
        rw [off _ _ (by omega) (by omega)]; exact a4 j hj
      · rw [off _ _ (by omega) (by omega)]; exact a5
  · rw [off c j (by omega) (by omega)]
    exact h.2 c j hcj
/-- what a race needs of the told things, in the reference -/
abbrev q_zf (μ : q_M) (i : Nat) : Nat → Int32 := fun z => μ 130 (12 * i + 3 * z)
abbrev q_zt (μ : q_M) (i : Nat) : Nat → Int32 := fun z => μ 130 (12 * i + 3 * z + 1)
abbrev q_zs (μ : q_M) (i : Nat) : Nat → Int32 := fun z => μ 130 (12 * i + 3 * z + 2)
def q_MI (μ0 : q_M) (cnt : Nat) (K : Nat → Nat) (tm : Nat → Nat → Int32) (bk bg : Nat → Int32) : Prop :=
  cnt ≤ 10 ∧ μ0 122 0 = nI cnt ∧ (∀ i, i < 7 → K i ≤ 4 ∧ μ0 129 i = nI (K i)) ∧
  (∀ i r, i < 7 → r < cnt → ¬ (μ0 125 r).toInt64 = 0 ∧ ¬ (q_tm (μ0 125 r) (μ0 123 (i + 1)) (q_zf μ0 i) (q_zt μ0 i) (q_zs μ0 i) (K i)).2.1 = 0 ∧ tm i r = q_mtime (μ0 125 r) (μ0 123 (i + 1)) (q_zf μ0 i) (q_zt μ0 i) (q_zs μ0 i) (K i)) ∧ (∀ r, r < cnt → μ0 126 r = bk r) ∧ (∀ i, i < 7 → bg i = 1440 * nI i + 60 * μ0 124 i)
section MN
variable {C : q_C} {l : Launch} {μ μ0 : q_M} {b : Bool}
set_option maxRecDepth 100000 in
set_option maxHeartbeats 4000000 in
theorem lp_ml {i : Nat} {Po : q_P} (hi : i < 7) (hk9 : q_G C l FX8_runs 2 142 142 Po 142 (q_ml μ i 10) (q_ρ b) [(0, .ref (q_a C 122)), (1, .int (nI i))] [] 46) : ∀ k r2, r2 + k = 10 → q_G C l FX8_runs 2 142 142 Po 142 (q_ml μ i r2) (q_ρ b) [(0, .ref (q_a C 122)), (1, .int (nI i)), (2, .int (nI r2))] [] 10 := by
  intro k
  induction k with
  | zero =>
    intro r2 hK9
    refine g_iload_n 11 dX8_runs_10 rfl rfl ?_
    refine g_bipush 13 10 dX8_runs_11 rfl (by decide) ?_
    refine g_icmp_ge 46 16 dX8_runs_13 rfl (by decide) (fun h13 => ?_) (fun h13 => ?_)
    · rw [show r2 = 10 by omega]
      refine g_lv [(0, _), (1, _)] rfl ?_
      exact hk9
    · exact absurd (nI_le (a := 10) (b := r2) (by omega) (by omega)) h13
  | succ k ih =>
    intro r2 hK9
    refine g_iload_n 11 dX8_runs_10 rfl rfl ?_
    refine g_bipush 13 10 dX8_runs_11 rfl (by decide) ?_
    refine g_icmp_ge 46 16 dX8_runs_13 rfl (by decide) (fun h13 => ?_) (fun h13 => ?_)
    · exact absurd h13 (nI_ge (a := r2) (b := 10) (by omega) (by omega))
    · refine g_aload_n 17 dX8_runs_16 rfl rfl ?_
      refine g_getR 20 _ dX8_runs_17 rfl f_X8_47 (by decide) rfl rfl rfl ?_
      refine g_bipush 22 10 dX8_runs_20 rfl (by decide) ?_
      refine g_iload_n 23 dX8_runs_22 rfl rfl ?_
      refine g_imul 24 dX8_runs_23 rfl ?_
      refine g_iload_n 25 dX8_runs_24 rfl rfl ?_
      refine g_iadd 26 dX8_runs_25 rfl ?_
      rw [q_ix]
      refine g_iconst 27 (-1) dX8_runs_26 rfl (by decide) ?_
      refine g_iast 28 dX8_runs_27 rfl (by decide) rfl (vp_in_nI (show 10 * i + r2 < 70 by omega) (by omega)) ?_
      rw [nI_clamp (show 10 * i + r2 < 2 ^ 31 by omega)]
      refine g_aload_n 29 dX8_runs_28 rfl rfl ?_
      refine g_getR 32 _ dX8_runs_29 rfl f_X8_50 (by decide) rfl rfl rfl ?_
      refine g_bipush 34 10 dX8_runs_32 rfl (by decide) ?_
      refine g_iload_n 35 dX8_runs_34 rfl rfl ?_
      refine g_imul 36 dX8_runs_35 rfl ?_
      refine g_iload_n 37 dX8_runs_36 rfl rfl ?_
      refine g_iadd 38 dX8_runs_37 rfl ?_
      rw [q_ix]
      refine g_iconst 39 (-1) dX8_runs_38 rfl (by decide) ?_
      refine g_iast 40 dX8_runs_39 rfl (by decide) rfl (vp_in_nI (show 10 * i + r2 < 70 by omega) (by omega)) ?_
      rw [nI_clamp (show 10 * i + r2 < 2 ^ 31 by omega), q_ml_s]
      refine g_iinc 43 (_ + 1) dX8_runs_40 rfl rfl rfl (by decide) ?_
      refine g_goto 10 dX8_runs_43 (by decide) ?_
      rw [nI_1]
      refine g_lv [(0, _), (1, _), (2, _)] rfl ?_
      exact ih (r2 + 1) (by omega)
set_option maxRecDepth 100000 in
set_option maxHeartbeats 8000000 in
theorem lp_Mst0 {cnt M : Nat} {K : Nat → Nat} {tmf : Nat → Nat → Int32} {bgf : Nat → Int32} {rin : Nat → Nat} {S Sp bk : Nat → Int32} {μ3 : q_M} {Po : q_P} (hI : q_MI μ0 cnt K tmf bk bgf) (hf : ∀ c j, (c < 134 ∨ 138 < c) → μ3 c j = μ0 c j) (hM : M ≤ 10) (hcr : ∀ k, k < M → rin k < cnt) (hS : ∀ r, S r = tmf 0 r + 0) (hr : ∀ k, k < M → rin k = k) (hk9 : ∀ μ4, q_MS μ3 μ4 0 M rin (bgf 0) (tmf 0) S bk → q_G C l FX8_runs 2 142 142 Po 142 μ4 (q_ρ b) [(0, .ref (q_a C 122)), (1, .int (nI 0))] [] 236) : ∀ k k2, k2 + k = M → ∀ μ, q_MS μ3 μ 0 k2 rin (bgf 0) (tmf 0) S bk → q_G C l FX8_runs 2 142 142 Po 142 μ (q_ρ b) [(0, .ref (q_a C 122)), (1, .int (nI 0)), (2, .int (nI M)), (3, .int (nI k2))] [] 75 := by
  intro k
  induction k with
  | zero =>
    intro k2 hk μ hq
    refine g_iload_n 76 dX8_runs_75 rfl rfl ?_
    refine g_iload_n 77 dX8_runs_76 rfl rfl ?_
    refine g_icmp_ge 236 80 dX8_runs_77 rfl (by decide) (fun h77 => ?_) (fun h77 => ?_)
    · refine g_lv [(0, _), (1, _)] rfl ?_
      exact hk9 μ (by rw [show k2 = M by omega] at hq; exact hq)
    · exact absurd (nI_le (by omega) (by omega)) h77
  | succ k ih =>
    intro k2 hk μ hq
    refine g_iload_n 76 dX8_runs_75 rfl rfl ?_
    refine g_iload_n 77 dX8_runs_76 rfl rfl ?_
    refine g_icmp_ge 236 80 dX8_runs_77 rfl (by decide) (fun h77 => ?_) (fun h77 => ?_)
    · exact absurd h77 (nI_ge (by omega) (by omega))
    · refine g_iload_n 81 dX8_runs_80 rfl rfl ?_
      refine g_if_ne 88 84 dX8_runs_81 rfl (by decide) (fun h81 => ?_) (fun h81 => ?_)
      · exact absurd rfl h81
      · refine g_iload_n 85 dX8_runs_84 rfl rfl ?_
        refine g_goto 102 dX8_runs_85 (by decide) ?_
        refine g_istore 104 dX8_runs_102 rfl (by decide) ?_
        have hc10 := hI.1
        have hrc : rin k2 < cnt := hcr k2 (by omega)
        have hr10 : rin k2 < 10 := by omega
        refine g_lv [(0, _), (1, _), (2, _), (3, .int (nI k2)), (4, .int (nI (rin k2)))] (by rw [hr k2 (by omega)]; rfl) ?_
        refine g_aload_n 105 dX8_runs_104 rfl rfl ?_
        refine g_getR 108 _ dX8_runs_105 rfl f_X8_47 (by decide) rfl rfl rfl ?_
        refine g_bipush 110 10 dX8_runs_108 rfl (by decide) ?_
        refine g_iload_n 111 dX8_runs_110 rfl rfl ?_
        refine g_imul 112 dX8_runs_111 rfl ?_
        refine g_iload 114 dX8_runs_112 rfl rfl ?_
        refine g_iadd 115 dX8_runs_114 rfl ?_
        rw [q_ix]
        refine g_sipush 118 1440 dX8_runs_115 rfl (by decide) ?_
        refine g_iload_n 119 dX8_runs_118 rfl rfl ?_
        refine g_imul 120 dX8_runs_119 rfl ?_
        refine g_bipush 122 60 dX8_runs_120 rfl (by decide) ?_
        refine g_aload_n 123 dX8_runs_122 rfl rfl ?_
        refine g_getR 126 _ dX8_runs_123 rfl f_X8_13 (by decide) rfl rfl rfl ?_
        refine g_iload_n 127 dX8_runs_126 rfl rfl ?_
        refine g_iald 128 dX8_runs_127 rfl (by decide) rfl (vp_in_nI (show 0 < 7 by decide) (by omega)) ?_
        rw [nI_clamp (show 0 < 2 ^ 31 by omega), hq.1 124 0 (by omega) (by omega), hf 124 0 (by decide)]
        refine g_imul 129 dX8_runs_128 rfl ?_
        refine g_iadd 130 dX8_runs_129 rfl ?_
        rw [← hI.2.2.2.2.2 0 (show 0 < 7 by decide)]
        refine g_iconst 131 2 dX8_runs_130 rfl (by decide) ?_
        refine g_iload_n 132 dX8_runs_131 rfl rfl ?_
        refine g_imul 133 dX8_runs_132 rfl ?_
        refine g_iadd 134 dX8_runs_133 rfl ?_
        refine g_iast 135 dX8_runs_134 rfl (by decide) rfl (vp_in_nI (show 10 * 0 + rin k2 < 70 by omega) (by omega)) ?_
        rw [nI_clamp (show 10 * 0 + rin k2 < 2 ^ 31 by omega)]
        refine g_aload_n 136 dX8_runs_135 rfl rfl ?_
        refine g_getR 139 _ dX8_runs_136 rfl f_X8_19 (by decide) rfl rfl rfl ?_
        refine g_iload 141 dX8_runs_139 rfl rfl ?_
        refine g_iald 142 dX8_runs_141 rfl (by decide) rfl (vp_in_nI hr10 (by omega)) ?_
        rw [nI_clamp (show rin k2 < 2 ^ 31 by omega), q_upc (by decide), hq.1 126 (rin k2) (by omega) (by omega), hf 126 _ (by decide), hI.2.2.2.2.1 _ hrc]
        refine g_iload_n 143 dX8_runs_142 rfl rfl ?_
        refine g_icmp_ne 149 146 dX8_runs_143 rfl (by decide) (fun h143 => ?_) (fun h143 => ?_)
        · refine g_aload_n 150 dX8_runs_149 rfl rfl ?_
          refine g_iload 152 dX8_runs_150 rfl rfl ?_
          refine g_iload_n 153 dX8_runs_152 rfl rfl ?_
          have hin : ∀ c j, (c < 134 ∨ 138 < c) → (q_up μ 134 (10 * 0 + rin k2) (bgf 0 + 2 * nI k2)) c j = μ0 c j := fun c j hc => by rw [q_upc (by omega), hq.1 c j (by omega) (by omega)]; exact hf c j hc
          have hT := hI.2.2.2.1 0 (rin k2) (show 0 < 7 by decide) hrc
          refine g_Vi 156 [_, _] _ dX8_runs_153 rfl m_X8_timeOf l_X8_167 rfl rfl rfl (by decide) (c_Mtime (K := K 0) hr10 (show 0 < 7 by decide) (hI.2.2.1 0 (show 0 < 7 by decide)).1 (by rw [hin _ _ (by decide)]; exact (hI.2.2.1 0 (show 0 < 7 by decide)).2) (by rw [hin _ _ (by decide)]; exact hT.1) (by simp only [hin 125 _ (by decide), hin 123 _ (by decide), hin 130 _ (by decide)]; exact hT.2.1)) rfl (Nat.le_of_ble_eq_true rfl) (by decide) (fun v153 μ153 ρ153 hc9 => ?_)
          obtain ⟨rfl, rfl, rfl⟩ := hc9
          simp only [hin 125 _ (by decide), hin 123 _ (by decide), hin 130 _ (by decide)]
          rw [← hT.2.2]
          refine g_istore 158 dX8_runs_156 rfl (by decide) ?_
          refine g_aload_n 159 dX8_runs_158 rfl rfl ?_
          refine g_getR 162 _ dX8_runs_159 rfl f_X8_50 (by decide) rfl rfl rfl ?_
          refine g_bipush 164 10 dX8_runs_162 rfl (by decide) ?_
          refine g_iload_n 165 dX8_runs_164 rfl rfl ?_
          refine g_imul 166 dX8_runs_165 rfl ?_
          refine g_iload 168 dX8_runs_166 rfl rfl ?_
          refine g_iadd 169 dX8_runs_168 rfl ?_
          rw [q_ix]
          refine g_aload_n 170 dX8_runs_169 rfl rfl ?_
          refine g_getR 173 _ dX8_runs_170 rfl f_X8_47 (by decide) rfl rfl rfl ?_
          refine g_bipush 175 10 dX8_runs_173 rfl (by decide) ?_
          refine g_iload_n 176 dX8_runs_175 rfl rfl ?_
          refine g_imul 177 dX8_runs_176 rfl ?_
          refine g_iload 179 dX8_runs_177 rfl rfl ?_
          refine g_iadd 180 dX8_runs_179 rfl ?_
          rw [q_ix]
          refine g_iald 181 dX8_runs_180 rfl (by decide) rfl (vp_in_nI (show 10 * 0 + rin k2 < 70 by omega) (by omega)) ?_
          rw [nI_clamp (show 10 * 0 + rin k2 < 2 ^ 31 by omega), q_ups]
          refine g_iload 183 dX8_runs_181 rfl rfl ?_
          refine g_iadd 184 dX8_runs_183 rfl ?_
          refine g_iast 185 dX8_runs_184 rfl (by decide) rfl (vp_in_nI (show 10 * 0 + rin k2 < 70 by omega) (by omega)) ?_
          rw [nI_clamp (show 10 * 0 + rin k2 < 2 ^ 31 by omega)]
          refine g_aload_n 186 dX8_runs_185 rfl rfl ?_
          refine g_getR 189 _ dX8_runs_186 rfl f_X8_53 (by decide) rfl rfl rfl ?_
          refine g_bipush 191 10 dX8_runs_189 rfl (by decide) ?_
          refine g_iload_n 192 dX8_runs_191 rfl rfl ?_
          refine g_imul 193 dX8_runs_192 rfl ?_
          refine g_iload 195 dX8_runs_193 rfl rfl ?_
          refine g_iadd 196 dX8_runs_195 rfl ?_
          rw [q_ix]
          refine g_iload 198 dX8_runs_196 rfl rfl ?_
          refine g_iload_n 199 dX8_runs_198 rfl rfl ?_
          refine g_if_ne 206 202 dX8_runs_199 rfl (by decide) (fun h199 => ?_) (fun h199 => ?_)
          · exact absurd rfl h199
          · refine g_iconst 203 0 dX8_runs_202 rfl (by decide) ?_
            refine g_goto 221 dX8_runs_203 (by decide) ?_
            refine g_iadd 222 dX8_runs_221 rfl ?_
            refine g_iast 223 dX8_runs_222 rfl (by decide) rfl (vp_in_nI (show 10 * 0 + rin k2 < 70 by omega) (by omega)) ?_
            rw [nI_clamp (show 10 * 0 + rin k2 < 2 ^ 31 by omega), ← hS]
            refine g_aload_n 224 dX8_runs_223 rfl rfl ?_
            refine g_iload_n 225 dX8_runs_224 rfl rfl ?_
            refine g_iload 227 dX8_runs_225 rfl rfl ?_
            have hle := q_so_le S bk 0 rin k2
            have hcm : (q_up (q_up (q_up μ 134 (10 * 0 + rin k2) (bgf 0 + 2 * nI k2)) 135 (10 * 0 + rin k2) (bgf 0 + 2 * nI k2 + tmf 0 (rin k2))) 136 (10 * 0 + rin k2) (S (rin k2))) 138 0 = nI (q_so S bk 0 rin k2).2 := by rw [q_upc (by decide), q_upc (by decide), q_upc (by decide)]; exact hq.2.2.2.2.2
            have ho : ∀ j, j < (q_so S bk 0 rin k2).2 → (q_up (q_up (q_up μ 134 (10 * 0 + rin k2) (bgf 0 + 2 * nI k2)) 135 (10 * 0 + rin k2) (bgf 0 + 2 * nI k2 + tmf 0 (rin k2))) 136 (10 * 0 + rin k2) (S (rin k2))) 137 (10 * 0 + j) = nI ((q_so S bk 0 rin k2).1 j) ∧ (q_so S bk 0 rin k2).1 j < 10 ∧ (q_up (q_up (q_up μ 134 (10 * 0 + rin k2) (bgf 0 + 2 * nI k2)) 135 (10 * 0 + rin k2) (bgf 0 + 2 * nI k2 + tmf 0 (rin k2))) 136 (10 * 0 + rin k2) (S (rin k2))) 136 (10 * 0 + (q_so S bk 0 rin k2).1 j) = S ((q_so S bk 0 rin k2).1 j) := by
              intro j hj
              obtain ⟨k9, g1, g2, g3⟩ := q_so_mem S bk 0 rin k2 j hj
              have hk9' := hcr k9 (by omega)
              refine ⟨by rw [q_upc (by decide), q_upc (by decide), q_upc (by decide)]; exact hq.2.2.2.2.1 j hj, by rw [g2]; omega, ?_⟩
              by_cases q : (q_so S bk 0 rin k2).1 j = rin k2
              · rw [q, q_ups]
              · rw [q_upo (by omega), q_upc (by decide), q_upc (by decide), g2]
                exact hq.2.2.2.1 k9 g1 g3
            refine g_Vv 230 [_, _] _ dX8_runs_227 rfl m_X8_comes l_X8_170 rfl rfl rfl (by decide) (c_comes (show 0 < 7 by decide) hr10 (by omega) hcm ho q_ups) rfl (Nat.le_of_ble_eq_true rfl) (by decide) (fun μ227 ρ227 hc9 => ?_)
            obtain ⟨rfl, rfl⟩ := hc9
            refine g_iinc 233 (_ + 1) dX8_runs_230 rfl rfl rfl (by decide) ?_
            refine g_goto 75 dX8_runs_233 (by decide) ?_
            rw [nI_1]
            refine g_lv [(0, _), (1, _), (2, _), (3, _)] rfl ?_
            exact ih (k2 + 1) (by omega) _ (q_MS_y hr10 (by omega) hq h143 rfl rfl)
        · refine g_goto 230 dX8_runs_146 (by decide) ?_
          refine g_iinc 233 (_ + 1) dX8_runs_230 rfl rfl rfl (by decide) ?_
          refine g_goto 75 dX8_runs_233 (by decide) ?_
          rw [nI_1]
          refine g_lv [(0, _), (1, _), (2, _), (3, _)] rfl ?_
          exact ih (k2 + 1) (by omega) _ (q_MS_n hr10 hq h143)
set_option maxRecDepth 100000 in
set_option maxHeartbeats 8000000 in
theorem lp_Msts {i : Nat} {cnt M : Nat} {K : Nat → Nat} {tmf : Nat → Nat → Int32} {bgf : Nat → Int32} {rin : Nat → Nat} {S Sp bk : Nat → Int32} {μ3 : q_M} {Po : q_P} (hI : q_MI μ0 cnt K tmf bk bgf) (hf : ∀ c j, (c < 134 ∨ 138 < c) → μ3 c j = μ0 c j) (hM : M ≤ 10) (hcr : ∀ k, k < M → rin k < cnt) (hS : ∀ r, S r = tmf (i + 1) r + Sp r) (hi : i + 1 < 7) (hr : ∀ k, k < M → μ3 137 (10 * i + k) = nI (rin k) ∧ μ3 136 (10 * i + rin k) = Sp (rin k)) (hk9 : ∀ μ4, q_MS μ3 μ4 (i + 1) M rin (bgf (i + 1)) (tmf (i + 1)) S bk → q_G C l FX8_runs 2 142 142 Po 142 μ4 (q_ρ b) [(0, .ref (q_a C 122)), (1, .int (nI (i + 1)))] [] 236) : ∀ k k2, k2 + k = M → ∀ μ, q_MS μ3 μ (i + 1) k2 rin (bgf (i + 1)) (tmf (i + 1)) S bk → q_G C l FX8_runs 2 142 142 Po 142 μ (q_ρ b) [(0, .ref (q_a C 122)), (1, .int (nI (i + 1))), (2, .int (nI M)), (3, .int (nI k2))] [] 75 := by
  intro k
  induction k with
  | zero =>
    intro k2 hk μ hq
    refine g_iload_n 76 dX8_runs_75 rfl rfl ?_
    refine g_iload_n 77 dX8_runs_76 rfl rfl ?_
    refine g_icmp_ge 236 80 dX8_runs_77 rfl (by decide) (fun h77 => ?_) (fun h77 => ?_)
    · refine g_lv [(0, _), (1, _)] rfl ?_
      exact hk9 μ (by rw [show k2 = M by omega] at hq; exact hq)
    · exact absurd (nI_le (by omega) (by omega)) h77
  | succ k ih =>
    intro k2 hk μ hq
    refine g_iload_n 76 dX8_runs_75 rfl rfl ?_
    refine g_iload_n 77 dX8_runs_76 rfl rfl ?_
    refine g_icmp_ge 236 80 dX8_runs_77 rfl (by decide) (fun h77 => ?_) (fun h77 => ?_)
    · exact absurd h77 (nI_ge (by omega) (by omega))
    · refine g_iload_n 81 dX8_runs_80 rfl rfl ?_
      refine g_if_ne 88 84 dX8_runs_81 rfl (by decide) (fun h81 => ?_) (fun h81 => ?_)
      · refine g_aload_n 89 dX8_runs_88 rfl rfl ?_
        refine g_getR 92 _ dX8_runs_89 rfl f_X8_56 (by decide) rfl rfl rfl ?_
        refine g_bipush 94 10 dX8_runs_92 rfl (by decide) ?_
        refine g_iload_n 95 dX8_runs_94 rfl rfl ?_
        refine g_imul 96 dX8_runs_95 rfl ?_
        refine g_bipush 98 10 dX8_runs_96 rfl (by decide) ?_
        refine g_isub 99 dX8_runs_98 rfl ?_
        refine g_iload_n 100 dX8_runs_99 rfl rfl ?_
        refine g_iadd 101 dX8_runs_100 rfl ?_
        rw [q_ixp]
        refine g_iald 102 dX8_runs_101 rfl (by decide) rfl (vp_in_nI (show 10 * i + k2 < 70 by omega) (by omega)) ?_
        rw [nI_clamp (show 10 * i + k2 < 2 ^ 31 by omega), hq.1 137 (10 * i + k2) (by omega) (by omega), (hr k2 (by omega)).1]
        refine g_istore 104 dX8_runs_102 rfl (by decide) ?_
        have hc10 := hI.1
        have hrc : rin k2 < cnt := hcr k2 (by omega)
        have hr10 : rin k2 < 10 := by omega
        refine g_aload_n 105 dX8_runs_104 rfl rfl ?_
        refine g_getR 108 _ dX8_runs_105 rfl f_X8_47 (by decide) rfl rfl rfl ?_
        refine g_bipush 110 10 dX8_runs_108 rfl (by decide) ?_
        refine g_iload_n 111 dX8_runs_110 rfl rfl ?_
        refine g_imul 112 dX8_runs_111 rfl ?_
        refine g_iload 114 dX8_runs_112 rfl rfl ?_
        refine g_iadd 115 dX8_runs_114 rfl ?_
        rw [q_ix]
        refine g_sipush 118 1440 dX8_runs_115 rfl (by decide) ?_
        refine g_iload_n 119 dX8_runs_118 rfl rfl ?_
        refine g_imul 120 dX8_runs_119 rfl ?_
        refine g_bipush 122 60 dX8_runs_120 rfl (by decide) ?_
        refine g_aload_n 123 dX8_runs_122 rfl rfl ?_
        refine g_getR 126 _ dX8_runs_123 rfl f_X8_13 (by decide) rfl rfl rfl ?_
        refine g_iload_n 127 dX8_runs_126 rfl rfl ?_
        refine g_iald 128 dX8_runs_127 rfl (by decide) rfl (vp_in_nI hi (by omega)) ?_
        rw [nI_clamp (show (i + 1) < 2 ^ 31 by omega), hq.1 124 (i + 1) (by omega) (by omega), hf 124 (i + 1) (by decide)]
        refine g_imul 129 dX8_runs_128 rfl ?_
        refine g_iadd 130 dX8_runs_129 rfl ?_
        rw [← hI.2.2.2.2.2 (i + 1) hi]
        refine g_iconst 131 2 dX8_runs_130 rfl (by decide) ?_
        refine g_iload_n 132 dX8_runs_131 rfl rfl ?_
        refine g_imul 133 dX8_runs_132 rfl ?_
        refine g_iadd 134 dX8_runs_133 rfl ?_
        refine g_iast 135 dX8_runs_134 rfl (by decide) rfl (vp_in_nI (show 10 * (i + 1) + rin k2 < 70 by omega) (by omega)) ?_
        rw [nI_clamp (show 10 * (i + 1) + rin k2 < 2 ^ 31 by omega)]
        refine g_aload_n 136 dX8_runs_135 rfl rfl ?_
        refine g_getR 139 _ dX8_runs_136 rfl f_X8_19 (by decide) rfl rfl rfl ?_
        refine g_iload 141 dX8_runs_139 rfl rfl ?_
        refine g_iald 142 dX8_runs_141 rfl (by decide) rfl (vp_in_nI hr10 (by omega)) ?_
        rw [nI_clamp (show rin k2 < 2 ^ 31 by omega), q_upc (by decide), hq.1 126 (rin k2) (by omega) (by omega), hf 126 _ (by decide), hI.2.2.2.2.1 _ hrc]
        refine g_iload_n 143 dX8_runs_142 rfl rfl ?_
        refine g_icmp_ne 149 146 dX8_runs_143 rfl (by decide) (fun h143 => ?_) (fun h143 => ?_)
        · refine g_aload_n 150 dX8_runs_149 rfl rfl ?_
          refine g_iload 152 dX8_runs_150 rfl rfl ?_
          refine g_iload_n 153 dX8_runs_152 rfl rfl ?_
          have hin : ∀ c j, (c < 134 ∨ 138 < c) → (q_up μ 134 (10 * (i + 1) + rin k2) (bgf (i + 1) + 2 * nI k2)) c j = μ0 c j := fun c j hc => by rw [q_upc (by omega), hq.1 c j (by omega) (by omega)]; exact hf c j hc
          have hT := hI.2.2.2.1 (i + 1) (rin k2) hi hrc
          refine g_Vi 156 [_, _] _ dX8_runs_153 rfl m_X8_timeOf l_X8_167 rfl rfl rfl (by decide) (c_Mtime (K := K (i + 1)) hr10 hi (hI.2.2.1 (i + 1) hi).1 (by rw [hin _ _ (by decide)]; exact (hI.2.2.1 (i + 1) hi).2) (by rw [hin _ _ (by decide)]; exact hT.1) (by simp only [hin 125 _ (by decide), hin 123 _ (by decide), hin 130 _ (by decide)]; exact hT.2.1)) rfl (Nat.le_of_ble_eq_true rfl) (by decide) (fun v153 μ153 ρ153 hc9 => ?_)
          obtain ⟨rfl, rfl, rfl⟩ := hc9
          simp only [hin 125 _ (by decide), hin 123 _ (by decide), hin 130 _ (by decide)]
          rw [← hT.2.2]
          refine g_istore 158 dX8_runs_156 rfl (by decide) ?_
          refine g_aload_n 159 dX8_runs_158 rfl rfl ?_
          refine g_getR 162 _ dX8_runs_159 rfl f_X8_50 (by decide) rfl rfl rfl ?_
          refine g_bipush 164 10 dX8_runs_162 rfl (by decide) ?_
          refine g_iload_n 165 dX8_runs_164 rfl rfl ?_
          refine g_imul 166 dX8_runs_165 rfl ?_
          refine g_iload 168 dX8_runs_166 rfl rfl ?_
          refine g_iadd 169 dX8_runs_168 rfl ?_
          rw [q_ix]
          refine g_aload_n 170 dX8_runs_169 rfl rfl ?_
          refine g_getR 173 _ dX8_runs_170 rfl f_X8_47 (by decide) rfl rfl rfl ?_
          refine g_bipush 175 10 dX8_runs_173 rfl (by decide) ?_
          refine g_iload_n 176 dX8_runs_175 rfl rfl ?_
          refine g_imul 177 dX8_runs_176 rfl ?_
          refine g_iload 179 dX8_runs_177 rfl rfl ?_
          refine g_iadd 180 dX8_runs_179 rfl ?_
          rw [q_ix]
          refine g_iald 181 dX8_runs_180 rfl (by decide) rfl (vp_in_nI (show 10 * (i + 1) + rin k2 < 70 by omega) (by omega)) ?_
          rw [nI_clamp (show 10 * (i + 1) + rin k2 < 2 ^ 31 by omega), q_ups]
          refine g_iload 183 dX8_runs_181 rfl rfl ?_
          refine g_iadd 184 dX8_runs_183 rfl ?_
          refine g_iast 185 dX8_runs_184 rfl (by decide) rfl (vp_in_nI (show 10 * (i + 1) + rin k2 < 70 by omega) (by omega)) ?_
          rw [nI_clamp (show 10 * (i + 1) + rin k2 < 2 ^ 31 by omega)]
          refine g_aload_n 186 dX8_runs_185 rfl rfl ?_
          refine g_getR 189 _ dX8_runs_186 rfl f_X8_53 (by decide) rfl rfl rfl ?_
          refine g_bipush 191 10 dX8_runs_189 rfl (by decide) ?_
          refine g_iload_n 192 dX8_runs_191 rfl rfl ?_
          refine g_imul 193 dX8_runs_192 rfl ?_
          refine g_iload 195 dX8_runs_193 rfl rfl ?_
          refine g_iadd 196 dX8_runs_195 rfl ?_
          rw [q_ix]
          refine g_iload 198 dX8_runs_196 rfl rfl ?_
          refine g_iload_n 199 dX8_runs_198 rfl rfl ?_
          refine g_if_ne 206 202 dX8_runs_199 rfl (by decide) (fun h199 => ?_) (fun h199 => ?_)
          · refine g_aload_n 207 dX8_runs_206 rfl rfl ?_
            refine g_getR 210 _ dX8_runs_207 rfl f_X8_53 (by decide) rfl rfl rfl ?_
            refine g_bipush 212 10 dX8_runs_210 rfl (by decide) ?_
            refine g_iload_n 213 dX8_runs_212 rfl rfl ?_
            refine g_imul 214 dX8_runs_213 rfl ?_
            refine g_bipush 216 10 dX8_runs_214 rfl (by decide) ?_
            refine g_isub 217 dX8_runs_216 rfl ?_
            refine g_iload 219 dX8_runs_217 rfl rfl ?_
            refine g_iadd 220 dX8_runs_219 rfl ?_
            rw [q_ixp]
            refine g_iald 221 dX8_runs_220 rfl (by decide) rfl (vp_in_nI (show 10 * i + rin k2 < 70 by omega) (by omega)) ?_
            rw [nI_clamp (show 10 * i + rin k2 < 2 ^ 31 by omega), q_upo (by omega), q_upo (by omega), hq.1 136 (10 * i + rin k2) (by omega) (by omega), (hr k2 (by omega)).2]
            refine g_iadd 222 dX8_runs_221 rfl ?_
            refine g_iast 223 dX8_runs_222 rfl (by decide) rfl (vp_in_nI (show 10 * (i + 1) + rin k2 < 70 by omega) (by omega)) ?_
            rw [nI_clamp (show 10 * (i + 1) + rin k2 < 2 ^ 31 by omega), ← hS]
            refine g_aload_n 224 dX8_runs_223 rfl rfl ?_
            refine g_iload_n 225 dX8_runs_224 rfl rfl ?_
            refine g_iload 227 dX8_runs_225 rfl rfl ?_
            have hle := q_so_le S bk (i + 1) rin k2
            have hcm : (q_up (q_up (q_up μ 134 (10 * (i + 1) + rin k2) (bgf (i + 1) + 2 * nI k2)) 135 (10 * (i + 1) + rin k2) (bgf (i + 1) + 2 * nI k2 + tmf (i + 1) (rin k2))) 136 (10 * (i + 1) + rin k2) (S (rin k2))) 138 (i + 1) = nI (q_so S bk (i + 1) rin k2).2 := by rw [q_upc (by decide), q_upc (by decide), q_upc (by decide)]; exact hq.2.2.2.2.2
            have ho : ∀ j, j < (q_so S bk (i + 1) rin k2).2 → (q_up (q_up (q_up μ 134 (10 * (i + 1) + rin k2) (bgf (i + 1) + 2 * nI k2)) 135 (10 * (i + 1) + rin k2) (bgf (i + 1) + 2 * nI k2 + tmf (i + 1) (rin k2))) 136 (10 * (i + 1) + rin k2) (S (rin k2))) 137 (10 * (i + 1) + j) = nI ((q_so S bk (i + 1) rin k2).1 j) ∧ (q_so S bk (i + 1) rin k2).1 j < 10 ∧ (q_up (q_up (q_up μ 134 (10 * (i + 1) + rin k2) (bgf (i + 1) + 2 * nI k2)) 135 (10 * (i + 1) + rin k2) (bgf (i + 1) + 2 * nI k2 + tmf (i + 1) (rin k2))) 136 (10 * (i + 1) + rin k2) (S (rin k2))) 136 (10 * (i + 1) + (q_so S bk (i + 1) rin k2).1 j) = S ((q_so S bk (i + 1) rin k2).1 j) := by
              intro j hj
              obtain ⟨k9, g1, g2, g3⟩ := q_so_mem S bk (i + 1) rin k2 j hj
              have hk9' := hcr k9 (by omega)
              refine ⟨by rw [q_upc (by decide), q_upc (by decide), q_upc (by decide)]; exact hq.2.2.2.2.1 j hj, by rw [g2]; omega, ?_⟩
              by_cases q : (q_so S bk (i + 1) rin k2).1 j = rin k2
              · rw [q, q_ups]
              · rw [q_upo (by omega), q_upc (by decide), q_upc (by decide), g2]
                exact hq.2.2.2.1 k9 g1 g3
            refine g_Vv 230 [_, _] _ dX8_runs_227 rfl m_X8_comes l_X8_170 rfl rfl rfl (by decide) (c_comes hi hr10 (by omega) hcm ho q_ups) rfl (Nat.le_of_ble_eq_true rfl) (by decide) (fun μ227 ρ227 hc9 => ?_)
            obtain ⟨rfl, rfl⟩ := hc9
            refine g_iinc 233 (_ + 1) dX8_runs_230 rfl rfl rfl (by decide) ?_
            refine g_goto 75 dX8_runs_233 (by decide) ?_
            rw [nI_1]
            refine g_lv [(0, _), (1, _), (2, _), (3, _)] rfl ?_
            exact ih (k2 + 1) (by omega) _ (q_MS_y hr10 (by omega) hq h143 rfl rfl)
          · exact absurd h199 (nI_ne0 (by omega) (by omega))
        · refine g_goto 230 dX8_runs_146 (by decide) ?_
          refine g_iinc 233 (_ + 1) dX8_runs_230 rfl rfl rfl (by decide) ?_
          refine g_goto 75 dX8_runs_233 (by decide) ?_
          rw [nI_1]
          refine g_lv [(0, _), (1, _), (2, _), (3, _)] rfl ?_
          exact ih (k2 + 1) (by omega) _ (q_MS_n hr10 hq h143)
      · exact absurd h81 (nI_ne0 (by omega) (by omega))
set_option maxRecDepth 100000 in
set_option maxHeartbeats 8000000 in
theorem lp_runs {cnt : Nat} {K : Nat → Nat} {tm : Nat → Nat → Int32} {bk bg : Nat → Int32} (hI : q_MI μ0 cnt K tm bk bg) : ∀ k i, i + k = 7 → ∀ μ, q_MN μ0 μ cnt tm bk bg i → q_G C l FX8_runs 2 142 142 (q_PV fun μ' ρ' => q_ρ b = ρ' ∧ q_MN μ0 μ' cnt tm bk bg 7) 142 μ (q_ρ b) [(0, .ref (q_a C 122)), (1, .int (nI i))] [] 2 := by
  intro k
  induction k with
  | zero =>
    intro i hk μ hq
    refine g_iload_n 3 dX8_runs_2 rfl rfl ?_
    refine g_bipush 5 7 dX8_runs_3 rfl (by decide) ?_
    refine g_icmp_ge 242 8 dX8_runs_5 rfl (by decide) (fun h5 => ?_) (fun h5 => ?_)
    · exact g_rv dX8_runs_242 rfl rfl ⟨rfl, by rw [show i = 7 by omega] at hq; exact hq⟩
    · exact absurd (nI_le (a := 7) (b := i) (by omega) (by omega)) h5
  | succ k ih =>
    intro i hk μ hq
    have hi : i < 7 := by omega
    have hcn := hI.1
    cases i with
    | zero =>
      refine g_iload_n 3 dX8_runs_2 rfl rfl ?_
      refine g_bipush 5 7 dX8_runs_3 rfl (by decide) ?_
      refine g_icmp_ge 242 8 dX8_runs_5 rfl (by decide) (fun h5 => ?_) (fun h5 => ?_)
      · exact absurd h5 (nI_ge (a := 0) (b := 7) (by omega) (by omega))
      · refine g_iconst 9 0 dX8_runs_8 rfl (by decide) ?_
        refine g_istore_n 10 dX8_runs_9 rfl (by decide) ?_
        have h9 := lp_ml (C := C) (l := l) (b := b) (μ := μ) (Po := (q_PV fun μ' ρ' => q_ρ b = ρ' ∧ q_MN μ0 μ' cnt tm bk bg 7)) (i := 0) (by decide) ?_ 10 0 (by omega)
        · refine g_lv [(0, _), (1, _), (2, .int 0)] rfl ?_
          rw [q_ml_0] at h9
          exact h9
        refine g_iload_n 47 dX8_runs_46 rfl rfl ?_
        refine g_if_ne 57 50 dX8_runs_47 rfl (by decide) (fun h47 => ?_) (fun h47 => ?_)
        · exact absurd rfl h47
        · refine g_aload_n 51 dX8_runs_50 rfl rfl ?_
          refine g_getI 54 dX8_runs_51 rfl f_X8_75 (by decide) rfl rfl ?_
          rw [show q_ml μ 0 10 122 0 = μ 122 0 from if_neg (by omega), hq.2 122 0 (by decide), hI.2.1]
          refine g_goto 65 dX8_runs_54 (by decide) ?_
          refine g_istore_n 66 dX8_runs_65 rfl (by decide) ?_
          refine g_aload_n 67 dX8_runs_66 rfl rfl ?_
          refine g_getR 70 _ dX8_runs_67 rfl f_X8_59 (by decide) rfl rfl rfl ?_
          refine g_iload_n 71 dX8_runs_70 rfl rfl ?_
          refine g_iconst 72 0 dX8_runs_71 rfl (by decide) ?_
          refine g_iast 73 dX8_runs_72 rfl (by decide) rfl (vp_in_nI (show 0 < 7 by omega) (by omega)) ?_
          rw [nI_clamp (show 0 < 2 ^ 31 by omega)]
          refine g_iconst 74 0 dX8_runs_73 rfl (by decide) ?_
          refine g_istore_n 75 dX8_runs_74 rfl (by decide) ?_
          refine g_lv [(0, _), (1, _), (2, _), (3, .int (nI 0))] rfl ?_
          refine lp_Mst0 (μ0 := μ0) (tmf := tm) (bgf := bg) (rin := (q_od cnt tm bk 0).1) (S := q_S tm 0) (Sp := fun _ => 0) hI (fun c j hc => by rw [q_upo (by omega), show q_ml μ 0 10 c j = μ c j from if_neg (by omega)]; exact hq.2 c j hc) hI.1 (fun k hk => hk) (fun r => rfl) (fun k _ => rfl) ?_ cnt 0 (by omega) _ q_MS_0
          intro μ4 h4
          refine g_iinc 239 (_ + 1) dX8_runs_236 rfl rfl rfl (by decide) ?_
          refine g_goto 2 dX8_runs_239 (by decide) ?_
          rw [nI_1]
          refine g_lv [(0, _), (1, _)] rfl ?_
          exact ih (0 + 1) (by omega) _ (q_MN_s hq hI.1 h4)
    | succ i =>
      refine g_iload_n 3 dX8_runs_2 rfl rfl ?_
      refine g_bipush 5 7 dX8_runs_3 rfl (by decide) ?_
      refine g_icmp_ge 242 8 dX8_runs_5 rfl (by decide) (fun h5 => ?_) (fun h5 => ?_)
      · exact absurd h5 (nI_ge (a := (i + 1)) (b := 7) (by omega) (by omega))
      · refine g_iconst 9 0 dX8_runs_8 rfl (by decide) ?_
        refine g_istore_n 10 dX8_runs_9 rfl (by decide) ?_
        have h9 := lp_ml (C := C) (l := l) (b := b) (μ := μ) (Po := (q_PV fun μ' ρ' => q_ρ b = ρ' ∧ q_MN μ0 μ' cnt tm bk bg 7)) (i := (i + 1)) hi ?_ 10 0 (by omega)
        · refine g_lv [(0, _), (1, _), (2, .int 0)] rfl ?_
          rw [q_ml_0] at h9
          exact h9
        refine g_iload_n 47 dX8_runs_46 rfl rfl ?_
        refine g_if_ne 57 50 dX8_runs_47 rfl (by decide) (fun h47 => ?_) (fun h47 => ?_)
        · refine g_aload_n 58 dX8_runs_57 rfl rfl ?_
          refine g_getR 61 _ dX8_runs_58 rfl f_X8_59 (by decide) rfl rfl rfl ?_
          refine g_iload_n 62 dX8_runs_61 rfl rfl ?_
          refine g_iconst 63 1 dX8_runs_62 rfl (by decide) ?_
          refine g_isub 64 dX8_runs_63 rfl ?_
          rw [nI_pred]
          refine g_iald 65 dX8_runs_64 rfl (by decide) rfl (vp_in_nI (show i < 7 by omega) (by omega)) ?_
          have hMG := hq.1 i (by omega)
          rw [nI_clamp (show i < 2 ^ 31 by omega), show q_ml μ (i + 1) 10 138 i = μ 138 i from if_neg (by omega), hMG.2.2.2.2]
          refine g_istore_n 66 dX8_runs_65 rfl (by decide) ?_
          refine g_aload_n 67 dX8_runs_66 rfl rfl ?_
          refine g_getR 70 _ dX8_runs_67 rfl f_X8_59 (by decide) rfl rfl rfl ?_
          refine g_iload_n 71 dX8_runs_70 rfl rfl ?_
          refine g_iconst 72 0 dX8_runs_71 rfl (by decide) ?_
          refine g_iast 73 dX8_runs_72 rfl (by decide) rfl (vp_in_nI (show (i + 1) < 7 by omega) (by omega)) ?_
          rw [nI_clamp (show (i + 1) < 2 ^ 31 by omega)]
          have hod := q_od_le cnt tm bk (i + 1)
          have hr3 : ∀ k, k < (q_od cnt tm bk (i + 1)).2 → (q_up (q_ml μ (i + 1) 10) 138 (i + 1) 0) 137 (10 * i + k) = nI ((q_od cnt tm bk (i + 1)).1 k) ∧ (q_up (q_ml μ (i + 1) 10) 138 (i + 1) 0) 136 (10 * i + (q_od cnt tm bk (i + 1)).1 k) = q_S tm i ((q_od cnt tm bk (i + 1)).1 k) := by
            intro k hk
            refine ⟨?_, ?_⟩
            · rw [q_upc (by decide), show q_ml μ (i + 1) 10 137 (10 * i + k) = μ 137 (10 * i + k) from if_neg (by omega)]
              exact hMG.2.2.2.1 k hk
            · rw [q_upc (by decide), show q_ml μ (i + 1) 10 136 _ = μ 136 _ from if_neg (by omega)]
              exact hMG.2.2.1 k hk
          refine g_iconst 74 0 dX8_runs_73 rfl (by decide) ?_
          refine g_istore_n 75 dX8_runs_74 rfl (by decide) ?_
          refine g_lv [(0, _), (1, _), (2, _), (3, .int (nI 0))] rfl ?_
          refine lp_Msts (μ0 := μ0) (tmf := tm) (bgf := bg) (M := (q_od cnt tm bk (i + 1)).2) (rin := (q_od cnt tm bk (i + 1)).1) (S := q_S tm (i + 1)) (Sp := q_S tm i) hI (fun c j hc => by rw [q_upo (by omega), show q_ml μ (i + 1) 10 c j = μ c j from if_neg (by omega)]; exact hq.2 c j hc) (by omega) (fun k hk => q_od_lt cnt tm bk (i + 1) k hk) (fun r => rfl) hi hr3 ?_ (q_od cnt tm bk (i + 1)).2 0 (by omega) _ q_MS_0
          intro μ4 h4
          refine g_iinc 239 (_ + 1) dX8_runs_236 rfl rfl rfl (by decide) ?_
          refine g_goto 2 dX8_runs_239 (by decide) ?_
          rw [nI_1]
          refine g_lv [(0, _), (1, _)] rfl ?_
          exact ih ((i + 1) + 1) (by omega) _ (q_MN_s hq hI.1 h4)
        · exact absurd h47 (nI_ne0 (by omega) (by omega))
set_option maxRecDepth 100000 in
set_option maxHeartbeats 4000000 in
theorem c_runs {cnt : Nat} {K : Nat → Nat} {tm : Nat → Nat → Int32} {bk bg : Nat → Int32} (hI : q_MI μ cnt K tm bk bg) : q_Ct C l FX8_runs 2 142 142 [.ref (q_a C 122)] μ (q_ρ b) (q_PV fun μ' ρ' => q_ρ b = ρ' ∧ q_MN μ μ' cnt tm bk bg 7) := by
  refine q_entry rfl (by decide) (Nat.le_of_ble_eq_true rfl) ?_
  refine g_lv [(0, _)] rfl ?_
  refine g_iconst 1 0 dX8_runs_0 rfl (by decide) ?_
  refine g_istore_n 2 dX8_runs_1 rfl (by decide) ?_
  refine g_lv [(0, _), (1, .int (nI 0))] rfl ?_
  exact lp_runs hI 7 0 (by omega) μ ⟨fun i h => absurd h (Nat.not_lt_zero _), fun c j _ => rfl⟩
end MN
end
section
/-! ===== kitchens: pure ===== -/
def q_fa (ar : Nat → Int32) (o : Nat → Nat) : Nat → Int32
  | 0 => -1
  | k + 1 => if q_fa ar o k = -1 then ar (o k) else q_mn (q_fa ar o k) (ar (o k))
def q_lb (ar : Nat → Int32) (o : Nat → Nat) : Nat → Int32
  | 0 => -1
  | k + 1 => if q_lb ar o k < ar (o k) then ar (o k) else q_lb ar o k
/-- camp c can be done by a set that did camp a -/
def q_cn (op cl km : Nat → Int32) (pc : Int32) (c a : Nat) : Bool := decide (cl a + q_dv ((km c - km a).toInt64 * 60) pc.toInt64 ≤ op c)
/-- the first of n sets, from s on, with which it goes on -/
def q_ft (T : Nat → Option (Nat → Nat)) : Nat → Nat → Option (Nat → Nat)
  | 0, _ => none
  | n + 1, s => match T s with
    | some g => some g
    | none => q_ft T n (s + 1)
def q_la (la : Nat → Nat) (s c : Nat) : Nat → Nat := fun t => if t = s then c else la t
/-- camps c .. of f in all, shared out as the class does -/
def q_se (can : Nat → Nat → Bool) (most : Nat) : Nat → Nat → Nat → (Nat → Nat) → Option (Nat → Nat)
  | 0, _, _, _ => some (fun _ => 0)
  | f + 1, c, used, la => q_ft (fun s => if s = used ∨ can c (la s) = true then (q_se can most f (c + 1) (if s = used then used + 1 else used) (q_la la s c)).map (fun g x => if x = c then s else g x) else none) (min (used + 1) most) 0
abbrev q_tr1 (can : Nat → Nat → Bool) (most f c used : Nat) (la : Nat → Nat) (s : Nat) : Option (Nat → Nat) := if s = used ∨ can c (la s) = true then (q_se can most f (c + 1) (if s = used then used + 1 else used) (q_la la s c)).map (fun g x => if x = c then s else g x) else none
def q_shP (N c : Nat) (res : Option (Nat → Nat)) (μ : q_M) (v : Int32) (μ' : q_M) : Prop :=
  (∀ cc j, cc ≠ 66 → cc ≠ 68 → μ' cc j = μ cc j) ∧ (∀ x, x < c → μ' 66 x = μ 66 x) ∧
  match res with
  | some g => v = 1 ∧ ∀ x, c ≤ x → x ≤ N → μ' 66 x = nI (g x)
  | none => v = 0 ∧ ∀ s, μ' 68 s = μ 68 s
/-- what the search reads and leaves -/
def q_KF (μ : q_M) (N : Nat) (op cl km : Nat → Int32) (pc : Int32) : Prop := μ 63 6 = nI N ∧ μ 63 7 = pc ∧ μ 64 = op ∧ μ 65 = cl ∧ μ 67 = km
theorem q_KF.of {μ μ' : q_M} {N : Nat} {op cl km : Nat → Int32} {pc : Int32} (h : q_KF μ N op cl km pc) (hf : ∀ cc j, cc ≠ 66 → cc ≠ 68 → μ' cc j = μ cc j) : q_KF μ' N op cl km pc := by
  obtain ⟨h1, h2, h3, h4, h5⟩ := h
  exact ⟨by rw [hf _ _ (by decide) (by decide)]; exact h1, by rw [hf _ _ (by decide) (by decide)]; exact h2, by rw [← h3]; funext j; exact hf _ _ (by decide) (by decide), by rw [← h4]; funext j; exact hf _ _ (by decide) (by decide), by rw [← h5]; funext j; exact hf _ _ (by decide) (by decide)⟩
section KT
variable {C : q_C} {l : Launch} {μ : q_M} {b : Bool}
set_option maxRecDepth 100000 in
set_option maxHeartbeats 4000000 in
theorem lp_fa {i m : Nat} {o : Nat → Nat} (hi : i < 7) (hm : m ≤ 10) (hcm : μ 60 i = nI m) (ho : ∀ j, j < m → μ (53 + i) j = nI (o j) ∧ o j < 10) : ∀ k k2, k2 + k = m → q_G C l FX3_firstArrival 2 142 142 (q_is (q_fa (μ (29 + i)) o m) μ (q_ρ b)) 142 μ (q_ρ b) [(0, .ref (q_a C 11)), (1, .int (nI i)), (2, .int (q_fa (μ (29 + i)) o k2)), (3, .int (nI k2))] [] 4 := by
  intro k
  induction k with
  | zero =>
    intro k2 hK9
    refine g_iload_n 5 dX3_firstArrival_4 rfl rfl ?_
    refine g_SNi 8 [_] _ dX3_firstArrival_5 rfl m_X7_isStage l_X3_73 rfl (c_isStage _) rfl (Nat.le_of_ble_eq_true rfl) (by decide) (fun v5 μ5 ρ5 hc9 => ?_)
    obtain ⟨rfl, rfl, rfl⟩ := hc9
    refine g_if_eq 61 11 dX3_firstArrival_8 rfl (by decide) (fun h8 => ?_) (fun h8 => ?_)
    · exact (q_b_0.mp h8 (q_stageI hi)).elim
    · refine g_iload_n 12 dX3_firstArrival_11 rfl rfl ?_
      refine g_aload_n 13 dX3_firstArrival_12 rfl rfl ?_
      refine g_getR 16 _ dX3_firstArrival_13 rfl f_X3_31 (by decide) rfl rfl rfl ?_
      refine g_iload_n 17 dX3_firstArrival_16 rfl rfl ?_
      refine g_iald 18 dX3_firstArrival_17 rfl (by decide) rfl (vp_in_nI hi (by omega)) ?_
      rw [nI_clamp (show i < 2 ^ 31 by omega), hcm]
      refine g_icmp_ge 61 21 dX3_firstArrival_18 rfl (by decide) (fun h18 => ?_) (fun h18 => ?_)
      · refine g_iload_n 62 dX3_firstArrival_61 rfl rfl ?_
        exact g_ri dX3_firstArrival_62 rfl rfl ⟨by rw [show k2 = m by omega], rfl, rfl⟩
      · exact absurd (nI_le (by omega) (by omega)) h18
  | succ k ih =>
    intro k2 hK9
    refine g_iload_n 5 dX3_firstArrival_4 rfl rfl ?_
    refine g_SNi 8 [_] _ dX3_firstArrival_5 rfl m_X7_isStage l_X3_73 rfl (c_isStage _) rfl (Nat.le_of_ble_eq_true rfl) (by decide) (fun v5 μ5 ρ5 hc9 => ?_)
    obtain ⟨rfl, rfl, rfl⟩ := hc9
    refine g_if_eq 61 11 dX3_firstArrival_8 rfl (by decide) (fun h8 => ?_) (fun h8 => ?_)
    · exact (q_b_0.mp h8 (q_stageI hi)).elim
    · refine g_iload_n 12 dX3_firstArrival_11 rfl rfl ?_
      refine g_aload_n 13 dX3_firstArrival_12 rfl rfl ?_
      refine g_getR 16 _ dX3_firstArrival_13 rfl f_X3_31 (by decide) rfl rfl rfl ?_
      refine g_iload_n 17 dX3_firstArrival_16 rfl rfl ?_
      refine g_iald 18 dX3_firstArrival_17 rfl (by decide) rfl (vp_in_nI hi (by omega)) ?_
      rw [nI_clamp (show i < 2 ^ 31 by omega), hcm]
      refine g_icmp_ge 61 21 dX3_firstArrival_18 rfl (by decide) (fun h18 => ?_) (fun h18 => ?_)
      · exact absurd h18 (nI_ge (by omega) (by omega))
      · refine g_aload_n 22 dX3_firstArrival_21 rfl rfl ?_
        refine g_getR 25 _ dX3_firstArrival_22 rfl f_X3_19 (by decide) rfl rfl rfl ?_
        refine g_iload_n 26 dX3_firstArrival_25 rfl rfl ?_
        refine g_aald 27 _ dX3_firstArrival_26 rfl (by decide) rfl (vp_in_nI hi (by omega)) rfl ?_
        rw [nI_clamp (show i < 2 ^ 31 by omega)]
        refine g_aload_n 28 dX3_firstArrival_27 rfl rfl ?_
        refine g_getR 31 _ dX3_firstArrival_28 rfl f_X3_28 (by decide) rfl rfl rfl ?_
        refine g_iload_n 32 dX3_firstArrival_31 rfl rfl ?_
        refine g_aald 33 _ dX3_firstArrival_32 rfl (by decide) rfl (vp_in_nI hi (by omega)) rfl ?_
        rw [nI_clamp (show i < 2 ^ 31 by omega)]
        refine g_iload_n 34 dX3_firstArrival_33 rfl rfl ?_
        refine g_iald 35 dX3_firstArrival_34 rfl (by omega) (k_53 i hi) (vp_in_nI (show k2 < 10 by omega) (by omega)) ?_
        rw [nI_clamp (show k2 < 2 ^ 31 by omega), (ho k2 (by omega)).1]
        refine g_iald 36 dX3_firstArrival_35 rfl (by omega) (k_29 i hi) (vp_in_nI (ho k2 (by omega)).2 (by omega)) ?_
        rw [nI_clamp (show o k2 < 2 ^ 31 from by have := (ho k2 (by omega)).2; omega)]
        refine g_istore 38 dX3_firstArrival_36 rfl (by decide) ?_
        refine g_iload_n 39 dX3_firstArrival_38 rfl rfl ?_
        refine g_iconst 40 (-1) dX3_firstArrival_39 rfl (by decide) ?_
        refine g_icmp_ne 48 43 dX3_firstArrival_40 rfl (by decide) (fun h40 => ?_) (fun h40 => ?_)
        · refine g_iload_n 49 dX3_firstArrival_48 rfl rfl ?_
          refine g_iload 51 dX3_firstArrival_49 rfl rfl ?_
          refine g_min 54 dX3_firstArrival_51 rfl a_X3_80 a_min_s a_ini a_min_c (by decide) (Nat.le_of_ble_eq_true rfl) ?_
          refine g_istore_n 55 dX3_firstArrival_54 rfl (by decide) ?_
          refine g_iinc 58 (_ + 1) dX3_firstArrival_55 rfl rfl rfl (by decide) ?_
          refine g_goto 4 dX3_firstArrival_58 (by decide) ?_
          rw [nI_1]
          refine g_lv [(0, _), (1, _), (2, _), (3, _)] rfl ?_
          have h9 := ih (k2 + 1) (by omega)
          rw [q_fa, if_neg h40] at h9
          exact h9
        · refine g_iload 45 dX3_firstArrival_43 rfl rfl ?_
          refine g_goto 54 dX3_firstArrival_45 (by decide) ?_
          refine g_istore_n 55 dX3_firstArrival_54 rfl (by decide) ?_
          refine g_iinc 58 (_ + 1) dX3_firstArrival_55 rfl rfl rfl (by decide) ?_
          refine g_goto 4 dX3_firstArrival_58 (by decide) ?_
          rw [nI_1]
          refine g_lv [(0, _), (1, _), (2, _), (3, _)] rfl ?_
          have h9 := ih (k2 + 1) (by omega)
          rw [q_fa, if_pos h40] at h9
          exact h9
set_option maxRecDepth 100000 in
set_option maxHeartbeats 4000000 in
theorem c_fa {i m : Nat} {o : Nat → Nat} (hi : i < 7) (hm : m ≤ 10) (hcm : μ 60 i = nI m) (ho : ∀ j, j < m → μ (53 + i) j = nI (o j) ∧ o j < 10) : q_Ct C l FX3_firstArrival 2 142 142 [.ref (q_a C 11), .int (nI i)] μ (q_ρ b) (q_is (q_fa (μ (29 + i)) o m) μ (q_ρ b)) := by
  refine q_entry rfl (by decide) (Nat.le_of_ble_eq_true rfl) ?_
  refine g_lv [(0, _), (1, _)] rfl ?_
  refine g_iconst 1 (-1) dX3_firstArrival_0 rfl (by decide) ?_
  refine g_istore_n 2 dX3_firstArrival_1 rfl (by decide) ?_
  refine g_iconst 3 0 dX3_firstArrival_2 rfl (by decide) ?_
  refine g_istore_n 4 dX3_firstArrival_3 rfl (by decide) ?_
  refine g_lv [(0, _), (1, _), (2, _), (3, .int (nI 0))] rfl ?_
  exact lp_fa hi hm hcm ho m 0 (by omega)
set_option maxRecDepth 100000 in
set_option maxHeartbeats 4000000 in
theorem lp_lb {i m : Nat} {o : Nat → Nat} (hi : i < 7) (hm : m ≤ 10) (hcm : μ 60 i = nI m) (ho : ∀ j, j < m → μ (53 + i) j = nI (o j) ∧ o j < 10) : ∀ k k2, k2 + k = m → q_G C l FX3_lastArrival 2 142 142 (q_is (q_lb (μ (29 + i)) o m) μ (q_ρ b)) 142 μ (q_ρ b) [(0, .ref (q_a C 11)), (1, .int (nI i)), (2, .int (q_lb (μ (29 + i)) o k2)), (3, .int (nI k2))] [] 4 := by
  intro k
  induction k with
  | zero =>
    intro k2 hK9
    refine g_iload_n 5 dX3_lastArrival_4 rfl rfl ?_
    refine g_SNi 8 [_] _ dX3_lastArrival_5 rfl m_X7_isStage l_X3_73 rfl (c_isStage _) rfl (Nat.le_of_ble_eq_true rfl) (by decide) (fun v5 μ5 ρ5 hc9 => ?_)
    obtain ⟨rfl, rfl, rfl⟩ := hc9
    refine g_if_eq 47 11 dX3_lastArrival_8 rfl (by decide) (fun h8 => ?_) (fun h8 => ?_)
    · exact (q_b_0.mp h8 (q_stageI hi)).elim
    · refine g_iload_n 12 dX3_lastArrival_11 rfl rfl ?_
      refine g_aload_n 13 dX3_lastArrival_12 rfl rfl ?_
      refine g_getR 16 _ dX3_lastArrival_13 rfl f_X3_31 (by decide) rfl rfl rfl ?_
      refine g_iload_n 17 dX3_lastArrival_16 rfl rfl ?_
      refine g_iald 18 dX3_lastArrival_17 rfl (by decide) rfl (vp_in_nI hi (by omega)) ?_
      rw [nI_clamp (show i < 2 ^ 31 by omega), hcm]
      refine g_icmp_ge 47 21 dX3_lastArrival_18 rfl (by decide) (fun h18 => ?_) (fun h18 => ?_)
      · refine g_iload_n 48 dX3_lastArrival_47 rfl rfl ?_
        exact g_ri dX3_lastArrival_48 rfl rfl ⟨by rw [show k2 = m by omega], rfl, rfl⟩
      · exact absurd (nI_le (by omega) (by omega)) h18
  | succ k ih =>
    intro k2 hK9
    refine g_iload_n 5 dX3_lastArrival_4 rfl rfl ?_
    refine g_SNi 8 [_] _ dX3_lastArrival_5 rfl m_X7_isStage l_X3_73 rfl (c_isStage _) rfl (Nat.le_of_ble_eq_true rfl) (by decide) (fun v5 μ5 ρ5 hc9 => ?_)
    obtain ⟨rfl, rfl, rfl⟩ := hc9
    refine g_if_eq 47 11 dX3_lastArrival_8 rfl (by decide) (fun h8 => ?_) (fun h8 => ?_)
    · exact (q_b_0.mp h8 (q_stageI hi)).elim
    · refine g_iload_n 12 dX3_lastArrival_11 rfl rfl ?_
      refine g_aload_n 13 dX3_lastArrival_12 rfl rfl ?_
      refine g_getR 16 _ dX3_lastArrival_13 rfl f_X3_31 (by decide) rfl rfl rfl ?_
      refine g_iload_n 17 dX3_lastArrival_16 rfl rfl ?_
      refine g_iald 18 dX3_lastArrival_17 rfl (by decide) rfl (vp_in_nI hi (by omega)) ?_
      rw [nI_clamp (show i < 2 ^ 31 by omega), hcm]
      refine g_icmp_ge 47 21 dX3_lastArrival_18 rfl (by decide) (fun h18 => ?_) (fun h18 => ?_)
      · exact absurd h18 (nI_ge (by omega) (by omega))
      · refine g_iload_n 22 dX3_lastArrival_21 rfl rfl ?_
        refine g_aload_n 23 dX3_lastArrival_22 rfl rfl ?_
        refine g_getR 26 _ dX3_lastArrival_23 rfl f_X3_19 (by decide) rfl rfl rfl ?_
        refine g_iload_n 27 dX3_lastArrival_26 rfl rfl ?_
        refine g_aald 28 _ dX3_lastArrival_27 rfl (by decide) rfl (vp_in_nI hi (by omega)) rfl ?_
        rw [nI_clamp (show i < 2 ^ 31 by omega)]
        refine g_aload_n 29 dX3_lastArrival_28 rfl rfl ?_
        refine g_getR 32 _ dX3_lastArrival_29 rfl f_X3_28 (by decide) rfl rfl rfl ?_
        refine g_iload_n 33 dX3_lastArrival_32 rfl rfl ?_
        refine g_aald 34 _ dX3_lastArrival_33 rfl (by decide) rfl (vp_in_nI hi (by omega)) rfl ?_
        rw [nI_clamp (show i < 2 ^ 31 by omega)]
        refine g_iload_n 35 dX3_lastArrival_34 rfl rfl ?_
        refine g_iald 36 dX3_lastArrival_35 rfl (by omega) (k_53 i hi) (vp_in_nI (show k2 < 10 by omega) (by omega)) ?_
        rw [nI_clamp (show k2 < 2 ^ 31 by omega), (ho k2 (by omega)).1]
        refine g_iald 37 dX3_lastArrival_36 rfl (by omega) (k_29 i hi) (vp_in_nI (ho k2 (by omega)).2 (by omega)) ?_
        rw [nI_clamp (show o k2 < 2 ^ 31 from by have := (ho k2 (by omega)).2; omega)]
        refine g_max 40 dX3_lastArrival_37 rfl a_X3_86 a_max_s a_ini a_max_c (by decide) (Nat.le_of_ble_eq_true rfl) ?_
        refine g_istore_n 41 dX3_lastArrival_40 rfl (by decide) ?_
        refine g_iinc 44 (_ + 1) dX3_lastArrival_41 rfl rfl rfl (by decide) ?_
        refine g_goto 4 dX3_lastArrival_44 (by decide) ?_
        rw [nI_1]
        refine g_lv [(0, _), (1, _), (2, _), (3, _)] rfl ?_
        have h9 := ih (k2 + 1) (by omega)
        rw [q_lb] at h9
        exact h9
set_option maxRecDepth 100000 in
set_option maxHeartbeats 4000000 in
theorem c_lb {i m : Nat} {o : Nat → Nat} (hi : i < 7) (hm : m ≤ 10) (hcm : μ 60 i = nI m) (ho : ∀ j, j < m → μ (53 + i) j = nI (o j) ∧ o j < 10) : q_Ct C l FX3_lastArrival 2 142 142 [.ref (q_a C 11), .int (nI i)] μ (q_ρ b) (q_is (q_lb (μ (29 + i)) o m) μ (q_ρ b)) := by
  refine q_entry rfl (by decide) (Nat.le_of_ble_eq_true rfl) ?_
  refine g_lv [(0, _), (1, _)] rfl ?_
  refine g_iconst 1 (-1) dX3_lastArrival_0 rfl (by decide) ?_
  refine g_istore_n 2 dX3_lastArrival_1 rfl (by decide) ?_
  refine g_iconst 3 0 dX3_lastArrival_2 rfl (by decide) ?_
  refine g_istore_n 4 dX3_lastArrival_3 rfl (by decide) ?_
  refine g_lv [(0, _), (1, _), (2, _), (3, .int (nI 0))] rfl ?_
  exact lp_lb hi hm hcm ho m 0 (by omega)
set_option maxRecDepth 100000 in
set_option maxHeartbeats 4000000 in
theorem c_canDo {c a : Nat} (hc : c < 8) (ha : a < 8) : q_Ct C l FX2_canDo 2 142 142 [.ref (q_a C 63), .int (nI c), .int (nI a)] μ (q_ρ b) (q_is (q_b (q_cn (μ 64) (μ 65) (μ 67) (μ 63 7) c a = true)) μ (q_ρ b)) := by
  refine q_entry rfl (by decide) (Nat.le_of_ble_eq_true rfl) ?_
  refine g_lv [(0, _), (1, _), (2, _)] rfl ?_
  refine g_aload_n 1 dX2_canDo_0 rfl rfl ?_
  refine g_getR 4 _ dX2_canDo_1 rfl f_X2_21 (by decide) rfl rfl rfl ?_
  refine g_iload_n 5 dX2_canDo_4 rfl rfl ?_
  refine g_iald 6 dX2_canDo_5 rfl (by decide) rfl (vp_in_nI hc (by omega)) ?_
  rw [nI_clamp (show c < 2 ^ 31 by omega)]
  refine g_aload_n 7 dX2_canDo_6 rfl rfl ?_
  refine g_getR 10 _ dX2_canDo_7 rfl f_X2_21 (by decide) rfl rfl rfl ?_
  refine g_iload_n 11 dX2_canDo_10 rfl rfl ?_
  refine g_iald 12 dX2_canDo_11 rfl (by decide) rfl (vp_in_nI ha (by omega)) ?_
  rw [nI_clamp (show a < 2 ^ 31 by omega)]
  refine g_isub 13 dX2_canDo_12 rfl ?_
  refine g_aload_n 14 dX2_canDo_13 rfl rfl ?_
  refine g_getI 17 dX2_canDo_14 rfl f_X2_31 (by decide) rfl rfl ?_
  refine g_SNi 20 [_, _] _ dX2_canDo_17 rfl m_X7_minutesFor l_X2_66 rfl (c_minFor _ _) rfl (Nat.le_of_ble_eq_true rfl) (by decide) (fun v17 μ17 ρ17 hc9 => ?_)
  obtain ⟨rfl, rfl, rfl⟩ := hc9
  refine g_istore_n 21 dX2_canDo_20 rfl (by decide) ?_
  refine g_aload_n 22 dX2_canDo_21 rfl rfl ?_
  refine g_getR 25 _ dX2_canDo_22 rfl f_X2_15 (by decide) rfl rfl rfl ?_
  refine g_iload_n 26 dX2_canDo_25 rfl rfl ?_
  refine g_iald 27 dX2_canDo_26 rfl (by decide) rfl (vp_in_nI ha (by omega)) ?_
  rw [nI_clamp (show a < 2 ^ 31 by omega)]
  refine g_iload_n 28 dX2_canDo_27 rfl rfl ?_
  refine g_iadd 29 dX2_canDo_28 rfl ?_
  refine g_aload_n 30 dX2_canDo_29 rfl rfl ?_
  refine g_getR 33 _ dX2_canDo_30 rfl f_X2_9 (by decide) rfl rfl rfl ?_
  refine g_iload_n 34 dX2_canDo_33 rfl rfl ?_
  refine g_iald 35 dX2_canDo_34 rfl (by decide) rfl (vp_in_nI hc (by omega)) ?_
  rw [nI_clamp (show c < 2 ^ 31 by omega)]
  refine g_icmp_gt 42 38 dX2_canDo_35 rfl (by decide) (fun h35 => ?_) (fun h35 => ?_)
  · refine g_iconst 43 0 dX2_canDo_42 rfl (by decide) ?_
    exact g_rz dX2_canDo_43 rfl (by first | exact Or.inl rfl | exact Or.inr rfl | assumption) rfl ⟨q_b_f (fun q => absurd (of_decide_eq_true q) (Int32.not_le.mpr h35)), rfl, rfl⟩
  · refine g_iconst 39 1 dX2_canDo_38 rfl (by decide) ?_
    refine g_goto 43 dX2_canDo_39 (by decide) ?_
    exact g_rz dX2_canDo_43 rfl (by first | exact Or.inl rfl | exact Or.inr rfl | assumption) rfl ⟨q_b_t (decide_eq_true (Int32.not_lt.mp h35)), rfl, rfl⟩
theorem q_shP_some {N c : Nat} {res : Option (Nat → Nat)} {μ μ' : q_M} {v : Int32} (h : q_shP N c res μ v μ') (hv : ¬ v = 0) : ∃ g, res = some g ∧ v = 1 ∧ ∀ x, c ≤ x → x ≤ N → μ' 66 x = nI (g x) := by
  obtain ⟨h1, h2, h3⟩ := h
  cases res with
  | none => exact absurd h3.1 hv
  | some g => exact ⟨g, rfl, h3.1, h3.2⟩
theorem q_shP_none {N c : Nat} {res : Option (Nat → Nat)} {μ μ' : q_M} {v : Int32} (h : q_shP N c res μ v μ') (hv : v = 0) : res = none ∧ ∀ s, μ' 68 s = μ 68 s := by
  obtain ⟨h1, h2, h3⟩ := h
  cases res with
  | none => exact ⟨rfl, h3.2⟩
  | some g => exact absurd (h3.1.symm.trans hv) (by decide)
set_option maxRecDepth 100000 in
set_option maxHeartbeats 8000000 in
theorem lp_share {N most f c used : Nat} {op cl km : Nat → Int32} {pc : Int32} {la : Nat → Nat} {μ0 : q_M} (hN : N ≤ 7) (hmo : most ≤ 7) (hc1 : 1 ≤ c) (hcN : c + f = N) (hu : used < c) (hKF : q_KF μ0 N op cl km pc) (hla : ∀ s, s < used → μ0 68 s = nI (la s) ∧ la s < c) (hrec : ∀ used2 la2 μ2, used2 ≤ c → q_KF μ2 N op cl km pc → (∀ s, s < used2 → μ2 68 s = nI (la2 s) ∧ la2 s ≤ c) → q_Ct C l FX2_share (3 + f) 142 142 [.ref (q_a C 63), .int (nI (c + 1)), .int (nI used2), .int (nI most)] μ2 (q_ρ b) (q_PI fun v μ' ρ' => q_ρ b = ρ' ∧ q_shP N (c + 1) (q_se (q_cn op cl km pc) most f (c + 1) used2 la2) μ2 v μ')) : ∀ n s, s + n = min (used + 1) most → ∀ μ, (∀ cc j, cc ≠ 66 → cc ≠ 68 → μ cc j = μ0 cc j) → (∀ x, x < c → μ 66 x = μ0 66 x) → (∀ s, μ 68 s = μ0 68 s) → q_G C l FX2_share (4 + f) 142 142 (q_PI fun v μ' ρ' => q_ρ b = ρ' ∧ q_shP N c (q_ft (q_tr1 (q_cn op cl km pc) most f c used la) n s) μ0 v μ') 142 μ (q_ρ b) [(0, .ref (q_a C 63)), (1, .int (nI c)), (2, .int (nI used)), (3, .int (nI most)), (4, .int (nI s))] [] 19 := by
  intro n
  induction n with
  | zero =>
    intro s hs μ hf h66 h68
    refine g_iload 21 dX2_share_19 rfl rfl ?_
    refine g_iload_n 22 dX2_share_21 rfl rfl ?_
    refine g_icmp_gt 120 25 dX2_share_22 rfl (by decide) (fun h22 => ?_) (fun h22 => ?_)
    · refine g_iconst 121 0 dX2_share_120 rfl (by decide) ?_
      exact g_rz dX2_share_121 rfl (by first | exact Or.inl rfl | exact Or.inr rfl | assumption) rfl ⟨rfl, hf, h66, rfl, h68⟩
    · refine g_iload 27 dX2_share_25 rfl rfl ?_
      refine g_iload_n 28 dX2_share_27 rfl rfl ?_
      refine g_icmp_ge 120 31 dX2_share_28 rfl (by decide) (fun h28 => ?_) (fun h28 => ?_)
      · refine g_iconst 121 0 dX2_share_120 rfl (by decide) ?_
        exact g_rz dX2_share_121 rfl (by first | exact Or.inl rfl | exact Or.inr rfl | assumption) rfl ⟨rfl, hf, h66, rfl, h68⟩
      · exact (h28 (nI_le (by
      rcases Nat.lt_or_ge used s with q1 | q1
      · exact absurd (nI_lt q1 (by omega)) h22
      · omega) (by omega))).elim
  | succ n ih =>
    intro s hs μ hf h66 h68
    have hsu : s ≤ used := by omega
    have hsm : s < most := by omega
    have hKFm := q_KF.of hKF hf
    refine g_iload 21 dX2_share_19 rfl rfl ?_
    refine g_iload_n 22 dX2_share_21 rfl rfl ?_
    refine g_icmp_gt 120 25 dX2_share_22 rfl (by decide) (fun h22 => ?_) (fun h22 => ?_)
    · exact absurd h22 (nI_nlt (by omega) (by omega))
    · refine g_iload 27 dX2_share_25 rfl rfl ?_
      refine g_iload_n 28 dX2_share_27 rfl rfl ?_
      refine g_icmp_ge 120 31 dX2_share_28 rfl (by decide) (fun h28 => ?_) (fun h28 => ?_)
      · exact absurd h28 (nI_ge (by omega) (by omega))
      · refine g_iload 33 dX2_share_31 rfl rfl ?_
        refine g_bipush 35 7 dX2_share_33 rfl (by decide) ?_
        refine g_icmp_ge 120 38 dX2_share_35 rfl (by decide) (fun h35 => ?_) (fun h35 => ?_)
        · exact absurd h35 (nI_ge (a := s) (b := 7) (by omega) (by omega))
        · refine g_aload_n 39 dX2_share_38 rfl rfl ?_
          refine g_getR 42 _ dX2_share_39 rfl f_X2_24 (by decide) rfl rfl rfl ?_
          refine g_iload 44 dX2_share_42 rfl rfl ?_
          refine g_iald 45 dX2_share_44 rfl (by decide) rfl (vp_in_nI (show s < 7 by omega) (by omega)) ?_
          rw [nI_clamp (show s < 2 ^ 31 by omega)]
          refine g_istore 47 dX2_share_45 rfl (by decide) ?_
          refine g_iload 49 dX2_share_47 rfl rfl ?_
          refine g_iload_n 50 dX2_share_49 rfl rfl ?_
          refine g_icmp_eq 63 53 dX2_share_50 rfl (by decide) (fun h50 => ?_) (fun h50 => ?_)
          · refine g_aload_n 64 dX2_share_63 rfl rfl ?_
            refine g_getR 67 _ dX2_share_64 rfl f_X2_18 (by decide) rfl rfl rfl ?_
            refine g_iload_n 68 dX2_share_67 rfl rfl ?_
            refine g_iload 70 dX2_share_68 rfl rfl ?_
            refine g_iast 71 dX2_share_70 rfl (by decide) rfl (vp_in_nI (show c < 8 by omega) (by omega)) ?_
            rw [nI_clamp (show c < 2 ^ 31 by omega)]
            refine g_aload_n 72 dX2_share_71 rfl rfl ?_
            refine g_getR 75 _ dX2_share_72 rfl f_X2_24 (by decide) rfl rfl rfl ?_
            refine g_iload 77 dX2_share_75 rfl rfl ?_
            refine g_iload_n 78 dX2_share_77 rfl rfl ?_
            refine g_iast 79 dX2_share_78 rfl (by decide) rfl (vp_in_nI (show s < 7 by omega) (by omega)) ?_
            rw [nI_clamp (show s < 2 ^ 31 by omega)]
            refine g_aload_n 80 dX2_share_79 rfl rfl ?_
            refine g_iload_n 81 dX2_share_80 rfl rfl ?_
            refine g_iconst 82 1 dX2_share_81 rfl (by decide) ?_
            refine g_iadd 83 dX2_share_82 rfl ?_
            refine g_iload 85 dX2_share_83 rfl rfl ?_
            refine g_iload_n 86 dX2_share_85 rfl rfl ?_
            refine g_icmp_ne 95 89 dX2_share_86 rfl (by decide) (fun h86 => ?_) (fun h86 => ?_)
            · exact absurd h50 h86
            · refine g_iload_n 90 dX2_share_89 rfl rfl ?_
              refine g_iconst 91 1 dX2_share_90 rfl (by decide) ?_
              refine g_iadd 92 dX2_share_91 rfl ?_
              refine g_goto 96 dX2_share_92 (by decide) ?_
              refine g_iload_n 97 dX2_share_96 rfl rfl ?_
              have hse : s = used := by
                rcases Nat.lt_or_ge s used with q | q
                · exact absurd h50 (fun z => absurd ((nI_eq (by omega) (by omega)).mp z) (by omega))
                · omega
              have hsw : ∀ cc j, cc ≠ 66 → cc ≠ 68 → (q_up (q_up μ 66 c (nI s)) 68 s (nI c)) cc j = μ cc j := fun cc j g1 g2 => by rw [q_upc g2, q_upc g1]
              have hl2 : ∀ t, t < used + 1 → (q_up (q_up μ 66 c (nI s)) 68 s (nI c)) 68 t = nI (q_la la s c t) ∧ q_la la s c t ≤ c := by
                intro t ht
                unfold q_la
                by_cases q : t = s
                · rw [if_pos q, q, q_ups]
                  exact ⟨rfl, Nat.le_refl _⟩
                · rw [if_neg q, q_upo (fun z => q z.2), q_upc (by decide), h68]
                  have ht2 : t < used := by omega
                  exact ⟨(hla t ht2).1, Nat.le_of_lt (hla t ht2).2⟩
              simp only [nI_1]
              refine g_Vi 100 [_, _, _] _ dX2_share_97 rfl m_X2_share l_X2_58 rfl rfl rfl (by decide) (hrec (used + 1) (q_la la s c) _ (by omega) (q_KF.of hKFm hsw) hl2) rfl (Nat.le_of_ble_eq_true rfl) (by omega) (fun v97 μ97 ρ97 hc9 => ?_)
              obtain ⟨rfl, hsp⟩ := hc9
              refine g_if_eq 105 103 dX2_share_100 rfl (by decide) (fun h100 => ?_) (fun h100 => ?_)
              · refine g_aload_n 106 dX2_share_105 rfl rfl ?_
                refine g_getR 109 _ dX2_share_106 rfl f_X2_24 (by decide) rfl rfl rfl ?_
                refine g_iload 111 dX2_share_109 rfl rfl ?_
                refine g_iload 113 dX2_share_111 rfl rfl ?_
                refine g_iast 114 dX2_share_113 rfl (by decide) rfl (vp_in_nI (show s < 7 by omega) (by omega)) ?_
                rw [nI_clamp (show s < 2 ^ 31 by omega)]
                refine g_iinc 117 (_ + 1) dX2_share_114 rfl rfl rfl (by decide) ?_
                refine g_goto 19 dX2_share_117 (by decide) ?_
                rw [nI_1]
                obtain ⟨n1, n2⟩ := q_shP_none hsp h100
                obtain ⟨f1, f2, f3⟩ := hsp
                refine g_lv [(0, _), (1, _), (2, _), (3, _), (4, _)] rfl ?_
                have h9 := ih (s + 1) (by omega) (q_up μ97 68 s (μ 68 s)) (fun cc j g1 g2 => ?_) (fun x hx => ?_) (fun t => ?_)
                · have et : q_tr1 (q_cn op cl km pc) most f c used la s = none := by
                    unfold q_tr1
                    rw [if_pos (Or.inl hse), if_pos hse, n1]
                    rfl
                  rw [q_ft, et]
                  exact h9
                · rw [q_upc g2, f1 cc j g1 g2, hsw cc j g1 g2]; exact hf cc j g1 g2
                · rw [q_upc (by decide), f2 x (by omega), q_upc (by decide), q_upo (by omega)]; exact h66 x hx
                · by_cases q : t = s
                  · rw [q, q_ups, h68]
                  · rw [q_upo (fun z => q z.2), n2, q_upo (fun z => q z.2), q_upc (by decide), h68]
              · refine g_iconst 104 1 dX2_share_103 rfl (by decide) ?_
                exact g_rz dX2_share_104 rfl (by first | exact Or.inl rfl | exact Or.inr rfl | assumption) rfl (by
      obtain ⟨g, e1, e2, e3⟩ := q_shP_some hsp h100
      obtain ⟨f1, f2, f3⟩ := hsp
      refine ⟨rfl, fun cc j g1 g2 => ?_, fun x hx => ?_, ?_⟩
      · rw [f1 cc j g1 g2, hsw cc j g1 g2]; exact hf cc j g1 g2
      · rw [f2 x (by omega), q_upc (by decide), q_upo (by omega)]; exact h66 x hx
      · have et : q_tr1 (q_cn op cl km pc) most f c used la s = some (fun x => if x = c then s else g x) := by
          unfold q_tr1
          rw [if_pos (Or.inl hse), if_pos hse, e1]
          rfl
        have ef : q_ft (q_tr1 (q_cn op cl km pc) most f c used la) (n + 1) s = some (fun x => if x = c then s else g x) := by
          rw [q_ft, et]
        rw [ef]
        refine ⟨rfl, fun x hx1 hx2 => ?_⟩
        dsimp only
        by_cases q : x = c
        · rw [if_pos q, q, f2 c (by omega), q_upc (by decide), q_ups]
        · rw [if_neg q]; exact e3 x (by omega) hx2)
          · refine g_aload_n 54 dX2_share_53 rfl rfl ?_
            refine g_iload_n 55 dX2_share_54 rfl rfl ?_
            refine g_iload 57 dX2_share_55 rfl rfl ?_
            have hsu2 : s < used := by
              have hne : s ≠ used := fun q => h50 (by rw [q])
              omega
            rw [show μ 68 s = nI (la s) from by rw [h68]; exact (hla s hsu2).1]
            refine g_Vi 60 [_, _] _ dX2_share_57 rfl m_X2_canDo l_X2_62 rfl rfl rfl (by decide) (c_canDo (c := c) (a := la s) (by omega) (by have := (hla s hsu2).2; omega)) rfl (Nat.le_of_ble_eq_true rfl) (by omega) (fun v57 μ57 ρ57 hc9 => ?_)
            obtain ⟨rfl, rfl, rfl⟩ := hc9
            rw [hKFm.2.2.1, hKFm.2.2.2.1, hKFm.2.2.2.2, hKFm.2.1]
            refine g_if_eq 114 63 dX2_share_60 rfl (by decide) (fun h60 => ?_) (fun h60 => ?_)
            · refine g_iinc 117 (_ + 1) dX2_share_114 rfl rfl rfl (by decide) ?_
              refine g_goto 19 dX2_share_117 (by decide) ?_
              rw [nI_1]
              refine g_lv [(0, _), (1, _), (2, _), (3, _), (4, _)] rfl ?_
              have h9 := ih (s + 1) (by omega) μ hf h66 h68
              have et : q_tr1 (q_cn op cl km pc) most f c used la s = none := by
                unfold q_tr1
                rw [if_neg (fun z => z.elim (fun z1 => by omega) (q_b_0.mp h60))]
              rw [q_ft, et]
              exact h9
            · refine g_aload_n 64 dX2_share_63 rfl rfl ?_
              refine g_getR 67 _ dX2_share_64 rfl f_X2_18 (by decide) rfl rfl rfl ?_
              refine g_iload_n 68 dX2_share_67 rfl rfl ?_
              refine g_iload 70 dX2_share_68 rfl rfl ?_
              refine g_iast 71 dX2_share_70 rfl (by decide) rfl (vp_in_nI (show c < 8 by omega) (by omega)) ?_
              rw [nI_clamp (show c < 2 ^ 31 by omega)]
              refine g_aload_n 72 dX2_share_71 rfl rfl ?_
              refine g_getR 75 _ dX2_share_72 rfl f_X2_24 (by decide) rfl rfl rfl ?_
              refine g_iload 77 dX2_share_75 rfl rfl ?_
              refine g_iload_n 78 dX2_share_77 rfl rfl ?_
              refine g_iast 79 dX2_share_78 rfl (by decide) rfl (vp_in_nI (show s < 7 by omega) (by omega)) ?_
              rw [nI_clamp (show s < 2 ^ 31 by omega)]
              refine g_aload_n 80 dX2_share_79 rfl rfl ?_
              refine g_iload_n 81 dX2_share_80 rfl rfl ?_
              refine g_iconst 82 1 dX2_share_81 rfl (by decide) ?_
              refine g_iadd 83 dX2_share_82 rfl ?_
              refine g_iload 85 dX2_share_83 rfl rfl ?_
              refine g_iload_n 86 dX2_share_85 rfl rfl ?_
              refine g_icmp_ne 95 89 dX2_share_86 rfl (by decide) (fun h86 => ?_) (fun h86 => ?_)
              · refine g_iload_n 96 dX2_share_95 rfl rfl ?_
                refine g_iload_n 97 dX2_share_96 rfl rfl ?_
                have hsw : ∀ cc j, cc ≠ 66 → cc ≠ 68 → (q_up (q_up μ 66 c (nI s)) 68 s (nI c)) cc j = μ cc j := fun cc j g1 g2 => by rw [q_upc g2, q_upc g1]
                have hl2 : ∀ t, t < used → (q_up (q_up μ 66 c (nI s)) 68 s (nI c)) 68 t = nI (q_la la s c t) ∧ q_la la s c t ≤ c := by
                  intro t ht
                  unfold q_la
                  by_cases q : t = s
                  · rw [if_pos q, q, q_ups]
                    exact ⟨rfl, Nat.le_refl _⟩
                  · rw [if_neg q, q_upo (fun z => q z.2), q_upc (by decide), h68]
                    have ht2 : t < used := by omega
                    exact ⟨(hla t ht2).1, Nat.le_of_lt (hla t ht2).2⟩
                rw [nI_1]
                refine g_Vi 100 [_, _, _] _ dX2_share_97 rfl m_X2_share l_X2_58 rfl rfl rfl (by decide) (hrec used (q_la la s c) _ (by omega) (q_KF.of hKFm hsw) hl2) rfl (Nat.le_of_ble_eq_true rfl) (by omega) (fun v97 μ97 ρ97 hc9 => ?_)
                obtain ⟨rfl, hsp⟩ := hc9
                refine g_if_eq 105 103 dX2_share_100 rfl (by decide) (fun h100 => ?_) (fun h100 => ?_)
                · refine g_aload_n 106 dX2_share_105 rfl rfl ?_
                  refine g_getR 109 _ dX2_share_106 rfl f_X2_24 (by decide) rfl rfl rfl ?_
                  refine g_iload 111 dX2_share_109 rfl rfl ?_
                  refine g_iload 113 dX2_share_111 rfl rfl ?_
                  refine g_iast 114 dX2_share_113 rfl (by decide) rfl (vp_in_nI (show s < 7 by omega) (by omega)) ?_
                  rw [nI_clamp (show s < 2 ^ 31 by omega)]
                  refine g_iinc 117 (_ + 1) dX2_share_114 rfl rfl rfl (by decide) ?_
                  refine g_goto 19 dX2_share_117 (by decide) ?_
                  rw [nI_1]
                  obtain ⟨n1, n2⟩ := q_shP_none hsp h100
                  obtain ⟨f1, f2, f3⟩ := hsp
                  refine g_lv [(0, _), (1, _), (2, _), (3, _), (4, _)] rfl ?_
                  have h9 := ih (s + 1) (by omega) (q_up μ97 68 s (nI (la s))) (fun cc j g1 g2 => ?_) (fun x hx => ?_) (fun t => ?_)
                  · have et : q_tr1 (q_cn op cl km pc) most f c used la s = none := by
                      unfold q_tr1
                      rw [if_pos (Or.inr (q_b_n.mp h60)), if_neg (by omega), n1]
                      rfl
                    rw [q_ft, et]
                    exact h9
                  · rw [q_upc g2, f1 cc j g1 g2, hsw cc j g1 g2]; exact hf cc j g1 g2
                  · rw [q_upc (by decide), f2 x (by omega), q_upc (by decide), q_upo (by omega)]; exact h66 x hx
                  · by_cases q : t = s
                    · rw [q, q_ups, (hla s hsu2).1]
                    · rw [q_upo (fun z => q z.2), n2, q_upo (fun z => q z.2), q_upc (by decide), h68]
                · refine g_iconst 104 1 dX2_share_103 rfl (by decide) ?_
                  exact g_rz dX2_share_104 rfl (by first | exact Or.inl rfl | exact Or.inr rfl | assumption) rfl (by
      obtain ⟨g, e1, e2, e3⟩ := q_shP_some hsp h100
      obtain ⟨f1, f2, f3⟩ := hsp
      refine ⟨rfl, fun cc j g1 g2 => ?_, fun x hx => ?_, ?_⟩
      · rw [f1 cc j g1 g2, hsw cc j g1 g2]; exact hf cc j g1 g2
      · rw [f2 x (by omega), q_upc (by decide), q_upo (by omega)]; exact h66 x hx
      · have et : q_tr1 (q_cn op cl km pc) most f c used la s = some (fun x => if x = c then s else g x) := by
          unfold q_tr1
          rw [if_pos (Or.inr (q_b_n.mp h60)), if_neg (by omega), e1]
          rfl
        have ef : q_ft (q_tr1 (q_cn op cl km pc) most f c used la) (n + 1) s = some (fun x => if x = c then s else g x) := by
          rw [q_ft, et]
        rw [ef]
        refine ⟨rfl, fun x hx1 hx2 => ?_⟩
        dsimp only
        by_cases q : x = c
        · rw [if_pos q, q, f2 c (by omega), q_upc (by decide), q_ups]
        · rw [if_neg q]; exact e3 x (by omega) hx2)
              · exact absurd h86 h50
end KT
end
