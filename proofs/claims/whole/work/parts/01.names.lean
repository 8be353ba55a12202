-- ===== PART A: goes FIRST, ahead of the names: the tables' words, and 'selects' of the private methods out of them =====
/-- a private method of a class that the tables say can be made, by its rows of tables_1 -/
def lw_okq (q : MethodName × Nat) : Prop := (q.1.cls ≠ "java/lang/invoke/MethodHandle" ∧ q.1.cls ≠ "java/lang/invoke/VarHandle") ∧ Cond.instantiable q.1.cls q.2 ∈ tables_1 ∧ Cond.privateMethod q.1 ∈ tables_1 ∧ Cond.instanceMethod q.1 ∈ tables_1
theorem lw_p0 : lw_okq (⟨"DesertTown$BookReader", "faultOf", "(LDesertTown$Tape;IIILDesertTown$RoadBook;)I"⟩, 6) := ⟨⟨by decide +kernel, by decide +kernel⟩, List.mem_of_getElem? (i := 83) (by decide +kernel), List.mem_of_getElem? (i := 339) (by decide +kernel), List.mem_of_getElem? (i := 340) (by decide +kernel)⟩
theorem lw_p1 : lw_okq (⟨"DesertTown$BookReader", "faultOfNumber", "(IILDesertTown$RoadBook;)I"⟩, 6) := ⟨⟨by decide +kernel, by decide +kernel⟩, List.mem_of_getElem? (i := 83) (by decide +kernel), List.mem_of_getElem? (i := 413) (by decide +kernel), List.mem_of_getElem? (i := 414) (by decide +kernel)⟩
theorem lw_p2 : lw_okq (⟨"DesertTown", "settle", "()V"⟩, 10) := ⟨⟨by decide +kernel, by decide +kernel⟩, List.mem_of_getElem? (i := 17) (by decide +kernel), List.mem_of_getElem? (i := 440) (by decide +kernel), List.mem_of_getElem? (i := 441) (by decide +kernel)⟩
theorem lw_p3 : lw_okq (⟨"DesertTown$Race", "forget", "(I)V"⟩, 9) := ⟨⟨by decide +kernel, by decide +kernel⟩, List.mem_of_getElem? (i := 110) (by decide +kernel), List.mem_of_getElem? (i := 448) (by decide +kernel), List.mem_of_getElem? (i := 449) (by decide +kernel)⟩
theorem lw_p4 : lw_okq (⟨"DesertTown$Race", "runStage", "(ILDesertTown$Racers;)V"⟩, 9) := ⟨⟨by decide +kernel, by decide +kernel⟩, List.mem_of_getElem? (i := 110) (by decide +kernel), List.mem_of_getElem? (i := 467) (by decide +kernel), List.mem_of_getElem? (i := 468) (by decide +kernel)⟩
theorem lw_p5 : lw_okq (⟨"DesertTown$Race", "rank", "(II)V"⟩, 9) := ⟨⟨by decide +kernel, by decide +kernel⟩, List.mem_of_getElem? (i := 110) (by decide +kernel), List.mem_of_getElem? (i := 471) (by decide +kernel), List.mem_of_getElem? (i := 472) (by decide +kernel)⟩
theorem lw_p6 : lw_okq (⟨"DesertTown$Race", "isAhead", "(III)Z"⟩, 9) := ⟨⟨by decide +kernel, by decide +kernel⟩, List.mem_of_getElem? (i := 110) (by decide +kernel), List.mem_of_getElem? (i := 475) (by decide +kernel), List.mem_of_getElem? (i := 476) (by decide +kernel)⟩
theorem lw_p7 : lw_okq (⟨"DesertTown$Race", "tellPlaces", "(I)V"⟩, 9) := ⟨⟨by decide +kernel, by decide +kernel⟩, List.mem_of_getElem? (i := 110) (by decide +kernel), List.mem_of_getElem? (i := 479) (by decide +kernel), List.mem_of_getElem? (i := 480) (by decide +kernel)⟩
theorem lw_p8 : lw_okq (⟨"DesertTown$Kitchens", "fewestSets", "()I"⟩, 8) := ⟨⟨by decide +kernel, by decide +kernel⟩, List.mem_of_getElem? (i := 154) (by decide +kernel), List.mem_of_getElem? (i := 500) (by decide +kernel), List.mem_of_getElem? (i := 501) (by decide +kernel)⟩
theorem lw_p9 : lw_okq (⟨"DesertTown$Kitchens", "share", "(III)Z"⟩, 8) := ⟨⟨by decide +kernel, by decide +kernel⟩, List.mem_of_getElem? (i := 154) (by decide +kernel), List.mem_of_getElem? (i := 504) (by decide +kernel), List.mem_of_getElem? (i := 505) (by decide +kernel)⟩
theorem lw_p10 : lw_okq (⟨"DesertTown$Kitchens", "canDo", "(II)Z"⟩, 8) := ⟨⟨by decide +kernel, by decide +kernel⟩, List.mem_of_getElem? (i := 154) (by decide +kernel), List.mem_of_getElem? (i := 508) (by decide +kernel), List.mem_of_getElem? (i := 509) (by decide +kernel)⟩
theorem lw_p11 : lw_okq (⟨"DesertTown", "sweepersCome", "(II)I"⟩, 10) := ⟨⟨by decide +kernel, by decide +kernel⟩, List.mem_of_getElem? (i := 17) (by decide +kernel), List.mem_of_getElem? (i := 561) (by decide +kernel), List.mem_of_getElem? (i := 562) (by decide +kernel)⟩
theorem lw_p12 : lw_okq (⟨"DesertTownModel", "isRacer", "(I)Z"⟩, 30) := ⟨⟨by decide +kernel, by decide +kernel⟩, List.mem_of_getElem? (i := 570) (by decide +kernel), List.mem_of_getElem? (i := 692) (by decide +kernel), List.mem_of_getElem? (i := 693) (by decide +kernel)⟩
theorem lw_p13 : lw_okq (⟨"DesertTownModel", "length", "(I)I"⟩, 30) := ⟨⟨by decide +kernel, by decide +kernel⟩, List.mem_of_getElem? (i := 570) (by decide +kernel), List.mem_of_getElem? (i := 696) (by decide +kernel), List.mem_of_getElem? (i := 697) (by decide +kernel)⟩
theorem lw_p14 : lw_okq (⟨"DesertTownModel", "next0", "()V"⟩, 30) := ⟨⟨by decide +kernel, by decide +kernel⟩, List.mem_of_getElem? (i := 570) (by decide +kernel), List.mem_of_getElem? (i := 716) (by decide +kernel), List.mem_of_getElem? (i := 717) (by decide +kernel)⟩
theorem lw_p15 : lw_okq (⟨"DesertTownModel", "see", "(I)I"⟩, 30) := ⟨⟨by decide +kernel, by decide +kernel⟩, List.mem_of_getElem? (i := 570) (by decide +kernel), List.mem_of_getElem? (i := 720) (by decide +kernel), List.mem_of_getElem? (i := 721) (by decide +kernel)⟩
def lw_privs_1 : List (MethodName × Nat) := [(⟨"DesertTown$BookReader", "faultOf", "(LDesertTown$Tape;IIILDesertTown$RoadBook;)I"⟩, 6), (⟨"DesertTown$BookReader", "faultOfNumber", "(IILDesertTown$RoadBook;)I"⟩, 6), (⟨"DesertTown", "settle", "()V"⟩, 10), (⟨"DesertTown$Race", "forget", "(I)V"⟩, 9), (⟨"DesertTown$Race", "runStage", "(ILDesertTown$Racers;)V"⟩, 9), (⟨"DesertTown$Race", "rank", "(II)V"⟩, 9), (⟨"DesertTown$Race", "isAhead", "(III)Z"⟩, 9), (⟨"DesertTown$Race", "tellPlaces", "(I)V"⟩, 9), (⟨"DesertTown$Kitchens", "fewestSets", "()I"⟩, 8), (⟨"DesertTown$Kitchens", "share", "(III)Z"⟩, 8), (⟨"DesertTown$Kitchens", "canDo", "(II)Z"⟩, 8), (⟨"DesertTown", "sweepersCome", "(II)I"⟩, 10), (⟨"DesertTownModel", "isRacer", "(I)Z"⟩, 30), (⟨"DesertTownModel", "length", "(I)I"⟩, 30), (⟨"DesertTownModel", "next0", "()V"⟩, 30), (⟨"DesertTownModel", "see", "(I)I"⟩, 30)]
theorem lw_r1 : ∀ q ∈ lw_privs_1, lw_okq q := List.forall_mem_cons.mpr ⟨lw_p0, List.forall_mem_cons.mpr ⟨lw_p1, List.forall_mem_cons.mpr ⟨lw_p2, List.forall_mem_cons.mpr ⟨lw_p3, List.forall_mem_cons.mpr ⟨lw_p4, List.forall_mem_cons.mpr ⟨lw_p5, List.forall_mem_cons.mpr ⟨lw_p6, List.forall_mem_cons.mpr ⟨lw_p7, List.forall_mem_cons.mpr ⟨lw_p8, List.forall_mem_cons.mpr ⟨lw_p9, List.forall_mem_cons.mpr ⟨lw_p10, List.forall_mem_cons.mpr ⟨lw_p11, List.forall_mem_cons.mpr ⟨lw_p12, List.forall_mem_cons.mpr ⟨lw_p13, List.forall_mem_cons.mpr ⟨lw_p14, List.forall_mem_cons.mpr ⟨lw_p15, fun _ h => absurd h List.not_mem_nil⟩⟩⟩⟩⟩⟩⟩⟩⟩⟩⟩⟩⟩⟩⟩⟩
theorem lw_p16 : lw_okq (⟨"DesertTownModel", "aZone", "()Z"⟩, 30) := ⟨⟨by decide +kernel, by decide +kernel⟩, List.mem_of_getElem? (i := 570) (by decide +kernel), List.mem_of_getElem? (i := 737) (by decide +kernel), List.mem_of_getElem? (i := 738) (by decide +kernel)⟩
theorem lw_p17 : lw_okq (⟨"DesertTownModel", "need", "(I)Z"⟩, 30) := ⟨⟨by decide +kernel, by decide +kernel⟩, List.mem_of_getElem? (i := 570) (by decide +kernel), List.mem_of_getElem? (i := 741) (by decide +kernel), List.mem_of_getElem? (i := 742) (by decide +kernel)⟩
theorem lw_p18 : lw_okq (⟨"DesertTownModel", "bad", "(I)Z"⟩, 30) := ⟨⟨by decide +kernel, by decide +kernel⟩, List.mem_of_getElem? (i := 570) (by decide +kernel), List.mem_of_getElem? (i := 745) (by decide +kernel), List.mem_of_getElem? (i := 746) (by decide +kernel)⟩
theorem lw_p19 : lw_okq (⟨"DesertTownModel", "aNumber", "(II)Z"⟩, 30) := ⟨⟨by decide +kernel, by decide +kernel⟩, List.mem_of_getElem? (i := 570) (by decide +kernel), List.mem_of_getElem? (i := 749) (by decide +kernel), List.mem_of_getElem? (i := 750) (by decide +kernel)⟩
theorem lw_p20 : lw_okq (⟨"DesertTownModel", "all", "()I"⟩, 30) := ⟨⟨by decide +kernel, by decide +kernel⟩, List.mem_of_getElem? (i := 570) (by decide +kernel), List.mem_of_getElem? (i := 753) (by decide +kernel), List.mem_of_getElem? (i := 754) (by decide +kernel)⟩
theorem lw_p21 : lw_okq (⟨"DesertTownModel", "timeOf", "(II)I"⟩, 30) := ⟨⟨by decide +kernel, by decide +kernel⟩, List.mem_of_getElem? (i := 570) (by decide +kernel), List.mem_of_getElem? (i := 769) (by decide +kernel), List.mem_of_getElem? (i := 770) (by decide +kernel)⟩
theorem lw_p22 : lw_okq (⟨"DesertTownModel", "runs", "()V"⟩, 30) := ⟨⟨by decide +kernel, by decide +kernel⟩, List.mem_of_getElem? (i := 570) (by decide +kernel), List.mem_of_getElem? (i := 781) (by decide +kernel), List.mem_of_getElem? (i := 782) (by decide +kernel)⟩
theorem lw_p23 : lw_okq (⟨"DesertTownModel", "comes", "(II)V"⟩, 30) := ⟨⟨by decide +kernel, by decide +kernel⟩, List.mem_of_getElem? (i := 570) (by decide +kernel), List.mem_of_getElem? (i := 785) (by decide +kernel), List.mem_of_getElem? (i := 786) (by decide +kernel)⟩
theorem lw_p24 : lw_okq (⟨"DesertTownModel", "isAhead", "(III)Z"⟩, 30) := ⟨⟨by decide +kernel, by decide +kernel⟩, List.mem_of_getElem? (i := 570) (by decide +kernel), List.mem_of_getElem? (i := 789) (by decide +kernel), List.mem_of_getElem? (i := 790) (by decide +kernel)⟩
theorem lw_p25 : lw_okq (⟨"DesertTownModel", "finds", "()I"⟩, 30) := ⟨⟨by decide +kernel, by decide +kernel⟩, List.mem_of_getElem? (i := 570) (by decide +kernel), List.mem_of_getElem? (i := 801) (by decide +kernel), List.mem_of_getElem? (i := 802) (by decide +kernel)⟩
theorem lw_p26 : lw_okq (⟨"DesertTownModel", "kitchens", "()V"⟩, 30) := ⟨⟨by decide +kernel, by decide +kernel⟩, List.mem_of_getElem? (i := 570) (by decide +kernel), List.mem_of_getElem? (i := 805) (by decide +kernel), List.mem_of_getElem? (i := 806) (by decide +kernel)⟩
theorem lw_p27 : lw_okq (⟨"DesertTownModel", "tries", "(II)Z"⟩, 30) := ⟨⟨by decide +kernel, by decide +kernel⟩, List.mem_of_getElem? (i := 570) (by decide +kernel), List.mem_of_getElem? (i := 809) (by decide +kernel), List.mem_of_getElem? (i := 810) (by decide +kernel)⟩
theorem lw_p28 : lw_okq (⟨"DesertTownModel", "isNeeded", "(I)Z"⟩, 30) := ⟨⟨by decide +kernel, by decide +kernel⟩, List.mem_of_getElem? (i := 570) (by decide +kernel), List.mem_of_getElem? (i := 813) (by decide +kernel), List.mem_of_getElem? (i := 814) (by decide +kernel)⟩
theorem lw_p29 : lw_okq (⟨"DesertTownModel", "canDo", "(II)Z"⟩, 30) := ⟨⟨by decide +kernel, by decide +kernel⟩, List.mem_of_getElem? (i := 570) (by decide +kernel), List.mem_of_getElem? (i := 817) (by decide +kernel), List.mem_of_getElem? (i := 818) (by decide +kernel)⟩
theorem lw_p30 : lw_okq (⟨"DesertTownModel", "lastOf", "(II)I"⟩, 30) := ⟨⟨by decide +kernel, by decide +kernel⟩, List.mem_of_getElem? (i := 570) (by decide +kernel), List.mem_of_getElem? (i := 821) (by decide +kernel), List.mem_of_getElem? (i := 822) (by decide +kernel)⟩
theorem lw_p31 : lw_okq (⟨"DesertTownModel", "between", "(II)I"⟩, 30) := ⟨⟨by decide +kernel, by decide +kernel⟩, List.mem_of_getElem? (i := 570) (by decide +kernel), List.mem_of_getElem? (i := 825) (by decide +kernel), List.mem_of_getElem? (i := 826) (by decide +kernel)⟩
def lw_privs_2 : List (MethodName × Nat) := [(⟨"DesertTownModel", "aZone", "()Z"⟩, 30), (⟨"DesertTownModel", "need", "(I)Z"⟩, 30), (⟨"DesertTownModel", "bad", "(I)Z"⟩, 30), (⟨"DesertTownModel", "aNumber", "(II)Z"⟩, 30), (⟨"DesertTownModel", "all", "()I"⟩, 30), (⟨"DesertTownModel", "timeOf", "(II)I"⟩, 30), (⟨"DesertTownModel", "runs", "()V"⟩, 30), (⟨"DesertTownModel", "comes", "(II)V"⟩, 30), (⟨"DesertTownModel", "isAhead", "(III)Z"⟩, 30), (⟨"DesertTownModel", "finds", "()I"⟩, 30), (⟨"DesertTownModel", "kitchens", "()V"⟩, 30), (⟨"DesertTownModel", "tries", "(II)Z"⟩, 30), (⟨"DesertTownModel", "isNeeded", "(I)Z"⟩, 30), (⟨"DesertTownModel", "canDo", "(II)Z"⟩, 30), (⟨"DesertTownModel", "lastOf", "(II)I"⟩, 30), (⟨"DesertTownModel", "between", "(II)I"⟩, 30)]
theorem lw_r2 : ∀ q ∈ lw_privs_2, lw_okq q := List.forall_mem_cons.mpr ⟨lw_p16, List.forall_mem_cons.mpr ⟨lw_p17, List.forall_mem_cons.mpr ⟨lw_p18, List.forall_mem_cons.mpr ⟨lw_p19, List.forall_mem_cons.mpr ⟨lw_p20, List.forall_mem_cons.mpr ⟨lw_p21, List.forall_mem_cons.mpr ⟨lw_p22, List.forall_mem_cons.mpr ⟨lw_p23, List.forall_mem_cons.mpr ⟨lw_p24, List.forall_mem_cons.mpr ⟨lw_p25, List.forall_mem_cons.mpr ⟨lw_p26, List.forall_mem_cons.mpr ⟨lw_p27, List.forall_mem_cons.mpr ⟨lw_p28, List.forall_mem_cons.mpr ⟨lw_p29, List.forall_mem_cons.mpr ⟨lw_p30, List.forall_mem_cons.mpr ⟨lw_p31, fun _ h => absurd h List.not_mem_nil⟩⟩⟩⟩⟩⟩⟩⟩⟩⟩⟩⟩⟩⟩⟩⟩
def lw_privs : List (MethodName × Nat) := lw_privs_1 ++ (lw_privs_2)
def lw_tbl : List Cond := k2_sels lw_privs ++ tables_1
theorem lw_privs_ok : ∀ q ∈ lw_privs, lw_okq q := by
  show ∀ q ∈ lw_privs_1 ++ (lw_privs_2), lw_okq q
  exact List.forall_mem_append.mpr ⟨lw_r1, lw_r2⟩
def RX0 : String := "DesertTown$BookReader"
def TX0 : u_T := fun k => match k with
  | 0 => ("DesertTown$BookReader", "kind", "I", false)
  | 1 => ("DesertTown$BookReader", "place", "I", false)
  | 2 => ("DesertTown$BookReader", "stage", "I", false)
  | 3 => ("DesertTown$BookReader", "from", "I", false)
  | 4 => ("DesertTown$BookReader", "to", "I", false)
  | _ => ("DesertTown$BookReader", "speed", "I", false)
def tyX0 : Nat → FieldType := fun k => match k with
  | 0 => .int
  | 1 => .int
  | 2 => .int
  | 3 => .int
  | 4 => .int
  | _ => .int
abbrev wsX00 : List Cond := u_ws RX0 TX0 6
theorem nmX0 : ∀ a, a < 6 → ∀ b, b < 6 → a ≠ b → (TX0 a).2.1 ≠ (TX0 b).2.1 := by decide +kernel
theorem tyX0_ok : ∀ k, k < 6 → parseFieldDescriptor (TX0 k).2.2.1 = some (tyX0 k) := by decide +kernel
abbrev cX0_init : ByteArray := prog_2_method_1_code
def yX0_init : MethodName := ⟨RX0, "<init>", "()V"⟩
abbrev cX0_read : ByteArray := prog_2_method_2_code
def yX0_read : MethodName := ⟨RX0, "read", "(LDesertTown$Tape;LDesertTown$RoadBook;)Z"⟩
abbrev cX0_faultOf : ByteArray := prog_2_method_3_code
def yX0_faultOf : MethodName := ⟨RX0, "faultOf", "(LDesertTown$Tape;IIILDesertTown$RoadBook;)I"⟩
abbrev cX0_faultOfNumber : ByteArray := prog_2_method_4_code
def yX0_faultOfNumber : MethodName := ⟨RX0, "faultOfNumber", "(IILDesertTown$RoadBook;)I"⟩
abbrev cX0_keywordOf : ByteArray := prog_2_method_5_code
def yX0_keywordOf : MethodName := ⟨RX0, "keywordOf", "(I)Ljava/lang/String;"⟩
abbrev cX0_behindBlanks : ByteArray := prog_2_method_6_code
def yX0_behindBlanks : MethodName := ⟨RX0, "behindBlanks", "(LDesertTown$Tape;I)I"⟩
abbrev cX0_behindToken : ByteArray := prog_2_method_7_code
def yX0_behindToken : MethodName := ⟨RX0, "behindToken", "(LDesertTown$Tape;I)I"⟩
abbrev cX0_isWord : ByteArray := prog_2_method_8_code
def yX0_isWord : MethodName := ⟨RX0, "isWord", "(LDesertTown$Tape;IILjava/lang/String;)Z"⟩
abbrev cX0_numberOf : ByteArray := prog_2_method_9_code
def yX0_numberOf : MethodName := ⟨RX0, "numberOf", "(LDesertTown$Tape;II)I"⟩
abbrev cX0_isBlank : ByteArray := prog_2_method_10_code
def yX0_isBlank : MethodName := ⟨RX0, "isBlank", "(I)Z"⟩
abbrev cX0_isDigit : ByteArray := prog_2_method_11_code
def yX0_isDigit : MethodName := ⟨RX0, "isDigit", "(I)Z"⟩
abbrev cX0_isLetter : ByteArray := prog_2_method_12_code
def yX0_isLetter : MethodName := ⟨RX0, "isLetter", "(I)Z"⟩
def RX1 : String := "DesertTown$Course"
def TX1 : u_T := fun k => match k with
  | 0 => ("DesertTown$Course", "lengths", "[I", true)
  | _ => ("DesertTown$Course", "hours", "[I", true)
def tyX1 : Nat → FieldType := fun k => match k with
  | 0 => .array .int
  | _ => .array .int
abbrev wsX10 : List Cond := u_ws RX1 TX1 2
theorem nmX1 : ∀ a, a < 2 → ∀ b, b < 2 → a ≠ b → (TX1 a).2.1 ≠ (TX1 b).2.1 := by decide +kernel
theorem tyX1_ok : ∀ k, k < 2 → parseFieldDescriptor (TX1 k).2.2.1 = some (tyX1 k) := by decide +kernel
abbrev cX1_init : ByteArray := prog_3_method_1_code
def yX1_init : MethodName := ⟨RX1, "<init>", "()V"⟩
abbrev cX1_kilometerOf : ByteArray := prog_3_method_2_code
def yX1_kilometerOf : MethodName := ⟨RX1, "kilometerOf", "(I)I"⟩
abbrev cX1_begins : ByteArray := prog_3_method_3_code
def yX1_begins : MethodName := ⟨RX1, "begins", "(I)I"⟩
def RX2 : String := "DesertTown$Kitchens"
def TX2 : u_T := fun k => match k with
  | 0 => ("DesertTown$Kitchens", "opens", "[I", true)
  | 1 => ("DesertTown$Kitchens", "closes", "[I", true)
  | 2 => ("DesertTown$Kitchens", "setOf", "[I", true)
  | 3 => ("DesertTown$Kitchens", "fewest", "I", false)
  | 4 => ("DesertTown$Kitchens", "kilometers", "[I", true)
  | 5 => ("DesertTown$Kitchens", "latestCamp", "[I", true)
  | 6 => ("DesertTown$Kitchens", "needing", "I", false)
  | _ => ("DesertTown$Kitchens", "pace", "I", false)
def tyX2 : Nat → FieldType := fun k => match k with
  | 0 => .array .int
  | 1 => .array .int
  | 2 => .array .int
  | 3 => .int
  | 4 => .array .int
  | 5 => .array .int
  | 6 => .int
  | _ => .int
abbrev wsX20 : List Cond := u_ws RX2 TX2 8
theorem nmX2 : ∀ a, a < 8 → ∀ b, b < 8 → a ≠ b → (TX2 a).2.1 ≠ (TX2 b).2.1 := by decide +kernel
theorem tyX2_ok : ∀ k, k < 8 → parseFieldDescriptor (TX2 k).2.2.1 = some (tyX2 k) := by decide +kernel
abbrev cX2_init : ByteArray := prog_4_method_1_code
def yX2_init : MethodName := ⟨RX2, "<init>", "()V"⟩
abbrev cX2_plan : ByteArray := prog_4_method_2_code
def yX2_plan : MethodName := ⟨RX2, "plan", "(LDesertTown$Course;LDesertTown$Race;[I)V"⟩
abbrev cX2_fewestSets : ByteArray := prog_4_method_3_code
def yX2_fewestSets : MethodName := ⟨RX2, "fewestSets", "()I"⟩
abbrev cX2_firstCampOf : ByteArray := prog_4_method_4_code
def yX2_firstCampOf : MethodName := ⟨RX2, "firstCampOf", "(I)I"⟩
abbrev cX2_lastCampOf : ByteArray := prog_4_method_5_code
def yX2_lastCampOf : MethodName := ⟨RX2, "lastCampOf", "(I)I"⟩
abbrev cX2_share : ByteArray := prog_4_method_6_code
def yX2_share : MethodName := ⟨RX2, "share", "(III)Z"⟩
abbrev cX2_canDo : ByteArray := prog_4_method_7_code
def yX2_canDo : MethodName := ⟨RX2, "canDo", "(II)Z"⟩
def RX3 : String := "DesertTown$Race"
def TX3 : u_T := fun k => match k with
  | 0 => ("DesertTown$Race", "times", "[[I", true)
  | 1 => ("DesertTown$Race", "starts", "[[I", true)
  | 2 => ("DesertTown$Race", "arrivals", "[[I", true)
  | 3 => ("DesertTown$Race", "places", "[[I", true)
  | 4 => ("DesertTown$Race", "sums", "[[I", true)
  | 5 => ("DesertTown$Race", "orders", "[[I", true)
  | 6 => ("DesertTown$Race", "came", "[I", true)
  | 7 => ("DesertTown$Race", "started", "[I", true)
  | _ => ("DesertTown$Race", "begins", "[I", true)
def tyX3 : Nat → FieldType := fun k => match k with
  | 0 => .array (.array .int)
  | 1 => .array (.array .int)
  | 2 => .array (.array .int)
  | 3 => .array (.array .int)
  | 4 => .array (.array .int)
  | 5 => .array (.array .int)
  | 6 => .array .int
  | 7 => .array .int
  | _ => .array .int
abbrev wsX30 : List Cond := u_ws RX3 TX3 9
theorem nmX3 : ∀ a, a < 9 → ∀ b, b < 9 → a ≠ b → (TX3 a).2.1 ≠ (TX3 b).2.1 := by decide +kernel
theorem tyX3_ok : ∀ k, k < 9 → parseFieldDescriptor (TX3 k).2.2.1 = some (tyX3 k) := by decide +kernel
abbrev cX3_init : ByteArray := prog_5_method_1_code
def yX3_init : MethodName := ⟨RX3, "<init>", "()V"⟩
abbrev cX3_run : ByteArray := prog_5_method_2_code
def yX3_run : MethodName := ⟨RX3, "run", "(LDesertTown$Course;LDesertTown$Racers;LDesertTown$RoadBook;)V"⟩
abbrev cX3_lastStart : ByteArray := prog_5_method_3_code
def yX3_lastStart : MethodName := ⟨RX3, "lastStart", "(I)I"⟩
abbrev cX3_brokenDown : ByteArray := prog_5_method_4_code
def yX3_brokenDown : MethodName := ⟨RX3, "brokenDown", "(ILDesertTown$Racers;)I"⟩
abbrev cX3_firstArrival : ByteArray := prog_5_method_5_code
def yX3_firstArrival : MethodName := ⟨RX3, "firstArrival", "(I)I"⟩
abbrev cX3_lastArrival : ByteArray := prog_5_method_6_code
def yX3_lastArrival : MethodName := ⟨RX3, "lastArrival", "(I)I"⟩
abbrev cX3_forget : ByteArray := prog_5_method_7_code
def yX3_forget : MethodName := ⟨RX3, "forget", "(I)V"⟩
abbrev cX3_runStage : ByteArray := prog_5_method_8_code
def yX3_runStage : MethodName := ⟨RX3, "runStage", "(ILDesertTown$Racers;)V"⟩
abbrev cX3_rank : ByteArray := prog_5_method_9_code
def yX3_rank : MethodName := ⟨RX3, "rank", "(II)V"⟩
abbrev cX3_isAhead : ByteArray := prog_5_method_10_code
def yX3_isAhead : MethodName := ⟨RX3, "isAhead", "(III)Z"⟩
abbrev cX3_tellPlaces : ByteArray := prog_5_method_11_code
def yX3_tellPlaces : MethodName := ⟨RX3, "tellPlaces", "(I)V"⟩
abbrev cX3_timeFor : ByteArray := prog_5_method_12_code
def yX3_timeFor : MethodName := ⟨RX3, "timeFor", "(IILDesertTown$RoadBook;I)I"⟩
def RX4 : String := "DesertTown$Racers"
def TX4 : u_T := fun k => match k with
  | 0 => ("DesertTown$Racers", "speeds", "[I", true)
  | 1 => ("DesertTown$Racers", "breakStages", "[I", true)
  | 2 => ("DesertTown$Racers", "breakKilometers", "[I", true)
  | _ => ("DesertTown$Racers", "count", "I", false)
def tyX4 : Nat → FieldType := fun k => match k with
  | 0 => .array .int
  | 1 => .array .int
  | 2 => .array .int
  | _ => .int
abbrev wsX40 : List Cond := u_ws RX4 TX4 4
theorem nmX4 : ∀ a, a < 4 → ∀ b, b < 4 → a ≠ b → (TX4 a).2.1 ≠ (TX4 b).2.1 := by decide +kernel
theorem tyX4_ok : ∀ k, k < 4 → parseFieldDescriptor (TX4 k).2.2.1 = some (tyX4 k) := by decide +kernel
abbrev cX4_init : ByteArray := prog_6_method_1_code
def yX4_init : MethodName := ⟨RX4, "<init>", "()V"⟩
abbrev cX4_has : ByteArray := prog_6_method_2_code
def yX4_has : MethodName := ⟨RX4, "has", "(I)Z"⟩
abbrev cX4_add : ByteArray := prog_6_method_3_code
def yX4_add : MethodName := ⟨RX4, "add", "(I)I"⟩
abbrev cX4_forgetBreaksFrom : ByteArray := prog_6_method_4_code
def yX4_forgetBreaksFrom : MethodName := ⟨RX4, "forgetBreaksFrom", "(II)V"⟩
def RX5 : String := "DesertTown$RoadBook"
def TX5 : u_T := fun k => match k with
  | 0 => ("DesertTown$RoadBook", "counts", "[I", true)
  | 1 => ("DesertTown$RoadBook", "froms", "[[I", true)
  | 2 => ("DesertTown$RoadBook", "tos", "[[I", true)
  | 3 => ("DesertTown$RoadBook", "speeds", "[[I", true)
  | _ => ("DesertTown$RoadBook", "total", "I", false)
def tyX5 : Nat → FieldType := fun k => match k with
  | 0 => .array .int
  | 1 => .array (.array .int)
  | 2 => .array (.array .int)
  | 3 => .array (.array .int)
  | _ => .int
abbrev wsX50 : List Cond := u_ws RX5 TX5 5
theorem nmX5 : ∀ a, a < 5 → ∀ b, b < 5 → a ≠ b → (TX5 a).2.1 ≠ (TX5 b).2.1 := by decide +kernel
theorem tyX5_ok : ∀ k, k < 5 → parseFieldDescriptor (TX5 k).2.2.1 = some (tyX5 k) := by decide +kernel
abbrev cX5_init : ByteArray := prog_7_method_1_code
def yX5_init : MethodName := ⟨RX5, "<init>", "()V"⟩
abbrev cX5_clear : ByteArray := prog_7_method_2_code
def yX5_clear : MethodName := ⟨RX5, "clear", "()V"⟩
abbrev cX5_isFull : ByteArray := prog_7_method_3_code
def yX5_isFull : MethodName := ⟨RX5, "isFull", "(I)Z"⟩
abbrev cX5_reach : ByteArray := prog_7_method_4_code
def yX5_reach : MethodName := ⟨RX5, "reach", "(I)I"⟩
abbrev cX5_add : ByteArray := prog_7_method_5_code
def yX5_add : MethodName := ⟨RX5, "add", "(IIII)V"⟩
def RX6 : String := "DesertTown$Tape"
def TX6 : u_T := fun k => match k with
  | 0 => ("DesertTown$Tape", "bytes", "[B", true)
  | _ => ("DesertTown$Tape", "length", "I", false)
def tyX6 : Nat → FieldType := fun k => match k with
  | 0 => .array .byte
  | _ => .int
abbrev wsX60 : List Cond := u_ws RX6 TX6 2
theorem nmX6 : ∀ a, a < 2 → ∀ b, b < 2 → a ≠ b → (TX6 a).2.1 ≠ (TX6 b).2.1 := by decide +kernel
theorem tyX6_ok : ∀ k, k < 2 → parseFieldDescriptor (TX6 k).2.2.1 = some (tyX6 k) := by decide +kernel
abbrev cX6_init : ByteArray := prog_8_method_1_code
def yX6_init : MethodName := ⟨RX6, "<init>", "()V"⟩
abbrev cX6_append : ByteArray := prog_8_method_2_code
def yX6_append : MethodName := ⟨RX6, "append", "(I)V"⟩
abbrev cX6_byteAt : ByteArray := prog_8_method_3_code
def yX6_byteAt : MethodName := ⟨RX6, "byteAt", "(I)I"⟩
def RX7 : String := "DesertTown"
def TX7 : u_T := fun k => match k with
  | 0 => ("DesertTown", "course", "LDesertTown$Course;", true)
  | 1 => ("DesertTown", "racers", "LDesertTown$Racers;", true)
  | 2 => ("DesertTown", "tape", "LDesertTown$Tape;", true)
  | 3 => ("DesertTown", "reader", "LDesertTown$BookReader;", true)
  | 4 => ("DesertTown", "race", "LDesertTown$Race;", true)
  | 5 => ("DesertTown", "kitchens", "LDesertTown$Kitchens;", true)
  | 6 => ("DesertTown", "settings", "[I", true)
  | 7 => ("DesertTown", "roadBook", "LDesertTown$RoadBook;", false)
  | 8 => ("DesertTown", "draft", "LDesertTown$RoadBook;", false)
  | _ => ("DesertTown", "stale", "Z", false)
def tyX7 : Nat → FieldType := fun k => match k with
  | 0 => .object "DesertTown$Course"
  | 1 => .object "DesertTown$Racers"
  | 2 => .object "DesertTown$Tape"
  | 3 => .object "DesertTown$BookReader"
  | 4 => .object "DesertTown$Race"
  | 5 => .object "DesertTown$Kitchens"
  | 6 => .array .int
  | 7 => .object "DesertTown$RoadBook"
  | 8 => .object "DesertTown$RoadBook"
  | _ => .boolean
abbrev wsX70 : List Cond := u_ws RX7 TX7 10
theorem nmX7 : ∀ a, a < 10 → ∀ b, b < 10 → a ≠ b → (TX7 a).2.1 ≠ (TX7 b).2.1 := by decide +kernel
theorem tyX7_ok : ∀ k, k < 10 → parseFieldDescriptor (TX7 k).2.2.1 = some (tyX7 k) := by decide +kernel
abbrev cX7_init : ByteArray := prog_1_method_1_code
def yX7_init : MethodName := ⟨RX7, "<init>", "()V"⟩
abbrev cX7_camp : ByteArray := prog_1_method_2_code
def yX7_camp : MethodName := ⟨RX7, "camp", "(II)Z"⟩
abbrev cX7_hour : ByteArray := prog_1_method_3_code
def yX7_hour : MethodName := ⟨RX7, "hour", "(II)Z"⟩
abbrev cX7_racer : ByteArray := prog_1_method_4_code
def yX7_racer : MethodName := ⟨RX7, "racer", "(I)I"⟩
abbrev cX7_breaks : ByteArray := prog_1_method_5_code
def yX7_breaks : MethodName := ⟨RX7, "breaks", "(III)Z"⟩
abbrev cX7_set : ByteArray := prog_1_method_6_code
def yX7_set : MethodName := ⟨RX7, "set", "(II)Z"⟩
abbrev cX7_feed : ByteArray := prog_1_method_7_code
def yX7_feed : MethodName := ⟨RX7, "feed", "(IIIII)I"⟩
abbrev cX7_end : ByteArray := prog_1_method_8_code
def yX7_end : MethodName := ⟨RX7, "end", "(I)Z"⟩
abbrev cX7_book : ByteArray := prog_1_method_9_code
def yX7_book : MethodName := ⟨RX7, "book", "()I"⟩
abbrev cX7_fault : ByteArray := prog_1_method_10_code
def yX7_fault : MethodName := ⟨RX7, "fault", "(I)I"⟩
abbrev cX7_look : ByteArray := prog_1_method_11_code
def yX7_look : MethodName := ⟨RX7, "look", "(I)I"⟩
abbrev cX7_time : ByteArray := prog_1_method_12_code
def yX7_time : MethodName := ⟨RX7, "time", "(II)I"⟩
abbrev cX7_ran : ByteArray := prog_1_method_13_code
def yX7_ran : MethodName := ⟨RX7, "ran", "(III)I"⟩
abbrev cX7_standing : ByteArray := prog_1_method_14_code
def yX7_standing : MethodName := ⟨RX7, "standing", "(II)I"⟩
abbrev cX7_of : ByteArray := prog_1_method_15_code
def yX7_of : MethodName := ⟨RX7, "of", "(II)I"⟩
abbrev cX7_sets : ByteArray := prog_1_method_16_code
def yX7_sets : MethodName := ⟨RX7, "sets", "()I"⟩
abbrev cX7_goes : ByteArray := prog_1_method_17_code
def yX7_goes : MethodName := ⟨RX7, "goes", "(I)I"⟩
abbrev cX7_sweep : ByteArray := prog_1_method_18_code
def yX7_sweep : MethodName := ⟨RX7, "sweep", "(II)I"⟩
abbrev cX7_sweepersCome : ByteArray := prog_1_method_19_code
def yX7_sweepersCome : MethodName := ⟨RX7, "sweepersCome", "(II)I"⟩
abbrev cX7_settle : ByteArray := prog_1_method_20_code
def yX7_settle : MethodName := ⟨RX7, "settle", "()V"⟩
abbrev cX7_within : ByteArray := prog_1_method_21_code
def yX7_within : MethodName := ⟨RX7, "within", "(III)Z"⟩
abbrev cX7_isStage : ByteArray := prog_1_method_22_code
def yX7_isStage : MethodName := ⟨RX7, "isStage", "(I)Z"⟩
abbrev cX7_isCamp : ByteArray := prog_1_method_23_code
def yX7_isCamp : MethodName := ⟨RX7, "isCamp", "(I)Z"⟩
abbrev cX7_divideUpwards : ByteArray := prog_1_method_24_code
def yX7_divideUpwards : MethodName := ⟨RX7, "divideUpwards", "(JJ)I"⟩
abbrev cX7_minutesFor : ByteArray := prog_1_method_25_code
def yX7_minutesFor : MethodName := ⟨RX7, "minutesFor", "(II)I"⟩
def RX8 : String := "DesertTownModel"
def TX8 : u_T := fun k => match k with
  | 0 => ("DesertTownModel", "racers", "I", false)
  | 1 => ("DesertTownModel", "far", "[I", true)
  | 2 => ("DesertTownModel", "hour", "[I", true)
  | 3 => ("DesertTownModel", "speed", "[I", true)
  | 4 => ("DesertTownModel", "brokenIn", "[I", true)
  | 5 => ("DesertTownModel", "brokenAt", "[I", true)
  | 6 => ("DesertTownModel", "told", "[I", true)
  | 7 => ("DesertTownModel", "zones", "[I", true)
  | 8 => ("DesertTownModel", "zone", "[I", true)
  | 9 => ("DesertTownModel", "freshMany", "[I", true)
  | 10 => ("DesertTownModel", "fresh", "[I", true)
  | 11 => ("DesertTownModel", "tape", "[I", true)
  | 12 => ("DesertTownModel", "taped", "I", false)
  | 13 => ("DesertTownModel", "at", "I", false)
  | 14 => ("DesertTownModel", "token", "I", false)
  | 15 => ("DesertTownModel", "tokenAt", "I", false)
  | 16 => ("DesertTownModel", "value", "I", false)
  | 17 => ("DesertTownModel", "wrong", "I", false)
  | 18 => ("DesertTownModel", "wrongAt", "I", false)
  | 19 => ("DesertTownModel", "faultKind", "I", false)
  | 20 => ("DesertTownModel", "number", "I", false)
  | 21 => ("DesertTownModel", "faultPlace", "I", false)
  | 22 => ("DesertTownModel", "start", "[I", true)
  | 23 => ("DesertTownModel", "arrival", "[I", true)
  | 24 => ("DesertTownModel", "sum", "[I", true)
  | 25 => ("DesertTownModel", "row", "[I", true)
  | 26 => ("DesertTownModel", "came", "[I", true)
  | 27 => ("DesertTownModel", "opens", "[I", true)
  | 28 => ("DesertTownModel", "closes", "[I", true)
  | _ => ("DesertTownModel", "setOf", "[I", true)
def tyX8 : Nat → FieldType := fun k => match k with
  | 0 => .int
  | 1 => .array .int
  | 2 => .array .int
  | 3 => .array .int
  | 4 => .array .int
  | 5 => .array .int
  | 6 => .array .int
  | 7 => .array .int
  | 8 => .array .int
  | 9 => .array .int
  | 10 => .array .int
  | 11 => .array .int
  | 12 => .int
  | 13 => .int
  | 14 => .int
  | 15 => .int
  | 16 => .int
  | 17 => .int
  | 18 => .int
  | 19 => .int
  | 20 => .int
  | 21 => .int
  | 22 => .array .int
  | 23 => .array .int
  | 24 => .array .int
  | 25 => .array .int
  | 26 => .array .int
  | 27 => .array .int
  | 28 => .array .int
  | _ => .array .int
abbrev wsX80 : List Cond := u_ws RX8 TX8 30
theorem nmX8 : ∀ a, a < 30 → ∀ b, b < 30 → a ≠ b → (TX8 a).2.1 ≠ (TX8 b).2.1 := by decide +kernel
theorem tyX8_ok : ∀ k, k < 30 → parseFieldDescriptor (TX8 k).2.2.1 = some (tyX8 k) := by decide +kernel
abbrev cX8_init : ByteArray := prog_10_method_1_code
def yX8_init : MethodName := ⟨RX8, "<init>", "()V"⟩
abbrev cX8_isIn : ByteArray := prog_10_method_2_code
def yX8_isIn : MethodName := ⟨RX8, "isIn", "(III)Z"⟩
abbrev cX8_isStage : ByteArray := prog_10_method_3_code
def yX8_isStage : MethodName := ⟨RX8, "isStage", "(I)Z"⟩
abbrev cX8_isCamp : ByteArray := prog_10_method_4_code
def yX8_isCamp : MethodName := ⟨RX8, "isCamp", "(I)Z"⟩
abbrev cX8_isRacer : ByteArray := prog_10_method_5_code
def yX8_isRacer : MethodName := ⟨RX8, "isRacer", "(I)Z"⟩
abbrev cX8_length : ByteArray := prog_10_method_6_code
def yX8_length : MethodName := ⟨RX8, "length", "(I)I"⟩
abbrev cX8_camp : ByteArray := prog_10_method_7_code
def yX8_camp : MethodName := ⟨RX8, "camp", "(II)Z"⟩
abbrev cX8_hour : ByteArray := prog_10_method_8_code
def yX8_hour : MethodName := ⟨RX8, "hour", "(II)Z"⟩
abbrev cX8_racer : ByteArray := prog_10_method_9_code
def yX8_racer : MethodName := ⟨RX8, "racer", "(I)I"⟩
abbrev cX8_breaks : ByteArray := prog_10_method_10_code
def yX8_breaks : MethodName := ⟨RX8, "breaks", "(III)Z"⟩
abbrev cX8_set : ByteArray := prog_10_method_11_code
def yX8_set : MethodName := ⟨RX8, "set", "(II)Z"⟩
abbrev cX8_feed : ByteArray := prog_10_method_12_code
def yX8_feed : MethodName := ⟨RX8, "feed", "(IIIII)I"⟩
abbrev cX8_end : ByteArray := prog_10_method_13_code
def yX8_end : MethodName := ⟨RX8, "end", "(I)Z"⟩
abbrev cX8_see : ByteArray := prog_10_method_14_code
def yX8_see : MethodName := ⟨RX8, "see", "(I)I"⟩
abbrev cX8_isLetter : ByteArray := prog_10_method_15_code
def yX8_isLetter : MethodName := ⟨RX8, "isLetter", "(I)Z"⟩
abbrev cX8_isDigit : ByteArray := prog_10_method_16_code
def yX8_isDigit : MethodName := ⟨RX8, "isDigit", "(I)Z"⟩
abbrev cX8_word : ByteArray := prog_10_method_17_code
def yX8_word : MethodName := ⟨RX8, "word", "(J)I"⟩
abbrev cX8_next0 : ByteArray := prog_10_method_18_code
def yX8_next0 : MethodName := ⟨RX8, "next0", "()V"⟩
abbrev cX8_bad : ByteArray := prog_10_method_19_code
def yX8_bad : MethodName := ⟨RX8, "bad", "(I)Z"⟩
abbrev cX8_need : ByteArray := prog_10_method_20_code
def yX8_need : MethodName := ⟨RX8, "need", "(I)Z"⟩
abbrev cX8_aNumber : ByteArray := prog_10_method_21_code
def yX8_aNumber : MethodName := ⟨RX8, "aNumber", "(II)Z"⟩
abbrev cX8_aZone : ByteArray := prog_10_method_22_code
def yX8_aZone : MethodName := ⟨RX8, "aZone", "()Z"⟩
abbrev cX8_book : ByteArray := prog_10_method_23_code
def yX8_book : MethodName := ⟨RX8, "book", "()I"⟩
abbrev cX8_all : ByteArray := prog_10_method_24_code
def yX8_all : MethodName := ⟨RX8, "all", "()I"⟩
abbrev cX8_fault : ByteArray := prog_10_method_25_code
def yX8_fault : MethodName := ⟨RX8, "fault", "(I)I"⟩
abbrev cX8_look : ByteArray := prog_10_method_26_code
def yX8_look : MethodName := ⟨RX8, "look", "(I)I"⟩
abbrev cX8_lesser : ByteArray := prog_10_method_27_code
def yX8_lesser : MethodName := ⟨RX8, "lesser", "(II)I"⟩
abbrev cX8_timeOf : ByteArray := prog_10_method_28_code
def yX8_timeOf : MethodName := ⟨RX8, "timeOf", "(II)I"⟩
abbrev cX8_time : ByteArray := prog_10_method_29_code
def yX8_time : MethodName := ⟨RX8, "time", "(II)I"⟩
abbrev cX8_runs : ByteArray := prog_10_method_30_code
def yX8_runs : MethodName := ⟨RX8, "runs", "()V"⟩
abbrev cX8_comes : ByteArray := prog_10_method_31_code
def yX8_comes : MethodName := ⟨RX8, "comes", "(II)V"⟩
abbrev cX8_isAhead : ByteArray := prog_10_method_32_code
def yX8_isAhead : MethodName := ⟨RX8, "isAhead", "(III)Z"⟩
abbrev cX8_ran : ByteArray := prog_10_method_33_code
def yX8_ran : MethodName := ⟨RX8, "ran", "(III)I"⟩
abbrev cX8_standing : ByteArray := prog_10_method_34_code
def yX8_standing : MethodName := ⟨RX8, "standing", "(II)I"⟩
abbrev cX8_isNeeded : ByteArray := prog_10_method_35_code
def yX8_isNeeded : MethodName := ⟨RX8, "isNeeded", "(I)Z"⟩
abbrev cX8_kitchens : ByteArray := prog_10_method_36_code
def yX8_kitchens : MethodName := ⟨RX8, "kitchens", "()V"⟩
abbrev cX8_between : ByteArray := prog_10_method_37_code
def yX8_between : MethodName := ⟨RX8, "between", "(II)I"⟩
abbrev cX8_lastOf : ByteArray := prog_10_method_38_code
def yX8_lastOf : MethodName := ⟨RX8, "lastOf", "(II)I"⟩
abbrev cX8_canDo : ByteArray := prog_10_method_39_code
def yX8_canDo : MethodName := ⟨RX8, "canDo", "(II)Z"⟩
abbrev cX8_tries : ByteArray := prog_10_method_40_code
def yX8_tries : MethodName := ⟨RX8, "tries", "(II)Z"⟩
abbrev cX8_finds : ByteArray := prog_10_method_41_code
def yX8_finds : MethodName := ⟨RX8, "finds", "()I"⟩
abbrev cX8_sets : ByteArray := prog_10_method_42_code
def yX8_sets : MethodName := ⟨RX8, "sets", "()I"⟩
abbrev cX8_goes : ByteArray := prog_10_method_43_code
def yX8_goes : MethodName := ⟨RX8, "goes", "(I)I"⟩
abbrev cX8_of : ByteArray := prog_10_method_44_code
def yX8_of : MethodName := ⟨RX8, "of", "(II)I"⟩
abbrev cX8_sweep : ByteArray := prog_10_method_45_code
def yX8_sweep : MethodName := ⟨RX8, "sweep", "(II)I"⟩
def RJ6 : String := "java/lang/Integer"
def TJ6 : u_T := fun k => match k with
  | _ => ("", "", "", false)
def tyJ6 : Nat → FieldType := fun k => match k with
  | _ => .int
abbrev wsJ60 : List Cond := u_ws RJ6 TJ6 0
theorem nmJ6 : ∀ a, a < 0 → ∀ b, b < 0 → a ≠ b → (TJ6 a).2.1 ≠ (TJ6 b).2.1 := by decide +kernel
theorem tyJ6_ok : ∀ k, k < 0 → parseFieldDescriptor (TJ6 k).2.2.1 = some (tyJ6 k) := by decide +kernel
abbrev cJ6_bitCount_0f7a4 : ByteArray := prog_11_method_49_code
def yJ6_bitCount_0f7a4 : MethodName := ⟨RJ6, "bitCount", "(I)I"⟩
def RJ9 : String := "java/lang/Math"
def TJ9 : u_T := fun k => match k with
  | _ => ("", "", "", false)
def tyJ9 : Nat → FieldType := fun k => match k with
  | _ => .int
abbrev wsJ90 : List Cond := u_ws RJ9 TJ9 0
theorem nmJ9 : ∀ a, a < 0 → ∀ b, b < 0 → a ≠ b → (TJ9 a).2.1 ≠ (TJ9 b).2.1 := by decide +kernel
theorem tyJ9_ok : ∀ k, k < 0 → parseFieldDescriptor (TJ9 k).2.2.1 = some (tyJ9 k) := by decide +kernel
abbrev cJ9_max_7cf53 : ByteArray := prog_12_method_65_code
def yJ9_max_7cf53 : MethodName := ⟨RJ9, "max", "(II)I"⟩
abbrev cJ9_min_7cf53 : ByteArray := prog_12_method_69_code
def yJ9_min_7cf53 : MethodName := ⟨RJ9, "min", "(II)I"⟩
def RJ0 : String := "java/lang/String"
def TJ0 : u_T := fun k => match k with
  | _ => ("", "", "", false)
def tyJ0 : Nat → FieldType := fun k => match k with
  | _ => .int
abbrev wsJ00 : List Cond := u_ws RJ0 TJ0 0
theorem nmJ0 : ∀ a, a < 0 → ∀ b, b < 0 → a ≠ b → (TJ0 a).2.1 ≠ (TJ0 b).2.1 := by decide +kernel
theorem tyJ0_ok : ∀ k, k < 0 → parseFieldDescriptor (TJ0 k).2.2.1 = some (tyJ0 k) := by decide +kernel
abbrev cJ0_length_8abf5 : ByteArray := prog_13_method_54_code
def yJ0_length_8abf5 : MethodName := ⟨RJ0, "length", "()I"⟩
abbrev cJ0_charAt_5068e : ByteArray := prog_13_method_56_code
def yJ0_charAt_5068e : MethodName := ⟨RJ0, "charAt", "(I)C"⟩
abbrev cJ0_coder_7d493 : ByteArray := prog_13_method_152_code
def yJ0_coder_7d493 : MethodName := ⟨RJ0, "coder", "()B"⟩
abbrev cJ0_isLatin1_aae02 : ByteArray := prog_13_method_154_code
def yJ0_isLatin1_aae02 : MethodName := ⟨RJ0, "isLatin1", "()Z"⟩
abbrev cJ0_checkIndex_df160 : ByteArray := prog_13_method_155_code
def yJ0_checkIndex_df160 : MethodName := ⟨RJ0, "checkIndex", "(II)V"⟩
def RJ1 : String := "java/lang/StringLatin1"
def TJ1 : u_T := fun k => match k with
  | _ => ("", "", "", false)
def tyJ1 : Nat → FieldType := fun k => match k with
  | _ => .int
abbrev wsJ10 : List Cond := u_ws RJ1 TJ1 0
theorem nmJ1 : ∀ a, a < 0 → ∀ b, b < 0 → a ≠ b → (TJ1 a).2.1 ≠ (TJ1 b).2.1 := by decide +kernel
theorem tyJ1_ok : ∀ k, k < 0 → parseFieldDescriptor (TJ1 k).2.2.1 = some (tyJ1 k) := by decide +kernel
abbrev cJ1_charAt_3b067 : ByteArray := prog_14_method_2_code
def yJ1_charAt_3b067 : MethodName := ⟨RJ1, "charAt", "([BI)C"⟩
def RJ2 : String := "java/lang/StringUTF16"
def TJ2 : u_T := fun k => match k with
  | _ => ("", "", "", false)
def tyJ2 : Nat → FieldType := fun k => match k with
  | _ => .int
abbrev wsJ20 : List Cond := u_ws RJ2 TJ2 0
theorem nmJ2 : ∀ a, a < 0 → ∀ b, b < 0 → a ≠ b → (TJ2 a).2.1 ≠ (TJ2 b).2.1 := by decide +kernel
theorem tyJ2_ok : ∀ k, k < 0 → parseFieldDescriptor (TJ2 k).2.2.1 = some (tyJ2 k) := by decide +kernel
abbrev cJ2_getChar_3b067 : ByteArray := prog_15_method_5_code
def yJ2_getChar_3b067 : MethodName := ⟨RJ2, "getChar", "([BI)C"⟩
abbrev cJ2_length_9d52b : ByteArray := prog_15_method_6_code
def yJ2_length_9d52b : MethodName := ⟨RJ2, "length", "([B)I"⟩
abbrev cJ2_charAt_3b067 : ByteArray := prog_15_method_83_code
def yJ2_charAt_3b067 : MethodName := ⟨RJ2, "charAt", "([BI)C"⟩
abbrev cJ2_checkIndex_2214a : ByteArray := prog_15_method_91_code
def yJ2_checkIndex_2214a : MethodName := ⟨RJ2, "checkIndex", "(I[B)V"⟩
def RJ3 : String := "jdk/internal/util/Preconditions"
def TJ3 : u_T := fun k => match k with
  | _ => ("", "", "", false)
def tyJ3 : Nat → FieldType := fun k => match k with
  | _ => .int
abbrev wsJ30 : List Cond := u_ws RJ3 TJ3 0
theorem nmJ3 : ∀ a, a < 0 → ∀ b, b < 0 → a ≠ b → (TJ3 a).2.1 ≠ (TJ3 b).2.1 := by decide +kernel
theorem tyJ3_ok : ∀ k, k < 0 → parseFieldDescriptor (TJ3 k).2.2.1 = some (tyJ3 k) := by decide +kernel
abbrev cJ3_checkIndex_8e157 : ByteArray := prog_16_method_11_code
def yJ3_checkIndex_8e157 : MethodName := ⟨RJ3, "checkIndex", "(IILjava/util/function/BiFunction;)I"⟩
def RL : String := "DesertTownLaw"
abbrev cL_law : ByteArray := code
def yL_law : MethodName := ⟨RL, "law", "([I)Z"⟩
abbrev vwCl : List vw_C := [(RX0, TX0, 6), (RX1, TX1, 2), (RX2, TX2, 8), (RX3, TX3, 9), (RX4, TX4, 4), (RX5, TX5, 5), (RX6, TX6, 2), (RX7, TX7, 10), (RX8, TX8, 30)]
