-- ===== PART A: goes FIRST, ahead of the names: the tables' words, and 'selects' of the private methods out of them =====
/-- a private method of a class that the tables say can be made, by its rows of tables_1 -/
def lw_okq (q : MethodName × Nat) : Prop := (q.1.cls ≠ "java/lang/invoke/MethodHandle" ∧ q.1.cls ≠ "java/lang/invoke/VarHandle") ∧ Cond.instantiable q.1.cls q.2 ∈ tables_1 ∧ Cond.privateMethod q.1 ∈ tables_1 ∧ Cond.instanceMethod q.1 ∈ tables_1
theorem lw_p0 : lw_okq (⟨"GleePrize", "hasLaying", "(I)Z"⟩, 8) := ⟨⟨by decide +kernel, by decide +kernel⟩, List.mem_of_getElem? (i := 13) (by decide +kernel), List.mem_of_getElem? (i := 291) (by decide +kernel), List.mem_of_getElem? (i := 292) (by decide +kernel)⟩
theorem lw_p1 : lw_okq (⟨"GleePrize$Laying", "endAt", "(I)V"⟩, 13) := ⟨⟨by decide +kernel, by decide +kernel⟩, List.mem_of_getElem? (i := 90) (by decide +kernel), List.mem_of_getElem? (i := 299) (by decide +kernel), List.mem_of_getElem? (i := 300) (by decide +kernel)⟩
theorem lw_p2 : lw_okq (⟨"GleePrize$Laying", "addUpReadings", "(LGleePrize$Recording;LGleePrize$Measure;I)V"⟩, 13) := ⟨⟨by decide +kernel, by decide +kernel⟩, List.mem_of_getElem? (i := 90) (by decide +kernel), List.mem_of_getElem? (i := 304) (by decide +kernel), List.mem_of_getElem? (i := 305) (by decide +kernel)⟩
theorem lw_p3 : lw_okq (⟨"GleePrize$Laying", "splitByLength", "([III)V"⟩, 13) := ⟨⟨by decide +kernel, by decide +kernel⟩, List.mem_of_getElem? (i := 90) (by decide +kernel), List.mem_of_getElem? (i := 318) (by decide +kernel), List.mem_of_getElem? (i := 319) (by decide +kernel)⟩
theorem lw_p4 : lw_okq (⟨"GleePrize$Laying", "findLeast", "(IIILGleePrize$Measure;)I"⟩, 13) := ⟨⟨by decide +kernel, by decide +kernel⟩, List.mem_of_getElem? (i := 90) (by decide +kernel), List.mem_of_getElem? (i := 324) (by decide +kernel), List.mem_of_getElem? (i := 325) (by decide +kernel)⟩
theorem lw_p5 : lw_okq (⟨"GleePrize$Laying", "layForward", "(LGleePrize$Piece;LGleePrize$Recording;LGleePrize$Measure;)V"⟩, 13) := ⟨⟨by decide +kernel, by decide +kernel⟩, List.mem_of_getElem? (i := 90) (by decide +kernel), List.mem_of_getElem? (i := 328) (by decide +kernel), List.mem_of_getElem? (i := 329) (by decide +kernel)⟩
theorem lw_p6 : lw_okq (⟨"GleePrize$Laying", "findTaken", "(LGleePrize$Piece;LGleePrize$Recording;LGleePrize$Measure;II)I"⟩, 13) := ⟨⟨by decide +kernel, by decide +kernel⟩, List.mem_of_getElem? (i := 90) (by decide +kernel), List.mem_of_getElem? (i := 332) (by decide +kernel), List.mem_of_getElem? (i := 333) (by decide +kernel)⟩
theorem lw_p7 : lw_okq (⟨"GleePrize$Laying", "hear", "(LGleePrize$Piece;LGleePrize$Recording;I)V"⟩, 13) := ⟨⟨by decide +kernel, by decide +kernel⟩, List.mem_of_getElem? (i := 90) (by decide +kernel), List.mem_of_getElem? (i := 340) (by decide +kernel), List.mem_of_getElem? (i := 341) (by decide +kernel)⟩
theorem lw_p8 : lw_okq (⟨"GleePrize$Laying", "findOff", "(LGleePrize$Recording;II)I"⟩, 13) := ⟨⟨by decide +kernel, by decide +kernel⟩, List.mem_of_getElem? (i := 90) (by decide +kernel), List.mem_of_getElem? (i := 345) (by decide +kernel), List.mem_of_getElem? (i := 346) (by decide +kernel)⟩
theorem lw_p9 : lw_okq (⟨"GleePrize$Panel", "isCounting", "(I)Z"⟩, 3) := ⟨⟨by decide +kernel, by decide +kernel⟩, List.mem_of_getElem? (i := 147) (by decide +kernel), List.mem_of_getElem? (i := 395) (by decide +kernel), List.mem_of_getElem? (i := 396) (by decide +kernel)⟩
theorem lw_p10 : lw_okq (⟨"GleePrize$Panel", "findGreaterHalf", "(I)I"⟩, 3) := ⟨⟨by decide +kernel, by decide +kernel⟩, List.mem_of_getElem? (i := 147) (by decide +kernel), List.mem_of_getElem? (i := 412) (by decide +kernel), List.mem_of_getElem? (i := 413) (by decide +kernel)⟩
theorem lw_p11 : lw_okq (⟨"GleePrize$Panel", "isAhead", "(III)Z"⟩, 3) := ⟨⟨by decide +kernel, by decide +kernel⟩, List.mem_of_getElem? (i := 147) (by decide +kernel), List.mem_of_getElem? (i := 422) (by decide +kernel), List.mem_of_getElem? (i := 423) (by decide +kernel)⟩
theorem lw_p12 : lw_okq (⟨"GleePrize$Panel", "sumRanks", "(II)I"⟩, 3) := ⟨⟨by decide +kernel, by decide +kernel⟩, List.mem_of_getElem? (i := 147) (by decide +kernel), List.mem_of_getElem? (i := 426) (by decide +kernel), List.mem_of_getElem? (i := 427) (by decide +kernel)⟩
theorem lw_p13 : lw_okq (⟨"GleePrize$Timetable", "findClashes", "(LGleePrize$Roll;I)V"⟩, 8) := ⟨⟨by decide +kernel, by decide +kernel⟩, List.mem_of_getElem? (i := 188) (by decide +kernel), List.mem_of_getElem? (i := 483) (by decide +kernel), List.mem_of_getElem? (i := 484) (by decide +kernel)⟩
theorem lw_p14 : lw_okq (⟨"GleePrize$Timetable", "countNeeded", "()I"⟩, 8) := ⟨⟨by decide +kernel, by decide +kernel⟩, List.mem_of_getElem? (i := 188) (by decide +kernel), List.mem_of_getElem? (i := 488) (by decide +kernel), List.mem_of_getElem? (i := 489) (by decide +kernel)⟩
theorem lw_p15 : lw_okq (⟨"GleePrize$Timetable", "standsFrom", "(III)Z"⟩, 8) := ⟨⟨by decide +kernel, by decide +kernel⟩, List.mem_of_getElem? (i := 188) (by decide +kernel), List.mem_of_getElem? (i := 496) (by decide +kernel), List.mem_of_getElem? (i := 497) (by decide +kernel)⟩
def lw_privs_1 : List (MethodName × Nat) := [(⟨"GleePrize", "hasLaying", "(I)Z"⟩, 8), (⟨"GleePrize$Laying", "endAt", "(I)V"⟩, 13), (⟨"GleePrize$Laying", "addUpReadings", "(LGleePrize$Recording;LGleePrize$Measure;I)V"⟩, 13), (⟨"GleePrize$Laying", "splitByLength", "([III)V"⟩, 13), (⟨"GleePrize$Laying", "findLeast", "(IIILGleePrize$Measure;)I"⟩, 13), (⟨"GleePrize$Laying", "layForward", "(LGleePrize$Piece;LGleePrize$Recording;LGleePrize$Measure;)V"⟩, 13), (⟨"GleePrize$Laying", "findTaken", "(LGleePrize$Piece;LGleePrize$Recording;LGleePrize$Measure;II)I"⟩, 13), (⟨"GleePrize$Laying", "hear", "(LGleePrize$Piece;LGleePrize$Recording;I)V"⟩, 13), (⟨"GleePrize$Laying", "findOff", "(LGleePrize$Recording;II)I"⟩, 13), (⟨"GleePrize$Panel", "isCounting", "(I)Z"⟩, 3), (⟨"GleePrize$Panel", "findGreaterHalf", "(I)I"⟩, 3), (⟨"GleePrize$Panel", "isAhead", "(III)Z"⟩, 3), (⟨"GleePrize$Panel", "sumRanks", "(II)I"⟩, 3), (⟨"GleePrize$Timetable", "findClashes", "(LGleePrize$Roll;I)V"⟩, 8), (⟨"GleePrize$Timetable", "countNeeded", "()I"⟩, 8), (⟨"GleePrize$Timetable", "standsFrom", "(III)Z"⟩, 8)]
theorem lw_r1 : ∀ q ∈ lw_privs_1, lw_okq q := List.forall_mem_cons.mpr ⟨lw_p0, List.forall_mem_cons.mpr ⟨lw_p1, List.forall_mem_cons.mpr ⟨lw_p2, List.forall_mem_cons.mpr ⟨lw_p3, List.forall_mem_cons.mpr ⟨lw_p4, List.forall_mem_cons.mpr ⟨lw_p5, List.forall_mem_cons.mpr ⟨lw_p6, List.forall_mem_cons.mpr ⟨lw_p7, List.forall_mem_cons.mpr ⟨lw_p8, List.forall_mem_cons.mpr ⟨lw_p9, List.forall_mem_cons.mpr ⟨lw_p10, List.forall_mem_cons.mpr ⟨lw_p11, List.forall_mem_cons.mpr ⟨lw_p12, List.forall_mem_cons.mpr ⟨lw_p13, List.forall_mem_cons.mpr ⟨lw_p14, List.forall_mem_cons.mpr ⟨lw_p15, fun _ h => absurd h List.not_mem_nil⟩⟩⟩⟩⟩⟩⟩⟩⟩⟩⟩⟩⟩⟩⟩⟩
theorem lw_p16 : lw_okq (⟨"GleePrize", "drawOrder", "(II)V"⟩, 8) := ⟨⟨by decide +kernel, by decide +kernel⟩, List.mem_of_getElem? (i := 13) (by decide +kernel), List.mem_of_getElem? (i := 508) (by decide +kernel), List.mem_of_getElem? (i := 509) (by decide +kernel)⟩
theorem lw_p17 : lw_okq (⟨"GleePrizeModel", "lays", "(I)I"⟩, 34) := ⟨⟨by decide +kernel, by decide +kernel⟩, List.mem_of_getElem? (i := 513) (by decide +kernel), List.mem_of_getElem? (i := 649) (by decide +kernel), List.mem_of_getElem? (i := 650) (by decide +kernel)⟩
theorem lw_p18 : lw_okq (⟨"GleePrizeModel", "place", "(II)I"⟩, 34) := ⟨⟨by decide +kernel, by decide +kernel⟩, List.mem_of_getElem? (i := 513) (by decide +kernel), List.mem_of_getElem? (i := 653) (by decide +kernel), List.mem_of_getElem? (i := 654) (by decide +kernel)⟩
theorem lw_p19 : lw_okq (⟨"GleePrizeModel", "readCost", "(III)I"⟩, 34) := ⟨⟨by decide +kernel, by decide +kernel⟩, List.mem_of_getElem? (i := 513) (by decide +kernel), List.mem_of_getElem? (i := 658) (by decide +kernel), List.mem_of_getElem? (i := 659) (by decide +kernel)⟩
theorem lw_p20 : lw_okq (⟨"GleePrizeModel", "shapeCost", "(II)I"⟩, 34) := ⟨⟨by decide +kernel, by decide +kernel⟩, List.mem_of_getElem? (i := 513) (by decide +kernel), List.mem_of_getElem? (i := 665) (by decide +kernel), List.mem_of_getElem? (i := 666) (by decide +kernel)⟩
theorem lw_p21 : lw_okq (⟨"GleePrizeModel", "takes", "(IIII)V"⟩, 34) := ⟨⟨by decide +kernel, by decide +kernel⟩, List.mem_of_getElem? (i := 513) (by decide +kernel), List.mem_of_getElem? (i := 669) (by decide +kernel), List.mem_of_getElem? (i := 670) (by decide +kernel)⟩
theorem lw_p22 : lw_okq (⟨"GleePrizeModel", "isNote", "(II)Z"⟩, 34) := ⟨⟨by decide +kernel, by decide +kernel⟩, List.mem_of_getElem? (i := 513) (by decide +kernel), List.mem_of_getElem? (i := 677) (by decide +kernel), List.mem_of_getElem? (i := 678) (by decide +kernel)⟩
theorem lw_p23 : lw_okq (⟨"GleePrizeModel", "isFault", "(I)Z"⟩, 34) := ⟨⟨by decide +kernel, by decide +kernel⟩, List.mem_of_getElem? (i := 513) (by decide +kernel), List.mem_of_getElem? (i := 681) (by decide +kernel), List.mem_of_getElem? (i := 682) (by decide +kernel)⟩
theorem lw_p24 : lw_okq (⟨"GleePrizeModel", "hasJudge", "(I)Z"⟩, 34) := ⟨⟨by decide +kernel, by decide +kernel⟩, List.mem_of_getElem? (i := 513) (by decide +kernel), List.mem_of_getElem? (i := 710) (by decide +kernel), List.mem_of_getElem? (i := 711) (by decide +kernel)⟩
theorem lw_p25 : lw_okq (⟨"GleePrizeModel", "sings", "(I)Z"⟩, 34) := ⟨⟨by decide +kernel, by decide +kernel⟩, List.mem_of_getElem? (i := 513) (by decide +kernel), List.mem_of_getElem? (i := 718) (by decide +kernel), List.mem_of_getElem? (i := 719) (by decide +kernel)⟩
theorem lw_p26 : lw_okq (⟨"GleePrizeModel", "placesOf", "()V"⟩, 34) := ⟨⟨by decide +kernel, by decide +kernel⟩, List.mem_of_getElem? (i := 513) (by decide +kernel), List.mem_of_getElem? (i := 723) (by decide +kernel), List.mem_of_getElem? (i := 724) (by decide +kernel)⟩
theorem lw_p27 : lw_okq (⟨"GleePrizeModel", "ranked", "(IIZ)I"⟩, 34) := ⟨⟨by decide +kernel, by decide +kernel⟩, List.mem_of_getElem? (i := 513) (by decide +kernel), List.mem_of_getElem? (i := 727) (by decide +kernel), List.mem_of_getElem? (i := 728) (by decide +kernel)⟩
theorem lw_p28 : lw_okq (⟨"GleePrizeModel", "against", "(III)I"⟩, 34) := ⟨⟨by decide +kernel, by decide +kernel⟩, List.mem_of_getElem? (i := 513) (by decide +kernel), List.mem_of_getElem? (i := 731) (by decide +kernel), List.mem_of_getElem? (i := 732) (by decide +kernel)⟩
theorem lw_p29 : lw_okq (⟨"GleePrizeModel", "stand", "(I)Z"⟩, 34) := ⟨⟨by decide +kernel, by decide +kernel⟩, List.mem_of_getElem? (i := 513) (by decide +kernel), List.mem_of_getElem? (i := 768) (by decide +kernel), List.mem_of_getElem? (i := 769) (by decide +kernel)⟩
theorem lw_p30 : lw_okq (⟨"GleePrizeModel", "mayBe", "(II)Z"⟩, 34) := ⟨⟨by decide +kernel, by decide +kernel⟩, List.mem_of_getElem? (i := 513) (by decide +kernel), List.mem_of_getElem? (i := 772) (by decide +kernel), List.mem_of_getElem? (i := 773) (by decide +kernel)⟩
def lw_privs_2 : List (MethodName × Nat) := [(⟨"GleePrize", "drawOrder", "(II)V"⟩, 8), (⟨"GleePrizeModel", "lays", "(I)I"⟩, 34), (⟨"GleePrizeModel", "place", "(II)I"⟩, 34), (⟨"GleePrizeModel", "readCost", "(III)I"⟩, 34), (⟨"GleePrizeModel", "shapeCost", "(II)I"⟩, 34), (⟨"GleePrizeModel", "takes", "(IIII)V"⟩, 34), (⟨"GleePrizeModel", "isNote", "(II)Z"⟩, 34), (⟨"GleePrizeModel", "isFault", "(I)Z"⟩, 34), (⟨"GleePrizeModel", "hasJudge", "(I)Z"⟩, 34), (⟨"GleePrizeModel", "sings", "(I)Z"⟩, 34), (⟨"GleePrizeModel", "placesOf", "()V"⟩, 34), (⟨"GleePrizeModel", "ranked", "(IIZ)I"⟩, 34), (⟨"GleePrizeModel", "against", "(III)I"⟩, 34), (⟨"GleePrizeModel", "stand", "(I)Z"⟩, 34), (⟨"GleePrizeModel", "mayBe", "(II)Z"⟩, 34)]
theorem lw_r2 : ∀ q ∈ lw_privs_2, lw_okq q := List.forall_mem_cons.mpr ⟨lw_p16, List.forall_mem_cons.mpr ⟨lw_p17, List.forall_mem_cons.mpr ⟨lw_p18, List.forall_mem_cons.mpr ⟨lw_p19, List.forall_mem_cons.mpr ⟨lw_p20, List.forall_mem_cons.mpr ⟨lw_p21, List.forall_mem_cons.mpr ⟨lw_p22, List.forall_mem_cons.mpr ⟨lw_p23, List.forall_mem_cons.mpr ⟨lw_p24, List.forall_mem_cons.mpr ⟨lw_p25, List.forall_mem_cons.mpr ⟨lw_p26, List.forall_mem_cons.mpr ⟨lw_p27, List.forall_mem_cons.mpr ⟨lw_p28, List.forall_mem_cons.mpr ⟨lw_p29, List.forall_mem_cons.mpr ⟨lw_p30, fun _ h => absurd h List.not_mem_nil⟩⟩⟩⟩⟩⟩⟩⟩⟩⟩⟩⟩⟩⟩⟩
def lw_privs : List (MethodName × Nat) := lw_privs_1 ++ (lw_privs_2)
def lw_tbl : List Cond := k2_sels lw_privs ++ tables_1
theorem lw_privs_ok : ∀ q ∈ lw_privs, lw_okq q := by
  show ∀ q ∈ lw_privs_1 ++ (lw_privs_2), lw_okq q
  exact List.forall_mem_append.mpr ⟨lw_r1, lw_r2⟩
def RX0 : String := "GleePrize$Laying"
def TX0 : u_T := fun k => match k with
  | 0 => ("GleePrize$Laying", "first", "[I", true)
  | 1 => ("GleePrize$Laying", "many", "[I", true)
  | 2 => ("GleePrize$Laying", "offs", "[I", true)
  | 3 => ("GleePrize$Laying", "fault", "[I", true)
  | 4 => ("GleePrize$Laying", "size", "I", false)
  | 5 => ("GleePrize$Laying", "cost", "I", false)
  | 6 => ("GleePrize$Laying", "sunk", "I", false)
  | 7 => ("GleePrize$Laying", "faults", "I", false)
  | 8 => ("GleePrize$Laying", "recordingLaid", "I", false)
  | 9 => ("GleePrize$Laying", "best", "[[I", true)
  | 10 => ("GleePrize$Laying", "sums", "[I", true)
  | 11 => ("GleePrize$Laying", "tooFew", "[I", true)
  | _ => ("GleePrize$Laying", "enough", "[I", true)
def tyX0 : Nat → FieldType := fun k => match k with
  | 0 => .array .int
  | 1 => .array .int
  | 2 => .array .int
  | 3 => .array .int
  | 4 => .int
  | 5 => .int
  | 6 => .int
  | 7 => .int
  | 8 => .int
  | 9 => .array (.array .int)
  | 10 => .array .int
  | 11 => .array .int
  | _ => .array .int
abbrev wsX00 : List Cond := u_ws RX0 TX0 13
theorem nmX0 : ∀ a, a < 13 → ∀ b, b < 13 → a ≠ b → (TX0 a).2.1 ≠ (TX0 b).2.1 := by decide +kernel
theorem tyX0_ok : ∀ k, k < 13 → parseFieldDescriptor (TX0 k).2.2.1 = some (tyX0 k) := by decide +kernel
abbrev cX0_init : ByteArray := prog_2_method_1_code
def yX0_init : MethodName := ⟨RX0, "<init>", "()V"⟩
abbrev cX0_forget : ByteArray := prog_2_method_2_code
def yX0_forget : MethodName := ⟨RX0, "forget", "()V"⟩
abbrev cX0_find : ByteArray := prog_2_method_3_code
def yX0_find : MethodName := ⟨RX0, "find", "(LGleePrize$Piece;LGleePrize$Recording;LGleePrize$Measure;)V"⟩
abbrev cX0_endAt : ByteArray := prog_2_method_4_code
def yX0_endAt : MethodName := ⟨RX0, "endAt", "(I)V"⟩
abbrev cX0_addUpReadings : ByteArray := prog_2_method_5_code
def yX0_addUpReadings : MethodName := ⟨RX0, "addUpReadings", "(LGleePrize$Recording;LGleePrize$Measure;I)V"⟩
abbrev cX0_splitByLength : ByteArray := prog_2_method_6_code
def yX0_splitByLength : MethodName := ⟨RX0, "splitByLength", "([III)V"⟩
abbrev cX0_findLeast : ByteArray := prog_2_method_7_code
def yX0_findLeast : MethodName := ⟨RX0, "findLeast", "(IIILGleePrize$Measure;)I"⟩
abbrev cX0_layForward : ByteArray := prog_2_method_8_code
def yX0_layForward : MethodName := ⟨RX0, "layForward", "(LGleePrize$Piece;LGleePrize$Recording;LGleePrize$Measure;)V"⟩
abbrev cX0_findTaken : ByteArray := prog_2_method_9_code
def yX0_findTaken : MethodName := ⟨RX0, "findTaken", "(LGleePrize$Piece;LGleePrize$Recording;LGleePrize$Measure;II)I"⟩
abbrev cX0_hear : ByteArray := prog_2_method_10_code
def yX0_hear : MethodName := ⟨RX0, "hear", "(LGleePrize$Piece;LGleePrize$Recording;I)V"⟩
abbrev cX0_findOff : ByteArray := prog_2_method_11_code
def yX0_findOff : MethodName := ⟨RX0, "findOff", "(LGleePrize$Recording;II)I"⟩
def RX1 : String := "GleePrize$Measure"
def TX1 : u_T := fun k => match k with
  | 0 => ("GleePrize$Measure", "tempo", "I", false)
  | 1 => ("GleePrize$Measure", "hole", "I", false)
  | 2 => ("GleePrize$Measure", "stretch", "I", false)
  | 3 => ("GleePrize$Measure", "lack", "I", false)
  | _ => ("GleePrize$Measure", "ear", "I", false)
def tyX1 : Nat → FieldType := fun k => match k with
  | 0 => .int
  | 1 => .int
  | 2 => .int
  | 3 => .int
  | _ => .int
abbrev wsX10 : List Cond := u_ws RX1 TX1 5
theorem nmX1 : ∀ a, a < 5 → ∀ b, b < 5 → a ≠ b → (TX1 a).2.1 ≠ (TX1 b).2.1 := by decide +kernel
theorem tyX1_ok : ∀ k, k < 5 → parseFieldDescriptor (TX1 k).2.2.1 = some (tyX1 k) := by decide +kernel
abbrev cX1_init : ByteArray := prog_3_method_1_code
def yX1_init : MethodName := ⟨RX1, "<init>", "()V"⟩
abbrev cX1_change : ByteArray := prog_3_method_2_code
def yX1_change : MethodName := ⟨RX1, "change", "(IIIII)V"⟩
abbrev cX1_costOfReading : ByteArray := prog_3_method_3_code
def yX1_costOfReading : MethodName := ⟨RX1, "costOfReading", "(II)I"⟩
abbrev cX1_costOfLength : ByteArray := prog_3_method_4_code
def yX1_costOfLength : MethodName := ⟨RX1, "costOfLength", "(II)I"⟩
def RX2 : String := "GleePrize$Panel"
def TX2 : u_T := fun k => match k with
  | 0 => ("GleePrize$Panel", "singing", "I", false)
  | 1 => ("GleePrize$Panel", "rowBits", "[I", true)
  | _ => ("GleePrize$Panel", "rankIn", "[[I", true)
def tyX2 : Nat → FieldType := fun k => match k with
  | 0 => .int
  | 1 => .array .int
  | _ => .array (.array .int)
abbrev wsX20 : List Cond := u_ws RX2 TX2 3
theorem nmX2 : ∀ a, a < 3 → ∀ b, b < 3 → a ≠ b → (TX2 a).2.1 ≠ (TX2 b).2.1 := by decide +kernel
theorem tyX2_ok : ∀ k, k < 3 → parseFieldDescriptor (TX2 k).2.2.1 = some (tyX2 k) := by decide +kernel
abbrev cX2_init : ByteArray := prog_4_method_1_code
def yX2_init : MethodName := ⟨RX2, "<init>", "()V"⟩
abbrev cX2_takeRow : ByteArray := prog_4_method_2_code
def yX2_takeRow : MethodName := ⟨RX2, "takeRow", "(IIJ)Z"⟩
abbrev cX2_clubAt : ByteArray := prog_4_method_3_code
def yX2_clubAt : MethodName := ⟨RX2, "clubAt", "(JI)I"⟩
abbrev cX2_isSinging : ByteArray := prog_4_method_4_code
def yX2_isSinging : MethodName := ⟨RX2, "isSinging", "(I)Z"⟩
abbrev cX2_isCounting : ByteArray := prog_4_method_5_code
def yX2_isCounting : MethodName := ⟨RX2, "isCounting", "(I)Z"⟩
abbrev cX2_countJudges : ByteArray := prog_4_method_6_code
def yX2_countJudges : MethodName := ⟨RX2, "countJudges", "()I"⟩
abbrev cX2_countRanks : ByteArray := prog_4_method_7_code
def yX2_countRanks : MethodName := ⟨RX2, "countRanks", "(II)I"⟩
abbrev cX2_sumRanks : ByteArray := prog_4_method_8_code
def yX2_sumRanks : MethodName := ⟨RX2, "sumRanks", "(II)I"⟩
abbrev cX2_findPlace : ByteArray := prog_4_method_9_code
def yX2_findPlace : MethodName := ⟨RX2, "findPlace", "(I)I"⟩
abbrev cX2_findGreaterHalf : ByteArray := prog_4_method_10_code
def yX2_findGreaterHalf : MethodName := ⟨RX2, "findGreaterHalf", "(I)I"⟩
abbrev cX2_isAhead : ByteArray := prog_4_method_11_code
def yX2_isAhead : MethodName := ⟨RX2, "isAhead", "(III)Z"⟩
def RX3 : String := "GleePrize$Piece"
def TX3 : u_T := fun k => match k with
  | 0 => ("GleePrize$Piece", "pitches", "[I", true)
  | 1 => ("GleePrize$Piece", "beats", "[I", true)
  | _ => ("GleePrize$Piece", "size", "I", false)
def tyX3 : Nat → FieldType := fun k => match k with
  | 0 => .array .int
  | 1 => .array .int
  | _ => .int
abbrev wsX30 : List Cond := u_ws RX3 TX3 3
theorem nmX3 : ∀ a, a < 3 → ∀ b, b < 3 → a ≠ b → (TX3 a).2.1 ≠ (TX3 b).2.1 := by decide +kernel
theorem tyX3_ok : ∀ k, k < 3 → parseFieldDescriptor (TX3 k).2.2.1 = some (tyX3 k) := by decide +kernel
abbrev cX3_init : ByteArray := prog_5_method_1_code
def yX3_init : MethodName := ⟨RX3, "<init>", "()V"⟩
abbrev cX3_addNote : ByteArray := prog_5_method_2_code
def yX3_addNote : MethodName := ⟨RX3, "addNote", "(II)I"⟩
def RX4 : String := "GleePrize$Recording"
def TX4 : u_T := fun k => match k with
  | 0 => ("GleePrize$Recording", "readings", "[I", true)
  | 1 => ("GleePrize$Recording", "size", "I", false)
  | _ => ("GleePrize$Recording", "piece", "I", false)
def tyX4 : Nat → FieldType := fun k => match k with
  | 0 => .array .int
  | 1 => .int
  | _ => .int
abbrev wsX40 : List Cond := u_ws RX4 TX4 3
theorem nmX4 : ∀ a, a < 3 → ∀ b, b < 3 → a ≠ b → (TX4 a).2.1 ≠ (TX4 b).2.1 := by decide +kernel
theorem tyX4_ok : ∀ k, k < 3 → parseFieldDescriptor (TX4 k).2.2.1 = some (tyX4 k) := by decide +kernel
abbrev cX4_init : ByteArray := prog_6_method_1_code
def yX4_init : MethodName := ⟨RX4, "<init>", "()V"⟩
abbrev cX4_startAnew : ByteArray := prog_6_method_2_code
def yX4_startAnew : MethodName := ⟨RX4, "startAnew", "(I)I"⟩
abbrev cX4_addReadings : ByteArray := prog_6_method_3_code
def yX4_addReadings : MethodName := ⟨RX4, "addReadings", "(II)I"⟩
def RX5 : String := "GleePrize$Roll"
def TX5 : u_T := fun k => match k with
  | 0 => ("GleePrize$Roll", "persons", "[I", true)
  | 1 => ("GleePrize$Roll", "clubs", "[I", true)
  | 2 => ("GleePrize$Roll", "starts", "[I", true)
  | 3 => ("GleePrize$Roll", "ends", "[I", true)
  | _ => ("GleePrize$Roll", "size", "I", false)
def tyX5 : Nat → FieldType := fun k => match k with
  | 0 => .array .int
  | 1 => .array .int
  | 2 => .array .int
  | 3 => .array .int
  | _ => .int
abbrev wsX50 : List Cond := u_ws RX5 TX5 5
theorem nmX5 : ∀ a, a < 5 → ∀ b, b < 5 → a ≠ b → (TX5 a).2.1 ≠ (TX5 b).2.1 := by decide +kernel
theorem tyX5_ok : ∀ k, k < 5 → parseFieldDescriptor (TX5 k).2.2.1 = some (tyX5 k) := by decide +kernel
abbrev cX5_init : ByteArray := prog_7_method_1_code
def yX5_init : MethodName := ⟨RX5, "<init>", "()V"⟩
abbrev cX5_addSpan : ByteArray := prog_7_method_2_code
def yX5_addSpan : MethodName := ⟨RX5, "addSpan", "(IIII)I"⟩
abbrev cX5_findSingers : ByteArray := prog_7_method_3_code
def yX5_findSingers : MethodName := ⟨RX5, "findSingers", "(II)I"⟩
def RX6 : String := "GleePrize$Timetable"
def TX6 : u_T := fun k => match k with
  | 0 => ("GleePrize$Timetable", "hourOf", "[I", true)
  | 1 => ("GleePrize$Timetable", "size", "I", false)
  | 2 => ("GleePrize$Timetable", "hallCount", "I", false)
  | 3 => ("GleePrize$Timetable", "stood", "I", false)
  | 4 => ("GleePrize$Timetable", "clubs", "[I", true)
  | 5 => ("GleePrize$Timetable", "singersOf", "[I", true)
  | 6 => ("GleePrize$Timetable", "clashes", "[I", true)
  | _ => ("GleePrize$Timetable", "inHour", "[I", true)
def tyX6 : Nat → FieldType := fun k => match k with
  | 0 => .array .int
  | 1 => .int
  | 2 => .int
  | 3 => .int
  | 4 => .array .int
  | 5 => .array .int
  | 6 => .array .int
  | _ => .array .int
abbrev wsX60 : List Cond := u_ws RX6 TX6 8
theorem nmX6 : ∀ a, a < 8 → ∀ b, b < 8 → a ≠ b → (TX6 a).2.1 ≠ (TX6 b).2.1 := by decide +kernel
theorem tyX6_ok : ∀ k, k < 8 → parseFieldDescriptor (TX6 k).2.2.1 = some (tyX6 k) := by decide +kernel
abbrev cX6_init : ByteArray := prog_8_method_1_code
def yX6_init : MethodName := ⟨RX6, "<init>", "()V"⟩
abbrev cX6_addPerformance : ByteArray := prog_8_method_2_code
def yX6_addPerformance : MethodName := ⟨RX6, "addPerformance", "(I)I"⟩
abbrev cX6_findHours : ByteArray := prog_8_method_3_code
def yX6_findHours : MethodName := ⟨RX6, "findHours", "(LGleePrize$Roll;I)I"⟩
abbrev cX6_countNeeded : ByteArray := prog_8_method_4_code
def yX6_countNeeded : MethodName := ⟨RX6, "countNeeded", "()I"⟩
abbrev cX6_findClashes : ByteArray := prog_8_method_5_code
def yX6_findClashes : MethodName := ⟨RX6, "findClashes", "(LGleePrize$Roll;I)V"⟩
abbrev cX6_standsFrom : ByteArray := prog_8_method_6_code
def yX6_standsFrom : MethodName := ⟨RX6, "standsFrom", "(III)Z"⟩
def RX7 : String := "GleePrize"
def TX7 : u_T := fun k => match k with
  | 0 => ("GleePrize", "pieces", "[LGleePrize$Piece;", true)
  | 1 => ("GleePrize", "recordings", "[LGleePrize$Recording;", true)
  | 2 => ("GleePrize", "measure", "LGleePrize$Measure;", true)
  | 3 => ("GleePrize", "laying", "LGleePrize$Laying;", true)
  | 4 => ("GleePrize", "panel", "LGleePrize$Panel;", true)
  | 5 => ("GleePrize", "roll", "LGleePrize$Roll;", true)
  | 6 => ("GleePrize", "timetable", "LGleePrize$Timetable;", true)
  | _ => ("GleePrize", "order", "[I", true)
def tyX7 : Nat → FieldType := fun k => match k with
  | 0 => .array (.object "GleePrize$Piece")
  | 1 => .array (.object "GleePrize$Recording")
  | 2 => .object "GleePrize$Measure"
  | 3 => .object "GleePrize$Laying"
  | 4 => .object "GleePrize$Panel"
  | 5 => .object "GleePrize$Roll"
  | 6 => .object "GleePrize$Timetable"
  | _ => .array .int
abbrev wsX70 : List Cond := u_ws RX7 TX7 8
theorem nmX7 : ∀ a, a < 8 → ∀ b, b < 8 → a ≠ b → (TX7 a).2.1 ≠ (TX7 b).2.1 := by decide +kernel
theorem tyX7_ok : ∀ k, k < 8 → parseFieldDescriptor (TX7 k).2.2.1 = some (tyX7 k) := by decide +kernel
abbrev cX7_init : ByteArray := prog_1_method_1_code
def yX7_init : MethodName := ⟨RX7, "<init>", "()V"⟩
abbrev cX7_note : ByteArray := prog_1_method_2_code
def yX7_note : MethodName := ⟨RX7, "note", "(III)I"⟩
abbrev cX7_record : ByteArray := prog_1_method_3_code
def yX7_record : MethodName := ⟨RX7, "record", "(II)I"⟩
abbrev cX7_read : ByteArray := prog_1_method_4_code
def yX7_read : MethodName := ⟨RX7, "read", "(III)I"⟩
abbrev cX7_rules : ByteArray := prog_1_method_5_code
def yX7_rules : MethodName := ⟨RX7, "rules", "(IIIII)Z"⟩
abbrev cX7_lay : ByteArray := prog_1_method_6_code
def yX7_lay : MethodName := ⟨RX7, "lay", "(I)I"⟩
abbrev cX7_laid : ByteArray := prog_1_method_7_code
def yX7_laid : MethodName := ⟨RX7, "laid", "(III)I"⟩
abbrev cX7_off : ByteArray := prog_1_method_8_code
def yX7_off : MethodName := ⟨RX7, "off", "(II)I"⟩
abbrev cX7_told : ByteArray := prog_1_method_9_code
def yX7_told : MethodName := ⟨RX7, "told", "(II)I"⟩
abbrev cX7_sing : ByteArray := prog_1_method_10_code
def yX7_sing : MethodName := ⟨RX7, "sing", "(I)I"⟩
abbrev cX7_judge : ByteArray := prog_1_method_11_code
def yX7_judge : MethodName := ⟨RX7, "judge", "(IIJ)Z"⟩
abbrev cX7_judges : ByteArray := prog_1_method_12_code
def yX7_judges : MethodName := ⟨RX7, "judges", "()I"⟩
abbrev cX7_place : ByteArray := prog_1_method_13_code
def yX7_place : MethodName := ⟨RX7, "place", "(I)I"⟩
abbrev cX7_ranks : ByteArray := prog_1_method_14_code
def yX7_ranks : MethodName := ⟨RX7, "ranks", "(II)I"⟩
abbrev cX7_member : ByteArray := prog_1_method_15_code
def yX7_member : MethodName := ⟨RX7, "member", "(IIII)I"⟩
abbrev cX7_may : ByteArray := prog_1_method_16_code
def yX7_may : MethodName := ⟨RX7, "may", "(III)I"⟩
abbrev cX7_singers : ByteArray := prog_1_method_17_code
def yX7_singers : MethodName := ⟨RX7, "singers", "(II)I"⟩
abbrev cX7_perform : ByteArray := prog_1_method_18_code
def yX7_perform : MethodName := ⟨RX7, "perform", "(I)I"⟩
abbrev cX7_clear : ByteArray := prog_1_method_19_code
def yX7_clear : MethodName := ⟨RX7, "clear", "()I"⟩
abbrev cX7_halls : ByteArray := prog_1_method_20_code
def yX7_halls : MethodName := ⟨RX7, "halls", "(I)I"⟩
abbrev cX7_hours : ByteArray := prog_1_method_21_code
def yX7_hours : MethodName := ⟨RX7, "hours", "(I)I"⟩
abbrev cX7_hour : ByteArray := prog_1_method_22_code
def yX7_hour : MethodName := ⟨RX7, "hour", "(I)I"⟩
abbrev cX7_draw : ByteArray := prog_1_method_23_code
def yX7_draw : MethodName := ⟨RX7, "draw", "(III)I"⟩
abbrev cX7_isWithin : ByteArray := prog_1_method_24_code
def yX7_isWithin : MethodName := ⟨RX7, "isWithin", "(III)Z"⟩
abbrev cX7_isDay : ByteArray := prog_1_method_25_code
def yX7_isDay : MethodName := ⟨RX7, "isDay", "(I)Z"⟩
abbrev cX7_hasLaying : ByteArray := prog_1_method_26_code
def yX7_hasLaying : MethodName := ⟨RX7, "hasLaying", "(I)Z"⟩
abbrev cX7_drawOrder : ByteArray := prog_1_method_27_code
def yX7_drawOrder : MethodName := ⟨RX7, "drawOrder", "(II)V"⟩
def RX8 : String := "GleePrizeModel"
def TX8 : u_T := fun k => match k with
  | 0 => ("GleePrizeModel", "notes", "[I", true)
  | 1 => ("GleePrizeModel", "pitch", "[I", true)
  | 2 => ("GleePrizeModel", "beats", "[I", true)
  | 3 => ("GleePrizeModel", "pieceOf", "[I", true)
  | 4 => ("GleePrizeModel", "readings", "[I", true)
  | 5 => ("GleePrizeModel", "reading", "[I", true)
  | 6 => ("GleePrizeModel", "tempo", "I", false)
  | 7 => ("GleePrizeModel", "hole", "I", false)
  | 8 => ("GleePrizeModel", "stretch", "I", false)
  | 9 => ("GleePrizeModel", "lack", "I", false)
  | 10 => ("GleePrizeModel", "ear", "I", false)
  | 11 => ("GleePrizeModel", "least", "[I", true)
  | 12 => ("GleePrizeModel", "take", "[I", true)
  | 13 => ("GleePrizeModel", "first", "[I", true)
  | 14 => ("GleePrizeModel", "offs", "[I", true)
  | 15 => ("GleePrizeModel", "hasOff", "[Z", true)
  | 16 => ("GleePrizeModel", "singing", "I", false)
  | 17 => ("GleePrizeModel", "rowMany", "[I", true)
  | 18 => ("GleePrizeModel", "rowBits", "[I", true)
  | 19 => ("GleePrizeModel", "rank", "[I", true)
  | 20 => ("GleePrizeModel", "places", "[I", true)
  | 21 => ("GleePrizeModel", "spans", "I", false)
  | 22 => ("GleePrizeModel", "who", "[I", true)
  | 23 => ("GleePrizeModel", "clubOf", "[I", true)
  | 24 => ("GleePrizeModel", "fromDay", "[I", true)
  | 25 => ("GleePrizeModel", "toDay", "[I", true)
  | 26 => ("GleePrizeModel", "performs", "I", false)
  | 27 => ("GleePrizeModel", "performClub", "[I", true)
  | 28 => ("GleePrizeModel", "halls", "I", false)
  | 29 => ("GleePrizeModel", "found", "I", false)
  | 30 => ("GleePrizeModel", "foundHour", "[I", true)
  | 31 => ("GleePrizeModel", "hour", "[I", true)
  | 32 => ("GleePrizeModel", "meet", "[Z", true)
  | _ => ("GleePrizeModel", "drawn", "[I", true)
def tyX8 : Nat → FieldType := fun k => match k with
  | 0 => .array .int
  | 1 => .array .int
  | 2 => .array .int
  | 3 => .array .int
  | 4 => .array .int
  | 5 => .array .int
  | 6 => .int
  | 7 => .int
  | 8 => .int
  | 9 => .int
  | 10 => .int
  | 11 => .array .int
  | 12 => .array .int
  | 13 => .array .int
  | 14 => .array .int
  | 15 => .array .boolean
  | 16 => .int
  | 17 => .array .int
  | 18 => .array .int
  | 19 => .array .int
  | 20 => .array .int
  | 21 => .int
  | 22 => .array .int
  | 23 => .array .int
  | 24 => .array .int
  | 25 => .array .int
  | 26 => .int
  | 27 => .array .int
  | 28 => .int
  | 29 => .int
  | 30 => .array .int
  | 31 => .array .int
  | 32 => .array .boolean
  | _ => .array .int
abbrev wsX80 : List Cond := u_ws RX8 TX8 34
theorem nmX8 : ∀ a, a < 34 → ∀ b, b < 34 → a ≠ b → (TX8 a).2.1 ≠ (TX8 b).2.1 := by decide +kernel
theorem tyX8_ok : ∀ k, k < 34 → parseFieldDescriptor (TX8 k).2.2.1 = some (tyX8 k) := by decide +kernel
abbrev cX8_init : ByteArray := prog_10_method_1_code
def yX8_init : MethodName := ⟨RX8, "<init>", "()V"⟩
abbrev cX8_isIn : ByteArray := prog_10_method_2_code
def yX8_isIn : MethodName := ⟨RX8, "isIn", "(III)Z"⟩
abbrev cX8_isRecording : ByteArray := prog_10_method_3_code
def yX8_isRecording : MethodName := ⟨RX8, "isRecording", "(I)Z"⟩
abbrev cX8_far : ByteArray := prog_10_method_4_code
def yX8_far : MethodName := ⟨RX8, "far", "(II)I"⟩
abbrev cX8_note : ByteArray := prog_10_method_5_code
def yX8_note : MethodName := ⟨RX8, "note", "(III)I"⟩
abbrev cX8_record : ByteArray := prog_10_method_6_code
def yX8_record : MethodName := ⟨RX8, "record", "(II)I"⟩
abbrev cX8_read : ByteArray := prog_10_method_7_code
def yX8_read : MethodName := ⟨RX8, "read", "(III)I"⟩
abbrev cX8_rules : ByteArray := prog_10_method_8_code
def yX8_rules : MethodName := ⟨RX8, "rules", "(IIIII)Z"⟩
abbrev cX8_readCost : ByteArray := prog_10_method_9_code
def yX8_readCost : MethodName := ⟨RX8, "readCost", "(III)I"⟩
abbrev cX8_shapeCost : ByteArray := prog_10_method_10_code
def yX8_shapeCost : MethodName := ⟨RX8, "shapeCost", "(II)I"⟩
abbrev cX8_place : ByteArray := prog_10_method_11_code
def yX8_place : MethodName := ⟨RX8, "place", "(II)I"⟩
abbrev cX8_lays : ByteArray := prog_10_method_12_code
def yX8_lays : MethodName := ⟨RX8, "lays", "(I)I"⟩
abbrev cX8_takes : ByteArray := prog_10_method_13_code
def yX8_takes : MethodName := ⟨RX8, "takes", "(IIII)V"⟩
abbrev cX8_lay : ByteArray := prog_10_method_14_code
def yX8_lay : MethodName := ⟨RX8, "lay", "(I)I"⟩
abbrev cX8_isNote : ByteArray := prog_10_method_15_code
def yX8_isNote : MethodName := ⟨RX8, "isNote", "(II)Z"⟩
abbrev cX8_isFault : ByteArray := prog_10_method_16_code
def yX8_isFault : MethodName := ⟨RX8, "isFault", "(I)Z"⟩
abbrev cX8_laid : ByteArray := prog_10_method_17_code
def yX8_laid : MethodName := ⟨RX8, "laid", "(III)I"⟩
abbrev cX8_off : ByteArray := prog_10_method_18_code
def yX8_off : MethodName := ⟨RX8, "off", "(II)I"⟩
abbrev cX8_told : ByteArray := prog_10_method_19_code
def yX8_told : MethodName := ⟨RX8, "told", "(II)I"⟩
abbrev cX8_ones : ByteArray := prog_10_method_20_code
def yX8_ones : MethodName := ⟨RX8, "ones", "(I)I"⟩
abbrev cX8_sing : ByteArray := prog_10_method_21_code
def yX8_sing : MethodName := ⟨RX8, "sing", "(I)I"⟩
abbrev cX8_judge : ByteArray := prog_10_method_22_code
def yX8_judge : MethodName := ⟨RX8, "judge", "(IIJ)Z"⟩
abbrev cX8_hasJudge : ByteArray := prog_10_method_23_code
def yX8_hasJudge : MethodName := ⟨RX8, "hasJudge", "(I)Z"⟩
abbrev cX8_judges : ByteArray := prog_10_method_24_code
def yX8_judges : MethodName := ⟨RX8, "judges", "()I"⟩
abbrev cX8_sings : ByteArray := prog_10_method_25_code
def yX8_sings : MethodName := ⟨RX8, "sings", "(I)Z"⟩
abbrev cX8_ranked : ByteArray := prog_10_method_26_code
def yX8_ranked : MethodName := ⟨RX8, "ranked", "(IIZ)I"⟩
abbrev cX8_against : ByteArray := prog_10_method_27_code
def yX8_against : MethodName := ⟨RX8, "against", "(III)I"⟩
abbrev cX8_placesOf : ByteArray := prog_10_method_28_code
def yX8_placesOf : MethodName := ⟨RX8, "placesOf", "()V"⟩
abbrev cX8_place_ : ByteArray := prog_10_method_29_code
def yX8_place_ : MethodName := ⟨RX8, "place", "(I)I"⟩
abbrev cX8_ranks : ByteArray := prog_10_method_30_code
def yX8_ranks : MethodName := ⟨RX8, "ranks", "(II)I"⟩
abbrev cX8_member : ByteArray := prog_10_method_31_code
def yX8_member : MethodName := ⟨RX8, "member", "(IIII)I"⟩
abbrev cX8_singers : ByteArray := prog_10_method_32_code
def yX8_singers : MethodName := ⟨RX8, "singers", "(II)I"⟩
abbrev cX8_may : ByteArray := prog_10_method_33_code
def yX8_may : MethodName := ⟨RX8, "may", "(III)I"⟩
abbrev cX8_perform : ByteArray := prog_10_method_34_code
def yX8_perform : MethodName := ⟨RX8, "perform", "(I)I"⟩
abbrev cX8_clear : ByteArray := prog_10_method_35_code
def yX8_clear : MethodName := ⟨RX8, "clear", "()I"⟩
abbrev cX8_halls : ByteArray := prog_10_method_36_code
def yX8_halls : MethodName := ⟨RX8, "halls", "(I)I"⟩
abbrev cX8_mayBe : ByteArray := prog_10_method_37_code
def yX8_mayBe : MethodName := ⟨RX8, "mayBe", "(II)Z"⟩
abbrev cX8_stand : ByteArray := prog_10_method_38_code
def yX8_stand : MethodName := ⟨RX8, "stand", "(I)Z"⟩
abbrev cX8_hours : ByteArray := prog_10_method_39_code
def yX8_hours : MethodName := ⟨RX8, "hours", "(I)I"⟩
abbrev cX8_hour : ByteArray := prog_10_method_40_code
def yX8_hour : MethodName := ⟨RX8, "hour", "(I)I"⟩
abbrev cX8_draw : ByteArray := prog_10_method_41_code
def yX8_draw : MethodName := ⟨RX8, "draw", "(III)I"⟩
def RJ6 : String := "java/lang/Integer"
abbrev cJ6_bitCount_0f7a4 : ByteArray := prog_11_method_49_code
def yJ6_bitCount_0f7a4 : MethodName := ⟨RJ6, "bitCount", "(I)I"⟩
def RJ9 : String := "java/lang/Math"
abbrev cJ9_floorDiv_7cf53 : ByteArray := prog_12_method_47_code
def yJ9_floorDiv_7cf53 : MethodName := ⟨RJ9, "floorDiv", "(II)I"⟩
abbrev cJ9_abs_0f7a4 : ByteArray := prog_12_method_59_code
def yJ9_abs_0f7a4 : MethodName := ⟨RJ9, "abs", "(I)I"⟩
abbrev cJ9_max_7cf53 : ByteArray := prog_12_method_65_code
def yJ9_max_7cf53 : MethodName := ⟨RJ9, "max", "(II)I"⟩
abbrev cJ9_min_7cf53 : ByteArray := prog_12_method_69_code
def yJ9_min_7cf53 : MethodName := ⟨RJ9, "min", "(II)I"⟩
def RL : String := "GleePrizeLaw"
abbrev cL_law : ByteArray := code
def yL_law : MethodName := ⟨RL, "law", "([I)Z"⟩
abbrev vwCl : List vw_C := [(RX0, TX0, 13), (RX1, TX1, 5), (RX2, TX2, 3), (RX3, TX3, 3), (RX4, TX4, 3), (RX5, TX5, 5), (RX6, TX6, 8), (RX7, TX7, 8), (RX8, TX8, 34)]
