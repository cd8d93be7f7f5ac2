section
-- ===== PART A: goes FIRST, ahead of the names: the tables' words, and 'selects' of the private methods out of them =====
/-- a private method of a class that the tables say can be made, by its rows of tables_1 -/
def lw_okq (q : MethodName × Nat) : Prop := (q.1.cls ≠ "java/lang/invoke/MethodHandle" ∧ q.1.cls ≠ "java/lang/invoke/VarHandle") ∧ Cond.instantiable q.1.cls q.2 ∈ tables_1 ∧ Cond.privateMethod q.1 ∈ tables_1 ∧ Cond.instanceMethod q.1 ∈ tables_1
theorem lw_p0 : lw_okq (⟨"GleePrize", "hasLaying", "(I)Z"⟩, 8) := ⟨⟨by decide +kernel, by decide +kernel⟩, List.mem_of_getElem? (i := 13) (by decide +kernel), List.mem_of_getElem? (i := 291) (by decide +kernel), List.mem_of_getElem? (i := 292) (by decide +kernel)⟩
theorem lw_p1 : lw_okq (⟨"GleePrize$Laying", "endAt", "(I)V"⟩, 13) := ⟨⟨by decide +kernel, by decide +kernel⟩, List.mem_of_getElem? (i := 90) (by decide +kernel), List.mem_of_getElem? (i := 299) (by decide +kernel), List.mem_of_getElem? (i := 300) (by decide +kernel)⟩
theorem lw_p2 : lw_okq (⟨"GleePrize$Laying", "addUpReadings", "(LGleePrize$Recording;LGleePrize$Measure;I)V"⟩, 13) := ⟨⟨by decide +kernel, by decide +kernel⟩, List.mem_of_getElem? (i := 90) (by decide +kernel), List.mem_of_getElem? (i := 304) (by decide +kernel), List.mem_of_getElem? (i := 305) (by decide +kernel)⟩
theorem lw_p3 : lw_okq (⟨"GleePrize$Laying", "splitByLength", "([III)V"⟩, 13) := ⟨⟨by decide +kernel, by decide +kernel⟩, List.mem_of_getElem? (i := 90) (by decide +kernel), List.mem_of_getElem? (i := 318) (by decide +kernel), List.mem_of_getElem? (i := 319) (by decide +kernel)⟩
theorem lw_p4 : lw_okq (⟨"GleePrize$Laying", "findLeast", "(IIILGleePrize$Measure;)I"⟩, 13) := ⟨⟨by decide +kernel, by decide +kernel⟩, List.mem_of_getElem? (i := 90) (by decide +kernel), List.mem_of_getElem? (i := 324) (by decide +kernel), List.mem_of_getElem? (i := 325) (by decide +kernel)⟩
theorem lw_p5 : lw_okq (⟨"GleePrize$Laying", "layForward", "(LGleePrize$Piece;LGleePrize$Recording;LGleePrize$Measure;)V"⟩, 13) := ⟨⟨by decide +kernel, by decide +kernel⟩, List.mem_of_getElem? (i := 90) (by decide +kernel), List.mem_of_getElem? (i := 328) (by decide +kernel), List.mem_of_getElem? (i := 329) (by decide +kernel)⟩
theorem lw_p6 : lw_okq (⟨"GleePrize$Laying", "findTaken", "(LGleePrize$Piece;LGleePrize$Recording;LGleePrize$Measure;II)I"⟩, 13) := ⟨⟨by decide +kernel, by decide +kernel⟩, List.mem_of_getElem? (i := 90) (by decide +kernel), List.mem_of_getElem? (i := 332) (by decide +kernel), List.mem_of_getElem? (i := 333) (by decide +kernel)⟩
theorem lw_p7 : lw_okq (⟨"GleePrize$Laying", "hear", "(LGleePrize$Piece;LGleePrize$Recording;I)V"⟩, 13) := ⟨⟨by decide +kernel, by decide +kernel⟩, List.mem_of_getElem? (i := 90) (by decide +kernel), List.mem_of_getElem? (i := 340) (by decide +kernel), List.mem_of_getElem? (i := 341) (by decide +kernel)⟩
theorem lw_p8 : lw_okq (⟨"GleePrize$Laying", "findOff", "(LGleePrize$Recording;II)I"⟩, 13) := ⟨⟨by decide +kernel, by decide +kernel⟩, List.mem_of_getElem? (i := 90) (by decide +kernel), List.mem_of_getElem? (i := 345) (by decide +kernel), List.mem_of_getElem? (i := 346) (by decide +kernel)⟩
theorem lw_p9 : lw_okq (⟨"GleePrize$Panel", "isCounting", "(I)Z"⟩, 3) := ⟨⟨by decide +kernel, by decide +kernel⟩, List.mem_of_getElem? (i := 147) (by decide +kernel), List.mem_of_getElem? (i := 395) (by decide +kernel), List.mem_of_getElem? (i := 396) (by decide +kernel)⟩
theorem lw_p10 : lw_okq (⟨"GleePrize$Panel", "findGreaterHalf", "(I)I"⟩, 3) := ⟨⟨by decide +kernel, by decide +kernel⟩, List.mem_of_getElem? (i := 147) (by decide +kernel), List.mem_of_getElem? (i := 412) (by decide +kernel), List.mem_of_getElem? (i := 413) (by decide +kernel)⟩
theorem lw_p11 : lw_okq (⟨"GleePrize$Panel", "isAhead", "(III)Z"⟩, 3) := ⟨⟨by decide +kernel, by decide +kernel⟩, List.mem_of_getElem? (i := 147) (by decide +kernel), List.mem_of_getElem? (i := 422) (by decide +kernel), List.mem_of_getElem? (i := 423) (by decide +kernel)⟩
theorem lw_p12 : lw_okq (⟨"GleePrize$Panel", "sumRanks", "(II)I"⟩, 3) := ⟨⟨by decide +kernel, by decide +kernel⟩, List.mem_of_getElem? (i := 147) (by decide +kernel), List.mem_of_getElem? (i := 426) (by decide +kernel), List.mem_of_getElem? (i := 427) (by decide +kernel)⟩
theorem lw_p13 : lw_okq (⟨"GleePrize$Timetable", "findClashes", "(LGleePrize$Roll;I)V"⟩, 8) := ⟨⟨by decide +kernel, by decide +kernel⟩, List.mem_of_getElem? (i := 188) (by decide +kernel), List.mem_of_getElem? (i := 483) (by decide +kernel), List.mem_of_getElem? (i := 484) (by decide +kernel)⟩
theorem lw_p14 : lw_okq (⟨"GleePrize$Timetable", "countNeeded", "()I"⟩, 8) := ⟨⟨by decide +kernel, by decide +kernel⟩, List.mem_of_getElem? (i := 188) (by decide +kernel), List.mem_of_getElem? (i := 488) (by decide +kernel), List.mem_of_getElem? (i := 489) (by decide +kernel)⟩
theorem lw_p15 : lw_okq (⟨"GleePrize$Timetable", "standsFrom", "(III)Z"⟩, 8) := ⟨⟨by decide +kernel, by decide +kernel⟩, List.mem_of_getElem? (i := 188) (by decide +kernel), List.mem_of_getElem? (i := 496) (by decide +kernel), List.mem_of_getElem? (i := 497) (by decide +kernel)⟩
def lw_privs_1 : List (MethodName × Nat) := [(⟨"GleePrize", "hasLaying", "(I)Z"⟩, 8), (⟨"GleePrize$Laying", "endAt", "(I)V"⟩, 13), (⟨"GleePrize$Laying", "addUpReadings", "(LGleePrize$Recording;LGleePrize$Measure;I)V"⟩, 13), (⟨"GleePrize$Laying", "splitByLength", "([III)V"⟩, 13), (⟨"GleePrize$Laying", "findLeast", "(IIILGleePrize$Measure;)I"⟩, 13), (⟨"GleePrize$Laying", "layForward", "(LGleePrize$Piece;LGleePrize$Recording;LGleePrize$Measure;)V"⟩, 13), (⟨"GleePrize$Laying", "findTaken", "(LGleePrize$Piece;LGleePrize$Recording;LGleePrize$Measure;II)I"⟩, 13), (⟨"GleePrize$Laying", "hear", "(LGleePrize$Piece;LGleePrize$Recording;I)V"⟩, 13), (⟨"GleePrize$Laying", "findOff", "(LGleePrize$Recording;II)I"⟩, 13), (⟨"GleePrize$Panel", "isCounting", "(I)Z"⟩, 3), (⟨"GleePrize$Panel", "findGreaterHalf", "(I)I"⟩, 3), (⟨"GleePrize$Panel", "isAhead", "(III)Z"⟩, 3), (⟨"GleePrize$Panel", "sumRanks", "(II)I"⟩, 3), (⟨"GleePrize$Timetable", "findClashes", "(LGleePrize$Roll;I)V"⟩, 8), (⟨"GleePrize$Timetable", "countNeeded", "()I"⟩, 8), (⟨"GleePrize$Timetable", "standsFrom", "(III)Z"⟩, 8)]
theorem lw_r1 : ∀ q ∈ lw_privs_1, lw_okq q := List.forall_mem_cons.mpr ⟨lw_p0, List.forall_mem_cons.mpr ⟨lw_p1, List.forall_mem_cons.mpr ⟨lw_p2, List.forall_mem_cons.mpr ⟨lw_p3, List.forall_mem_cons.mpr ⟨lw_p4, List.forall_mem_cons.mpr ⟨lw_p5, List.forall_mem_cons.mpr ⟨lw_p6, List.forall_mem_cons.mpr ⟨lw_p7, List.forall_mem_cons.mpr ⟨lw_p8, List.forall_mem_cons.mpr ⟨lw_p9, List.forall_mem_cons.mpr ⟨lw_p10, List.forall_mem_cons.mpr ⟨lw_p11, List.forall_mem_cons.mpr ⟨lw_p12, List.forall_mem_cons.mpr ⟨lw_p13, List.forall_mem_cons.mpr ⟨lw_p14, List.forall_mem_cons.mpr ⟨lw_p15, fun _ h => absurd h List.not_mem_nil⟩⟩⟩⟩⟩⟩⟩⟩⟩⟩⟩⟩⟩⟩⟩⟩
theorem lw_p16 : lw_okq (⟨"GleePrize", "drawOrder", "(II)V"⟩, 8) := ⟨⟨by decide +kernel, by decide +kernel⟩, List.mem_of_getElem? (i := 13) (by decide +kernel), List.mem_of_getElem? (i := 508) (by decide +kernel), List.mem_of_getElem? (i := 509) (by decide +kernel)⟩
theorem lw_p17 : lw_okq (⟨"GleePrizeModel", "lays", "(I)I"⟩, 34) := ⟨⟨by decide +kernel, by decide +kernel⟩, List.mem_of_getElem? (i := 513) (by decide +kernel), List.mem_of_getElem? (i := 649) (by decide +kernel), List.mem_of_getElem? (i := 650) (by decide +kernel)⟩
theorem lw_p18 : lw_okq (⟨"GleePrizeModel", "place", "(II)I"⟩, 34) := ⟨⟨by decide +kernel, by decide +kernel⟩, List.mem_of_getElem? (i := 513) (by decide +kernel), List.mem_of_getElem? (i := 653) (by decide +kernel), List.mem_of_getElem? (i := 654) (by decide +kernel)⟩
theorem lw_p19 : lw_okq (⟨"GleePrizeModel", "readCost", "(III)I"⟩, 34) := ⟨⟨by decide +kernel, by decide +kernel⟩, List.mem_of_getElem? (i := 513) (by decide +kernel), List.mem_of_getElem? (i := 658) (by decide +kernel), List.mem_of_getElem? (i := 659) (by decide +kernel)⟩
theorem lw_p20 : lw_okq (⟨"GleePrizeModel", "shapeCost", "(II)I"⟩, 34) := ⟨⟨by decide +kernel, by decide +kernel⟩, List.mem_of_getElem? (i := 513) (by decide +kernel), List.mem_of_getElem? (i := 665) (by decide +kernel), List.mem_of_getElem? (i := 666) (by decide +kernel)⟩
theorem lw_p21 : lw_okq (⟨"GleePrizeModel", "takes", "(IIII)V"⟩, 34) := ⟨⟨by decide +kernel, by decide +kernel⟩, List.mem_of_getElem? (i := 513) (by decide +kernel), List.mem_of_getElem? (i := 669) (by decide +kernel), List.mem_of_getElem? (i := 670) (by decide +kernel)⟩
theorem lw_p22 : lw_okq (⟨"GleePrizeModel", "isNote", "(II)Z"⟩, 34) := ⟨⟨by decide +kernel, by decide +kernel⟩, List.mem_of_getElem? (i := 513) (by decide +kernel), List.mem_of_getElem? (i := 677) (by decide +kernel), List.mem_of_getElem? (i := 678) (by decide +kernel)⟩
theorem lw_p23 : lw_okq (⟨"GleePrizeModel", "isFault", "(I)Z"⟩, 34) := ⟨⟨by decide +kernel, by decide +kernel⟩, List.mem_of_getElem? (i := 513) (by decide +kernel), List.mem_of_getElem? (i := 681) (by decide +kernel), List.mem_of_getElem? (i := 682) (by decide +kernel)⟩
theorem lw_p24 : lw_okq (⟨"GleePrizeModel", "hasJudge", "(I)Z"⟩, 34) := ⟨⟨by decide +kernel, by decide +kernel⟩, List.mem_of_getElem? (i := 513) (by decide +kernel), List.mem_of_getElem? (i := 710) (by decide +kernel), List.mem_of_getElem? (i := 711) (by decide +kernel)⟩
theorem lw_p25 : lw_okq (⟨"GleePrizeModel", "sings", "(I)Z"⟩, 34) := ⟨⟨by decide +kernel, by decide +kernel⟩, List.mem_of_getElem? (i := 513) (by decide +kernel), List.mem_of_getElem? (i := 718) (by decide +kernel), List.mem_of_getElem? (i := 719) (by decide +kernel)⟩
theorem lw_p26 : lw_okq (⟨"GleePrizeModel", "placesOf", "()V"⟩, 34) := ⟨⟨by decide +kernel, by decide +kernel⟩, List.mem_of_getElem? (i := 513) (by decide +kernel), List.mem_of_getElem? (i := 723) (by decide +kernel), List.mem_of_getElem? (i := 724) (by decide +kernel)⟩
theorem lw_p27 : lw_okq (⟨"GleePrizeModel", "ranked", "(IIZ)I"⟩, 34) := ⟨⟨by decide +kernel, by decide +kernel⟩, List.mem_of_getElem? (i := 513) (by decide +kernel), List.mem_of_getElem? (i := 727) (by decide +kernel), List.mem_of_getElem? (i := 728) (by decide +kernel)⟩
theorem lw_p28 : lw_okq (⟨"GleePrizeModel", "against", "(III)I"⟩, 34) := ⟨⟨by decide +kernel, by decide +kernel⟩, List.mem_of_getElem? (i := 513) (by decide +kernel), List.mem_of_getElem? (i := 731) (by decide +kernel), List.mem_of_getElem? (i := 732) (by decide +kernel)⟩
theorem lw_p29 : lw_okq (⟨"GleePrizeModel", "stand", "(I)Z"⟩, 34) := ⟨⟨by decide +kernel, by decide +kernel⟩, List.mem_of_getElem? (i := 513) (by decide +kernel), List.mem_of_getElem? (i := 768) (by decide +kernel), List.mem_of_getElem? (i := 769) (by decide +kernel)⟩
theorem lw_p30 : lw_okq (⟨"GleePrizeModel", "mayBe", "(II)Z"⟩, 34) := ⟨⟨by decide +kernel, by decide +kernel⟩, List.mem_of_getElem? (i := 513) (by decide +kernel), List.mem_of_getElem? (i := 772) (by decide +kernel), List.mem_of_getElem? (i := 773) (by decide +kernel)⟩
def lw_privs_2 : List (MethodName × Nat) := [(⟨"GleePrize", "drawOrder", "(II)V"⟩, 8), (⟨"GleePrizeModel", "lays", "(I)I"⟩, 34), (⟨"GleePrizeModel", "place", "(II)I"⟩, 34), (⟨"GleePrizeModel", "readCost", "(III)I"⟩, 34), (⟨"GleePrizeModel", "shapeCost", "(II)I"⟩, 34), (⟨"GleePrizeModel", "takes", "(IIII)V"⟩, 34), (⟨"GleePrizeModel", "isNote", "(II)Z"⟩, 34), (⟨"GleePrizeModel", "isFault", "(I)Z"⟩, 34), (⟨"GleePrizeModel", "hasJudge", "(I)Z"⟩, 34), (⟨"GleePrizeModel", "sings", "(I)Z"⟩, 34), (⟨"GleePrizeModel", "placesOf", "()V"⟩, 34), (⟨"GleePrizeModel", "ranked", "(IIZ)I"⟩, 34), (⟨"GleePrizeModel", "against", "(III)I"⟩, 34), (⟨"GleePrizeModel", "stand", "(I)Z"⟩, 34), (⟨"GleePrizeModel", "mayBe", "(II)Z"⟩, 34)]
theorem lw_r2 : ∀ q ∈ lw_privs_2, lw_okq q := List.forall_mem_cons.mpr ⟨lw_p16, List.forall_mem_cons.mpr ⟨lw_p17, List.forall_mem_cons.mpr ⟨lw_p18, List.forall_mem_cons.mpr ⟨lw_p19, List.forall_mem_cons.mpr ⟨lw_p20, List.forall_mem_cons.mpr ⟨lw_p21, List.forall_mem_cons.mpr ⟨lw_p22, List.forall_mem_cons.mpr ⟨lw_p23, List.forall_mem_cons.mpr ⟨lw_p24, List.forall_mem_cons.mpr ⟨lw_p25, List.forall_mem_cons.mpr ⟨lw_p26, List.forall_mem_cons.mpr ⟨lw_p27, List.forall_mem_cons.mpr ⟨lw_p28, List.forall_mem_cons.mpr ⟨lw_p29, List.forall_mem_cons.mpr ⟨lw_p30, fun _ h => absurd h List.not_mem_nil⟩⟩⟩⟩⟩⟩⟩⟩⟩⟩⟩⟩⟩⟩⟩
def lw_privs : List (MethodName × Nat) := lw_privs_1 ++ (lw_privs_2)
def lw_tbl : List Cond := k2_sels lw_privs ++ tables_1
theorem lw_privs_ok : ∀ q ∈ lw_privs, lw_okq q := by
  show ∀ q ∈ lw_privs_1 ++ (lw_privs_2), lw_okq q
  exact List.forall_mem_append.mpr ⟨lw_r1, lw_r2⟩
def RX0 : String := "GleePrize$Laying"
def TX0 : u_T := fun k => match k with
  | 0 => ("GleePrize$Laying", "first", "[I", true)
  | 1 => ("GleePrize$Laying", "many", "[I", true)
  | 2 => ("GleePrize$Laying", "offs", "[I", true)
  | 3 => ("GleePrize$Laying", "fault", "[I", true)
  | 4 => ("GleePrize$Laying", "size", "I", false)
  | 5 => ("GleePrize$Laying", "cost", "I", false)
  | 6 => ("GleePrize$Laying", "sunk", "I", false)
  | 7 => ("GleePrize$Laying", "faults", "I", false)
  | 8 => ("GleePrize$Laying", "recordingLaid", "I", false)
  | 9 => ("GleePrize$Laying", "best", "[[I", true)
  | 10 => ("GleePrize$Laying", "sums", "[I", true)
  | 11 => ("GleePrize$Laying", "tooFew", "[I", true)
  | _ => ("GleePrize$Laying", "enough", "[I", true)
def tyX0 : Nat → FieldType := fun k => match k with
  | 0 => .array .int
  | 1 => .array .int
  | 2 => .array .int
  | 3 => .array .int
  | 4 => .int
  | 5 => .int
  | 6 => .int
  | 7 => .int
  | 8 => .int
  | 9 => .array (.array .int)
  | 10 => .array .int
  | 11 => .array .int
  | _ => .array .int
abbrev wsX00 : List Cond := u_ws RX0 TX0 13
theorem nmX0 : ∀ a, a < 13 → ∀ b, b < 13 → a ≠ b → (TX0 a).2.1 ≠ (TX0 b).2.1 := by decide +kernel
theorem tyX0_ok : ∀ k, k < 13 → parseFieldDescriptor (TX0 k).2.2.1 = some (tyX0 k) := by decide +kernel
abbrev cX0_init : ByteArray := prog_2_method_1_code
def yX0_init : MethodName := ⟨RX0, "<init>", "()V"⟩
abbrev cX0_forget : ByteArray := prog_2_method_2_code
def yX0_forget : MethodName := ⟨RX0, "forget", "()V"⟩
abbrev cX0_find : ByteArray := prog_2_method_3_code
def yX0_find : MethodName := ⟨RX0, "find", "(LGleePrize$Piece;LGleePrize$Recording;LGleePrize$Measure;)V"⟩
abbrev cX0_endAt : ByteArray := prog_2_method_4_code
def yX0_endAt : MethodName := ⟨RX0, "endAt", "(I)V"⟩
abbrev cX0_addUpReadings : ByteArray := prog_2_method_5_code
def yX0_addUpReadings : MethodName := ⟨RX0, "addUpReadings", "(LGleePrize$Recording;LGleePrize$Measure;I)V"⟩
abbrev cX0_splitByLength : ByteArray := prog_2_method_6_code
def yX0_splitByLength : MethodName := ⟨RX0, "splitByLength", "([III)V"⟩
abbrev cX0_findLeast : ByteArray := prog_2_method_7_code
def yX0_findLeast : MethodName := ⟨RX0, "findLeast", "(IIILGleePrize$Measure;)I"⟩
abbrev cX0_layForward : ByteArray := prog_2_method_8_code
def yX0_layForward : MethodName := ⟨RX0, "layForward", "(LGleePrize$Piece;LGleePrize$Recording;LGleePrize$Measure;)V"⟩
abbrev cX0_findTaken : ByteArray := prog_2_method_9_code
def yX0_findTaken : MethodName := ⟨RX0, "findTaken", "(LGleePrize$Piece;LGleePrize$Recording;LGleePrize$Measure;II)I"⟩
abbrev cX0_hear : ByteArray := prog_2_method_10_code
def yX0_hear : MethodName := ⟨RX0, "hear", "(LGleePrize$Piece;LGleePrize$Recording;I)V"⟩
abbrev cX0_findOff : ByteArray := prog_2_method_11_code
def yX0_findOff : MethodName := ⟨RX0, "findOff", "(LGleePrize$Recording;II)I"⟩
def RX1 : String := "GleePrize$Measure"
def TX1 : u_T := fun k => match k with
  | 0 => ("GleePrize$Measure", "tempo", "I", false)
  | 1 => ("GleePrize$Measure", "hole", "I", false)
  | 2 => ("GleePrize$Measure", "stretch", "I", false)
  | 3 => ("GleePrize$Measure", "lack", "I", false)
  | _ => ("GleePrize$Measure", "ear", "I", false)
def tyX1 : Nat → FieldType := fun k => match k with
  | 0 => .int
  | 1 => .int
  | 2 => .int
  | 3 => .int
  | _ => .int
abbrev wsX10 : List Cond := u_ws RX1 TX1 5
theorem nmX1 : ∀ a, a < 5 → ∀ b, b < 5 → a ≠ b → (TX1 a).2.1 ≠ (TX1 b).2.1 := by decide +kernel
theorem tyX1_ok : ∀ k, k < 5 → parseFieldDescriptor (TX1 k).2.2.1 = some (tyX1 k) := by decide +kernel
abbrev cX1_init : ByteArray := prog_3_method_1_code
def yX1_init : MethodName := ⟨RX1, "<init>", "()V"⟩
abbrev cX1_change : ByteArray := prog_3_method_2_code
def yX1_change : MethodName := ⟨RX1, "change", "(IIIII)V"⟩
abbrev cX1_costOfReading : ByteArray := prog_3_method_3_code
def yX1_costOfReading : MethodName := ⟨RX1, "costOfReading", "(II)I"⟩
abbrev cX1_costOfLength : ByteArray := prog_3_method_4_code
def yX1_costOfLength : MethodName := ⟨RX1, "costOfLength", "(II)I"⟩
def RX2 : String := "GleePrize$Panel"
def TX2 : u_T := fun k => match k with
  | 0 => ("GleePrize$Panel", "singing", "I", false)
  | 1 => ("GleePrize$Panel", "rowBits", "[I", true)
  | _ => ("GleePrize$Panel", "rankIn", "[[I", true)
def tyX2 : Nat → FieldType := fun k => match k with
  | 0 => .int
  | 1 => .array .int
  | _ => .array (.array .int)
abbrev wsX20 : List Cond := u_ws RX2 TX2 3
theorem nmX2 : ∀ a, a < 3 → ∀ b, b < 3 → a ≠ b → (TX2 a).2.1 ≠ (TX2 b).2.1 := by decide +kernel
theorem tyX2_ok : ∀ k, k < 3 → parseFieldDescriptor (TX2 k).2.2.1 = some (tyX2 k) := by decide +kernel
abbrev cX2_init : ByteArray := prog_4_method_1_code
def yX2_init : MethodName := ⟨RX2, "<init>", "()V"⟩
abbrev cX2_takeRow : ByteArray := prog_4_method_2_code
def yX2_takeRow : MethodName := ⟨RX2, "takeRow", "(IIJ)Z"⟩
abbrev cX2_clubAt : ByteArray := prog_4_method_3_code
def yX2_clubAt : MethodName := ⟨RX2, "clubAt", "(JI)I"⟩
abbrev cX2_isSinging : ByteArray := prog_4_method_4_code
def yX2_isSinging : MethodName := ⟨RX2, "isSinging", "(I)Z"⟩
abbrev cX2_isCounting : ByteArray := prog_4_method_5_code
def yX2_isCounting : MethodName := ⟨RX2, "isCounting", "(I)Z"⟩
abbrev cX2_countJudges : ByteArray := prog_4_method_6_code
def yX2_countJudges : MethodName := ⟨RX2, "countJudges", "()I"⟩
abbrev cX2_countRanks : ByteArray := prog_4_method_7_code
def yX2_countRanks : MethodName := ⟨RX2, "countRanks", "(II)I"⟩
abbrev cX2_sumRanks : ByteArray := prog_4_method_8_code
def yX2_sumRanks : MethodName := ⟨RX2, "sumRanks", "(II)I"⟩
abbrev cX2_findPlace : ByteArray := prog_4_method_9_code
def yX2_findPlace : MethodName := ⟨RX2, "findPlace", "(I)I"⟩
abbrev cX2_findGreaterHalf : ByteArray := prog_4_method_10_code
def yX2_findGreaterHalf : MethodName := ⟨RX2, "findGreaterHalf", "(I)I"⟩
abbrev cX2_isAhead : ByteArray := prog_4_method_11_code
def yX2_isAhead : MethodName := ⟨RX2, "isAhead", "(III)Z"⟩
def RX3 : String := "GleePrize$Piece"
def TX3 : u_T := fun k => match k with
  | 0 => ("GleePrize$Piece", "pitches", "[I", true)
  | 1 => ("GleePrize$Piece", "beats", "[I", true)
  | _ => ("GleePrize$Piece", "size", "I", false)
def tyX3 : Nat → FieldType := fun k => match k with
  | 0 => .array .int
  | 1 => .array .int
  | _ => .int
abbrev wsX30 : List Cond := u_ws RX3 TX3 3
theorem nmX3 : ∀ a, a < 3 → ∀ b, b < 3 → a ≠ b → (TX3 a).2.1 ≠ (TX3 b).2.1 := by decide +kernel
theorem tyX3_ok : ∀ k, k < 3 → parseFieldDescriptor (TX3 k).2.2.1 = some (tyX3 k) := by decide +kernel
abbrev cX3_init : ByteArray := prog_5_method_1_code
def yX3_init : MethodName := ⟨RX3, "<init>", "()V"⟩
abbrev cX3_addNote : ByteArray := prog_5_method_2_code
def yX3_addNote : MethodName := ⟨RX3, "addNote", "(II)I"⟩
def RX4 : String := "GleePrize$Recording"
def TX4 : u_T := fun k => match k with
  | 0 => ("GleePrize$Recording", "readings", "[I", true)
  | 1 => ("GleePrize$Recording", "size", "I", false)
  | _ => ("GleePrize$Recording", "piece", "I", false)
def tyX4 : Nat → FieldType := fun k => match k with
  | 0 => .array .int
  | 1 => .int
  | _ => .int
abbrev wsX40 : List Cond := u_ws RX4 TX4 3
theorem nmX4 : ∀ a, a < 3 → ∀ b, b < 3 → a ≠ b → (TX4 a).2.1 ≠ (TX4 b).2.1 := by decide +kernel
theorem tyX4_ok : ∀ k, k < 3 → parseFieldDescriptor (TX4 k).2.2.1 = some (tyX4 k) := by decide +kernel
abbrev cX4_init : ByteArray := prog_6_method_1_code
def yX4_init : MethodName := ⟨RX4, "<init>", "()V"⟩
abbrev cX4_startAnew : ByteArray := prog_6_method_2_code
def yX4_startAnew : MethodName := ⟨RX4, "startAnew", "(I)I"⟩
abbrev cX4_addReadings : ByteArray := prog_6_method_3_code
def yX4_addReadings : MethodName := ⟨RX4, "addReadings", "(II)I"⟩
def RX5 : String := "GleePrize$Roll"
def TX5 : u_T := fun k => match k with
  | 0 => ("GleePrize$Roll", "persons", "[I", true)
  | 1 => ("GleePrize$Roll", "clubs", "[I", true)
  | 2 => ("GleePrize$Roll", "starts", "[I", true)
  | 3 => ("GleePrize$Roll", "ends", "[I", true)
  | _ => ("GleePrize$Roll", "size", "I", false)
def tyX5 : Nat → FieldType := fun k => match k with
  | 0 => .array .int
  | 1 => .array .int
  | 2 => .array .int
  | 3 => .array .int
  | _ => .int
abbrev wsX50 : List Cond := u_ws RX5 TX5 5
theorem nmX5 : ∀ a, a < 5 → ∀ b, b < 5 → a ≠ b → (TX5 a).2.1 ≠ (TX5 b).2.1 := by decide +kernel
theorem tyX5_ok : ∀ k, k < 5 → parseFieldDescriptor (TX5 k).2.2.1 = some (tyX5 k) := by decide +kernel
abbrev cX5_init : ByteArray := prog_7_method_1_code
def yX5_init : MethodName := ⟨RX5, "<init>", "()V"⟩
abbrev cX5_addSpan : ByteArray := prog_7_method_2_code
def yX5_addSpan : MethodName := ⟨RX5, "addSpan", "(IIII)I"⟩
abbrev cX5_findSingers : ByteArray := prog_7_method_3_code
def yX5_findSingers : MethodName := ⟨RX5, "findSingers", "(II)I"⟩
def RX6 : String := "GleePrize$Timetable"
def TX6 : u_T := fun k => match k with
  | 0 => ("GleePrize$Timetable", "hourOf", "[I", true)
  | 1 => ("GleePrize$Timetable", "size", "I", false)
  | 2 => ("GleePrize$Timetable", "hallCount", "I", false)
  | 3 => ("GleePrize$Timetable", "stood", "I", false)
  | 4 => ("GleePrize$Timetable", "clubs", "[I", true)
  | 5 => ("GleePrize$Timetable", "singersOf", "[I", true)
  | 6 => ("GleePrize$Timetable", "clashes", "[I", true)
  | _ => ("GleePrize$Timetable", "inHour", "[I", true)
def tyX6 : Nat → FieldType := fun k => match k with
  | 0 => .array .int
  | 1 => .int
  | 2 => .int
  | 3 => .int
  | 4 => .array .int
  | 5 => .array .int
  | 6 => .array .int
  | _ => .array .int
abbrev wsX60 : List Cond := u_ws RX6 TX6 8
theorem nmX6 : ∀ a, a < 8 → ∀ b, b < 8 → a ≠ b → (TX6 a).2.1 ≠ (TX6 b).2.1 := by decide +kernel
theorem tyX6_ok : ∀ k, k < 8 → parseFieldDescriptor (TX6 k).2.2.1 = some (tyX6 k) := by decide +kernel
abbrev cX6_init : ByteArray := prog_8_method_1_code
def yX6_init : MethodName := ⟨RX6, "<init>", "()V"⟩
abbrev cX6_addPerformance : ByteArray := prog_8_method_2_code
def yX6_addPerformance : MethodName := ⟨RX6, "addPerformance", "(I)I"⟩
abbrev cX6_findHours : ByteArray := prog_8_method_3_code
def yX6_findHours : MethodName := ⟨RX6, "findHours", "(LGleePrize$Roll;I)I"⟩
abbrev cX6_countNeeded : ByteArray := prog_8_method_4_code
def yX6_countNeeded : MethodName := ⟨RX6, "countNeeded", "()I"⟩
abbrev cX6_findClashes : ByteArray := prog_8_method_5_code
def yX6_findClashes : MethodName := ⟨RX6, "findClashes", "(LGleePrize$Roll;I)V"⟩
abbrev cX6_standsFrom : ByteArray := prog_8_method_6_code
def yX6_standsFrom : MethodName := ⟨RX6, "standsFrom", "(III)Z"⟩
def RX7 : String := "GleePrize"
def TX7 : u_T := fun k => match k with
  | 0 => ("GleePrize", "pieces", "[LGleePrize$Piece;", true)
  | 1 => ("GleePrize", "recordings", "[LGleePrize$Recording;", true)
  | 2 => ("GleePrize", "measure", "LGleePrize$Measure;", true)
  | 3 => ("GleePrize", "laying", "LGleePrize$Laying;", true)
  | 4 => ("GleePrize", "panel", "LGleePrize$Panel;", true)
  | 5 => ("GleePrize", "roll", "LGleePrize$Roll;", true)
  | 6 => ("GleePrize", "timetable", "LGleePrize$Timetable;", true)
  | _ => ("GleePrize", "order", "[I", true)
def tyX7 : Nat → FieldType := fun k => match k with
  | 0 => .array (.object "GleePrize$Piece")
  | 1 => .array (.object "GleePrize$Recording")
  | 2 => .object "GleePrize$Measure"
  | 3 => .object "GleePrize$Laying"
  | 4 => .object "GleePrize$Panel"
  | 5 => .object "GleePrize$Roll"
  | 6 => .object "GleePrize$Timetable"
  | _ => .array .int
abbrev wsX70 : List Cond := u_ws RX7 TX7 8
theorem nmX7 : ∀ a, a < 8 → ∀ b, b < 8 → a ≠ b → (TX7 a).2.1 ≠ (TX7 b).2.1 := by decide +kernel
theorem tyX7_ok : ∀ k, k < 8 → parseFieldDescriptor (TX7 k).2.2.1 = some (tyX7 k) := by decide +kernel
abbrev cX7_init : ByteArray := prog_1_method_1_code
def yX7_init : MethodName := ⟨RX7, "<init>", "()V"⟩
abbrev cX7_note : ByteArray := prog_1_method_2_code
def yX7_note : MethodName := ⟨RX7, "note", "(III)I"⟩
abbrev cX7_record : ByteArray := prog_1_method_3_code
def yX7_record : MethodName := ⟨RX7, "record", "(II)I"⟩
abbrev cX7_read : ByteArray := prog_1_method_4_code
def yX7_read : MethodName := ⟨RX7, "read", "(III)I"⟩
abbrev cX7_rules : ByteArray := prog_1_method_5_code
def yX7_rules : MethodName := ⟨RX7, "rules", "(IIIII)Z"⟩
abbrev cX7_lay : ByteArray := prog_1_method_6_code
def yX7_lay : MethodName := ⟨RX7, "lay", "(I)I"⟩
abbrev cX7_laid : ByteArray := prog_1_method_7_code
def yX7_laid : MethodName := ⟨RX7, "laid", "(III)I"⟩
abbrev cX7_off : ByteArray := prog_1_method_8_code
def yX7_off : MethodName := ⟨RX7, "off", "(II)I"⟩
abbrev cX7_told : ByteArray := prog_1_method_9_code
def yX7_told : MethodName := ⟨RX7, "told", "(II)I"⟩
abbrev cX7_sing : ByteArray := prog_1_method_10_code
def yX7_sing : MethodName := ⟨RX7, "sing", "(I)I"⟩
abbrev cX7_judge : ByteArray := prog_1_method_11_code
def yX7_judge : MethodName := ⟨RX7, "judge", "(IIJ)Z"⟩
abbrev cX7_judges : ByteArray := prog_1_method_12_code
def yX7_judges : MethodName := ⟨RX7, "judges", "()I"⟩
abbrev cX7_place : ByteArray := prog_1_method_13_code
def yX7_place : MethodName := ⟨RX7, "place", "(I)I"⟩
abbrev cX7_ranks : ByteArray := prog_1_method_14_code
def yX7_ranks : MethodName := ⟨RX7, "ranks", "(II)I"⟩
abbrev cX7_member : ByteArray := prog_1_method_15_code
def yX7_member : MethodName := ⟨RX7, "member", "(IIII)I"⟩
abbrev cX7_may : ByteArray := prog_1_method_16_code
def yX7_may : MethodName := ⟨RX7, "may", "(III)I"⟩
abbrev cX7_singers : ByteArray := prog_1_method_17_code
def yX7_singers : MethodName := ⟨RX7, "singers", "(II)I"⟩
abbrev cX7_perform : ByteArray := prog_1_method_18_code
def yX7_perform : MethodName := ⟨RX7, "perform", "(I)I"⟩
abbrev cX7_clear : ByteArray := prog_1_method_19_code
def yX7_clear : MethodName := ⟨RX7, "clear", "()I"⟩
abbrev cX7_halls : ByteArray := prog_1_method_20_code
def yX7_halls : MethodName := ⟨RX7, "halls", "(I)I"⟩
abbrev cX7_hours : ByteArray := prog_1_method_21_code
def yX7_hours : MethodName := ⟨RX7, "hours", "(I)I"⟩
abbrev cX7_hour : ByteArray := prog_1_method_22_code
def yX7_hour : MethodName := ⟨RX7, "hour", "(I)I"⟩
abbrev cX7_draw : ByteArray := prog_1_method_23_code
def yX7_draw : MethodName := ⟨RX7, "draw", "(III)I"⟩
abbrev cX7_isWithin : ByteArray := prog_1_method_24_code
def yX7_isWithin : MethodName := ⟨RX7, "isWithin", "(III)Z"⟩
abbrev cX7_isDay : ByteArray := prog_1_method_25_code
def yX7_isDay : MethodName := ⟨RX7, "isDay", "(I)Z"⟩
abbrev cX7_hasLaying : ByteArray := prog_1_method_26_code
def yX7_hasLaying : MethodName := ⟨RX7, "hasLaying", "(I)Z"⟩
abbrev cX7_drawOrder : ByteArray := prog_1_method_27_code
def yX7_drawOrder : MethodName := ⟨RX7, "drawOrder", "(II)V"⟩
def RX8 : String := "GleePrizeModel"
def TX8 : u_T := fun k => match k with
  | 0 => ("GleePrizeModel", "notes", "[I", true)
  | 1 => ("GleePrizeModel", "pitch", "[I", true)
  | 2 => ("GleePrizeModel", "beats", "[I", true)
  | 3 => ("GleePrizeModel", "pieceOf", "[I", true)
  | 4 => ("GleePrizeModel", "readings", "[I", true)
  | 5 => ("GleePrizeModel", "reading", "[I", true)
  | 6 => ("GleePrizeModel", "tempo", "I", false)
  | 7 => ("GleePrizeModel", "hole", "I", false)
  | 8 => ("GleePrizeModel", "stretch", "I", false)
  | 9 => ("GleePrizeModel", "lack", "I", false)
  | 10 => ("GleePrizeModel", "ear", "I", false)
  | 11 => ("GleePrizeModel", "least", "[I", true)
  | 12 => ("GleePrizeModel", "take", "[I", true)
  | 13 => ("GleePrizeModel", "first", "[I", true)
  | 14 => ("GleePrizeModel", "offs", "[I", true)
  | 15 => ("GleePrizeModel", "hasOff", "[Z", true)
  | 16 => ("GleePrizeModel", "singing", "I", false)
  | 17 => ("GleePrizeModel", "rowMany", "[I", true)
  | 18 => ("GleePrizeModel", "rowBits", "[I", true)
  | 19 => ("GleePrizeModel", "rank", "[I", true)
  | 20 => ("GleePrizeModel", "places", "[I", true)
  | 21 => ("GleePrizeModel", "spans", "I", false)
  | 22 => ("GleePrizeModel", "who", "[I", true)
  | 23 => ("GleePrizeModel", "clubOf", "[I", true)
  | 24 => ("GleePrizeModel", "fromDay", "[I", true)
  | 25 => ("GleePrizeModel", "toDay", "[I", true)
  | 26 => ("GleePrizeModel", "performs", "I", false)
  | 27 => ("GleePrizeModel", "performClub", "[I", true)
  | 28 => ("GleePrizeModel", "halls", "I", false)
  | 29 => ("GleePrizeModel", "found", "I", false)
  | 30 => ("GleePrizeModel", "foundHour", "[I", true)
  | 31 => ("GleePrizeModel", "hour", "[I", true)
  | 32 => ("GleePrizeModel", "meet", "[Z", true)
  | _ => ("GleePrizeModel", "drawn", "[I", true)
def tyX8 : Nat → FieldType := fun k => match k with
  | 0 => .array .int
  | 1 => .array .int
  | 2 => .array .int
  | 3 => .array .int
  | 4 => .array .int
  | 5 => .array .int
  | 6 => .int
  | 7 => .int
  | 8 => .int
  | 9 => .int
  | 10 => .int
  | 11 => .array .int
  | 12 => .array .int
  | 13 => .array .int
  | 14 => .array .int
  | 15 => .array .boolean
  | 16 => .int
  | 17 => .array .int
  | 18 => .array .int
  | 19 => .array .int
  | 20 => .array .int
  | 21 => .int
  | 22 => .array .int
  | 23 => .array .int
  | 24 => .array .int
  | 25 => .array .int
  | 26 => .int
  | 27 => .array .int
  | 28 => .int
  | 29 => .int
  | 30 => .array .int
  | 31 => .array .int
  | 32 => .array .boolean
  | _ => .array .int
abbrev wsX80 : List Cond := u_ws RX8 TX8 34
theorem nmX8 : ∀ a, a < 34 → ∀ b, b < 34 → a ≠ b → (TX8 a).2.1 ≠ (TX8 b).2.1 := by decide +kernel
theorem tyX8_ok : ∀ k, k < 34 → parseFieldDescriptor (TX8 k).2.2.1 = some (tyX8 k) := by decide +kernel
abbrev cX8_init : ByteArray := prog_10_method_1_code
def yX8_init : MethodName := ⟨RX8, "<init>", "()V"⟩
abbrev cX8_isIn : ByteArray := prog_10_method_2_code
def yX8_isIn : MethodName := ⟨RX8, "isIn", "(III)Z"⟩
abbrev cX8_isRecording : ByteArray := prog_10_method_3_code
def yX8_isRecording : MethodName := ⟨RX8, "isRecording", "(I)Z"⟩
abbrev cX8_far : ByteArray := prog_10_method_4_code
def yX8_far : MethodName := ⟨RX8, "far", "(II)I"⟩
abbrev cX8_note : ByteArray := prog_10_method_5_code
def yX8_note : MethodName := ⟨RX8, "note", "(III)I"⟩
abbrev cX8_record : ByteArray := prog_10_method_6_code
def yX8_record : MethodName := ⟨RX8, "record", "(II)I"⟩
abbrev cX8_read : ByteArray := prog_10_method_7_code
def yX8_read : MethodName := ⟨RX8, "read", "(III)I"⟩
abbrev cX8_rules : ByteArray := prog_10_method_8_code
def yX8_rules : MethodName := ⟨RX8, "rules", "(IIIII)Z"⟩
abbrev cX8_readCost : ByteArray := prog_10_method_9_code
def yX8_readCost : MethodName := ⟨RX8, "readCost", "(III)I"⟩
abbrev cX8_shapeCost : ByteArray := prog_10_method_10_code
def yX8_shapeCost : MethodName := ⟨RX8, "shapeCost", "(II)I"⟩
abbrev cX8_place : ByteArray := prog_10_method_11_code
def yX8_place : MethodName := ⟨RX8, "place", "(II)I"⟩
abbrev cX8_lays : ByteArray := prog_10_method_12_code
def yX8_lays : MethodName := ⟨RX8, "lays", "(I)I"⟩
abbrev cX8_takes : ByteArray := prog_10_method_13_code
def yX8_takes : MethodName := ⟨RX8, "takes", "(IIII)V"⟩
abbrev cX8_lay : ByteArray := prog_10_method_14_code
def yX8_lay : MethodName := ⟨RX8, "lay", "(I)I"⟩
abbrev cX8_isNote : ByteArray := prog_10_method_15_code
def yX8_isNote : MethodName := ⟨RX8, "isNote", "(II)Z"⟩
abbrev cX8_isFault : ByteArray := prog_10_method_16_code
def yX8_isFault : MethodName := ⟨RX8, "isFault", "(I)Z"⟩
abbrev cX8_laid : ByteArray := prog_10_method_17_code
def yX8_laid : MethodName := ⟨RX8, "laid", "(III)I"⟩
abbrev cX8_off : ByteArray := prog_10_method_18_code
def yX8_off : MethodName := ⟨RX8, "off", "(II)I"⟩
abbrev cX8_told : ByteArray := prog_10_method_19_code
def yX8_told : MethodName := ⟨RX8, "told", "(II)I"⟩
abbrev cX8_ones : ByteArray := prog_10_method_20_code
def yX8_ones : MethodName := ⟨RX8, "ones", "(I)I"⟩
abbrev cX8_sing : ByteArray := prog_10_method_21_code
def yX8_sing : MethodName := ⟨RX8, "sing", "(I)I"⟩
abbrev cX8_judge : ByteArray := prog_10_method_22_code
def yX8_judge : MethodName := ⟨RX8, "judge", "(IIJ)Z"⟩
abbrev cX8_hasJudge : ByteArray := prog_10_method_23_code
def yX8_hasJudge : MethodName := ⟨RX8, "hasJudge", "(I)Z"⟩
abbrev cX8_judges : ByteArray := prog_10_method_24_code
def yX8_judges : MethodName := ⟨RX8, "judges", "()I"⟩
abbrev cX8_sings : ByteArray := prog_10_method_25_code
def yX8_sings : MethodName := ⟨RX8, "sings", "(I)Z"⟩
abbrev cX8_ranked : ByteArray := prog_10_method_26_code
def yX8_ranked : MethodName := ⟨RX8, "ranked", "(IIZ)I"⟩
abbrev cX8_against : ByteArray := prog_10_method_27_code
def yX8_against : MethodName := ⟨RX8, "against", "(III)I"⟩
abbrev cX8_placesOf : ByteArray := prog_10_method_28_code
def yX8_placesOf : MethodName := ⟨RX8, "placesOf", "()V"⟩
abbrev cX8_place_ : ByteArray := prog_10_method_29_code
def yX8_place_ : MethodName := ⟨RX8, "place", "(I)I"⟩
abbrev cX8_ranks : ByteArray := prog_10_method_30_code
def yX8_ranks : MethodName := ⟨RX8, "ranks", "(II)I"⟩
abbrev cX8_member : ByteArray := prog_10_method_31_code
def yX8_member : MethodName := ⟨RX8, "member", "(IIII)I"⟩
abbrev cX8_singers : ByteArray := prog_10_method_32_code
def yX8_singers : MethodName := ⟨RX8, "singers", "(II)I"⟩
abbrev cX8_may : ByteArray := prog_10_method_33_code
def yX8_may : MethodName := ⟨RX8, "may", "(III)I"⟩
abbrev cX8_perform : ByteArray := prog_10_method_34_code
def yX8_perform : MethodName := ⟨RX8, "perform", "(I)I"⟩
abbrev cX8_clear : ByteArray := prog_10_method_35_code
def yX8_clear : MethodName := ⟨RX8, "clear", "()I"⟩
abbrev cX8_halls : ByteArray := prog_10_method_36_code
def yX8_halls : MethodName := ⟨RX8, "halls", "(I)I"⟩
abbrev cX8_mayBe : ByteArray := prog_10_method_37_code
def yX8_mayBe : MethodName := ⟨RX8, "mayBe", "(II)Z"⟩
abbrev cX8_stand : ByteArray := prog_10_method_38_code
def yX8_stand : MethodName := ⟨RX8, "stand", "(I)Z"⟩
abbrev cX8_hours : ByteArray := prog_10_method_39_code
def yX8_hours : MethodName := ⟨RX8, "hours", "(I)I"⟩
abbrev cX8_hour : ByteArray := prog_10_method_40_code
def yX8_hour : MethodName := ⟨RX8, "hour", "(I)I"⟩
abbrev cX8_draw : ByteArray := prog_10_method_41_code
def yX8_draw : MethodName := ⟨RX8, "draw", "(III)I"⟩
def RJ6 : String := "java/lang/Integer"
abbrev cJ6_bitCount_0f7a4 : ByteArray := prog_11_method_49_code
def yJ6_bitCount_0f7a4 : MethodName := ⟨RJ6, "bitCount", "(I)I"⟩
def RJ9 : String := "java/lang/Math"
abbrev cJ9_floorDiv_7cf53 : ByteArray := prog_12_method_47_code
def yJ9_floorDiv_7cf53 : MethodName := ⟨RJ9, "floorDiv", "(II)I"⟩
abbrev cJ9_abs_0f7a4 : ByteArray := prog_12_method_59_code
def yJ9_abs_0f7a4 : MethodName := ⟨RJ9, "abs", "(I)I"⟩
abbrev cJ9_max_7cf53 : ByteArray := prog_12_method_65_code
def yJ9_max_7cf53 : MethodName := ⟨RJ9, "max", "(II)I"⟩
abbrev cJ9_min_7cf53 : ByteArray := prog_12_method_69_code
def yJ9_min_7cf53 : MethodName := ⟨RJ9, "min", "(II)I"⟩
def RL : String := "GleePrizeLaw"
abbrev cL_law : ByteArray := code
def yL_law : MethodName := ⟨RL, "law", "([I)Z"⟩
abbrev vwCl : List vw_C := [(RX0, TX0, 13), (RX1, TX1, 5), (RX2, TX2, 3), (RX3, TX3, 3), (RX4, TX4, 3), (RX5, TX5, 5), (RX6, TX6, 8), (RX7, TX7, 8), (RX8, TX8, 34)]
end
section
theorem dX0_init_0 : decode cX0_init 0 = .ok (.aload_n 0, 1) := by decide +kernel
theorem dX0_init_1 : decode cX0_init 1 = .ok (.invokespecial 3, 3) := by decide +kernel
theorem dX0_init_4 : decode cX0_init 4 = .ok (.aload_n 0, 1) := by decide +kernel
theorem dX0_init_5 : decode cX0_init 5 = .ok (.bipush 24, 2) := by decide +kernel
theorem dX0_init_7 : decode cX0_init 7 = .ok (.newarray .int, 2) := by decide +kernel
theorem dX0_init_9 : decode cX0_init 9 = .ok (.putfield 9, 3) := by decide +kernel
theorem dX0_init_12 : decode cX0_init 12 = .ok (.aload_n 0, 1) := by decide +kernel
theorem dX0_init_13 : decode cX0_init 13 = .ok (.bipush 24, 2) := by decide +kernel
theorem dX0_init_15 : decode cX0_init 15 = .ok (.newarray .int, 2) := by decide +kernel
theorem dX0_init_17 : decode cX0_init 17 = .ok (.putfield 15, 3) := by decide +kernel
theorem dX0_init_20 : decode cX0_init 20 = .ok (.aload_n 0, 1) := by decide +kernel
theorem dX0_init_21 : decode cX0_init 21 = .ok (.bipush 24, 2) := by decide +kernel
theorem dX0_init_23 : decode cX0_init 23 = .ok (.newarray .int, 2) := by decide +kernel
theorem dX0_init_25 : decode cX0_init 25 = .ok (.putfield 18, 3) := by decide +kernel
theorem dX0_init_28 : decode cX0_init 28 = .ok (.aload_n 0, 1) := by decide +kernel
theorem dX0_init_29 : decode cX0_init 29 = .ok (.bipush 24, 2) := by decide +kernel
theorem dX0_init_31 : decode cX0_init 31 = .ok (.newarray .int, 2) := by decide +kernel
theorem dX0_init_33 : decode cX0_init 33 = .ok (.putfield 21, 3) := by decide +kernel
theorem dX0_init_36 : decode cX0_init 36 = .ok (.aload_n 0, 1) := by decide +kernel
theorem dX0_init_37 : decode cX0_init 37 = .ok (.iconst 0, 1) := by decide +kernel
theorem dX0_init_38 : decode cX0_init 38 = .ok (.putfield 24, 3) := by decide +kernel
theorem dX0_init_41 : decode cX0_init 41 = .ok (.aload_n 0, 1) := by decide +kernel
theorem dX0_init_42 : decode cX0_init 42 = .ok (.iconst 0, 1) := by decide +kernel
theorem dX0_init_43 : decode cX0_init 43 = .ok (.putfield 28, 3) := by decide +kernel
theorem dX0_init_46 : decode cX0_init 46 = .ok (.aload_n 0, 1) := by decide +kernel
theorem dX0_init_47 : decode cX0_init 47 = .ok (.iconst 0, 1) := by decide +kernel
theorem dX0_init_48 : decode cX0_init 48 = .ok (.putfield 31, 3) := by decide +kernel
theorem dX0_init_51 : decode cX0_init 51 = .ok (.aload_n 0, 1) := by decide +kernel
theorem dX0_init_52 : decode cX0_init 52 = .ok (.iconst 0, 1) := by decide +kernel
theorem dX0_init_53 : decode cX0_init 53 = .ok (.putfield 34, 3) := by decide +kernel
theorem dX0_init_56 : decode cX0_init 56 = .ok (.aload_n 0, 1) := by decide +kernel
theorem dX0_init_57 : decode cX0_init 57 = .ok (.iconst (-1), 1) := by decide +kernel
theorem dX0_init_58 : decode cX0_init 58 = .ok (.putfield 37, 3) := by decide +kernel
theorem dX0_init_61 : decode cX0_init 61 = .ok (.aload_n 0, 1) := by decide +kernel
theorem dX0_init_62 : decode cX0_init 62 = .ok (.bipush 25, 2) := by decide +kernel
theorem dX0_init_64 : decode cX0_init 64 = .ok (.bipush 121, 2) := by decide +kernel
theorem dX0_init_66 : decode cX0_init 66 = .ok (.multianewarray 40 2, 4) := by decide +kernel
theorem dX0_init_70 : decode cX0_init 70 = .ok (.putfield 42, 3) := by decide +kernel
theorem dX0_init_73 : decode cX0_init 73 = .ok (.aload_n 0, 1) := by decide +kernel
theorem dX0_init_74 : decode cX0_init 74 = .ok (.bipush 121, 2) := by decide +kernel
theorem dX0_init_76 : decode cX0_init 76 = .ok (.newarray .int, 2) := by decide +kernel
theorem dX0_init_78 : decode cX0_init 78 = .ok (.putfield 45, 3) := by decide +kernel
theorem dX0_init_81 : decode cX0_init 81 = .ok (.aload_n 0, 1) := by decide +kernel
theorem dX0_init_82 : decode cX0_init 82 = .ok (.bipush 121, 2) := by decide +kernel
theorem dX0_init_84 : decode cX0_init 84 = .ok (.newarray .int, 2) := by decide +kernel
theorem dX0_init_86 : decode cX0_init 86 = .ok (.putfield 48, 3) := by decide +kernel
theorem dX0_init_89 : decode cX0_init 89 = .ok (.aload_n 0, 1) := by decide +kernel
theorem dX0_init_90 : decode cX0_init 90 = .ok (.bipush 121, 2) := by decide +kernel
theorem dX0_init_92 : decode cX0_init 92 = .ok (.newarray .int, 2) := by decide +kernel
theorem dX0_init_94 : decode cX0_init 94 = .ok (.putfield 51, 3) := by decide +kernel
theorem dX0_init_97 : decode cX0_init 97 = .ok (.return_, 1) := by decide +kernel
theorem dX0_forget_0 : decode cX0_forget 0 = .ok (.aload_n 0, 1) := by decide +kernel
theorem dX0_forget_1 : decode cX0_forget 1 = .ok (.iconst (-1), 1) := by decide +kernel
theorem dX0_forget_2 : decode cX0_forget 2 = .ok (.putfield 37, 3) := by decide +kernel
theorem dX0_forget_5 : decode cX0_forget 5 = .ok (.return_, 1) := by decide +kernel
theorem dX0_find_0 : decode cX0_find 0 = .ok (.aload_n 0, 1) := by decide +kernel
theorem dX0_find_1 : decode cX0_find 1 = .ok (.aload_n 1, 1) := by decide +kernel
theorem dX0_find_2 : decode cX0_find 2 = .ok (.getfield 54, 3) := by decide +kernel
theorem dX0_find_5 : decode cX0_find 5 = .ok (.putfield 24, 3) := by decide +kernel
theorem dX0_find_8 : decode cX0_find 8 = .ok (.aload_n 0, 1) := by decide +kernel
theorem dX0_find_9 : decode cX0_find 9 = .ok (.aload_n 2, 1) := by decide +kernel
theorem dX0_find_10 : decode cX0_find 10 = .ok (.getfield 57, 3) := by decide +kernel
theorem dX0_find_13 : decode cX0_find 13 = .ok (.invokevirtual 60, 3) := by decide +kernel
theorem dX0_find_16 : decode cX0_find 16 = .ok (.aload_n 0, 1) := by decide +kernel
theorem dX0_find_17 : decode cX0_find 17 = .ok (.getfield 24, 3) := by decide +kernel
theorem dX0_find_20 : decode cX0_find 20 = .ok (.iconst 1, 1) := by decide +kernel
theorem dX0_find_21 : decode cX0_find 21 = .ok (.isub, 1) := by decide +kernel
theorem dX0_find_22 : decode cX0_find 22 = .ok (.istore 4, 2) := by decide +kernel
theorem dX0_find_24 : decode cX0_find 24 = .ok (.iload 4, 2) := by decide +kernel
theorem dX0_find_26 : decode cX0_find 26 = .ok (.ifCond .lt 109, 3) := by decide +kernel
theorem dX0_find_29 : decode cX0_find 29 = .ok (.aload_n 0, 1) := by decide +kernel
theorem dX0_find_30 : decode cX0_find 30 = .ok (.aload_n 2, 1) := by decide +kernel
theorem dX0_find_31 : decode cX0_find 31 = .ok (.aload_n 3, 1) := by decide +kernel
theorem dX0_find_32 : decode cX0_find 32 = .ok (.aload_n 1, 1) := by decide +kernel
theorem dX0_find_33 : decode cX0_find 33 = .ok (.getfield 64, 3) := by decide +kernel
theorem dX0_find_36 : decode cX0_find 36 = .ok (.iload 4, 2) := by decide +kernel
theorem dX0_find_38 : decode cX0_find 38 = .ok (.iaload, 1) := by decide +kernel
theorem dX0_find_39 : decode cX0_find 39 = .ok (.invokevirtual 67, 3) := by decide +kernel
theorem dX0_find_42 : decode cX0_find 42 = .ok (.aload_n 0, 1) := by decide +kernel
theorem dX0_find_43 : decode cX0_find 43 = .ok (.aload_n 0, 1) := by decide +kernel
theorem dX0_find_44 : decode cX0_find 44 = .ok (.getfield 42, 3) := by decide +kernel
theorem dX0_find_47 : decode cX0_find 47 = .ok (.iload 4, 2) := by decide +kernel
theorem dX0_find_49 : decode cX0_find 49 = .ok (.iconst 1, 1) := by decide +kernel
theorem dX0_find_50 : decode cX0_find 50 = .ok (.iadd, 1) := by decide +kernel
theorem dX0_find_51 : decode cX0_find 51 = .ok (.aaload, 1) := by decide +kernel
theorem dX0_find_52 : decode cX0_find 52 = .ok (.aload_n 2, 1) := by decide +kernel
theorem dX0_find_53 : decode cX0_find 53 = .ok (.getfield 57, 3) := by decide +kernel
theorem dX0_find_56 : decode cX0_find 56 = .ok (.aload_n 3, 1) := by decide +kernel
theorem dX0_find_57 : decode cX0_find 57 = .ok (.getfield 71, 3) := by decide +kernel
theorem dX0_find_60 : decode cX0_find 60 = .ok (.invokevirtual 76, 3) := by decide +kernel
theorem dX0_find_63 : decode cX0_find 63 = .ok (.aload_n 1, 1) := by decide +kernel
theorem dX0_find_64 : decode cX0_find 64 = .ok (.getfield 80, 3) := by decide +kernel
theorem dX0_find_67 : decode cX0_find 67 = .ok (.iload 4, 2) := by decide +kernel
theorem dX0_find_69 : decode cX0_find 69 = .ok (.iaload, 1) := by decide +kernel
theorem dX0_find_70 : decode cX0_find 70 = .ok (.aload_n 3, 1) := by decide +kernel
theorem dX0_find_71 : decode cX0_find 71 = .ok (.getfield 83, 3) := by decide +kernel
theorem dX0_find_74 : decode cX0_find 74 = .ok (.imul, 1) := by decide +kernel
theorem dX0_find_75 : decode cX0_find 75 = .ok (.istore 5, 2) := by decide +kernel
theorem dX0_find_77 : decode cX0_find 77 = .ok (.iconst 0, 1) := by decide +kernel
theorem dX0_find_78 : decode cX0_find 78 = .ok (.istore 6, 2) := by decide +kernel
theorem dX0_find_80 : decode cX0_find 80 = .ok (.iload 6, 2) := by decide +kernel
theorem dX0_find_82 : decode cX0_find 82 = .ok (.aload_n 2, 1) := by decide +kernel
theorem dX0_find_83 : decode cX0_find 83 = .ok (.getfield 57, 3) := by decide +kernel
theorem dX0_find_86 : decode cX0_find 86 = .ok (.if_icmp .gt 43, 3) := by decide +kernel
theorem dX0_find_89 : decode cX0_find 89 = .ok (.aload_n 0, 1) := by decide +kernel
theorem dX0_find_90 : decode cX0_find 90 = .ok (.getfield 42, 3) := by decide +kernel
theorem dX0_find_93 : decode cX0_find 93 = .ok (.iload 4, 2) := by decide +kernel
theorem dX0_find_95 : decode cX0_find 95 = .ok (.aaload, 1) := by decide +kernel
theorem dX0_find_96 : decode cX0_find 96 = .ok (.iload 6, 2) := by decide +kernel
theorem dX0_find_98 : decode cX0_find 98 = .ok (.aload_n 0, 1) := by decide +kernel
theorem dX0_find_99 : decode cX0_find 99 = .ok (.iload 6, 2) := by decide +kernel
theorem dX0_find_101 : decode cX0_find 101 = .ok (.iload 6, 2) := by decide +kernel
theorem dX0_find_103 : decode cX0_find 103 = .ok (.iload 5, 2) := by decide +kernel
theorem dX0_find_105 : decode cX0_find 105 = .ok (.iadd, 1) := by decide +kernel
theorem dX0_find_106 : decode cX0_find 106 = .ok (.aload_n 2, 1) := by decide +kernel
theorem dX0_find_107 : decode cX0_find 107 = .ok (.getfield 57, 3) := by decide +kernel
theorem dX0_find_110 : decode cX0_find 110 = .ok (.aload_n 3, 1) := by decide +kernel
theorem dX0_find_111 : decode cX0_find 111 = .ok (.invokevirtual 86, 3) := by decide +kernel
theorem dX0_find_114 : decode cX0_find 114 = .ok (.aload_n 0, 1) := by decide +kernel
theorem dX0_find_115 : decode cX0_find 115 = .ok (.getfield 45, 3) := by decide +kernel
theorem dX0_find_118 : decode cX0_find 118 = .ok (.iload 6, 2) := by decide +kernel
theorem dX0_find_120 : decode cX0_find 120 = .ok (.iaload, 1) := by decide +kernel
theorem dX0_find_121 : decode cX0_find 121 = .ok (.isub, 1) := by decide +kernel
theorem dX0_find_122 : decode cX0_find 122 = .ok (.iastore, 1) := by decide +kernel
theorem dX0_find_123 : decode cX0_find 123 = .ok (.iinc 6 1, 3) := by decide +kernel
theorem dX0_find_126 : decode cX0_find 126 = .ok (.goto (-46), 3) := by decide +kernel
theorem dX0_find_129 : decode cX0_find 129 = .ok (.iinc 4 (-1), 3) := by decide +kernel
theorem dX0_find_132 : decode cX0_find 132 = .ok (.goto (-108), 3) := by decide +kernel
theorem dX0_find_135 : decode cX0_find 135 = .ok (.aload_n 0, 1) := by decide +kernel
theorem dX0_find_136 : decode cX0_find 136 = .ok (.aload_n 0, 1) := by decide +kernel
theorem dX0_find_137 : decode cX0_find 137 = .ok (.getfield 42, 3) := by decide +kernel
theorem dX0_find_140 : decode cX0_find 140 = .ok (.iconst 0, 1) := by decide +kernel
theorem dX0_find_141 : decode cX0_find 141 = .ok (.aaload, 1) := by decide +kernel
theorem dX0_find_142 : decode cX0_find 142 = .ok (.iconst 0, 1) := by decide +kernel
theorem dX0_find_143 : decode cX0_find 143 = .ok (.iaload, 1) := by decide +kernel
theorem dX0_find_144 : decode cX0_find 144 = .ok (.putfield 28, 3) := by decide +kernel
theorem dX0_find_147 : decode cX0_find 147 = .ok (.aload_n 0, 1) := by decide +kernel
theorem dX0_find_148 : decode cX0_find 148 = .ok (.aload_n 1, 1) := by decide +kernel
theorem dX0_find_149 : decode cX0_find 149 = .ok (.aload_n 2, 1) := by decide +kernel
theorem dX0_find_150 : decode cX0_find 150 = .ok (.aload_n 3, 1) := by decide +kernel
theorem dX0_find_151 : decode cX0_find 151 = .ok (.invokevirtual 90, 3) := by decide +kernel
theorem dX0_find_154 : decode cX0_find 154 = .ok (.aload_n 0, 1) := by decide +kernel
theorem dX0_find_155 : decode cX0_find 155 = .ok (.aload_n 1, 1) := by decide +kernel
theorem dX0_find_156 : decode cX0_find 156 = .ok (.aload_n 2, 1) := by decide +kernel
theorem dX0_find_157 : decode cX0_find 157 = .ok (.aload_n 3, 1) := by decide +kernel
theorem dX0_find_158 : decode cX0_find 158 = .ok (.getfield 94, 3) := by decide +kernel
theorem dX0_find_161 : decode cX0_find 161 = .ok (.invokevirtual 97, 3) := by decide +kernel
theorem dX0_find_164 : decode cX0_find 164 = .ok (.return_, 1) := by decide +kernel
theorem dX0_endAt_0 : decode cX0_endAt 0 = .ok (.iconst 0, 1) := by decide +kernel
theorem dX0_endAt_1 : decode cX0_endAt 1 = .ok (.istore_n 2, 1) := by decide +kernel
theorem dX0_endAt_2 : decode cX0_endAt 2 = .ok (.iload_n 2, 1) := by decide +kernel
theorem dX0_endAt_3 : decode cX0_endAt 3 = .ok (.iload_n 1, 1) := by decide +kernel
theorem dX0_endAt_4 : decode cX0_endAt 4 = .ok (.if_icmp .ge 22, 3) := by decide +kernel
theorem dX0_endAt_7 : decode cX0_endAt 7 = .ok (.aload_n 0, 1) := by decide +kernel
theorem dX0_endAt_8 : decode cX0_endAt 8 = .ok (.getfield 42, 3) := by decide +kernel
theorem dX0_endAt_11 : decode cX0_endAt 11 = .ok (.aload_n 0, 1) := by decide +kernel
theorem dX0_endAt_12 : decode cX0_endAt 12 = .ok (.getfield 24, 3) := by decide +kernel
theorem dX0_endAt_15 : decode cX0_endAt 15 = .ok (.aaload, 1) := by decide +kernel
theorem dX0_endAt_16 : decode cX0_endAt 16 = .ok (.iload_n 2, 1) := by decide +kernel
theorem dX0_endAt_17 : decode cX0_endAt 17 = .ok (.ldc 101, 2) := by decide +kernel
theorem dX0_endAt_19 : decode cX0_endAt 19 = .ok (.iastore, 1) := by decide +kernel
theorem dX0_endAt_20 : decode cX0_endAt 20 = .ok (.iinc 2 1, 3) := by decide +kernel
theorem dX0_endAt_23 : decode cX0_endAt 23 = .ok (.goto (-21), 3) := by decide +kernel
theorem dX0_endAt_26 : decode cX0_endAt 26 = .ok (.aload_n 0, 1) := by decide +kernel
theorem dX0_endAt_27 : decode cX0_endAt 27 = .ok (.getfield 42, 3) := by decide +kernel
theorem dX0_endAt_30 : decode cX0_endAt 30 = .ok (.aload_n 0, 1) := by decide +kernel
theorem dX0_endAt_31 : decode cX0_endAt 31 = .ok (.getfield 24, 3) := by decide +kernel
theorem dX0_endAt_34 : decode cX0_endAt 34 = .ok (.aaload, 1) := by decide +kernel
theorem dX0_endAt_35 : decode cX0_endAt 35 = .ok (.iload_n 1, 1) := by decide +kernel
theorem dX0_endAt_36 : decode cX0_endAt 36 = .ok (.iconst 0, 1) := by decide +kernel
theorem dX0_endAt_37 : decode cX0_endAt 37 = .ok (.iastore, 1) := by decide +kernel
theorem dX0_endAt_38 : decode cX0_endAt 38 = .ok (.return_, 1) := by decide +kernel
theorem dX0_addUpReadings_0 : decode cX0_addUpReadings 0 = .ok (.aload_n 0, 1) := by decide +kernel
theorem dX0_addUpReadings_1 : decode cX0_addUpReadings 1 = .ok (.getfield 45, 3) := by decide +kernel
theorem dX0_addUpReadings_4 : decode cX0_addUpReadings 4 = .ok (.iconst 0, 1) := by decide +kernel
theorem dX0_addUpReadings_5 : decode cX0_addUpReadings 5 = .ok (.iconst 0, 1) := by decide +kernel
theorem dX0_addUpReadings_6 : decode cX0_addUpReadings 6 = .ok (.iastore, 1) := by decide +kernel
theorem dX0_addUpReadings_7 : decode cX0_addUpReadings 7 = .ok (.iconst 0, 1) := by decide +kernel
theorem dX0_addUpReadings_8 : decode cX0_addUpReadings 8 = .ok (.istore 4, 2) := by decide +kernel
theorem dX0_addUpReadings_10 : decode cX0_addUpReadings 10 = .ok (.iload 4, 2) := by decide +kernel
theorem dX0_addUpReadings_12 : decode cX0_addUpReadings 12 = .ok (.aload_n 1, 1) := by decide +kernel
theorem dX0_addUpReadings_13 : decode cX0_addUpReadings 13 = .ok (.getfield 57, 3) := by decide +kernel
theorem dX0_addUpReadings_16 : decode cX0_addUpReadings 16 = .ok (.if_icmp .ge 38, 3) := by decide +kernel
theorem dX0_addUpReadings_19 : decode cX0_addUpReadings 19 = .ok (.aload_n 0, 1) := by decide +kernel
theorem dX0_addUpReadings_20 : decode cX0_addUpReadings 20 = .ok (.getfield 45, 3) := by decide +kernel
theorem dX0_addUpReadings_23 : decode cX0_addUpReadings 23 = .ok (.iload 4, 2) := by decide +kernel
theorem dX0_addUpReadings_25 : decode cX0_addUpReadings 25 = .ok (.iconst 1, 1) := by decide +kernel
theorem dX0_addUpReadings_26 : decode cX0_addUpReadings 26 = .ok (.iadd, 1) := by decide +kernel
theorem dX0_addUpReadings_27 : decode cX0_addUpReadings 27 = .ok (.aload_n 0, 1) := by decide +kernel
theorem dX0_addUpReadings_28 : decode cX0_addUpReadings 28 = .ok (.getfield 45, 3) := by decide +kernel
theorem dX0_addUpReadings_31 : decode cX0_addUpReadings 31 = .ok (.iload 4, 2) := by decide +kernel
theorem dX0_addUpReadings_33 : decode cX0_addUpReadings 33 = .ok (.iaload, 1) := by decide +kernel
theorem dX0_addUpReadings_34 : decode cX0_addUpReadings 34 = .ok (.aload_n 2, 1) := by decide +kernel
theorem dX0_addUpReadings_35 : decode cX0_addUpReadings 35 = .ok (.aload_n 1, 1) := by decide +kernel
theorem dX0_addUpReadings_36 : decode cX0_addUpReadings 36 = .ok (.getfield 102, 3) := by decide +kernel
theorem dX0_addUpReadings_39 : decode cX0_addUpReadings 39 = .ok (.iload 4, 2) := by decide +kernel
theorem dX0_addUpReadings_41 : decode cX0_addUpReadings 41 = .ok (.iaload, 1) := by decide +kernel
theorem dX0_addUpReadings_42 : decode cX0_addUpReadings 42 = .ok (.iload_n 3, 1) := by decide +kernel
theorem dX0_addUpReadings_43 : decode cX0_addUpReadings 43 = .ok (.invokevirtual 105, 3) := by decide +kernel
theorem dX0_addUpReadings_46 : decode cX0_addUpReadings 46 = .ok (.iadd, 1) := by decide +kernel
theorem dX0_addUpReadings_47 : decode cX0_addUpReadings 47 = .ok (.iastore, 1) := by decide +kernel
theorem dX0_addUpReadings_48 : decode cX0_addUpReadings 48 = .ok (.iinc 4 1, 3) := by decide +kernel
theorem dX0_addUpReadings_51 : decode cX0_addUpReadings 51 = .ok (.goto (-41), 3) := by decide +kernel
theorem dX0_addUpReadings_54 : decode cX0_addUpReadings 54 = .ok (.return_, 1) := by decide +kernel
theorem dX0_splitByLength_0 : decode cX0_splitByLength 0 = .ok (.ldc 109, 2) := by decide +kernel
theorem dX0_splitByLength_2 : decode cX0_splitByLength 2 = .ok (.istore 4, 2) := by decide +kernel
theorem dX0_splitByLength_4 : decode cX0_splitByLength 4 = .ok (.iload_n 2, 1) := by decide +kernel
theorem dX0_splitByLength_5 : decode cX0_splitByLength 5 = .ok (.istore 5, 2) := by decide +kernel
theorem dX0_splitByLength_7 : decode cX0_splitByLength 7 = .ok (.iload 5, 2) := by decide +kernel
theorem dX0_splitByLength_9 : decode cX0_splitByLength 9 = .ok (.ifCond .lt 60, 3) := by decide +kernel
theorem dX0_splitByLength_12 : decode cX0_splitByLength 12 = .ok (.aload_n 0, 1) := by decide +kernel
theorem dX0_splitByLength_13 : decode cX0_splitByLength 13 = .ok (.getfield 45, 3) := by decide +kernel
theorem dX0_splitByLength_16 : decode cX0_splitByLength 16 = .ok (.iload 5, 2) := by decide +kernel
theorem dX0_splitByLength_18 : decode cX0_splitByLength 18 = .ok (.iaload, 1) := by decide +kernel
theorem dX0_splitByLength_19 : decode cX0_splitByLength 19 = .ok (.aload_n 1, 1) := by decide +kernel
theorem dX0_splitByLength_20 : decode cX0_splitByLength 20 = .ok (.iload 5, 2) := by decide +kernel
theorem dX0_splitByLength_22 : decode cX0_splitByLength 22 = .ok (.iaload, 1) := by decide +kernel
theorem dX0_splitByLength_23 : decode cX0_splitByLength 23 = .ok (.iadd, 1) := by decide +kernel
theorem dX0_splitByLength_24 : decode cX0_splitByLength 24 = .ok (.istore 6, 2) := by decide +kernel
theorem dX0_splitByLength_26 : decode cX0_splitByLength 26 = .ok (.aload_n 0, 1) := by decide +kernel
theorem dX0_splitByLength_27 : decode cX0_splitByLength 27 = .ok (.getfield 48, 3) := by decide +kernel
theorem dX0_splitByLength_30 : decode cX0_splitByLength 30 = .ok (.iload 5, 2) := by decide +kernel
theorem dX0_splitByLength_32 : decode cX0_splitByLength 32 = .ok (.iload 6, 2) := by decide +kernel
theorem dX0_splitByLength_34 : decode cX0_splitByLength 34 = .ok (.iload_n 3, 1) := by decide +kernel
theorem dX0_splitByLength_35 : decode cX0_splitByLength 35 = .ok (.iload 5, 2) := by decide +kernel
theorem dX0_splitByLength_37 : decode cX0_splitByLength 37 = .ok (.imul, 1) := by decide +kernel
theorem dX0_splitByLength_38 : decode cX0_splitByLength 38 = .ok (.isub, 1) := by decide +kernel
theorem dX0_splitByLength_39 : decode cX0_splitByLength 39 = .ok (.iastore, 1) := by decide +kernel
theorem dX0_splitByLength_40 : decode cX0_splitByLength 40 = .ok (.iload 4, 2) := by decide +kernel
theorem dX0_splitByLength_42 : decode cX0_splitByLength 42 = .ok (.iload 6, 2) := by decide +kernel
theorem dX0_splitByLength_44 : decode cX0_splitByLength 44 = .ok (.iload_n 3, 1) := by decide +kernel
theorem dX0_splitByLength_45 : decode cX0_splitByLength 45 = .ok (.iload 5, 2) := by decide +kernel
theorem dX0_splitByLength_47 : decode cX0_splitByLength 47 = .ok (.imul, 1) := by decide +kernel
theorem dX0_splitByLength_48 : decode cX0_splitByLength 48 = .ok (.iadd, 1) := by decide +kernel
theorem dX0_splitByLength_49 : decode cX0_splitByLength 49 = .ok (.invokestatic 110, 3) := by decide +kernel
theorem dX0_splitByLength_52 : decode cX0_splitByLength 52 = .ok (.istore 4, 2) := by decide +kernel
theorem dX0_splitByLength_54 : decode cX0_splitByLength 54 = .ok (.aload_n 0, 1) := by decide +kernel
theorem dX0_splitByLength_55 : decode cX0_splitByLength 55 = .ok (.getfield 51, 3) := by decide +kernel
theorem dX0_splitByLength_58 : decode cX0_splitByLength 58 = .ok (.iload 5, 2) := by decide +kernel
theorem dX0_splitByLength_60 : decode cX0_splitByLength 60 = .ok (.iload 4, 2) := by decide +kernel
theorem dX0_splitByLength_62 : decode cX0_splitByLength 62 = .ok (.iastore, 1) := by decide +kernel
theorem dX0_splitByLength_63 : decode cX0_splitByLength 63 = .ok (.iinc 5 (-1), 3) := by decide +kernel
theorem dX0_splitByLength_66 : decode cX0_splitByLength 66 = .ok (.goto (-59), 3) := by decide +kernel
theorem dX0_splitByLength_69 : decode cX0_splitByLength 69 = .ok (.return_, 1) := by decide +kernel
theorem dX0_findLeast_0 : decode cX0_findLeast 0 = .ok (.aload 4, 2) := by decide +kernel
theorem dX0_findLeast_2 : decode cX0_findLeast 2 = .ok (.getfield 71, 3) := by decide +kernel
theorem dX0_findLeast_5 : decode cX0_findLeast 5 = .ok (.iload_n 2, 1) := by decide +kernel
theorem dX0_findLeast_6 : decode cX0_findLeast 6 = .ok (.imul, 1) := by decide +kernel
theorem dX0_findLeast_7 : decode cX0_findLeast 7 = .ok (.istore 5, 2) := by decide +kernel
theorem dX0_findLeast_9 : decode cX0_findLeast 9 = .ok (.aload_n 0, 1) := by decide +kernel
theorem dX0_findLeast_10 : decode cX0_findLeast 10 = .ok (.getfield 48, 3) := by decide +kernel
theorem dX0_findLeast_13 : decode cX0_findLeast 13 = .ok (.iload_n 1, 1) := by decide +kernel
theorem dX0_findLeast_14 : decode cX0_findLeast 14 = .ok (.iaload, 1) := by decide +kernel
theorem dX0_findLeast_15 : decode cX0_findLeast 15 = .ok (.aload 4, 2) := by decide +kernel
theorem dX0_findLeast_17 : decode cX0_findLeast 17 = .ok (.getfield 115, 3) := by decide +kernel
theorem dX0_findLeast_20 : decode cX0_findLeast 20 = .ok (.iadd, 1) := by decide +kernel
theorem dX0_findLeast_21 : decode cX0_findLeast 21 = .ok (.istore 6, 2) := by decide +kernel
theorem dX0_findLeast_23 : decode cX0_findLeast 23 = .ok (.iload_n 1, 1) := by decide +kernel
theorem dX0_findLeast_24 : decode cX0_findLeast 24 = .ok (.iconst 1, 1) := by decide +kernel
theorem dX0_findLeast_25 : decode cX0_findLeast 25 = .ok (.iadd, 1) := by decide +kernel
theorem dX0_findLeast_26 : decode cX0_findLeast 26 = .ok (.istore 7, 2) := by decide +kernel
theorem dX0_findLeast_28 : decode cX0_findLeast 28 = .ok (.iload 7, 2) := by decide +kernel
theorem dX0_findLeast_30 : decode cX0_findLeast 30 = .ok (.iload_n 2, 1) := by decide +kernel
theorem dX0_findLeast_31 : decode cX0_findLeast 31 = .ok (.if_icmp .ge 29, 3) := by decide +kernel
theorem dX0_findLeast_34 : decode cX0_findLeast 34 = .ok (.iload 7, 2) := by decide +kernel
theorem dX0_findLeast_36 : decode cX0_findLeast 36 = .ok (.iload_n 3, 1) := by decide +kernel
theorem dX0_findLeast_37 : decode cX0_findLeast 37 = .ok (.if_icmp .gt 23, 3) := by decide +kernel
theorem dX0_findLeast_40 : decode cX0_findLeast 40 = .ok (.iload 6, 2) := by decide +kernel
theorem dX0_findLeast_42 : decode cX0_findLeast 42 = .ok (.aload_n 0, 1) := by decide +kernel
theorem dX0_findLeast_43 : decode cX0_findLeast 43 = .ok (.getfield 48, 3) := by decide +kernel
theorem dX0_findLeast_46 : decode cX0_findLeast 46 = .ok (.iload 7, 2) := by decide +kernel
theorem dX0_findLeast_48 : decode cX0_findLeast 48 = .ok (.iaload, 1) := by decide +kernel
theorem dX0_findLeast_49 : decode cX0_findLeast 49 = .ok (.invokestatic 110, 3) := by decide +kernel
theorem dX0_findLeast_52 : decode cX0_findLeast 52 = .ok (.istore 6, 2) := by decide +kernel
theorem dX0_findLeast_54 : decode cX0_findLeast 54 = .ok (.iinc 7 1, 3) := by decide +kernel
theorem dX0_findLeast_57 : decode cX0_findLeast 57 = .ok (.goto (-29), 3) := by decide +kernel
theorem dX0_findLeast_60 : decode cX0_findLeast 60 = .ok (.iload 6, 2) := by decide +kernel
theorem dX0_findLeast_62 : decode cX0_findLeast 62 = .ok (.iload 5, 2) := by decide +kernel
theorem dX0_findLeast_64 : decode cX0_findLeast 64 = .ok (.iadd, 1) := by decide +kernel
theorem dX0_findLeast_65 : decode cX0_findLeast 65 = .ok (.istore 6, 2) := by decide +kernel
theorem dX0_findLeast_67 : decode cX0_findLeast 67 = .ok (.iload_n 2, 1) := by decide +kernel
theorem dX0_findLeast_68 : decode cX0_findLeast 68 = .ok (.iload_n 3, 1) := by decide +kernel
theorem dX0_findLeast_69 : decode cX0_findLeast 69 = .ok (.if_icmp .gt 20, 3) := by decide +kernel
theorem dX0_findLeast_72 : decode cX0_findLeast 72 = .ok (.iload 6, 2) := by decide +kernel
theorem dX0_findLeast_74 : decode cX0_findLeast 74 = .ok (.aload_n 0, 1) := by decide +kernel
theorem dX0_findLeast_75 : decode cX0_findLeast 75 = .ok (.getfield 51, 3) := by decide +kernel
theorem dX0_findLeast_78 : decode cX0_findLeast 78 = .ok (.iload_n 2, 1) := by decide +kernel
theorem dX0_findLeast_79 : decode cX0_findLeast 79 = .ok (.iaload, 1) := by decide +kernel
theorem dX0_findLeast_80 : decode cX0_findLeast 80 = .ok (.iload 5, 2) := by decide +kernel
theorem dX0_findLeast_82 : decode cX0_findLeast 82 = .ok (.isub, 1) := by decide +kernel
theorem dX0_findLeast_83 : decode cX0_findLeast 83 = .ok (.invokestatic 110, 3) := by decide +kernel
theorem dX0_findLeast_86 : decode cX0_findLeast 86 = .ok (.goto 5, 3) := by decide +kernel
theorem dX0_findLeast_89 : decode cX0_findLeast 89 = .ok (.iload 6, 2) := by decide +kernel
theorem dX0_findLeast_91 : decode cX0_findLeast 91 = .ok (.ireturn, 1) := by decide +kernel
theorem dX0_layForward_0 : decode cX0_layForward 0 = .ok (.iconst 0, 1) := by decide +kernel
theorem dX0_layForward_1 : decode cX0_layForward 1 = .ok (.istore 4, 2) := by decide +kernel
theorem dX0_layForward_3 : decode cX0_layForward 3 = .ok (.iconst 0, 1) := by decide +kernel
theorem dX0_layForward_4 : decode cX0_layForward 4 = .ok (.istore 5, 2) := by decide +kernel
theorem dX0_layForward_6 : decode cX0_layForward 6 = .ok (.iload 5, 2) := by decide +kernel
theorem dX0_layForward_8 : decode cX0_layForward 8 = .ok (.aload_n 0, 1) := by decide +kernel
theorem dX0_layForward_9 : decode cX0_layForward 9 = .ok (.getfield 24, 3) := by decide +kernel
theorem dX0_layForward_12 : decode cX0_layForward 12 = .ok (.if_icmp .ge 56, 3) := by decide +kernel
theorem dX0_layForward_15 : decode cX0_layForward 15 = .ok (.aload_n 0, 1) := by decide +kernel
theorem dX0_layForward_16 : decode cX0_layForward 16 = .ok (.aload_n 1, 1) := by decide +kernel
theorem dX0_layForward_17 : decode cX0_layForward 17 = .ok (.aload_n 2, 1) := by decide +kernel
theorem dX0_layForward_18 : decode cX0_layForward 18 = .ok (.aload_n 3, 1) := by decide +kernel
theorem dX0_layForward_19 : decode cX0_layForward 19 = .ok (.iload 5, 2) := by decide +kernel
theorem dX0_layForward_21 : decode cX0_layForward 21 = .ok (.iload 4, 2) := by decide +kernel
theorem dX0_layForward_23 : decode cX0_layForward 23 = .ok (.invokevirtual 118, 3) := by decide +kernel
theorem dX0_layForward_26 : decode cX0_layForward 26 = .ok (.istore 6, 2) := by decide +kernel
theorem dX0_layForward_28 : decode cX0_layForward 28 = .ok (.aload_n 0, 1) := by decide +kernel
theorem dX0_layForward_29 : decode cX0_layForward 29 = .ok (.getfield 9, 3) := by decide +kernel
theorem dX0_layForward_32 : decode cX0_layForward 32 = .ok (.iload 5, 2) := by decide +kernel
theorem dX0_layForward_34 : decode cX0_layForward 34 = .ok (.iload 6, 2) := by decide +kernel
theorem dX0_layForward_36 : decode cX0_layForward 36 = .ok (.ifCond .ne 7, 3) := by decide +kernel
theorem dX0_layForward_39 : decode cX0_layForward 39 = .ok (.iconst (-1), 1) := by decide +kernel
theorem dX0_layForward_40 : decode cX0_layForward 40 = .ok (.goto 5, 3) := by decide +kernel
theorem dX0_layForward_43 : decode cX0_layForward 43 = .ok (.iload 4, 2) := by decide +kernel
theorem dX0_layForward_45 : decode cX0_layForward 45 = .ok (.iastore, 1) := by decide +kernel
theorem dX0_layForward_46 : decode cX0_layForward 46 = .ok (.aload_n 0, 1) := by decide +kernel
theorem dX0_layForward_47 : decode cX0_layForward 47 = .ok (.getfield 15, 3) := by decide +kernel
theorem dX0_layForward_50 : decode cX0_layForward 50 = .ok (.iload 5, 2) := by decide +kernel
theorem dX0_layForward_52 : decode cX0_layForward 52 = .ok (.iload 6, 2) := by decide +kernel
theorem dX0_layForward_54 : decode cX0_layForward 54 = .ok (.iastore, 1) := by decide +kernel
theorem dX0_layForward_55 : decode cX0_layForward 55 = .ok (.iload 4, 2) := by decide +kernel
theorem dX0_layForward_57 : decode cX0_layForward 57 = .ok (.iload 6, 2) := by decide +kernel
theorem dX0_layForward_59 : decode cX0_layForward 59 = .ok (.iadd, 1) := by decide +kernel
theorem dX0_layForward_60 : decode cX0_layForward 60 = .ok (.istore 4, 2) := by decide +kernel
theorem dX0_layForward_62 : decode cX0_layForward 62 = .ok (.iinc 5 1, 3) := by decide +kernel
theorem dX0_layForward_65 : decode cX0_layForward 65 = .ok (.goto (-59), 3) := by decide +kernel
theorem dX0_layForward_68 : decode cX0_layForward 68 = .ok (.return_, 1) := by decide +kernel
theorem dX0_findTaken_0 : decode cX0_findTaken 0 = .ok (.aload_n 2, 1) := by decide +kernel
theorem dX0_findTaken_1 : decode cX0_findTaken 1 = .ok (.getfield 57, 3) := by decide +kernel
theorem dX0_findTaken_4 : decode cX0_findTaken 4 = .ok (.iload 5, 2) := by decide +kernel
theorem dX0_findTaken_6 : decode cX0_findTaken 6 = .ok (.isub, 1) := by decide +kernel
theorem dX0_findTaken_7 : decode cX0_findTaken 7 = .ok (.istore 6, 2) := by decide +kernel
theorem dX0_findTaken_9 : decode cX0_findTaken 9 = .ok (.iconst 0, 1) := by decide +kernel
theorem dX0_findTaken_10 : decode cX0_findTaken 10 = .ok (.istore 7, 2) := by decide +kernel
theorem dX0_findTaken_12 : decode cX0_findTaken 12 = .ok (.iconst 0, 1) := by decide +kernel
theorem dX0_findTaken_13 : decode cX0_findTaken 13 = .ok (.istore 8, 2) := by decide +kernel
theorem dX0_findTaken_15 : decode cX0_findTaken 15 = .ok (.iload 8, 2) := by decide +kernel
theorem dX0_findTaken_17 : decode cX0_findTaken 17 = .ok (.iload 6, 2) := by decide +kernel
theorem dX0_findTaken_19 : decode cX0_findTaken 19 = .ok (.if_icmp .ge 87, 3) := by decide +kernel
theorem dX0_findTaken_22 : decode cX0_findTaken 22 = .ok (.iload 7, 2) := by decide +kernel
theorem dX0_findTaken_24 : decode cX0_findTaken 24 = .ok (.aload_n 3, 1) := by decide +kernel
theorem dX0_findTaken_25 : decode cX0_findTaken 25 = .ok (.iload 8, 2) := by decide +kernel
theorem dX0_findTaken_27 : decode cX0_findTaken 27 = .ok (.aload_n 1, 1) := by decide +kernel
theorem dX0_findTaken_28 : decode cX0_findTaken 28 = .ok (.getfield 80, 3) := by decide +kernel
theorem dX0_findTaken_31 : decode cX0_findTaken 31 = .ok (.iload 4, 2) := by decide +kernel
theorem dX0_findTaken_33 : decode cX0_findTaken 33 = .ok (.iaload, 1) := by decide +kernel
theorem dX0_findTaken_34 : decode cX0_findTaken 34 = .ok (.invokevirtual 122, 3) := by decide +kernel
theorem dX0_findTaken_37 : decode cX0_findTaken 37 = .ok (.iadd, 1) := by decide +kernel
theorem dX0_findTaken_38 : decode cX0_findTaken 38 = .ok (.aload_n 0, 1) := by decide +kernel
theorem dX0_findTaken_39 : decode cX0_findTaken 39 = .ok (.getfield 42, 3) := by decide +kernel
theorem dX0_findTaken_42 : decode cX0_findTaken 42 = .ok (.iload 4, 2) := by decide +kernel
theorem dX0_findTaken_44 : decode cX0_findTaken 44 = .ok (.iconst 1, 1) := by decide +kernel
theorem dX0_findTaken_45 : decode cX0_findTaken 45 = .ok (.iadd, 1) := by decide +kernel
theorem dX0_findTaken_46 : decode cX0_findTaken 46 = .ok (.aaload, 1) := by decide +kernel
theorem dX0_findTaken_47 : decode cX0_findTaken 47 = .ok (.iload 5, 2) := by decide +kernel
theorem dX0_findTaken_49 : decode cX0_findTaken 49 = .ok (.iload 8, 2) := by decide +kernel
theorem dX0_findTaken_51 : decode cX0_findTaken 51 = .ok (.iadd, 1) := by decide +kernel
theorem dX0_findTaken_52 : decode cX0_findTaken 52 = .ok (.iaload, 1) := by decide +kernel
theorem dX0_findTaken_53 : decode cX0_findTaken 53 = .ok (.iadd, 1) := by decide +kernel
theorem dX0_findTaken_54 : decode cX0_findTaken 54 = .ok (.istore 9, 2) := by decide +kernel
theorem dX0_findTaken_56 : decode cX0_findTaken 56 = .ok (.iload 9, 2) := by decide +kernel
theorem dX0_findTaken_58 : decode cX0_findTaken 58 = .ok (.aload_n 0, 1) := by decide +kernel
theorem dX0_findTaken_59 : decode cX0_findTaken 59 = .ok (.getfield 42, 3) := by decide +kernel
theorem dX0_findTaken_62 : decode cX0_findTaken 62 = .ok (.iload 4, 2) := by decide +kernel
theorem dX0_findTaken_64 : decode cX0_findTaken 64 = .ok (.aaload, 1) := by decide +kernel
theorem dX0_findTaken_65 : decode cX0_findTaken 65 = .ok (.iload 5, 2) := by decide +kernel
theorem dX0_findTaken_67 : decode cX0_findTaken 67 = .ok (.iaload, 1) := by decide +kernel
theorem dX0_findTaken_68 : decode cX0_findTaken 68 = .ok (.if_icmp .ne 6, 3) := by decide +kernel
theorem dX0_findTaken_71 : decode cX0_findTaken 71 = .ok (.iload 8, 2) := by decide +kernel
theorem dX0_findTaken_73 : decode cX0_findTaken 73 = .ok (.ireturn, 1) := by decide +kernel
theorem dX0_findTaken_74 : decode cX0_findTaken 74 = .ok (.iload 7, 2) := by decide +kernel
theorem dX0_findTaken_76 : decode cX0_findTaken 76 = .ok (.aload_n 3, 1) := by decide +kernel
theorem dX0_findTaken_77 : decode cX0_findTaken 77 = .ok (.aload_n 2, 1) := by decide +kernel
theorem dX0_findTaken_78 : decode cX0_findTaken 78 = .ok (.getfield 102, 3) := by decide +kernel
theorem dX0_findTaken_81 : decode cX0_findTaken 81 = .ok (.iload 5, 2) := by decide +kernel
theorem dX0_findTaken_83 : decode cX0_findTaken 83 = .ok (.iload 8, 2) := by decide +kernel
theorem dX0_findTaken_85 : decode cX0_findTaken 85 = .ok (.iadd, 1) := by decide +kernel
theorem dX0_findTaken_86 : decode cX0_findTaken 86 = .ok (.iaload, 1) := by decide +kernel
theorem dX0_findTaken_87 : decode cX0_findTaken 87 = .ok (.aload_n 1, 1) := by decide +kernel
theorem dX0_findTaken_88 : decode cX0_findTaken 88 = .ok (.getfield 64, 3) := by decide +kernel
theorem dX0_findTaken_91 : decode cX0_findTaken 91 = .ok (.iload 4, 2) := by decide +kernel
theorem dX0_findTaken_93 : decode cX0_findTaken 93 = .ok (.iaload, 1) := by decide +kernel
theorem dX0_findTaken_94 : decode cX0_findTaken 94 = .ok (.invokevirtual 105, 3) := by decide +kernel
theorem dX0_findTaken_97 : decode cX0_findTaken 97 = .ok (.iadd, 1) := by decide +kernel
theorem dX0_findTaken_98 : decode cX0_findTaken 98 = .ok (.istore 7, 2) := by decide +kernel
theorem dX0_findTaken_100 : decode cX0_findTaken 100 = .ok (.iinc 8 1, 3) := by decide +kernel
theorem dX0_findTaken_103 : decode cX0_findTaken 103 = .ok (.goto (-88), 3) := by decide +kernel
theorem dX0_findTaken_106 : decode cX0_findTaken 106 = .ok (.iload 6, 2) := by decide +kernel
theorem dX0_findTaken_108 : decode cX0_findTaken 108 = .ok (.ireturn, 1) := by decide +kernel
theorem dX0_hear_0 : decode cX0_hear 0 = .ok (.ldc 125, 2) := by decide +kernel
theorem dX0_hear_2 : decode cX0_hear 2 = .ok (.istore 4, 2) := by decide +kernel
theorem dX0_hear_4 : decode cX0_hear 4 = .ok (.iconst 0, 1) := by decide +kernel
theorem dX0_hear_5 : decode cX0_hear 5 = .ok (.istore 5, 2) := by decide +kernel
theorem dX0_hear_7 : decode cX0_hear 7 = .ok (.aload_n 0, 1) := by decide +kernel
theorem dX0_hear_8 : decode cX0_hear 8 = .ok (.iconst 0, 1) := by decide +kernel
theorem dX0_hear_9 : decode cX0_hear 9 = .ok (.putfield 34, 3) := by decide +kernel
theorem dX0_hear_12 : decode cX0_hear 12 = .ok (.iconst 0, 1) := by decide +kernel
theorem dX0_hear_13 : decode cX0_hear 13 = .ok (.istore 6, 2) := by decide +kernel
theorem dX0_hear_15 : decode cX0_hear 15 = .ok (.iload 6, 2) := by decide +kernel
theorem dX0_hear_17 : decode cX0_hear 17 = .ok (.aload_n 0, 1) := by decide +kernel
theorem dX0_hear_18 : decode cX0_hear 18 = .ok (.getfield 24, 3) := by decide +kernel
theorem dX0_hear_21 : decode cX0_hear 21 = .ok (.if_icmp .ge 141, 3) := by decide +kernel
theorem dX0_hear_24 : decode cX0_hear 24 = .ok (.aload_n 0, 1) := by decide +kernel
theorem dX0_hear_25 : decode cX0_hear 25 = .ok (.getfield 18, 3) := by decide +kernel
theorem dX0_hear_28 : decode cX0_hear 28 = .ok (.iload 6, 2) := by decide +kernel
theorem dX0_hear_30 : decode cX0_hear 30 = .ok (.aload_n 0, 1) := by decide +kernel
theorem dX0_hear_31 : decode cX0_hear 31 = .ok (.aload_n 2, 1) := by decide +kernel
theorem dX0_hear_32 : decode cX0_hear 32 = .ok (.iload 6, 2) := by decide +kernel
theorem dX0_hear_34 : decode cX0_hear 34 = .ok (.aload_n 1, 1) := by decide +kernel
theorem dX0_hear_35 : decode cX0_hear 35 = .ok (.getfield 64, 3) := by decide +kernel
theorem dX0_hear_38 : decode cX0_hear 38 = .ok (.iload 6, 2) := by decide +kernel
theorem dX0_hear_40 : decode cX0_hear 40 = .ok (.iaload, 1) := by decide +kernel
theorem dX0_hear_41 : decode cX0_hear 41 = .ok (.invokevirtual 126, 3) := by decide +kernel
theorem dX0_hear_44 : decode cX0_hear 44 = .ok (.iastore, 1) := by decide +kernel
theorem dX0_hear_45 : decode cX0_hear 45 = .ok (.aload_n 0, 1) := by decide +kernel
theorem dX0_hear_46 : decode cX0_hear 46 = .ok (.getfield 15, 3) := by decide +kernel
theorem dX0_hear_49 : decode cX0_hear 49 = .ok (.iload 6, 2) := by decide +kernel
theorem dX0_hear_51 : decode cX0_hear 51 = .ok (.iaload, 1) := by decide +kernel
theorem dX0_hear_52 : decode cX0_hear 52 = .ok (.ifCond .ne 7, 3) := by decide +kernel
theorem dX0_hear_55 : decode cX0_hear 55 = .ok (.iconst 1, 1) := by decide +kernel
theorem dX0_hear_56 : decode cX0_hear 56 = .ok (.goto 4, 3) := by decide +kernel
theorem dX0_hear_59 : decode cX0_hear 59 = .ok (.iconst 0, 1) := by decide +kernel
theorem dX0_hear_60 : decode cX0_hear 60 = .ok (.istore 7, 2) := by decide +kernel
theorem dX0_hear_62 : decode cX0_hear 62 = .ok (.aload_n 0, 1) := by decide +kernel
theorem dX0_hear_63 : decode cX0_hear 63 = .ok (.getfield 18, 3) := by decide +kernel
theorem dX0_hear_66 : decode cX0_hear 66 = .ok (.iload 6, 2) := by decide +kernel
theorem dX0_hear_68 : decode cX0_hear 68 = .ok (.iaload, 1) := by decide +kernel
theorem dX0_hear_69 : decode cX0_hear 69 = .ok (.ldc 125, 2) := by decide +kernel
theorem dX0_hear_71 : decode cX0_hear 71 = .ok (.if_icmp .eq 52, 3) := by decide +kernel
theorem dX0_hear_74 : decode cX0_hear 74 = .ok (.aload_n 0, 1) := by decide +kernel
theorem dX0_hear_75 : decode cX0_hear 75 = .ok (.getfield 18, 3) := by decide +kernel
theorem dX0_hear_78 : decode cX0_hear 78 = .ok (.iload 6, 2) := by decide +kernel
theorem dX0_hear_80 : decode cX0_hear 80 = .ok (.iaload, 1) := by decide +kernel
theorem dX0_hear_81 : decode cX0_hear 81 = .ok (.iload 5, 2) := by decide +kernel
theorem dX0_hear_83 : decode cX0_hear 83 = .ok (.isub, 1) := by decide +kernel
theorem dX0_hear_84 : decode cX0_hear 84 = .ok (.invokestatic 130, 3) := by decide +kernel
theorem dX0_hear_87 : decode cX0_hear 87 = .ok (.iload_n 3, 1) := by decide +kernel
theorem dX0_hear_88 : decode cX0_hear 88 = .ok (.if_icmp .le 7, 3) := by decide +kernel
theorem dX0_hear_91 : decode cX0_hear 91 = .ok (.iconst 1, 1) := by decide +kernel
theorem dX0_hear_92 : decode cX0_hear 92 = .ok (.goto 4, 3) := by decide +kernel
theorem dX0_hear_95 : decode cX0_hear 95 = .ok (.iconst 0, 1) := by decide +kernel
theorem dX0_hear_96 : decode cX0_hear 96 = .ok (.istore 7, 2) := by decide +kernel
theorem dX0_hear_98 : decode cX0_hear 98 = .ok (.aload_n 0, 1) := by decide +kernel
theorem dX0_hear_99 : decode cX0_hear 99 = .ok (.getfield 18, 3) := by decide +kernel
theorem dX0_hear_102 : decode cX0_hear 102 = .ok (.iload 6, 2) := by decide +kernel
theorem dX0_hear_104 : decode cX0_hear 104 = .ok (.iaload, 1) := by decide +kernel
theorem dX0_hear_105 : decode cX0_hear 105 = .ok (.istore 5, 2) := by decide +kernel
theorem dX0_hear_107 : decode cX0_hear 107 = .ok (.iload 4, 2) := by decide +kernel
theorem dX0_hear_109 : decode cX0_hear 109 = .ok (.ldc 125, 2) := by decide +kernel
theorem dX0_hear_111 : decode cX0_hear 111 = .ok (.if_icmp .ne 8, 3) := by decide +kernel
theorem dX0_hear_114 : decode cX0_hear 114 = .ok (.iload 5, 2) := by decide +kernel
theorem dX0_hear_116 : decode cX0_hear 116 = .ok (.goto 5, 3) := by decide +kernel
theorem dX0_hear_119 : decode cX0_hear 119 = .ok (.iload 4, 2) := by decide +kernel
theorem dX0_hear_121 : decode cX0_hear 121 = .ok (.istore 4, 2) := by decide +kernel
theorem dX0_hear_123 : decode cX0_hear 123 = .ok (.aload_n 0, 1) := by decide +kernel
theorem dX0_hear_124 : decode cX0_hear 124 = .ok (.getfield 21, 3) := by decide +kernel
theorem dX0_hear_127 : decode cX0_hear 127 = .ok (.iload 6, 2) := by decide +kernel
theorem dX0_hear_129 : decode cX0_hear 129 = .ok (.iload 7, 2) := by decide +kernel
theorem dX0_hear_131 : decode cX0_hear 131 = .ok (.ifCond .eq 7, 3) := by decide +kernel
theorem dX0_hear_134 : decode cX0_hear 134 = .ok (.iconst 1, 1) := by decide +kernel
theorem dX0_hear_135 : decode cX0_hear 135 = .ok (.goto 4, 3) := by decide +kernel
theorem dX0_hear_138 : decode cX0_hear 138 = .ok (.iconst 0, 1) := by decide +kernel
theorem dX0_hear_139 : decode cX0_hear 139 = .ok (.iastore, 1) := by decide +kernel
theorem dX0_hear_140 : decode cX0_hear 140 = .ok (.aload_n 0, 1) := by decide +kernel
theorem dX0_hear_141 : decode cX0_hear 141 = .ok (.dup, 1) := by decide +kernel
theorem dX0_hear_142 : decode cX0_hear 142 = .ok (.getfield 34, 3) := by decide +kernel
theorem dX0_hear_145 : decode cX0_hear 145 = .ok (.aload_n 0, 1) := by decide +kernel
theorem dX0_hear_146 : decode cX0_hear 146 = .ok (.getfield 21, 3) := by decide +kernel
theorem dX0_hear_149 : decode cX0_hear 149 = .ok (.iload 6, 2) := by decide +kernel
theorem dX0_hear_151 : decode cX0_hear 151 = .ok (.iaload, 1) := by decide +kernel
theorem dX0_hear_152 : decode cX0_hear 152 = .ok (.iadd, 1) := by decide +kernel
theorem dX0_hear_153 : decode cX0_hear 153 = .ok (.putfield 34, 3) := by decide +kernel
theorem dX0_hear_156 : decode cX0_hear 156 = .ok (.iinc 6 1, 3) := by decide +kernel
theorem dX0_hear_159 : decode cX0_hear 159 = .ok (.goto (-144), 3) := by decide +kernel
theorem dX0_hear_162 : decode cX0_hear 162 = .ok (.aload_n 0, 1) := by decide +kernel
theorem dX0_hear_163 : decode cX0_hear 163 = .ok (.iload 4, 2) := by decide +kernel
theorem dX0_hear_165 : decode cX0_hear 165 = .ok (.ldc 125, 2) := by decide +kernel
theorem dX0_hear_167 : decode cX0_hear 167 = .ok (.if_icmp .ne 7, 3) := by decide +kernel
theorem dX0_hear_170 : decode cX0_hear 170 = .ok (.iconst 0, 1) := by decide +kernel
theorem dX0_hear_171 : decode cX0_hear 171 = .ok (.goto 8, 3) := by decide +kernel
theorem dX0_hear_174 : decode cX0_hear 174 = .ok (.iload 4, 2) := by decide +kernel
theorem dX0_hear_176 : decode cX0_hear 176 = .ok (.iload 5, 2) := by decide +kernel
theorem dX0_hear_178 : decode cX0_hear 178 = .ok (.isub, 1) := by decide +kernel
theorem dX0_hear_179 : decode cX0_hear 179 = .ok (.putfield 31, 3) := by decide +kernel
theorem dX0_hear_182 : decode cX0_hear 182 = .ok (.return_, 1) := by decide +kernel
theorem dX0_findOff_0 : decode cX0_findOff 0 = .ok (.iconst 0, 1) := by decide +kernel
theorem dX0_findOff_1 : decode cX0_findOff 1 = .ok (.istore 4, 2) := by decide +kernel
theorem dX0_findOff_3 : decode cX0_findOff 3 = .ok (.iconst 0, 1) := by decide +kernel
theorem dX0_findOff_4 : decode cX0_findOff 4 = .ok (.istore 5, 2) := by decide +kernel
theorem dX0_findOff_6 : decode cX0_findOff 6 = .ok (.iconst 0, 1) := by decide +kernel
theorem dX0_findOff_7 : decode cX0_findOff 7 = .ok (.istore 6, 2) := by decide +kernel
theorem dX0_findOff_9 : decode cX0_findOff 9 = .ok (.iload 6, 2) := by decide +kernel
theorem dX0_findOff_11 : decode cX0_findOff 11 = .ok (.aload_n 0, 1) := by decide +kernel
theorem dX0_findOff_12 : decode cX0_findOff 12 = .ok (.getfield 15, 3) := by decide +kernel
theorem dX0_findOff_15 : decode cX0_findOff 15 = .ok (.iload_n 2, 1) := by decide +kernel
theorem dX0_findOff_16 : decode cX0_findOff 16 = .ok (.iaload, 1) := by decide +kernel
theorem dX0_findOff_17 : decode cX0_findOff 17 = .ok (.if_icmp .ge 43, 3) := by decide +kernel
theorem dX0_findOff_20 : decode cX0_findOff 20 = .ok (.aload_n 1, 1) := by decide +kernel
theorem dX0_findOff_21 : decode cX0_findOff 21 = .ok (.getfield 102, 3) := by decide +kernel
theorem dX0_findOff_24 : decode cX0_findOff 24 = .ok (.aload_n 0, 1) := by decide +kernel
theorem dX0_findOff_25 : decode cX0_findOff 25 = .ok (.getfield 9, 3) := by decide +kernel
theorem dX0_findOff_28 : decode cX0_findOff 28 = .ok (.iload_n 2, 1) := by decide +kernel
theorem dX0_findOff_29 : decode cX0_findOff 29 = .ok (.iaload, 1) := by decide +kernel
theorem dX0_findOff_30 : decode cX0_findOff 30 = .ok (.iload 6, 2) := by decide +kernel
theorem dX0_findOff_32 : decode cX0_findOff 32 = .ok (.iadd, 1) := by decide +kernel
theorem dX0_findOff_33 : decode cX0_findOff 33 = .ok (.iaload, 1) := by decide +kernel
theorem dX0_findOff_34 : decode cX0_findOff 34 = .ok (.istore 7, 2) := by decide +kernel
theorem dX0_findOff_36 : decode cX0_findOff 36 = .ok (.iload 7, 2) := by decide +kernel
theorem dX0_findOff_38 : decode cX0_findOff 38 = .ok (.iconst (-1), 1) := by decide +kernel
theorem dX0_findOff_39 : decode cX0_findOff 39 = .ok (.if_icmp .eq 15, 3) := by decide +kernel
theorem dX0_findOff_42 : decode cX0_findOff 42 = .ok (.iinc 4 1, 3) := by decide +kernel
theorem dX0_findOff_45 : decode cX0_findOff 45 = .ok (.iload 5, 2) := by decide +kernel
theorem dX0_findOff_47 : decode cX0_findOff 47 = .ok (.iload 7, 2) := by decide +kernel
theorem dX0_findOff_49 : decode cX0_findOff 49 = .ok (.iload_n 3, 1) := by decide +kernel
theorem dX0_findOff_50 : decode cX0_findOff 50 = .ok (.isub, 1) := by decide +kernel
theorem dX0_findOff_51 : decode cX0_findOff 51 = .ok (.iadd, 1) := by decide +kernel
theorem dX0_findOff_52 : decode cX0_findOff 52 = .ok (.istore 5, 2) := by decide +kernel
theorem dX0_findOff_54 : decode cX0_findOff 54 = .ok (.iinc 6 1, 3) := by decide +kernel
theorem dX0_findOff_57 : decode cX0_findOff 57 = .ok (.goto (-48), 3) := by decide +kernel
theorem dX0_findOff_60 : decode cX0_findOff 60 = .ok (.iload 4, 2) := by decide +kernel
theorem dX0_findOff_62 : decode cX0_findOff 62 = .ok (.ifCond .ne 8, 3) := by decide +kernel
theorem dX0_findOff_65 : decode cX0_findOff 65 = .ok (.ldc 125, 2) := by decide +kernel
theorem dX0_findOff_67 : decode cX0_findOff 67 = .ok (.goto 10, 3) := by decide +kernel
theorem dX0_findOff_70 : decode cX0_findOff 70 = .ok (.iload 5, 2) := by decide +kernel
theorem dX0_findOff_72 : decode cX0_findOff 72 = .ok (.iload 4, 2) := by decide +kernel
theorem dX0_findOff_74 : decode cX0_findOff 74 = .ok (.invokestatic 134, 3) := by decide +kernel
theorem dX0_findOff_77 : decode cX0_findOff 77 = .ok (.ireturn, 1) := by decide +kernel
end
section
theorem dX1_init_0 : decode cX1_init 0 = .ok (.aload_n 0, 1) := by decide +kernel
theorem dX1_init_1 : decode cX1_init 1 = .ok (.invokespecial 3, 3) := by decide +kernel
theorem dX1_init_4 : decode cX1_init 4 = .ok (.aload_n 0, 1) := by decide +kernel
theorem dX1_init_5 : decode cX1_init 5 = .ok (.iconst 2, 1) := by decide +kernel
theorem dX1_init_6 : decode cX1_init 6 = .ok (.putfield 9, 3) := by decide +kernel
theorem dX1_init_9 : decode cX1_init 9 = .ok (.aload_n 0, 1) := by decide +kernel
theorem dX1_init_10 : decode cX1_init 10 = .ok (.bipush 20, 2) := by decide +kernel
theorem dX1_init_12 : decode cX1_init 12 = .ok (.putfield 15, 3) := by decide +kernel
theorem dX1_init_15 : decode cX1_init 15 = .ok (.aload_n 0, 1) := by decide +kernel
theorem dX1_init_16 : decode cX1_init 16 = .ok (.bipush 30, 2) := by decide +kernel
theorem dX1_init_18 : decode cX1_init 18 = .ok (.putfield 18, 3) := by decide +kernel
theorem dX1_init_21 : decode cX1_init 21 = .ok (.aload_n 0, 1) := by decide +kernel
theorem dX1_init_22 : decode cX1_init 22 = .ok (.sipush 400, 3) := by decide +kernel
theorem dX1_init_25 : decode cX1_init 25 = .ok (.putfield 21, 3) := by decide +kernel
theorem dX1_init_28 : decode cX1_init 28 = .ok (.aload_n 0, 1) := by decide +kernel
theorem dX1_init_29 : decode cX1_init 29 = .ok (.bipush 40, 2) := by decide +kernel
theorem dX1_init_31 : decode cX1_init 31 = .ok (.putfield 24, 3) := by decide +kernel
theorem dX1_init_34 : decode cX1_init 34 = .ok (.return_, 1) := by decide +kernel
theorem dX1_change_0 : decode cX1_change 0 = .ok (.aload_n 0, 1) := by decide +kernel
theorem dX1_change_1 : decode cX1_change 1 = .ok (.iload_n 1, 1) := by decide +kernel
theorem dX1_change_2 : decode cX1_change 2 = .ok (.putfield 9, 3) := by decide +kernel
theorem dX1_change_5 : decode cX1_change 5 = .ok (.aload_n 0, 1) := by decide +kernel
theorem dX1_change_6 : decode cX1_change 6 = .ok (.iload_n 2, 1) := by decide +kernel
theorem dX1_change_7 : decode cX1_change 7 = .ok (.putfield 15, 3) := by decide +kernel
theorem dX1_change_10 : decode cX1_change 10 = .ok (.aload_n 0, 1) := by decide +kernel
theorem dX1_change_11 : decode cX1_change 11 = .ok (.iload_n 3, 1) := by decide +kernel
theorem dX1_change_12 : decode cX1_change 12 = .ok (.putfield 18, 3) := by decide +kernel
theorem dX1_change_15 : decode cX1_change 15 = .ok (.aload_n 0, 1) := by decide +kernel
theorem dX1_change_16 : decode cX1_change 16 = .ok (.iload 4, 2) := by decide +kernel
theorem dX1_change_18 : decode cX1_change 18 = .ok (.putfield 21, 3) := by decide +kernel
theorem dX1_change_21 : decode cX1_change 21 = .ok (.aload_n 0, 1) := by decide +kernel
theorem dX1_change_22 : decode cX1_change 22 = .ok (.iload 5, 2) := by decide +kernel
theorem dX1_change_24 : decode cX1_change 24 = .ok (.putfield 24, 3) := by decide +kernel
theorem dX1_change_27 : decode cX1_change 27 = .ok (.return_, 1) := by decide +kernel
theorem dX1_costOfReading_0 : decode cX1_costOfReading 0 = .ok (.iload_n 1, 1) := by decide +kernel
theorem dX1_costOfReading_1 : decode cX1_costOfReading 1 = .ok (.iconst (-1), 1) := by decide +kernel
theorem dX1_costOfReading_2 : decode cX1_costOfReading 2 = .ok (.if_icmp .ne 10, 3) := by decide +kernel
theorem dX1_costOfReading_5 : decode cX1_costOfReading 5 = .ok (.aload_n 0, 1) := by decide +kernel
theorem dX1_costOfReading_6 : decode cX1_costOfReading 6 = .ok (.getfield 15, 3) := by decide +kernel
theorem dX1_costOfReading_9 : decode cX1_costOfReading 9 = .ok (.goto 15, 3) := by decide +kernel
theorem dX1_costOfReading_12 : decode cX1_costOfReading 12 = .ok (.iload_n 1, 1) := by decide +kernel
theorem dX1_costOfReading_13 : decode cX1_costOfReading 13 = .ok (.iload_n 2, 1) := by decide +kernel
theorem dX1_costOfReading_14 : decode cX1_costOfReading 14 = .ok (.isub, 1) := by decide +kernel
theorem dX1_costOfReading_15 : decode cX1_costOfReading 15 = .ok (.invokestatic 27, 3) := by decide +kernel
theorem dX1_costOfReading_18 : decode cX1_costOfReading 18 = .ok (.sipush 300, 3) := by decide +kernel
theorem dX1_costOfReading_21 : decode cX1_costOfReading 21 = .ok (.invokestatic 33, 3) := by decide +kernel
theorem dX1_costOfReading_24 : decode cX1_costOfReading 24 = .ok (.ireturn, 1) := by decide +kernel
theorem dX1_costOfLength_0 : decode cX1_costOfLength 0 = .ok (.aload_n 0, 1) := by decide +kernel
theorem dX1_costOfLength_1 : decode cX1_costOfLength 1 = .ok (.getfield 18, 3) := by decide +kernel
theorem dX1_costOfLength_4 : decode cX1_costOfLength 4 = .ok (.iload_n 1, 1) := by decide +kernel
theorem dX1_costOfLength_5 : decode cX1_costOfLength 5 = .ok (.iload_n 2, 1) := by decide +kernel
theorem dX1_costOfLength_6 : decode cX1_costOfLength 6 = .ok (.aload_n 0, 1) := by decide +kernel
theorem dX1_costOfLength_7 : decode cX1_costOfLength 7 = .ok (.getfield 9, 3) := by decide +kernel
theorem dX1_costOfLength_10 : decode cX1_costOfLength 10 = .ok (.imul, 1) := by decide +kernel
theorem dX1_costOfLength_11 : decode cX1_costOfLength 11 = .ok (.isub, 1) := by decide +kernel
theorem dX1_costOfLength_12 : decode cX1_costOfLength 12 = .ok (.invokestatic 27, 3) := by decide +kernel
theorem dX1_costOfLength_15 : decode cX1_costOfLength 15 = .ok (.imul, 1) := by decide +kernel
theorem dX1_costOfLength_16 : decode cX1_costOfLength 16 = .ok (.istore_n 3, 1) := by decide +kernel
theorem dX1_costOfLength_17 : decode cX1_costOfLength 17 = .ok (.iload_n 1, 1) := by decide +kernel
theorem dX1_costOfLength_18 : decode cX1_costOfLength 18 = .ok (.ifCond .ne 12, 3) := by decide +kernel
theorem dX1_costOfLength_21 : decode cX1_costOfLength 21 = .ok (.iload_n 3, 1) := by decide +kernel
theorem dX1_costOfLength_22 : decode cX1_costOfLength 22 = .ok (.aload_n 0, 1) := by decide +kernel
theorem dX1_costOfLength_23 : decode cX1_costOfLength 23 = .ok (.getfield 21, 3) := by decide +kernel
theorem dX1_costOfLength_26 : decode cX1_costOfLength 26 = .ok (.iadd, 1) := by decide +kernel
theorem dX1_costOfLength_27 : decode cX1_costOfLength 27 = .ok (.goto 4, 3) := by decide +kernel
theorem dX1_costOfLength_30 : decode cX1_costOfLength 30 = .ok (.iload_n 3, 1) := by decide +kernel
theorem dX1_costOfLength_31 : decode cX1_costOfLength 31 = .ok (.ireturn, 1) := by decide +kernel
theorem dX2_init_0 : decode cX2_init 0 = .ok (.aload_n 0, 1) := by decide +kernel
theorem dX2_init_1 : decode cX2_init 1 = .ok (.invokespecial 3, 3) := by decide +kernel
theorem dX2_init_4 : decode cX2_init 4 = .ok (.aload_n 0, 1) := by decide +kernel
theorem dX2_init_5 : decode cX2_init 5 = .ok (.iconst 0, 1) := by decide +kernel
theorem dX2_init_6 : decode cX2_init 6 = .ok (.putfield 9, 3) := by decide +kernel
theorem dX2_init_9 : decode cX2_init 9 = .ok (.aload_n 0, 1) := by decide +kernel
theorem dX2_init_10 : decode cX2_init 10 = .ok (.bipush 9, 2) := by decide +kernel
theorem dX2_init_12 : decode cX2_init 12 = .ok (.newarray .int, 2) := by decide +kernel
theorem dX2_init_14 : decode cX2_init 14 = .ok (.putfield 15, 3) := by decide +kernel
theorem dX2_init_17 : decode cX2_init 17 = .ok (.aload_n 0, 1) := by decide +kernel
theorem dX2_init_18 : decode cX2_init 18 = .ok (.bipush 9, 2) := by decide +kernel
theorem dX2_init_20 : decode cX2_init 20 = .ok (.bipush 10, 2) := by decide +kernel
theorem dX2_init_22 : decode cX2_init 22 = .ok (.multianewarray 19 2, 4) := by decide +kernel
theorem dX2_init_26 : decode cX2_init 26 = .ok (.putfield 21, 3) := by decide +kernel
theorem dX2_init_29 : decode cX2_init 29 = .ok (.return_, 1) := by decide +kernel
theorem dX2_takeRow_0 : decode cX2_takeRow 0 = .ok (.iconst 0, 1) := by decide +kernel
theorem dX2_takeRow_1 : decode cX2_takeRow 1 = .ok (.istore 5, 2) := by decide +kernel
theorem dX2_takeRow_3 : decode cX2_takeRow 3 = .ok (.iconst 0, 1) := by decide +kernel
theorem dX2_takeRow_4 : decode cX2_takeRow 4 = .ok (.istore 6, 2) := by decide +kernel
theorem dX2_takeRow_6 : decode cX2_takeRow 6 = .ok (.iload 6, 2) := by decide +kernel
theorem dX2_takeRow_8 : decode cX2_takeRow 8 = .ok (.iload_n 2, 1) := by decide +kernel
theorem dX2_takeRow_9 : decode cX2_takeRow 9 = .ok (.if_icmp .ge 46, 3) := by decide +kernel
theorem dX2_takeRow_12 : decode cX2_takeRow 12 = .ok (.lload_n 3, 1) := by decide +kernel
theorem dX2_takeRow_13 : decode cX2_takeRow 13 = .ok (.iload 6, 2) := by decide +kernel
theorem dX2_takeRow_15 : decode cX2_takeRow 15 = .ok (.invokestatic 24, 3) := by decide +kernel
theorem dX2_takeRow_18 : decode cX2_takeRow 18 = .ok (.istore 7, 2) := by decide +kernel
theorem dX2_takeRow_20 : decode cX2_takeRow 20 = .ok (.iload 7, 2) := by decide +kernel
theorem dX2_takeRow_22 : decode cX2_takeRow 22 = .ok (.bipush 10, 2) := by decide +kernel
theorem dX2_takeRow_24 : decode cX2_takeRow 24 = .ok (.if_icmp .ge 14, 3) := by decide +kernel
theorem dX2_takeRow_27 : decode cX2_takeRow 27 = .ok (.iload 5, 2) := by decide +kernel
theorem dX2_takeRow_29 : decode cX2_takeRow 29 = .ok (.iload 7, 2) := by decide +kernel
theorem dX2_takeRow_31 : decode cX2_takeRow 31 = .ok (.ishr, 1) := by decide +kernel
theorem dX2_takeRow_32 : decode cX2_takeRow 32 = .ok (.iconst 1, 1) := by decide +kernel
theorem dX2_takeRow_33 : decode cX2_takeRow 33 = .ok (.iand, 1) := by decide +kernel
theorem dX2_takeRow_34 : decode cX2_takeRow 34 = .ok (.iconst 1, 1) := by decide +kernel
theorem dX2_takeRow_35 : decode cX2_takeRow 35 = .ok (.if_icmp .ne 5, 3) := by decide +kernel
theorem dX2_takeRow_38 : decode cX2_takeRow 38 = .ok (.iconst 0, 1) := by decide +kernel
theorem dX2_takeRow_39 : decode cX2_takeRow 39 = .ok (.ireturn, 1) := by decide +kernel
theorem dX2_takeRow_40 : decode cX2_takeRow 40 = .ok (.iload 5, 2) := by decide +kernel
theorem dX2_takeRow_42 : decode cX2_takeRow 42 = .ok (.iconst 1, 1) := by decide +kernel
theorem dX2_takeRow_43 : decode cX2_takeRow 43 = .ok (.iload 7, 2) := by decide +kernel
theorem dX2_takeRow_45 : decode cX2_takeRow 45 = .ok (.ishl, 1) := by decide +kernel
theorem dX2_takeRow_46 : decode cX2_takeRow 46 = .ok (.ior, 1) := by decide +kernel
theorem dX2_takeRow_47 : decode cX2_takeRow 47 = .ok (.istore 5, 2) := by decide +kernel
theorem dX2_takeRow_49 : decode cX2_takeRow 49 = .ok (.iinc 6 1, 3) := by decide +kernel
theorem dX2_takeRow_52 : decode cX2_takeRow 52 = .ok (.goto (-46), 3) := by decide +kernel
theorem dX2_takeRow_55 : decode cX2_takeRow 55 = .ok (.aload_n 0, 1) := by decide +kernel
theorem dX2_takeRow_56 : decode cX2_takeRow 56 = .ok (.getfield 15, 3) := by decide +kernel
theorem dX2_takeRow_59 : decode cX2_takeRow 59 = .ok (.iload_n 1, 1) := by decide +kernel
theorem dX2_takeRow_60 : decode cX2_takeRow 60 = .ok (.iload 5, 2) := by decide +kernel
theorem dX2_takeRow_62 : decode cX2_takeRow 62 = .ok (.iastore, 1) := by decide +kernel
theorem dX2_takeRow_63 : decode cX2_takeRow 63 = .ok (.iconst 0, 1) := by decide +kernel
theorem dX2_takeRow_64 : decode cX2_takeRow 64 = .ok (.istore 6, 2) := by decide +kernel
theorem dX2_takeRow_66 : decode cX2_takeRow 66 = .ok (.iload 6, 2) := by decide +kernel
theorem dX2_takeRow_68 : decode cX2_takeRow 68 = .ok (.iload_n 2, 1) := by decide +kernel
theorem dX2_takeRow_69 : decode cX2_takeRow 69 = .ok (.if_icmp .ge 26, 3) := by decide +kernel
theorem dX2_takeRow_72 : decode cX2_takeRow 72 = .ok (.aload_n 0, 1) := by decide +kernel
theorem dX2_takeRow_73 : decode cX2_takeRow 73 = .ok (.getfield 21, 3) := by decide +kernel
theorem dX2_takeRow_76 : decode cX2_takeRow 76 = .ok (.iload_n 1, 1) := by decide +kernel
theorem dX2_takeRow_77 : decode cX2_takeRow 77 = .ok (.aaload, 1) := by decide +kernel
theorem dX2_takeRow_78 : decode cX2_takeRow 78 = .ok (.lload_n 3, 1) := by decide +kernel
theorem dX2_takeRow_79 : decode cX2_takeRow 79 = .ok (.iload 6, 2) := by decide +kernel
theorem dX2_takeRow_81 : decode cX2_takeRow 81 = .ok (.invokestatic 24, 3) := by decide +kernel
theorem dX2_takeRow_84 : decode cX2_takeRow 84 = .ok (.iload 6, 2) := by decide +kernel
theorem dX2_takeRow_86 : decode cX2_takeRow 86 = .ok (.iconst 1, 1) := by decide +kernel
theorem dX2_takeRow_87 : decode cX2_takeRow 87 = .ok (.iadd, 1) := by decide +kernel
theorem dX2_takeRow_88 : decode cX2_takeRow 88 = .ok (.iastore, 1) := by decide +kernel
theorem dX2_takeRow_89 : decode cX2_takeRow 89 = .ok (.iinc 6 1, 3) := by decide +kernel
theorem dX2_takeRow_92 : decode cX2_takeRow 92 = .ok (.goto (-26), 3) := by decide +kernel
theorem dX2_takeRow_95 : decode cX2_takeRow 95 = .ok (.iconst 1, 1) := by decide +kernel
theorem dX2_takeRow_96 : decode cX2_takeRow 96 = .ok (.ireturn, 1) := by decide +kernel
theorem dX2_clubAt_0 : decode cX2_clubAt 0 = .ok (.lload_n 0, 1) := by decide +kernel
theorem dX2_clubAt_1 : decode cX2_clubAt 1 = .ok (.iconst 4, 1) := by decide +kernel
theorem dX2_clubAt_2 : decode cX2_clubAt 2 = .ok (.iload_n 2, 1) := by decide +kernel
theorem dX2_clubAt_3 : decode cX2_clubAt 3 = .ok (.imul, 1) := by decide +kernel
theorem dX2_clubAt_4 : decode cX2_clubAt 4 = .ok (.lushr, 1) := by decide +kernel
theorem dX2_clubAt_5 : decode cX2_clubAt 5 = .ok (.l2i, 1) := by decide +kernel
theorem dX2_clubAt_6 : decode cX2_clubAt 6 = .ok (.bipush 15, 2) := by decide +kernel
theorem dX2_clubAt_8 : decode cX2_clubAt 8 = .ok (.iand, 1) := by decide +kernel
theorem dX2_clubAt_9 : decode cX2_clubAt 9 = .ok (.ireturn, 1) := by decide +kernel
theorem dX2_isSinging_0 : decode cX2_isSinging 0 = .ok (.iload_n 1, 1) := by decide +kernel
theorem dX2_isSinging_1 : decode cX2_isSinging 1 = .ok (.iconst 0, 1) := by decide +kernel
theorem dX2_isSinging_2 : decode cX2_isSinging 2 = .ok (.bipush 9, 2) := by decide +kernel
theorem dX2_isSinging_4 : decode cX2_isSinging 4 = .ok (.invokestatic 28, 3) := by decide +kernel
theorem dX2_isSinging_7 : decode cX2_isSinging 7 = .ok (.ifCond .eq 19, 3) := by decide +kernel
theorem dX2_isSinging_10 : decode cX2_isSinging 10 = .ok (.aload_n 0, 1) := by decide +kernel
theorem dX2_isSinging_11 : decode cX2_isSinging 11 = .ok (.getfield 9, 3) := by decide +kernel
theorem dX2_isSinging_14 : decode cX2_isSinging 14 = .ok (.iload_n 1, 1) := by decide +kernel
theorem dX2_isSinging_15 : decode cX2_isSinging 15 = .ok (.ishr, 1) := by decide +kernel
theorem dX2_isSinging_16 : decode cX2_isSinging 16 = .ok (.iconst 1, 1) := by decide +kernel
theorem dX2_isSinging_17 : decode cX2_isSinging 17 = .ok (.iand, 1) := by decide +kernel
theorem dX2_isSinging_18 : decode cX2_isSinging 18 = .ok (.iconst 1, 1) := by decide +kernel
theorem dX2_isSinging_19 : decode cX2_isSinging 19 = .ok (.if_icmp .ne 7, 3) := by decide +kernel
theorem dX2_isSinging_22 : decode cX2_isSinging 22 = .ok (.iconst 1, 1) := by decide +kernel
theorem dX2_isSinging_23 : decode cX2_isSinging 23 = .ok (.goto 4, 3) := by decide +kernel
theorem dX2_isSinging_26 : decode cX2_isSinging 26 = .ok (.iconst 0, 1) := by decide +kernel
theorem dX2_isSinging_27 : decode cX2_isSinging 27 = .ok (.ireturn, 1) := by decide +kernel
theorem dX2_isCounting_0 : decode cX2_isCounting 0 = .ok (.aload_n 0, 1) := by decide +kernel
theorem dX2_isCounting_1 : decode cX2_isCounting 1 = .ok (.getfield 9, 3) := by decide +kernel
theorem dX2_isCounting_4 : decode cX2_isCounting 4 = .ok (.ifCond .eq 20, 3) := by decide +kernel
theorem dX2_isCounting_7 : decode cX2_isCounting 7 = .ok (.aload_n 0, 1) := by decide +kernel
theorem dX2_isCounting_8 : decode cX2_isCounting 8 = .ok (.getfield 15, 3) := by decide +kernel
theorem dX2_isCounting_11 : decode cX2_isCounting 11 = .ok (.iload_n 1, 1) := by decide +kernel
theorem dX2_isCounting_12 : decode cX2_isCounting 12 = .ok (.iaload, 1) := by decide +kernel
theorem dX2_isCounting_13 : decode cX2_isCounting 13 = .ok (.aload_n 0, 1) := by decide +kernel
theorem dX2_isCounting_14 : decode cX2_isCounting 14 = .ok (.getfield 9, 3) := by decide +kernel
theorem dX2_isCounting_17 : decode cX2_isCounting 17 = .ok (.if_icmp .ne 7, 3) := by decide +kernel
theorem dX2_isCounting_20 : decode cX2_isCounting 20 = .ok (.iconst 1, 1) := by decide +kernel
theorem dX2_isCounting_21 : decode cX2_isCounting 21 = .ok (.goto 4, 3) := by decide +kernel
theorem dX2_isCounting_24 : decode cX2_isCounting 24 = .ok (.iconst 0, 1) := by decide +kernel
theorem dX2_isCounting_25 : decode cX2_isCounting 25 = .ok (.ireturn, 1) := by decide +kernel
theorem dX2_countJudges_0 : decode cX2_countJudges 0 = .ok (.iconst 0, 1) := by decide +kernel
theorem dX2_countJudges_1 : decode cX2_countJudges 1 = .ok (.istore_n 1, 1) := by decide +kernel
theorem dX2_countJudges_2 : decode cX2_countJudges 2 = .ok (.iconst 0, 1) := by decide +kernel
theorem dX2_countJudges_3 : decode cX2_countJudges 3 = .ok (.istore_n 2, 1) := by decide +kernel
theorem dX2_countJudges_4 : decode cX2_countJudges 4 = .ok (.iload_n 2, 1) := by decide +kernel
theorem dX2_countJudges_5 : decode cX2_countJudges 5 = .ok (.bipush 9, 2) := by decide +kernel
theorem dX2_countJudges_7 : decode cX2_countJudges 7 = .ok (.if_icmp .ge 20, 3) := by decide +kernel
theorem dX2_countJudges_10 : decode cX2_countJudges 10 = .ok (.aload_n 0, 1) := by decide +kernel
theorem dX2_countJudges_11 : decode cX2_countJudges 11 = .ok (.iload_n 2, 1) := by decide +kernel
theorem dX2_countJudges_12 : decode cX2_countJudges 12 = .ok (.invokevirtual 32, 3) := by decide +kernel
theorem dX2_countJudges_15 : decode cX2_countJudges 15 = .ok (.ifCond .eq 6, 3) := by decide +kernel
theorem dX2_countJudges_18 : decode cX2_countJudges 18 = .ok (.iinc 1 1, 3) := by decide +kernel
theorem dX2_countJudges_21 : decode cX2_countJudges 21 = .ok (.iinc 2 1, 3) := by decide +kernel
theorem dX2_countJudges_24 : decode cX2_countJudges 24 = .ok (.goto (-20), 3) := by decide +kernel
theorem dX2_countJudges_27 : decode cX2_countJudges 27 = .ok (.iload_n 1, 1) := by decide +kernel
theorem dX2_countJudges_28 : decode cX2_countJudges 28 = .ok (.ireturn, 1) := by decide +kernel
theorem dX2_countRanks_0 : decode cX2_countRanks 0 = .ok (.iconst 0, 1) := by decide +kernel
theorem dX2_countRanks_1 : decode cX2_countRanks 1 = .ok (.istore_n 3, 1) := by decide +kernel
theorem dX2_countRanks_2 : decode cX2_countRanks 2 = .ok (.iconst 0, 1) := by decide +kernel
theorem dX2_countRanks_3 : decode cX2_countRanks 3 = .ok (.istore 4, 2) := by decide +kernel
theorem dX2_countRanks_5 : decode cX2_countRanks 5 = .ok (.iload 4, 2) := by decide +kernel
theorem dX2_countRanks_7 : decode cX2_countRanks 7 = .ok (.bipush 9, 2) := by decide +kernel
theorem dX2_countRanks_9 : decode cX2_countRanks 9 = .ok (.if_icmp .ge 34, 3) := by decide +kernel
theorem dX2_countRanks_12 : decode cX2_countRanks 12 = .ok (.aload_n 0, 1) := by decide +kernel
theorem dX2_countRanks_13 : decode cX2_countRanks 13 = .ok (.iload 4, 2) := by decide +kernel
theorem dX2_countRanks_15 : decode cX2_countRanks 15 = .ok (.invokevirtual 32, 3) := by decide +kernel
theorem dX2_countRanks_18 : decode cX2_countRanks 18 = .ok (.ifCond .eq 19, 3) := by decide +kernel
theorem dX2_countRanks_21 : decode cX2_countRanks 21 = .ok (.aload_n 0, 1) := by decide +kernel
theorem dX2_countRanks_22 : decode cX2_countRanks 22 = .ok (.getfield 21, 3) := by decide +kernel
theorem dX2_countRanks_25 : decode cX2_countRanks 25 = .ok (.iload 4, 2) := by decide +kernel
theorem dX2_countRanks_27 : decode cX2_countRanks 27 = .ok (.aaload, 1) := by decide +kernel
theorem dX2_countRanks_28 : decode cX2_countRanks 28 = .ok (.iload_n 1, 1) := by decide +kernel
theorem dX2_countRanks_29 : decode cX2_countRanks 29 = .ok (.iaload, 1) := by decide +kernel
theorem dX2_countRanks_30 : decode cX2_countRanks 30 = .ok (.iload_n 2, 1) := by decide +kernel
theorem dX2_countRanks_31 : decode cX2_countRanks 31 = .ok (.if_icmp .gt 6, 3) := by decide +kernel
theorem dX2_countRanks_34 : decode cX2_countRanks 34 = .ok (.iinc 3 1, 3) := by decide +kernel
theorem dX2_countRanks_37 : decode cX2_countRanks 37 = .ok (.iinc 4 1, 3) := by decide +kernel
theorem dX2_countRanks_40 : decode cX2_countRanks 40 = .ok (.goto (-35), 3) := by decide +kernel
theorem dX2_countRanks_43 : decode cX2_countRanks 43 = .ok (.iload_n 3, 1) := by decide +kernel
theorem dX2_countRanks_44 : decode cX2_countRanks 44 = .ok (.ireturn, 1) := by decide +kernel
theorem dX2_sumRanks_0 : decode cX2_sumRanks 0 = .ok (.iconst 0, 1) := by decide +kernel
theorem dX2_sumRanks_1 : decode cX2_sumRanks 1 = .ok (.istore_n 3, 1) := by decide +kernel
theorem dX2_sumRanks_2 : decode cX2_sumRanks 2 = .ok (.iconst 0, 1) := by decide +kernel
theorem dX2_sumRanks_3 : decode cX2_sumRanks 3 = .ok (.istore 4, 2) := by decide +kernel
theorem dX2_sumRanks_5 : decode cX2_sumRanks 5 = .ok (.iload 4, 2) := by decide +kernel
theorem dX2_sumRanks_7 : decode cX2_sumRanks 7 = .ok (.bipush 9, 2) := by decide +kernel
theorem dX2_sumRanks_9 : decode cX2_sumRanks 9 = .ok (.if_icmp .ge 43, 3) := by decide +kernel
theorem dX2_sumRanks_12 : decode cX2_sumRanks 12 = .ok (.aload_n 0, 1) := by decide +kernel
theorem dX2_sumRanks_13 : decode cX2_sumRanks 13 = .ok (.iload 4, 2) := by decide +kernel
theorem dX2_sumRanks_15 : decode cX2_sumRanks 15 = .ok (.invokevirtual 32, 3) := by decide +kernel
theorem dX2_sumRanks_18 : decode cX2_sumRanks 18 = .ok (.ifCond .eq 28, 3) := by decide +kernel
theorem dX2_sumRanks_21 : decode cX2_sumRanks 21 = .ok (.aload_n 0, 1) := by decide +kernel
theorem dX2_sumRanks_22 : decode cX2_sumRanks 22 = .ok (.getfield 21, 3) := by decide +kernel
theorem dX2_sumRanks_25 : decode cX2_sumRanks 25 = .ok (.iload 4, 2) := by decide +kernel
theorem dX2_sumRanks_27 : decode cX2_sumRanks 27 = .ok (.aaload, 1) := by decide +kernel
theorem dX2_sumRanks_28 : decode cX2_sumRanks 28 = .ok (.iload_n 1, 1) := by decide +kernel
theorem dX2_sumRanks_29 : decode cX2_sumRanks 29 = .ok (.iaload, 1) := by decide +kernel
theorem dX2_sumRanks_30 : decode cX2_sumRanks 30 = .ok (.iload_n 2, 1) := by decide +kernel
theorem dX2_sumRanks_31 : decode cX2_sumRanks 31 = .ok (.if_icmp .gt 15, 3) := by decide +kernel
theorem dX2_sumRanks_34 : decode cX2_sumRanks 34 = .ok (.iload_n 3, 1) := by decide +kernel
theorem dX2_sumRanks_35 : decode cX2_sumRanks 35 = .ok (.aload_n 0, 1) := by decide +kernel
theorem dX2_sumRanks_36 : decode cX2_sumRanks 36 = .ok (.getfield 21, 3) := by decide +kernel
theorem dX2_sumRanks_39 : decode cX2_sumRanks 39 = .ok (.iload 4, 2) := by decide +kernel
theorem dX2_sumRanks_41 : decode cX2_sumRanks 41 = .ok (.aaload, 1) := by decide +kernel
theorem dX2_sumRanks_42 : decode cX2_sumRanks 42 = .ok (.iload_n 1, 1) := by decide +kernel
theorem dX2_sumRanks_43 : decode cX2_sumRanks 43 = .ok (.iaload, 1) := by decide +kernel
theorem dX2_sumRanks_44 : decode cX2_sumRanks 44 = .ok (.iadd, 1) := by decide +kernel
theorem dX2_sumRanks_45 : decode cX2_sumRanks 45 = .ok (.istore_n 3, 1) := by decide +kernel
theorem dX2_sumRanks_46 : decode cX2_sumRanks 46 = .ok (.iinc 4 1, 3) := by decide +kernel
theorem dX2_sumRanks_49 : decode cX2_sumRanks 49 = .ok (.goto (-44), 3) := by decide +kernel
theorem dX2_sumRanks_52 : decode cX2_sumRanks 52 = .ok (.iload_n 3, 1) := by decide +kernel
theorem dX2_sumRanks_53 : decode cX2_sumRanks 53 = .ok (.ireturn, 1) := by decide +kernel
theorem dX2_findPlace_0 : decode cX2_findPlace 0 = .ok (.aload_n 0, 1) := by decide +kernel
theorem dX2_findPlace_1 : decode cX2_findPlace 1 = .ok (.iload_n 1, 1) := by decide +kernel
theorem dX2_findPlace_2 : decode cX2_findPlace 2 = .ok (.invokevirtual 36, 3) := by decide +kernel
theorem dX2_findPlace_5 : decode cX2_findPlace 5 = .ok (.istore_n 2, 1) := by decide +kernel
theorem dX2_findPlace_6 : decode cX2_findPlace 6 = .ok (.iconst 0, 1) := by decide +kernel
theorem dX2_findPlace_7 : decode cX2_findPlace 7 = .ok (.istore_n 3, 1) := by decide +kernel
theorem dX2_findPlace_8 : decode cX2_findPlace 8 = .ok (.iconst 0, 1) := by decide +kernel
theorem dX2_findPlace_9 : decode cX2_findPlace 9 = .ok (.istore 4, 2) := by decide +kernel
theorem dX2_findPlace_11 : decode cX2_findPlace 11 = .ok (.iload 4, 2) := by decide +kernel
theorem dX2_findPlace_13 : decode cX2_findPlace 13 = .ok (.bipush 10, 2) := by decide +kernel
theorem dX2_findPlace_15 : decode cX2_findPlace 15 = .ok (.if_icmp .ge 32, 3) := by decide +kernel
theorem dX2_findPlace_18 : decode cX2_findPlace 18 = .ok (.aload_n 0, 1) := by decide +kernel
theorem dX2_findPlace_19 : decode cX2_findPlace 19 = .ok (.iload 4, 2) := by decide +kernel
theorem dX2_findPlace_21 : decode cX2_findPlace 21 = .ok (.invokevirtual 40, 3) := by decide +kernel
theorem dX2_findPlace_24 : decode cX2_findPlace 24 = .ok (.ifCond .eq 17, 3) := by decide +kernel
theorem dX2_findPlace_27 : decode cX2_findPlace 27 = .ok (.aload_n 0, 1) := by decide +kernel
theorem dX2_findPlace_28 : decode cX2_findPlace 28 = .ok (.iload 4, 2) := by decide +kernel
theorem dX2_findPlace_30 : decode cX2_findPlace 30 = .ok (.iload_n 1, 1) := by decide +kernel
theorem dX2_findPlace_31 : decode cX2_findPlace 31 = .ok (.iload_n 2, 1) := by decide +kernel
theorem dX2_findPlace_32 : decode cX2_findPlace 32 = .ok (.invokevirtual 43, 3) := by decide +kernel
theorem dX2_findPlace_35 : decode cX2_findPlace 35 = .ok (.ifCond .eq 6, 3) := by decide +kernel
theorem dX2_findPlace_38 : decode cX2_findPlace 38 = .ok (.iinc 3 1, 3) := by decide +kernel
theorem dX2_findPlace_41 : decode cX2_findPlace 41 = .ok (.iinc 4 1, 3) := by decide +kernel
theorem dX2_findPlace_44 : decode cX2_findPlace 44 = .ok (.goto (-33), 3) := by decide +kernel
theorem dX2_findPlace_47 : decode cX2_findPlace 47 = .ok (.iload_n 3, 1) := by decide +kernel
theorem dX2_findPlace_48 : decode cX2_findPlace 48 = .ok (.iconst 1, 1) := by decide +kernel
theorem dX2_findPlace_49 : decode cX2_findPlace 49 = .ok (.iadd, 1) := by decide +kernel
theorem dX2_findPlace_50 : decode cX2_findPlace 50 = .ok (.ireturn, 1) := by decide +kernel
theorem dX2_findGreaterHalf_0 : decode cX2_findGreaterHalf 0 = .ok (.aload_n 0, 1) := by decide +kernel
theorem dX2_findGreaterHalf_1 : decode cX2_findGreaterHalf 1 = .ok (.invokevirtual 46, 3) := by decide +kernel
theorem dX2_findGreaterHalf_4 : decode cX2_findGreaterHalf 4 = .ok (.istore_n 2, 1) := by decide +kernel
theorem dX2_findGreaterHalf_5 : decode cX2_findGreaterHalf 5 = .ok (.iconst 1, 1) := by decide +kernel
theorem dX2_findGreaterHalf_6 : decode cX2_findGreaterHalf 6 = .ok (.istore_n 3, 1) := by decide +kernel
theorem dX2_findGreaterHalf_7 : decode cX2_findGreaterHalf 7 = .ok (.iload_n 3, 1) := by decide +kernel
theorem dX2_findGreaterHalf_8 : decode cX2_findGreaterHalf 8 = .ok (.bipush 10, 2) := by decide +kernel
theorem dX2_findGreaterHalf_10 : decode cX2_findGreaterHalf 10 = .ok (.if_icmp .ge 21, 3) := by decide +kernel
theorem dX2_findGreaterHalf_13 : decode cX2_findGreaterHalf 13 = .ok (.iconst 2, 1) := by decide +kernel
theorem dX2_findGreaterHalf_14 : decode cX2_findGreaterHalf 14 = .ok (.aload_n 0, 1) := by decide +kernel
theorem dX2_findGreaterHalf_15 : decode cX2_findGreaterHalf 15 = .ok (.iload_n 1, 1) := by decide +kernel
theorem dX2_findGreaterHalf_16 : decode cX2_findGreaterHalf 16 = .ok (.iload_n 3, 1) := by decide +kernel
theorem dX2_findGreaterHalf_17 : decode cX2_findGreaterHalf 17 = .ok (.invokevirtual 50, 3) := by decide +kernel
theorem dX2_findGreaterHalf_20 : decode cX2_findGreaterHalf 20 = .ok (.imul, 1) := by decide +kernel
theorem dX2_findGreaterHalf_21 : decode cX2_findGreaterHalf 21 = .ok (.iload_n 2, 1) := by decide +kernel
theorem dX2_findGreaterHalf_22 : decode cX2_findGreaterHalf 22 = .ok (.if_icmp .gt 9, 3) := by decide +kernel
theorem dX2_findGreaterHalf_25 : decode cX2_findGreaterHalf 25 = .ok (.iinc 3 1, 3) := by decide +kernel
theorem dX2_findGreaterHalf_28 : decode cX2_findGreaterHalf 28 = .ok (.goto (-21), 3) := by decide +kernel
theorem dX2_findGreaterHalf_31 : decode cX2_findGreaterHalf 31 = .ok (.iload_n 3, 1) := by decide +kernel
theorem dX2_findGreaterHalf_32 : decode cX2_findGreaterHalf 32 = .ok (.ireturn, 1) := by decide +kernel
theorem dX2_isAhead_0 : decode cX2_isAhead 0 = .ok (.aload_n 0, 1) := by decide +kernel
theorem dX2_isAhead_1 : decode cX2_isAhead 1 = .ok (.iload_n 1, 1) := by decide +kernel
theorem dX2_isAhead_2 : decode cX2_isAhead 2 = .ok (.invokevirtual 36, 3) := by decide +kernel
theorem dX2_isAhead_5 : decode cX2_isAhead 5 = .ok (.istore 4, 2) := by decide +kernel
theorem dX2_isAhead_7 : decode cX2_isAhead 7 = .ok (.iload 4, 2) := by decide +kernel
theorem dX2_isAhead_9 : decode cX2_isAhead 9 = .ok (.iload_n 3, 1) := by decide +kernel
theorem dX2_isAhead_10 : decode cX2_isAhead 10 = .ok (.if_icmp .eq 15, 3) := by decide +kernel
theorem dX2_isAhead_13 : decode cX2_isAhead 13 = .ok (.iload 4, 2) := by decide +kernel
theorem dX2_isAhead_15 : decode cX2_isAhead 15 = .ok (.iload_n 3, 1) := by decide +kernel
theorem dX2_isAhead_16 : decode cX2_isAhead 16 = .ok (.if_icmp .ge 7, 3) := by decide +kernel
theorem dX2_isAhead_19 : decode cX2_isAhead 19 = .ok (.iconst 1, 1) := by decide +kernel
theorem dX2_isAhead_20 : decode cX2_isAhead 20 = .ok (.goto 4, 3) := by decide +kernel
theorem dX2_isAhead_23 : decode cX2_isAhead 23 = .ok (.iconst 0, 1) := by decide +kernel
theorem dX2_isAhead_24 : decode cX2_isAhead 24 = .ok (.ireturn, 1) := by decide +kernel
theorem dX2_isAhead_25 : decode cX2_isAhead 25 = .ok (.iload_n 3, 1) := by decide +kernel
theorem dX2_isAhead_26 : decode cX2_isAhead 26 = .ok (.istore 5, 2) := by decide +kernel
theorem dX2_isAhead_28 : decode cX2_isAhead 28 = .ok (.iload 5, 2) := by decide +kernel
theorem dX2_isAhead_30 : decode cX2_isAhead 30 = .ok (.bipush 10, 2) := by decide +kernel
theorem dX2_isAhead_32 : decode cX2_isAhead 32 = .ok (.if_icmp .gt 75, 3) := by decide +kernel
theorem dX2_isAhead_35 : decode cX2_isAhead 35 = .ok (.aload_n 0, 1) := by decide +kernel
theorem dX2_isAhead_36 : decode cX2_isAhead 36 = .ok (.iload_n 1, 1) := by decide +kernel
theorem dX2_isAhead_37 : decode cX2_isAhead 37 = .ok (.iload 5, 2) := by decide +kernel
theorem dX2_isAhead_39 : decode cX2_isAhead 39 = .ok (.invokevirtual 50, 3) := by decide +kernel
theorem dX2_isAhead_42 : decode cX2_isAhead 42 = .ok (.aload_n 0, 1) := by decide +kernel
theorem dX2_isAhead_43 : decode cX2_isAhead 43 = .ok (.iload_n 2, 1) := by decide +kernel
theorem dX2_isAhead_44 : decode cX2_isAhead 44 = .ok (.iload 5, 2) := by decide +kernel
theorem dX2_isAhead_46 : decode cX2_isAhead 46 = .ok (.invokevirtual 50, 3) := by decide +kernel
theorem dX2_isAhead_49 : decode cX2_isAhead 49 = .ok (.isub, 1) := by decide +kernel
theorem dX2_isAhead_50 : decode cX2_isAhead 50 = .ok (.istore 6, 2) := by decide +kernel
theorem dX2_isAhead_52 : decode cX2_isAhead 52 = .ok (.iload 6, 2) := by decide +kernel
theorem dX2_isAhead_54 : decode cX2_isAhead 54 = .ok (.ifCond .eq 14, 3) := by decide +kernel
theorem dX2_isAhead_57 : decode cX2_isAhead 57 = .ok (.iload 6, 2) := by decide +kernel
theorem dX2_isAhead_59 : decode cX2_isAhead 59 = .ok (.ifCond .le 7, 3) := by decide +kernel
theorem dX2_isAhead_62 : decode cX2_isAhead 62 = .ok (.iconst 1, 1) := by decide +kernel
theorem dX2_isAhead_63 : decode cX2_isAhead 63 = .ok (.goto 4, 3) := by decide +kernel
theorem dX2_isAhead_66 : decode cX2_isAhead 66 = .ok (.iconst 0, 1) := by decide +kernel
theorem dX2_isAhead_67 : decode cX2_isAhead 67 = .ok (.ireturn, 1) := by decide +kernel
theorem dX2_isAhead_68 : decode cX2_isAhead 68 = .ok (.aload_n 0, 1) := by decide +kernel
theorem dX2_isAhead_69 : decode cX2_isAhead 69 = .ok (.iload_n 2, 1) := by decide +kernel
theorem dX2_isAhead_70 : decode cX2_isAhead 70 = .ok (.iload 5, 2) := by decide +kernel
theorem dX2_isAhead_72 : decode cX2_isAhead 72 = .ok (.invokevirtual 54, 3) := by decide +kernel
theorem dX2_isAhead_75 : decode cX2_isAhead 75 = .ok (.aload_n 0, 1) := by decide +kernel
theorem dX2_isAhead_76 : decode cX2_isAhead 76 = .ok (.iload_n 1, 1) := by decide +kernel
theorem dX2_isAhead_77 : decode cX2_isAhead 77 = .ok (.iload 5, 2) := by decide +kernel
theorem dX2_isAhead_79 : decode cX2_isAhead 79 = .ok (.invokevirtual 54, 3) := by decide +kernel
theorem dX2_isAhead_82 : decode cX2_isAhead 82 = .ok (.isub, 1) := by decide +kernel
theorem dX2_isAhead_83 : decode cX2_isAhead 83 = .ok (.istore 7, 2) := by decide +kernel
theorem dX2_isAhead_85 : decode cX2_isAhead 85 = .ok (.iload 7, 2) := by decide +kernel
theorem dX2_isAhead_87 : decode cX2_isAhead 87 = .ok (.ifCond .eq 14, 3) := by decide +kernel
theorem dX2_isAhead_90 : decode cX2_isAhead 90 = .ok (.iload 7, 2) := by decide +kernel
theorem dX2_isAhead_92 : decode cX2_isAhead 92 = .ok (.ifCond .le 7, 3) := by decide +kernel
theorem dX2_isAhead_95 : decode cX2_isAhead 95 = .ok (.iconst 1, 1) := by decide +kernel
theorem dX2_isAhead_96 : decode cX2_isAhead 96 = .ok (.goto 4, 3) := by decide +kernel
theorem dX2_isAhead_99 : decode cX2_isAhead 99 = .ok (.iconst 0, 1) := by decide +kernel
theorem dX2_isAhead_100 : decode cX2_isAhead 100 = .ok (.ireturn, 1) := by decide +kernel
theorem dX2_isAhead_101 : decode cX2_isAhead 101 = .ok (.iinc 5 1, 3) := by decide +kernel
theorem dX2_isAhead_104 : decode cX2_isAhead 104 = .ok (.goto (-76), 3) := by decide +kernel
theorem dX2_isAhead_107 : decode cX2_isAhead 107 = .ok (.iconst 0, 1) := by decide +kernel
theorem dX2_isAhead_108 : decode cX2_isAhead 108 = .ok (.ireturn, 1) := by decide +kernel
theorem dX3_init_0 : decode cX3_init 0 = .ok (.aload_n 0, 1) := by decide +kernel
theorem dX3_init_1 : decode cX3_init 1 = .ok (.invokespecial 3, 3) := by decide +kernel
theorem dX3_init_4 : decode cX3_init 4 = .ok (.aload_n 0, 1) := by decide +kernel
theorem dX3_init_5 : decode cX3_init 5 = .ok (.bipush 24, 2) := by decide +kernel
theorem dX3_init_7 : decode cX3_init 7 = .ok (.newarray .int, 2) := by decide +kernel
theorem dX3_init_9 : decode cX3_init 9 = .ok (.putfield 9, 3) := by decide +kernel
theorem dX3_init_12 : decode cX3_init 12 = .ok (.aload_n 0, 1) := by decide +kernel
theorem dX3_init_13 : decode cX3_init 13 = .ok (.bipush 24, 2) := by decide +kernel
theorem dX3_init_15 : decode cX3_init 15 = .ok (.newarray .int, 2) := by decide +kernel
theorem dX3_init_17 : decode cX3_init 17 = .ok (.putfield 15, 3) := by decide +kernel
theorem dX3_init_20 : decode cX3_init 20 = .ok (.aload_n 0, 1) := by decide +kernel
theorem dX3_init_21 : decode cX3_init 21 = .ok (.iconst 0, 1) := by decide +kernel
theorem dX3_init_22 : decode cX3_init 22 = .ok (.putfield 18, 3) := by decide +kernel
theorem dX3_init_25 : decode cX3_init 25 = .ok (.return_, 1) := by decide +kernel
theorem dX3_addNote_0 : decode cX3_addNote 0 = .ok (.aload_n 0, 1) := by decide +kernel
theorem dX3_addNote_1 : decode cX3_addNote 1 = .ok (.getfield 9, 3) := by decide +kernel
theorem dX3_addNote_4 : decode cX3_addNote 4 = .ok (.aload_n 0, 1) := by decide +kernel
theorem dX3_addNote_5 : decode cX3_addNote 5 = .ok (.getfield 18, 3) := by decide +kernel
theorem dX3_addNote_8 : decode cX3_addNote 8 = .ok (.iload_n 1, 1) := by decide +kernel
theorem dX3_addNote_9 : decode cX3_addNote 9 = .ok (.iastore, 1) := by decide +kernel
theorem dX3_addNote_10 : decode cX3_addNote 10 = .ok (.aload_n 0, 1) := by decide +kernel
theorem dX3_addNote_11 : decode cX3_addNote 11 = .ok (.getfield 15, 3) := by decide +kernel
theorem dX3_addNote_14 : decode cX3_addNote 14 = .ok (.aload_n 0, 1) := by decide +kernel
theorem dX3_addNote_15 : decode cX3_addNote 15 = .ok (.getfield 18, 3) := by decide +kernel
theorem dX3_addNote_18 : decode cX3_addNote 18 = .ok (.iload_n 2, 1) := by decide +kernel
theorem dX3_addNote_19 : decode cX3_addNote 19 = .ok (.iastore, 1) := by decide +kernel
theorem dX3_addNote_20 : decode cX3_addNote 20 = .ok (.aload_n 0, 1) := by decide +kernel
theorem dX3_addNote_21 : decode cX3_addNote 21 = .ok (.dup, 1) := by decide +kernel
theorem dX3_addNote_22 : decode cX3_addNote 22 = .ok (.getfield 18, 3) := by decide +kernel
theorem dX3_addNote_25 : decode cX3_addNote 25 = .ok (.iconst 1, 1) := by decide +kernel
theorem dX3_addNote_26 : decode cX3_addNote 26 = .ok (.iadd, 1) := by decide +kernel
theorem dX3_addNote_27 : decode cX3_addNote 27 = .ok (.putfield 18, 3) := by decide +kernel
theorem dX3_addNote_30 : decode cX3_addNote 30 = .ok (.aload_n 0, 1) := by decide +kernel
theorem dX3_addNote_31 : decode cX3_addNote 31 = .ok (.getfield 18, 3) := by decide +kernel
theorem dX3_addNote_34 : decode cX3_addNote 34 = .ok (.ireturn, 1) := by decide +kernel
theorem dX4_init_0 : decode cX4_init 0 = .ok (.aload_n 0, 1) := by decide +kernel
theorem dX4_init_1 : decode cX4_init 1 = .ok (.invokespecial 3, 3) := by decide +kernel
theorem dX4_init_4 : decode cX4_init 4 = .ok (.aload_n 0, 1) := by decide +kernel
theorem dX4_init_5 : decode cX4_init 5 = .ok (.bipush 120, 2) := by decide +kernel
theorem dX4_init_7 : decode cX4_init 7 = .ok (.newarray .int, 2) := by decide +kernel
theorem dX4_init_9 : decode cX4_init 9 = .ok (.putfield 9, 3) := by decide +kernel
theorem dX4_init_12 : decode cX4_init 12 = .ok (.aload_n 0, 1) := by decide +kernel
theorem dX4_init_13 : decode cX4_init 13 = .ok (.iconst 0, 1) := by decide +kernel
theorem dX4_init_14 : decode cX4_init 14 = .ok (.putfield 15, 3) := by decide +kernel
theorem dX4_init_17 : decode cX4_init 17 = .ok (.aload_n 0, 1) := by decide +kernel
theorem dX4_init_18 : decode cX4_init 18 = .ok (.iconst 0, 1) := by decide +kernel
theorem dX4_init_19 : decode cX4_init 19 = .ok (.putfield 19, 3) := by decide +kernel
theorem dX4_init_22 : decode cX4_init 22 = .ok (.return_, 1) := by decide +kernel
theorem dX4_startAnew_0 : decode cX4_startAnew 0 = .ok (.aload_n 0, 1) := by decide +kernel
theorem dX4_startAnew_1 : decode cX4_startAnew 1 = .ok (.getfield 15, 3) := by decide +kernel
theorem dX4_startAnew_4 : decode cX4_startAnew 4 = .ok (.istore_n 2, 1) := by decide +kernel
theorem dX4_startAnew_5 : decode cX4_startAnew 5 = .ok (.aload_n 0, 1) := by decide +kernel
theorem dX4_startAnew_6 : decode cX4_startAnew 6 = .ok (.iconst 0, 1) := by decide +kernel
theorem dX4_startAnew_7 : decode cX4_startAnew 7 = .ok (.putfield 15, 3) := by decide +kernel
theorem dX4_startAnew_10 : decode cX4_startAnew 10 = .ok (.aload_n 0, 1) := by decide +kernel
theorem dX4_startAnew_11 : decode cX4_startAnew 11 = .ok (.iload_n 1, 1) := by decide +kernel
theorem dX4_startAnew_12 : decode cX4_startAnew 12 = .ok (.putfield 19, 3) := by decide +kernel
theorem dX4_startAnew_15 : decode cX4_startAnew 15 = .ok (.iload_n 2, 1) := by decide +kernel
theorem dX4_startAnew_16 : decode cX4_startAnew 16 = .ok (.ireturn, 1) := by decide +kernel
theorem dX4_addReadings_0 : decode cX4_addReadings 0 = .ok (.iconst 0, 1) := by decide +kernel
theorem dX4_addReadings_1 : decode cX4_addReadings 1 = .ok (.istore_n 3, 1) := by decide +kernel
theorem dX4_addReadings_2 : decode cX4_addReadings 2 = .ok (.iload_n 3, 1) := by decide +kernel
theorem dX4_addReadings_3 : decode cX4_addReadings 3 = .ok (.iload_n 2, 1) := by decide +kernel
theorem dX4_addReadings_4 : decode cX4_addReadings 4 = .ok (.if_icmp .ge 29, 3) := by decide +kernel
theorem dX4_addReadings_7 : decode cX4_addReadings 7 = .ok (.aload_n 0, 1) := by decide +kernel
theorem dX4_addReadings_8 : decode cX4_addReadings 8 = .ok (.getfield 9, 3) := by decide +kernel
theorem dX4_addReadings_11 : decode cX4_addReadings 11 = .ok (.aload_n 0, 1) := by decide +kernel
theorem dX4_addReadings_12 : decode cX4_addReadings 12 = .ok (.getfield 15, 3) := by decide +kernel
theorem dX4_addReadings_15 : decode cX4_addReadings 15 = .ok (.iload_n 1, 1) := by decide +kernel
theorem dX4_addReadings_16 : decode cX4_addReadings 16 = .ok (.iastore, 1) := by decide +kernel
theorem dX4_addReadings_17 : decode cX4_addReadings 17 = .ok (.aload_n 0, 1) := by decide +kernel
theorem dX4_addReadings_18 : decode cX4_addReadings 18 = .ok (.dup, 1) := by decide +kernel
theorem dX4_addReadings_19 : decode cX4_addReadings 19 = .ok (.getfield 15, 3) := by decide +kernel
theorem dX4_addReadings_22 : decode cX4_addReadings 22 = .ok (.iconst 1, 1) := by decide +kernel
theorem dX4_addReadings_23 : decode cX4_addReadings 23 = .ok (.iadd, 1) := by decide +kernel
theorem dX4_addReadings_24 : decode cX4_addReadings 24 = .ok (.putfield 15, 3) := by decide +kernel
theorem dX4_addReadings_27 : decode cX4_addReadings 27 = .ok (.iinc 3 1, 3) := by decide +kernel
theorem dX4_addReadings_30 : decode cX4_addReadings 30 = .ok (.goto (-28), 3) := by decide +kernel
theorem dX4_addReadings_33 : decode cX4_addReadings 33 = .ok (.aload_n 0, 1) := by decide +kernel
theorem dX4_addReadings_34 : decode cX4_addReadings 34 = .ok (.getfield 15, 3) := by decide +kernel
theorem dX4_addReadings_37 : decode cX4_addReadings 37 = .ok (.ireturn, 1) := by decide +kernel
theorem dX5_init_0 : decode cX5_init 0 = .ok (.aload_n 0, 1) := by decide +kernel
theorem dX5_init_1 : decode cX5_init 1 = .ok (.invokespecial 3, 3) := by decide +kernel
theorem dX5_init_4 : decode cX5_init 4 = .ok (.aload_n 0, 1) := by decide +kernel
theorem dX5_init_5 : decode cX5_init 5 = .ok (.bipush 60, 2) := by decide +kernel
theorem dX5_init_7 : decode cX5_init 7 = .ok (.newarray .int, 2) := by decide +kernel
theorem dX5_init_9 : decode cX5_init 9 = .ok (.putfield 9, 3) := by decide +kernel
theorem dX5_init_12 : decode cX5_init 12 = .ok (.aload_n 0, 1) := by decide +kernel
theorem dX5_init_13 : decode cX5_init 13 = .ok (.bipush 60, 2) := by decide +kernel
theorem dX5_init_15 : decode cX5_init 15 = .ok (.newarray .int, 2) := by decide +kernel
theorem dX5_init_17 : decode cX5_init 17 = .ok (.putfield 15, 3) := by decide +kernel
theorem dX5_init_20 : decode cX5_init 20 = .ok (.aload_n 0, 1) := by decide +kernel
theorem dX5_init_21 : decode cX5_init 21 = .ok (.bipush 60, 2) := by decide +kernel
theorem dX5_init_23 : decode cX5_init 23 = .ok (.newarray .int, 2) := by decide +kernel
theorem dX5_init_25 : decode cX5_init 25 = .ok (.putfield 18, 3) := by decide +kernel
theorem dX5_init_28 : decode cX5_init 28 = .ok (.aload_n 0, 1) := by decide +kernel
theorem dX5_init_29 : decode cX5_init 29 = .ok (.bipush 60, 2) := by decide +kernel
theorem dX5_init_31 : decode cX5_init 31 = .ok (.newarray .int, 2) := by decide +kernel
theorem dX5_init_33 : decode cX5_init 33 = .ok (.putfield 21, 3) := by decide +kernel
theorem dX5_init_36 : decode cX5_init 36 = .ok (.aload_n 0, 1) := by decide +kernel
theorem dX5_init_37 : decode cX5_init 37 = .ok (.iconst 0, 1) := by decide +kernel
theorem dX5_init_38 : decode cX5_init 38 = .ok (.putfield 24, 3) := by decide +kernel
theorem dX5_init_41 : decode cX5_init 41 = .ok (.return_, 1) := by decide +kernel
theorem dX5_addSpan_0 : decode cX5_addSpan 0 = .ok (.aload_n 0, 1) := by decide +kernel
theorem dX5_addSpan_1 : decode cX5_addSpan 1 = .ok (.getfield 9, 3) := by decide +kernel
theorem dX5_addSpan_4 : decode cX5_addSpan 4 = .ok (.aload_n 0, 1) := by decide +kernel
theorem dX5_addSpan_5 : decode cX5_addSpan 5 = .ok (.getfield 24, 3) := by decide +kernel
theorem dX5_addSpan_8 : decode cX5_addSpan 8 = .ok (.iload_n 1, 1) := by decide +kernel
theorem dX5_addSpan_9 : decode cX5_addSpan 9 = .ok (.iastore, 1) := by decide +kernel
theorem dX5_addSpan_10 : decode cX5_addSpan 10 = .ok (.aload_n 0, 1) := by decide +kernel
theorem dX5_addSpan_11 : decode cX5_addSpan 11 = .ok (.getfield 15, 3) := by decide +kernel
theorem dX5_addSpan_14 : decode cX5_addSpan 14 = .ok (.aload_n 0, 1) := by decide +kernel
theorem dX5_addSpan_15 : decode cX5_addSpan 15 = .ok (.getfield 24, 3) := by decide +kernel
theorem dX5_addSpan_18 : decode cX5_addSpan 18 = .ok (.iload_n 2, 1) := by decide +kernel
theorem dX5_addSpan_19 : decode cX5_addSpan 19 = .ok (.iastore, 1) := by decide +kernel
theorem dX5_addSpan_20 : decode cX5_addSpan 20 = .ok (.aload_n 0, 1) := by decide +kernel
theorem dX5_addSpan_21 : decode cX5_addSpan 21 = .ok (.getfield 18, 3) := by decide +kernel
theorem dX5_addSpan_24 : decode cX5_addSpan 24 = .ok (.aload_n 0, 1) := by decide +kernel
theorem dX5_addSpan_25 : decode cX5_addSpan 25 = .ok (.getfield 24, 3) := by decide +kernel
theorem dX5_addSpan_28 : decode cX5_addSpan 28 = .ok (.iload_n 3, 1) := by decide +kernel
theorem dX5_addSpan_29 : decode cX5_addSpan 29 = .ok (.iastore, 1) := by decide +kernel
theorem dX5_addSpan_30 : decode cX5_addSpan 30 = .ok (.aload_n 0, 1) := by decide +kernel
theorem dX5_addSpan_31 : decode cX5_addSpan 31 = .ok (.getfield 21, 3) := by decide +kernel
theorem dX5_addSpan_34 : decode cX5_addSpan 34 = .ok (.aload_n 0, 1) := by decide +kernel
theorem dX5_addSpan_35 : decode cX5_addSpan 35 = .ok (.getfield 24, 3) := by decide +kernel
theorem dX5_addSpan_38 : decode cX5_addSpan 38 = .ok (.iload 4, 2) := by decide +kernel
theorem dX5_addSpan_40 : decode cX5_addSpan 40 = .ok (.iastore, 1) := by decide +kernel
theorem dX5_addSpan_41 : decode cX5_addSpan 41 = .ok (.aload_n 0, 1) := by decide +kernel
theorem dX5_addSpan_42 : decode cX5_addSpan 42 = .ok (.dup, 1) := by decide +kernel
theorem dX5_addSpan_43 : decode cX5_addSpan 43 = .ok (.getfield 24, 3) := by decide +kernel
theorem dX5_addSpan_46 : decode cX5_addSpan 46 = .ok (.iconst 1, 1) := by decide +kernel
theorem dX5_addSpan_47 : decode cX5_addSpan 47 = .ok (.iadd, 1) := by decide +kernel
theorem dX5_addSpan_48 : decode cX5_addSpan 48 = .ok (.putfield 24, 3) := by decide +kernel
theorem dX5_addSpan_51 : decode cX5_addSpan 51 = .ok (.aload_n 0, 1) := by decide +kernel
theorem dX5_addSpan_52 : decode cX5_addSpan 52 = .ok (.getfield 24, 3) := by decide +kernel
theorem dX5_addSpan_55 : decode cX5_addSpan 55 = .ok (.ireturn, 1) := by decide +kernel
theorem dX5_findSingers_0 : decode cX5_findSingers 0 = .ok (.iconst 0, 1) := by decide +kernel
theorem dX5_findSingers_1 : decode cX5_findSingers 1 = .ok (.istore_n 3, 1) := by decide +kernel
theorem dX5_findSingers_2 : decode cX5_findSingers 2 = .ok (.iconst 0, 1) := by decide +kernel
theorem dX5_findSingers_3 : decode cX5_findSingers 3 = .ok (.istore 4, 2) := by decide +kernel
theorem dX5_findSingers_5 : decode cX5_findSingers 5 = .ok (.iload 4, 2) := by decide +kernel
theorem dX5_findSingers_7 : decode cX5_findSingers 7 = .ok (.aload_n 0, 1) := by decide +kernel
theorem dX5_findSingers_8 : decode cX5_findSingers 8 = .ok (.getfield 24, 3) := by decide +kernel
theorem dX5_findSingers_11 : decode cX5_findSingers 11 = .ok (.if_icmp .ge 53, 3) := by decide +kernel
theorem dX5_findSingers_14 : decode cX5_findSingers 14 = .ok (.aload_n 0, 1) := by decide +kernel
theorem dX5_findSingers_15 : decode cX5_findSingers 15 = .ok (.getfield 15, 3) := by decide +kernel
theorem dX5_findSingers_18 : decode cX5_findSingers 18 = .ok (.iload 4, 2) := by decide +kernel
theorem dX5_findSingers_20 : decode cX5_findSingers 20 = .ok (.iaload, 1) := by decide +kernel
theorem dX5_findSingers_21 : decode cX5_findSingers 21 = .ok (.iload_n 1, 1) := by decide +kernel
theorem dX5_findSingers_22 : decode cX5_findSingers 22 = .ok (.if_icmp .ne 36, 3) := by decide +kernel
theorem dX5_findSingers_25 : decode cX5_findSingers 25 = .ok (.iload_n 2, 1) := by decide +kernel
theorem dX5_findSingers_26 : decode cX5_findSingers 26 = .ok (.aload_n 0, 1) := by decide +kernel
theorem dX5_findSingers_27 : decode cX5_findSingers 27 = .ok (.getfield 18, 3) := by decide +kernel
theorem dX5_findSingers_30 : decode cX5_findSingers 30 = .ok (.iload 4, 2) := by decide +kernel
theorem dX5_findSingers_32 : decode cX5_findSingers 32 = .ok (.iaload, 1) := by decide +kernel
theorem dX5_findSingers_33 : decode cX5_findSingers 33 = .ok (.aload_n 0, 1) := by decide +kernel
theorem dX5_findSingers_34 : decode cX5_findSingers 34 = .ok (.getfield 21, 3) := by decide +kernel
theorem dX5_findSingers_37 : decode cX5_findSingers 37 = .ok (.iload 4, 2) := by decide +kernel
theorem dX5_findSingers_39 : decode cX5_findSingers 39 = .ok (.iaload, 1) := by decide +kernel
theorem dX5_findSingers_40 : decode cX5_findSingers 40 = .ok (.invokestatic 28, 3) := by decide +kernel
theorem dX5_findSingers_43 : decode cX5_findSingers 43 = .ok (.ifCond .eq 15, 3) := by decide +kernel
theorem dX5_findSingers_46 : decode cX5_findSingers 46 = .ok (.iload_n 3, 1) := by decide +kernel
theorem dX5_findSingers_47 : decode cX5_findSingers 47 = .ok (.iconst 1, 1) := by decide +kernel
theorem dX5_findSingers_48 : decode cX5_findSingers 48 = .ok (.aload_n 0, 1) := by decide +kernel
theorem dX5_findSingers_49 : decode cX5_findSingers 49 = .ok (.getfield 9, 3) := by decide +kernel
theorem dX5_findSingers_52 : decode cX5_findSingers 52 = .ok (.iload 4, 2) := by decide +kernel
theorem dX5_findSingers_54 : decode cX5_findSingers 54 = .ok (.iaload, 1) := by decide +kernel
theorem dX5_findSingers_55 : decode cX5_findSingers 55 = .ok (.ishl, 1) := by decide +kernel
theorem dX5_findSingers_56 : decode cX5_findSingers 56 = .ok (.ior, 1) := by decide +kernel
theorem dX5_findSingers_57 : decode cX5_findSingers 57 = .ok (.istore_n 3, 1) := by decide +kernel
theorem dX5_findSingers_58 : decode cX5_findSingers 58 = .ok (.iinc 4 1, 3) := by decide +kernel
theorem dX5_findSingers_61 : decode cX5_findSingers 61 = .ok (.goto (-56), 3) := by decide +kernel
theorem dX5_findSingers_64 : decode cX5_findSingers 64 = .ok (.iload_n 3, 1) := by decide +kernel
theorem dX5_findSingers_65 : decode cX5_findSingers 65 = .ok (.ireturn, 1) := by decide +kernel
theorem dX6_init_0 : decode cX6_init 0 = .ok (.aload_n 0, 1) := by decide +kernel
theorem dX6_init_1 : decode cX6_init 1 = .ok (.invokespecial 3, 3) := by decide +kernel
theorem dX6_init_4 : decode cX6_init 4 = .ok (.aload_n 0, 1) := by decide +kernel
theorem dX6_init_5 : decode cX6_init 5 = .ok (.bipush 12, 2) := by decide +kernel
theorem dX6_init_7 : decode cX6_init 7 = .ok (.newarray .int, 2) := by decide +kernel
theorem dX6_init_9 : decode cX6_init 9 = .ok (.putfield 9, 3) := by decide +kernel
theorem dX6_init_12 : decode cX6_init 12 = .ok (.aload_n 0, 1) := by decide +kernel
theorem dX6_init_13 : decode cX6_init 13 = .ok (.iconst 0, 1) := by decide +kernel
theorem dX6_init_14 : decode cX6_init 14 = .ok (.putfield 15, 3) := by decide +kernel
theorem dX6_init_17 : decode cX6_init 17 = .ok (.aload_n 0, 1) := by decide +kernel
theorem dX6_init_18 : decode cX6_init 18 = .ok (.iconst 2, 1) := by decide +kernel
theorem dX6_init_19 : decode cX6_init 19 = .ok (.putfield 19, 3) := by decide +kernel
theorem dX6_init_22 : decode cX6_init 22 = .ok (.aload_n 0, 1) := by decide +kernel
theorem dX6_init_23 : decode cX6_init 23 = .ok (.iconst 0, 1) := by decide +kernel
theorem dX6_init_24 : decode cX6_init 24 = .ok (.putfield 22, 3) := by decide +kernel
theorem dX6_init_27 : decode cX6_init 27 = .ok (.aload_n 0, 1) := by decide +kernel
theorem dX6_init_28 : decode cX6_init 28 = .ok (.bipush 12, 2) := by decide +kernel
theorem dX6_init_30 : decode cX6_init 30 = .ok (.newarray .int, 2) := by decide +kernel
theorem dX6_init_32 : decode cX6_init 32 = .ok (.putfield 25, 3) := by decide +kernel
theorem dX6_init_35 : decode cX6_init 35 = .ok (.aload_n 0, 1) := by decide +kernel
theorem dX6_init_36 : decode cX6_init 36 = .ok (.bipush 12, 2) := by decide +kernel
theorem dX6_init_38 : decode cX6_init 38 = .ok (.newarray .int, 2) := by decide +kernel
theorem dX6_init_40 : decode cX6_init 40 = .ok (.putfield 28, 3) := by decide +kernel
theorem dX6_init_43 : decode cX6_init 43 = .ok (.aload_n 0, 1) := by decide +kernel
theorem dX6_init_44 : decode cX6_init 44 = .ok (.bipush 12, 2) := by decide +kernel
theorem dX6_init_46 : decode cX6_init 46 = .ok (.newarray .int, 2) := by decide +kernel
theorem dX6_init_48 : decode cX6_init 48 = .ok (.putfield 31, 3) := by decide +kernel
theorem dX6_init_51 : decode cX6_init 51 = .ok (.aload_n 0, 1) := by decide +kernel
theorem dX6_init_52 : decode cX6_init 52 = .ok (.bipush 12, 2) := by decide +kernel
theorem dX6_init_54 : decode cX6_init 54 = .ok (.newarray .int, 2) := by decide +kernel
theorem dX6_init_56 : decode cX6_init 56 = .ok (.putfield 34, 3) := by decide +kernel
theorem dX6_init_59 : decode cX6_init 59 = .ok (.return_, 1) := by decide +kernel
theorem dX6_addPerformance_0 : decode cX6_addPerformance 0 = .ok (.aload_n 0, 1) := by decide +kernel
theorem dX6_addPerformance_1 : decode cX6_addPerformance 1 = .ok (.getfield 25, 3) := by decide +kernel
theorem dX6_addPerformance_4 : decode cX6_addPerformance 4 = .ok (.aload_n 0, 1) := by decide +kernel
theorem dX6_addPerformance_5 : decode cX6_addPerformance 5 = .ok (.getfield 15, 3) := by decide +kernel
theorem dX6_addPerformance_8 : decode cX6_addPerformance 8 = .ok (.iload_n 1, 1) := by decide +kernel
theorem dX6_addPerformance_9 : decode cX6_addPerformance 9 = .ok (.iastore, 1) := by decide +kernel
theorem dX6_addPerformance_10 : decode cX6_addPerformance 10 = .ok (.aload_n 0, 1) := by decide +kernel
theorem dX6_addPerformance_11 : decode cX6_addPerformance 11 = .ok (.dup, 1) := by decide +kernel
theorem dX6_addPerformance_12 : decode cX6_addPerformance 12 = .ok (.getfield 15, 3) := by decide +kernel
theorem dX6_addPerformance_15 : decode cX6_addPerformance 15 = .ok (.iconst 1, 1) := by decide +kernel
theorem dX6_addPerformance_16 : decode cX6_addPerformance 16 = .ok (.iadd, 1) := by decide +kernel
theorem dX6_addPerformance_17 : decode cX6_addPerformance 17 = .ok (.putfield 15, 3) := by decide +kernel
theorem dX6_addPerformance_20 : decode cX6_addPerformance 20 = .ok (.aload_n 0, 1) := by decide +kernel
theorem dX6_addPerformance_21 : decode cX6_addPerformance 21 = .ok (.getfield 15, 3) := by decide +kernel
theorem dX6_addPerformance_24 : decode cX6_addPerformance 24 = .ok (.iconst 1, 1) := by decide +kernel
theorem dX6_addPerformance_25 : decode cX6_addPerformance 25 = .ok (.isub, 1) := by decide +kernel
theorem dX6_addPerformance_26 : decode cX6_addPerformance 26 = .ok (.ireturn, 1) := by decide +kernel
theorem dX6_findHours_0 : decode cX6_findHours 0 = .ok (.aload_n 0, 1) := by decide +kernel
theorem dX6_findHours_1 : decode cX6_findHours 1 = .ok (.aload_n 1, 1) := by decide +kernel
theorem dX6_findHours_2 : decode cX6_findHours 2 = .ok (.iload_n 2, 1) := by decide +kernel
theorem dX6_findHours_3 : decode cX6_findHours 3 = .ok (.invokevirtual 37, 3) := by decide +kernel
theorem dX6_findHours_6 : decode cX6_findHours 6 = .ok (.aload_n 0, 1) := by decide +kernel
theorem dX6_findHours_7 : decode cX6_findHours 7 = .ok (.aload_n 0, 1) := by decide +kernel
theorem dX6_findHours_8 : decode cX6_findHours 8 = .ok (.getfield 15, 3) := by decide +kernel
theorem dX6_findHours_11 : decode cX6_findHours 11 = .ok (.putfield 22, 3) := by decide +kernel
theorem dX6_findHours_14 : decode cX6_findHours 14 = .ok (.aload_n 0, 1) := by decide +kernel
theorem dX6_findHours_15 : decode cX6_findHours 15 = .ok (.invokevirtual 41, 3) := by decide +kernel
theorem dX6_findHours_18 : decode cX6_findHours 18 = .ok (.istore_n 3, 1) := by decide +kernel
theorem dX6_findHours_19 : decode cX6_findHours 19 = .ok (.iload_n 3, 1) := by decide +kernel
theorem dX6_findHours_20 : decode cX6_findHours 20 = .ok (.aload_n 0, 1) := by decide +kernel
theorem dX6_findHours_21 : decode cX6_findHours 21 = .ok (.getfield 15, 3) := by decide +kernel
theorem dX6_findHours_24 : decode cX6_findHours 24 = .ok (.if_icmp .ge 34, 3) := by decide +kernel
theorem dX6_findHours_27 : decode cX6_findHours 27 = .ok (.iload_n 3, 1) := by decide +kernel
theorem dX6_findHours_28 : decode cX6_findHours 28 = .ok (.aload_n 0, 1) := by decide +kernel
theorem dX6_findHours_29 : decode cX6_findHours 29 = .ok (.getfield 19, 3) := by decide +kernel
theorem dX6_findHours_32 : decode cX6_findHours 32 = .ok (.imul, 1) := by decide +kernel
theorem dX6_findHours_33 : decode cX6_findHours 33 = .ok (.aload_n 0, 1) := by decide +kernel
theorem dX6_findHours_34 : decode cX6_findHours 34 = .ok (.getfield 15, 3) := by decide +kernel
theorem dX6_findHours_37 : decode cX6_findHours 37 = .ok (.if_icmp .lt 15, 3) := by decide +kernel
theorem dX6_findHours_40 : decode cX6_findHours 40 = .ok (.aload_n 0, 1) := by decide +kernel
theorem dX6_findHours_41 : decode cX6_findHours 41 = .ok (.iconst 0, 1) := by decide +kernel
theorem dX6_findHours_42 : decode cX6_findHours 42 = .ok (.iconst 0, 1) := by decide +kernel
theorem dX6_findHours_43 : decode cX6_findHours 43 = .ok (.iload_n 3, 1) := by decide +kernel
theorem dX6_findHours_44 : decode cX6_findHours 44 = .ok (.invokevirtual 45, 3) := by decide +kernel
theorem dX6_findHours_47 : decode cX6_findHours 47 = .ok (.ifCond .eq 5, 3) := by decide +kernel
theorem dX6_findHours_50 : decode cX6_findHours 50 = .ok (.iload_n 3, 1) := by decide +kernel
theorem dX6_findHours_51 : decode cX6_findHours 51 = .ok (.ireturn, 1) := by decide +kernel
theorem dX6_findHours_52 : decode cX6_findHours 52 = .ok (.iinc 3 1, 3) := by decide +kernel
theorem dX6_findHours_55 : decode cX6_findHours 55 = .ok (.goto (-36), 3) := by decide +kernel
theorem dX6_findHours_58 : decode cX6_findHours 58 = .ok (.aload_n 0, 1) := by decide +kernel
theorem dX6_findHours_59 : decode cX6_findHours 59 = .ok (.iconst 0, 1) := by decide +kernel
theorem dX6_findHours_60 : decode cX6_findHours 60 = .ok (.iconst 0, 1) := by decide +kernel
theorem dX6_findHours_61 : decode cX6_findHours 61 = .ok (.aload_n 0, 1) := by decide +kernel
theorem dX6_findHours_62 : decode cX6_findHours 62 = .ok (.getfield 15, 3) := by decide +kernel
theorem dX6_findHours_65 : decode cX6_findHours 65 = .ok (.invokevirtual 45, 3) := by decide +kernel
theorem dX6_findHours_68 : decode cX6_findHours 68 = .ok (.pop, 1) := by decide +kernel
theorem dX6_findHours_69 : decode cX6_findHours 69 = .ok (.aload_n 0, 1) := by decide +kernel
theorem dX6_findHours_70 : decode cX6_findHours 70 = .ok (.getfield 15, 3) := by decide +kernel
theorem dX6_findHours_73 : decode cX6_findHours 73 = .ok (.ireturn, 1) := by decide +kernel
theorem dX6_countNeeded_0 : decode cX6_countNeeded 0 = .ok (.iconst 0, 1) := by decide +kernel
theorem dX6_countNeeded_1 : decode cX6_countNeeded 1 = .ok (.istore_n 1, 1) := by decide +kernel
theorem dX6_countNeeded_2 : decode cX6_countNeeded 2 = .ok (.iconst 0, 1) := by decide +kernel
theorem dX6_countNeeded_3 : decode cX6_countNeeded 3 = .ok (.istore_n 2, 1) := by decide +kernel
theorem dX6_countNeeded_4 : decode cX6_countNeeded 4 = .ok (.iload_n 2, 1) := by decide +kernel
theorem dX6_countNeeded_5 : decode cX6_countNeeded 5 = .ok (.aload_n 0, 1) := by decide +kernel
theorem dX6_countNeeded_6 : decode cX6_countNeeded 6 = .ok (.getfield 15, 3) := by decide +kernel
theorem dX6_countNeeded_9 : decode cX6_countNeeded 9 = .ok (.if_icmp .ge 61, 3) := by decide +kernel
theorem dX6_countNeeded_12 : decode cX6_countNeeded 12 = .ok (.iconst 1, 1) := by decide +kernel
theorem dX6_countNeeded_13 : decode cX6_countNeeded 13 = .ok (.iload_n 2, 1) := by decide +kernel
theorem dX6_countNeeded_14 : decode cX6_countNeeded 14 = .ok (.ishl, 1) := by decide +kernel
theorem dX6_countNeeded_15 : decode cX6_countNeeded 15 = .ok (.istore_n 3, 1) := by decide +kernel
theorem dX6_countNeeded_16 : decode cX6_countNeeded 16 = .ok (.iconst 0, 1) := by decide +kernel
theorem dX6_countNeeded_17 : decode cX6_countNeeded 17 = .ok (.istore 4, 2) := by decide +kernel
theorem dX6_countNeeded_19 : decode cX6_countNeeded 19 = .ok (.iload 4, 2) := by decide +kernel
theorem dX6_countNeeded_21 : decode cX6_countNeeded 21 = .ok (.aload_n 0, 1) := by decide +kernel
theorem dX6_countNeeded_22 : decode cX6_countNeeded 22 = .ok (.getfield 15, 3) := by decide +kernel
theorem dX6_countNeeded_25 : decode cX6_countNeeded 25 = .ok (.if_icmp .ge 30, 3) := by decide +kernel
theorem dX6_countNeeded_28 : decode cX6_countNeeded 28 = .ok (.iload_n 3, 1) := by decide +kernel
theorem dX6_countNeeded_29 : decode cX6_countNeeded 29 = .ok (.aload_n 0, 1) := by decide +kernel
theorem dX6_countNeeded_30 : decode cX6_countNeeded 30 = .ok (.getfield 31, 3) := by decide +kernel
theorem dX6_countNeeded_33 : decode cX6_countNeeded 33 = .ok (.iload 4, 2) := by decide +kernel
theorem dX6_countNeeded_35 : decode cX6_countNeeded 35 = .ok (.iaload, 1) := by decide +kernel
theorem dX6_countNeeded_36 : decode cX6_countNeeded 36 = .ok (.iconst (-1), 1) := by decide +kernel
theorem dX6_countNeeded_37 : decode cX6_countNeeded 37 = .ok (.ixor, 1) := by decide +kernel
theorem dX6_countNeeded_38 : decode cX6_countNeeded 38 = .ok (.iand, 1) := by decide +kernel
theorem dX6_countNeeded_39 : decode cX6_countNeeded 39 = .ok (.ifCond .ne 10, 3) := by decide +kernel
theorem dX6_countNeeded_42 : decode cX6_countNeeded 42 = .ok (.iload_n 3, 1) := by decide +kernel
theorem dX6_countNeeded_43 : decode cX6_countNeeded 43 = .ok (.iconst 1, 1) := by decide +kernel
theorem dX6_countNeeded_44 : decode cX6_countNeeded 44 = .ok (.iload 4, 2) := by decide +kernel
theorem dX6_countNeeded_46 : decode cX6_countNeeded 46 = .ok (.ishl, 1) := by decide +kernel
theorem dX6_countNeeded_47 : decode cX6_countNeeded 47 = .ok (.ior, 1) := by decide +kernel
theorem dX6_countNeeded_48 : decode cX6_countNeeded 48 = .ok (.istore_n 3, 1) := by decide +kernel
theorem dX6_countNeeded_49 : decode cX6_countNeeded 49 = .ok (.iinc 4 1, 3) := by decide +kernel
theorem dX6_countNeeded_52 : decode cX6_countNeeded 52 = .ok (.goto (-33), 3) := by decide +kernel
theorem dX6_countNeeded_55 : decode cX6_countNeeded 55 = .ok (.iload_n 1, 1) := by decide +kernel
theorem dX6_countNeeded_56 : decode cX6_countNeeded 56 = .ok (.iload_n 3, 1) := by decide +kernel
theorem dX6_countNeeded_57 : decode cX6_countNeeded 57 = .ok (.invokestatic 49, 3) := by decide +kernel
theorem dX6_countNeeded_60 : decode cX6_countNeeded 60 = .ok (.invokestatic 55, 3) := by decide +kernel
theorem dX6_countNeeded_63 : decode cX6_countNeeded 63 = .ok (.istore_n 1, 1) := by decide +kernel
theorem dX6_countNeeded_64 : decode cX6_countNeeded 64 = .ok (.iinc 2 1, 3) := by decide +kernel
theorem dX6_countNeeded_67 : decode cX6_countNeeded 67 = .ok (.goto (-63), 3) := by decide +kernel
theorem dX6_countNeeded_70 : decode cX6_countNeeded 70 = .ok (.iload_n 1, 1) := by decide +kernel
theorem dX6_countNeeded_71 : decode cX6_countNeeded 71 = .ok (.ireturn, 1) := by decide +kernel
theorem dX6_findClashes_0 : decode cX6_findClashes 0 = .ok (.iconst 0, 1) := by decide +kernel
theorem dX6_findClashes_1 : decode cX6_findClashes 1 = .ok (.istore_n 3, 1) := by decide +kernel
theorem dX6_findClashes_2 : decode cX6_findClashes 2 = .ok (.iload_n 3, 1) := by decide +kernel
theorem dX6_findClashes_3 : decode cX6_findClashes 3 = .ok (.aload_n 0, 1) := by decide +kernel
theorem dX6_findClashes_4 : decode cX6_findClashes 4 = .ok (.getfield 15, 3) := by decide +kernel
theorem dX6_findClashes_7 : decode cX6_findClashes 7 = .ok (.if_icmp .ge 114, 3) := by decide +kernel
theorem dX6_findClashes_10 : decode cX6_findClashes 10 = .ok (.aload_n 0, 1) := by decide +kernel
theorem dX6_findClashes_11 : decode cX6_findClashes 11 = .ok (.getfield 28, 3) := by decide +kernel
theorem dX6_findClashes_14 : decode cX6_findClashes 14 = .ok (.iload_n 3, 1) := by decide +kernel
theorem dX6_findClashes_15 : decode cX6_findClashes 15 = .ok (.aload_n 1, 1) := by decide +kernel
theorem dX6_findClashes_16 : decode cX6_findClashes 16 = .ok (.aload_n 0, 1) := by decide +kernel
theorem dX6_findClashes_17 : decode cX6_findClashes 17 = .ok (.getfield 25, 3) := by decide +kernel
theorem dX6_findClashes_20 : decode cX6_findClashes 20 = .ok (.iload_n 3, 1) := by decide +kernel
theorem dX6_findClashes_21 : decode cX6_findClashes 21 = .ok (.iaload, 1) := by decide +kernel
theorem dX6_findClashes_22 : decode cX6_findClashes 22 = .ok (.iload_n 2, 1) := by decide +kernel
theorem dX6_findClashes_23 : decode cX6_findClashes 23 = .ok (.invokevirtual 61, 3) := by decide +kernel
theorem dX6_findClashes_26 : decode cX6_findClashes 26 = .ok (.iastore, 1) := by decide +kernel
theorem dX6_findClashes_27 : decode cX6_findClashes 27 = .ok (.aload_n 0, 1) := by decide +kernel
theorem dX6_findClashes_28 : decode cX6_findClashes 28 = .ok (.getfield 31, 3) := by decide +kernel
theorem dX6_findClashes_31 : decode cX6_findClashes 31 = .ok (.iload_n 3, 1) := by decide +kernel
theorem dX6_findClashes_32 : decode cX6_findClashes 32 = .ok (.iconst 0, 1) := by decide +kernel
theorem dX6_findClashes_33 : decode cX6_findClashes 33 = .ok (.iastore, 1) := by decide +kernel
theorem dX6_findClashes_34 : decode cX6_findClashes 34 = .ok (.aload_n 0, 1) := by decide +kernel
theorem dX6_findClashes_35 : decode cX6_findClashes 35 = .ok (.getfield 34, 3) := by decide +kernel
theorem dX6_findClashes_38 : decode cX6_findClashes 38 = .ok (.iload_n 3, 1) := by decide +kernel
theorem dX6_findClashes_39 : decode cX6_findClashes 39 = .ok (.iconst 0, 1) := by decide +kernel
theorem dX6_findClashes_40 : decode cX6_findClashes 40 = .ok (.iastore, 1) := by decide +kernel
theorem dX6_findClashes_41 : decode cX6_findClashes 41 = .ok (.iconst 0, 1) := by decide +kernel
theorem dX6_findClashes_42 : decode cX6_findClashes 42 = .ok (.istore 4, 2) := by decide +kernel
theorem dX6_findClashes_44 : decode cX6_findClashes 44 = .ok (.iload 4, 2) := by decide +kernel
theorem dX6_findClashes_46 : decode cX6_findClashes 46 = .ok (.iload_n 3, 1) := by decide +kernel
theorem dX6_findClashes_47 : decode cX6_findClashes 47 = .ok (.if_icmp .ge 68, 3) := by decide +kernel
theorem dX6_findClashes_50 : decode cX6_findClashes 50 = .ok (.aload_n 0, 1) := by decide +kernel
theorem dX6_findClashes_51 : decode cX6_findClashes 51 = .ok (.getfield 25, 3) := by decide +kernel
theorem dX6_findClashes_54 : decode cX6_findClashes 54 = .ok (.iload 4, 2) := by decide +kernel
theorem dX6_findClashes_56 : decode cX6_findClashes 56 = .ok (.iaload, 1) := by decide +kernel
theorem dX6_findClashes_57 : decode cX6_findClashes 57 = .ok (.aload_n 0, 1) := by decide +kernel
theorem dX6_findClashes_58 : decode cX6_findClashes 58 = .ok (.getfield 25, 3) := by decide +kernel
theorem dX6_findClashes_61 : decode cX6_findClashes 61 = .ok (.iload_n 3, 1) := by decide +kernel
theorem dX6_findClashes_62 : decode cX6_findClashes 62 = .ok (.iaload, 1) := by decide +kernel
theorem dX6_findClashes_63 : decode cX6_findClashes 63 = .ok (.if_icmp .eq 20, 3) := by decide +kernel
theorem dX6_findClashes_66 : decode cX6_findClashes 66 = .ok (.aload_n 0, 1) := by decide +kernel
theorem dX6_findClashes_67 : decode cX6_findClashes 67 = .ok (.getfield 28, 3) := by decide +kernel
theorem dX6_findClashes_70 : decode cX6_findClashes 70 = .ok (.iload 4, 2) := by decide +kernel
theorem dX6_findClashes_72 : decode cX6_findClashes 72 = .ok (.iaload, 1) := by decide +kernel
theorem dX6_findClashes_73 : decode cX6_findClashes 73 = .ok (.aload_n 0, 1) := by decide +kernel
theorem dX6_findClashes_74 : decode cX6_findClashes 74 = .ok (.getfield 28, 3) := by decide +kernel
theorem dX6_findClashes_77 : decode cX6_findClashes 77 = .ok (.iload_n 3, 1) := by decide +kernel
theorem dX6_findClashes_78 : decode cX6_findClashes 78 = .ok (.iaload, 1) := by decide +kernel
theorem dX6_findClashes_79 : decode cX6_findClashes 79 = .ok (.iand, 1) := by decide +kernel
theorem dX6_findClashes_80 : decode cX6_findClashes 80 = .ok (.ifCond .eq 29, 3) := by decide +kernel
theorem dX6_findClashes_83 : decode cX6_findClashes 83 = .ok (.aload_n 0, 1) := by decide +kernel
theorem dX6_findClashes_84 : decode cX6_findClashes 84 = .ok (.getfield 31, 3) := by decide +kernel
theorem dX6_findClashes_87 : decode cX6_findClashes 87 = .ok (.iload_n 3, 1) := by decide +kernel
theorem dX6_findClashes_88 : decode cX6_findClashes 88 = .ok (.dup2, 1) := by decide +kernel
theorem dX6_findClashes_89 : decode cX6_findClashes 89 = .ok (.iaload, 1) := by decide +kernel
theorem dX6_findClashes_90 : decode cX6_findClashes 90 = .ok (.iconst 1, 1) := by decide +kernel
theorem dX6_findClashes_91 : decode cX6_findClashes 91 = .ok (.iload 4, 2) := by decide +kernel
theorem dX6_findClashes_93 : decode cX6_findClashes 93 = .ok (.ishl, 1) := by decide +kernel
theorem dX6_findClashes_94 : decode cX6_findClashes 94 = .ok (.ior, 1) := by decide +kernel
theorem dX6_findClashes_95 : decode cX6_findClashes 95 = .ok (.iastore, 1) := by decide +kernel
theorem dX6_findClashes_96 : decode cX6_findClashes 96 = .ok (.aload_n 0, 1) := by decide +kernel
theorem dX6_findClashes_97 : decode cX6_findClashes 97 = .ok (.getfield 31, 3) := by decide +kernel
theorem dX6_findClashes_100 : decode cX6_findClashes 100 = .ok (.iload 4, 2) := by decide +kernel
theorem dX6_findClashes_102 : decode cX6_findClashes 102 = .ok (.dup2, 1) := by decide +kernel
theorem dX6_findClashes_103 : decode cX6_findClashes 103 = .ok (.iaload, 1) := by decide +kernel
theorem dX6_findClashes_104 : decode cX6_findClashes 104 = .ok (.iconst 1, 1) := by decide +kernel
theorem dX6_findClashes_105 : decode cX6_findClashes 105 = .ok (.iload_n 3, 1) := by decide +kernel
theorem dX6_findClashes_106 : decode cX6_findClashes 106 = .ok (.ishl, 1) := by decide +kernel
theorem dX6_findClashes_107 : decode cX6_findClashes 107 = .ok (.ior, 1) := by decide +kernel
theorem dX6_findClashes_108 : decode cX6_findClashes 108 = .ok (.iastore, 1) := by decide +kernel
theorem dX6_findClashes_109 : decode cX6_findClashes 109 = .ok (.iinc 4 1, 3) := by decide +kernel
theorem dX6_findClashes_112 : decode cX6_findClashes 112 = .ok (.goto (-68), 3) := by decide +kernel
theorem dX6_findClashes_115 : decode cX6_findClashes 115 = .ok (.iinc 3 1, 3) := by decide +kernel
theorem dX6_findClashes_118 : decode cX6_findClashes 118 = .ok (.goto (-116), 3) := by decide +kernel
theorem dX6_findClashes_121 : decode cX6_findClashes 121 = .ok (.return_, 1) := by decide +kernel
theorem dX6_standsFrom_0 : decode cX6_standsFrom 0 = .ok (.iload_n 1, 1) := by decide +kernel
theorem dX6_standsFrom_1 : decode cX6_standsFrom 1 = .ok (.aload_n 0, 1) := by decide +kernel
theorem dX6_standsFrom_2 : decode cX6_standsFrom 2 = .ok (.getfield 15, 3) := by decide +kernel
theorem dX6_standsFrom_5 : decode cX6_standsFrom 5 = .ok (.if_icmp .lt 5, 3) := by decide +kernel
theorem dX6_standsFrom_8 : decode cX6_standsFrom 8 = .ok (.iconst 1, 1) := by decide +kernel
theorem dX6_standsFrom_9 : decode cX6_standsFrom 9 = .ok (.ireturn, 1) := by decide +kernel
theorem dX6_standsFrom_10 : decode cX6_standsFrom 10 = .ok (.iconst 0, 1) := by decide +kernel
theorem dX6_standsFrom_11 : decode cX6_standsFrom 11 = .ok (.istore 4, 2) := by decide +kernel
theorem dX6_standsFrom_13 : decode cX6_standsFrom 13 = .ok (.iload 4, 2) := by decide +kernel
theorem dX6_standsFrom_15 : decode cX6_standsFrom 15 = .ok (.iload_n 2, 1) := by decide +kernel
theorem dX6_standsFrom_16 : decode cX6_standsFrom 16 = .ok (.if_icmp .gt 104, 3) := by decide +kernel
theorem dX6_standsFrom_19 : decode cX6_standsFrom 19 = .ok (.iload 4, 2) := by decide +kernel
theorem dX6_standsFrom_21 : decode cX6_standsFrom 21 = .ok (.iload_n 3, 1) := by decide +kernel
theorem dX6_standsFrom_22 : decode cX6_standsFrom 22 = .ok (.if_icmp .ge 98, 3) := by decide +kernel
theorem dX6_standsFrom_25 : decode cX6_standsFrom 25 = .ok (.aload_n 0, 1) := by decide +kernel
theorem dX6_standsFrom_26 : decode cX6_standsFrom 26 = .ok (.getfield 34, 3) := by decide +kernel
theorem dX6_standsFrom_29 : decode cX6_standsFrom 29 = .ok (.iload 4, 2) := by decide +kernel
theorem dX6_standsFrom_31 : decode cX6_standsFrom 31 = .ok (.iaload, 1) := by decide +kernel
theorem dX6_standsFrom_32 : decode cX6_standsFrom 32 = .ok (.aload_n 0, 1) := by decide +kernel
theorem dX6_standsFrom_33 : decode cX6_standsFrom 33 = .ok (.getfield 31, 3) := by decide +kernel
theorem dX6_standsFrom_36 : decode cX6_standsFrom 36 = .ok (.iload_n 1, 1) := by decide +kernel
theorem dX6_standsFrom_37 : decode cX6_standsFrom 37 = .ok (.iaload, 1) := by decide +kernel
theorem dX6_standsFrom_38 : decode cX6_standsFrom 38 = .ok (.iand, 1) := by decide +kernel
theorem dX6_standsFrom_39 : decode cX6_standsFrom 39 = .ok (.ifCond .ne 75, 3) := by decide +kernel
theorem dX6_standsFrom_42 : decode cX6_standsFrom 42 = .ok (.aload_n 0, 1) := by decide +kernel
theorem dX6_standsFrom_43 : decode cX6_standsFrom 43 = .ok (.getfield 34, 3) := by decide +kernel
theorem dX6_standsFrom_46 : decode cX6_standsFrom 46 = .ok (.iload 4, 2) := by decide +kernel
theorem dX6_standsFrom_48 : decode cX6_standsFrom 48 = .ok (.iaload, 1) := by decide +kernel
theorem dX6_standsFrom_49 : decode cX6_standsFrom 49 = .ok (.invokestatic 49, 3) := by decide +kernel
theorem dX6_standsFrom_52 : decode cX6_standsFrom 52 = .ok (.aload_n 0, 1) := by decide +kernel
theorem dX6_standsFrom_53 : decode cX6_standsFrom 53 = .ok (.getfield 19, 3) := by decide +kernel
theorem dX6_standsFrom_56 : decode cX6_standsFrom 56 = .ok (.if_icmp .ge 58, 3) := by decide +kernel
theorem dX6_standsFrom_59 : decode cX6_standsFrom 59 = .ok (.aload_n 0, 1) := by decide +kernel
theorem dX6_standsFrom_60 : decode cX6_standsFrom 60 = .ok (.getfield 34, 3) := by decide +kernel
theorem dX6_standsFrom_63 : decode cX6_standsFrom 63 = .ok (.iload 4, 2) := by decide +kernel
theorem dX6_standsFrom_65 : decode cX6_standsFrom 65 = .ok (.dup2, 1) := by decide +kernel
theorem dX6_standsFrom_66 : decode cX6_standsFrom 66 = .ok (.iaload, 1) := by decide +kernel
theorem dX6_standsFrom_67 : decode cX6_standsFrom 67 = .ok (.iconst 1, 1) := by decide +kernel
theorem dX6_standsFrom_68 : decode cX6_standsFrom 68 = .ok (.iload_n 1, 1) := by decide +kernel
theorem dX6_standsFrom_69 : decode cX6_standsFrom 69 = .ok (.ishl, 1) := by decide +kernel
theorem dX6_standsFrom_70 : decode cX6_standsFrom 70 = .ok (.ior, 1) := by decide +kernel
theorem dX6_standsFrom_71 : decode cX6_standsFrom 71 = .ok (.iastore, 1) := by decide +kernel
theorem dX6_standsFrom_72 : decode cX6_standsFrom 72 = .ok (.aload_n 0, 1) := by decide +kernel
theorem dX6_standsFrom_73 : decode cX6_standsFrom 73 = .ok (.getfield 9, 3) := by decide +kernel
theorem dX6_standsFrom_76 : decode cX6_standsFrom 76 = .ok (.iload_n 1, 1) := by decide +kernel
theorem dX6_standsFrom_77 : decode cX6_standsFrom 77 = .ok (.iload 4, 2) := by decide +kernel
theorem dX6_standsFrom_79 : decode cX6_standsFrom 79 = .ok (.iastore, 1) := by decide +kernel
theorem dX6_standsFrom_80 : decode cX6_standsFrom 80 = .ok (.aload_n 0, 1) := by decide +kernel
theorem dX6_standsFrom_81 : decode cX6_standsFrom 81 = .ok (.iload_n 1, 1) := by decide +kernel
theorem dX6_standsFrom_82 : decode cX6_standsFrom 82 = .ok (.iconst 1, 1) := by decide +kernel
theorem dX6_standsFrom_83 : decode cX6_standsFrom 83 = .ok (.iadd, 1) := by decide +kernel
theorem dX6_standsFrom_84 : decode cX6_standsFrom 84 = .ok (.iload_n 2, 1) := by decide +kernel
theorem dX6_standsFrom_85 : decode cX6_standsFrom 85 = .ok (.iload 4, 2) := by decide +kernel
theorem dX6_standsFrom_87 : decode cX6_standsFrom 87 = .ok (.iconst 1, 1) := by decide +kernel
theorem dX6_standsFrom_88 : decode cX6_standsFrom 88 = .ok (.iadd, 1) := by decide +kernel
theorem dX6_standsFrom_89 : decode cX6_standsFrom 89 = .ok (.invokestatic 55, 3) := by decide +kernel
theorem dX6_standsFrom_92 : decode cX6_standsFrom 92 = .ok (.iload_n 3, 1) := by decide +kernel
theorem dX6_standsFrom_93 : decode cX6_standsFrom 93 = .ok (.invokevirtual 45, 3) := by decide +kernel
theorem dX6_standsFrom_96 : decode cX6_standsFrom 96 = .ok (.ifCond .eq 5, 3) := by decide +kernel
theorem dX6_standsFrom_99 : decode cX6_standsFrom 99 = .ok (.iconst 1, 1) := by decide +kernel
theorem dX6_standsFrom_100 : decode cX6_standsFrom 100 = .ok (.ireturn, 1) := by decide +kernel
theorem dX6_standsFrom_101 : decode cX6_standsFrom 101 = .ok (.aload_n 0, 1) := by decide +kernel
theorem dX6_standsFrom_102 : decode cX6_standsFrom 102 = .ok (.getfield 34, 3) := by decide +kernel
theorem dX6_standsFrom_105 : decode cX6_standsFrom 105 = .ok (.iload 4, 2) := by decide +kernel
theorem dX6_standsFrom_107 : decode cX6_standsFrom 107 = .ok (.dup2, 1) := by decide +kernel
theorem dX6_standsFrom_108 : decode cX6_standsFrom 108 = .ok (.iaload, 1) := by decide +kernel
theorem dX6_standsFrom_109 : decode cX6_standsFrom 109 = .ok (.iconst 1, 1) := by decide +kernel
theorem dX6_standsFrom_110 : decode cX6_standsFrom 110 = .ok (.iload_n 1, 1) := by decide +kernel
theorem dX6_standsFrom_111 : decode cX6_standsFrom 111 = .ok (.ishl, 1) := by decide +kernel
theorem dX6_standsFrom_112 : decode cX6_standsFrom 112 = .ok (.ixor, 1) := by decide +kernel
theorem dX6_standsFrom_113 : decode cX6_standsFrom 113 = .ok (.iastore, 1) := by decide +kernel
theorem dX6_standsFrom_114 : decode cX6_standsFrom 114 = .ok (.iinc 4 1, 3) := by decide +kernel
theorem dX6_standsFrom_117 : decode cX6_standsFrom 117 = .ok (.goto (-104), 3) := by decide +kernel
theorem dX6_standsFrom_120 : decode cX6_standsFrom 120 = .ok (.iconst 0, 1) := by decide +kernel
theorem dX6_standsFrom_121 : decode cX6_standsFrom 121 = .ok (.ireturn, 1) := by decide +kernel
theorem dJ6_bitCount_0f7a4_0 : decode cJ6_bitCount_0f7a4 0 = .ok (.iload_n 0, 1) := by decide +kernel
theorem dJ6_bitCount_0f7a4_1 : decode cJ6_bitCount_0f7a4 1 = .ok (.iload_n 0, 1) := by decide +kernel
theorem dJ6_bitCount_0f7a4_2 : decode cJ6_bitCount_0f7a4 2 = .ok (.iconst 1, 1) := by decide +kernel
theorem dJ6_bitCount_0f7a4_3 : decode cJ6_bitCount_0f7a4 3 = .ok (.iushr, 1) := by decide +kernel
theorem dJ6_bitCount_0f7a4_4 : decode cJ6_bitCount_0f7a4 4 = .ok (.ldc_w 265, 3) := by decide +kernel
theorem dJ6_bitCount_0f7a4_7 : decode cJ6_bitCount_0f7a4 7 = .ok (.iand, 1) := by decide +kernel
theorem dJ6_bitCount_0f7a4_8 : decode cJ6_bitCount_0f7a4 8 = .ok (.isub, 1) := by decide +kernel
theorem dJ6_bitCount_0f7a4_9 : decode cJ6_bitCount_0f7a4 9 = .ok (.istore_n 0, 1) := by decide +kernel
theorem dJ6_bitCount_0f7a4_10 : decode cJ6_bitCount_0f7a4 10 = .ok (.iload_n 0, 1) := by decide +kernel
theorem dJ6_bitCount_0f7a4_11 : decode cJ6_bitCount_0f7a4 11 = .ok (.ldc_w 266, 3) := by decide +kernel
theorem dJ6_bitCount_0f7a4_14 : decode cJ6_bitCount_0f7a4 14 = .ok (.iand, 1) := by decide +kernel
theorem dJ6_bitCount_0f7a4_15 : decode cJ6_bitCount_0f7a4 15 = .ok (.iload_n 0, 1) := by decide +kernel
theorem dJ6_bitCount_0f7a4_16 : decode cJ6_bitCount_0f7a4 16 = .ok (.iconst 2, 1) := by decide +kernel
theorem dJ6_bitCount_0f7a4_17 : decode cJ6_bitCount_0f7a4 17 = .ok (.iushr, 1) := by decide +kernel
theorem dJ6_bitCount_0f7a4_18 : decode cJ6_bitCount_0f7a4 18 = .ok (.ldc_w 266, 3) := by decide +kernel
theorem dJ6_bitCount_0f7a4_21 : decode cJ6_bitCount_0f7a4 21 = .ok (.iand, 1) := by decide +kernel
theorem dJ6_bitCount_0f7a4_22 : decode cJ6_bitCount_0f7a4 22 = .ok (.iadd, 1) := by decide +kernel
theorem dJ6_bitCount_0f7a4_23 : decode cJ6_bitCount_0f7a4 23 = .ok (.istore_n 0, 1) := by decide +kernel
theorem dJ6_bitCount_0f7a4_24 : decode cJ6_bitCount_0f7a4 24 = .ok (.iload_n 0, 1) := by decide +kernel
theorem dJ6_bitCount_0f7a4_25 : decode cJ6_bitCount_0f7a4 25 = .ok (.iload_n 0, 1) := by decide +kernel
theorem dJ6_bitCount_0f7a4_26 : decode cJ6_bitCount_0f7a4 26 = .ok (.iconst 4, 1) := by decide +kernel
theorem dJ6_bitCount_0f7a4_27 : decode cJ6_bitCount_0f7a4 27 = .ok (.iushr, 1) := by decide +kernel
theorem dJ6_bitCount_0f7a4_28 : decode cJ6_bitCount_0f7a4 28 = .ok (.iadd, 1) := by decide +kernel
theorem dJ6_bitCount_0f7a4_29 : decode cJ6_bitCount_0f7a4 29 = .ok (.ldc_w 267, 3) := by decide +kernel
theorem dJ6_bitCount_0f7a4_32 : decode cJ6_bitCount_0f7a4 32 = .ok (.iand, 1) := by decide +kernel
theorem dJ6_bitCount_0f7a4_33 : decode cJ6_bitCount_0f7a4 33 = .ok (.istore_n 0, 1) := by decide +kernel
theorem dJ6_bitCount_0f7a4_34 : decode cJ6_bitCount_0f7a4 34 = .ok (.iload_n 0, 1) := by decide +kernel
theorem dJ6_bitCount_0f7a4_35 : decode cJ6_bitCount_0f7a4 35 = .ok (.iload_n 0, 1) := by decide +kernel
theorem dJ6_bitCount_0f7a4_36 : decode cJ6_bitCount_0f7a4 36 = .ok (.bipush 8, 2) := by decide +kernel
theorem dJ6_bitCount_0f7a4_38 : decode cJ6_bitCount_0f7a4 38 = .ok (.iushr, 1) := by decide +kernel
theorem dJ6_bitCount_0f7a4_39 : decode cJ6_bitCount_0f7a4 39 = .ok (.iadd, 1) := by decide +kernel
theorem dJ6_bitCount_0f7a4_40 : decode cJ6_bitCount_0f7a4 40 = .ok (.istore_n 0, 1) := by decide +kernel
theorem dJ6_bitCount_0f7a4_41 : decode cJ6_bitCount_0f7a4 41 = .ok (.iload_n 0, 1) := by decide +kernel
theorem dJ6_bitCount_0f7a4_42 : decode cJ6_bitCount_0f7a4 42 = .ok (.iload_n 0, 1) := by decide +kernel
theorem dJ6_bitCount_0f7a4_43 : decode cJ6_bitCount_0f7a4 43 = .ok (.bipush 16, 2) := by decide +kernel
theorem dJ6_bitCount_0f7a4_45 : decode cJ6_bitCount_0f7a4 45 = .ok (.iushr, 1) := by decide +kernel
theorem dJ6_bitCount_0f7a4_46 : decode cJ6_bitCount_0f7a4 46 = .ok (.iadd, 1) := by decide +kernel
theorem dJ6_bitCount_0f7a4_47 : decode cJ6_bitCount_0f7a4 47 = .ok (.istore_n 0, 1) := by decide +kernel
theorem dJ6_bitCount_0f7a4_48 : decode cJ6_bitCount_0f7a4 48 = .ok (.iload_n 0, 1) := by decide +kernel
theorem dJ6_bitCount_0f7a4_49 : decode cJ6_bitCount_0f7a4 49 = .ok (.bipush 63, 2) := by decide +kernel
theorem dJ6_bitCount_0f7a4_51 : decode cJ6_bitCount_0f7a4 51 = .ok (.iand, 1) := by decide +kernel
theorem dJ6_bitCount_0f7a4_52 : decode cJ6_bitCount_0f7a4 52 = .ok (.ireturn, 1) := by decide +kernel
theorem dJ9_floorDiv_7cf53_0 : decode cJ9_floorDiv_7cf53 0 = .ok (.iload_n 0, 1) := by decide +kernel
theorem dJ9_floorDiv_7cf53_1 : decode cJ9_floorDiv_7cf53 1 = .ok (.iload_n 1, 1) := by decide +kernel
theorem dJ9_floorDiv_7cf53_2 : decode cJ9_floorDiv_7cf53 2 = .ok (.idiv, 1) := by decide +kernel
theorem dJ9_floorDiv_7cf53_3 : decode cJ9_floorDiv_7cf53 3 = .ok (.istore_n 2, 1) := by decide +kernel
theorem dJ9_floorDiv_7cf53_4 : decode cJ9_floorDiv_7cf53 4 = .ok (.iload_n 0, 1) := by decide +kernel
theorem dJ9_floorDiv_7cf53_5 : decode cJ9_floorDiv_7cf53 5 = .ok (.iload_n 1, 1) := by decide +kernel
theorem dJ9_floorDiv_7cf53_6 : decode cJ9_floorDiv_7cf53 6 = .ok (.ixor, 1) := by decide +kernel
theorem dJ9_floorDiv_7cf53_7 : decode cJ9_floorDiv_7cf53 7 = .ok (.ifCond .ge 14, 3) := by decide +kernel
theorem dJ9_floorDiv_7cf53_10 : decode cJ9_floorDiv_7cf53 10 = .ok (.iload_n 2, 1) := by decide +kernel
theorem dJ9_floorDiv_7cf53_11 : decode cJ9_floorDiv_7cf53 11 = .ok (.iload_n 1, 1) := by decide +kernel
theorem dJ9_floorDiv_7cf53_12 : decode cJ9_floorDiv_7cf53 12 = .ok (.imul, 1) := by decide +kernel
theorem dJ9_floorDiv_7cf53_13 : decode cJ9_floorDiv_7cf53 13 = .ok (.iload_n 0, 1) := by decide +kernel
theorem dJ9_floorDiv_7cf53_14 : decode cJ9_floorDiv_7cf53 14 = .ok (.if_icmp .eq 7, 3) := by decide +kernel
theorem dJ9_floorDiv_7cf53_17 : decode cJ9_floorDiv_7cf53 17 = .ok (.iload_n 2, 1) := by decide +kernel
theorem dJ9_floorDiv_7cf53_18 : decode cJ9_floorDiv_7cf53 18 = .ok (.iconst 1, 1) := by decide +kernel
theorem dJ9_floorDiv_7cf53_19 : decode cJ9_floorDiv_7cf53 19 = .ok (.isub, 1) := by decide +kernel
theorem dJ9_floorDiv_7cf53_20 : decode cJ9_floorDiv_7cf53 20 = .ok (.ireturn, 1) := by decide +kernel
theorem dJ9_floorDiv_7cf53_21 : decode cJ9_floorDiv_7cf53 21 = .ok (.iload_n 2, 1) := by decide +kernel
theorem dJ9_floorDiv_7cf53_22 : decode cJ9_floorDiv_7cf53 22 = .ok (.ireturn, 1) := by decide +kernel
theorem dJ9_abs_0f7a4_0 : decode cJ9_abs_0f7a4 0 = .ok (.iload_n 0, 1) := by decide +kernel
theorem dJ9_abs_0f7a4_1 : decode cJ9_abs_0f7a4 1 = .ok (.ifCond .ge 8, 3) := by decide +kernel
theorem dJ9_abs_0f7a4_4 : decode cJ9_abs_0f7a4 4 = .ok (.iload_n 0, 1) := by decide +kernel
theorem dJ9_abs_0f7a4_5 : decode cJ9_abs_0f7a4 5 = .ok (.ineg, 1) := by decide +kernel
theorem dJ9_abs_0f7a4_6 : decode cJ9_abs_0f7a4 6 = .ok (.goto 4, 3) := by decide +kernel
theorem dJ9_abs_0f7a4_9 : decode cJ9_abs_0f7a4 9 = .ok (.iload_n 0, 1) := by decide +kernel
theorem dJ9_abs_0f7a4_10 : decode cJ9_abs_0f7a4 10 = .ok (.ireturn, 1) := by decide +kernel
theorem dJ9_max_7cf53_0 : decode cJ9_max_7cf53 0 = .ok (.iload_n 0, 1) := by decide +kernel
theorem dJ9_max_7cf53_1 : decode cJ9_max_7cf53 1 = .ok (.iload_n 1, 1) := by decide +kernel
theorem dJ9_max_7cf53_2 : decode cJ9_max_7cf53 2 = .ok (.if_icmp .lt 7, 3) := by decide +kernel
theorem dJ9_max_7cf53_5 : decode cJ9_max_7cf53 5 = .ok (.iload_n 0, 1) := by decide +kernel
theorem dJ9_max_7cf53_6 : decode cJ9_max_7cf53 6 = .ok (.goto 4, 3) := by decide +kernel
theorem dJ9_max_7cf53_9 : decode cJ9_max_7cf53 9 = .ok (.iload_n 1, 1) := by decide +kernel
theorem dJ9_max_7cf53_10 : decode cJ9_max_7cf53 10 = .ok (.ireturn, 1) := by decide +kernel
theorem dJ9_min_7cf53_0 : decode cJ9_min_7cf53 0 = .ok (.iload_n 0, 1) := by decide +kernel
theorem dJ9_min_7cf53_1 : decode cJ9_min_7cf53 1 = .ok (.iload_n 1, 1) := by decide +kernel
theorem dJ9_min_7cf53_2 : decode cJ9_min_7cf53 2 = .ok (.if_icmp .gt 7, 3) := by decide +kernel
theorem dJ9_min_7cf53_5 : decode cJ9_min_7cf53 5 = .ok (.iload_n 0, 1) := by decide +kernel
theorem dJ9_min_7cf53_6 : decode cJ9_min_7cf53 6 = .ok (.goto 4, 3) := by decide +kernel
theorem dJ9_min_7cf53_9 : decode cJ9_min_7cf53 9 = .ok (.iload_n 1, 1) := by decide +kernel
theorem dJ9_min_7cf53_10 : decode cJ9_min_7cf53 10 = .ok (.ireturn, 1) := by decide +kernel
end
section
theorem dX7_init_0 : decode cX7_init 0 = .ok (.aload_n 0, 1) := by decide +kernel
theorem dX7_init_1 : decode cX7_init 1 = .ok (.invokespecial 1, 3) := by decide +kernel
theorem dX7_init_4 : decode cX7_init 4 = .ok (.aload_n 0, 1) := by decide +kernel
theorem dX7_init_5 : decode cX7_init 5 = .ok (.bipush 6, 2) := by decide +kernel
theorem dX7_init_7 : decode cX7_init 7 = .ok (.anewarray 9, 3) := by decide +kernel
theorem dX7_init_10 : decode cX7_init 10 = .ok (.putfield 11, 3) := by decide +kernel
theorem dX7_init_13 : decode cX7_init 13 = .ok (.iconst 0, 1) := by decide +kernel
theorem dX7_init_14 : decode cX7_init 14 = .ok (.istore_n 1, 1) := by decide +kernel
theorem dX7_init_15 : decode cX7_init 15 = .ok (.iload_n 1, 1) := by decide +kernel
theorem dX7_init_16 : decode cX7_init 16 = .ok (.bipush 6, 2) := by decide +kernel
theorem dX7_init_18 : decode cX7_init 18 = .ok (.if_icmp .ge 22, 3) := by decide +kernel
theorem dX7_init_21 : decode cX7_init 21 = .ok (.aload_n 0, 1) := by decide +kernel
theorem dX7_init_22 : decode cX7_init 22 = .ok (.getfield 11, 3) := by decide +kernel
theorem dX7_init_25 : decode cX7_init 25 = .ok (.iload_n 1, 1) := by decide +kernel
theorem dX7_init_26 : decode cX7_init 26 = .ok (.new 9, 3) := by decide +kernel
theorem dX7_init_29 : decode cX7_init 29 = .ok (.dup, 1) := by decide +kernel
theorem dX7_init_30 : decode cX7_init 30 = .ok (.invokespecial 15, 3) := by decide +kernel
theorem dX7_init_33 : decode cX7_init 33 = .ok (.aastore, 1) := by decide +kernel
theorem dX7_init_34 : decode cX7_init 34 = .ok (.iinc 1 1, 3) := by decide +kernel
theorem dX7_init_37 : decode cX7_init 37 = .ok (.goto (-22), 3) := by decide +kernel
theorem dX7_init_40 : decode cX7_init 40 = .ok (.aload_n 0, 1) := by decide +kernel
theorem dX7_init_41 : decode cX7_init 41 = .ok (.bipush 10, 2) := by decide +kernel
theorem dX7_init_43 : decode cX7_init 43 = .ok (.anewarray 16, 3) := by decide +kernel
theorem dX7_init_46 : decode cX7_init 46 = .ok (.putfield 18, 3) := by decide +kernel
theorem dX7_init_49 : decode cX7_init 49 = .ok (.iconst 0, 1) := by decide +kernel
theorem dX7_init_50 : decode cX7_init 50 = .ok (.istore_n 1, 1) := by decide +kernel
theorem dX7_init_51 : decode cX7_init 51 = .ok (.iload_n 1, 1) := by decide +kernel
theorem dX7_init_52 : decode cX7_init 52 = .ok (.bipush 10, 2) := by decide +kernel
theorem dX7_init_54 : decode cX7_init 54 = .ok (.if_icmp .ge 22, 3) := by decide +kernel
theorem dX7_init_57 : decode cX7_init 57 = .ok (.aload_n 0, 1) := by decide +kernel
theorem dX7_init_58 : decode cX7_init 58 = .ok (.getfield 18, 3) := by decide +kernel
theorem dX7_init_61 : decode cX7_init 61 = .ok (.iload_n 1, 1) := by decide +kernel
theorem dX7_init_62 : decode cX7_init 62 = .ok (.new 16, 3) := by decide +kernel
theorem dX7_init_65 : decode cX7_init 65 = .ok (.dup, 1) := by decide +kernel
theorem dX7_init_66 : decode cX7_init 66 = .ok (.invokespecial 22, 3) := by decide +kernel
theorem dX7_init_69 : decode cX7_init 69 = .ok (.aastore, 1) := by decide +kernel
theorem dX7_init_70 : decode cX7_init 70 = .ok (.iinc 1 1, 3) := by decide +kernel
theorem dX7_init_73 : decode cX7_init 73 = .ok (.goto (-22), 3) := by decide +kernel
theorem dX7_init_76 : decode cX7_init 76 = .ok (.aload_n 0, 1) := by decide +kernel
theorem dX7_init_77 : decode cX7_init 77 = .ok (.new 23, 3) := by decide +kernel
theorem dX7_init_80 : decode cX7_init 80 = .ok (.dup, 1) := by decide +kernel
theorem dX7_init_81 : decode cX7_init 81 = .ok (.invokespecial 25, 3) := by decide +kernel
theorem dX7_init_84 : decode cX7_init 84 = .ok (.putfield 26, 3) := by decide +kernel
theorem dX7_init_87 : decode cX7_init 87 = .ok (.aload_n 0, 1) := by decide +kernel
theorem dX7_init_88 : decode cX7_init 88 = .ok (.new 30, 3) := by decide +kernel
theorem dX7_init_91 : decode cX7_init 91 = .ok (.dup, 1) := by decide +kernel
theorem dX7_init_92 : decode cX7_init 92 = .ok (.invokespecial 32, 3) := by decide +kernel
theorem dX7_init_95 : decode cX7_init 95 = .ok (.putfield 33, 3) := by decide +kernel
theorem dX7_init_98 : decode cX7_init 98 = .ok (.aload_n 0, 1) := by decide +kernel
theorem dX7_init_99 : decode cX7_init 99 = .ok (.new 37, 3) := by decide +kernel
theorem dX7_init_102 : decode cX7_init 102 = .ok (.dup, 1) := by decide +kernel
theorem dX7_init_103 : decode cX7_init 103 = .ok (.invokespecial 39, 3) := by decide +kernel
theorem dX7_init_106 : decode cX7_init 106 = .ok (.putfield 40, 3) := by decide +kernel
theorem dX7_init_109 : decode cX7_init 109 = .ok (.aload_n 0, 1) := by decide +kernel
theorem dX7_init_110 : decode cX7_init 110 = .ok (.new 44, 3) := by decide +kernel
theorem dX7_init_113 : decode cX7_init 113 = .ok (.dup, 1) := by decide +kernel
theorem dX7_init_114 : decode cX7_init 114 = .ok (.invokespecial 46, 3) := by decide +kernel
theorem dX7_init_117 : decode cX7_init 117 = .ok (.putfield 47, 3) := by decide +kernel
theorem dX7_init_120 : decode cX7_init 120 = .ok (.aload_n 0, 1) := by decide +kernel
theorem dX7_init_121 : decode cX7_init 121 = .ok (.new 51, 3) := by decide +kernel
theorem dX7_init_124 : decode cX7_init 124 = .ok (.dup, 1) := by decide +kernel
theorem dX7_init_125 : decode cX7_init 125 = .ok (.invokespecial 53, 3) := by decide +kernel
theorem dX7_init_128 : decode cX7_init 128 = .ok (.putfield 54, 3) := by decide +kernel
theorem dX7_init_131 : decode cX7_init 131 = .ok (.aload_n 0, 1) := by decide +kernel
theorem dX7_init_132 : decode cX7_init 132 = .ok (.bipush 12, 2) := by decide +kernel
theorem dX7_init_134 : decode cX7_init 134 = .ok (.newarray .int, 2) := by decide +kernel
theorem dX7_init_136 : decode cX7_init 136 = .ok (.putfield 58, 3) := by decide +kernel
theorem dX7_init_139 : decode cX7_init 139 = .ok (.return_, 1) := by decide +kernel
theorem dX7_note_0 : decode cX7_note 0 = .ok (.iload_n 1, 1) := by decide +kernel
theorem dX7_note_1 : decode cX7_note 1 = .ok (.iconst 0, 1) := by decide +kernel
theorem dX7_note_2 : decode cX7_note 2 = .ok (.iconst 5, 1) := by decide +kernel
theorem dX7_note_3 : decode cX7_note 3 = .ok (.invokestatic 62, 3) := by decide +kernel
theorem dX7_note_6 : decode cX7_note 6 = .ok (.ifCond .eq 14, 3) := by decide +kernel
theorem dX7_note_9 : decode cX7_note 9 = .ok (.iload_n 2, 1) := by decide +kernel
theorem dX7_note_10 : decode cX7_note 10 = .ok (.iconst 0, 1) := by decide +kernel
theorem dX7_note_11 : decode cX7_note 11 = .ok (.sipush 4800, 3) := by decide +kernel
theorem dX7_note_14 : decode cX7_note 14 = .ok (.invokestatic 62, 3) := by decide +kernel
theorem dX7_note_17 : decode cX7_note 17 = .ok (.ifCond .ne 5, 3) := by decide +kernel
theorem dX7_note_20 : decode cX7_note 20 = .ok (.iconst (-1), 1) := by decide +kernel
theorem dX7_note_21 : decode cX7_note 21 = .ok (.ireturn, 1) := by decide +kernel
theorem dX7_note_22 : decode cX7_note 22 = .ok (.iload_n 3, 1) := by decide +kernel
theorem dX7_note_23 : decode cX7_note 23 = .ok (.iconst 1, 1) := by decide +kernel
theorem dX7_note_24 : decode cX7_note 24 = .ok (.bipush 8, 2) := by decide +kernel
theorem dX7_note_26 : decode cX7_note 26 = .ok (.invokestatic 62, 3) := by decide +kernel
theorem dX7_note_29 : decode cX7_note 29 = .ok (.ifCond .eq 17, 3) := by decide +kernel
theorem dX7_note_32 : decode cX7_note 32 = .ok (.aload_n 0, 1) := by decide +kernel
theorem dX7_note_33 : decode cX7_note 33 = .ok (.getfield 11, 3) := by decide +kernel
theorem dX7_note_36 : decode cX7_note 36 = .ok (.iload_n 1, 1) := by decide +kernel
theorem dX7_note_37 : decode cX7_note 37 = .ok (.aaload, 1) := by decide +kernel
theorem dX7_note_38 : decode cX7_note 38 = .ok (.getfield 66, 3) := by decide +kernel
theorem dX7_note_41 : decode cX7_note 41 = .ok (.bipush 24, 2) := by decide +kernel
theorem dX7_note_43 : decode cX7_note 43 = .ok (.if_icmp .lt 5, 3) := by decide +kernel
theorem dX7_note_46 : decode cX7_note 46 = .ok (.iconst (-1), 1) := by decide +kernel
theorem dX7_note_47 : decode cX7_note 47 = .ok (.ireturn, 1) := by decide +kernel
theorem dX7_note_48 : decode cX7_note 48 = .ok (.aload_n 0, 1) := by decide +kernel
theorem dX7_note_49 : decode cX7_note 49 = .ok (.getfield 33, 3) := by decide +kernel
theorem dX7_note_52 : decode cX7_note 52 = .ok (.invokevirtual 70, 3) := by decide +kernel
theorem dX7_note_55 : decode cX7_note 55 = .ok (.aload_n 0, 1) := by decide +kernel
theorem dX7_note_56 : decode cX7_note 56 = .ok (.getfield 11, 3) := by decide +kernel
theorem dX7_note_59 : decode cX7_note 59 = .ok (.iload_n 1, 1) := by decide +kernel
theorem dX7_note_60 : decode cX7_note 60 = .ok (.aaload, 1) := by decide +kernel
theorem dX7_note_61 : decode cX7_note 61 = .ok (.iload_n 2, 1) := by decide +kernel
theorem dX7_note_62 : decode cX7_note 62 = .ok (.iload_n 3, 1) := by decide +kernel
theorem dX7_note_63 : decode cX7_note 63 = .ok (.invokevirtual 73, 3) := by decide +kernel
theorem dX7_note_66 : decode cX7_note 66 = .ok (.ireturn, 1) := by decide +kernel
theorem dX7_record_0 : decode cX7_record 0 = .ok (.iload_n 1, 1) := by decide +kernel
theorem dX7_record_1 : decode cX7_record 1 = .ok (.iconst 0, 1) := by decide +kernel
theorem dX7_record_2 : decode cX7_record 2 = .ok (.bipush 9, 2) := by decide +kernel
theorem dX7_record_4 : decode cX7_record 4 = .ok (.invokestatic 62, 3) := by decide +kernel
theorem dX7_record_7 : decode cX7_record 7 = .ok (.ifCond .eq 12, 3) := by decide +kernel
theorem dX7_record_10 : decode cX7_record 10 = .ok (.iload_n 2, 1) := by decide +kernel
theorem dX7_record_11 : decode cX7_record 11 = .ok (.iconst 0, 1) := by decide +kernel
theorem dX7_record_12 : decode cX7_record 12 = .ok (.iconst 5, 1) := by decide +kernel
theorem dX7_record_13 : decode cX7_record 13 = .ok (.invokestatic 62, 3) := by decide +kernel
theorem dX7_record_16 : decode cX7_record 16 = .ok (.ifCond .ne 5, 3) := by decide +kernel
theorem dX7_record_19 : decode cX7_record 19 = .ok (.iconst (-1), 1) := by decide +kernel
theorem dX7_record_20 : decode cX7_record 20 = .ok (.ireturn, 1) := by decide +kernel
theorem dX7_record_21 : decode cX7_record 21 = .ok (.aload_n 0, 1) := by decide +kernel
theorem dX7_record_22 : decode cX7_record 22 = .ok (.getfield 33, 3) := by decide +kernel
theorem dX7_record_25 : decode cX7_record 25 = .ok (.invokevirtual 70, 3) := by decide +kernel
theorem dX7_record_28 : decode cX7_record 28 = .ok (.aload_n 0, 1) := by decide +kernel
theorem dX7_record_29 : decode cX7_record 29 = .ok (.getfield 18, 3) := by decide +kernel
theorem dX7_record_32 : decode cX7_record 32 = .ok (.iload_n 1, 1) := by decide +kernel
theorem dX7_record_33 : decode cX7_record 33 = .ok (.aaload, 1) := by decide +kernel
theorem dX7_record_34 : decode cX7_record 34 = .ok (.iload_n 2, 1) := by decide +kernel
theorem dX7_record_35 : decode cX7_record 35 = .ok (.invokevirtual 77, 3) := by decide +kernel
theorem dX7_record_38 : decode cX7_record 38 = .ok (.ireturn, 1) := by decide +kernel
theorem dX7_read_0 : decode cX7_read 0 = .ok (.iload_n 1, 1) := by decide +kernel
theorem dX7_read_1 : decode cX7_read 1 = .ok (.iconst 0, 1) := by decide +kernel
theorem dX7_read_2 : decode cX7_read 2 = .ok (.bipush 9, 2) := by decide +kernel
theorem dX7_read_4 : decode cX7_read 4 = .ok (.invokestatic 62, 3) := by decide +kernel
theorem dX7_read_7 : decode cX7_read 7 = .ok (.ifCond .eq 13, 3) := by decide +kernel
theorem dX7_read_10 : decode cX7_read 10 = .ok (.iload_n 3, 1) := by decide +kernel
theorem dX7_read_11 : decode cX7_read 11 = .ok (.iconst 1, 1) := by decide +kernel
theorem dX7_read_12 : decode cX7_read 12 = .ok (.bipush 60, 2) := by decide +kernel
theorem dX7_read_14 : decode cX7_read 14 = .ok (.invokestatic 62, 3) := by decide +kernel
theorem dX7_read_17 : decode cX7_read 17 = .ok (.ifCond .ne 5, 3) := by decide +kernel
theorem dX7_read_20 : decode cX7_read 20 = .ok (.iconst (-1), 1) := by decide +kernel
theorem dX7_read_21 : decode cX7_read 21 = .ok (.ireturn, 1) := by decide +kernel
theorem dX7_read_22 : decode cX7_read 22 = .ok (.iload_n 2, 1) := by decide +kernel
theorem dX7_read_23 : decode cX7_read 23 = .ok (.iconst (-1), 1) := by decide +kernel
theorem dX7_read_24 : decode cX7_read 24 = .ok (.if_icmp .eq 16, 3) := by decide +kernel
theorem dX7_read_27 : decode cX7_read 27 = .ok (.iload_n 2, 1) := by decide +kernel
theorem dX7_read_28 : decode cX7_read 28 = .ok (.iconst 0, 1) := by decide +kernel
theorem dX7_read_29 : decode cX7_read 29 = .ok (.sipush 4800, 3) := by decide +kernel
theorem dX7_read_32 : decode cX7_read 32 = .ok (.invokestatic 62, 3) := by decide +kernel
theorem dX7_read_35 : decode cX7_read 35 = .ok (.ifCond .ne 5, 3) := by decide +kernel
theorem dX7_read_38 : decode cX7_read 38 = .ok (.iconst (-1), 1) := by decide +kernel
theorem dX7_read_39 : decode cX7_read 39 = .ok (.ireturn, 1) := by decide +kernel
theorem dX7_read_40 : decode cX7_read 40 = .ok (.aload_n 0, 1) := by decide +kernel
theorem dX7_read_41 : decode cX7_read 41 = .ok (.getfield 18, 3) := by decide +kernel
theorem dX7_read_44 : decode cX7_read 44 = .ok (.iload_n 1, 1) := by decide +kernel
theorem dX7_read_45 : decode cX7_read 45 = .ok (.aaload, 1) := by decide +kernel
theorem dX7_read_46 : decode cX7_read 46 = .ok (.getfield 81, 3) := by decide +kernel
theorem dX7_read_49 : decode cX7_read 49 = .ok (.iload_n 3, 1) := by decide +kernel
theorem dX7_read_50 : decode cX7_read 50 = .ok (.iadd, 1) := by decide +kernel
theorem dX7_read_51 : decode cX7_read 51 = .ok (.bipush 120, 2) := by decide +kernel
theorem dX7_read_53 : decode cX7_read 53 = .ok (.if_icmp .le 5, 3) := by decide +kernel
theorem dX7_read_56 : decode cX7_read 56 = .ok (.iconst (-1), 1) := by decide +kernel
theorem dX7_read_57 : decode cX7_read 57 = .ok (.ireturn, 1) := by decide +kernel
theorem dX7_read_58 : decode cX7_read 58 = .ok (.aload_n 0, 1) := by decide +kernel
theorem dX7_read_59 : decode cX7_read 59 = .ok (.getfield 33, 3) := by decide +kernel
theorem dX7_read_62 : decode cX7_read 62 = .ok (.invokevirtual 70, 3) := by decide +kernel
theorem dX7_read_65 : decode cX7_read 65 = .ok (.aload_n 0, 1) := by decide +kernel
theorem dX7_read_66 : decode cX7_read 66 = .ok (.getfield 18, 3) := by decide +kernel
theorem dX7_read_69 : decode cX7_read 69 = .ok (.iload_n 1, 1) := by decide +kernel
theorem dX7_read_70 : decode cX7_read 70 = .ok (.aaload, 1) := by decide +kernel
theorem dX7_read_71 : decode cX7_read 71 = .ok (.iload_n 2, 1) := by decide +kernel
theorem dX7_read_72 : decode cX7_read 72 = .ok (.iload_n 3, 1) := by decide +kernel
theorem dX7_read_73 : decode cX7_read 73 = .ok (.invokevirtual 82, 3) := by decide +kernel
theorem dX7_read_76 : decode cX7_read 76 = .ok (.ireturn, 1) := by decide +kernel
theorem dX7_rules_0 : decode cX7_rules 0 = .ok (.iload_n 1, 1) := by decide +kernel
theorem dX7_rules_1 : decode cX7_rules 1 = .ok (.iconst 1, 1) := by decide +kernel
theorem dX7_rules_2 : decode cX7_rules 2 = .ok (.bipush 8, 2) := by decide +kernel
theorem dX7_rules_4 : decode cX7_rules 4 = .ok (.invokestatic 62, 3) := by decide +kernel
theorem dX7_rules_7 : decode cX7_rules 7 = .ok (.ifCond .eq 25, 3) := by decide +kernel
theorem dX7_rules_10 : decode cX7_rules 10 = .ok (.iload_n 2, 1) := by decide +kernel
theorem dX7_rules_11 : decode cX7_rules 11 = .ok (.iconst 0, 1) := by decide +kernel
theorem dX7_rules_12 : decode cX7_rules 12 = .ok (.sipush 1000, 3) := by decide +kernel
theorem dX7_rules_15 : decode cX7_rules 15 = .ok (.invokestatic 62, 3) := by decide +kernel
theorem dX7_rules_18 : decode cX7_rules 18 = .ok (.ifCond .eq 14, 3) := by decide +kernel
theorem dX7_rules_21 : decode cX7_rules 21 = .ok (.iload_n 3, 1) := by decide +kernel
theorem dX7_rules_22 : decode cX7_rules 22 = .ok (.iconst 0, 1) := by decide +kernel
theorem dX7_rules_23 : decode cX7_rules 23 = .ok (.sipush 1000, 3) := by decide +kernel
theorem dX7_rules_26 : decode cX7_rules 26 = .ok (.invokestatic 62, 3) := by decide +kernel
theorem dX7_rules_29 : decode cX7_rules 29 = .ok (.ifCond .ne 5, 3) := by decide +kernel
theorem dX7_rules_32 : decode cX7_rules 32 = .ok (.iconst 0, 1) := by decide +kernel
theorem dX7_rules_33 : decode cX7_rules 33 = .ok (.ireturn, 1) := by decide +kernel
theorem dX7_rules_34 : decode cX7_rules 34 = .ok (.iload 4, 2) := by decide +kernel
theorem dX7_rules_36 : decode cX7_rules 36 = .ok (.iconst 0, 1) := by decide +kernel
theorem dX7_rules_37 : decode cX7_rules 37 = .ok (.sipush 10000, 3) := by decide +kernel
theorem dX7_rules_40 : decode cX7_rules 40 = .ok (.invokestatic 62, 3) := by decide +kernel
theorem dX7_rules_43 : decode cX7_rules 43 = .ok (.ifCond .eq 15, 3) := by decide +kernel
theorem dX7_rules_46 : decode cX7_rules 46 = .ok (.iload 5, 2) := by decide +kernel
theorem dX7_rules_48 : decode cX7_rules 48 = .ok (.iconst 0, 1) := by decide +kernel
theorem dX7_rules_49 : decode cX7_rules 49 = .ok (.sipush 1000, 3) := by decide +kernel
theorem dX7_rules_52 : decode cX7_rules 52 = .ok (.invokestatic 62, 3) := by decide +kernel
theorem dX7_rules_55 : decode cX7_rules 55 = .ok (.ifCond .ne 5, 3) := by decide +kernel
theorem dX7_rules_58 : decode cX7_rules 58 = .ok (.iconst 0, 1) := by decide +kernel
theorem dX7_rules_59 : decode cX7_rules 59 = .ok (.ireturn, 1) := by decide +kernel
theorem dX7_rules_60 : decode cX7_rules 60 = .ok (.aload_n 0, 1) := by decide +kernel
theorem dX7_rules_61 : decode cX7_rules 61 = .ok (.getfield 33, 3) := by decide +kernel
theorem dX7_rules_64 : decode cX7_rules 64 = .ok (.invokevirtual 70, 3) := by decide +kernel
theorem dX7_rules_67 : decode cX7_rules 67 = .ok (.aload_n 0, 1) := by decide +kernel
theorem dX7_rules_68 : decode cX7_rules 68 = .ok (.getfield 26, 3) := by decide +kernel
theorem dX7_rules_71 : decode cX7_rules 71 = .ok (.iload_n 1, 1) := by decide +kernel
theorem dX7_rules_72 : decode cX7_rules 72 = .ok (.iload_n 2, 1) := by decide +kernel
theorem dX7_rules_73 : decode cX7_rules 73 = .ok (.iload_n 3, 1) := by decide +kernel
theorem dX7_rules_74 : decode cX7_rules 74 = .ok (.iload 4, 2) := by decide +kernel
theorem dX7_rules_76 : decode cX7_rules 76 = .ok (.iload 5, 2) := by decide +kernel
theorem dX7_rules_78 : decode cX7_rules 78 = .ok (.invokevirtual 85, 3) := by decide +kernel
theorem dX7_rules_81 : decode cX7_rules 81 = .ok (.iconst 1, 1) := by decide +kernel
theorem dX7_rules_82 : decode cX7_rules 82 = .ok (.ireturn, 1) := by decide +kernel
theorem dX7_lay_0 : decode cX7_lay 0 = .ok (.aload_n 0, 1) := by decide +kernel
theorem dX7_lay_1 : decode cX7_lay 1 = .ok (.iload_n 1, 1) := by decide +kernel
theorem dX7_lay_2 : decode cX7_lay 2 = .ok (.invokevirtual 89, 3) := by decide +kernel
theorem dX7_lay_5 : decode cX7_lay 5 = .ok (.ifCond .eq 13, 3) := by decide +kernel
theorem dX7_lay_8 : decode cX7_lay 8 = .ok (.aload_n 0, 1) := by decide +kernel
theorem dX7_lay_9 : decode cX7_lay 9 = .ok (.getfield 33, 3) := by decide +kernel
theorem dX7_lay_12 : decode cX7_lay 12 = .ok (.getfield 93, 3) := by decide +kernel
theorem dX7_lay_15 : decode cX7_lay 15 = .ok (.goto 4, 3) := by decide +kernel
theorem dX7_lay_18 : decode cX7_lay 18 = .ok (.iconst (-1), 1) := by decide +kernel
theorem dX7_lay_19 : decode cX7_lay 19 = .ok (.ireturn, 1) := by decide +kernel
theorem dX7_laid_0 : decode cX7_laid 0 = .ok (.aload_n 0, 1) := by decide +kernel
theorem dX7_laid_1 : decode cX7_laid 1 = .ok (.iload_n 1, 1) := by decide +kernel
theorem dX7_laid_2 : decode cX7_laid 2 = .ok (.invokevirtual 89, 3) := by decide +kernel
theorem dX7_laid_5 : decode cX7_laid 5 = .ok (.ifCond .eq 20, 3) := by decide +kernel
theorem dX7_laid_8 : decode cX7_laid 8 = .ok (.iload_n 2, 1) := by decide +kernel
theorem dX7_laid_9 : decode cX7_laid 9 = .ok (.iconst 0, 1) := by decide +kernel
theorem dX7_laid_10 : decode cX7_laid 10 = .ok (.aload_n 0, 1) := by decide +kernel
theorem dX7_laid_11 : decode cX7_laid 11 = .ok (.getfield 33, 3) := by decide +kernel
theorem dX7_laid_14 : decode cX7_laid 14 = .ok (.getfield 96, 3) := by decide +kernel
theorem dX7_laid_17 : decode cX7_laid 17 = .ok (.iconst 1, 1) := by decide +kernel
theorem dX7_laid_18 : decode cX7_laid 18 = .ok (.isub, 1) := by decide +kernel
theorem dX7_laid_19 : decode cX7_laid 19 = .ok (.invokestatic 62, 3) := by decide +kernel
theorem dX7_laid_22 : decode cX7_laid 22 = .ok (.ifCond .ne 6, 3) := by decide +kernel
theorem dX7_laid_25 : decode cX7_laid 25 = .ok (.bipush (-2), 2) := by decide +kernel
theorem dX7_laid_27 : decode cX7_laid 27 = .ok (.ireturn, 1) := by decide +kernel
theorem dX7_laid_28 : decode cX7_laid 28 = .ok (.iload_n 3, 1) := by decide +kernel
theorem dX7_laid_29 : decode cX7_laid 29 = .ok (.tableswitch 57 0 2 #[27, 37, 47], 27) := by decide +kernel
theorem dX7_laid_56 : decode cX7_laid 56 = .ok (.aload_n 0, 1) := by decide +kernel
theorem dX7_laid_57 : decode cX7_laid 57 = .ok (.getfield 33, 3) := by decide +kernel
theorem dX7_laid_60 : decode cX7_laid 60 = .ok (.getfield 97, 3) := by decide +kernel
theorem dX7_laid_63 : decode cX7_laid 63 = .ok (.iload_n 2, 1) := by decide +kernel
theorem dX7_laid_64 : decode cX7_laid 64 = .ok (.iaload, 1) := by decide +kernel
theorem dX7_laid_65 : decode cX7_laid 65 = .ok (.ireturn, 1) := by decide +kernel
theorem dX7_laid_66 : decode cX7_laid 66 = .ok (.aload_n 0, 1) := by decide +kernel
theorem dX7_laid_67 : decode cX7_laid 67 = .ok (.getfield 33, 3) := by decide +kernel
theorem dX7_laid_70 : decode cX7_laid 70 = .ok (.getfield 100, 3) := by decide +kernel
theorem dX7_laid_73 : decode cX7_laid 73 = .ok (.iload_n 2, 1) := by decide +kernel
theorem dX7_laid_74 : decode cX7_laid 74 = .ok (.iaload, 1) := by decide +kernel
theorem dX7_laid_75 : decode cX7_laid 75 = .ok (.ireturn, 1) := by decide +kernel
theorem dX7_laid_76 : decode cX7_laid 76 = .ok (.aload_n 0, 1) := by decide +kernel
theorem dX7_laid_77 : decode cX7_laid 77 = .ok (.getfield 33, 3) := by decide +kernel
theorem dX7_laid_80 : decode cX7_laid 80 = .ok (.getfield 103, 3) := by decide +kernel
theorem dX7_laid_83 : decode cX7_laid 83 = .ok (.iload_n 2, 1) := by decide +kernel
theorem dX7_laid_84 : decode cX7_laid 84 = .ok (.iaload, 1) := by decide +kernel
theorem dX7_laid_85 : decode cX7_laid 85 = .ok (.ireturn, 1) := by decide +kernel
theorem dX7_laid_86 : decode cX7_laid 86 = .ok (.bipush (-2), 2) := by decide +kernel
theorem dX7_laid_88 : decode cX7_laid 88 = .ok (.ireturn, 1) := by decide +kernel
theorem dX7_off_0 : decode cX7_off 0 = .ok (.aload_n 0, 1) := by decide +kernel
theorem dX7_off_1 : decode cX7_off 1 = .ok (.iload_n 1, 1) := by decide +kernel
theorem dX7_off_2 : decode cX7_off 2 = .ok (.invokevirtual 89, 3) := by decide +kernel
theorem dX7_off_5 : decode cX7_off 5 = .ok (.ifCond .eq 20, 3) := by decide +kernel
theorem dX7_off_8 : decode cX7_off 8 = .ok (.iload_n 2, 1) := by decide +kernel
theorem dX7_off_9 : decode cX7_off 9 = .ok (.iconst 0, 1) := by decide +kernel
theorem dX7_off_10 : decode cX7_off 10 = .ok (.aload_n 0, 1) := by decide +kernel
theorem dX7_off_11 : decode cX7_off 11 = .ok (.getfield 33, 3) := by decide +kernel
theorem dX7_off_14 : decode cX7_off 14 = .ok (.getfield 96, 3) := by decide +kernel
theorem dX7_off_17 : decode cX7_off 17 = .ok (.iconst 1, 1) := by decide +kernel
theorem dX7_off_18 : decode cX7_off 18 = .ok (.isub, 1) := by decide +kernel
theorem dX7_off_19 : decode cX7_off 19 = .ok (.invokestatic 62, 3) := by decide +kernel
theorem dX7_off_22 : decode cX7_off 22 = .ok (.ifCond .ne 6, 3) := by decide +kernel
theorem dX7_off_25 : decode cX7_off 25 = .ok (.ldc 106, 2) := by decide +kernel
theorem dX7_off_27 : decode cX7_off 27 = .ok (.ireturn, 1) := by decide +kernel
theorem dX7_off_28 : decode cX7_off 28 = .ok (.aload_n 0, 1) := by decide +kernel
theorem dX7_off_29 : decode cX7_off 29 = .ok (.getfield 33, 3) := by decide +kernel
theorem dX7_off_32 : decode cX7_off 32 = .ok (.getfield 107, 3) := by decide +kernel
theorem dX7_off_35 : decode cX7_off 35 = .ok (.iload_n 2, 1) := by decide +kernel
theorem dX7_off_36 : decode cX7_off 36 = .ok (.iaload, 1) := by decide +kernel
theorem dX7_off_37 : decode cX7_off 37 = .ok (.ireturn, 1) := by decide +kernel
theorem dX7_told_0 : decode cX7_told 0 = .ok (.iload_n 2, 1) := by decide +kernel
theorem dX7_told_1 : decode cX7_told 1 = .ok (.iconst 0, 1) := by decide +kernel
theorem dX7_told_2 : decode cX7_told 2 = .ok (.iconst 1, 1) := by decide +kernel
theorem dX7_told_3 : decode cX7_told 3 = .ok (.invokestatic 62, 3) := by decide +kernel
theorem dX7_told_6 : decode cX7_told 6 = .ok (.ifCond .eq 11, 3) := by decide +kernel
theorem dX7_told_9 : decode cX7_told 9 = .ok (.aload_n 0, 1) := by decide +kernel
theorem dX7_told_10 : decode cX7_told 10 = .ok (.iload_n 1, 1) := by decide +kernel
theorem dX7_told_11 : decode cX7_told 11 = .ok (.invokevirtual 89, 3) := by decide +kernel
theorem dX7_told_14 : decode cX7_told 14 = .ok (.ifCond .ne 6, 3) := by decide +kernel
theorem dX7_told_17 : decode cX7_told 17 = .ok (.ldc 106, 2) := by decide +kernel
theorem dX7_told_19 : decode cX7_told 19 = .ok (.ireturn, 1) := by decide +kernel
theorem dX7_told_20 : decode cX7_told 20 = .ok (.iload_n 2, 1) := by decide +kernel
theorem dX7_told_21 : decode cX7_told 21 = .ok (.ifCond .ne 13, 3) := by decide +kernel
theorem dX7_told_24 : decode cX7_told 24 = .ok (.aload_n 0, 1) := by decide +kernel
theorem dX7_told_25 : decode cX7_told 25 = .ok (.getfield 33, 3) := by decide +kernel
theorem dX7_told_28 : decode cX7_told 28 = .ok (.getfield 110, 3) := by decide +kernel
theorem dX7_told_31 : decode cX7_told 31 = .ok (.goto 10, 3) := by decide +kernel
theorem dX7_told_34 : decode cX7_told 34 = .ok (.aload_n 0, 1) := by decide +kernel
theorem dX7_told_35 : decode cX7_told 35 = .ok (.getfield 33, 3) := by decide +kernel
theorem dX7_told_38 : decode cX7_told 38 = .ok (.getfield 113, 3) := by decide +kernel
theorem dX7_told_41 : decode cX7_told 41 = .ok (.ireturn, 1) := by decide +kernel
theorem dX7_sing_0 : decode cX7_sing 0 = .ok (.iload_n 1, 1) := by decide +kernel
theorem dX7_sing_1 : decode cX7_sing 1 = .ok (.iconst 1, 1) := by decide +kernel
theorem dX7_sing_2 : decode cX7_sing 2 = .ok (.sipush 1023, 3) := by decide +kernel
theorem dX7_sing_5 : decode cX7_sing 5 = .ok (.invokestatic 62, 3) := by decide +kernel
theorem dX7_sing_8 : decode cX7_sing 8 = .ok (.ifCond .ne 5, 3) := by decide +kernel
theorem dX7_sing_11 : decode cX7_sing 11 = .ok (.iconst (-1), 1) := by decide +kernel
theorem dX7_sing_12 : decode cX7_sing 12 = .ok (.ireturn, 1) := by decide +kernel
theorem dX7_sing_13 : decode cX7_sing 13 = .ok (.aload_n 0, 1) := by decide +kernel
theorem dX7_sing_14 : decode cX7_sing 14 = .ok (.getfield 40, 3) := by decide +kernel
theorem dX7_sing_17 : decode cX7_sing 17 = .ok (.iload_n 1, 1) := by decide +kernel
theorem dX7_sing_18 : decode cX7_sing 18 = .ok (.putfield 116, 3) := by decide +kernel
theorem dX7_sing_21 : decode cX7_sing 21 = .ok (.iload_n 1, 1) := by decide +kernel
theorem dX7_sing_22 : decode cX7_sing 22 = .ok (.invokestatic 119, 3) := by decide +kernel
theorem dX7_sing_25 : decode cX7_sing 25 = .ok (.ireturn, 1) := by decide +kernel
theorem dX7_judge_0 : decode cX7_judge 0 = .ok (.iload_n 1, 1) := by decide +kernel
theorem dX7_judge_1 : decode cX7_judge 1 = .ok (.iconst 0, 1) := by decide +kernel
theorem dX7_judge_2 : decode cX7_judge 2 = .ok (.bipush 8, 2) := by decide +kernel
theorem dX7_judge_4 : decode cX7_judge 4 = .ok (.invokestatic 62, 3) := by decide +kernel
theorem dX7_judge_7 : decode cX7_judge 7 = .ok (.ifCond .eq 13, 3) := by decide +kernel
theorem dX7_judge_10 : decode cX7_judge 10 = .ok (.iload_n 2, 1) := by decide +kernel
theorem dX7_judge_11 : decode cX7_judge 11 = .ok (.iconst 0, 1) := by decide +kernel
theorem dX7_judge_12 : decode cX7_judge 12 = .ok (.bipush 10, 2) := by decide +kernel
theorem dX7_judge_14 : decode cX7_judge 14 = .ok (.invokestatic 62, 3) := by decide +kernel
theorem dX7_judge_17 : decode cX7_judge 17 = .ok (.ifCond .ne 5, 3) := by decide +kernel
theorem dX7_judge_20 : decode cX7_judge 20 = .ok (.iconst 0, 1) := by decide +kernel
theorem dX7_judge_21 : decode cX7_judge 21 = .ok (.ireturn, 1) := by decide +kernel
theorem dX7_judge_22 : decode cX7_judge 22 = .ok (.aload_n 0, 1) := by decide +kernel
theorem dX7_judge_23 : decode cX7_judge 23 = .ok (.getfield 40, 3) := by decide +kernel
theorem dX7_judge_26 : decode cX7_judge 26 = .ok (.iload_n 1, 1) := by decide +kernel
theorem dX7_judge_27 : decode cX7_judge 27 = .ok (.iload_n 2, 1) := by decide +kernel
theorem dX7_judge_28 : decode cX7_judge 28 = .ok (.lload_n 3, 1) := by decide +kernel
theorem dX7_judge_29 : decode cX7_judge 29 = .ok (.invokevirtual 124, 3) := by decide +kernel
theorem dX7_judge_32 : decode cX7_judge 32 = .ok (.ireturn, 1) := by decide +kernel
theorem dX7_judges_0 : decode cX7_judges 0 = .ok (.aload_n 0, 1) := by decide +kernel
theorem dX7_judges_1 : decode cX7_judges 1 = .ok (.getfield 40, 3) := by decide +kernel
theorem dX7_judges_4 : decode cX7_judges 4 = .ok (.invokevirtual 128, 3) := by decide +kernel
theorem dX7_judges_7 : decode cX7_judges 7 = .ok (.ireturn, 1) := by decide +kernel
theorem dX7_place_0 : decode cX7_place 0 = .ok (.aload_n 0, 1) := by decide +kernel
theorem dX7_place_1 : decode cX7_place 1 = .ok (.getfield 40, 3) := by decide +kernel
theorem dX7_place_4 : decode cX7_place 4 = .ok (.iload_n 1, 1) := by decide +kernel
theorem dX7_place_5 : decode cX7_place 5 = .ok (.invokevirtual 132, 3) := by decide +kernel
theorem dX7_place_8 : decode cX7_place 8 = .ok (.ifCond .eq 13, 3) := by decide +kernel
theorem dX7_place_11 : decode cX7_place 11 = .ok (.aload_n 0, 1) := by decide +kernel
theorem dX7_place_12 : decode cX7_place 12 = .ok (.getfield 40, 3) := by decide +kernel
theorem dX7_place_15 : decode cX7_place 15 = .ok (.invokevirtual 128, 3) := by decide +kernel
theorem dX7_place_18 : decode cX7_place 18 = .ok (.ifCond .ne 5, 3) := by decide +kernel
theorem dX7_place_21 : decode cX7_place 21 = .ok (.iconst (-1), 1) := by decide +kernel
theorem dX7_place_22 : decode cX7_place 22 = .ok (.ireturn, 1) := by decide +kernel
theorem dX7_place_23 : decode cX7_place 23 = .ok (.aload_n 0, 1) := by decide +kernel
theorem dX7_place_24 : decode cX7_place 24 = .ok (.getfield 40, 3) := by decide +kernel
theorem dX7_place_27 : decode cX7_place 27 = .ok (.iload_n 1, 1) := by decide +kernel
theorem dX7_place_28 : decode cX7_place 28 = .ok (.invokevirtual 135, 3) := by decide +kernel
theorem dX7_place_31 : decode cX7_place 31 = .ok (.ireturn, 1) := by decide +kernel
theorem dX7_ranks_0 : decode cX7_ranks 0 = .ok (.aload_n 0, 1) := by decide +kernel
theorem dX7_ranks_1 : decode cX7_ranks 1 = .ok (.getfield 40, 3) := by decide +kernel
theorem dX7_ranks_4 : decode cX7_ranks 4 = .ok (.iload_n 1, 1) := by decide +kernel
theorem dX7_ranks_5 : decode cX7_ranks 5 = .ok (.invokevirtual 132, 3) := by decide +kernel
theorem dX7_ranks_8 : decode cX7_ranks 8 = .ok (.ifCond .eq 8, 3) := by decide +kernel
theorem dX7_ranks_11 : decode cX7_ranks 11 = .ok (.iload_n 2, 1) := by decide +kernel
theorem dX7_ranks_12 : decode cX7_ranks 12 = .ok (.iconst 1, 1) := by decide +kernel
theorem dX7_ranks_13 : decode cX7_ranks 13 = .ok (.if_icmp .ge 5, 3) := by decide +kernel
theorem dX7_ranks_16 : decode cX7_ranks 16 = .ok (.iconst (-1), 1) := by decide +kernel
theorem dX7_ranks_17 : decode cX7_ranks 17 = .ok (.ireturn, 1) := by decide +kernel
theorem dX7_ranks_18 : decode cX7_ranks 18 = .ok (.aload_n 0, 1) := by decide +kernel
theorem dX7_ranks_19 : decode cX7_ranks 19 = .ok (.getfield 40, 3) := by decide +kernel
theorem dX7_ranks_22 : decode cX7_ranks 22 = .ok (.iload_n 1, 1) := by decide +kernel
theorem dX7_ranks_23 : decode cX7_ranks 23 = .ok (.iload_n 2, 1) := by decide +kernel
theorem dX7_ranks_24 : decode cX7_ranks 24 = .ok (.invokevirtual 138, 3) := by decide +kernel
theorem dX7_ranks_27 : decode cX7_ranks 27 = .ok (.ireturn, 1) := by decide +kernel
theorem dX7_member_0 : decode cX7_member 0 = .ok (.iload_n 1, 1) := by decide +kernel
theorem dX7_member_1 : decode cX7_member 1 = .ok (.iconst 0, 1) := by decide +kernel
theorem dX7_member_2 : decode cX7_member 2 = .ok (.bipush 29, 2) := by decide +kernel
theorem dX7_member_4 : decode cX7_member 4 = .ok (.invokestatic 62, 3) := by decide +kernel
theorem dX7_member_7 : decode cX7_member 7 = .ok (.ifCond .eq 13, 3) := by decide +kernel
theorem dX7_member_10 : decode cX7_member 10 = .ok (.iload_n 2, 1) := by decide +kernel
theorem dX7_member_11 : decode cX7_member 11 = .ok (.iconst 0, 1) := by decide +kernel
theorem dX7_member_12 : decode cX7_member 12 = .ok (.bipush 9, 2) := by decide +kernel
theorem dX7_member_14 : decode cX7_member 14 = .ok (.invokestatic 62, 3) := by decide +kernel
theorem dX7_member_17 : decode cX7_member 17 = .ok (.ifCond .ne 5, 3) := by decide +kernel
theorem dX7_member_20 : decode cX7_member 20 = .ok (.iconst (-1), 1) := by decide +kernel
theorem dX7_member_21 : decode cX7_member 21 = .ok (.ireturn, 1) := by decide +kernel
theorem dX7_member_22 : decode cX7_member 22 = .ok (.iload_n 3, 1) := by decide +kernel
theorem dX7_member_23 : decode cX7_member 23 = .ok (.invokestatic 141, 3) := by decide +kernel
theorem dX7_member_26 : decode cX7_member 26 = .ok (.ifCond .eq 29, 3) := by decide +kernel
theorem dX7_member_29 : decode cX7_member 29 = .ok (.iload 4, 2) := by decide +kernel
theorem dX7_member_31 : decode cX7_member 31 = .ok (.invokestatic 141, 3) := by decide +kernel
theorem dX7_member_34 : decode cX7_member 34 = .ok (.ifCond .eq 21, 3) := by decide +kernel
theorem dX7_member_37 : decode cX7_member 37 = .ok (.iload_n 3, 1) := by decide +kernel
theorem dX7_member_38 : decode cX7_member 38 = .ok (.iload 4, 2) := by decide +kernel
theorem dX7_member_40 : decode cX7_member 40 = .ok (.if_icmp .gt 15, 3) := by decide +kernel
theorem dX7_member_43 : decode cX7_member 43 = .ok (.aload_n 0, 1) := by decide +kernel
theorem dX7_member_44 : decode cX7_member 44 = .ok (.getfield 47, 3) := by decide +kernel
theorem dX7_member_47 : decode cX7_member 47 = .ok (.getfield 144, 3) := by decide +kernel
theorem dX7_member_50 : decode cX7_member 50 = .ok (.bipush 60, 2) := by decide +kernel
theorem dX7_member_52 : decode cX7_member 52 = .ok (.if_icmp .lt 5, 3) := by decide +kernel
theorem dX7_member_55 : decode cX7_member 55 = .ok (.iconst (-1), 1) := by decide +kernel
theorem dX7_member_56 : decode cX7_member 56 = .ok (.ireturn, 1) := by decide +kernel
theorem dX7_member_57 : decode cX7_member 57 = .ok (.aload_n 0, 1) := by decide +kernel
theorem dX7_member_58 : decode cX7_member 58 = .ok (.getfield 47, 3) := by decide +kernel
theorem dX7_member_61 : decode cX7_member 61 = .ok (.iload_n 1, 1) := by decide +kernel
theorem dX7_member_62 : decode cX7_member 62 = .ok (.iload_n 2, 1) := by decide +kernel
theorem dX7_member_63 : decode cX7_member 63 = .ok (.iload_n 3, 1) := by decide +kernel
theorem dX7_member_64 : decode cX7_member 64 = .ok (.iload 4, 2) := by decide +kernel
theorem dX7_member_66 : decode cX7_member 66 = .ok (.invokevirtual 145, 3) := by decide +kernel
theorem dX7_member_69 : decode cX7_member 69 = .ok (.ireturn, 1) := by decide +kernel
theorem dX7_may_0 : decode cX7_may 0 = .ok (.iload_n 1, 1) := by decide +kernel
theorem dX7_may_1 : decode cX7_may 1 = .ok (.iconst 0, 1) := by decide +kernel
theorem dX7_may_2 : decode cX7_may 2 = .ok (.bipush 29, 2) := by decide +kernel
theorem dX7_may_4 : decode cX7_may 4 = .ok (.invokestatic 62, 3) := by decide +kernel
theorem dX7_may_7 : decode cX7_may 7 = .ok (.ifCond .eq 20, 3) := by decide +kernel
theorem dX7_may_10 : decode cX7_may 10 = .ok (.iload_n 2, 1) := by decide +kernel
theorem dX7_may_11 : decode cX7_may 11 = .ok (.iconst 0, 1) := by decide +kernel
theorem dX7_may_12 : decode cX7_may 12 = .ok (.bipush 9, 2) := by decide +kernel
theorem dX7_may_14 : decode cX7_may 14 = .ok (.invokestatic 62, 3) := by decide +kernel
theorem dX7_may_17 : decode cX7_may 17 = .ok (.ifCond .eq 10, 3) := by decide +kernel
theorem dX7_may_20 : decode cX7_may 20 = .ok (.iload_n 3, 1) := by decide +kernel
theorem dX7_may_21 : decode cX7_may 21 = .ok (.invokestatic 141, 3) := by decide +kernel
theorem dX7_may_24 : decode cX7_may 24 = .ok (.ifCond .ne 5, 3) := by decide +kernel
theorem dX7_may_27 : decode cX7_may 27 = .ok (.iconst (-1), 1) := by decide +kernel
theorem dX7_may_28 : decode cX7_may 28 = .ok (.ireturn, 1) := by decide +kernel
theorem dX7_may_29 : decode cX7_may 29 = .ok (.aload_n 0, 1) := by decide +kernel
theorem dX7_may_30 : decode cX7_may 30 = .ok (.getfield 47, 3) := by decide +kernel
theorem dX7_may_33 : decode cX7_may 33 = .ok (.iload_n 2, 1) := by decide +kernel
theorem dX7_may_34 : decode cX7_may 34 = .ok (.iload_n 3, 1) := by decide +kernel
theorem dX7_may_35 : decode cX7_may 35 = .ok (.invokevirtual 149, 3) := by decide +kernel
theorem dX7_may_38 : decode cX7_may 38 = .ok (.iload_n 1, 1) := by decide +kernel
theorem dX7_may_39 : decode cX7_may 39 = .ok (.ishr, 1) := by decide +kernel
theorem dX7_may_40 : decode cX7_may 40 = .ok (.iconst 1, 1) := by decide +kernel
theorem dX7_may_41 : decode cX7_may 41 = .ok (.iand, 1) := by decide +kernel
theorem dX7_may_42 : decode cX7_may 42 = .ok (.ireturn, 1) := by decide +kernel
theorem dX7_singers_0 : decode cX7_singers 0 = .ok (.iload_n 1, 1) := by decide +kernel
theorem dX7_singers_1 : decode cX7_singers 1 = .ok (.iconst 0, 1) := by decide +kernel
theorem dX7_singers_2 : decode cX7_singers 2 = .ok (.bipush 9, 2) := by decide +kernel
theorem dX7_singers_4 : decode cX7_singers 4 = .ok (.invokestatic 62, 3) := by decide +kernel
theorem dX7_singers_7 : decode cX7_singers 7 = .ok (.ifCond .eq 10, 3) := by decide +kernel
theorem dX7_singers_10 : decode cX7_singers 10 = .ok (.iload_n 2, 1) := by decide +kernel
theorem dX7_singers_11 : decode cX7_singers 11 = .ok (.invokestatic 141, 3) := by decide +kernel
theorem dX7_singers_14 : decode cX7_singers 14 = .ok (.ifCond .ne 5, 3) := by decide +kernel
theorem dX7_singers_17 : decode cX7_singers 17 = .ok (.iconst (-1), 1) := by decide +kernel
theorem dX7_singers_18 : decode cX7_singers 18 = .ok (.ireturn, 1) := by decide +kernel
theorem dX7_singers_19 : decode cX7_singers 19 = .ok (.aload_n 0, 1) := by decide +kernel
theorem dX7_singers_20 : decode cX7_singers 20 = .ok (.getfield 47, 3) := by decide +kernel
theorem dX7_singers_23 : decode cX7_singers 23 = .ok (.iload_n 1, 1) := by decide +kernel
theorem dX7_singers_24 : decode cX7_singers 24 = .ok (.iload_n 2, 1) := by decide +kernel
theorem dX7_singers_25 : decode cX7_singers 25 = .ok (.invokevirtual 149, 3) := by decide +kernel
theorem dX7_singers_28 : decode cX7_singers 28 = .ok (.ireturn, 1) := by decide +kernel
theorem dX7_perform_0 : decode cX7_perform 0 = .ok (.iload_n 1, 1) := by decide +kernel
theorem dX7_perform_1 : decode cX7_perform 1 = .ok (.iconst 0, 1) := by decide +kernel
theorem dX7_perform_2 : decode cX7_perform 2 = .ok (.bipush 9, 2) := by decide +kernel
theorem dX7_perform_4 : decode cX7_perform 4 = .ok (.invokestatic 62, 3) := by decide +kernel
theorem dX7_perform_7 : decode cX7_perform 7 = .ok (.ifCond .eq 15, 3) := by decide +kernel
theorem dX7_perform_10 : decode cX7_perform 10 = .ok (.aload_n 0, 1) := by decide +kernel
theorem dX7_perform_11 : decode cX7_perform 11 = .ok (.getfield 54, 3) := by decide +kernel
theorem dX7_perform_14 : decode cX7_perform 14 = .ok (.getfield 152, 3) := by decide +kernel
theorem dX7_perform_17 : decode cX7_perform 17 = .ok (.bipush 12, 2) := by decide +kernel
theorem dX7_perform_19 : decode cX7_perform 19 = .ok (.if_icmp .lt 5, 3) := by decide +kernel
theorem dX7_perform_22 : decode cX7_perform 22 = .ok (.iconst (-1), 1) := by decide +kernel
theorem dX7_perform_23 : decode cX7_perform 23 = .ok (.ireturn, 1) := by decide +kernel
theorem dX7_perform_24 : decode cX7_perform 24 = .ok (.aload_n 0, 1) := by decide +kernel
theorem dX7_perform_25 : decode cX7_perform 25 = .ok (.getfield 54, 3) := by decide +kernel
theorem dX7_perform_28 : decode cX7_perform 28 = .ok (.iload_n 1, 1) := by decide +kernel
theorem dX7_perform_29 : decode cX7_perform 29 = .ok (.invokevirtual 153, 3) := by decide +kernel
theorem dX7_perform_32 : decode cX7_perform 32 = .ok (.ireturn, 1) := by decide +kernel
theorem dX7_clear_0 : decode cX7_clear 0 = .ok (.aload_n 0, 1) := by decide +kernel
theorem dX7_clear_1 : decode cX7_clear 1 = .ok (.getfield 54, 3) := by decide +kernel
theorem dX7_clear_4 : decode cX7_clear 4 = .ok (.getfield 152, 3) := by decide +kernel
theorem dX7_clear_7 : decode cX7_clear 7 = .ok (.istore_n 1, 1) := by decide +kernel
theorem dX7_clear_8 : decode cX7_clear 8 = .ok (.aload_n 0, 1) := by decide +kernel
theorem dX7_clear_9 : decode cX7_clear 9 = .ok (.getfield 54, 3) := by decide +kernel
theorem dX7_clear_12 : decode cX7_clear 12 = .ok (.iconst 0, 1) := by decide +kernel
theorem dX7_clear_13 : decode cX7_clear 13 = .ok (.putfield 152, 3) := by decide +kernel
theorem dX7_clear_16 : decode cX7_clear 16 = .ok (.iload_n 1, 1) := by decide +kernel
theorem dX7_clear_17 : decode cX7_clear 17 = .ok (.ireturn, 1) := by decide +kernel
theorem dX7_halls_0 : decode cX7_halls 0 = .ok (.iload_n 1, 1) := by decide +kernel
theorem dX7_halls_1 : decode cX7_halls 1 = .ok (.iconst 1, 1) := by decide +kernel
theorem dX7_halls_2 : decode cX7_halls 2 = .ok (.iconst 4, 1) := by decide +kernel
theorem dX7_halls_3 : decode cX7_halls 3 = .ok (.invokestatic 62, 3) := by decide +kernel
theorem dX7_halls_6 : decode cX7_halls 6 = .ok (.ifCond .ne 5, 3) := by decide +kernel
theorem dX7_halls_9 : decode cX7_halls 9 = .ok (.iconst (-1), 1) := by decide +kernel
theorem dX7_halls_10 : decode cX7_halls 10 = .ok (.ireturn, 1) := by decide +kernel
theorem dX7_halls_11 : decode cX7_halls 11 = .ok (.aload_n 0, 1) := by decide +kernel
theorem dX7_halls_12 : decode cX7_halls 12 = .ok (.getfield 54, 3) := by decide +kernel
theorem dX7_halls_15 : decode cX7_halls 15 = .ok (.getfield 156, 3) := by decide +kernel
theorem dX7_halls_18 : decode cX7_halls 18 = .ok (.istore_n 2, 1) := by decide +kernel
theorem dX7_halls_19 : decode cX7_halls 19 = .ok (.aload_n 0, 1) := by decide +kernel
theorem dX7_halls_20 : decode cX7_halls 20 = .ok (.getfield 54, 3) := by decide +kernel
theorem dX7_halls_23 : decode cX7_halls 23 = .ok (.iload_n 1, 1) := by decide +kernel
theorem dX7_halls_24 : decode cX7_halls 24 = .ok (.putfield 156, 3) := by decide +kernel
theorem dX7_halls_27 : decode cX7_halls 27 = .ok (.iload_n 2, 1) := by decide +kernel
theorem dX7_halls_28 : decode cX7_halls 28 = .ok (.ireturn, 1) := by decide +kernel
theorem dX7_hours_0 : decode cX7_hours 0 = .ok (.iload_n 1, 1) := by decide +kernel
theorem dX7_hours_1 : decode cX7_hours 1 = .ok (.invokestatic 141, 3) := by decide +kernel
theorem dX7_hours_4 : decode cX7_hours 4 = .ok (.ifCond .ne 5, 3) := by decide +kernel
theorem dX7_hours_7 : decode cX7_hours 7 = .ok (.iconst (-1), 1) := by decide +kernel
theorem dX7_hours_8 : decode cX7_hours 8 = .ok (.ireturn, 1) := by decide +kernel
theorem dX7_hours_9 : decode cX7_hours 9 = .ok (.aload_n 0, 1) := by decide +kernel
theorem dX7_hours_10 : decode cX7_hours 10 = .ok (.getfield 54, 3) := by decide +kernel
theorem dX7_hours_13 : decode cX7_hours 13 = .ok (.aload_n 0, 1) := by decide +kernel
theorem dX7_hours_14 : decode cX7_hours 14 = .ok (.getfield 47, 3) := by decide +kernel
theorem dX7_hours_17 : decode cX7_hours 17 = .ok (.iload_n 1, 1) := by decide +kernel
theorem dX7_hours_18 : decode cX7_hours 18 = .ok (.invokevirtual 159, 3) := by decide +kernel
theorem dX7_hours_21 : decode cX7_hours 21 = .ok (.ireturn, 1) := by decide +kernel
theorem dX7_hour_0 : decode cX7_hour 0 = .ok (.iload_n 1, 1) := by decide +kernel
theorem dX7_hour_1 : decode cX7_hour 1 = .ok (.iconst 0, 1) := by decide +kernel
theorem dX7_hour_2 : decode cX7_hour 2 = .ok (.aload_n 0, 1) := by decide +kernel
theorem dX7_hour_3 : decode cX7_hour 3 = .ok (.getfield 54, 3) := by decide +kernel
theorem dX7_hour_6 : decode cX7_hour 6 = .ok (.getfield 163, 3) := by decide +kernel
theorem dX7_hour_9 : decode cX7_hour 9 = .ok (.iconst 1, 1) := by decide +kernel
theorem dX7_hour_10 : decode cX7_hour 10 = .ok (.isub, 1) := by decide +kernel
theorem dX7_hour_11 : decode cX7_hour 11 = .ok (.invokestatic 62, 3) := by decide +kernel
theorem dX7_hour_14 : decode cX7_hour 14 = .ok (.ifCond .ne 5, 3) := by decide +kernel
theorem dX7_hour_17 : decode cX7_hour 17 = .ok (.iconst (-1), 1) := by decide +kernel
theorem dX7_hour_18 : decode cX7_hour 18 = .ok (.ireturn, 1) := by decide +kernel
theorem dX7_hour_19 : decode cX7_hour 19 = .ok (.aload_n 0, 1) := by decide +kernel
theorem dX7_hour_20 : decode cX7_hour 20 = .ok (.getfield 54, 3) := by decide +kernel
theorem dX7_hour_23 : decode cX7_hour 23 = .ok (.getfield 166, 3) := by decide +kernel
theorem dX7_hour_26 : decode cX7_hour 26 = .ok (.iload_n 1, 1) := by decide +kernel
theorem dX7_hour_27 : decode cX7_hour 27 = .ok (.iaload, 1) := by decide +kernel
theorem dX7_hour_28 : decode cX7_hour 28 = .ok (.ireturn, 1) := by decide +kernel
theorem dX7_draw_0 : decode cX7_draw 0 = .ok (.iload_n 1, 1) := by decide +kernel
theorem dX7_draw_1 : decode cX7_draw 1 = .ok (.iconst 1, 1) := by decide +kernel
theorem dX7_draw_2 : decode cX7_draw 2 = .ok (.bipush 12, 2) := by decide +kernel
theorem dX7_draw_4 : decode cX7_draw 4 = .ok (.invokestatic 62, 3) := by decide +kernel
theorem dX7_draw_7 : decode cX7_draw 7 = .ok (.ifCond .eq 14, 3) := by decide +kernel
theorem dX7_draw_10 : decode cX7_draw 10 = .ok (.iload_n 3, 1) := by decide +kernel
theorem dX7_draw_11 : decode cX7_draw 11 = .ok (.iconst 0, 1) := by decide +kernel
theorem dX7_draw_12 : decode cX7_draw 12 = .ok (.iload_n 1, 1) := by decide +kernel
theorem dX7_draw_13 : decode cX7_draw 13 = .ok (.iconst 1, 1) := by decide +kernel
theorem dX7_draw_14 : decode cX7_draw 14 = .ok (.isub, 1) := by decide +kernel
theorem dX7_draw_15 : decode cX7_draw 15 = .ok (.invokestatic 62, 3) := by decide +kernel
theorem dX7_draw_18 : decode cX7_draw 18 = .ok (.ifCond .ne 5, 3) := by decide +kernel
theorem dX7_draw_21 : decode cX7_draw 21 = .ok (.iconst (-1), 1) := by decide +kernel
theorem dX7_draw_22 : decode cX7_draw 22 = .ok (.ireturn, 1) := by decide +kernel
theorem dX7_draw_23 : decode cX7_draw 23 = .ok (.aload_n 0, 1) := by decide +kernel
theorem dX7_draw_24 : decode cX7_draw 24 = .ok (.iload_n 1, 1) := by decide +kernel
theorem dX7_draw_25 : decode cX7_draw 25 = .ok (.iload_n 2, 1) := by decide +kernel
theorem dX7_draw_26 : decode cX7_draw 26 = .ok (.invokevirtual 169, 3) := by decide +kernel
theorem dX7_draw_29 : decode cX7_draw 29 = .ok (.aload_n 0, 1) := by decide +kernel
theorem dX7_draw_30 : decode cX7_draw 30 = .ok (.getfield 58, 3) := by decide +kernel
theorem dX7_draw_33 : decode cX7_draw 33 = .ok (.iload_n 3, 1) := by decide +kernel
theorem dX7_draw_34 : decode cX7_draw 34 = .ok (.iaload, 1) := by decide +kernel
theorem dX7_draw_35 : decode cX7_draw 35 = .ok (.ireturn, 1) := by decide +kernel
theorem dX7_isWithin_0 : decode cX7_isWithin 0 = .ok (.iload_n 0, 1) := by decide +kernel
theorem dX7_isWithin_1 : decode cX7_isWithin 1 = .ok (.iload_n 1, 1) := by decide +kernel
theorem dX7_isWithin_2 : decode cX7_isWithin 2 = .ok (.if_icmp .lt 12, 3) := by decide +kernel
theorem dX7_isWithin_5 : decode cX7_isWithin 5 = .ok (.iload_n 0, 1) := by decide +kernel
theorem dX7_isWithin_6 : decode cX7_isWithin 6 = .ok (.iload_n 2, 1) := by decide +kernel
theorem dX7_isWithin_7 : decode cX7_isWithin 7 = .ok (.if_icmp .gt 7, 3) := by decide +kernel
theorem dX7_isWithin_10 : decode cX7_isWithin 10 = .ok (.iconst 1, 1) := by decide +kernel
theorem dX7_isWithin_11 : decode cX7_isWithin 11 = .ok (.goto 4, 3) := by decide +kernel
theorem dX7_isWithin_14 : decode cX7_isWithin 14 = .ok (.iconst 0, 1) := by decide +kernel
theorem dX7_isWithin_15 : decode cX7_isWithin 15 = .ok (.ireturn, 1) := by decide +kernel
theorem dX7_isDay_0 : decode cX7_isDay 0 = .ok (.iload_n 0, 1) := by decide +kernel
theorem dX7_isDay_1 : decode cX7_isDay 1 = .ok (.iconst 0, 1) := by decide +kernel
theorem dX7_isDay_2 : decode cX7_isDay 2 = .ok (.sipush 1000, 3) := by decide +kernel
theorem dX7_isDay_5 : decode cX7_isDay 5 = .ok (.invokestatic 62, 3) := by decide +kernel
theorem dX7_isDay_8 : decode cX7_isDay 8 = .ok (.ireturn, 1) := by decide +kernel
theorem dX7_hasLaying_0 : decode cX7_hasLaying 0 = .ok (.iload_n 1, 1) := by decide +kernel
theorem dX7_hasLaying_1 : decode cX7_hasLaying 1 = .ok (.iconst 0, 1) := by decide +kernel
theorem dX7_hasLaying_2 : decode cX7_hasLaying 2 = .ok (.bipush 9, 2) := by decide +kernel
theorem dX7_hasLaying_4 : decode cX7_hasLaying 4 = .ok (.invokestatic 62, 3) := by decide +kernel
theorem dX7_hasLaying_7 : decode cX7_hasLaying 7 = .ok (.ifCond .ne 5, 3) := by decide +kernel
theorem dX7_hasLaying_10 : decode cX7_hasLaying 10 = .ok (.iconst 0, 1) := by decide +kernel
theorem dX7_hasLaying_11 : decode cX7_hasLaying 11 = .ok (.ireturn, 1) := by decide +kernel
theorem dX7_hasLaying_12 : decode cX7_hasLaying 12 = .ok (.aload_n 0, 1) := by decide +kernel
theorem dX7_hasLaying_13 : decode cX7_hasLaying 13 = .ok (.getfield 18, 3) := by decide +kernel
theorem dX7_hasLaying_16 : decode cX7_hasLaying 16 = .ok (.iload_n 1, 1) := by decide +kernel
theorem dX7_hasLaying_17 : decode cX7_hasLaying 17 = .ok (.aaload, 1) := by decide +kernel
theorem dX7_hasLaying_18 : decode cX7_hasLaying 18 = .ok (.astore_n 2, 1) := by decide +kernel
theorem dX7_hasLaying_19 : decode cX7_hasLaying 19 = .ok (.aload_n 0, 1) := by decide +kernel
theorem dX7_hasLaying_20 : decode cX7_hasLaying 20 = .ok (.getfield 11, 3) := by decide +kernel
theorem dX7_hasLaying_23 : decode cX7_hasLaying 23 = .ok (.aload_n 2, 1) := by decide +kernel
theorem dX7_hasLaying_24 : decode cX7_hasLaying 24 = .ok (.getfield 173, 3) := by decide +kernel
theorem dX7_hasLaying_27 : decode cX7_hasLaying 27 = .ok (.aaload, 1) := by decide +kernel
theorem dX7_hasLaying_28 : decode cX7_hasLaying 28 = .ok (.astore_n 3, 1) := by decide +kernel
theorem dX7_hasLaying_29 : decode cX7_hasLaying 29 = .ok (.aload_n 3, 1) := by decide +kernel
theorem dX7_hasLaying_30 : decode cX7_hasLaying 30 = .ok (.getfield 66, 3) := by decide +kernel
theorem dX7_hasLaying_33 : decode cX7_hasLaying 33 = .ok (.ifCond .ne 5, 3) := by decide +kernel
theorem dX7_hasLaying_36 : decode cX7_hasLaying 36 = .ok (.iconst 0, 1) := by decide +kernel
theorem dX7_hasLaying_37 : decode cX7_hasLaying 37 = .ok (.ireturn, 1) := by decide +kernel
theorem dX7_hasLaying_38 : decode cX7_hasLaying 38 = .ok (.aload_n 0, 1) := by decide +kernel
theorem dX7_hasLaying_39 : decode cX7_hasLaying 39 = .ok (.getfield 33, 3) := by decide +kernel
theorem dX7_hasLaying_42 : decode cX7_hasLaying 42 = .ok (.getfield 176, 3) := by decide +kernel
theorem dX7_hasLaying_45 : decode cX7_hasLaying 45 = .ok (.iload_n 1, 1) := by decide +kernel
theorem dX7_hasLaying_46 : decode cX7_hasLaying 46 = .ok (.if_icmp .eq 24, 3) := by decide +kernel
theorem dX7_hasLaying_49 : decode cX7_hasLaying 49 = .ok (.aload_n 0, 1) := by decide +kernel
theorem dX7_hasLaying_50 : decode cX7_hasLaying 50 = .ok (.getfield 33, 3) := by decide +kernel
theorem dX7_hasLaying_53 : decode cX7_hasLaying 53 = .ok (.aload_n 3, 1) := by decide +kernel
theorem dX7_hasLaying_54 : decode cX7_hasLaying 54 = .ok (.aload_n 2, 1) := by decide +kernel
theorem dX7_hasLaying_55 : decode cX7_hasLaying 55 = .ok (.aload_n 0, 1) := by decide +kernel
theorem dX7_hasLaying_56 : decode cX7_hasLaying 56 = .ok (.getfield 26, 3) := by decide +kernel
theorem dX7_hasLaying_59 : decode cX7_hasLaying 59 = .ok (.invokevirtual 179, 3) := by decide +kernel
theorem dX7_hasLaying_62 : decode cX7_hasLaying 62 = .ok (.aload_n 0, 1) := by decide +kernel
theorem dX7_hasLaying_63 : decode cX7_hasLaying 63 = .ok (.getfield 33, 3) := by decide +kernel
theorem dX7_hasLaying_66 : decode cX7_hasLaying 66 = .ok (.iload_n 1, 1) := by decide +kernel
theorem dX7_hasLaying_67 : decode cX7_hasLaying 67 = .ok (.putfield 176, 3) := by decide +kernel
theorem dX7_hasLaying_70 : decode cX7_hasLaying 70 = .ok (.iconst 1, 1) := by decide +kernel
theorem dX7_hasLaying_71 : decode cX7_hasLaying 71 = .ok (.ireturn, 1) := by decide +kernel
theorem dX7_drawOrder_0 : decode cX7_drawOrder 0 = .ok (.iconst 0, 1) := by decide +kernel
theorem dX7_drawOrder_1 : decode cX7_drawOrder 1 = .ok (.istore_n 3, 1) := by decide +kernel
theorem dX7_drawOrder_2 : decode cX7_drawOrder 2 = .ok (.iload_n 3, 1) := by decide +kernel
theorem dX7_drawOrder_3 : decode cX7_drawOrder 3 = .ok (.iload_n 1, 1) := by decide +kernel
theorem dX7_drawOrder_4 : decode cX7_drawOrder 4 = .ok (.if_icmp .ge 16, 3) := by decide +kernel
theorem dX7_drawOrder_7 : decode cX7_drawOrder 7 = .ok (.aload_n 0, 1) := by decide +kernel
theorem dX7_drawOrder_8 : decode cX7_drawOrder 8 = .ok (.getfield 58, 3) := by decide +kernel
theorem dX7_drawOrder_11 : decode cX7_drawOrder 11 = .ok (.iload_n 3, 1) := by decide +kernel
theorem dX7_drawOrder_12 : decode cX7_drawOrder 12 = .ok (.iload_n 3, 1) := by decide +kernel
theorem dX7_drawOrder_13 : decode cX7_drawOrder 13 = .ok (.iastore, 1) := by decide +kernel
theorem dX7_drawOrder_14 : decode cX7_drawOrder 14 = .ok (.iinc 3 1, 3) := by decide +kernel
theorem dX7_drawOrder_17 : decode cX7_drawOrder 17 = .ok (.goto (-15), 3) := by decide +kernel
theorem dX7_drawOrder_20 : decode cX7_drawOrder 20 = .ok (.iload_n 2, 1) := by decide +kernel
theorem dX7_drawOrder_21 : decode cX7_drawOrder 21 = .ok (.istore_n 3, 1) := by decide +kernel
theorem dX7_drawOrder_22 : decode cX7_drawOrder 22 = .ok (.iload_n 1, 1) := by decide +kernel
theorem dX7_drawOrder_23 : decode cX7_drawOrder 23 = .ok (.iconst 1, 1) := by decide +kernel
theorem dX7_drawOrder_24 : decode cX7_drawOrder 24 = .ok (.isub, 1) := by decide +kernel
theorem dX7_drawOrder_25 : decode cX7_drawOrder 25 = .ok (.istore 4, 2) := by decide +kernel
theorem dX7_drawOrder_27 : decode cX7_drawOrder 27 = .ok (.iload 4, 2) := by decide +kernel
theorem dX7_drawOrder_29 : decode cX7_drawOrder 29 = .ok (.iconst 1, 1) := by decide +kernel
theorem dX7_drawOrder_30 : decode cX7_drawOrder 30 = .ok (.if_icmp .lt 61, 3) := by decide +kernel
theorem dX7_drawOrder_33 : decode cX7_drawOrder 33 = .ok (.ldc 183, 2) := by decide +kernel
theorem dX7_drawOrder_35 : decode cX7_drawOrder 35 = .ok (.iload_n 3, 1) := by decide +kernel
theorem dX7_drawOrder_36 : decode cX7_drawOrder 36 = .ok (.imul, 1) := by decide +kernel
theorem dX7_drawOrder_37 : decode cX7_drawOrder 37 = .ok (.sipush 12345, 3) := by decide +kernel
theorem dX7_drawOrder_40 : decode cX7_drawOrder 40 = .ok (.iadd, 1) := by decide +kernel
theorem dX7_drawOrder_41 : decode cX7_drawOrder 41 = .ok (.istore_n 3, 1) := by decide +kernel
theorem dX7_drawOrder_42 : decode cX7_drawOrder 42 = .ok (.iload_n 3, 1) := by decide +kernel
theorem dX7_drawOrder_43 : decode cX7_drawOrder 43 = .ok (.bipush 8, 2) := by decide +kernel
theorem dX7_drawOrder_45 : decode cX7_drawOrder 45 = .ok (.iushr, 1) := by decide +kernel
theorem dX7_drawOrder_46 : decode cX7_drawOrder 46 = .ok (.iload 4, 2) := by decide +kernel
theorem dX7_drawOrder_48 : decode cX7_drawOrder 48 = .ok (.iconst 1, 1) := by decide +kernel
theorem dX7_drawOrder_49 : decode cX7_drawOrder 49 = .ok (.iadd, 1) := by decide +kernel
theorem dX7_drawOrder_50 : decode cX7_drawOrder 50 = .ok (.irem, 1) := by decide +kernel
theorem dX7_drawOrder_51 : decode cX7_drawOrder 51 = .ok (.istore 5, 2) := by decide +kernel
theorem dX7_drawOrder_53 : decode cX7_drawOrder 53 = .ok (.aload_n 0, 1) := by decide +kernel
theorem dX7_drawOrder_54 : decode cX7_drawOrder 54 = .ok (.getfield 58, 3) := by decide +kernel
theorem dX7_drawOrder_57 : decode cX7_drawOrder 57 = .ok (.iload 4, 2) := by decide +kernel
theorem dX7_drawOrder_59 : decode cX7_drawOrder 59 = .ok (.iaload, 1) := by decide +kernel
theorem dX7_drawOrder_60 : decode cX7_drawOrder 60 = .ok (.istore 6, 2) := by decide +kernel
theorem dX7_drawOrder_62 : decode cX7_drawOrder 62 = .ok (.aload_n 0, 1) := by decide +kernel
theorem dX7_drawOrder_63 : decode cX7_drawOrder 63 = .ok (.getfield 58, 3) := by decide +kernel
theorem dX7_drawOrder_66 : decode cX7_drawOrder 66 = .ok (.iload 4, 2) := by decide +kernel
theorem dX7_drawOrder_68 : decode cX7_drawOrder 68 = .ok (.aload_n 0, 1) := by decide +kernel
theorem dX7_drawOrder_69 : decode cX7_drawOrder 69 = .ok (.getfield 58, 3) := by decide +kernel
theorem dX7_drawOrder_72 : decode cX7_drawOrder 72 = .ok (.iload 5, 2) := by decide +kernel
theorem dX7_drawOrder_74 : decode cX7_drawOrder 74 = .ok (.iaload, 1) := by decide +kernel
theorem dX7_drawOrder_75 : decode cX7_drawOrder 75 = .ok (.iastore, 1) := by decide +kernel
theorem dX7_drawOrder_76 : decode cX7_drawOrder 76 = .ok (.aload_n 0, 1) := by decide +kernel
theorem dX7_drawOrder_77 : decode cX7_drawOrder 77 = .ok (.getfield 58, 3) := by decide +kernel
theorem dX7_drawOrder_80 : decode cX7_drawOrder 80 = .ok (.iload 5, 2) := by decide +kernel
theorem dX7_drawOrder_82 : decode cX7_drawOrder 82 = .ok (.iload 6, 2) := by decide +kernel
theorem dX7_drawOrder_84 : decode cX7_drawOrder 84 = .ok (.iastore, 1) := by decide +kernel
theorem dX7_drawOrder_85 : decode cX7_drawOrder 85 = .ok (.iinc 4 (-1), 3) := by decide +kernel
theorem dX7_drawOrder_88 : decode cX7_drawOrder 88 = .ok (.goto (-61), 3) := by decide +kernel
theorem dX7_drawOrder_91 : decode cX7_drawOrder 91 = .ok (.return_, 1) := by decide +kernel
end
section
theorem dX8_init_0 : decode cX8_init 0 = .ok (.aload_n 0, 1) := by decide +kernel
theorem dX8_init_1 : decode cX8_init 1 = .ok (.invokespecial 1, 3) := by decide +kernel
theorem dX8_init_4 : decode cX8_init 4 = .ok (.aload_n 0, 1) := by decide +kernel
theorem dX8_init_5 : decode cX8_init 5 = .ok (.bipush 6, 2) := by decide +kernel
theorem dX8_init_7 : decode cX8_init 7 = .ok (.newarray .int, 2) := by decide +kernel
theorem dX8_init_9 : decode cX8_init 9 = .ok (.putfield 7, 3) := by decide +kernel
theorem dX8_init_12 : decode cX8_init 12 = .ok (.aload_n 0, 1) := by decide +kernel
theorem dX8_init_13 : decode cX8_init 13 = .ok (.sipush 144, 3) := by decide +kernel
theorem dX8_init_16 : decode cX8_init 16 = .ok (.newarray .int, 2) := by decide +kernel
theorem dX8_init_18 : decode cX8_init 18 = .ok (.putfield 13, 3) := by decide +kernel
theorem dX8_init_21 : decode cX8_init 21 = .ok (.aload_n 0, 1) := by decide +kernel
theorem dX8_init_22 : decode cX8_init 22 = .ok (.sipush 144, 3) := by decide +kernel
theorem dX8_init_25 : decode cX8_init 25 = .ok (.newarray .int, 2) := by decide +kernel
theorem dX8_init_27 : decode cX8_init 27 = .ok (.putfield 16, 3) := by decide +kernel
theorem dX8_init_30 : decode cX8_init 30 = .ok (.aload_n 0, 1) := by decide +kernel
theorem dX8_init_31 : decode cX8_init 31 = .ok (.bipush 10, 2) := by decide +kernel
theorem dX8_init_33 : decode cX8_init 33 = .ok (.newarray .int, 2) := by decide +kernel
theorem dX8_init_35 : decode cX8_init 35 = .ok (.putfield 19, 3) := by decide +kernel
theorem dX8_init_38 : decode cX8_init 38 = .ok (.aload_n 0, 1) := by decide +kernel
theorem dX8_init_39 : decode cX8_init 39 = .ok (.bipush 10, 2) := by decide +kernel
theorem dX8_init_41 : decode cX8_init 41 = .ok (.newarray .int, 2) := by decide +kernel
theorem dX8_init_43 : decode cX8_init 43 = .ok (.putfield 22, 3) := by decide +kernel
theorem dX8_init_46 : decode cX8_init 46 = .ok (.aload_n 0, 1) := by decide +kernel
theorem dX8_init_47 : decode cX8_init 47 = .ok (.sipush 1200, 3) := by decide +kernel
theorem dX8_init_50 : decode cX8_init 50 = .ok (.newarray .int, 2) := by decide +kernel
theorem dX8_init_52 : decode cX8_init 52 = .ok (.putfield 25, 3) := by decide +kernel
theorem dX8_init_55 : decode cX8_init 55 = .ok (.aload_n 0, 1) := by decide +kernel
theorem dX8_init_56 : decode cX8_init 56 = .ok (.iconst 2, 1) := by decide +kernel
theorem dX8_init_57 : decode cX8_init 57 = .ok (.putfield 28, 3) := by decide +kernel
theorem dX8_init_60 : decode cX8_init 60 = .ok (.aload_n 0, 1) := by decide +kernel
theorem dX8_init_61 : decode cX8_init 61 = .ok (.bipush 20, 2) := by decide +kernel
theorem dX8_init_63 : decode cX8_init 63 = .ok (.putfield 32, 3) := by decide +kernel
theorem dX8_init_66 : decode cX8_init 66 = .ok (.aload_n 0, 1) := by decide +kernel
theorem dX8_init_67 : decode cX8_init 67 = .ok (.bipush 30, 2) := by decide +kernel
theorem dX8_init_69 : decode cX8_init 69 = .ok (.putfield 35, 3) := by decide +kernel
theorem dX8_init_72 : decode cX8_init 72 = .ok (.aload_n 0, 1) := by decide +kernel
theorem dX8_init_73 : decode cX8_init 73 = .ok (.sipush 400, 3) := by decide +kernel
theorem dX8_init_76 : decode cX8_init 76 = .ok (.putfield 38, 3) := by decide +kernel
theorem dX8_init_79 : decode cX8_init 79 = .ok (.aload_n 0, 1) := by decide +kernel
theorem dX8_init_80 : decode cX8_init 80 = .ok (.bipush 40, 2) := by decide +kernel
theorem dX8_init_82 : decode cX8_init 82 = .ok (.putfield 41, 3) := by decide +kernel
theorem dX8_init_85 : decode cX8_init 85 = .ok (.aload_n 0, 1) := by decide +kernel
theorem dX8_init_86 : decode cX8_init 86 = .ok (.sipush 3025, 3) := by decide +kernel
theorem dX8_init_89 : decode cX8_init 89 = .ok (.newarray .int, 2) := by decide +kernel
theorem dX8_init_91 : decode cX8_init 91 = .ok (.putfield 44, 3) := by decide +kernel
theorem dX8_init_94 : decode cX8_init 94 = .ok (.aload_n 0, 1) := by decide +kernel
theorem dX8_init_95 : decode cX8_init 95 = .ok (.bipush 24, 2) := by decide +kernel
theorem dX8_init_97 : decode cX8_init 97 = .ok (.newarray .int, 2) := by decide +kernel
theorem dX8_init_99 : decode cX8_init 99 = .ok (.putfield 47, 3) := by decide +kernel
theorem dX8_init_102 : decode cX8_init 102 = .ok (.aload_n 0, 1) := by decide +kernel
theorem dX8_init_103 : decode cX8_init 103 = .ok (.bipush 24, 2) := by decide +kernel
theorem dX8_init_105 : decode cX8_init 105 = .ok (.newarray .int, 2) := by decide +kernel
theorem dX8_init_107 : decode cX8_init 107 = .ok (.putfield 50, 3) := by decide +kernel
theorem dX8_init_110 : decode cX8_init 110 = .ok (.aload_n 0, 1) := by decide +kernel
theorem dX8_init_111 : decode cX8_init 111 = .ok (.bipush 24, 2) := by decide +kernel
theorem dX8_init_113 : decode cX8_init 113 = .ok (.newarray .int, 2) := by decide +kernel
theorem dX8_init_115 : decode cX8_init 115 = .ok (.putfield 53, 3) := by decide +kernel
theorem dX8_init_118 : decode cX8_init 118 = .ok (.aload_n 0, 1) := by decide +kernel
theorem dX8_init_119 : decode cX8_init 119 = .ok (.bipush 24, 2) := by decide +kernel
theorem dX8_init_121 : decode cX8_init 121 = .ok (.newarray .boolean, 2) := by decide +kernel
theorem dX8_init_123 : decode cX8_init 123 = .ok (.putfield 56, 3) := by decide +kernel
theorem dX8_init_126 : decode cX8_init 126 = .ok (.aload_n 0, 1) := by decide +kernel
theorem dX8_init_127 : decode cX8_init 127 = .ok (.bipush 9, 2) := by decide +kernel
theorem dX8_init_129 : decode cX8_init 129 = .ok (.newarray .int, 2) := by decide +kernel
theorem dX8_init_131 : decode cX8_init 131 = .ok (.putfield 60, 3) := by decide +kernel
theorem dX8_init_134 : decode cX8_init 134 = .ok (.aload_n 0, 1) := by decide +kernel
theorem dX8_init_135 : decode cX8_init 135 = .ok (.bipush 9, 2) := by decide +kernel
theorem dX8_init_137 : decode cX8_init 137 = .ok (.newarray .int, 2) := by decide +kernel
theorem dX8_init_139 : decode cX8_init 139 = .ok (.putfield 63, 3) := by decide +kernel
theorem dX8_init_142 : decode cX8_init 142 = .ok (.aload_n 0, 1) := by decide +kernel
theorem dX8_init_143 : decode cX8_init 143 = .ok (.bipush 90, 2) := by decide +kernel
theorem dX8_init_145 : decode cX8_init 145 = .ok (.newarray .int, 2) := by decide +kernel
theorem dX8_init_147 : decode cX8_init 147 = .ok (.putfield 66, 3) := by decide +kernel
theorem dX8_init_150 : decode cX8_init 150 = .ok (.aload_n 0, 1) := by decide +kernel
theorem dX8_init_151 : decode cX8_init 151 = .ok (.bipush 10, 2) := by decide +kernel
theorem dX8_init_153 : decode cX8_init 153 = .ok (.newarray .int, 2) := by decide +kernel
theorem dX8_init_155 : decode cX8_init 155 = .ok (.putfield 69, 3) := by decide +kernel
theorem dX8_init_158 : decode cX8_init 158 = .ok (.aload_n 0, 1) := by decide +kernel
theorem dX8_init_159 : decode cX8_init 159 = .ok (.bipush 60, 2) := by decide +kernel
theorem dX8_init_161 : decode cX8_init 161 = .ok (.newarray .int, 2) := by decide +kernel
theorem dX8_init_163 : decode cX8_init 163 = .ok (.putfield 72, 3) := by decide +kernel
theorem dX8_init_166 : decode cX8_init 166 = .ok (.aload_n 0, 1) := by decide +kernel
theorem dX8_init_167 : decode cX8_init 167 = .ok (.bipush 60, 2) := by decide +kernel
theorem dX8_init_169 : decode cX8_init 169 = .ok (.newarray .int, 2) := by decide +kernel
theorem dX8_init_171 : decode cX8_init 171 = .ok (.putfield 75, 3) := by decide +kernel
theorem dX8_init_174 : decode cX8_init 174 = .ok (.aload_n 0, 1) := by decide +kernel
theorem dX8_init_175 : decode cX8_init 175 = .ok (.bipush 60, 2) := by decide +kernel
theorem dX8_init_177 : decode cX8_init 177 = .ok (.newarray .int, 2) := by decide +kernel
theorem dX8_init_179 : decode cX8_init 179 = .ok (.putfield 78, 3) := by decide +kernel
theorem dX8_init_182 : decode cX8_init 182 = .ok (.aload_n 0, 1) := by decide +kernel
theorem dX8_init_183 : decode cX8_init 183 = .ok (.bipush 60, 2) := by decide +kernel
theorem dX8_init_185 : decode cX8_init 185 = .ok (.newarray .int, 2) := by decide +kernel
theorem dX8_init_187 : decode cX8_init 187 = .ok (.putfield 81, 3) := by decide +kernel
theorem dX8_init_190 : decode cX8_init 190 = .ok (.aload_n 0, 1) := by decide +kernel
theorem dX8_init_191 : decode cX8_init 191 = .ok (.bipush 12, 2) := by decide +kernel
theorem dX8_init_193 : decode cX8_init 193 = .ok (.newarray .int, 2) := by decide +kernel
theorem dX8_init_195 : decode cX8_init 195 = .ok (.putfield 84, 3) := by decide +kernel
theorem dX8_init_198 : decode cX8_init 198 = .ok (.aload_n 0, 1) := by decide +kernel
theorem dX8_init_199 : decode cX8_init 199 = .ok (.iconst 2, 1) := by decide +kernel
theorem dX8_init_200 : decode cX8_init 200 = .ok (.putfield 87, 3) := by decide +kernel
theorem dX8_init_203 : decode cX8_init 203 = .ok (.aload_n 0, 1) := by decide +kernel
theorem dX8_init_204 : decode cX8_init 204 = .ok (.bipush 12, 2) := by decide +kernel
theorem dX8_init_206 : decode cX8_init 206 = .ok (.newarray .int, 2) := by decide +kernel
theorem dX8_init_208 : decode cX8_init 208 = .ok (.putfield 90, 3) := by decide +kernel
theorem dX8_init_211 : decode cX8_init 211 = .ok (.aload_n 0, 1) := by decide +kernel
theorem dX8_init_212 : decode cX8_init 212 = .ok (.bipush 12, 2) := by decide +kernel
theorem dX8_init_214 : decode cX8_init 214 = .ok (.newarray .int, 2) := by decide +kernel
theorem dX8_init_216 : decode cX8_init 216 = .ok (.putfield 93, 3) := by decide +kernel
theorem dX8_init_219 : decode cX8_init 219 = .ok (.aload_n 0, 1) := by decide +kernel
theorem dX8_init_220 : decode cX8_init 220 = .ok (.sipush 144, 3) := by decide +kernel
theorem dX8_init_223 : decode cX8_init 223 = .ok (.newarray .boolean, 2) := by decide +kernel
theorem dX8_init_225 : decode cX8_init 225 = .ok (.putfield 96, 3) := by decide +kernel
theorem dX8_init_228 : decode cX8_init 228 = .ok (.aload_n 0, 1) := by decide +kernel
theorem dX8_init_229 : decode cX8_init 229 = .ok (.bipush 12, 2) := by decide +kernel
theorem dX8_init_231 : decode cX8_init 231 = .ok (.newarray .int, 2) := by decide +kernel
theorem dX8_init_233 : decode cX8_init 233 = .ok (.putfield 99, 3) := by decide +kernel
theorem dX8_init_236 : decode cX8_init 236 = .ok (.return_, 1) := by decide +kernel
theorem dX8_isIn_0 : decode cX8_isIn 0 = .ok (.iload_n 0, 1) := by decide +kernel
theorem dX8_isIn_1 : decode cX8_isIn 1 = .ok (.iload_n 1, 1) := by decide +kernel
theorem dX8_isIn_2 : decode cX8_isIn 2 = .ok (.if_icmp .lt 12, 3) := by decide +kernel
theorem dX8_isIn_5 : decode cX8_isIn 5 = .ok (.iload_n 0, 1) := by decide +kernel
theorem dX8_isIn_6 : decode cX8_isIn 6 = .ok (.iload_n 2, 1) := by decide +kernel
theorem dX8_isIn_7 : decode cX8_isIn 7 = .ok (.if_icmp .gt 7, 3) := by decide +kernel
theorem dX8_isIn_10 : decode cX8_isIn 10 = .ok (.iconst 1, 1) := by decide +kernel
theorem dX8_isIn_11 : decode cX8_isIn 11 = .ok (.goto 4, 3) := by decide +kernel
theorem dX8_isIn_14 : decode cX8_isIn 14 = .ok (.iconst 0, 1) := by decide +kernel
theorem dX8_isIn_15 : decode cX8_isIn 15 = .ok (.ireturn, 1) := by decide +kernel
theorem dX8_isRecording_0 : decode cX8_isRecording 0 = .ok (.iload_n 0, 1) := by decide +kernel
theorem dX8_isRecording_1 : decode cX8_isRecording 1 = .ok (.iconst 0, 1) := by decide +kernel
theorem dX8_isRecording_2 : decode cX8_isRecording 2 = .ok (.bipush 9, 2) := by decide +kernel
theorem dX8_isRecording_4 : decode cX8_isRecording 4 = .ok (.invokestatic 102, 3) := by decide +kernel
theorem dX8_isRecording_7 : decode cX8_isRecording 7 = .ok (.ireturn, 1) := by decide +kernel
theorem dX8_far_0 : decode cX8_far 0 = .ok (.iload_n 0, 1) := by decide +kernel
theorem dX8_far_1 : decode cX8_far 1 = .ok (.iload_n 1, 1) := by decide +kernel
theorem dX8_far_2 : decode cX8_far 2 = .ok (.if_icmp .ge 9, 3) := by decide +kernel
theorem dX8_far_5 : decode cX8_far 5 = .ok (.iload_n 1, 1) := by decide +kernel
theorem dX8_far_6 : decode cX8_far 6 = .ok (.iload_n 0, 1) := by decide +kernel
theorem dX8_far_7 : decode cX8_far 7 = .ok (.isub, 1) := by decide +kernel
theorem dX8_far_8 : decode cX8_far 8 = .ok (.goto 6, 3) := by decide +kernel
theorem dX8_far_11 : decode cX8_far 11 = .ok (.iload_n 0, 1) := by decide +kernel
theorem dX8_far_12 : decode cX8_far 12 = .ok (.iload_n 1, 1) := by decide +kernel
theorem dX8_far_13 : decode cX8_far 13 = .ok (.isub, 1) := by decide +kernel
theorem dX8_far_14 : decode cX8_far 14 = .ok (.ireturn, 1) := by decide +kernel
theorem dX8_note_0 : decode cX8_note 0 = .ok (.iload_n 1, 1) := by decide +kernel
theorem dX8_note_1 : decode cX8_note 1 = .ok (.iconst 0, 1) := by decide +kernel
theorem dX8_note_2 : decode cX8_note 2 = .ok (.iconst 5, 1) := by decide +kernel
theorem dX8_note_3 : decode cX8_note 3 = .ok (.invokestatic 102, 3) := by decide +kernel
theorem dX8_note_6 : decode cX8_note 6 = .ok (.ifCond .eq 35, 3) := by decide +kernel
theorem dX8_note_9 : decode cX8_note 9 = .ok (.iload_n 2, 1) := by decide +kernel
theorem dX8_note_10 : decode cX8_note 10 = .ok (.iconst 0, 1) := by decide +kernel
theorem dX8_note_11 : decode cX8_note 11 = .ok (.sipush 4800, 3) := by decide +kernel
theorem dX8_note_14 : decode cX8_note 14 = .ok (.invokestatic 102, 3) := by decide +kernel
theorem dX8_note_17 : decode cX8_note 17 = .ok (.ifCond .eq 24, 3) := by decide +kernel
theorem dX8_note_20 : decode cX8_note 20 = .ok (.iload_n 3, 1) := by decide +kernel
theorem dX8_note_21 : decode cX8_note 21 = .ok (.iconst 1, 1) := by decide +kernel
theorem dX8_note_22 : decode cX8_note 22 = .ok (.bipush 8, 2) := by decide +kernel
theorem dX8_note_24 : decode cX8_note 24 = .ok (.invokestatic 102, 3) := by decide +kernel
theorem dX8_note_27 : decode cX8_note 27 = .ok (.ifCond .eq 14, 3) := by decide +kernel
theorem dX8_note_30 : decode cX8_note 30 = .ok (.aload_n 0, 1) := by decide +kernel
theorem dX8_note_31 : decode cX8_note 31 = .ok (.getfield 7, 3) := by decide +kernel
theorem dX8_note_34 : decode cX8_note 34 = .ok (.iload_n 1, 1) := by decide +kernel
theorem dX8_note_35 : decode cX8_note 35 = .ok (.iaload, 1) := by decide +kernel
theorem dX8_note_36 : decode cX8_note 36 = .ok (.bipush 24, 2) := by decide +kernel
theorem dX8_note_38 : decode cX8_note 38 = .ok (.if_icmp .ne 5, 3) := by decide +kernel
theorem dX8_note_41 : decode cX8_note 41 = .ok (.iconst (-1), 1) := by decide +kernel
theorem dX8_note_42 : decode cX8_note 42 = .ok (.ireturn, 1) := by decide +kernel
theorem dX8_note_43 : decode cX8_note 43 = .ok (.aload_n 0, 1) := by decide +kernel
theorem dX8_note_44 : decode cX8_note 44 = .ok (.getfield 13, 3) := by decide +kernel
theorem dX8_note_47 : decode cX8_note 47 = .ok (.bipush 24, 2) := by decide +kernel
theorem dX8_note_49 : decode cX8_note 49 = .ok (.iload_n 1, 1) := by decide +kernel
theorem dX8_note_50 : decode cX8_note 50 = .ok (.imul, 1) := by decide +kernel
theorem dX8_note_51 : decode cX8_note 51 = .ok (.aload_n 0, 1) := by decide +kernel
theorem dX8_note_52 : decode cX8_note 52 = .ok (.getfield 7, 3) := by decide +kernel
theorem dX8_note_55 : decode cX8_note 55 = .ok (.iload_n 1, 1) := by decide +kernel
theorem dX8_note_56 : decode cX8_note 56 = .ok (.iaload, 1) := by decide +kernel
theorem dX8_note_57 : decode cX8_note 57 = .ok (.iadd, 1) := by decide +kernel
theorem dX8_note_58 : decode cX8_note 58 = .ok (.iload_n 2, 1) := by decide +kernel
theorem dX8_note_59 : decode cX8_note 59 = .ok (.iastore, 1) := by decide +kernel
theorem dX8_note_60 : decode cX8_note 60 = .ok (.aload_n 0, 1) := by decide +kernel
theorem dX8_note_61 : decode cX8_note 61 = .ok (.getfield 16, 3) := by decide +kernel
theorem dX8_note_64 : decode cX8_note 64 = .ok (.bipush 24, 2) := by decide +kernel
theorem dX8_note_66 : decode cX8_note 66 = .ok (.iload_n 1, 1) := by decide +kernel
theorem dX8_note_67 : decode cX8_note 67 = .ok (.imul, 1) := by decide +kernel
theorem dX8_note_68 : decode cX8_note 68 = .ok (.aload_n 0, 1) := by decide +kernel
theorem dX8_note_69 : decode cX8_note 69 = .ok (.getfield 7, 3) := by decide +kernel
theorem dX8_note_72 : decode cX8_note 72 = .ok (.iload_n 1, 1) := by decide +kernel
theorem dX8_note_73 : decode cX8_note 73 = .ok (.iaload, 1) := by decide +kernel
theorem dX8_note_74 : decode cX8_note 74 = .ok (.iadd, 1) := by decide +kernel
theorem dX8_note_75 : decode cX8_note 75 = .ok (.iload_n 3, 1) := by decide +kernel
theorem dX8_note_76 : decode cX8_note 76 = .ok (.iastore, 1) := by decide +kernel
theorem dX8_note_77 : decode cX8_note 77 = .ok (.aload_n 0, 1) := by decide +kernel
theorem dX8_note_78 : decode cX8_note 78 = .ok (.getfield 7, 3) := by decide +kernel
theorem dX8_note_81 : decode cX8_note 81 = .ok (.iload_n 1, 1) := by decide +kernel
theorem dX8_note_82 : decode cX8_note 82 = .ok (.dup2, 1) := by decide +kernel
theorem dX8_note_83 : decode cX8_note 83 = .ok (.iaload, 1) := by decide +kernel
theorem dX8_note_84 : decode cX8_note 84 = .ok (.iconst 1, 1) := by decide +kernel
theorem dX8_note_85 : decode cX8_note 85 = .ok (.iadd, 1) := by decide +kernel
theorem dX8_note_86 : decode cX8_note 86 = .ok (.iastore, 1) := by decide +kernel
theorem dX8_note_87 : decode cX8_note 87 = .ok (.aload_n 0, 1) := by decide +kernel
theorem dX8_note_88 : decode cX8_note 88 = .ok (.getfield 7, 3) := by decide +kernel
theorem dX8_note_91 : decode cX8_note 91 = .ok (.iload_n 1, 1) := by decide +kernel
theorem dX8_note_92 : decode cX8_note 92 = .ok (.iaload, 1) := by decide +kernel
theorem dX8_note_93 : decode cX8_note 93 = .ok (.ireturn, 1) := by decide +kernel
theorem dX8_record_0 : decode cX8_record 0 = .ok (.iload_n 1, 1) := by decide +kernel
theorem dX8_record_1 : decode cX8_record 1 = .ok (.invokestatic 106, 3) := by decide +kernel
theorem dX8_record_4 : decode cX8_record 4 = .ok (.ifCond .eq 12, 3) := by decide +kernel
theorem dX8_record_7 : decode cX8_record 7 = .ok (.iload_n 2, 1) := by decide +kernel
theorem dX8_record_8 : decode cX8_record 8 = .ok (.iconst 0, 1) := by decide +kernel
theorem dX8_record_9 : decode cX8_record 9 = .ok (.iconst 5, 1) := by decide +kernel
theorem dX8_record_10 : decode cX8_record 10 = .ok (.invokestatic 102, 3) := by decide +kernel
theorem dX8_record_13 : decode cX8_record 13 = .ok (.ifCond .ne 5, 3) := by decide +kernel
theorem dX8_record_16 : decode cX8_record 16 = .ok (.iconst (-1), 1) := by decide +kernel
theorem dX8_record_17 : decode cX8_record 17 = .ok (.ireturn, 1) := by decide +kernel
theorem dX8_record_18 : decode cX8_record 18 = .ok (.aload_n 0, 1) := by decide +kernel
theorem dX8_record_19 : decode cX8_record 19 = .ok (.getfield 22, 3) := by decide +kernel
theorem dX8_record_22 : decode cX8_record 22 = .ok (.iload_n 1, 1) := by decide +kernel
theorem dX8_record_23 : decode cX8_record 23 = .ok (.iaload, 1) := by decide +kernel
theorem dX8_record_24 : decode cX8_record 24 = .ok (.istore_n 3, 1) := by decide +kernel
theorem dX8_record_25 : decode cX8_record 25 = .ok (.aload_n 0, 1) := by decide +kernel
theorem dX8_record_26 : decode cX8_record 26 = .ok (.getfield 19, 3) := by decide +kernel
theorem dX8_record_29 : decode cX8_record 29 = .ok (.iload_n 1, 1) := by decide +kernel
theorem dX8_record_30 : decode cX8_record 30 = .ok (.iload_n 2, 1) := by decide +kernel
theorem dX8_record_31 : decode cX8_record 31 = .ok (.iastore, 1) := by decide +kernel
theorem dX8_record_32 : decode cX8_record 32 = .ok (.aload_n 0, 1) := by decide +kernel
theorem dX8_record_33 : decode cX8_record 33 = .ok (.getfield 22, 3) := by decide +kernel
theorem dX8_record_36 : decode cX8_record 36 = .ok (.iload_n 1, 1) := by decide +kernel
theorem dX8_record_37 : decode cX8_record 37 = .ok (.iconst 0, 1) := by decide +kernel
theorem dX8_record_38 : decode cX8_record 38 = .ok (.iastore, 1) := by decide +kernel
theorem dX8_record_39 : decode cX8_record 39 = .ok (.iload_n 3, 1) := by decide +kernel
theorem dX8_record_40 : decode cX8_record 40 = .ok (.ireturn, 1) := by decide +kernel
theorem dX8_read_0 : decode cX8_read 0 = .ok (.iload_n 1, 1) := by decide +kernel
theorem dX8_read_1 : decode cX8_read 1 = .ok (.invokestatic 106, 3) := by decide +kernel
theorem dX8_read_4 : decode cX8_read 4 = .ok (.ifCond .eq 37, 3) := by decide +kernel
theorem dX8_read_7 : decode cX8_read 7 = .ok (.iload_n 2, 1) := by decide +kernel
theorem dX8_read_8 : decode cX8_read 8 = .ok (.iconst (-1), 1) := by decide +kernel
theorem dX8_read_9 : decode cX8_read 9 = .ok (.sipush 4800, 3) := by decide +kernel
theorem dX8_read_12 : decode cX8_read 12 = .ok (.invokestatic 102, 3) := by decide +kernel
theorem dX8_read_15 : decode cX8_read 15 = .ok (.ifCond .eq 26, 3) := by decide +kernel
theorem dX8_read_18 : decode cX8_read 18 = .ok (.iload_n 3, 1) := by decide +kernel
theorem dX8_read_19 : decode cX8_read 19 = .ok (.iconst 1, 1) := by decide +kernel
theorem dX8_read_20 : decode cX8_read 20 = .ok (.bipush 60, 2) := by decide +kernel
theorem dX8_read_22 : decode cX8_read 22 = .ok (.invokestatic 102, 3) := by decide +kernel
theorem dX8_read_25 : decode cX8_read 25 = .ok (.ifCond .eq 16, 3) := by decide +kernel
theorem dX8_read_28 : decode cX8_read 28 = .ok (.aload_n 0, 1) := by decide +kernel
theorem dX8_read_29 : decode cX8_read 29 = .ok (.getfield 22, 3) := by decide +kernel
theorem dX8_read_32 : decode cX8_read 32 = .ok (.iload_n 1, 1) := by decide +kernel
theorem dX8_read_33 : decode cX8_read 33 = .ok (.iaload, 1) := by decide +kernel
theorem dX8_read_34 : decode cX8_read 34 = .ok (.iload_n 3, 1) := by decide +kernel
theorem dX8_read_35 : decode cX8_read 35 = .ok (.iadd, 1) := by decide +kernel
theorem dX8_read_36 : decode cX8_read 36 = .ok (.bipush 120, 2) := by decide +kernel
theorem dX8_read_38 : decode cX8_read 38 = .ok (.if_icmp .le 5, 3) := by decide +kernel
theorem dX8_read_41 : decode cX8_read 41 = .ok (.iconst (-1), 1) := by decide +kernel
theorem dX8_read_42 : decode cX8_read 42 = .ok (.ireturn, 1) := by decide +kernel
theorem dX8_read_43 : decode cX8_read 43 = .ok (.iconst 0, 1) := by decide +kernel
theorem dX8_read_44 : decode cX8_read 44 = .ok (.istore 4, 2) := by decide +kernel
theorem dX8_read_46 : decode cX8_read 46 = .ok (.iload 4, 2) := by decide +kernel
theorem dX8_read_48 : decode cX8_read 48 = .ok (.iload_n 3, 1) := by decide +kernel
theorem dX8_read_49 : decode cX8_read 49 = .ok (.if_icmp .ge 36, 3) := by decide +kernel
theorem dX8_read_52 : decode cX8_read 52 = .ok (.aload_n 0, 1) := by decide +kernel
theorem dX8_read_53 : decode cX8_read 53 = .ok (.getfield 25, 3) := by decide +kernel
theorem dX8_read_56 : decode cX8_read 56 = .ok (.bipush 120, 2) := by decide +kernel
theorem dX8_read_58 : decode cX8_read 58 = .ok (.iload_n 1, 1) := by decide +kernel
theorem dX8_read_59 : decode cX8_read 59 = .ok (.imul, 1) := by decide +kernel
theorem dX8_read_60 : decode cX8_read 60 = .ok (.aload_n 0, 1) := by decide +kernel
theorem dX8_read_61 : decode cX8_read 61 = .ok (.getfield 22, 3) := by decide +kernel
theorem dX8_read_64 : decode cX8_read 64 = .ok (.iload_n 1, 1) := by decide +kernel
theorem dX8_read_65 : decode cX8_read 65 = .ok (.iaload, 1) := by decide +kernel
theorem dX8_read_66 : decode cX8_read 66 = .ok (.iadd, 1) := by decide +kernel
theorem dX8_read_67 : decode cX8_read 67 = .ok (.iload_n 2, 1) := by decide +kernel
theorem dX8_read_68 : decode cX8_read 68 = .ok (.iastore, 1) := by decide +kernel
theorem dX8_read_69 : decode cX8_read 69 = .ok (.aload_n 0, 1) := by decide +kernel
theorem dX8_read_70 : decode cX8_read 70 = .ok (.getfield 22, 3) := by decide +kernel
theorem dX8_read_73 : decode cX8_read 73 = .ok (.iload_n 1, 1) := by decide +kernel
theorem dX8_read_74 : decode cX8_read 74 = .ok (.dup2, 1) := by decide +kernel
theorem dX8_read_75 : decode cX8_read 75 = .ok (.iaload, 1) := by decide +kernel
theorem dX8_read_76 : decode cX8_read 76 = .ok (.iconst 1, 1) := by decide +kernel
theorem dX8_read_77 : decode cX8_read 77 = .ok (.iadd, 1) := by decide +kernel
theorem dX8_read_78 : decode cX8_read 78 = .ok (.iastore, 1) := by decide +kernel
theorem dX8_read_79 : decode cX8_read 79 = .ok (.iinc 4 1, 3) := by decide +kernel
theorem dX8_read_82 : decode cX8_read 82 = .ok (.goto (-36), 3) := by decide +kernel
theorem dX8_read_85 : decode cX8_read 85 = .ok (.aload_n 0, 1) := by decide +kernel
theorem dX8_read_86 : decode cX8_read 86 = .ok (.getfield 22, 3) := by decide +kernel
theorem dX8_read_89 : decode cX8_read 89 = .ok (.iload_n 1, 1) := by decide +kernel
theorem dX8_read_90 : decode cX8_read 90 = .ok (.iaload, 1) := by decide +kernel
theorem dX8_read_91 : decode cX8_read 91 = .ok (.ireturn, 1) := by decide +kernel
theorem dX8_rules_0 : decode cX8_rules 0 = .ok (.iload_n 1, 1) := by decide +kernel
theorem dX8_rules_1 : decode cX8_rules 1 = .ok (.iconst 1, 1) := by decide +kernel
theorem dX8_rules_2 : decode cX8_rules 2 = .ok (.bipush 8, 2) := by decide +kernel
theorem dX8_rules_4 : decode cX8_rules 4 = .ok (.invokestatic 102, 3) := by decide +kernel
theorem dX8_rules_7 : decode cX8_rules 7 = .ok (.ifCond .eq 49, 3) := by decide +kernel
theorem dX8_rules_10 : decode cX8_rules 10 = .ok (.iload_n 2, 1) := by decide +kernel
theorem dX8_rules_11 : decode cX8_rules 11 = .ok (.iconst 0, 1) := by decide +kernel
theorem dX8_rules_12 : decode cX8_rules 12 = .ok (.sipush 1000, 3) := by decide +kernel
theorem dX8_rules_15 : decode cX8_rules 15 = .ok (.invokestatic 102, 3) := by decide +kernel
theorem dX8_rules_18 : decode cX8_rules 18 = .ok (.ifCond .eq 38, 3) := by decide +kernel
theorem dX8_rules_21 : decode cX8_rules 21 = .ok (.iload_n 3, 1) := by decide +kernel
theorem dX8_rules_22 : decode cX8_rules 22 = .ok (.iconst 0, 1) := by decide +kernel
theorem dX8_rules_23 : decode cX8_rules 23 = .ok (.sipush 1000, 3) := by decide +kernel
theorem dX8_rules_26 : decode cX8_rules 26 = .ok (.invokestatic 102, 3) := by decide +kernel
theorem dX8_rules_29 : decode cX8_rules 29 = .ok (.ifCond .eq 27, 3) := by decide +kernel
theorem dX8_rules_32 : decode cX8_rules 32 = .ok (.iload 4, 2) := by decide +kernel
theorem dX8_rules_34 : decode cX8_rules 34 = .ok (.iconst 0, 1) := by decide +kernel
theorem dX8_rules_35 : decode cX8_rules 35 = .ok (.sipush 10000, 3) := by decide +kernel
theorem dX8_rules_38 : decode cX8_rules 38 = .ok (.invokestatic 102, 3) := by decide +kernel
theorem dX8_rules_41 : decode cX8_rules 41 = .ok (.ifCond .eq 15, 3) := by decide +kernel
theorem dX8_rules_44 : decode cX8_rules 44 = .ok (.iload 5, 2) := by decide +kernel
theorem dX8_rules_46 : decode cX8_rules 46 = .ok (.iconst 0, 1) := by decide +kernel
theorem dX8_rules_47 : decode cX8_rules 47 = .ok (.sipush 1000, 3) := by decide +kernel
theorem dX8_rules_50 : decode cX8_rules 50 = .ok (.invokestatic 102, 3) := by decide +kernel
theorem dX8_rules_53 : decode cX8_rules 53 = .ok (.ifCond .ne 5, 3) := by decide +kernel
theorem dX8_rules_56 : decode cX8_rules 56 = .ok (.iconst 0, 1) := by decide +kernel
theorem dX8_rules_57 : decode cX8_rules 57 = .ok (.ireturn, 1) := by decide +kernel
theorem dX8_rules_58 : decode cX8_rules 58 = .ok (.aload_n 0, 1) := by decide +kernel
theorem dX8_rules_59 : decode cX8_rules 59 = .ok (.iload_n 1, 1) := by decide +kernel
theorem dX8_rules_60 : decode cX8_rules 60 = .ok (.putfield 28, 3) := by decide +kernel
theorem dX8_rules_63 : decode cX8_rules 63 = .ok (.aload_n 0, 1) := by decide +kernel
theorem dX8_rules_64 : decode cX8_rules 64 = .ok (.iload_n 2, 1) := by decide +kernel
theorem dX8_rules_65 : decode cX8_rules 65 = .ok (.putfield 32, 3) := by decide +kernel
theorem dX8_rules_68 : decode cX8_rules 68 = .ok (.aload_n 0, 1) := by decide +kernel
theorem dX8_rules_69 : decode cX8_rules 69 = .ok (.iload_n 3, 1) := by decide +kernel
theorem dX8_rules_70 : decode cX8_rules 70 = .ok (.putfield 35, 3) := by decide +kernel
theorem dX8_rules_73 : decode cX8_rules 73 = .ok (.aload_n 0, 1) := by decide +kernel
theorem dX8_rules_74 : decode cX8_rules 74 = .ok (.iload 4, 2) := by decide +kernel
theorem dX8_rules_76 : decode cX8_rules 76 = .ok (.putfield 38, 3) := by decide +kernel
theorem dX8_rules_79 : decode cX8_rules 79 = .ok (.aload_n 0, 1) := by decide +kernel
theorem dX8_rules_80 : decode cX8_rules 80 = .ok (.iload 5, 2) := by decide +kernel
theorem dX8_rules_82 : decode cX8_rules 82 = .ok (.putfield 41, 3) := by decide +kernel
theorem dX8_rules_85 : decode cX8_rules 85 = .ok (.iconst 1, 1) := by decide +kernel
theorem dX8_rules_86 : decode cX8_rules 86 = .ok (.ireturn, 1) := by decide +kernel
theorem dX8_readCost_0 : decode cX8_readCost 0 = .ok (.aload_n 0, 1) := by decide +kernel
theorem dX8_readCost_1 : decode cX8_readCost 1 = .ok (.getfield 25, 3) := by decide +kernel
theorem dX8_readCost_4 : decode cX8_readCost 4 = .ok (.bipush 120, 2) := by decide +kernel
theorem dX8_readCost_6 : decode cX8_readCost 6 = .ok (.iload_n 1, 1) := by decide +kernel
theorem dX8_readCost_7 : decode cX8_readCost 7 = .ok (.imul, 1) := by decide +kernel
theorem dX8_readCost_8 : decode cX8_readCost 8 = .ok (.iload_n 2, 1) := by decide +kernel
theorem dX8_readCost_9 : decode cX8_readCost 9 = .ok (.iadd, 1) := by decide +kernel
theorem dX8_readCost_10 : decode cX8_readCost 10 = .ok (.iaload, 1) := by decide +kernel
theorem dX8_readCost_11 : decode cX8_readCost 11 = .ok (.istore 4, 2) := by decide +kernel
theorem dX8_readCost_13 : decode cX8_readCost 13 = .ok (.iload 4, 2) := by decide +kernel
theorem dX8_readCost_15 : decode cX8_readCost 15 = .ok (.iconst (-1), 1) := by decide +kernel
theorem dX8_readCost_16 : decode cX8_readCost 16 = .ok (.if_icmp .ne 8, 3) := by decide +kernel
theorem dX8_readCost_19 : decode cX8_readCost 19 = .ok (.aload_n 0, 1) := by decide +kernel
theorem dX8_readCost_20 : decode cX8_readCost 20 = .ok (.getfield 32, 3) := by decide +kernel
theorem dX8_readCost_23 : decode cX8_readCost 23 = .ok (.ireturn, 1) := by decide +kernel
theorem dX8_readCost_24 : decode cX8_readCost 24 = .ok (.iload 4, 2) := by decide +kernel
theorem dX8_readCost_26 : decode cX8_readCost 26 = .ok (.aload_n 0, 1) := by decide +kernel
theorem dX8_readCost_27 : decode cX8_readCost 27 = .ok (.getfield 13, 3) := by decide +kernel
theorem dX8_readCost_30 : decode cX8_readCost 30 = .ok (.iload_n 3, 1) := by decide +kernel
theorem dX8_readCost_31 : decode cX8_readCost 31 = .ok (.iaload, 1) := by decide +kernel
theorem dX8_readCost_32 : decode cX8_readCost 32 = .ok (.invokestatic 110, 3) := by decide +kernel
theorem dX8_readCost_35 : decode cX8_readCost 35 = .ok (.istore 5, 2) := by decide +kernel
theorem dX8_readCost_37 : decode cX8_readCost 37 = .ok (.iload 5, 2) := by decide +kernel
theorem dX8_readCost_39 : decode cX8_readCost 39 = .ok (.sipush 300, 3) := by decide +kernel
theorem dX8_readCost_42 : decode cX8_readCost 42 = .ok (.if_icmp .ge 8, 3) := by decide +kernel
theorem dX8_readCost_45 : decode cX8_readCost 45 = .ok (.iload 5, 2) := by decide +kernel
theorem dX8_readCost_47 : decode cX8_readCost 47 = .ok (.goto 6, 3) := by decide +kernel
theorem dX8_readCost_50 : decode cX8_readCost 50 = .ok (.sipush 300, 3) := by decide +kernel
theorem dX8_readCost_53 : decode cX8_readCost 53 = .ok (.ireturn, 1) := by decide +kernel
theorem dX8_shapeCost_0 : decode cX8_shapeCost 0 = .ok (.aload_n 0, 1) := by decide +kernel
theorem dX8_shapeCost_1 : decode cX8_shapeCost 1 = .ok (.getfield 35, 3) := by decide +kernel
theorem dX8_shapeCost_4 : decode cX8_shapeCost 4 = .ok (.iload_n 2, 1) := by decide +kernel
theorem dX8_shapeCost_5 : decode cX8_shapeCost 5 = .ok (.aload_n 0, 1) := by decide +kernel
theorem dX8_shapeCost_6 : decode cX8_shapeCost 6 = .ok (.getfield 16, 3) := by decide +kernel
theorem dX8_shapeCost_9 : decode cX8_shapeCost 9 = .ok (.iload_n 1, 1) := by decide +kernel
theorem dX8_shapeCost_10 : decode cX8_shapeCost 10 = .ok (.iaload, 1) := by decide +kernel
theorem dX8_shapeCost_11 : decode cX8_shapeCost 11 = .ok (.aload_n 0, 1) := by decide +kernel
theorem dX8_shapeCost_12 : decode cX8_shapeCost 12 = .ok (.getfield 28, 3) := by decide +kernel
theorem dX8_shapeCost_15 : decode cX8_shapeCost 15 = .ok (.imul, 1) := by decide +kernel
theorem dX8_shapeCost_16 : decode cX8_shapeCost 16 = .ok (.invokestatic 110, 3) := by decide +kernel
theorem dX8_shapeCost_19 : decode cX8_shapeCost 19 = .ok (.imul, 1) := by decide +kernel
theorem dX8_shapeCost_20 : decode cX8_shapeCost 20 = .ok (.iload_n 2, 1) := by decide +kernel
theorem dX8_shapeCost_21 : decode cX8_shapeCost 21 = .ok (.ifCond .ne 10, 3) := by decide +kernel
theorem dX8_shapeCost_24 : decode cX8_shapeCost 24 = .ok (.aload_n 0, 1) := by decide +kernel
theorem dX8_shapeCost_25 : decode cX8_shapeCost 25 = .ok (.getfield 38, 3) := by decide +kernel
theorem dX8_shapeCost_28 : decode cX8_shapeCost 28 = .ok (.goto 4, 3) := by decide +kernel
theorem dX8_shapeCost_31 : decode cX8_shapeCost 31 = .ok (.iconst 0, 1) := by decide +kernel
theorem dX8_shapeCost_32 : decode cX8_shapeCost 32 = .ok (.iadd, 1) := by decide +kernel
theorem dX8_shapeCost_33 : decode cX8_shapeCost 33 = .ok (.ireturn, 1) := by decide +kernel
theorem dX8_place_0 : decode cX8_place 0 = .ok (.bipush 121, 2) := by decide +kernel
theorem dX8_place_2 : decode cX8_place 2 = .ok (.iload_n 1, 1) := by decide +kernel
theorem dX8_place_3 : decode cX8_place 3 = .ok (.imul, 1) := by decide +kernel
theorem dX8_place_4 : decode cX8_place 4 = .ok (.iload_n 2, 1) := by decide +kernel
theorem dX8_place_5 : decode cX8_place 5 = .ok (.iadd, 1) := by decide +kernel
theorem dX8_place_6 : decode cX8_place 6 = .ok (.ireturn, 1) := by decide +kernel
theorem dX8_lays_0 : decode cX8_lays 0 = .ok (.aload_n 0, 1) := by decide +kernel
theorem dX8_lays_1 : decode cX8_lays 1 = .ok (.getfield 19, 3) := by decide +kernel
theorem dX8_lays_4 : decode cX8_lays 4 = .ok (.iload_n 1, 1) := by decide +kernel
theorem dX8_lays_5 : decode cX8_lays 5 = .ok (.iaload, 1) := by decide +kernel
theorem dX8_lays_6 : decode cX8_lays 6 = .ok (.istore_n 2, 1) := by decide +kernel
theorem dX8_lays_7 : decode cX8_lays 7 = .ok (.aload_n 0, 1) := by decide +kernel
theorem dX8_lays_8 : decode cX8_lays 8 = .ok (.getfield 7, 3) := by decide +kernel
theorem dX8_lays_11 : decode cX8_lays 11 = .ok (.iload_n 2, 1) := by decide +kernel
theorem dX8_lays_12 : decode cX8_lays 12 = .ok (.iaload, 1) := by decide +kernel
theorem dX8_lays_13 : decode cX8_lays 13 = .ok (.istore_n 3, 1) := by decide +kernel
theorem dX8_lays_14 : decode cX8_lays 14 = .ok (.aload_n 0, 1) := by decide +kernel
theorem dX8_lays_15 : decode cX8_lays 15 = .ok (.getfield 22, 3) := by decide +kernel
theorem dX8_lays_18 : decode cX8_lays 18 = .ok (.iload_n 1, 1) := by decide +kernel
theorem dX8_lays_19 : decode cX8_lays 19 = .ok (.iaload, 1) := by decide +kernel
theorem dX8_lays_20 : decode cX8_lays 20 = .ok (.istore 4, 2) := by decide +kernel
theorem dX8_lays_22 : decode cX8_lays 22 = .ok (.iload_n 3, 1) := by decide +kernel
theorem dX8_lays_23 : decode cX8_lays 23 = .ok (.ifCond .ne 5, 3) := by decide +kernel
theorem dX8_lays_26 : decode cX8_lays 26 = .ok (.iconst (-1), 1) := by decide +kernel
theorem dX8_lays_27 : decode cX8_lays 27 = .ok (.ireturn, 1) := by decide +kernel
theorem dX8_lays_28 : decode cX8_lays 28 = .ok (.iconst 0, 1) := by decide +kernel
theorem dX8_lays_29 : decode cX8_lays 29 = .ok (.istore 5, 2) := by decide +kernel
theorem dX8_lays_31 : decode cX8_lays 31 = .ok (.iload 5, 2) := by decide +kernel
theorem dX8_lays_33 : decode cX8_lays 33 = .ok (.iload 4, 2) := by decide +kernel
theorem dX8_lays_35 : decode cX8_lays 35 = .ok (.if_icmp .gt 34, 3) := by decide +kernel
theorem dX8_lays_38 : decode cX8_lays 38 = .ok (.aload_n 0, 1) := by decide +kernel
theorem dX8_lays_39 : decode cX8_lays 39 = .ok (.getfield 44, 3) := by decide +kernel
theorem dX8_lays_42 : decode cX8_lays 42 = .ok (.aload_n 0, 1) := by decide +kernel
theorem dX8_lays_43 : decode cX8_lays 43 = .ok (.iload_n 3, 1) := by decide +kernel
theorem dX8_lays_44 : decode cX8_lays 44 = .ok (.iload 5, 2) := by decide +kernel
theorem dX8_lays_46 : decode cX8_lays 46 = .ok (.invokevirtual 114, 3) := by decide +kernel
theorem dX8_lays_49 : decode cX8_lays 49 = .ok (.iload 5, 2) := by decide +kernel
theorem dX8_lays_51 : decode cX8_lays 51 = .ok (.iload 4, 2) := by decide +kernel
theorem dX8_lays_53 : decode cX8_lays 53 = .ok (.if_icmp .ne 7, 3) := by decide +kernel
theorem dX8_lays_56 : decode cX8_lays 56 = .ok (.iconst 0, 1) := by decide +kernel
theorem dX8_lays_57 : decode cX8_lays 57 = .ok (.goto 5, 3) := by decide +kernel
theorem dX8_lays_60 : decode cX8_lays 60 = .ok (.ldc 117, 2) := by decide +kernel
theorem dX8_lays_62 : decode cX8_lays 62 = .ok (.iastore, 1) := by decide +kernel
theorem dX8_lays_63 : decode cX8_lays 63 = .ok (.iinc 5 1, 3) := by decide +kernel
theorem dX8_lays_66 : decode cX8_lays 66 = .ok (.goto (-35), 3) := by decide +kernel
theorem dX8_lays_69 : decode cX8_lays 69 = .ok (.iload_n 3, 1) := by decide +kernel
theorem dX8_lays_70 : decode cX8_lays 70 = .ok (.iconst 1, 1) := by decide +kernel
theorem dX8_lays_71 : decode cX8_lays 71 = .ok (.isub, 1) := by decide +kernel
theorem dX8_lays_72 : decode cX8_lays 72 = .ok (.istore 5, 2) := by decide +kernel
theorem dX8_lays_74 : decode cX8_lays 74 = .ok (.iload 5, 2) := by decide +kernel
theorem dX8_lays_76 : decode cX8_lays 76 = .ok (.ifCond .lt 142, 3) := by decide +kernel
theorem dX8_lays_79 : decode cX8_lays 79 = .ok (.bipush 24, 2) := by decide +kernel
theorem dX8_lays_81 : decode cX8_lays 81 = .ok (.iload_n 2, 1) := by decide +kernel
theorem dX8_lays_82 : decode cX8_lays 82 = .ok (.imul, 1) := by decide +kernel
theorem dX8_lays_83 : decode cX8_lays 83 = .ok (.iload 5, 2) := by decide +kernel
theorem dX8_lays_85 : decode cX8_lays 85 = .ok (.iadd, 1) := by decide +kernel
theorem dX8_lays_86 : decode cX8_lays 86 = .ok (.istore 6, 2) := by decide +kernel
theorem dX8_lays_88 : decode cX8_lays 88 = .ok (.iconst 0, 1) := by decide +kernel
theorem dX8_lays_89 : decode cX8_lays 89 = .ok (.istore 7, 2) := by decide +kernel
theorem dX8_lays_91 : decode cX8_lays 91 = .ok (.iload 7, 2) := by decide +kernel
theorem dX8_lays_93 : decode cX8_lays 93 = .ok (.iload 4, 2) := by decide +kernel
theorem dX8_lays_95 : decode cX8_lays 95 = .ok (.if_icmp .gt 117, 3) := by decide +kernel
theorem dX8_lays_98 : decode cX8_lays 98 = .ok (.ldc 117, 2) := by decide +kernel
theorem dX8_lays_100 : decode cX8_lays 100 = .ok (.istore 8, 2) := by decide +kernel
theorem dX8_lays_102 : decode cX8_lays 102 = .ok (.iconst 0, 1) := by decide +kernel
theorem dX8_lays_103 : decode cX8_lays 103 = .ok (.istore 9, 2) := by decide +kernel
theorem dX8_lays_105 : decode cX8_lays 105 = .ok (.iconst 0, 1) := by decide +kernel
theorem dX8_lays_106 : decode cX8_lays 106 = .ok (.istore 10, 2) := by decide +kernel
theorem dX8_lays_108 : decode cX8_lays 108 = .ok (.iload 7, 2) := by decide +kernel
theorem dX8_lays_110 : decode cX8_lays 110 = .ok (.iload 10, 2) := by decide +kernel
theorem dX8_lays_112 : decode cX8_lays 112 = .ok (.iadd, 1) := by decide +kernel
theorem dX8_lays_113 : decode cX8_lays 113 = .ok (.iload 4, 2) := by decide +kernel
theorem dX8_lays_115 : decode cX8_lays 115 = .ok (.if_icmp .gt 76, 3) := by decide +kernel
theorem dX8_lays_118 : decode cX8_lays 118 = .ok (.iload 10, 2) := by decide +kernel
theorem dX8_lays_120 : decode cX8_lays 120 = .ok (.ifCond .le 22, 3) := by decide +kernel
theorem dX8_lays_123 : decode cX8_lays 123 = .ok (.iload 9, 2) := by decide +kernel
theorem dX8_lays_125 : decode cX8_lays 125 = .ok (.aload_n 0, 1) := by decide +kernel
theorem dX8_lays_126 : decode cX8_lays 126 = .ok (.iload_n 1, 1) := by decide +kernel
theorem dX8_lays_127 : decode cX8_lays 127 = .ok (.iload 7, 2) := by decide +kernel
theorem dX8_lays_129 : decode cX8_lays 129 = .ok (.iload 10, 2) := by decide +kernel
theorem dX8_lays_131 : decode cX8_lays 131 = .ok (.iadd, 1) := by decide +kernel
theorem dX8_lays_132 : decode cX8_lays 132 = .ok (.iconst 1, 1) := by decide +kernel
theorem dX8_lays_133 : decode cX8_lays 133 = .ok (.isub, 1) := by decide +kernel
theorem dX8_lays_134 : decode cX8_lays 134 = .ok (.iload 6, 2) := by decide +kernel
theorem dX8_lays_136 : decode cX8_lays 136 = .ok (.invokevirtual 118, 3) := by decide +kernel
theorem dX8_lays_139 : decode cX8_lays 139 = .ok (.iadd, 1) := by decide +kernel
theorem dX8_lays_140 : decode cX8_lays 140 = .ok (.istore 9, 2) := by decide +kernel
theorem dX8_lays_142 : decode cX8_lays 142 = .ok (.iload 9, 2) := by decide +kernel
theorem dX8_lays_144 : decode cX8_lays 144 = .ok (.aload_n 0, 1) := by decide +kernel
theorem dX8_lays_145 : decode cX8_lays 145 = .ok (.iload 6, 2) := by decide +kernel
theorem dX8_lays_147 : decode cX8_lays 147 = .ok (.iload 10, 2) := by decide +kernel
theorem dX8_lays_149 : decode cX8_lays 149 = .ok (.invokevirtual 122, 3) := by decide +kernel
theorem dX8_lays_152 : decode cX8_lays 152 = .ok (.iadd, 1) := by decide +kernel
theorem dX8_lays_153 : decode cX8_lays 153 = .ok (.aload_n 0, 1) := by decide +kernel
theorem dX8_lays_154 : decode cX8_lays 154 = .ok (.getfield 44, 3) := by decide +kernel
theorem dX8_lays_157 : decode cX8_lays 157 = .ok (.aload_n 0, 1) := by decide +kernel
theorem dX8_lays_158 : decode cX8_lays 158 = .ok (.iload 5, 2) := by decide +kernel
theorem dX8_lays_160 : decode cX8_lays 160 = .ok (.iconst 1, 1) := by decide +kernel
theorem dX8_lays_161 : decode cX8_lays 161 = .ok (.iadd, 1) := by decide +kernel
theorem dX8_lays_162 : decode cX8_lays 162 = .ok (.iload 7, 2) := by decide +kernel
theorem dX8_lays_164 : decode cX8_lays 164 = .ok (.iload 10, 2) := by decide +kernel
theorem dX8_lays_166 : decode cX8_lays 166 = .ok (.iadd, 1) := by decide +kernel
theorem dX8_lays_167 : decode cX8_lays 167 = .ok (.invokevirtual 114, 3) := by decide +kernel
theorem dX8_lays_170 : decode cX8_lays 170 = .ok (.iaload, 1) := by decide +kernel
theorem dX8_lays_171 : decode cX8_lays 171 = .ok (.iadd, 1) := by decide +kernel
theorem dX8_lays_172 : decode cX8_lays 172 = .ok (.istore 11, 2) := by decide +kernel
theorem dX8_lays_174 : decode cX8_lays 174 = .ok (.iload 11, 2) := by decide +kernel
theorem dX8_lays_176 : decode cX8_lays 176 = .ok (.iload 8, 2) := by decide +kernel
theorem dX8_lays_178 : decode cX8_lays 178 = .ok (.if_icmp .ge 7, 3) := by decide +kernel
theorem dX8_lays_181 : decode cX8_lays 181 = .ok (.iload 11, 2) := by decide +kernel
theorem dX8_lays_183 : decode cX8_lays 183 = .ok (.istore 8, 2) := by decide +kernel
theorem dX8_lays_185 : decode cX8_lays 185 = .ok (.iinc 10 1, 3) := by decide +kernel
theorem dX8_lays_188 : decode cX8_lays 188 = .ok (.goto (-80), 3) := by decide +kernel
theorem dX8_lays_191 : decode cX8_lays 191 = .ok (.aload_n 0, 1) := by decide +kernel
theorem dX8_lays_192 : decode cX8_lays 192 = .ok (.getfield 44, 3) := by decide +kernel
theorem dX8_lays_195 : decode cX8_lays 195 = .ok (.aload_n 0, 1) := by decide +kernel
theorem dX8_lays_196 : decode cX8_lays 196 = .ok (.iload 5, 2) := by decide +kernel
theorem dX8_lays_198 : decode cX8_lays 198 = .ok (.iload 7, 2) := by decide +kernel
theorem dX8_lays_200 : decode cX8_lays 200 = .ok (.invokevirtual 114, 3) := by decide +kernel
theorem dX8_lays_203 : decode cX8_lays 203 = .ok (.iload 8, 2) := by decide +kernel
theorem dX8_lays_205 : decode cX8_lays 205 = .ok (.iastore, 1) := by decide +kernel
theorem dX8_lays_206 : decode cX8_lays 206 = .ok (.iinc 7 1, 3) := by decide +kernel
theorem dX8_lays_209 : decode cX8_lays 209 = .ok (.goto (-118), 3) := by decide +kernel
theorem dX8_lays_212 : decode cX8_lays 212 = .ok (.iinc 5 (-1), 3) := by decide +kernel
theorem dX8_lays_215 : decode cX8_lays 215 = .ok (.goto (-141), 3) := by decide +kernel
theorem dX8_lays_218 : decode cX8_lays 218 = .ok (.aload_n 0, 1) := by decide +kernel
theorem dX8_lays_219 : decode cX8_lays 219 = .ok (.iload_n 1, 1) := by decide +kernel
theorem dX8_lays_220 : decode cX8_lays 220 = .ok (.iload_n 2, 1) := by decide +kernel
theorem dX8_lays_221 : decode cX8_lays 221 = .ok (.iload_n 3, 1) := by decide +kernel
theorem dX8_lays_222 : decode cX8_lays 222 = .ok (.iload 4, 2) := by decide +kernel
theorem dX8_lays_224 : decode cX8_lays 224 = .ok (.invokevirtual 125, 3) := by decide +kernel
theorem dX8_lays_227 : decode cX8_lays 227 = .ok (.aload_n 0, 1) := by decide +kernel
theorem dX8_lays_228 : decode cX8_lays 228 = .ok (.getfield 44, 3) := by decide +kernel
theorem dX8_lays_231 : decode cX8_lays 231 = .ok (.iconst 0, 1) := by decide +kernel
theorem dX8_lays_232 : decode cX8_lays 232 = .ok (.iaload, 1) := by decide +kernel
theorem dX8_lays_233 : decode cX8_lays 233 = .ok (.ireturn, 1) := by decide +kernel
theorem dX8_takes_0 : decode cX8_takes 0 = .ok (.iconst 0, 1) := by decide +kernel
theorem dX8_takes_1 : decode cX8_takes 1 = .ok (.istore 5, 2) := by decide +kernel
theorem dX8_takes_3 : decode cX8_takes 3 = .ok (.iconst 0, 1) := by decide +kernel
theorem dX8_takes_4 : decode cX8_takes 4 = .ok (.istore 6, 2) := by decide +kernel
theorem dX8_takes_6 : decode cX8_takes 6 = .ok (.iload 6, 2) := by decide +kernel
theorem dX8_takes_8 : decode cX8_takes 8 = .ok (.iload_n 3, 1) := by decide +kernel
theorem dX8_takes_9 : decode cX8_takes 9 = .ok (.if_icmp .ge 248, 3) := by decide +kernel
theorem dX8_takes_12 : decode cX8_takes 12 = .ok (.bipush 24, 2) := by decide +kernel
theorem dX8_takes_14 : decode cX8_takes 14 = .ok (.iload_n 2, 1) := by decide +kernel
theorem dX8_takes_15 : decode cX8_takes 15 = .ok (.imul, 1) := by decide +kernel
theorem dX8_takes_16 : decode cX8_takes 16 = .ok (.iload 6, 2) := by decide +kernel
theorem dX8_takes_18 : decode cX8_takes 18 = .ok (.iadd, 1) := by decide +kernel
theorem dX8_takes_19 : decode cX8_takes 19 = .ok (.istore 7, 2) := by decide +kernel
theorem dX8_takes_21 : decode cX8_takes 21 = .ok (.iconst 0, 1) := by decide +kernel
theorem dX8_takes_22 : decode cX8_takes 22 = .ok (.istore 8, 2) := by decide +kernel
theorem dX8_takes_24 : decode cX8_takes 24 = .ok (.iconst 0, 1) := by decide +kernel
theorem dX8_takes_25 : decode cX8_takes 25 = .ok (.istore 9, 2) := by decide +kernel
theorem dX8_takes_27 : decode cX8_takes 27 = .ok (.iload 8, 2) := by decide +kernel
theorem dX8_takes_29 : decode cX8_takes 29 = .ok (.aload_n 0, 1) := by decide +kernel
theorem dX8_takes_30 : decode cX8_takes 30 = .ok (.iload 7, 2) := by decide +kernel
theorem dX8_takes_32 : decode cX8_takes 32 = .ok (.iload 9, 2) := by decide +kernel
theorem dX8_takes_34 : decode cX8_takes 34 = .ok (.invokevirtual 122, 3) := by decide +kernel
theorem dX8_takes_37 : decode cX8_takes 37 = .ok (.iadd, 1) := by decide +kernel
theorem dX8_takes_38 : decode cX8_takes 38 = .ok (.aload_n 0, 1) := by decide +kernel
theorem dX8_takes_39 : decode cX8_takes 39 = .ok (.getfield 44, 3) := by decide +kernel
theorem dX8_takes_42 : decode cX8_takes 42 = .ok (.aload_n 0, 1) := by decide +kernel
theorem dX8_takes_43 : decode cX8_takes 43 = .ok (.iload 6, 2) := by decide +kernel
theorem dX8_takes_45 : decode cX8_takes 45 = .ok (.iconst 1, 1) := by decide +kernel
theorem dX8_takes_46 : decode cX8_takes 46 = .ok (.iadd, 1) := by decide +kernel
theorem dX8_takes_47 : decode cX8_takes 47 = .ok (.iload 5, 2) := by decide +kernel
theorem dX8_takes_49 : decode cX8_takes 49 = .ok (.iload 9, 2) := by decide +kernel
theorem dX8_takes_51 : decode cX8_takes 51 = .ok (.iadd, 1) := by decide +kernel
theorem dX8_takes_52 : decode cX8_takes 52 = .ok (.invokevirtual 114, 3) := by decide +kernel
theorem dX8_takes_55 : decode cX8_takes 55 = .ok (.iaload, 1) := by decide +kernel
theorem dX8_takes_56 : decode cX8_takes 56 = .ok (.iadd, 1) := by decide +kernel
theorem dX8_takes_57 : decode cX8_takes 57 = .ok (.aload_n 0, 1) := by decide +kernel
theorem dX8_takes_58 : decode cX8_takes 58 = .ok (.getfield 44, 3) := by decide +kernel
theorem dX8_takes_61 : decode cX8_takes 61 = .ok (.aload_n 0, 1) := by decide +kernel
theorem dX8_takes_62 : decode cX8_takes 62 = .ok (.iload 6, 2) := by decide +kernel
theorem dX8_takes_64 : decode cX8_takes 64 = .ok (.iload 5, 2) := by decide +kernel
theorem dX8_takes_66 : decode cX8_takes 66 = .ok (.invokevirtual 114, 3) := by decide +kernel
theorem dX8_takes_69 : decode cX8_takes 69 = .ok (.iaload, 1) := by decide +kernel
theorem dX8_takes_70 : decode cX8_takes 70 = .ok (.if_icmp .eq 26, 3) := by decide +kernel
theorem dX8_takes_73 : decode cX8_takes 73 = .ok (.iload 8, 2) := by decide +kernel
theorem dX8_takes_75 : decode cX8_takes 75 = .ok (.aload_n 0, 1) := by decide +kernel
theorem dX8_takes_76 : decode cX8_takes 76 = .ok (.iload_n 1, 1) := by decide +kernel
theorem dX8_takes_77 : decode cX8_takes 77 = .ok (.iload 5, 2) := by decide +kernel
theorem dX8_takes_79 : decode cX8_takes 79 = .ok (.iload 9, 2) := by decide +kernel
theorem dX8_takes_81 : decode cX8_takes 81 = .ok (.iadd, 1) := by decide +kernel
theorem dX8_takes_82 : decode cX8_takes 82 = .ok (.iload 7, 2) := by decide +kernel
theorem dX8_takes_84 : decode cX8_takes 84 = .ok (.invokevirtual 118, 3) := by decide +kernel
theorem dX8_takes_87 : decode cX8_takes 87 = .ok (.iadd, 1) := by decide +kernel
theorem dX8_takes_88 : decode cX8_takes 88 = .ok (.istore 8, 2) := by decide +kernel
theorem dX8_takes_90 : decode cX8_takes 90 = .ok (.iinc 9 1, 3) := by decide +kernel
theorem dX8_takes_93 : decode cX8_takes 93 = .ok (.goto (-66), 3) := by decide +kernel
theorem dX8_takes_96 : decode cX8_takes 96 = .ok (.aload_n 0, 1) := by decide +kernel
theorem dX8_takes_97 : decode cX8_takes 97 = .ok (.getfield 50, 3) := by decide +kernel
theorem dX8_takes_100 : decode cX8_takes 100 = .ok (.iload 6, 2) := by decide +kernel
theorem dX8_takes_102 : decode cX8_takes 102 = .ok (.iload 5, 2) := by decide +kernel
theorem dX8_takes_104 : decode cX8_takes 104 = .ok (.iastore, 1) := by decide +kernel
theorem dX8_takes_105 : decode cX8_takes 105 = .ok (.aload_n 0, 1) := by decide +kernel
theorem dX8_takes_106 : decode cX8_takes 106 = .ok (.getfield 47, 3) := by decide +kernel
theorem dX8_takes_109 : decode cX8_takes 109 = .ok (.iload 6, 2) := by decide +kernel
theorem dX8_takes_111 : decode cX8_takes 111 = .ok (.iload 9, 2) := by decide +kernel
theorem dX8_takes_113 : decode cX8_takes 113 = .ok (.iastore, 1) := by decide +kernel
theorem dX8_takes_114 : decode cX8_takes 114 = .ok (.iconst 0, 1) := by decide +kernel
theorem dX8_takes_115 : decode cX8_takes 115 = .ok (.istore 10, 2) := by decide +kernel
theorem dX8_takes_117 : decode cX8_takes 117 = .ok (.iconst 0, 1) := by decide +kernel
theorem dX8_takes_118 : decode cX8_takes 118 = .ok (.istore 11, 2) := by decide +kernel
theorem dX8_takes_120 : decode cX8_takes 120 = .ok (.iload 5, 2) := by decide +kernel
theorem dX8_takes_122 : decode cX8_takes 122 = .ok (.istore 12, 2) := by decide +kernel
theorem dX8_takes_124 : decode cX8_takes 124 = .ok (.iload 12, 2) := by decide +kernel
theorem dX8_takes_126 : decode cX8_takes 126 = .ok (.iload 5, 2) := by decide +kernel
theorem dX8_takes_128 : decode cX8_takes 128 = .ok (.iload 9, 2) := by decide +kernel
theorem dX8_takes_130 : decode cX8_takes 130 = .ok (.iadd, 1) := by decide +kernel
theorem dX8_takes_131 : decode cX8_takes 131 = .ok (.if_icmp .ge 56, 3) := by decide +kernel
theorem dX8_takes_134 : decode cX8_takes 134 = .ok (.aload_n 0, 1) := by decide +kernel
theorem dX8_takes_135 : decode cX8_takes 135 = .ok (.getfield 25, 3) := by decide +kernel
theorem dX8_takes_138 : decode cX8_takes 138 = .ok (.bipush 120, 2) := by decide +kernel
theorem dX8_takes_140 : decode cX8_takes 140 = .ok (.iload_n 1, 1) := by decide +kernel
theorem dX8_takes_141 : decode cX8_takes 141 = .ok (.imul, 1) := by decide +kernel
theorem dX8_takes_142 : decode cX8_takes 142 = .ok (.iload 12, 2) := by decide +kernel
theorem dX8_takes_144 : decode cX8_takes 144 = .ok (.iadd, 1) := by decide +kernel
theorem dX8_takes_145 : decode cX8_takes 145 = .ok (.iaload, 1) := by decide +kernel
theorem dX8_takes_146 : decode cX8_takes 146 = .ok (.iconst (-1), 1) := by decide +kernel
theorem dX8_takes_147 : decode cX8_takes 147 = .ok (.if_icmp .ne 6, 3) := by decide +kernel
theorem dX8_takes_150 : decode cX8_takes 150 = .ok (.goto 31, 3) := by decide +kernel
theorem dX8_takes_153 : decode cX8_takes 153 = .ok (.iinc 10 1, 3) := by decide +kernel
theorem dX8_takes_156 : decode cX8_takes 156 = .ok (.iload 11, 2) := by decide +kernel
theorem dX8_takes_158 : decode cX8_takes 158 = .ok (.aload_n 0, 1) := by decide +kernel
theorem dX8_takes_159 : decode cX8_takes 159 = .ok (.getfield 25, 3) := by decide +kernel
theorem dX8_takes_162 : decode cX8_takes 162 = .ok (.bipush 120, 2) := by decide +kernel
theorem dX8_takes_164 : decode cX8_takes 164 = .ok (.iload_n 1, 1) := by decide +kernel
theorem dX8_takes_165 : decode cX8_takes 165 = .ok (.imul, 1) := by decide +kernel
theorem dX8_takes_166 : decode cX8_takes 166 = .ok (.iload 12, 2) := by decide +kernel
theorem dX8_takes_168 : decode cX8_takes 168 = .ok (.iadd, 1) := by decide +kernel
theorem dX8_takes_169 : decode cX8_takes 169 = .ok (.iaload, 1) := by decide +kernel
theorem dX8_takes_170 : decode cX8_takes 170 = .ok (.aload_n 0, 1) := by decide +kernel
theorem dX8_takes_171 : decode cX8_takes 171 = .ok (.getfield 13, 3) := by decide +kernel
theorem dX8_takes_174 : decode cX8_takes 174 = .ok (.iload 7, 2) := by decide +kernel
theorem dX8_takes_176 : decode cX8_takes 176 = .ok (.iaload, 1) := by decide +kernel
theorem dX8_takes_177 : decode cX8_takes 177 = .ok (.isub, 1) := by decide +kernel
theorem dX8_takes_178 : decode cX8_takes 178 = .ok (.iadd, 1) := by decide +kernel
theorem dX8_takes_179 : decode cX8_takes 179 = .ok (.istore 11, 2) := by decide +kernel
theorem dX8_takes_181 : decode cX8_takes 181 = .ok (.iinc 12 1, 3) := by decide +kernel
theorem dX8_takes_184 : decode cX8_takes 184 = .ok (.goto (-60), 3) := by decide +kernel
theorem dX8_takes_187 : decode cX8_takes 187 = .ok (.aload_n 0, 1) := by decide +kernel
theorem dX8_takes_188 : decode cX8_takes 188 = .ok (.getfield 56, 3) := by decide +kernel
theorem dX8_takes_191 : decode cX8_takes 191 = .ok (.iload 6, 2) := by decide +kernel
theorem dX8_takes_193 : decode cX8_takes 193 = .ok (.iload 10, 2) := by decide +kernel
theorem dX8_takes_195 : decode cX8_takes 195 = .ok (.ifCond .le 7, 3) := by decide +kernel
theorem dX8_takes_198 : decode cX8_takes 198 = .ok (.iconst 1, 1) := by decide +kernel
theorem dX8_takes_199 : decode cX8_takes 199 = .ok (.goto 4, 3) := by decide +kernel
theorem dX8_takes_202 : decode cX8_takes 202 = .ok (.iconst 0, 1) := by decide +kernel
theorem dX8_takes_203 : decode cX8_takes 203 = .ok (.bastore, 1) := by decide +kernel
theorem dX8_takes_204 : decode cX8_takes 204 = .ok (.aload_n 0, 1) := by decide +kernel
theorem dX8_takes_205 : decode cX8_takes 205 = .ok (.getfield 53, 3) := by decide +kernel
theorem dX8_takes_208 : decode cX8_takes 208 = .ok (.iload 6, 2) := by decide +kernel
theorem dX8_takes_210 : decode cX8_takes 210 = .ok (.iload 10, 2) := by decide +kernel
theorem dX8_takes_212 : decode cX8_takes 212 = .ok (.ifCond .ne 7, 3) := by decide +kernel
theorem dX8_takes_215 : decode cX8_takes 215 = .ok (.iconst 0, 1) := by decide +kernel
theorem dX8_takes_216 : decode cX8_takes 216 = .ok (.goto 27, 3) := by decide +kernel
theorem dX8_takes_219 : decode cX8_takes 219 = .ok (.iload 11, 2) := by decide +kernel
theorem dX8_takes_221 : decode cX8_takes 221 = .ok (.ifCond .lt 11, 3) := by decide +kernel
theorem dX8_takes_224 : decode cX8_takes 224 = .ok (.iload 11, 2) := by decide +kernel
theorem dX8_takes_226 : decode cX8_takes 226 = .ok (.iload 10, 2) := by decide +kernel
theorem dX8_takes_228 : decode cX8_takes 228 = .ok (.idiv, 1) := by decide +kernel
theorem dX8_takes_229 : decode cX8_takes 229 = .ok (.goto 14, 3) := by decide +kernel
theorem dX8_takes_232 : decode cX8_takes 232 = .ok (.iload 10, 2) := by decide +kernel
theorem dX8_takes_234 : decode cX8_takes 234 = .ok (.iconst 1, 1) := by decide +kernel
theorem dX8_takes_235 : decode cX8_takes 235 = .ok (.isub, 1) := by decide +kernel
theorem dX8_takes_236 : decode cX8_takes 236 = .ok (.iload 11, 2) := by decide +kernel
theorem dX8_takes_238 : decode cX8_takes 238 = .ok (.isub, 1) := by decide +kernel
theorem dX8_takes_239 : decode cX8_takes 239 = .ok (.iload 10, 2) := by decide +kernel
theorem dX8_takes_241 : decode cX8_takes 241 = .ok (.idiv, 1) := by decide +kernel
theorem dX8_takes_242 : decode cX8_takes 242 = .ok (.ineg, 1) := by decide +kernel
theorem dX8_takes_243 : decode cX8_takes 243 = .ok (.iastore, 1) := by decide +kernel
theorem dX8_takes_244 : decode cX8_takes 244 = .ok (.iload 5, 2) := by decide +kernel
theorem dX8_takes_246 : decode cX8_takes 246 = .ok (.iload 9, 2) := by decide +kernel
theorem dX8_takes_248 : decode cX8_takes 248 = .ok (.iadd, 1) := by decide +kernel
theorem dX8_takes_249 : decode cX8_takes 249 = .ok (.istore 5, 2) := by decide +kernel
theorem dX8_takes_251 : decode cX8_takes 251 = .ok (.iinc 6 1, 3) := by decide +kernel
theorem dX8_takes_254 : decode cX8_takes 254 = .ok (.goto (-248), 3) := by decide +kernel
theorem dX8_takes_257 : decode cX8_takes 257 = .ok (.return_, 1) := by decide +kernel
theorem dX8_lay_0 : decode cX8_lay 0 = .ok (.iload_n 1, 1) := by decide +kernel
theorem dX8_lay_1 : decode cX8_lay 1 = .ok (.invokestatic 106, 3) := by decide +kernel
theorem dX8_lay_4 : decode cX8_lay 4 = .ok (.ifCond .eq 11, 3) := by decide +kernel
theorem dX8_lay_7 : decode cX8_lay 7 = .ok (.aload_n 0, 1) := by decide +kernel
theorem dX8_lay_8 : decode cX8_lay 8 = .ok (.iload_n 1, 1) := by decide +kernel
theorem dX8_lay_9 : decode cX8_lay 9 = .ok (.invokevirtual 129, 3) := by decide +kernel
theorem dX8_lay_12 : decode cX8_lay 12 = .ok (.goto 4, 3) := by decide +kernel
theorem dX8_lay_15 : decode cX8_lay 15 = .ok (.iconst (-1), 1) := by decide +kernel
theorem dX8_lay_16 : decode cX8_lay 16 = .ok (.ireturn, 1) := by decide +kernel
theorem dX8_isNote_0 : decode cX8_isNote 0 = .ok (.iload_n 1, 1) := by decide +kernel
theorem dX8_isNote_1 : decode cX8_isNote 1 = .ok (.invokestatic 106, 3) := by decide +kernel
theorem dX8_isNote_4 : decode cX8_isNote 4 = .ok (.ifCond .eq 35, 3) := by decide +kernel
theorem dX8_isNote_7 : decode cX8_isNote 7 = .ok (.iload_n 2, 1) := by decide +kernel
theorem dX8_isNote_8 : decode cX8_isNote 8 = .ok (.ifCond .lt 31, 3) := by decide +kernel
theorem dX8_isNote_11 : decode cX8_isNote 11 = .ok (.iload_n 2, 1) := by decide +kernel
theorem dX8_isNote_12 : decode cX8_isNote 12 = .ok (.aload_n 0, 1) := by decide +kernel
theorem dX8_isNote_13 : decode cX8_isNote 13 = .ok (.getfield 7, 3) := by decide +kernel
theorem dX8_isNote_16 : decode cX8_isNote 16 = .ok (.aload_n 0, 1) := by decide +kernel
theorem dX8_isNote_17 : decode cX8_isNote 17 = .ok (.getfield 19, 3) := by decide +kernel
theorem dX8_isNote_20 : decode cX8_isNote 20 = .ok (.iload_n 1, 1) := by decide +kernel
theorem dX8_isNote_21 : decode cX8_isNote 21 = .ok (.iaload, 1) := by decide +kernel
theorem dX8_isNote_22 : decode cX8_isNote 22 = .ok (.iaload, 1) := by decide +kernel
theorem dX8_isNote_23 : decode cX8_isNote 23 = .ok (.if_icmp .ge 16, 3) := by decide +kernel
theorem dX8_isNote_26 : decode cX8_isNote 26 = .ok (.aload_n 0, 1) := by decide +kernel
theorem dX8_isNote_27 : decode cX8_isNote 27 = .ok (.iload_n 1, 1) := by decide +kernel
theorem dX8_isNote_28 : decode cX8_isNote 28 = .ok (.invokevirtual 129, 3) := by decide +kernel
theorem dX8_isNote_31 : decode cX8_isNote 31 = .ok (.iconst (-1), 1) := by decide +kernel
theorem dX8_isNote_32 : decode cX8_isNote 32 = .ok (.if_icmp .eq 7, 3) := by decide +kernel
theorem dX8_isNote_35 : decode cX8_isNote 35 = .ok (.iconst 1, 1) := by decide +kernel
theorem dX8_isNote_36 : decode cX8_isNote 36 = .ok (.goto 4, 3) := by decide +kernel
theorem dX8_isNote_39 : decode cX8_isNote 39 = .ok (.iconst 0, 1) := by decide +kernel
theorem dX8_isNote_40 : decode cX8_isNote 40 = .ok (.ireturn, 1) := by decide +kernel
theorem dX8_isFault_0 : decode cX8_isFault 0 = .ok (.aload_n 0, 1) := by decide +kernel
theorem dX8_isFault_1 : decode cX8_isFault 1 = .ok (.getfield 47, 3) := by decide +kernel
theorem dX8_isFault_4 : decode cX8_isFault 4 = .ok (.iload_n 1, 1) := by decide +kernel
theorem dX8_isFault_5 : decode cX8_isFault 5 = .ok (.iaload, 1) := by decide +kernel
theorem dX8_isFault_6 : decode cX8_isFault 6 = .ok (.ifCond .ne 5, 3) := by decide +kernel
theorem dX8_isFault_9 : decode cX8_isFault 9 = .ok (.iconst 1, 1) := by decide +kernel
theorem dX8_isFault_10 : decode cX8_isFault 10 = .ok (.ireturn, 1) := by decide +kernel
theorem dX8_isFault_11 : decode cX8_isFault 11 = .ok (.aload_n 0, 1) := by decide +kernel
theorem dX8_isFault_12 : decode cX8_isFault 12 = .ok (.getfield 56, 3) := by decide +kernel
theorem dX8_isFault_15 : decode cX8_isFault 15 = .ok (.iload_n 1, 1) := by decide +kernel
theorem dX8_isFault_16 : decode cX8_isFault 16 = .ok (.baload, 1) := by decide +kernel
theorem dX8_isFault_17 : decode cX8_isFault 17 = .ok (.ifCond .ne 5, 3) := by decide +kernel
theorem dX8_isFault_20 : decode cX8_isFault 20 = .ok (.iconst 0, 1) := by decide +kernel
theorem dX8_isFault_21 : decode cX8_isFault 21 = .ok (.ireturn, 1) := by decide +kernel
theorem dX8_isFault_22 : decode cX8_isFault 22 = .ok (.iconst 0, 1) := by decide +kernel
theorem dX8_isFault_23 : decode cX8_isFault 23 = .ok (.istore_n 2, 1) := by decide +kernel
theorem dX8_isFault_24 : decode cX8_isFault 24 = .ok (.iconst 0, 1) := by decide +kernel
theorem dX8_isFault_25 : decode cX8_isFault 25 = .ok (.istore_n 3, 1) := by decide +kernel
theorem dX8_isFault_26 : decode cX8_isFault 26 = .ok (.iload_n 3, 1) := by decide +kernel
theorem dX8_isFault_27 : decode cX8_isFault 27 = .ok (.iload_n 1, 1) := by decide +kernel
theorem dX8_isFault_28 : decode cX8_isFault 28 = .ok (.if_icmp .ge 25, 3) := by decide +kernel
theorem dX8_isFault_31 : decode cX8_isFault 31 = .ok (.aload_n 0, 1) := by decide +kernel
theorem dX8_isFault_32 : decode cX8_isFault 32 = .ok (.getfield 56, 3) := by decide +kernel
theorem dX8_isFault_35 : decode cX8_isFault 35 = .ok (.iload_n 3, 1) := by decide +kernel
theorem dX8_isFault_36 : decode cX8_isFault 36 = .ok (.baload, 1) := by decide +kernel
theorem dX8_isFault_37 : decode cX8_isFault 37 = .ok (.ifCond .eq 10, 3) := by decide +kernel
theorem dX8_isFault_40 : decode cX8_isFault 40 = .ok (.aload_n 0, 1) := by decide +kernel
theorem dX8_isFault_41 : decode cX8_isFault 41 = .ok (.getfield 53, 3) := by decide +kernel
theorem dX8_isFault_44 : decode cX8_isFault 44 = .ok (.iload_n 3, 1) := by decide +kernel
theorem dX8_isFault_45 : decode cX8_isFault 45 = .ok (.iaload, 1) := by decide +kernel
theorem dX8_isFault_46 : decode cX8_isFault 46 = .ok (.istore_n 2, 1) := by decide +kernel
theorem dX8_isFault_47 : decode cX8_isFault 47 = .ok (.iinc 3 1, 3) := by decide +kernel
theorem dX8_isFault_50 : decode cX8_isFault 50 = .ok (.goto (-24), 3) := by decide +kernel
theorem dX8_isFault_53 : decode cX8_isFault 53 = .ok (.aload_n 0, 1) := by decide +kernel
theorem dX8_isFault_54 : decode cX8_isFault 54 = .ok (.getfield 53, 3) := by decide +kernel
theorem dX8_isFault_57 : decode cX8_isFault 57 = .ok (.iload_n 1, 1) := by decide +kernel
theorem dX8_isFault_58 : decode cX8_isFault 58 = .ok (.iaload, 1) := by decide +kernel
theorem dX8_isFault_59 : decode cX8_isFault 59 = .ok (.iload_n 2, 1) := by decide +kernel
theorem dX8_isFault_60 : decode cX8_isFault 60 = .ok (.invokestatic 110, 3) := by decide +kernel
theorem dX8_isFault_63 : decode cX8_isFault 63 = .ok (.aload_n 0, 1) := by decide +kernel
theorem dX8_isFault_64 : decode cX8_isFault 64 = .ok (.getfield 41, 3) := by decide +kernel
theorem dX8_isFault_67 : decode cX8_isFault 67 = .ok (.if_icmp .le 7, 3) := by decide +kernel
theorem dX8_isFault_70 : decode cX8_isFault 70 = .ok (.iconst 1, 1) := by decide +kernel
theorem dX8_isFault_71 : decode cX8_isFault 71 = .ok (.goto 4, 3) := by decide +kernel
theorem dX8_isFault_74 : decode cX8_isFault 74 = .ok (.iconst 0, 1) := by decide +kernel
theorem dX8_isFault_75 : decode cX8_isFault 75 = .ok (.ireturn, 1) := by decide +kernel
theorem dX8_laid_0 : decode cX8_laid 0 = .ok (.aload_n 0, 1) := by decide +kernel
theorem dX8_laid_1 : decode cX8_laid 1 = .ok (.iload_n 1, 1) := by decide +kernel
theorem dX8_laid_2 : decode cX8_laid 2 = .ok (.iload_n 2, 1) := by decide +kernel
theorem dX8_laid_3 : decode cX8_laid 3 = .ok (.invokevirtual 133, 3) := by decide +kernel
theorem dX8_laid_6 : decode cX8_laid 6 = .ok (.ifCond .ne 6, 3) := by decide +kernel
theorem dX8_laid_9 : decode cX8_laid 9 = .ok (.bipush (-2), 2) := by decide +kernel
theorem dX8_laid_11 : decode cX8_laid 11 = .ok (.ireturn, 1) := by decide +kernel
theorem dX8_laid_12 : decode cX8_laid 12 = .ok (.iload_n 3, 1) := by decide +kernel
theorem dX8_laid_13 : decode cX8_laid 13 = .ok (.tableswitch 68 0 2 #[27, 47, 54], 27) := by decide +kernel
theorem dX8_laid_40 : decode cX8_laid 40 = .ok (.aload_n 0, 1) := by decide +kernel
theorem dX8_laid_41 : decode cX8_laid 41 = .ok (.getfield 47, 3) := by decide +kernel
theorem dX8_laid_44 : decode cX8_laid 44 = .ok (.iload_n 2, 1) := by decide +kernel
theorem dX8_laid_45 : decode cX8_laid 45 = .ok (.iaload, 1) := by decide +kernel
theorem dX8_laid_46 : decode cX8_laid 46 = .ok (.ifCond .ne 7, 3) := by decide +kernel
theorem dX8_laid_49 : decode cX8_laid 49 = .ok (.iconst (-1), 1) := by decide +kernel
theorem dX8_laid_50 : decode cX8_laid 50 = .ok (.goto 9, 3) := by decide +kernel
theorem dX8_laid_53 : decode cX8_laid 53 = .ok (.aload_n 0, 1) := by decide +kernel
theorem dX8_laid_54 : decode cX8_laid 54 = .ok (.getfield 50, 3) := by decide +kernel
theorem dX8_laid_57 : decode cX8_laid 57 = .ok (.iload_n 2, 1) := by decide +kernel
theorem dX8_laid_58 : decode cX8_laid 58 = .ok (.iaload, 1) := by decide +kernel
theorem dX8_laid_59 : decode cX8_laid 59 = .ok (.ireturn, 1) := by decide +kernel
theorem dX8_laid_60 : decode cX8_laid 60 = .ok (.aload_n 0, 1) := by decide +kernel
theorem dX8_laid_61 : decode cX8_laid 61 = .ok (.getfield 47, 3) := by decide +kernel
theorem dX8_laid_64 : decode cX8_laid 64 = .ok (.iload_n 2, 1) := by decide +kernel
theorem dX8_laid_65 : decode cX8_laid 65 = .ok (.iaload, 1) := by decide +kernel
theorem dX8_laid_66 : decode cX8_laid 66 = .ok (.ireturn, 1) := by decide +kernel
theorem dX8_laid_67 : decode cX8_laid 67 = .ok (.aload_n 0, 1) := by decide +kernel
theorem dX8_laid_68 : decode cX8_laid 68 = .ok (.iload_n 2, 1) := by decide +kernel
theorem dX8_laid_69 : decode cX8_laid 69 = .ok (.invokevirtual 137, 3) := by decide +kernel
theorem dX8_laid_72 : decode cX8_laid 72 = .ok (.ifCond .eq 7, 3) := by decide +kernel
theorem dX8_laid_75 : decode cX8_laid 75 = .ok (.iconst 1, 1) := by decide +kernel
theorem dX8_laid_76 : decode cX8_laid 76 = .ok (.goto 4, 3) := by decide +kernel
theorem dX8_laid_79 : decode cX8_laid 79 = .ok (.iconst 0, 1) := by decide +kernel
theorem dX8_laid_80 : decode cX8_laid 80 = .ok (.ireturn, 1) := by decide +kernel
theorem dX8_laid_81 : decode cX8_laid 81 = .ok (.bipush (-2), 2) := by decide +kernel
theorem dX8_laid_83 : decode cX8_laid 83 = .ok (.ireturn, 1) := by decide +kernel
theorem dX8_off_0 : decode cX8_off 0 = .ok (.aload_n 0, 1) := by decide +kernel
theorem dX8_off_1 : decode cX8_off 1 = .ok (.iload_n 1, 1) := by decide +kernel
theorem dX8_off_2 : decode cX8_off 2 = .ok (.iload_n 2, 1) := by decide +kernel
theorem dX8_off_3 : decode cX8_off 3 = .ok (.invokevirtual 133, 3) := by decide +kernel
theorem dX8_off_6 : decode cX8_off 6 = .ok (.ifCond .eq 21, 3) := by decide +kernel
theorem dX8_off_9 : decode cX8_off 9 = .ok (.aload_n 0, 1) := by decide +kernel
theorem dX8_off_10 : decode cX8_off 10 = .ok (.getfield 56, 3) := by decide +kernel
theorem dX8_off_13 : decode cX8_off 13 = .ok (.iload_n 2, 1) := by decide +kernel
theorem dX8_off_14 : decode cX8_off 14 = .ok (.baload, 1) := by decide +kernel
theorem dX8_off_15 : decode cX8_off 15 = .ok (.ifCond .eq 12, 3) := by decide +kernel
theorem dX8_off_18 : decode cX8_off 18 = .ok (.aload_n 0, 1) := by decide +kernel
theorem dX8_off_19 : decode cX8_off 19 = .ok (.getfield 53, 3) := by decide +kernel
theorem dX8_off_22 : decode cX8_off 22 = .ok (.iload_n 2, 1) := by decide +kernel
theorem dX8_off_23 : decode cX8_off 23 = .ok (.iaload, 1) := by decide +kernel
theorem dX8_off_24 : decode cX8_off 24 = .ok (.goto 5, 3) := by decide +kernel
theorem dX8_off_27 : decode cX8_off 27 = .ok (.ldc 140, 2) := by decide +kernel
theorem dX8_off_29 : decode cX8_off 29 = .ok (.ireturn, 1) := by decide +kernel
theorem dX8_told_0 : decode cX8_told 0 = .ok (.iload_n 1, 1) := by decide +kernel
theorem dX8_told_1 : decode cX8_told 1 = .ok (.invokestatic 106, 3) := by decide +kernel
theorem dX8_told_4 : decode cX8_told 4 = .ok (.ifCond .eq 21, 3) := by decide +kernel
theorem dX8_told_7 : decode cX8_told 7 = .ok (.iload_n 2, 1) := by decide +kernel
theorem dX8_told_8 : decode cX8_told 8 = .ok (.ifCond .eq 8, 3) := by decide +kernel
theorem dX8_told_11 : decode cX8_told 11 = .ok (.iload_n 2, 1) := by decide +kernel
theorem dX8_told_12 : decode cX8_told 12 = .ok (.iconst 1, 1) := by decide +kernel
theorem dX8_told_13 : decode cX8_told 13 = .ok (.if_icmp .ne 12, 3) := by decide +kernel
theorem dX8_told_16 : decode cX8_told 16 = .ok (.aload_n 0, 1) := by decide +kernel
theorem dX8_told_17 : decode cX8_told 17 = .ok (.iload_n 1, 1) := by decide +kernel
theorem dX8_told_18 : decode cX8_told 18 = .ok (.invokevirtual 129, 3) := by decide +kernel
theorem dX8_told_21 : decode cX8_told 21 = .ok (.iconst (-1), 1) := by decide +kernel
theorem dX8_told_22 : decode cX8_told 22 = .ok (.if_icmp .ne 6, 3) := by decide +kernel
theorem dX8_told_25 : decode cX8_told 25 = .ok (.ldc 140, 2) := by decide +kernel
theorem dX8_told_27 : decode cX8_told 27 = .ok (.ireturn, 1) := by decide +kernel
theorem dX8_told_28 : decode cX8_told 28 = .ok (.aload_n 0, 1) := by decide +kernel
theorem dX8_told_29 : decode cX8_told 29 = .ok (.getfield 7, 3) := by decide +kernel
theorem dX8_told_32 : decode cX8_told 32 = .ok (.aload_n 0, 1) := by decide +kernel
theorem dX8_told_33 : decode cX8_told 33 = .ok (.getfield 19, 3) := by decide +kernel
theorem dX8_told_36 : decode cX8_told 36 = .ok (.iload_n 1, 1) := by decide +kernel
theorem dX8_told_37 : decode cX8_told 37 = .ok (.iaload, 1) := by decide +kernel
theorem dX8_told_38 : decode cX8_told 38 = .ok (.iaload, 1) := by decide +kernel
theorem dX8_told_39 : decode cX8_told 39 = .ok (.istore_n 3, 1) := by decide +kernel
theorem dX8_told_40 : decode cX8_told 40 = .ok (.iconst 0, 1) := by decide +kernel
theorem dX8_told_41 : decode cX8_told 41 = .ok (.istore 4, 2) := by decide +kernel
theorem dX8_told_43 : decode cX8_told 43 = .ok (.iconst (-1), 1) := by decide +kernel
theorem dX8_told_44 : decode cX8_told 44 = .ok (.istore 5, 2) := by decide +kernel
theorem dX8_told_46 : decode cX8_told 46 = .ok (.iconst (-1), 1) := by decide +kernel
theorem dX8_told_47 : decode cX8_told 47 = .ok (.istore 6, 2) := by decide +kernel
theorem dX8_told_49 : decode cX8_told 49 = .ok (.iconst 0, 1) := by decide +kernel
theorem dX8_told_50 : decode cX8_told 50 = .ok (.istore 7, 2) := by decide +kernel
theorem dX8_told_52 : decode cX8_told 52 = .ok (.iload 7, 2) := by decide +kernel
theorem dX8_told_54 : decode cX8_told 54 = .ok (.iload_n 3, 1) := by decide +kernel
theorem dX8_told_55 : decode cX8_told 55 = .ok (.if_icmp .ge 48, 3) := by decide +kernel
theorem dX8_told_58 : decode cX8_told 58 = .ok (.aload_n 0, 1) := by decide +kernel
theorem dX8_told_59 : decode cX8_told 59 = .ok (.iload 7, 2) := by decide +kernel
theorem dX8_told_61 : decode cX8_told 61 = .ok (.invokevirtual 137, 3) := by decide +kernel
theorem dX8_told_64 : decode cX8_told 64 = .ok (.ifCond .eq 6, 3) := by decide +kernel
theorem dX8_told_67 : decode cX8_told 67 = .ok (.iinc 4 1, 3) := by decide +kernel
theorem dX8_told_70 : decode cX8_told 70 = .ok (.aload_n 0, 1) := by decide +kernel
theorem dX8_told_71 : decode cX8_told 71 = .ok (.getfield 56, 3) := by decide +kernel
theorem dX8_told_74 : decode cX8_told 74 = .ok (.iload 7, 2) := by decide +kernel
theorem dX8_told_76 : decode cX8_told 76 = .ok (.baload, 1) := by decide +kernel
theorem dX8_told_77 : decode cX8_told 77 = .ok (.ifCond .ne 6, 3) := by decide +kernel
theorem dX8_told_80 : decode cX8_told 80 = .ok (.goto 17, 3) := by decide +kernel
theorem dX8_told_83 : decode cX8_told 83 = .ok (.iload 5, 2) := by decide +kernel
theorem dX8_told_85 : decode cX8_told 85 = .ok (.iconst (-1), 1) := by decide +kernel
theorem dX8_told_86 : decode cX8_told 86 = .ok (.if_icmp .ne 7, 3) := by decide +kernel
theorem dX8_told_89 : decode cX8_told 89 = .ok (.iload 7, 2) := by decide +kernel
theorem dX8_told_91 : decode cX8_told 91 = .ok (.istore 5, 2) := by decide +kernel
theorem dX8_told_93 : decode cX8_told 93 = .ok (.iload 7, 2) := by decide +kernel
theorem dX8_told_95 : decode cX8_told 95 = .ok (.istore 6, 2) := by decide +kernel
theorem dX8_told_97 : decode cX8_told 97 = .ok (.iinc 7 1, 3) := by decide +kernel
theorem dX8_told_100 : decode cX8_told 100 = .ok (.goto (-48), 3) := by decide +kernel
theorem dX8_told_103 : decode cX8_told 103 = .ok (.iload_n 2, 1) := by decide +kernel
theorem dX8_told_104 : decode cX8_told 104 = .ok (.iconst 1, 1) := by decide +kernel
theorem dX8_told_105 : decode cX8_told 105 = .ok (.if_icmp .ne 8, 3) := by decide +kernel
theorem dX8_told_108 : decode cX8_told 108 = .ok (.iload 4, 2) := by decide +kernel
theorem dX8_told_110 : decode cX8_told 110 = .ok (.goto 28, 3) := by decide +kernel
theorem dX8_told_113 : decode cX8_told 113 = .ok (.iload 5, 2) := by decide +kernel
theorem dX8_told_115 : decode cX8_told 115 = .ok (.iconst (-1), 1) := by decide +kernel
theorem dX8_told_116 : decode cX8_told 116 = .ok (.if_icmp .ne 7, 3) := by decide +kernel
theorem dX8_told_119 : decode cX8_told 119 = .ok (.iconst 0, 1) := by decide +kernel
theorem dX8_told_120 : decode cX8_told 120 = .ok (.goto 18, 3) := by decide +kernel
theorem dX8_told_123 : decode cX8_told 123 = .ok (.aload_n 0, 1) := by decide +kernel
theorem dX8_told_124 : decode cX8_told 124 = .ok (.getfield 53, 3) := by decide +kernel
theorem dX8_told_127 : decode cX8_told 127 = .ok (.iload 5, 2) := by decide +kernel
theorem dX8_told_129 : decode cX8_told 129 = .ok (.iaload, 1) := by decide +kernel
theorem dX8_told_130 : decode cX8_told 130 = .ok (.aload_n 0, 1) := by decide +kernel
theorem dX8_told_131 : decode cX8_told 131 = .ok (.getfield 53, 3) := by decide +kernel
theorem dX8_told_134 : decode cX8_told 134 = .ok (.iload 6, 2) := by decide +kernel
theorem dX8_told_136 : decode cX8_told 136 = .ok (.iaload, 1) := by decide +kernel
theorem dX8_told_137 : decode cX8_told 137 = .ok (.isub, 1) := by decide +kernel
theorem dX8_told_138 : decode cX8_told 138 = .ok (.ireturn, 1) := by decide +kernel
theorem dX8_ones_0 : decode cX8_ones 0 = .ok (.iconst 0, 1) := by decide +kernel
theorem dX8_ones_1 : decode cX8_ones 1 = .ok (.istore_n 1, 1) := by decide +kernel
theorem dX8_ones_2 : decode cX8_ones 2 = .ok (.iconst 0, 1) := by decide +kernel
theorem dX8_ones_3 : decode cX8_ones 3 = .ok (.istore_n 2, 1) := by decide +kernel
theorem dX8_ones_4 : decode cX8_ones 4 = .ok (.iload_n 2, 1) := by decide +kernel
theorem dX8_ones_5 : decode cX8_ones 5 = .ok (.bipush 30, 2) := by decide +kernel
theorem dX8_ones_7 : decode cX8_ones 7 = .ok (.if_icmp .ge 17, 3) := by decide +kernel
theorem dX8_ones_10 : decode cX8_ones 10 = .ok (.iload_n 1, 1) := by decide +kernel
theorem dX8_ones_11 : decode cX8_ones 11 = .ok (.iload_n 0, 1) := by decide +kernel
theorem dX8_ones_12 : decode cX8_ones 12 = .ok (.iload_n 2, 1) := by decide +kernel
theorem dX8_ones_13 : decode cX8_ones 13 = .ok (.ishr, 1) := by decide +kernel
theorem dX8_ones_14 : decode cX8_ones 14 = .ok (.iconst 1, 1) := by decide +kernel
theorem dX8_ones_15 : decode cX8_ones 15 = .ok (.iand, 1) := by decide +kernel
theorem dX8_ones_16 : decode cX8_ones 16 = .ok (.iadd, 1) := by decide +kernel
theorem dX8_ones_17 : decode cX8_ones 17 = .ok (.istore_n 1, 1) := by decide +kernel
theorem dX8_ones_18 : decode cX8_ones 18 = .ok (.iinc 2 1, 3) := by decide +kernel
theorem dX8_ones_21 : decode cX8_ones 21 = .ok (.goto (-17), 3) := by decide +kernel
theorem dX8_ones_24 : decode cX8_ones 24 = .ok (.iload_n 1, 1) := by decide +kernel
theorem dX8_ones_25 : decode cX8_ones 25 = .ok (.ireturn, 1) := by decide +kernel
theorem dX8_sing_0 : decode cX8_sing 0 = .ok (.iload_n 1, 1) := by decide +kernel
theorem dX8_sing_1 : decode cX8_sing 1 = .ok (.iconst 1, 1) := by decide +kernel
theorem dX8_sing_2 : decode cX8_sing 2 = .ok (.sipush 1023, 3) := by decide +kernel
theorem dX8_sing_5 : decode cX8_sing 5 = .ok (.invokestatic 102, 3) := by decide +kernel
theorem dX8_sing_8 : decode cX8_sing 8 = .ok (.ifCond .ne 5, 3) := by decide +kernel
theorem dX8_sing_11 : decode cX8_sing 11 = .ok (.iconst (-1), 1) := by decide +kernel
theorem dX8_sing_12 : decode cX8_sing 12 = .ok (.ireturn, 1) := by decide +kernel
theorem dX8_sing_13 : decode cX8_sing 13 = .ok (.aload_n 0, 1) := by decide +kernel
theorem dX8_sing_14 : decode cX8_sing 14 = .ok (.iload_n 1, 1) := by decide +kernel
theorem dX8_sing_15 : decode cX8_sing 15 = .ok (.putfield 141, 3) := by decide +kernel
theorem dX8_sing_18 : decode cX8_sing 18 = .ok (.iload_n 1, 1) := by decide +kernel
theorem dX8_sing_19 : decode cX8_sing 19 = .ok (.invokestatic 144, 3) := by decide +kernel
theorem dX8_sing_22 : decode cX8_sing 22 = .ok (.ireturn, 1) := by decide +kernel
theorem dX8_judge_0 : decode cX8_judge 0 = .ok (.iload_n 1, 1) := by decide +kernel
theorem dX8_judge_1 : decode cX8_judge 1 = .ok (.iconst 0, 1) := by decide +kernel
theorem dX8_judge_2 : decode cX8_judge 2 = .ok (.bipush 8, 2) := by decide +kernel
theorem dX8_judge_4 : decode cX8_judge 4 = .ok (.invokestatic 102, 3) := by decide +kernel
theorem dX8_judge_7 : decode cX8_judge 7 = .ok (.ifCond .eq 13, 3) := by decide +kernel
theorem dX8_judge_10 : decode cX8_judge 10 = .ok (.iload_n 2, 1) := by decide +kernel
theorem dX8_judge_11 : decode cX8_judge 11 = .ok (.iconst 0, 1) := by decide +kernel
theorem dX8_judge_12 : decode cX8_judge 12 = .ok (.bipush 10, 2) := by decide +kernel
theorem dX8_judge_14 : decode cX8_judge 14 = .ok (.invokestatic 102, 3) := by decide +kernel
theorem dX8_judge_17 : decode cX8_judge 17 = .ok (.ifCond .ne 5, 3) := by decide +kernel
theorem dX8_judge_20 : decode cX8_judge 20 = .ok (.iconst 0, 1) := by decide +kernel
theorem dX8_judge_21 : decode cX8_judge 21 = .ok (.ireturn, 1) := by decide +kernel
theorem dX8_judge_22 : decode cX8_judge 22 = .ok (.iconst 0, 1) := by decide +kernel
theorem dX8_judge_23 : decode cX8_judge 23 = .ok (.istore 5, 2) := by decide +kernel
theorem dX8_judge_25 : decode cX8_judge 25 = .ok (.iconst 0, 1) := by decide +kernel
theorem dX8_judge_26 : decode cX8_judge 26 = .ok (.istore 6, 2) := by decide +kernel
theorem dX8_judge_28 : decode cX8_judge 28 = .ok (.iload 6, 2) := by decide +kernel
theorem dX8_judge_30 : decode cX8_judge 30 = .ok (.iload_n 2, 1) := by decide +kernel
theorem dX8_judge_31 : decode cX8_judge 31 = .ok (.if_icmp .ge 51, 3) := by decide +kernel
theorem dX8_judge_34 : decode cX8_judge 34 = .ok (.lload_n 3, 1) := by decide +kernel
theorem dX8_judge_35 : decode cX8_judge 35 = .ok (.iconst 4, 1) := by decide +kernel
theorem dX8_judge_36 : decode cX8_judge 36 = .ok (.iload 6, 2) := by decide +kernel
theorem dX8_judge_38 : decode cX8_judge 38 = .ok (.imul, 1) := by decide +kernel
theorem dX8_judge_39 : decode cX8_judge 39 = .ok (.lshr, 1) := by decide +kernel
theorem dX8_judge_40 : decode cX8_judge 40 = .ok (.ldc2_w 147, 3) := by decide +kernel
theorem dX8_judge_43 : decode cX8_judge 43 = .ok (.land, 1) := by decide +kernel
theorem dX8_judge_44 : decode cX8_judge 44 = .ok (.l2i, 1) := by decide +kernel
theorem dX8_judge_45 : decode cX8_judge 45 = .ok (.istore 7, 2) := by decide +kernel
theorem dX8_judge_47 : decode cX8_judge 47 = .ok (.iload 7, 2) := by decide +kernel
theorem dX8_judge_49 : decode cX8_judge 49 = .ok (.bipush 10, 2) := by decide +kernel
theorem dX8_judge_51 : decode cX8_judge 51 = .ok (.if_icmp .ge 14, 3) := by decide +kernel
theorem dX8_judge_54 : decode cX8_judge 54 = .ok (.iload 5, 2) := by decide +kernel
theorem dX8_judge_56 : decode cX8_judge 56 = .ok (.iload 7, 2) := by decide +kernel
theorem dX8_judge_58 : decode cX8_judge 58 = .ok (.ishr, 1) := by decide +kernel
theorem dX8_judge_59 : decode cX8_judge 59 = .ok (.iconst 1, 1) := by decide +kernel
theorem dX8_judge_60 : decode cX8_judge 60 = .ok (.iand, 1) := by decide +kernel
theorem dX8_judge_61 : decode cX8_judge 61 = .ok (.iconst 1, 1) := by decide +kernel
theorem dX8_judge_62 : decode cX8_judge 62 = .ok (.if_icmp .ne 5, 3) := by decide +kernel
theorem dX8_judge_65 : decode cX8_judge 65 = .ok (.iconst 0, 1) := by decide +kernel
theorem dX8_judge_66 : decode cX8_judge 66 = .ok (.ireturn, 1) := by decide +kernel
theorem dX8_judge_67 : decode cX8_judge 67 = .ok (.iload 5, 2) := by decide +kernel
theorem dX8_judge_69 : decode cX8_judge 69 = .ok (.iconst 1, 1) := by decide +kernel
theorem dX8_judge_70 : decode cX8_judge 70 = .ok (.iload 7, 2) := by decide +kernel
theorem dX8_judge_72 : decode cX8_judge 72 = .ok (.ishl, 1) := by decide +kernel
theorem dX8_judge_73 : decode cX8_judge 73 = .ok (.ior, 1) := by decide +kernel
theorem dX8_judge_74 : decode cX8_judge 74 = .ok (.istore 5, 2) := by decide +kernel
theorem dX8_judge_76 : decode cX8_judge 76 = .ok (.iinc 6 1, 3) := by decide +kernel
theorem dX8_judge_79 : decode cX8_judge 79 = .ok (.goto (-51), 3) := by decide +kernel
theorem dX8_judge_82 : decode cX8_judge 82 = .ok (.aload_n 0, 1) := by decide +kernel
theorem dX8_judge_83 : decode cX8_judge 83 = .ok (.getfield 60, 3) := by decide +kernel
theorem dX8_judge_86 : decode cX8_judge 86 = .ok (.iload_n 1, 1) := by decide +kernel
theorem dX8_judge_87 : decode cX8_judge 87 = .ok (.iload_n 2, 1) := by decide +kernel
theorem dX8_judge_88 : decode cX8_judge 88 = .ok (.iastore, 1) := by decide +kernel
theorem dX8_judge_89 : decode cX8_judge 89 = .ok (.aload_n 0, 1) := by decide +kernel
theorem dX8_judge_90 : decode cX8_judge 90 = .ok (.getfield 63, 3) := by decide +kernel
theorem dX8_judge_93 : decode cX8_judge 93 = .ok (.iload_n 1, 1) := by decide +kernel
theorem dX8_judge_94 : decode cX8_judge 94 = .ok (.iload 5, 2) := by decide +kernel
theorem dX8_judge_96 : decode cX8_judge 96 = .ok (.iastore, 1) := by decide +kernel
theorem dX8_judge_97 : decode cX8_judge 97 = .ok (.iconst 0, 1) := by decide +kernel
theorem dX8_judge_98 : decode cX8_judge 98 = .ok (.istore 6, 2) := by decide +kernel
theorem dX8_judge_100 : decode cX8_judge 100 = .ok (.iload 6, 2) := by decide +kernel
theorem dX8_judge_102 : decode cX8_judge 102 = .ok (.iload_n 2, 1) := by decide +kernel
theorem dX8_judge_103 : decode cX8_judge 103 = .ok (.if_icmp .ge 34, 3) := by decide +kernel
theorem dX8_judge_106 : decode cX8_judge 106 = .ok (.aload_n 0, 1) := by decide +kernel
theorem dX8_judge_107 : decode cX8_judge 107 = .ok (.getfield 66, 3) := by decide +kernel
theorem dX8_judge_110 : decode cX8_judge 110 = .ok (.bipush 10, 2) := by decide +kernel
theorem dX8_judge_112 : decode cX8_judge 112 = .ok (.iload_n 1, 1) := by decide +kernel
theorem dX8_judge_113 : decode cX8_judge 113 = .ok (.imul, 1) := by decide +kernel
theorem dX8_judge_114 : decode cX8_judge 114 = .ok (.lload_n 3, 1) := by decide +kernel
theorem dX8_judge_115 : decode cX8_judge 115 = .ok (.iconst 4, 1) := by decide +kernel
theorem dX8_judge_116 : decode cX8_judge 116 = .ok (.iload 6, 2) := by decide +kernel
theorem dX8_judge_118 : decode cX8_judge 118 = .ok (.imul, 1) := by decide +kernel
theorem dX8_judge_119 : decode cX8_judge 119 = .ok (.lshr, 1) := by decide +kernel
theorem dX8_judge_120 : decode cX8_judge 120 = .ok (.ldc2_w 147, 3) := by decide +kernel
theorem dX8_judge_123 : decode cX8_judge 123 = .ok (.land, 1) := by decide +kernel
theorem dX8_judge_124 : decode cX8_judge 124 = .ok (.l2i, 1) := by decide +kernel
theorem dX8_judge_125 : decode cX8_judge 125 = .ok (.iadd, 1) := by decide +kernel
theorem dX8_judge_126 : decode cX8_judge 126 = .ok (.iload 6, 2) := by decide +kernel
theorem dX8_judge_128 : decode cX8_judge 128 = .ok (.iconst 1, 1) := by decide +kernel
theorem dX8_judge_129 : decode cX8_judge 129 = .ok (.iadd, 1) := by decide +kernel
theorem dX8_judge_130 : decode cX8_judge 130 = .ok (.iastore, 1) := by decide +kernel
theorem dX8_judge_131 : decode cX8_judge 131 = .ok (.iinc 6 1, 3) := by decide +kernel
theorem dX8_judge_134 : decode cX8_judge 134 = .ok (.goto (-34), 3) := by decide +kernel
theorem dX8_judge_137 : decode cX8_judge 137 = .ok (.iconst 1, 1) := by decide +kernel
theorem dX8_judge_138 : decode cX8_judge 138 = .ok (.ireturn, 1) := by decide +kernel
theorem dX8_hasJudge_0 : decode cX8_hasJudge 0 = .ok (.aload_n 0, 1) := by decide +kernel
theorem dX8_hasJudge_1 : decode cX8_hasJudge 1 = .ok (.getfield 60, 3) := by decide +kernel
theorem dX8_hasJudge_4 : decode cX8_hasJudge 4 = .ok (.iload_n 1, 1) := by decide +kernel
theorem dX8_hasJudge_5 : decode cX8_hasJudge 5 = .ok (.iaload, 1) := by decide +kernel
theorem dX8_hasJudge_6 : decode cX8_hasJudge 6 = .ok (.ifCond .le 20, 3) := by decide +kernel
theorem dX8_hasJudge_9 : decode cX8_hasJudge 9 = .ok (.aload_n 0, 1) := by decide +kernel
theorem dX8_hasJudge_10 : decode cX8_hasJudge 10 = .ok (.getfield 63, 3) := by decide +kernel
theorem dX8_hasJudge_13 : decode cX8_hasJudge 13 = .ok (.iload_n 1, 1) := by decide +kernel
theorem dX8_hasJudge_14 : decode cX8_hasJudge 14 = .ok (.iaload, 1) := by decide +kernel
theorem dX8_hasJudge_15 : decode cX8_hasJudge 15 = .ok (.aload_n 0, 1) := by decide +kernel
theorem dX8_hasJudge_16 : decode cX8_hasJudge 16 = .ok (.getfield 141, 3) := by decide +kernel
theorem dX8_hasJudge_19 : decode cX8_hasJudge 19 = .ok (.if_icmp .ne 7, 3) := by decide +kernel
theorem dX8_hasJudge_22 : decode cX8_hasJudge 22 = .ok (.iconst 1, 1) := by decide +kernel
theorem dX8_hasJudge_23 : decode cX8_hasJudge 23 = .ok (.goto 4, 3) := by decide +kernel
theorem dX8_hasJudge_26 : decode cX8_hasJudge 26 = .ok (.iconst 0, 1) := by decide +kernel
theorem dX8_hasJudge_27 : decode cX8_hasJudge 27 = .ok (.ireturn, 1) := by decide +kernel
theorem dX8_judges_0 : decode cX8_judges 0 = .ok (.iconst 0, 1) := by decide +kernel
theorem dX8_judges_1 : decode cX8_judges 1 = .ok (.istore_n 1, 1) := by decide +kernel
theorem dX8_judges_2 : decode cX8_judges 2 = .ok (.iconst 0, 1) := by decide +kernel
theorem dX8_judges_3 : decode cX8_judges 3 = .ok (.istore_n 2, 1) := by decide +kernel
theorem dX8_judges_4 : decode cX8_judges 4 = .ok (.iload_n 2, 1) := by decide +kernel
theorem dX8_judges_5 : decode cX8_judges 5 = .ok (.bipush 9, 2) := by decide +kernel
theorem dX8_judges_7 : decode cX8_judges 7 = .ok (.if_icmp .ge 20, 3) := by decide +kernel
theorem dX8_judges_10 : decode cX8_judges 10 = .ok (.aload_n 0, 1) := by decide +kernel
theorem dX8_judges_11 : decode cX8_judges 11 = .ok (.iload_n 2, 1) := by decide +kernel
theorem dX8_judges_12 : decode cX8_judges 12 = .ok (.invokevirtual 149, 3) := by decide +kernel
theorem dX8_judges_15 : decode cX8_judges 15 = .ok (.ifCond .eq 6, 3) := by decide +kernel
theorem dX8_judges_18 : decode cX8_judges 18 = .ok (.iinc 1 1, 3) := by decide +kernel
theorem dX8_judges_21 : decode cX8_judges 21 = .ok (.iinc 2 1, 3) := by decide +kernel
theorem dX8_judges_24 : decode cX8_judges 24 = .ok (.goto (-20), 3) := by decide +kernel
theorem dX8_judges_27 : decode cX8_judges 27 = .ok (.iload_n 1, 1) := by decide +kernel
theorem dX8_judges_28 : decode cX8_judges 28 = .ok (.ireturn, 1) := by decide +kernel
theorem dX8_sings_0 : decode cX8_sings 0 = .ok (.iload_n 1, 1) := by decide +kernel
theorem dX8_sings_1 : decode cX8_sings 1 = .ok (.iconst 0, 1) := by decide +kernel
theorem dX8_sings_2 : decode cX8_sings 2 = .ok (.bipush 9, 2) := by decide +kernel
theorem dX8_sings_4 : decode cX8_sings 4 = .ok (.invokestatic 102, 3) := by decide +kernel
theorem dX8_sings_7 : decode cX8_sings 7 = .ok (.ifCond .eq 19, 3) := by decide +kernel
theorem dX8_sings_10 : decode cX8_sings 10 = .ok (.aload_n 0, 1) := by decide +kernel
theorem dX8_sings_11 : decode cX8_sings 11 = .ok (.getfield 141, 3) := by decide +kernel
theorem dX8_sings_14 : decode cX8_sings 14 = .ok (.iload_n 1, 1) := by decide +kernel
theorem dX8_sings_15 : decode cX8_sings 15 = .ok (.ishr, 1) := by decide +kernel
theorem dX8_sings_16 : decode cX8_sings 16 = .ok (.iconst 1, 1) := by decide +kernel
theorem dX8_sings_17 : decode cX8_sings 17 = .ok (.iand, 1) := by decide +kernel
theorem dX8_sings_18 : decode cX8_sings 18 = .ok (.iconst 1, 1) := by decide +kernel
theorem dX8_sings_19 : decode cX8_sings 19 = .ok (.if_icmp .ne 7, 3) := by decide +kernel
theorem dX8_sings_22 : decode cX8_sings 22 = .ok (.iconst 1, 1) := by decide +kernel
theorem dX8_sings_23 : decode cX8_sings 23 = .ok (.goto 4, 3) := by decide +kernel
theorem dX8_sings_26 : decode cX8_sings 26 = .ok (.iconst 0, 1) := by decide +kernel
theorem dX8_sings_27 : decode cX8_sings 27 = .ok (.ireturn, 1) := by decide +kernel
theorem dX8_ranked_0 : decode cX8_ranked 0 = .ok (.iconst 0, 1) := by decide +kernel
theorem dX8_ranked_1 : decode cX8_ranked 1 = .ok (.istore 4, 2) := by decide +kernel
theorem dX8_ranked_3 : decode cX8_ranked 3 = .ok (.iconst 0, 1) := by decide +kernel
theorem dX8_ranked_4 : decode cX8_ranked 4 = .ok (.istore 5, 2) := by decide +kernel
theorem dX8_ranked_6 : decode cX8_ranked 6 = .ok (.iload 5, 2) := by decide +kernel
theorem dX8_ranked_8 : decode cX8_ranked 8 = .ok (.bipush 9, 2) := by decide +kernel
theorem dX8_ranked_10 : decode cX8_ranked 10 = .ok (.if_icmp .ge 59, 3) := by decide +kernel
theorem dX8_ranked_13 : decode cX8_ranked 13 = .ok (.aload_n 0, 1) := by decide +kernel
theorem dX8_ranked_14 : decode cX8_ranked 14 = .ok (.iload 5, 2) := by decide +kernel
theorem dX8_ranked_16 : decode cX8_ranked 16 = .ok (.invokevirtual 149, 3) := by decide +kernel
theorem dX8_ranked_19 : decode cX8_ranked 19 = .ok (.ifCond .eq 44, 3) := by decide +kernel
theorem dX8_ranked_22 : decode cX8_ranked 22 = .ok (.aload_n 0, 1) := by decide +kernel
theorem dX8_ranked_23 : decode cX8_ranked 23 = .ok (.getfield 66, 3) := by decide +kernel
theorem dX8_ranked_26 : decode cX8_ranked 26 = .ok (.bipush 10, 2) := by decide +kernel
theorem dX8_ranked_28 : decode cX8_ranked 28 = .ok (.iload 5, 2) := by decide +kernel
theorem dX8_ranked_30 : decode cX8_ranked 30 = .ok (.imul, 1) := by decide +kernel
theorem dX8_ranked_31 : decode cX8_ranked 31 = .ok (.iload_n 1, 1) := by decide +kernel
theorem dX8_ranked_32 : decode cX8_ranked 32 = .ok (.iadd, 1) := by decide +kernel
theorem dX8_ranked_33 : decode cX8_ranked 33 = .ok (.iaload, 1) := by decide +kernel
theorem dX8_ranked_34 : decode cX8_ranked 34 = .ok (.iload_n 2, 1) := by decide +kernel
theorem dX8_ranked_35 : decode cX8_ranked 35 = .ok (.if_icmp .gt 28, 3) := by decide +kernel
theorem dX8_ranked_38 : decode cX8_ranked 38 = .ok (.iload 4, 2) := by decide +kernel
theorem dX8_ranked_40 : decode cX8_ranked 40 = .ok (.iload_n 3, 1) := by decide +kernel
theorem dX8_ranked_41 : decode cX8_ranked 41 = .ok (.ifCond .eq 18, 3) := by decide +kernel
theorem dX8_ranked_44 : decode cX8_ranked 44 = .ok (.aload_n 0, 1) := by decide +kernel
theorem dX8_ranked_45 : decode cX8_ranked 45 = .ok (.getfield 66, 3) := by decide +kernel
theorem dX8_ranked_48 : decode cX8_ranked 48 = .ok (.bipush 10, 2) := by decide +kernel
theorem dX8_ranked_50 : decode cX8_ranked 50 = .ok (.iload 5, 2) := by decide +kernel
theorem dX8_ranked_52 : decode cX8_ranked 52 = .ok (.imul, 1) := by decide +kernel
theorem dX8_ranked_53 : decode cX8_ranked 53 = .ok (.iload_n 1, 1) := by decide +kernel
theorem dX8_ranked_54 : decode cX8_ranked 54 = .ok (.iadd, 1) := by decide +kernel
theorem dX8_ranked_55 : decode cX8_ranked 55 = .ok (.iaload, 1) := by decide +kernel
theorem dX8_ranked_56 : decode cX8_ranked 56 = .ok (.goto 4, 3) := by decide +kernel
theorem dX8_ranked_59 : decode cX8_ranked 59 = .ok (.iconst 1, 1) := by decide +kernel
theorem dX8_ranked_60 : decode cX8_ranked 60 = .ok (.iadd, 1) := by decide +kernel
theorem dX8_ranked_61 : decode cX8_ranked 61 = .ok (.istore 4, 2) := by decide +kernel
theorem dX8_ranked_63 : decode cX8_ranked 63 = .ok (.iinc 5 1, 3) := by decide +kernel
theorem dX8_ranked_66 : decode cX8_ranked 66 = .ok (.goto (-60), 3) := by decide +kernel
theorem dX8_ranked_69 : decode cX8_ranked 69 = .ok (.iload 4, 2) := by decide +kernel
theorem dX8_ranked_71 : decode cX8_ranked 71 = .ok (.ireturn, 1) := by decide +kernel
theorem dX8_against_0 : decode cX8_against 0 = .ok (.aload_n 0, 1) := by decide +kernel
theorem dX8_against_1 : decode cX8_against 1 = .ok (.getfield 141, 3) := by decide +kernel
theorem dX8_against_4 : decode cX8_against 4 = .ok (.invokestatic 144, 3) := by decide +kernel
theorem dX8_against_7 : decode cX8_against 7 = .ok (.istore 4, 2) := by decide +kernel
theorem dX8_against_9 : decode cX8_against 9 = .ok (.iload_n 3, 1) := by decide +kernel
theorem dX8_against_10 : decode cX8_against 10 = .ok (.istore 5, 2) := by decide +kernel
theorem dX8_against_12 : decode cX8_against 12 = .ok (.iload 5, 2) := by decide +kernel
theorem dX8_against_14 : decode cX8_against 14 = .ok (.iload 4, 2) := by decide +kernel
theorem dX8_against_16 : decode cX8_against 16 = .ok (.if_icmp .gt 60, 3) := by decide +kernel
theorem dX8_against_19 : decode cX8_against 19 = .ok (.aload_n 0, 1) := by decide +kernel
theorem dX8_against_20 : decode cX8_against 20 = .ok (.iload_n 2, 1) := by decide +kernel
theorem dX8_against_21 : decode cX8_against 21 = .ok (.iload 5, 2) := by decide +kernel
theorem dX8_against_23 : decode cX8_against 23 = .ok (.iconst 0, 1) := by decide +kernel
theorem dX8_against_24 : decode cX8_against 24 = .ok (.invokevirtual 152, 3) := by decide +kernel
theorem dX8_against_27 : decode cX8_against 27 = .ok (.aload_n 0, 1) := by decide +kernel
theorem dX8_against_28 : decode cX8_against 28 = .ok (.iload_n 1, 1) := by decide +kernel
theorem dX8_against_29 : decode cX8_against 29 = .ok (.iload 5, 2) := by decide +kernel
theorem dX8_against_31 : decode cX8_against 31 = .ok (.iconst 0, 1) := by decide +kernel
theorem dX8_against_32 : decode cX8_against 32 = .ok (.invokevirtual 152, 3) := by decide +kernel
theorem dX8_against_35 : decode cX8_against 35 = .ok (.isub, 1) := by decide +kernel
theorem dX8_against_36 : decode cX8_against 36 = .ok (.istore 6, 2) := by decide +kernel
theorem dX8_against_38 : decode cX8_against 38 = .ok (.iload 6, 2) := by decide +kernel
theorem dX8_against_40 : decode cX8_against 40 = .ok (.ifCond .ne 22, 3) := by decide +kernel
theorem dX8_against_43 : decode cX8_against 43 = .ok (.aload_n 0, 1) := by decide +kernel
theorem dX8_against_44 : decode cX8_against 44 = .ok (.iload_n 1, 1) := by decide +kernel
theorem dX8_against_45 : decode cX8_against 45 = .ok (.iload 5, 2) := by decide +kernel
theorem dX8_against_47 : decode cX8_against 47 = .ok (.iconst 1, 1) := by decide +kernel
theorem dX8_against_48 : decode cX8_against 48 = .ok (.invokevirtual 152, 3) := by decide +kernel
theorem dX8_against_51 : decode cX8_against 51 = .ok (.aload_n 0, 1) := by decide +kernel
theorem dX8_against_52 : decode cX8_against 52 = .ok (.iload_n 2, 1) := by decide +kernel
theorem dX8_against_53 : decode cX8_against 53 = .ok (.iload 5, 2) := by decide +kernel
theorem dX8_against_55 : decode cX8_against 55 = .ok (.iconst 1, 1) := by decide +kernel
theorem dX8_against_56 : decode cX8_against 56 = .ok (.invokevirtual 152, 3) := by decide +kernel
theorem dX8_against_59 : decode cX8_against 59 = .ok (.isub, 1) := by decide +kernel
theorem dX8_against_60 : decode cX8_against 60 = .ok (.istore 6, 2) := by decide +kernel
theorem dX8_against_62 : decode cX8_against 62 = .ok (.iload 6, 2) := by decide +kernel
theorem dX8_against_64 : decode cX8_against 64 = .ok (.ifCond .eq 6, 3) := by decide +kernel
theorem dX8_against_67 : decode cX8_against 67 = .ok (.iload 6, 2) := by decide +kernel
theorem dX8_against_69 : decode cX8_against 69 = .ok (.ireturn, 1) := by decide +kernel
theorem dX8_against_70 : decode cX8_against 70 = .ok (.iinc 5 1, 3) := by decide +kernel
theorem dX8_against_73 : decode cX8_against 73 = .ok (.goto (-61), 3) := by decide +kernel
theorem dX8_against_76 : decode cX8_against 76 = .ok (.iconst 0, 1) := by decide +kernel
theorem dX8_against_77 : decode cX8_against 77 = .ok (.ireturn, 1) := by decide +kernel
theorem dX8_placesOf_0 : decode cX8_placesOf 0 = .ok (.aload_n 0, 1) := by decide +kernel
theorem dX8_placesOf_1 : decode cX8_placesOf 1 = .ok (.invokevirtual 156, 3) := by decide +kernel
theorem dX8_placesOf_4 : decode cX8_placesOf 4 = .ok (.iconst 2, 1) := by decide +kernel
theorem dX8_placesOf_5 : decode cX8_placesOf 5 = .ok (.idiv, 1) := by decide +kernel
theorem dX8_placesOf_6 : decode cX8_placesOf 6 = .ok (.iconst 1, 1) := by decide +kernel
theorem dX8_placesOf_7 : decode cX8_placesOf 7 = .ok (.iadd, 1) := by decide +kernel
theorem dX8_placesOf_8 : decode cX8_placesOf 8 = .ok (.istore_n 1, 1) := by decide +kernel
theorem dX8_placesOf_9 : decode cX8_placesOf 9 = .ok (.aload_n 0, 1) := by decide +kernel
theorem dX8_placesOf_10 : decode cX8_placesOf 10 = .ok (.getfield 141, 3) := by decide +kernel
theorem dX8_placesOf_13 : decode cX8_placesOf 13 = .ok (.invokestatic 144, 3) := by decide +kernel
theorem dX8_placesOf_16 : decode cX8_placesOf 16 = .ok (.istore_n 2, 1) := by decide +kernel
theorem dX8_placesOf_17 : decode cX8_placesOf 17 = .ok (.iconst 0, 1) := by decide +kernel
theorem dX8_placesOf_18 : decode cX8_placesOf 18 = .ok (.istore_n 3, 1) := by decide +kernel
theorem dX8_placesOf_19 : decode cX8_placesOf 19 = .ok (.iconst 0, 1) := by decide +kernel
theorem dX8_placesOf_20 : decode cX8_placesOf 20 = .ok (.istore 4, 2) := by decide +kernel
theorem dX8_placesOf_22 : decode cX8_placesOf 22 = .ok (.iload 4, 2) := by decide +kernel
theorem dX8_placesOf_24 : decode cX8_placesOf 24 = .ok (.bipush 10, 2) := by decide +kernel
theorem dX8_placesOf_26 : decode cX8_placesOf 26 = .ok (.if_icmp .ge 17, 3) := by decide +kernel
theorem dX8_placesOf_29 : decode cX8_placesOf 29 = .ok (.aload_n 0, 1) := by decide +kernel
theorem dX8_placesOf_30 : decode cX8_placesOf 30 = .ok (.getfield 69, 3) := by decide +kernel
theorem dX8_placesOf_33 : decode cX8_placesOf 33 = .ok (.iload 4, 2) := by decide +kernel
theorem dX8_placesOf_35 : decode cX8_placesOf 35 = .ok (.iconst 0, 1) := by decide +kernel
theorem dX8_placesOf_36 : decode cX8_placesOf 36 = .ok (.iastore, 1) := by decide +kernel
theorem dX8_placesOf_37 : decode cX8_placesOf 37 = .ok (.iinc 4 1, 3) := by decide +kernel
theorem dX8_placesOf_40 : decode cX8_placesOf 40 = .ok (.goto (-18), 3) := by decide +kernel
theorem dX8_placesOf_43 : decode cX8_placesOf 43 = .ok (.iconst 1, 1) := by decide +kernel
theorem dX8_placesOf_44 : decode cX8_placesOf 44 = .ok (.istore 4, 2) := by decide +kernel
theorem dX8_placesOf_46 : decode cX8_placesOf 46 = .ok (.iload 4, 2) := by decide +kernel
theorem dX8_placesOf_48 : decode cX8_placesOf 48 = .ok (.iload_n 2, 1) := by decide +kernel
theorem dX8_placesOf_49 : decode cX8_placesOf 49 = .ok (.if_icmp .gt 165, 3) := by decide +kernel
theorem dX8_placesOf_52 : decode cX8_placesOf 52 = .ok (.iconst 0, 1) := by decide +kernel
theorem dX8_placesOf_53 : decode cX8_placesOf 53 = .ok (.istore 5, 2) := by decide +kernel
theorem dX8_placesOf_55 : decode cX8_placesOf 55 = .ok (.iconst 0, 1) := by decide +kernel
theorem dX8_placesOf_56 : decode cX8_placesOf 56 = .ok (.istore 6, 2) := by decide +kernel
theorem dX8_placesOf_58 : decode cX8_placesOf 58 = .ok (.iload 6, 2) := by decide +kernel
theorem dX8_placesOf_60 : decode cX8_placesOf 60 = .ok (.bipush 10, 2) := by decide +kernel
theorem dX8_placesOf_62 : decode cX8_placesOf 62 = .ok (.if_icmp .ge 50, 3) := by decide +kernel
theorem dX8_placesOf_65 : decode cX8_placesOf 65 = .ok (.aload_n 0, 1) := by decide +kernel
theorem dX8_placesOf_66 : decode cX8_placesOf 66 = .ok (.iload 6, 2) := by decide +kernel
theorem dX8_placesOf_68 : decode cX8_placesOf 68 = .ok (.invokevirtual 160, 3) := by decide +kernel
theorem dX8_placesOf_71 : decode cX8_placesOf 71 = .ok (.ifCond .eq 35, 3) := by decide +kernel
theorem dX8_placesOf_74 : decode cX8_placesOf 74 = .ok (.aload_n 0, 1) := by decide +kernel
theorem dX8_placesOf_75 : decode cX8_placesOf 75 = .ok (.getfield 69, 3) := by decide +kernel
theorem dX8_placesOf_78 : decode cX8_placesOf 78 = .ok (.iload 6, 2) := by decide +kernel
theorem dX8_placesOf_80 : decode cX8_placesOf 80 = .ok (.iaload, 1) := by decide +kernel
theorem dX8_placesOf_81 : decode cX8_placesOf 81 = .ok (.ifCond .ne 25, 3) := by decide +kernel
theorem dX8_placesOf_84 : decode cX8_placesOf 84 = .ok (.aload_n 0, 1) := by decide +kernel
theorem dX8_placesOf_85 : decode cX8_placesOf 85 = .ok (.iload 6, 2) := by decide +kernel
theorem dX8_placesOf_87 : decode cX8_placesOf 87 = .ok (.iload 4, 2) := by decide +kernel
theorem dX8_placesOf_89 : decode cX8_placesOf 89 = .ok (.iconst 0, 1) := by decide +kernel
theorem dX8_placesOf_90 : decode cX8_placesOf 90 = .ok (.invokevirtual 152, 3) := by decide +kernel
theorem dX8_placesOf_93 : decode cX8_placesOf 93 = .ok (.iload_n 1, 1) := by decide +kernel
theorem dX8_placesOf_94 : decode cX8_placesOf 94 = .ok (.if_icmp .lt 12, 3) := by decide +kernel
theorem dX8_placesOf_97 : decode cX8_placesOf 97 = .ok (.iload 5, 2) := by decide +kernel
theorem dX8_placesOf_99 : decode cX8_placesOf 99 = .ok (.iconst 1, 1) := by decide +kernel
theorem dX8_placesOf_100 : decode cX8_placesOf 100 = .ok (.iload 6, 2) := by decide +kernel
theorem dX8_placesOf_102 : decode cX8_placesOf 102 = .ok (.ishl, 1) := by decide +kernel
theorem dX8_placesOf_103 : decode cX8_placesOf 103 = .ok (.ior, 1) := by decide +kernel
theorem dX8_placesOf_104 : decode cX8_placesOf 104 = .ok (.istore 5, 2) := by decide +kernel
theorem dX8_placesOf_106 : decode cX8_placesOf 106 = .ok (.iinc 6 1, 3) := by decide +kernel
theorem dX8_placesOf_109 : decode cX8_placesOf 109 = .ok (.goto (-51), 3) := by decide +kernel
theorem dX8_placesOf_112 : decode cX8_placesOf 112 = .ok (.iconst 0, 1) := by decide +kernel
theorem dX8_placesOf_113 : decode cX8_placesOf 113 = .ok (.istore 6, 2) := by decide +kernel
theorem dX8_placesOf_115 : decode cX8_placesOf 115 = .ok (.iload 6, 2) := by decide +kernel
theorem dX8_placesOf_117 : decode cX8_placesOf 117 = .ok (.bipush 10, 2) := by decide +kernel
theorem dX8_placesOf_119 : decode cX8_placesOf 119 = .ok (.if_icmp .ge 81, 3) := by decide +kernel
theorem dX8_placesOf_122 : decode cX8_placesOf 122 = .ok (.iload 5, 2) := by decide +kernel
theorem dX8_placesOf_124 : decode cX8_placesOf 124 = .ok (.iload 6, 2) := by decide +kernel
theorem dX8_placesOf_126 : decode cX8_placesOf 126 = .ok (.ishr, 1) := by decide +kernel
theorem dX8_placesOf_127 : decode cX8_placesOf 127 = .ok (.iconst 1, 1) := by decide +kernel
theorem dX8_placesOf_128 : decode cX8_placesOf 128 = .ok (.iand, 1) := by decide +kernel
theorem dX8_placesOf_129 : decode cX8_placesOf 129 = .ok (.ifCond .ne 6, 3) := by decide +kernel
theorem dX8_placesOf_132 : decode cX8_placesOf 132 = .ok (.goto 62, 3) := by decide +kernel
theorem dX8_placesOf_135 : decode cX8_placesOf 135 = .ok (.iconst 0, 1) := by decide +kernel
theorem dX8_placesOf_136 : decode cX8_placesOf 136 = .ok (.istore 7, 2) := by decide +kernel
theorem dX8_placesOf_138 : decode cX8_placesOf 138 = .ok (.iconst 0, 1) := by decide +kernel
theorem dX8_placesOf_139 : decode cX8_placesOf 139 = .ok (.istore 8, 2) := by decide +kernel
theorem dX8_placesOf_141 : decode cX8_placesOf 141 = .ok (.iload 8, 2) := by decide +kernel
theorem dX8_placesOf_143 : decode cX8_placesOf 143 = .ok (.bipush 10, 2) := by decide +kernel
theorem dX8_placesOf_145 : decode cX8_placesOf 145 = .ok (.if_icmp .ge 36, 3) := by decide +kernel
theorem dX8_placesOf_148 : decode cX8_placesOf 148 = .ok (.iload 5, 2) := by decide +kernel
theorem dX8_placesOf_150 : decode cX8_placesOf 150 = .ok (.iload 8, 2) := by decide +kernel
theorem dX8_placesOf_152 : decode cX8_placesOf 152 = .ok (.ishr, 1) := by decide +kernel
theorem dX8_placesOf_153 : decode cX8_placesOf 153 = .ok (.iconst 1, 1) := by decide +kernel
theorem dX8_placesOf_154 : decode cX8_placesOf 154 = .ok (.iand, 1) := by decide +kernel
theorem dX8_placesOf_155 : decode cX8_placesOf 155 = .ok (.iconst 1, 1) := by decide +kernel
theorem dX8_placesOf_156 : decode cX8_placesOf 156 = .ok (.if_icmp .ne 19, 3) := by decide +kernel
theorem dX8_placesOf_159 : decode cX8_placesOf 159 = .ok (.aload_n 0, 1) := by decide +kernel
theorem dX8_placesOf_160 : decode cX8_placesOf 160 = .ok (.iload 8, 2) := by decide +kernel
theorem dX8_placesOf_162 : decode cX8_placesOf 162 = .ok (.iload 6, 2) := by decide +kernel
theorem dX8_placesOf_164 : decode cX8_placesOf 164 = .ok (.iload 4, 2) := by decide +kernel
theorem dX8_placesOf_166 : decode cX8_placesOf 166 = .ok (.invokevirtual 163, 3) := by decide +kernel
theorem dX8_placesOf_169 : decode cX8_placesOf 169 = .ok (.ifCond .ge 6, 3) := by decide +kernel
theorem dX8_placesOf_172 : decode cX8_placesOf 172 = .ok (.iinc 7 1, 3) := by decide +kernel
theorem dX8_placesOf_175 : decode cX8_placesOf 175 = .ok (.iinc 8 1, 3) := by decide +kernel
theorem dX8_placesOf_178 : decode cX8_placesOf 178 = .ok (.goto (-37), 3) := by decide +kernel
theorem dX8_placesOf_181 : decode cX8_placesOf 181 = .ok (.aload_n 0, 1) := by decide +kernel
theorem dX8_placesOf_182 : decode cX8_placesOf 182 = .ok (.getfield 69, 3) := by decide +kernel
theorem dX8_placesOf_185 : decode cX8_placesOf 185 = .ok (.iload 6, 2) := by decide +kernel
theorem dX8_placesOf_187 : decode cX8_placesOf 187 = .ok (.iload_n 3, 1) := by decide +kernel
theorem dX8_placesOf_188 : decode cX8_placesOf 188 = .ok (.iload 7, 2) := by decide +kernel
theorem dX8_placesOf_190 : decode cX8_placesOf 190 = .ok (.iadd, 1) := by decide +kernel
theorem dX8_placesOf_191 : decode cX8_placesOf 191 = .ok (.iconst 1, 1) := by decide +kernel
theorem dX8_placesOf_192 : decode cX8_placesOf 192 = .ok (.iadd, 1) := by decide +kernel
theorem dX8_placesOf_193 : decode cX8_placesOf 193 = .ok (.iastore, 1) := by decide +kernel
theorem dX8_placesOf_194 : decode cX8_placesOf 194 = .ok (.iinc 6 1, 3) := by decide +kernel
theorem dX8_placesOf_197 : decode cX8_placesOf 197 = .ok (.goto (-82), 3) := by decide +kernel
theorem dX8_placesOf_200 : decode cX8_placesOf 200 = .ok (.iload_n 3, 1) := by decide +kernel
theorem dX8_placesOf_201 : decode cX8_placesOf 201 = .ok (.iload 5, 2) := by decide +kernel
theorem dX8_placesOf_203 : decode cX8_placesOf 203 = .ok (.invokestatic 144, 3) := by decide +kernel
theorem dX8_placesOf_206 : decode cX8_placesOf 206 = .ok (.iadd, 1) := by decide +kernel
theorem dX8_placesOf_207 : decode cX8_placesOf 207 = .ok (.istore_n 3, 1) := by decide +kernel
theorem dX8_placesOf_208 : decode cX8_placesOf 208 = .ok (.iinc 4 1, 3) := by decide +kernel
theorem dX8_placesOf_211 : decode cX8_placesOf 211 = .ok (.goto (-165), 3) := by decide +kernel
theorem dX8_placesOf_214 : decode cX8_placesOf 214 = .ok (.return_, 1) := by decide +kernel
theorem dX8_place__0 : decode cX8_place_ 0 = .ok (.aload_n 0, 1) := by decide +kernel
theorem dX8_place__1 : decode cX8_place_ 1 = .ok (.iload_n 1, 1) := by decide +kernel
theorem dX8_place__2 : decode cX8_place_ 2 = .ok (.invokevirtual 160, 3) := by decide +kernel
theorem dX8_place__5 : decode cX8_place_ 5 = .ok (.ifCond .eq 10, 3) := by decide +kernel
theorem dX8_place__8 : decode cX8_place_ 8 = .ok (.aload_n 0, 1) := by decide +kernel
theorem dX8_place__9 : decode cX8_place_ 9 = .ok (.invokevirtual 156, 3) := by decide +kernel
theorem dX8_place__12 : decode cX8_place_ 12 = .ok (.ifCond .ne 5, 3) := by decide +kernel
theorem dX8_place__15 : decode cX8_place_ 15 = .ok (.iconst (-1), 1) := by decide +kernel
theorem dX8_place__16 : decode cX8_place_ 16 = .ok (.ireturn, 1) := by decide +kernel
theorem dX8_place__17 : decode cX8_place_ 17 = .ok (.aload_n 0, 1) := by decide +kernel
theorem dX8_place__18 : decode cX8_place_ 18 = .ok (.invokevirtual 166, 3) := by decide +kernel
theorem dX8_place__21 : decode cX8_place_ 21 = .ok (.aload_n 0, 1) := by decide +kernel
theorem dX8_place__22 : decode cX8_place_ 22 = .ok (.getfield 69, 3) := by decide +kernel
theorem dX8_place__25 : decode cX8_place_ 25 = .ok (.iload_n 1, 1) := by decide +kernel
theorem dX8_place__26 : decode cX8_place_ 26 = .ok (.iaload, 1) := by decide +kernel
theorem dX8_place__27 : decode cX8_place_ 27 = .ok (.ireturn, 1) := by decide +kernel
theorem dX8_ranks_0 : decode cX8_ranks 0 = .ok (.aload_n 0, 1) := by decide +kernel
theorem dX8_ranks_1 : decode cX8_ranks 1 = .ok (.iload_n 1, 1) := by decide +kernel
theorem dX8_ranks_2 : decode cX8_ranks 2 = .ok (.invokevirtual 160, 3) := by decide +kernel
theorem dX8_ranks_5 : decode cX8_ranks 5 = .ok (.ifCond .eq 17, 3) := by decide +kernel
theorem dX8_ranks_8 : decode cX8_ranks 8 = .ok (.iload_n 2, 1) := by decide +kernel
theorem dX8_ranks_9 : decode cX8_ranks 9 = .ok (.ifCond .le 13, 3) := by decide +kernel
theorem dX8_ranks_12 : decode cX8_ranks 12 = .ok (.aload_n 0, 1) := by decide +kernel
theorem dX8_ranks_13 : decode cX8_ranks 13 = .ok (.iload_n 1, 1) := by decide +kernel
theorem dX8_ranks_14 : decode cX8_ranks 14 = .ok (.iload_n 2, 1) := by decide +kernel
theorem dX8_ranks_15 : decode cX8_ranks 15 = .ok (.iconst 0, 1) := by decide +kernel
theorem dX8_ranks_16 : decode cX8_ranks 16 = .ok (.invokevirtual 152, 3) := by decide +kernel
theorem dX8_ranks_19 : decode cX8_ranks 19 = .ok (.goto 4, 3) := by decide +kernel
theorem dX8_ranks_22 : decode cX8_ranks 22 = .ok (.iconst (-1), 1) := by decide +kernel
theorem dX8_ranks_23 : decode cX8_ranks 23 = .ok (.ireturn, 1) := by decide +kernel
theorem dX8_member_0 : decode cX8_member 0 = .ok (.iload_n 1, 1) := by decide +kernel
theorem dX8_member_1 : decode cX8_member 1 = .ok (.iconst 0, 1) := by decide +kernel
theorem dX8_member_2 : decode cX8_member 2 = .ok (.bipush 29, 2) := by decide +kernel
theorem dX8_member_4 : decode cX8_member 4 = .ok (.invokestatic 102, 3) := by decide +kernel
theorem dX8_member_7 : decode cX8_member 7 = .ok (.ifCond .eq 45, 3) := by decide +kernel
theorem dX8_member_10 : decode cX8_member 10 = .ok (.iload_n 2, 1) := by decide +kernel
theorem dX8_member_11 : decode cX8_member 11 = .ok (.iconst 0, 1) := by decide +kernel
theorem dX8_member_12 : decode cX8_member 12 = .ok (.bipush 9, 2) := by decide +kernel
theorem dX8_member_14 : decode cX8_member 14 = .ok (.invokestatic 102, 3) := by decide +kernel
theorem dX8_member_17 : decode cX8_member 17 = .ok (.ifCond .eq 35, 3) := by decide +kernel
theorem dX8_member_20 : decode cX8_member 20 = .ok (.iload_n 3, 1) := by decide +kernel
theorem dX8_member_21 : decode cX8_member 21 = .ok (.iconst 0, 1) := by decide +kernel
theorem dX8_member_22 : decode cX8_member 22 = .ok (.sipush 1000, 3) := by decide +kernel
theorem dX8_member_25 : decode cX8_member 25 = .ok (.invokestatic 102, 3) := by decide +kernel
theorem dX8_member_28 : decode cX8_member 28 = .ok (.ifCond .eq 24, 3) := by decide +kernel
theorem dX8_member_31 : decode cX8_member 31 = .ok (.iload 4, 2) := by decide +kernel
theorem dX8_member_33 : decode cX8_member 33 = .ok (.iload_n 3, 1) := by decide +kernel
theorem dX8_member_34 : decode cX8_member 34 = .ok (.sipush 1000, 3) := by decide +kernel
theorem dX8_member_37 : decode cX8_member 37 = .ok (.invokestatic 102, 3) := by decide +kernel
theorem dX8_member_40 : decode cX8_member 40 = .ok (.ifCond .eq 12, 3) := by decide +kernel
theorem dX8_member_43 : decode cX8_member 43 = .ok (.aload_n 0, 1) := by decide +kernel
theorem dX8_member_44 : decode cX8_member 44 = .ok (.getfield 169, 3) := by decide +kernel
theorem dX8_member_47 : decode cX8_member 47 = .ok (.bipush 60, 2) := by decide +kernel
theorem dX8_member_49 : decode cX8_member 49 = .ok (.if_icmp .ne 5, 3) := by decide +kernel
theorem dX8_member_52 : decode cX8_member 52 = .ok (.iconst (-1), 1) := by decide +kernel
theorem dX8_member_53 : decode cX8_member 53 = .ok (.ireturn, 1) := by decide +kernel
theorem dX8_member_54 : decode cX8_member 54 = .ok (.aload_n 0, 1) := by decide +kernel
theorem dX8_member_55 : decode cX8_member 55 = .ok (.getfield 72, 3) := by decide +kernel
theorem dX8_member_58 : decode cX8_member 58 = .ok (.aload_n 0, 1) := by decide +kernel
theorem dX8_member_59 : decode cX8_member 59 = .ok (.getfield 169, 3) := by decide +kernel
theorem dX8_member_62 : decode cX8_member 62 = .ok (.iload_n 1, 1) := by decide +kernel
theorem dX8_member_63 : decode cX8_member 63 = .ok (.iastore, 1) := by decide +kernel
theorem dX8_member_64 : decode cX8_member 64 = .ok (.aload_n 0, 1) := by decide +kernel
theorem dX8_member_65 : decode cX8_member 65 = .ok (.getfield 75, 3) := by decide +kernel
theorem dX8_member_68 : decode cX8_member 68 = .ok (.aload_n 0, 1) := by decide +kernel
theorem dX8_member_69 : decode cX8_member 69 = .ok (.getfield 169, 3) := by decide +kernel
theorem dX8_member_72 : decode cX8_member 72 = .ok (.iload_n 2, 1) := by decide +kernel
theorem dX8_member_73 : decode cX8_member 73 = .ok (.iastore, 1) := by decide +kernel
theorem dX8_member_74 : decode cX8_member 74 = .ok (.aload_n 0, 1) := by decide +kernel
theorem dX8_member_75 : decode cX8_member 75 = .ok (.getfield 78, 3) := by decide +kernel
theorem dX8_member_78 : decode cX8_member 78 = .ok (.aload_n 0, 1) := by decide +kernel
theorem dX8_member_79 : decode cX8_member 79 = .ok (.getfield 169, 3) := by decide +kernel
theorem dX8_member_82 : decode cX8_member 82 = .ok (.iload_n 3, 1) := by decide +kernel
theorem dX8_member_83 : decode cX8_member 83 = .ok (.iastore, 1) := by decide +kernel
theorem dX8_member_84 : decode cX8_member 84 = .ok (.aload_n 0, 1) := by decide +kernel
theorem dX8_member_85 : decode cX8_member 85 = .ok (.getfield 81, 3) := by decide +kernel
theorem dX8_member_88 : decode cX8_member 88 = .ok (.aload_n 0, 1) := by decide +kernel
theorem dX8_member_89 : decode cX8_member 89 = .ok (.getfield 169, 3) := by decide +kernel
theorem dX8_member_92 : decode cX8_member 92 = .ok (.iload 4, 2) := by decide +kernel
theorem dX8_member_94 : decode cX8_member 94 = .ok (.iastore, 1) := by decide +kernel
theorem dX8_member_95 : decode cX8_member 95 = .ok (.aload_n 0, 1) := by decide +kernel
theorem dX8_member_96 : decode cX8_member 96 = .ok (.dup, 1) := by decide +kernel
theorem dX8_member_97 : decode cX8_member 97 = .ok (.getfield 169, 3) := by decide +kernel
theorem dX8_member_100 : decode cX8_member 100 = .ok (.iconst 1, 1) := by decide +kernel
theorem dX8_member_101 : decode cX8_member 101 = .ok (.iadd, 1) := by decide +kernel
theorem dX8_member_102 : decode cX8_member 102 = .ok (.putfield 169, 3) := by decide +kernel
theorem dX8_member_105 : decode cX8_member 105 = .ok (.aload_n 0, 1) := by decide +kernel
theorem dX8_member_106 : decode cX8_member 106 = .ok (.getfield 169, 3) := by decide +kernel
theorem dX8_member_109 : decode cX8_member 109 = .ok (.ireturn, 1) := by decide +kernel
theorem dX8_singers_0 : decode cX8_singers 0 = .ok (.iload_n 1, 1) := by decide +kernel
theorem dX8_singers_1 : decode cX8_singers 1 = .ok (.iconst 0, 1) := by decide +kernel
theorem dX8_singers_2 : decode cX8_singers 2 = .ok (.bipush 9, 2) := by decide +kernel
theorem dX8_singers_4 : decode cX8_singers 4 = .ok (.invokestatic 102, 3) := by decide +kernel
theorem dX8_singers_7 : decode cX8_singers 7 = .ok (.ifCond .eq 14, 3) := by decide +kernel
theorem dX8_singers_10 : decode cX8_singers 10 = .ok (.iload_n 2, 1) := by decide +kernel
theorem dX8_singers_11 : decode cX8_singers 11 = .ok (.iconst 0, 1) := by decide +kernel
theorem dX8_singers_12 : decode cX8_singers 12 = .ok (.sipush 1000, 3) := by decide +kernel
theorem dX8_singers_15 : decode cX8_singers 15 = .ok (.invokestatic 102, 3) := by decide +kernel
theorem dX8_singers_18 : decode cX8_singers 18 = .ok (.ifCond .ne 5, 3) := by decide +kernel
theorem dX8_singers_21 : decode cX8_singers 21 = .ok (.iconst (-1), 1) := by decide +kernel
theorem dX8_singers_22 : decode cX8_singers 22 = .ok (.ireturn, 1) := by decide +kernel
theorem dX8_singers_23 : decode cX8_singers 23 = .ok (.iconst 0, 1) := by decide +kernel
theorem dX8_singers_24 : decode cX8_singers 24 = .ok (.istore_n 3, 1) := by decide +kernel
theorem dX8_singers_25 : decode cX8_singers 25 = .ok (.iconst 0, 1) := by decide +kernel
theorem dX8_singers_26 : decode cX8_singers 26 = .ok (.istore 4, 2) := by decide +kernel
theorem dX8_singers_28 : decode cX8_singers 28 = .ok (.iload 4, 2) := by decide +kernel
theorem dX8_singers_30 : decode cX8_singers 30 = .ok (.aload_n 0, 1) := by decide +kernel
theorem dX8_singers_31 : decode cX8_singers 31 = .ok (.getfield 169, 3) := by decide +kernel
theorem dX8_singers_34 : decode cX8_singers 34 = .ok (.if_icmp .ge 54, 3) := by decide +kernel
theorem dX8_singers_37 : decode cX8_singers 37 = .ok (.aload_n 0, 1) := by decide +kernel
theorem dX8_singers_38 : decode cX8_singers 38 = .ok (.getfield 75, 3) := by decide +kernel
theorem dX8_singers_41 : decode cX8_singers 41 = .ok (.iload 4, 2) := by decide +kernel
theorem dX8_singers_43 : decode cX8_singers 43 = .ok (.iaload, 1) := by decide +kernel
theorem dX8_singers_44 : decode cX8_singers 44 = .ok (.iload_n 1, 1) := by decide +kernel
theorem dX8_singers_45 : decode cX8_singers 45 = .ok (.if_icmp .ne 37, 3) := by decide +kernel
theorem dX8_singers_48 : decode cX8_singers 48 = .ok (.aload_n 0, 1) := by decide +kernel
theorem dX8_singers_49 : decode cX8_singers 49 = .ok (.getfield 78, 3) := by decide +kernel
theorem dX8_singers_52 : decode cX8_singers 52 = .ok (.iload 4, 2) := by decide +kernel
theorem dX8_singers_54 : decode cX8_singers 54 = .ok (.iaload, 1) := by decide +kernel
theorem dX8_singers_55 : decode cX8_singers 55 = .ok (.iload_n 2, 1) := by decide +kernel
theorem dX8_singers_56 : decode cX8_singers 56 = .ok (.if_icmp .gt 26, 3) := by decide +kernel
theorem dX8_singers_59 : decode cX8_singers 59 = .ok (.aload_n 0, 1) := by decide +kernel
theorem dX8_singers_60 : decode cX8_singers 60 = .ok (.getfield 81, 3) := by decide +kernel
theorem dX8_singers_63 : decode cX8_singers 63 = .ok (.iload 4, 2) := by decide +kernel
theorem dX8_singers_65 : decode cX8_singers 65 = .ok (.iaload, 1) := by decide +kernel
theorem dX8_singers_66 : decode cX8_singers 66 = .ok (.iload_n 2, 1) := by decide +kernel
theorem dX8_singers_67 : decode cX8_singers 67 = .ok (.if_icmp .lt 15, 3) := by decide +kernel
theorem dX8_singers_70 : decode cX8_singers 70 = .ok (.iload_n 3, 1) := by decide +kernel
theorem dX8_singers_71 : decode cX8_singers 71 = .ok (.iconst 1, 1) := by decide +kernel
theorem dX8_singers_72 : decode cX8_singers 72 = .ok (.aload_n 0, 1) := by decide +kernel
theorem dX8_singers_73 : decode cX8_singers 73 = .ok (.getfield 72, 3) := by decide +kernel
theorem dX8_singers_76 : decode cX8_singers 76 = .ok (.iload 4, 2) := by decide +kernel
theorem dX8_singers_78 : decode cX8_singers 78 = .ok (.iaload, 1) := by decide +kernel
theorem dX8_singers_79 : decode cX8_singers 79 = .ok (.ishl, 1) := by decide +kernel
theorem dX8_singers_80 : decode cX8_singers 80 = .ok (.ior, 1) := by decide +kernel
theorem dX8_singers_81 : decode cX8_singers 81 = .ok (.istore_n 3, 1) := by decide +kernel
theorem dX8_singers_82 : decode cX8_singers 82 = .ok (.iinc 4 1, 3) := by decide +kernel
theorem dX8_singers_85 : decode cX8_singers 85 = .ok (.goto (-57), 3) := by decide +kernel
theorem dX8_singers_88 : decode cX8_singers 88 = .ok (.iload_n 3, 1) := by decide +kernel
theorem dX8_singers_89 : decode cX8_singers 89 = .ok (.ireturn, 1) := by decide +kernel
theorem dX8_may_0 : decode cX8_may 0 = .ok (.iload_n 1, 1) := by decide +kernel
theorem dX8_may_1 : decode cX8_may 1 = .ok (.iconst 0, 1) := by decide +kernel
theorem dX8_may_2 : decode cX8_may 2 = .ok (.bipush 29, 2) := by decide +kernel
theorem dX8_may_4 : decode cX8_may 4 = .ok (.invokestatic 102, 3) := by decide +kernel
theorem dX8_may_7 : decode cX8_may 7 = .ok (.ifCond .eq 24, 3) := by decide +kernel
theorem dX8_may_10 : decode cX8_may 10 = .ok (.iload_n 2, 1) := by decide +kernel
theorem dX8_may_11 : decode cX8_may 11 = .ok (.iconst 0, 1) := by decide +kernel
theorem dX8_may_12 : decode cX8_may 12 = .ok (.bipush 9, 2) := by decide +kernel
theorem dX8_may_14 : decode cX8_may 14 = .ok (.invokestatic 102, 3) := by decide +kernel
theorem dX8_may_17 : decode cX8_may 17 = .ok (.ifCond .eq 14, 3) := by decide +kernel
theorem dX8_may_20 : decode cX8_may 20 = .ok (.iload_n 3, 1) := by decide +kernel
theorem dX8_may_21 : decode cX8_may 21 = .ok (.iconst 0, 1) := by decide +kernel
theorem dX8_may_22 : decode cX8_may 22 = .ok (.sipush 1000, 3) := by decide +kernel
theorem dX8_may_25 : decode cX8_may 25 = .ok (.invokestatic 102, 3) := by decide +kernel
theorem dX8_may_28 : decode cX8_may 28 = .ok (.ifCond .ne 5, 3) := by decide +kernel
theorem dX8_may_31 : decode cX8_may 31 = .ok (.iconst (-1), 1) := by decide +kernel
theorem dX8_may_32 : decode cX8_may 32 = .ok (.ireturn, 1) := by decide +kernel
theorem dX8_may_33 : decode cX8_may 33 = .ok (.aload_n 0, 1) := by decide +kernel
theorem dX8_may_34 : decode cX8_may 34 = .ok (.iload_n 2, 1) := by decide +kernel
theorem dX8_may_35 : decode cX8_may 35 = .ok (.iload_n 3, 1) := by decide +kernel
theorem dX8_may_36 : decode cX8_may 36 = .ok (.invokevirtual 172, 3) := by decide +kernel
theorem dX8_may_39 : decode cX8_may 39 = .ok (.iload_n 1, 1) := by decide +kernel
theorem dX8_may_40 : decode cX8_may 40 = .ok (.ishr, 1) := by decide +kernel
theorem dX8_may_41 : decode cX8_may 41 = .ok (.iconst 1, 1) := by decide +kernel
theorem dX8_may_42 : decode cX8_may 42 = .ok (.iand, 1) := by decide +kernel
theorem dX8_may_43 : decode cX8_may 43 = .ok (.ireturn, 1) := by decide +kernel
theorem dX8_perform_0 : decode cX8_perform 0 = .ok (.iload_n 1, 1) := by decide +kernel
theorem dX8_perform_1 : decode cX8_perform 1 = .ok (.iconst 0, 1) := by decide +kernel
theorem dX8_perform_2 : decode cX8_perform 2 = .ok (.bipush 9, 2) := by decide +kernel
theorem dX8_perform_4 : decode cX8_perform 4 = .ok (.invokestatic 102, 3) := by decide +kernel
theorem dX8_perform_7 : decode cX8_perform 7 = .ok (.ifCond .eq 12, 3) := by decide +kernel
theorem dX8_perform_10 : decode cX8_perform 10 = .ok (.aload_n 0, 1) := by decide +kernel
theorem dX8_perform_11 : decode cX8_perform 11 = .ok (.getfield 175, 3) := by decide +kernel
theorem dX8_perform_14 : decode cX8_perform 14 = .ok (.bipush 12, 2) := by decide +kernel
theorem dX8_perform_16 : decode cX8_perform 16 = .ok (.if_icmp .ne 5, 3) := by decide +kernel
theorem dX8_perform_19 : decode cX8_perform 19 = .ok (.iconst (-1), 1) := by decide +kernel
theorem dX8_perform_20 : decode cX8_perform 20 = .ok (.ireturn, 1) := by decide +kernel
theorem dX8_perform_21 : decode cX8_perform 21 = .ok (.aload_n 0, 1) := by decide +kernel
theorem dX8_perform_22 : decode cX8_perform 22 = .ok (.getfield 84, 3) := by decide +kernel
theorem dX8_perform_25 : decode cX8_perform 25 = .ok (.aload_n 0, 1) := by decide +kernel
theorem dX8_perform_26 : decode cX8_perform 26 = .ok (.getfield 175, 3) := by decide +kernel
theorem dX8_perform_29 : decode cX8_perform 29 = .ok (.iload_n 1, 1) := by decide +kernel
theorem dX8_perform_30 : decode cX8_perform 30 = .ok (.iastore, 1) := by decide +kernel
theorem dX8_perform_31 : decode cX8_perform 31 = .ok (.aload_n 0, 1) := by decide +kernel
theorem dX8_perform_32 : decode cX8_perform 32 = .ok (.dup, 1) := by decide +kernel
theorem dX8_perform_33 : decode cX8_perform 33 = .ok (.getfield 175, 3) := by decide +kernel
theorem dX8_perform_36 : decode cX8_perform 36 = .ok (.iconst 1, 1) := by decide +kernel
theorem dX8_perform_37 : decode cX8_perform 37 = .ok (.iadd, 1) := by decide +kernel
theorem dX8_perform_38 : decode cX8_perform 38 = .ok (.putfield 175, 3) := by decide +kernel
theorem dX8_perform_41 : decode cX8_perform 41 = .ok (.aload_n 0, 1) := by decide +kernel
theorem dX8_perform_42 : decode cX8_perform 42 = .ok (.getfield 175, 3) := by decide +kernel
theorem dX8_perform_45 : decode cX8_perform 45 = .ok (.iconst 1, 1) := by decide +kernel
theorem dX8_perform_46 : decode cX8_perform 46 = .ok (.isub, 1) := by decide +kernel
theorem dX8_perform_47 : decode cX8_perform 47 = .ok (.ireturn, 1) := by decide +kernel
theorem dX8_clear_0 : decode cX8_clear 0 = .ok (.aload_n 0, 1) := by decide +kernel
theorem dX8_clear_1 : decode cX8_clear 1 = .ok (.getfield 175, 3) := by decide +kernel
theorem dX8_clear_4 : decode cX8_clear 4 = .ok (.istore_n 1, 1) := by decide +kernel
theorem dX8_clear_5 : decode cX8_clear 5 = .ok (.aload_n 0, 1) := by decide +kernel
theorem dX8_clear_6 : decode cX8_clear 6 = .ok (.iconst 0, 1) := by decide +kernel
theorem dX8_clear_7 : decode cX8_clear 7 = .ok (.putfield 175, 3) := by decide +kernel
theorem dX8_clear_10 : decode cX8_clear 10 = .ok (.iload_n 1, 1) := by decide +kernel
theorem dX8_clear_11 : decode cX8_clear 11 = .ok (.ireturn, 1) := by decide +kernel
theorem dX8_halls_0 : decode cX8_halls 0 = .ok (.iload_n 1, 1) := by decide +kernel
theorem dX8_halls_1 : decode cX8_halls 1 = .ok (.iconst 1, 1) := by decide +kernel
theorem dX8_halls_2 : decode cX8_halls 2 = .ok (.iconst 4, 1) := by decide +kernel
theorem dX8_halls_3 : decode cX8_halls 3 = .ok (.invokestatic 102, 3) := by decide +kernel
theorem dX8_halls_6 : decode cX8_halls 6 = .ok (.ifCond .ne 5, 3) := by decide +kernel
theorem dX8_halls_9 : decode cX8_halls 9 = .ok (.iconst (-1), 1) := by decide +kernel
theorem dX8_halls_10 : decode cX8_halls 10 = .ok (.ireturn, 1) := by decide +kernel
theorem dX8_halls_11 : decode cX8_halls 11 = .ok (.aload_n 0, 1) := by decide +kernel
theorem dX8_halls_12 : decode cX8_halls 12 = .ok (.getfield 87, 3) := by decide +kernel
theorem dX8_halls_15 : decode cX8_halls 15 = .ok (.istore_n 2, 1) := by decide +kernel
theorem dX8_halls_16 : decode cX8_halls 16 = .ok (.aload_n 0, 1) := by decide +kernel
theorem dX8_halls_17 : decode cX8_halls 17 = .ok (.iload_n 1, 1) := by decide +kernel
theorem dX8_halls_18 : decode cX8_halls 18 = .ok (.putfield 87, 3) := by decide +kernel
theorem dX8_halls_21 : decode cX8_halls 21 = .ok (.iload_n 2, 1) := by decide +kernel
theorem dX8_halls_22 : decode cX8_halls 22 = .ok (.ireturn, 1) := by decide +kernel
theorem dX8_mayBe_0 : decode cX8_mayBe 0 = .ok (.iconst 0, 1) := by decide +kernel
theorem dX8_mayBe_1 : decode cX8_mayBe 1 = .ok (.istore_n 3, 1) := by decide +kernel
theorem dX8_mayBe_2 : decode cX8_mayBe 2 = .ok (.iconst 0, 1) := by decide +kernel
theorem dX8_mayBe_3 : decode cX8_mayBe 3 = .ok (.istore 4, 2) := by decide +kernel
theorem dX8_mayBe_5 : decode cX8_mayBe 5 = .ok (.iload 4, 2) := by decide +kernel
theorem dX8_mayBe_7 : decode cX8_mayBe 7 = .ok (.iload_n 1, 1) := by decide +kernel
theorem dX8_mayBe_8 : decode cX8_mayBe 8 = .ok (.if_icmp .ge 43, 3) := by decide +kernel
theorem dX8_mayBe_11 : decode cX8_mayBe 11 = .ok (.aload_n 0, 1) := by decide +kernel
theorem dX8_mayBe_12 : decode cX8_mayBe 12 = .ok (.getfield 93, 3) := by decide +kernel
theorem dX8_mayBe_15 : decode cX8_mayBe 15 = .ok (.iload 4, 2) := by decide +kernel
theorem dX8_mayBe_17 : decode cX8_mayBe 17 = .ok (.iaload, 1) := by decide +kernel
theorem dX8_mayBe_18 : decode cX8_mayBe 18 = .ok (.iload_n 2, 1) := by decide +kernel
theorem dX8_mayBe_19 : decode cX8_mayBe 19 = .ok (.if_icmp .eq 6, 3) := by decide +kernel
theorem dX8_mayBe_22 : decode cX8_mayBe 22 = .ok (.goto 23, 3) := by decide +kernel
theorem dX8_mayBe_25 : decode cX8_mayBe 25 = .ok (.iinc 3 1, 3) := by decide +kernel
theorem dX8_mayBe_28 : decode cX8_mayBe 28 = .ok (.aload_n 0, 1) := by decide +kernel
theorem dX8_mayBe_29 : decode cX8_mayBe 29 = .ok (.getfield 96, 3) := by decide +kernel
theorem dX8_mayBe_32 : decode cX8_mayBe 32 = .ok (.bipush 12, 2) := by decide +kernel
theorem dX8_mayBe_34 : decode cX8_mayBe 34 = .ok (.iload_n 1, 1) := by decide +kernel
theorem dX8_mayBe_35 : decode cX8_mayBe 35 = .ok (.imul, 1) := by decide +kernel
theorem dX8_mayBe_36 : decode cX8_mayBe 36 = .ok (.iload 4, 2) := by decide +kernel
theorem dX8_mayBe_38 : decode cX8_mayBe 38 = .ok (.iadd, 1) := by decide +kernel
theorem dX8_mayBe_39 : decode cX8_mayBe 39 = .ok (.baload, 1) := by decide +kernel
theorem dX8_mayBe_40 : decode cX8_mayBe 40 = .ok (.ifCond .eq 5, 3) := by decide +kernel
theorem dX8_mayBe_43 : decode cX8_mayBe 43 = .ok (.iconst 0, 1) := by decide +kernel
theorem dX8_mayBe_44 : decode cX8_mayBe 44 = .ok (.ireturn, 1) := by decide +kernel
theorem dX8_mayBe_45 : decode cX8_mayBe 45 = .ok (.iinc 4 1, 3) := by decide +kernel
theorem dX8_mayBe_48 : decode cX8_mayBe 48 = .ok (.goto (-43), 3) := by decide +kernel
theorem dX8_mayBe_51 : decode cX8_mayBe 51 = .ok (.iload_n 3, 1) := by decide +kernel
theorem dX8_mayBe_52 : decode cX8_mayBe 52 = .ok (.aload_n 0, 1) := by decide +kernel
theorem dX8_mayBe_53 : decode cX8_mayBe 53 = .ok (.getfield 87, 3) := by decide +kernel
theorem dX8_mayBe_56 : decode cX8_mayBe 56 = .ok (.if_icmp .ge 7, 3) := by decide +kernel
theorem dX8_mayBe_59 : decode cX8_mayBe 59 = .ok (.iconst 1, 1) := by decide +kernel
theorem dX8_mayBe_60 : decode cX8_mayBe 60 = .ok (.goto 4, 3) := by decide +kernel
theorem dX8_mayBe_63 : decode cX8_mayBe 63 = .ok (.iconst 0, 1) := by decide +kernel
theorem dX8_mayBe_64 : decode cX8_mayBe 64 = .ok (.ireturn, 1) := by decide +kernel
theorem dX8_stand_0 : decode cX8_stand 0 = .ok (.iconst 0, 1) := by decide +kernel
theorem dX8_stand_1 : decode cX8_stand 1 = .ok (.istore_n 2, 1) := by decide +kernel
theorem dX8_stand_2 : decode cX8_stand 2 = .ok (.aload_n 0, 1) := by decide +kernel
theorem dX8_stand_3 : decode cX8_stand 3 = .ok (.getfield 93, 3) := by decide +kernel
theorem dX8_stand_6 : decode cX8_stand 6 = .ok (.iconst 0, 1) := by decide +kernel
theorem dX8_stand_7 : decode cX8_stand 7 = .ok (.iconst (-1), 1) := by decide +kernel
theorem dX8_stand_8 : decode cX8_stand 8 = .ok (.iastore, 1) := by decide +kernel
theorem dX8_stand_9 : decode cX8_stand 9 = .ok (.iload_n 2, 1) := by decide +kernel
theorem dX8_stand_10 : decode cX8_stand 10 = .ok (.ifCond .lt 131, 3) := by decide +kernel
theorem dX8_stand_13 : decode cX8_stand 13 = .ok (.iload_n 2, 1) := by decide +kernel
theorem dX8_stand_14 : decode cX8_stand 14 = .ok (.aload_n 0, 1) := by decide +kernel
theorem dX8_stand_15 : decode cX8_stand 15 = .ok (.getfield 175, 3) := by decide +kernel
theorem dX8_stand_18 : decode cX8_stand 18 = .ok (.if_icmp .ge 123, 3) := by decide +kernel
theorem dX8_stand_21 : decode cX8_stand 21 = .ok (.iconst 0, 1) := by decide +kernel
theorem dX8_stand_22 : decode cX8_stand 22 = .ok (.istore_n 3, 1) := by decide +kernel
theorem dX8_stand_23 : decode cX8_stand 23 = .ok (.iconst 0, 1) := by decide +kernel
theorem dX8_stand_24 : decode cX8_stand 24 = .ok (.istore 4, 2) := by decide +kernel
theorem dX8_stand_26 : decode cX8_stand 26 = .ok (.iload 4, 2) := by decide +kernel
theorem dX8_stand_28 : decode cX8_stand 28 = .ok (.iload_n 2, 1) := by decide +kernel
theorem dX8_stand_29 : decode cX8_stand 29 = .ok (.if_icmp .ge 30, 3) := by decide +kernel
theorem dX8_stand_32 : decode cX8_stand 32 = .ok (.aload_n 0, 1) := by decide +kernel
theorem dX8_stand_33 : decode cX8_stand 33 = .ok (.getfield 93, 3) := by decide +kernel
theorem dX8_stand_36 : decode cX8_stand 36 = .ok (.iload 4, 2) := by decide +kernel
theorem dX8_stand_38 : decode cX8_stand 38 = .ok (.iaload, 1) := by decide +kernel
theorem dX8_stand_39 : decode cX8_stand 39 = .ok (.iload_n 3, 1) := by decide +kernel
theorem dX8_stand_40 : decode cX8_stand 40 = .ok (.if_icmp .lt 13, 3) := by decide +kernel
theorem dX8_stand_43 : decode cX8_stand 43 = .ok (.aload_n 0, 1) := by decide +kernel
theorem dX8_stand_44 : decode cX8_stand 44 = .ok (.getfield 93, 3) := by decide +kernel
theorem dX8_stand_47 : decode cX8_stand 47 = .ok (.iload 4, 2) := by decide +kernel
theorem dX8_stand_49 : decode cX8_stand 49 = .ok (.iaload, 1) := by decide +kernel
theorem dX8_stand_50 : decode cX8_stand 50 = .ok (.iconst 1, 1) := by decide +kernel
theorem dX8_stand_51 : decode cX8_stand 51 = .ok (.iadd, 1) := by decide +kernel
theorem dX8_stand_52 : decode cX8_stand 52 = .ok (.istore_n 3, 1) := by decide +kernel
theorem dX8_stand_53 : decode cX8_stand 53 = .ok (.iinc 4 1, 3) := by decide +kernel
theorem dX8_stand_56 : decode cX8_stand 56 = .ok (.goto (-30), 3) := by decide +kernel
theorem dX8_stand_59 : decode cX8_stand 59 = .ok (.iload_n 3, 1) := by decide +kernel
theorem dX8_stand_60 : decode cX8_stand 60 = .ok (.iload_n 1, 1) := by decide +kernel
theorem dX8_stand_61 : decode cX8_stand 61 = .ok (.iconst 1, 1) := by decide +kernel
theorem dX8_stand_62 : decode cX8_stand 62 = .ok (.isub, 1) := by decide +kernel
theorem dX8_stand_63 : decode cX8_stand 63 = .ok (.if_icmp .le 7, 3) := by decide +kernel
theorem dX8_stand_66 : decode cX8_stand 66 = .ok (.iload_n 1, 1) := by decide +kernel
theorem dX8_stand_67 : decode cX8_stand 67 = .ok (.iconst 1, 1) := by decide +kernel
theorem dX8_stand_68 : decode cX8_stand 68 = .ok (.isub, 1) := by decide +kernel
theorem dX8_stand_69 : decode cX8_stand 69 = .ok (.istore_n 3, 1) := by decide +kernel
theorem dX8_stand_70 : decode cX8_stand 70 = .ok (.aload_n 0, 1) := by decide +kernel
theorem dX8_stand_71 : decode cX8_stand 71 = .ok (.getfield 93, 3) := by decide +kernel
theorem dX8_stand_74 : decode cX8_stand 74 = .ok (.iload_n 2, 1) := by decide +kernel
theorem dX8_stand_75 : decode cX8_stand 75 = .ok (.dup2, 1) := by decide +kernel
theorem dX8_stand_76 : decode cX8_stand 76 = .ok (.iaload, 1) := by decide +kernel
theorem dX8_stand_77 : decode cX8_stand 77 = .ok (.iconst 1, 1) := by decide +kernel
theorem dX8_stand_78 : decode cX8_stand 78 = .ok (.iadd, 1) := by decide +kernel
theorem dX8_stand_79 : decode cX8_stand 79 = .ok (.iastore, 1) := by decide +kernel
theorem dX8_stand_80 : decode cX8_stand 80 = .ok (.aload_n 0, 1) := by decide +kernel
theorem dX8_stand_81 : decode cX8_stand 81 = .ok (.getfield 93, 3) := by decide +kernel
theorem dX8_stand_84 : decode cX8_stand 84 = .ok (.iload_n 2, 1) := by decide +kernel
theorem dX8_stand_85 : decode cX8_stand 85 = .ok (.iaload, 1) := by decide +kernel
theorem dX8_stand_86 : decode cX8_stand 86 = .ok (.iload_n 3, 1) := by decide +kernel
theorem dX8_stand_87 : decode cX8_stand 87 = .ok (.if_icmp .gt 17, 3) := by decide +kernel
theorem dX8_stand_90 : decode cX8_stand 90 = .ok (.aload_n 0, 1) := by decide +kernel
theorem dX8_stand_91 : decode cX8_stand 91 = .ok (.iload_n 2, 1) := by decide +kernel
theorem dX8_stand_92 : decode cX8_stand 92 = .ok (.aload_n 0, 1) := by decide +kernel
theorem dX8_stand_93 : decode cX8_stand 93 = .ok (.getfield 93, 3) := by decide +kernel
theorem dX8_stand_96 : decode cX8_stand 96 = .ok (.iload_n 2, 1) := by decide +kernel
theorem dX8_stand_97 : decode cX8_stand 97 = .ok (.iaload, 1) := by decide +kernel
theorem dX8_stand_98 : decode cX8_stand 98 = .ok (.invokevirtual 178, 3) := by decide +kernel
theorem dX8_stand_101 : decode cX8_stand 101 = .ok (.ifCond .eq (-31), 3) := by decide +kernel
theorem dX8_stand_104 : decode cX8_stand 104 = .ok (.aload_n 0, 1) := by decide +kernel
theorem dX8_stand_105 : decode cX8_stand 105 = .ok (.getfield 93, 3) := by decide +kernel
theorem dX8_stand_108 : decode cX8_stand 108 = .ok (.iload_n 2, 1) := by decide +kernel
theorem dX8_stand_109 : decode cX8_stand 109 = .ok (.iaload, 1) := by decide +kernel
theorem dX8_stand_110 : decode cX8_stand 110 = .ok (.iload_n 3, 1) := by decide +kernel
theorem dX8_stand_111 : decode cX8_stand 111 = .ok (.if_icmp .le 9, 3) := by decide +kernel
theorem dX8_stand_114 : decode cX8_stand 114 = .ok (.iinc 2 (-1), 3) := by decide +kernel
theorem dX8_stand_117 : decode cX8_stand 117 = .ok (.goto (-108), 3) := by decide +kernel
theorem dX8_stand_120 : decode cX8_stand 120 = .ok (.iinc 2 1, 3) := by decide +kernel
theorem dX8_stand_123 : decode cX8_stand 123 = .ok (.iload_n 2, 1) := by decide +kernel
theorem dX8_stand_124 : decode cX8_stand 124 = .ok (.aload_n 0, 1) := by decide +kernel
theorem dX8_stand_125 : decode cX8_stand 125 = .ok (.getfield 175, 3) := by decide +kernel
theorem dX8_stand_128 : decode cX8_stand 128 = .ok (.if_icmp .ge 10, 3) := by decide +kernel
theorem dX8_stand_131 : decode cX8_stand 131 = .ok (.aload_n 0, 1) := by decide +kernel
theorem dX8_stand_132 : decode cX8_stand 132 = .ok (.getfield 93, 3) := by decide +kernel
theorem dX8_stand_135 : decode cX8_stand 135 = .ok (.iload_n 2, 1) := by decide +kernel
theorem dX8_stand_136 : decode cX8_stand 136 = .ok (.iconst (-1), 1) := by decide +kernel
theorem dX8_stand_137 : decode cX8_stand 137 = .ok (.iastore, 1) := by decide +kernel
theorem dX8_stand_138 : decode cX8_stand 138 = .ok (.goto (-129), 3) := by decide +kernel
theorem dX8_stand_141 : decode cX8_stand 141 = .ok (.iload_n 2, 1) := by decide +kernel
theorem dX8_stand_142 : decode cX8_stand 142 = .ok (.aload_n 0, 1) := by decide +kernel
theorem dX8_stand_143 : decode cX8_stand 143 = .ok (.getfield 175, 3) := by decide +kernel
theorem dX8_stand_146 : decode cX8_stand 146 = .ok (.if_icmp .ne 7, 3) := by decide +kernel
theorem dX8_stand_149 : decode cX8_stand 149 = .ok (.iconst 1, 1) := by decide +kernel
theorem dX8_stand_150 : decode cX8_stand 150 = .ok (.goto 4, 3) := by decide +kernel
theorem dX8_stand_153 : decode cX8_stand 153 = .ok (.iconst 0, 1) := by decide +kernel
theorem dX8_stand_154 : decode cX8_stand 154 = .ok (.ireturn, 1) := by decide +kernel
theorem dX8_hours_0 : decode cX8_hours 0 = .ok (.iload_n 1, 1) := by decide +kernel
theorem dX8_hours_1 : decode cX8_hours 1 = .ok (.iconst 0, 1) := by decide +kernel
theorem dX8_hours_2 : decode cX8_hours 2 = .ok (.sipush 1000, 3) := by decide +kernel
theorem dX8_hours_5 : decode cX8_hours 5 = .ok (.invokestatic 102, 3) := by decide +kernel
theorem dX8_hours_8 : decode cX8_hours 8 = .ok (.ifCond .ne 5, 3) := by decide +kernel
theorem dX8_hours_11 : decode cX8_hours 11 = .ok (.iconst (-1), 1) := by decide +kernel
theorem dX8_hours_12 : decode cX8_hours 12 = .ok (.ireturn, 1) := by decide +kernel
theorem dX8_hours_13 : decode cX8_hours 13 = .ok (.iconst 0, 1) := by decide +kernel
theorem dX8_hours_14 : decode cX8_hours 14 = .ok (.istore_n 2, 1) := by decide +kernel
theorem dX8_hours_15 : decode cX8_hours 15 = .ok (.iload_n 2, 1) := by decide +kernel
theorem dX8_hours_16 : decode cX8_hours 16 = .ok (.aload_n 0, 1) := by decide +kernel
theorem dX8_hours_17 : decode cX8_hours 17 = .ok (.getfield 175, 3) := by decide +kernel
theorem dX8_hours_20 : decode cX8_hours 20 = .ok (.if_icmp .ge 82, 3) := by decide +kernel
theorem dX8_hours_23 : decode cX8_hours 23 = .ok (.iconst 0, 1) := by decide +kernel
theorem dX8_hours_24 : decode cX8_hours 24 = .ok (.istore_n 3, 1) := by decide +kernel
theorem dX8_hours_25 : decode cX8_hours 25 = .ok (.iload_n 3, 1) := by decide +kernel
theorem dX8_hours_26 : decode cX8_hours 26 = .ok (.aload_n 0, 1) := by decide +kernel
theorem dX8_hours_27 : decode cX8_hours 27 = .ok (.getfield 175, 3) := by decide +kernel
theorem dX8_hours_30 : decode cX8_hours 30 = .ok (.if_icmp .ge 66, 3) := by decide +kernel
theorem dX8_hours_33 : decode cX8_hours 33 = .ok (.aload_n 0, 1) := by decide +kernel
theorem dX8_hours_34 : decode cX8_hours 34 = .ok (.getfield 96, 3) := by decide +kernel
theorem dX8_hours_37 : decode cX8_hours 37 = .ok (.bipush 12, 2) := by decide +kernel
theorem dX8_hours_39 : decode cX8_hours 39 = .ok (.iload_n 2, 1) := by decide +kernel
theorem dX8_hours_40 : decode cX8_hours 40 = .ok (.imul, 1) := by decide +kernel
theorem dX8_hours_41 : decode cX8_hours 41 = .ok (.iload_n 3, 1) := by decide +kernel
theorem dX8_hours_42 : decode cX8_hours 42 = .ok (.iadd, 1) := by decide +kernel
theorem dX8_hours_43 : decode cX8_hours 43 = .ok (.aload_n 0, 1) := by decide +kernel
theorem dX8_hours_44 : decode cX8_hours 44 = .ok (.getfield 84, 3) := by decide +kernel
theorem dX8_hours_47 : decode cX8_hours 47 = .ok (.iload_n 2, 1) := by decide +kernel
theorem dX8_hours_48 : decode cX8_hours 48 = .ok (.iaload, 1) := by decide +kernel
theorem dX8_hours_49 : decode cX8_hours 49 = .ok (.aload_n 0, 1) := by decide +kernel
theorem dX8_hours_50 : decode cX8_hours 50 = .ok (.getfield 84, 3) := by decide +kernel
theorem dX8_hours_53 : decode cX8_hours 53 = .ok (.iload_n 3, 1) := by decide +kernel
theorem dX8_hours_54 : decode cX8_hours 54 = .ok (.iaload, 1) := by decide +kernel
theorem dX8_hours_55 : decode cX8_hours 55 = .ok (.if_icmp .eq 29, 3) := by decide +kernel
theorem dX8_hours_58 : decode cX8_hours 58 = .ok (.aload_n 0, 1) := by decide +kernel
theorem dX8_hours_59 : decode cX8_hours 59 = .ok (.aload_n 0, 1) := by decide +kernel
theorem dX8_hours_60 : decode cX8_hours 60 = .ok (.getfield 84, 3) := by decide +kernel
theorem dX8_hours_63 : decode cX8_hours 63 = .ok (.iload_n 2, 1) := by decide +kernel
theorem dX8_hours_64 : decode cX8_hours 64 = .ok (.iaload, 1) := by decide +kernel
theorem dX8_hours_65 : decode cX8_hours 65 = .ok (.iload_n 1, 1) := by decide +kernel
theorem dX8_hours_66 : decode cX8_hours 66 = .ok (.invokevirtual 172, 3) := by decide +kernel
theorem dX8_hours_69 : decode cX8_hours 69 = .ok (.aload_n 0, 1) := by decide +kernel
theorem dX8_hours_70 : decode cX8_hours 70 = .ok (.aload_n 0, 1) := by decide +kernel
theorem dX8_hours_71 : decode cX8_hours 71 = .ok (.getfield 84, 3) := by decide +kernel
theorem dX8_hours_74 : decode cX8_hours 74 = .ok (.iload_n 3, 1) := by decide +kernel
theorem dX8_hours_75 : decode cX8_hours 75 = .ok (.iaload, 1) := by decide +kernel
theorem dX8_hours_76 : decode cX8_hours 76 = .ok (.iload_n 1, 1) := by decide +kernel
theorem dX8_hours_77 : decode cX8_hours 77 = .ok (.invokevirtual 172, 3) := by decide +kernel
theorem dX8_hours_80 : decode cX8_hours 80 = .ok (.iand, 1) := by decide +kernel
theorem dX8_hours_81 : decode cX8_hours 81 = .ok (.ifCond .eq 7, 3) := by decide +kernel
theorem dX8_hours_84 : decode cX8_hours 84 = .ok (.iconst 1, 1) := by decide +kernel
theorem dX8_hours_85 : decode cX8_hours 85 = .ok (.goto 4, 3) := by decide +kernel
theorem dX8_hours_88 : decode cX8_hours 88 = .ok (.iconst 0, 1) := by decide +kernel
theorem dX8_hours_89 : decode cX8_hours 89 = .ok (.bastore, 1) := by decide +kernel
theorem dX8_hours_90 : decode cX8_hours 90 = .ok (.iinc 3 1, 3) := by decide +kernel
theorem dX8_hours_93 : decode cX8_hours 93 = .ok (.goto (-68), 3) := by decide +kernel
theorem dX8_hours_96 : decode cX8_hours 96 = .ok (.iinc 2 1, 3) := by decide +kernel
theorem dX8_hours_99 : decode cX8_hours 99 = .ok (.goto (-84), 3) := by decide +kernel
theorem dX8_hours_102 : decode cX8_hours 102 = .ok (.aload_n 0, 1) := by decide +kernel
theorem dX8_hours_103 : decode cX8_hours 103 = .ok (.aload_n 0, 1) := by decide +kernel
theorem dX8_hours_104 : decode cX8_hours 104 = .ok (.getfield 175, 3) := by decide +kernel
theorem dX8_hours_107 : decode cX8_hours 107 = .ok (.putfield 181, 3) := by decide +kernel
theorem dX8_hours_110 : decode cX8_hours 110 = .ok (.aload_n 0, 1) := by decide +kernel
theorem dX8_hours_111 : decode cX8_hours 111 = .ok (.getfield 175, 3) := by decide +kernel
theorem dX8_hours_114 : decode cX8_hours 114 = .ok (.ifCond .ne 5, 3) := by decide +kernel
theorem dX8_hours_117 : decode cX8_hours 117 = .ok (.iconst 0, 1) := by decide +kernel
theorem dX8_hours_118 : decode cX8_hours 118 = .ok (.ireturn, 1) := by decide +kernel
theorem dX8_hours_119 : decode cX8_hours 119 = .ok (.aload_n 0, 1) := by decide +kernel
theorem dX8_hours_120 : decode cX8_hours 120 = .ok (.getfield 175, 3) := by decide +kernel
theorem dX8_hours_123 : decode cX8_hours 123 = .ok (.aload_n 0, 1) := by decide +kernel
theorem dX8_hours_124 : decode cX8_hours 124 = .ok (.getfield 87, 3) := by decide +kernel
theorem dX8_hours_127 : decode cX8_hours 127 = .ok (.iadd, 1) := by decide +kernel
theorem dX8_hours_128 : decode cX8_hours 128 = .ok (.iconst 1, 1) := by decide +kernel
theorem dX8_hours_129 : decode cX8_hours 129 = .ok (.isub, 1) := by decide +kernel
theorem dX8_hours_130 : decode cX8_hours 130 = .ok (.aload_n 0, 1) := by decide +kernel
theorem dX8_hours_131 : decode cX8_hours 131 = .ok (.getfield 87, 3) := by decide +kernel
theorem dX8_hours_134 : decode cX8_hours 134 = .ok (.idiv, 1) := by decide +kernel
theorem dX8_hours_135 : decode cX8_hours 135 = .ok (.istore_n 2, 1) := by decide +kernel
theorem dX8_hours_136 : decode cX8_hours 136 = .ok (.aload_n 0, 1) := by decide +kernel
theorem dX8_hours_137 : decode cX8_hours 137 = .ok (.iload_n 2, 1) := by decide +kernel
theorem dX8_hours_138 : decode cX8_hours 138 = .ok (.invokevirtual 184, 3) := by decide +kernel
theorem dX8_hours_141 : decode cX8_hours 141 = .ok (.ifCond .ne 9, 3) := by decide +kernel
theorem dX8_hours_144 : decode cX8_hours 144 = .ok (.iinc 2 1, 3) := by decide +kernel
theorem dX8_hours_147 : decode cX8_hours 147 = .ok (.goto (-11), 3) := by decide +kernel
theorem dX8_hours_150 : decode cX8_hours 150 = .ok (.iconst 0, 1) := by decide +kernel
theorem dX8_hours_151 : decode cX8_hours 151 = .ok (.istore_n 3, 1) := by decide +kernel
theorem dX8_hours_152 : decode cX8_hours 152 = .ok (.iload_n 3, 1) := by decide +kernel
theorem dX8_hours_153 : decode cX8_hours 153 = .ok (.aload_n 0, 1) := by decide +kernel
theorem dX8_hours_154 : decode cX8_hours 154 = .ok (.getfield 175, 3) := by decide +kernel
theorem dX8_hours_157 : decode cX8_hours 157 = .ok (.if_icmp .ge 21, 3) := by decide +kernel
theorem dX8_hours_160 : decode cX8_hours 160 = .ok (.aload_n 0, 1) := by decide +kernel
theorem dX8_hours_161 : decode cX8_hours 161 = .ok (.getfield 90, 3) := by decide +kernel
theorem dX8_hours_164 : decode cX8_hours 164 = .ok (.iload_n 3, 1) := by decide +kernel
theorem dX8_hours_165 : decode cX8_hours 165 = .ok (.aload_n 0, 1) := by decide +kernel
theorem dX8_hours_166 : decode cX8_hours 166 = .ok (.getfield 93, 3) := by decide +kernel
theorem dX8_hours_169 : decode cX8_hours 169 = .ok (.iload_n 3, 1) := by decide +kernel
theorem dX8_hours_170 : decode cX8_hours 170 = .ok (.iaload, 1) := by decide +kernel
theorem dX8_hours_171 : decode cX8_hours 171 = .ok (.iastore, 1) := by decide +kernel
theorem dX8_hours_172 : decode cX8_hours 172 = .ok (.iinc 3 1, 3) := by decide +kernel
theorem dX8_hours_175 : decode cX8_hours 175 = .ok (.goto (-23), 3) := by decide +kernel
theorem dX8_hours_178 : decode cX8_hours 178 = .ok (.iload_n 2, 1) := by decide +kernel
theorem dX8_hours_179 : decode cX8_hours 179 = .ok (.ireturn, 1) := by decide +kernel
theorem dX8_hour_0 : decode cX8_hour 0 = .ok (.iload_n 1, 1) := by decide +kernel
theorem dX8_hour_1 : decode cX8_hour 1 = .ok (.ifCond .lt 20, 3) := by decide +kernel
theorem dX8_hour_4 : decode cX8_hour 4 = .ok (.iload_n 1, 1) := by decide +kernel
theorem dX8_hour_5 : decode cX8_hour 5 = .ok (.aload_n 0, 1) := by decide +kernel
theorem dX8_hour_6 : decode cX8_hour 6 = .ok (.getfield 181, 3) := by decide +kernel
theorem dX8_hour_9 : decode cX8_hour 9 = .ok (.if_icmp .ge 12, 3) := by decide +kernel
theorem dX8_hour_12 : decode cX8_hour 12 = .ok (.aload_n 0, 1) := by decide +kernel
theorem dX8_hour_13 : decode cX8_hour 13 = .ok (.getfield 90, 3) := by decide +kernel
theorem dX8_hour_16 : decode cX8_hour 16 = .ok (.iload_n 1, 1) := by decide +kernel
theorem dX8_hour_17 : decode cX8_hour 17 = .ok (.iaload, 1) := by decide +kernel
theorem dX8_hour_18 : decode cX8_hour 18 = .ok (.goto 4, 3) := by decide +kernel
theorem dX8_hour_21 : decode cX8_hour 21 = .ok (.iconst (-1), 1) := by decide +kernel
theorem dX8_hour_22 : decode cX8_hour 22 = .ok (.ireturn, 1) := by decide +kernel
theorem dX8_draw_0 : decode cX8_draw 0 = .ok (.iload_n 1, 1) := by decide +kernel
theorem dX8_draw_1 : decode cX8_draw 1 = .ok (.iconst 1, 1) := by decide +kernel
theorem dX8_draw_2 : decode cX8_draw 2 = .ok (.bipush 12, 2) := by decide +kernel
theorem dX8_draw_4 : decode cX8_draw 4 = .ok (.invokestatic 102, 3) := by decide +kernel
theorem dX8_draw_7 : decode cX8_draw 7 = .ok (.ifCond .eq 14, 3) := by decide +kernel
theorem dX8_draw_10 : decode cX8_draw 10 = .ok (.iload_n 3, 1) := by decide +kernel
theorem dX8_draw_11 : decode cX8_draw 11 = .ok (.iconst 0, 1) := by decide +kernel
theorem dX8_draw_12 : decode cX8_draw 12 = .ok (.iload_n 1, 1) := by decide +kernel
theorem dX8_draw_13 : decode cX8_draw 13 = .ok (.iconst 1, 1) := by decide +kernel
theorem dX8_draw_14 : decode cX8_draw 14 = .ok (.isub, 1) := by decide +kernel
theorem dX8_draw_15 : decode cX8_draw 15 = .ok (.invokestatic 102, 3) := by decide +kernel
theorem dX8_draw_18 : decode cX8_draw 18 = .ok (.ifCond .ne 5, 3) := by decide +kernel
theorem dX8_draw_21 : decode cX8_draw 21 = .ok (.iconst (-1), 1) := by decide +kernel
theorem dX8_draw_22 : decode cX8_draw 22 = .ok (.ireturn, 1) := by decide +kernel
theorem dX8_draw_23 : decode cX8_draw 23 = .ok (.iconst 0, 1) := by decide +kernel
theorem dX8_draw_24 : decode cX8_draw 24 = .ok (.istore 4, 2) := by decide +kernel
theorem dX8_draw_26 : decode cX8_draw 26 = .ok (.iload 4, 2) := by decide +kernel
theorem dX8_draw_28 : decode cX8_draw 28 = .ok (.iload_n 1, 1) := by decide +kernel
theorem dX8_draw_29 : decode cX8_draw 29 = .ok (.if_icmp .ge 18, 3) := by decide +kernel
theorem dX8_draw_32 : decode cX8_draw 32 = .ok (.aload_n 0, 1) := by decide +kernel
theorem dX8_draw_33 : decode cX8_draw 33 = .ok (.getfield 99, 3) := by decide +kernel
theorem dX8_draw_36 : decode cX8_draw 36 = .ok (.iload 4, 2) := by decide +kernel
theorem dX8_draw_38 : decode cX8_draw 38 = .ok (.iload 4, 2) := by decide +kernel
theorem dX8_draw_40 : decode cX8_draw 40 = .ok (.iastore, 1) := by decide +kernel
theorem dX8_draw_41 : decode cX8_draw 41 = .ok (.iinc 4 1, 3) := by decide +kernel
theorem dX8_draw_44 : decode cX8_draw 44 = .ok (.goto (-18), 3) := by decide +kernel
theorem dX8_draw_47 : decode cX8_draw 47 = .ok (.iload_n 2, 1) := by decide +kernel
theorem dX8_draw_48 : decode cX8_draw 48 = .ok (.istore 4, 2) := by decide +kernel
theorem dX8_draw_50 : decode cX8_draw 50 = .ok (.iload_n 1, 1) := by decide +kernel
theorem dX8_draw_51 : decode cX8_draw 51 = .ok (.iconst 1, 1) := by decide +kernel
theorem dX8_draw_52 : decode cX8_draw 52 = .ok (.isub, 1) := by decide +kernel
theorem dX8_draw_53 : decode cX8_draw 53 = .ok (.istore 5, 2) := by decide +kernel
theorem dX8_draw_55 : decode cX8_draw 55 = .ok (.iload 5, 2) := by decide +kernel
theorem dX8_draw_57 : decode cX8_draw 57 = .ok (.ifCond .le 64, 3) := by decide +kernel
theorem dX8_draw_60 : decode cX8_draw 60 = .ok (.ldc 187, 2) := by decide +kernel
theorem dX8_draw_62 : decode cX8_draw 62 = .ok (.iload 4, 2) := by decide +kernel
theorem dX8_draw_64 : decode cX8_draw 64 = .ok (.imul, 1) := by decide +kernel
theorem dX8_draw_65 : decode cX8_draw 65 = .ok (.sipush 12345, 3) := by decide +kernel
theorem dX8_draw_68 : decode cX8_draw 68 = .ok (.iadd, 1) := by decide +kernel
theorem dX8_draw_69 : decode cX8_draw 69 = .ok (.istore 4, 2) := by decide +kernel
theorem dX8_draw_71 : decode cX8_draw 71 = .ok (.iload 4, 2) := by decide +kernel
theorem dX8_draw_73 : decode cX8_draw 73 = .ok (.bipush 8, 2) := by decide +kernel
theorem dX8_draw_75 : decode cX8_draw 75 = .ok (.iushr, 1) := by decide +kernel
theorem dX8_draw_76 : decode cX8_draw 76 = .ok (.iload 5, 2) := by decide +kernel
theorem dX8_draw_78 : decode cX8_draw 78 = .ok (.iconst 1, 1) := by decide +kernel
theorem dX8_draw_79 : decode cX8_draw 79 = .ok (.iadd, 1) := by decide +kernel
theorem dX8_draw_80 : decode cX8_draw 80 = .ok (.irem, 1) := by decide +kernel
theorem dX8_draw_81 : decode cX8_draw 81 = .ok (.istore 6, 2) := by decide +kernel
theorem dX8_draw_83 : decode cX8_draw 83 = .ok (.aload_n 0, 1) := by decide +kernel
theorem dX8_draw_84 : decode cX8_draw 84 = .ok (.getfield 99, 3) := by decide +kernel
theorem dX8_draw_87 : decode cX8_draw 87 = .ok (.iload 5, 2) := by decide +kernel
theorem dX8_draw_89 : decode cX8_draw 89 = .ok (.iaload, 1) := by decide +kernel
theorem dX8_draw_90 : decode cX8_draw 90 = .ok (.istore 7, 2) := by decide +kernel
theorem dX8_draw_92 : decode cX8_draw 92 = .ok (.aload_n 0, 1) := by decide +kernel
theorem dX8_draw_93 : decode cX8_draw 93 = .ok (.getfield 99, 3) := by decide +kernel
theorem dX8_draw_96 : decode cX8_draw 96 = .ok (.iload 5, 2) := by decide +kernel
theorem dX8_draw_98 : decode cX8_draw 98 = .ok (.aload_n 0, 1) := by decide +kernel
theorem dX8_draw_99 : decode cX8_draw 99 = .ok (.getfield 99, 3) := by decide +kernel
theorem dX8_draw_102 : decode cX8_draw 102 = .ok (.iload 6, 2) := by decide +kernel
theorem dX8_draw_104 : decode cX8_draw 104 = .ok (.iaload, 1) := by decide +kernel
theorem dX8_draw_105 : decode cX8_draw 105 = .ok (.iastore, 1) := by decide +kernel
theorem dX8_draw_106 : decode cX8_draw 106 = .ok (.aload_n 0, 1) := by decide +kernel
theorem dX8_draw_107 : decode cX8_draw 107 = .ok (.getfield 99, 3) := by decide +kernel
theorem dX8_draw_110 : decode cX8_draw 110 = .ok (.iload 6, 2) := by decide +kernel
theorem dX8_draw_112 : decode cX8_draw 112 = .ok (.iload 7, 2) := by decide +kernel
theorem dX8_draw_114 : decode cX8_draw 114 = .ok (.iastore, 1) := by decide +kernel
theorem dX8_draw_115 : decode cX8_draw 115 = .ok (.iinc 5 (-1), 3) := by decide +kernel
theorem dX8_draw_118 : decode cX8_draw 118 = .ok (.goto (-63), 3) := by decide +kernel
theorem dX8_draw_121 : decode cX8_draw 121 = .ok (.aload_n 0, 1) := by decide +kernel
theorem dX8_draw_122 : decode cX8_draw 122 = .ok (.getfield 99, 3) := by decide +kernel
theorem dX8_draw_125 : decode cX8_draw 125 = .ok (.iload_n 3, 1) := by decide +kernel
theorem dX8_draw_126 : decode cX8_draw 126 = .ok (.iaload, 1) := by decide +kernel
theorem dX8_draw_127 : decode cX8_draw 127 = .ok (.ireturn, 1) := by decide +kernel
end
section
theorem dL_law_0 : decode cL_law 0 = .ok (.new 7, 3) := by decide +kernel
theorem dL_law_3 : decode cL_law 3 = .ok (.dup, 1) := by decide +kernel
theorem dL_law_4 : decode cL_law 4 = .ok (.invokespecial 9, 3) := by decide +kernel
theorem dL_law_7 : decode cL_law 7 = .ok (.astore_n 1, 1) := by decide +kernel
theorem dL_law_8 : decode cL_law 8 = .ok (.new 10, 3) := by decide +kernel
theorem dL_law_11 : decode cL_law 11 = .ok (.dup, 1) := by decide +kernel
theorem dL_law_12 : decode cL_law 12 = .ok (.invokespecial 12, 3) := by decide +kernel
theorem dL_law_15 : decode cL_law 15 = .ok (.astore_n 2, 1) := by decide +kernel
theorem dL_law_16 : decode cL_law 16 = .ok (.iconst 0, 1) := by decide +kernel
theorem dL_law_17 : decode cL_law 17 = .ok (.istore_n 3, 1) := by decide +kernel
theorem dL_law_18 : decode cL_law 18 = .ok (.iload_n 3, 1) := by decide +kernel
theorem dL_law_19 : decode cL_law 19 = .ok (.aload_n 0, 1) := by decide +kernel
theorem dL_law_20 : decode cL_law 20 = .ok (.arraylength, 1) := by decide +kernel
theorem dL_law_21 : decode cL_law 21 = .ok (.bipush 6, 2) := by decide +kernel
theorem dL_law_23 : decode cL_law 23 = .ok (.isub, 1) := by decide +kernel
theorem dL_law_24 : decode cL_law 24 = .ok (.if_icmp .gt 874, 3) := by decide +kernel
theorem dL_law_27 : decode cL_law 27 = .ok (.aload_n 0, 1) := by decide +kernel
theorem dL_law_28 : decode cL_law 28 = .ok (.iload_n 3, 1) := by decide +kernel
theorem dL_law_29 : decode cL_law 29 = .ok (.iaload, 1) := by decide +kernel
theorem dL_law_30 : decode cL_law 30 = .ok (.bipush 31, 2) := by decide +kernel
theorem dL_law_32 : decode cL_law 32 = .ok (.iand, 1) := by decide +kernel
theorem dL_law_33 : decode cL_law 33 = .ok (.tableswitch 859 0 21 #[103, 146, 179, 222, 285, 308, 351, 384, 417, 440, 513, 526, 549, 582, 635, 678, 711, 734, 747, 770, 793, 816], 103) := by decide +kernel
theorem dL_law_136 : decode cL_law 136 = .ok (.aload_n 1, 1) := by decide +kernel
theorem dL_law_137 : decode cL_law 137 = .ok (.aload_n 0, 1) := by decide +kernel
theorem dL_law_138 : decode cL_law 138 = .ok (.iload_n 3, 1) := by decide +kernel
theorem dL_law_139 : decode cL_law 139 = .ok (.iconst 1, 1) := by decide +kernel
theorem dL_law_140 : decode cL_law 140 = .ok (.iadd, 1) := by decide +kernel
theorem dL_law_141 : decode cL_law 141 = .ok (.iaload, 1) := by decide +kernel
theorem dL_law_142 : decode cL_law 142 = .ok (.aload_n 0, 1) := by decide +kernel
theorem dL_law_143 : decode cL_law 143 = .ok (.iload_n 3, 1) := by decide +kernel
theorem dL_law_144 : decode cL_law 144 = .ok (.iconst 2, 1) := by decide +kernel
theorem dL_law_145 : decode cL_law 145 = .ok (.iadd, 1) := by decide +kernel
theorem dL_law_146 : decode cL_law 146 = .ok (.iaload, 1) := by decide +kernel
theorem dL_law_147 : decode cL_law 147 = .ok (.aload_n 0, 1) := by decide +kernel
theorem dL_law_148 : decode cL_law 148 = .ok (.iload_n 3, 1) := by decide +kernel
theorem dL_law_149 : decode cL_law 149 = .ok (.iconst 3, 1) := by decide +kernel
theorem dL_law_150 : decode cL_law 150 = .ok (.iadd, 1) := by decide +kernel
theorem dL_law_151 : decode cL_law 151 = .ok (.iaload, 1) := by decide +kernel
theorem dL_law_152 : decode cL_law 152 = .ok (.invokevirtual 13, 3) := by decide +kernel
theorem dL_law_155 : decode cL_law 155 = .ok (.aload_n 2, 1) := by decide +kernel
theorem dL_law_156 : decode cL_law 156 = .ok (.aload_n 0, 1) := by decide +kernel
theorem dL_law_157 : decode cL_law 157 = .ok (.iload_n 3, 1) := by decide +kernel
theorem dL_law_158 : decode cL_law 158 = .ok (.iconst 1, 1) := by decide +kernel
theorem dL_law_159 : decode cL_law 159 = .ok (.iadd, 1) := by decide +kernel
theorem dL_law_160 : decode cL_law 160 = .ok (.iaload, 1) := by decide +kernel
theorem dL_law_161 : decode cL_law 161 = .ok (.aload_n 0, 1) := by decide +kernel
theorem dL_law_162 : decode cL_law 162 = .ok (.iload_n 3, 1) := by decide +kernel
theorem dL_law_163 : decode cL_law 163 = .ok (.iconst 2, 1) := by decide +kernel
theorem dL_law_164 : decode cL_law 164 = .ok (.iadd, 1) := by decide +kernel
theorem dL_law_165 : decode cL_law 165 = .ok (.iaload, 1) := by decide +kernel
theorem dL_law_166 : decode cL_law 166 = .ok (.aload_n 0, 1) := by decide +kernel
theorem dL_law_167 : decode cL_law 167 = .ok (.iload_n 3, 1) := by decide +kernel
theorem dL_law_168 : decode cL_law 168 = .ok (.iconst 3, 1) := by decide +kernel
theorem dL_law_169 : decode cL_law 169 = .ok (.iadd, 1) := by decide +kernel
theorem dL_law_170 : decode cL_law 170 = .ok (.iaload, 1) := by decide +kernel
theorem dL_law_171 : decode cL_law 171 = .ok (.invokevirtual 17, 3) := by decide +kernel
theorem dL_law_174 : decode cL_law 174 = .ok (.if_icmp .eq 718, 3) := by decide +kernel
theorem dL_law_177 : decode cL_law 177 = .ok (.iconst 0, 1) := by decide +kernel
theorem dL_law_178 : decode cL_law 178 = .ok (.ireturn, 1) := by decide +kernel
theorem dL_law_179 : decode cL_law 179 = .ok (.aload_n 1, 1) := by decide +kernel
theorem dL_law_180 : decode cL_law 180 = .ok (.aload_n 0, 1) := by decide +kernel
theorem dL_law_181 : decode cL_law 181 = .ok (.iload_n 3, 1) := by decide +kernel
theorem dL_law_182 : decode cL_law 182 = .ok (.iconst 1, 1) := by decide +kernel
theorem dL_law_183 : decode cL_law 183 = .ok (.iadd, 1) := by decide +kernel
theorem dL_law_184 : decode cL_law 184 = .ok (.iaload, 1) := by decide +kernel
theorem dL_law_185 : decode cL_law 185 = .ok (.aload_n 0, 1) := by decide +kernel
theorem dL_law_186 : decode cL_law 186 = .ok (.iload_n 3, 1) := by decide +kernel
theorem dL_law_187 : decode cL_law 187 = .ok (.iconst 2, 1) := by decide +kernel
theorem dL_law_188 : decode cL_law 188 = .ok (.iadd, 1) := by decide +kernel
theorem dL_law_189 : decode cL_law 189 = .ok (.iaload, 1) := by decide +kernel
theorem dL_law_190 : decode cL_law 190 = .ok (.invokevirtual 18, 3) := by decide +kernel
theorem dL_law_193 : decode cL_law 193 = .ok (.aload_n 2, 1) := by decide +kernel
theorem dL_law_194 : decode cL_law 194 = .ok (.aload_n 0, 1) := by decide +kernel
theorem dL_law_195 : decode cL_law 195 = .ok (.iload_n 3, 1) := by decide +kernel
theorem dL_law_196 : decode cL_law 196 = .ok (.iconst 1, 1) := by decide +kernel
theorem dL_law_197 : decode cL_law 197 = .ok (.iadd, 1) := by decide +kernel
theorem dL_law_198 : decode cL_law 198 = .ok (.iaload, 1) := by decide +kernel
theorem dL_law_199 : decode cL_law 199 = .ok (.aload_n 0, 1) := by decide +kernel
theorem dL_law_200 : decode cL_law 200 = .ok (.iload_n 3, 1) := by decide +kernel
theorem dL_law_201 : decode cL_law 201 = .ok (.iconst 2, 1) := by decide +kernel
theorem dL_law_202 : decode cL_law 202 = .ok (.iadd, 1) := by decide +kernel
theorem dL_law_203 : decode cL_law 203 = .ok (.iaload, 1) := by decide +kernel
theorem dL_law_204 : decode cL_law 204 = .ok (.invokevirtual 22, 3) := by decide +kernel
theorem dL_law_207 : decode cL_law 207 = .ok (.if_icmp .eq 685, 3) := by decide +kernel
theorem dL_law_210 : decode cL_law 210 = .ok (.iconst 0, 1) := by decide +kernel
theorem dL_law_211 : decode cL_law 211 = .ok (.ireturn, 1) := by decide +kernel
theorem dL_law_212 : decode cL_law 212 = .ok (.aload_n 1, 1) := by decide +kernel
theorem dL_law_213 : decode cL_law 213 = .ok (.aload_n 0, 1) := by decide +kernel
theorem dL_law_214 : decode cL_law 214 = .ok (.iload_n 3, 1) := by decide +kernel
theorem dL_law_215 : decode cL_law 215 = .ok (.iconst 1, 1) := by decide +kernel
theorem dL_law_216 : decode cL_law 216 = .ok (.iadd, 1) := by decide +kernel
theorem dL_law_217 : decode cL_law 217 = .ok (.iaload, 1) := by decide +kernel
theorem dL_law_218 : decode cL_law 218 = .ok (.aload_n 0, 1) := by decide +kernel
theorem dL_law_219 : decode cL_law 219 = .ok (.iload_n 3, 1) := by decide +kernel
theorem dL_law_220 : decode cL_law 220 = .ok (.iconst 2, 1) := by decide +kernel
theorem dL_law_221 : decode cL_law 221 = .ok (.iadd, 1) := by decide +kernel
theorem dL_law_222 : decode cL_law 222 = .ok (.iaload, 1) := by decide +kernel
theorem dL_law_223 : decode cL_law 223 = .ok (.aload_n 0, 1) := by decide +kernel
theorem dL_law_224 : decode cL_law 224 = .ok (.iload_n 3, 1) := by decide +kernel
theorem dL_law_225 : decode cL_law 225 = .ok (.iconst 3, 1) := by decide +kernel
theorem dL_law_226 : decode cL_law 226 = .ok (.iadd, 1) := by decide +kernel
theorem dL_law_227 : decode cL_law 227 = .ok (.iaload, 1) := by decide +kernel
theorem dL_law_228 : decode cL_law 228 = .ok (.invokevirtual 23, 3) := by decide +kernel
theorem dL_law_231 : decode cL_law 231 = .ok (.aload_n 2, 1) := by decide +kernel
theorem dL_law_232 : decode cL_law 232 = .ok (.aload_n 0, 1) := by decide +kernel
theorem dL_law_233 : decode cL_law 233 = .ok (.iload_n 3, 1) := by decide +kernel
theorem dL_law_234 : decode cL_law 234 = .ok (.iconst 1, 1) := by decide +kernel
theorem dL_law_235 : decode cL_law 235 = .ok (.iadd, 1) := by decide +kernel
theorem dL_law_236 : decode cL_law 236 = .ok (.iaload, 1) := by decide +kernel
theorem dL_law_237 : decode cL_law 237 = .ok (.aload_n 0, 1) := by decide +kernel
theorem dL_law_238 : decode cL_law 238 = .ok (.iload_n 3, 1) := by decide +kernel
theorem dL_law_239 : decode cL_law 239 = .ok (.iconst 2, 1) := by decide +kernel
theorem dL_law_240 : decode cL_law 240 = .ok (.iadd, 1) := by decide +kernel
theorem dL_law_241 : decode cL_law 241 = .ok (.iaload, 1) := by decide +kernel
theorem dL_law_242 : decode cL_law 242 = .ok (.aload_n 0, 1) := by decide +kernel
theorem dL_law_243 : decode cL_law 243 = .ok (.iload_n 3, 1) := by decide +kernel
theorem dL_law_244 : decode cL_law 244 = .ok (.iconst 3, 1) := by decide +kernel
theorem dL_law_245 : decode cL_law 245 = .ok (.iadd, 1) := by decide +kernel
theorem dL_law_246 : decode cL_law 246 = .ok (.iaload, 1) := by decide +kernel
theorem dL_law_247 : decode cL_law 247 = .ok (.invokevirtual 26, 3) := by decide +kernel
theorem dL_law_250 : decode cL_law 250 = .ok (.if_icmp .eq 642, 3) := by decide +kernel
theorem dL_law_253 : decode cL_law 253 = .ok (.iconst 0, 1) := by decide +kernel
theorem dL_law_254 : decode cL_law 254 = .ok (.ireturn, 1) := by decide +kernel
theorem dL_law_255 : decode cL_law 255 = .ok (.aload_n 1, 1) := by decide +kernel
theorem dL_law_256 : decode cL_law 256 = .ok (.aload_n 0, 1) := by decide +kernel
theorem dL_law_257 : decode cL_law 257 = .ok (.iload_n 3, 1) := by decide +kernel
theorem dL_law_258 : decode cL_law 258 = .ok (.iconst 1, 1) := by decide +kernel
theorem dL_law_259 : decode cL_law 259 = .ok (.iadd, 1) := by decide +kernel
theorem dL_law_260 : decode cL_law 260 = .ok (.iaload, 1) := by decide +kernel
theorem dL_law_261 : decode cL_law 261 = .ok (.aload_n 0, 1) := by decide +kernel
theorem dL_law_262 : decode cL_law 262 = .ok (.iload_n 3, 1) := by decide +kernel
theorem dL_law_263 : decode cL_law 263 = .ok (.iconst 2, 1) := by decide +kernel
theorem dL_law_264 : decode cL_law 264 = .ok (.iadd, 1) := by decide +kernel
theorem dL_law_265 : decode cL_law 265 = .ok (.iaload, 1) := by decide +kernel
theorem dL_law_266 : decode cL_law 266 = .ok (.aload_n 0, 1) := by decide +kernel
theorem dL_law_267 : decode cL_law 267 = .ok (.iload_n 3, 1) := by decide +kernel
theorem dL_law_268 : decode cL_law 268 = .ok (.iconst 3, 1) := by decide +kernel
theorem dL_law_269 : decode cL_law 269 = .ok (.iadd, 1) := by decide +kernel
theorem dL_law_270 : decode cL_law 270 = .ok (.iaload, 1) := by decide +kernel
theorem dL_law_271 : decode cL_law 271 = .ok (.aload_n 0, 1) := by decide +kernel
theorem dL_law_272 : decode cL_law 272 = .ok (.iload_n 3, 1) := by decide +kernel
theorem dL_law_273 : decode cL_law 273 = .ok (.iconst 4, 1) := by decide +kernel
theorem dL_law_274 : decode cL_law 274 = .ok (.iadd, 1) := by decide +kernel
theorem dL_law_275 : decode cL_law 275 = .ok (.iaload, 1) := by decide +kernel
theorem dL_law_276 : decode cL_law 276 = .ok (.aload_n 0, 1) := by decide +kernel
theorem dL_law_277 : decode cL_law 277 = .ok (.iload_n 3, 1) := by decide +kernel
theorem dL_law_278 : decode cL_law 278 = .ok (.iconst 5, 1) := by decide +kernel
theorem dL_law_279 : decode cL_law 279 = .ok (.iadd, 1) := by decide +kernel
theorem dL_law_280 : decode cL_law 280 = .ok (.iaload, 1) := by decide +kernel
theorem dL_law_281 : decode cL_law 281 = .ok (.invokevirtual 27, 3) := by decide +kernel
theorem dL_law_284 : decode cL_law 284 = .ok (.aload_n 2, 1) := by decide +kernel
theorem dL_law_285 : decode cL_law 285 = .ok (.aload_n 0, 1) := by decide +kernel
theorem dL_law_286 : decode cL_law 286 = .ok (.iload_n 3, 1) := by decide +kernel
theorem dL_law_287 : decode cL_law 287 = .ok (.iconst 1, 1) := by decide +kernel
theorem dL_law_288 : decode cL_law 288 = .ok (.iadd, 1) := by decide +kernel
theorem dL_law_289 : decode cL_law 289 = .ok (.iaload, 1) := by decide +kernel
theorem dL_law_290 : decode cL_law 290 = .ok (.aload_n 0, 1) := by decide +kernel
theorem dL_law_291 : decode cL_law 291 = .ok (.iload_n 3, 1) := by decide +kernel
theorem dL_law_292 : decode cL_law 292 = .ok (.iconst 2, 1) := by decide +kernel
theorem dL_law_293 : decode cL_law 293 = .ok (.iadd, 1) := by decide +kernel
theorem dL_law_294 : decode cL_law 294 = .ok (.iaload, 1) := by decide +kernel
theorem dL_law_295 : decode cL_law 295 = .ok (.aload_n 0, 1) := by decide +kernel
theorem dL_law_296 : decode cL_law 296 = .ok (.iload_n 3, 1) := by decide +kernel
theorem dL_law_297 : decode cL_law 297 = .ok (.iconst 3, 1) := by decide +kernel
theorem dL_law_298 : decode cL_law 298 = .ok (.iadd, 1) := by decide +kernel
theorem dL_law_299 : decode cL_law 299 = .ok (.iaload, 1) := by decide +kernel
theorem dL_law_300 : decode cL_law 300 = .ok (.aload_n 0, 1) := by decide +kernel
theorem dL_law_301 : decode cL_law 301 = .ok (.iload_n 3, 1) := by decide +kernel
theorem dL_law_302 : decode cL_law 302 = .ok (.iconst 4, 1) := by decide +kernel
theorem dL_law_303 : decode cL_law 303 = .ok (.iadd, 1) := by decide +kernel
theorem dL_law_304 : decode cL_law 304 = .ok (.iaload, 1) := by decide +kernel
theorem dL_law_305 : decode cL_law 305 = .ok (.aload_n 0, 1) := by decide +kernel
theorem dL_law_306 : decode cL_law 306 = .ok (.iload_n 3, 1) := by decide +kernel
theorem dL_law_307 : decode cL_law 307 = .ok (.iconst 5, 1) := by decide +kernel
theorem dL_law_308 : decode cL_law 308 = .ok (.iadd, 1) := by decide +kernel
theorem dL_law_309 : decode cL_law 309 = .ok (.iaload, 1) := by decide +kernel
theorem dL_law_310 : decode cL_law 310 = .ok (.invokevirtual 31, 3) := by decide +kernel
theorem dL_law_313 : decode cL_law 313 = .ok (.if_icmp .eq 579, 3) := by decide +kernel
theorem dL_law_316 : decode cL_law 316 = .ok (.iconst 0, 1) := by decide +kernel
theorem dL_law_317 : decode cL_law 317 = .ok (.ireturn, 1) := by decide +kernel
theorem dL_law_318 : decode cL_law 318 = .ok (.aload_n 1, 1) := by decide +kernel
theorem dL_law_319 : decode cL_law 319 = .ok (.aload_n 0, 1) := by decide +kernel
theorem dL_law_320 : decode cL_law 320 = .ok (.iload_n 3, 1) := by decide +kernel
theorem dL_law_321 : decode cL_law 321 = .ok (.iconst 1, 1) := by decide +kernel
theorem dL_law_322 : decode cL_law 322 = .ok (.iadd, 1) := by decide +kernel
theorem dL_law_323 : decode cL_law 323 = .ok (.iaload, 1) := by decide +kernel
theorem dL_law_324 : decode cL_law 324 = .ok (.invokevirtual 32, 3) := by decide +kernel
theorem dL_law_327 : decode cL_law 327 = .ok (.aload_n 2, 1) := by decide +kernel
theorem dL_law_328 : decode cL_law 328 = .ok (.aload_n 0, 1) := by decide +kernel
theorem dL_law_329 : decode cL_law 329 = .ok (.iload_n 3, 1) := by decide +kernel
theorem dL_law_330 : decode cL_law 330 = .ok (.iconst 1, 1) := by decide +kernel
theorem dL_law_331 : decode cL_law 331 = .ok (.iadd, 1) := by decide +kernel
theorem dL_law_332 : decode cL_law 332 = .ok (.iaload, 1) := by decide +kernel
theorem dL_law_333 : decode cL_law 333 = .ok (.invokevirtual 36, 3) := by decide +kernel
theorem dL_law_336 : decode cL_law 336 = .ok (.if_icmp .eq 556, 3) := by decide +kernel
theorem dL_law_339 : decode cL_law 339 = .ok (.iconst 0, 1) := by decide +kernel
theorem dL_law_340 : decode cL_law 340 = .ok (.ireturn, 1) := by decide +kernel
theorem dL_law_341 : decode cL_law 341 = .ok (.aload_n 1, 1) := by decide +kernel
theorem dL_law_342 : decode cL_law 342 = .ok (.aload_n 0, 1) := by decide +kernel
theorem dL_law_343 : decode cL_law 343 = .ok (.iload_n 3, 1) := by decide +kernel
theorem dL_law_344 : decode cL_law 344 = .ok (.iconst 1, 1) := by decide +kernel
theorem dL_law_345 : decode cL_law 345 = .ok (.iadd, 1) := by decide +kernel
theorem dL_law_346 : decode cL_law 346 = .ok (.iaload, 1) := by decide +kernel
theorem dL_law_347 : decode cL_law 347 = .ok (.aload_n 0, 1) := by decide +kernel
theorem dL_law_348 : decode cL_law 348 = .ok (.iload_n 3, 1) := by decide +kernel
theorem dL_law_349 : decode cL_law 349 = .ok (.iconst 2, 1) := by decide +kernel
theorem dL_law_350 : decode cL_law 350 = .ok (.iadd, 1) := by decide +kernel
theorem dL_law_351 : decode cL_law 351 = .ok (.iaload, 1) := by decide +kernel
theorem dL_law_352 : decode cL_law 352 = .ok (.aload_n 0, 1) := by decide +kernel
theorem dL_law_353 : decode cL_law 353 = .ok (.iload_n 3, 1) := by decide +kernel
theorem dL_law_354 : decode cL_law 354 = .ok (.iconst 3, 1) := by decide +kernel
theorem dL_law_355 : decode cL_law 355 = .ok (.iadd, 1) := by decide +kernel
theorem dL_law_356 : decode cL_law 356 = .ok (.iaload, 1) := by decide +kernel
theorem dL_law_357 : decode cL_law 357 = .ok (.invokevirtual 37, 3) := by decide +kernel
theorem dL_law_360 : decode cL_law 360 = .ok (.aload_n 2, 1) := by decide +kernel
theorem dL_law_361 : decode cL_law 361 = .ok (.aload_n 0, 1) := by decide +kernel
theorem dL_law_362 : decode cL_law 362 = .ok (.iload_n 3, 1) := by decide +kernel
theorem dL_law_363 : decode cL_law 363 = .ok (.iconst 1, 1) := by decide +kernel
theorem dL_law_364 : decode cL_law 364 = .ok (.iadd, 1) := by decide +kernel
theorem dL_law_365 : decode cL_law 365 = .ok (.iaload, 1) := by decide +kernel
theorem dL_law_366 : decode cL_law 366 = .ok (.aload_n 0, 1) := by decide +kernel
theorem dL_law_367 : decode cL_law 367 = .ok (.iload_n 3, 1) := by decide +kernel
theorem dL_law_368 : decode cL_law 368 = .ok (.iconst 2, 1) := by decide +kernel
theorem dL_law_369 : decode cL_law 369 = .ok (.iadd, 1) := by decide +kernel
theorem dL_law_370 : decode cL_law 370 = .ok (.iaload, 1) := by decide +kernel
theorem dL_law_371 : decode cL_law 371 = .ok (.aload_n 0, 1) := by decide +kernel
theorem dL_law_372 : decode cL_law 372 = .ok (.iload_n 3, 1) := by decide +kernel
theorem dL_law_373 : decode cL_law 373 = .ok (.iconst 3, 1) := by decide +kernel
theorem dL_law_374 : decode cL_law 374 = .ok (.iadd, 1) := by decide +kernel
theorem dL_law_375 : decode cL_law 375 = .ok (.iaload, 1) := by decide +kernel
theorem dL_law_376 : decode cL_law 376 = .ok (.invokevirtual 40, 3) := by decide +kernel
theorem dL_law_379 : decode cL_law 379 = .ok (.if_icmp .eq 513, 3) := by decide +kernel
theorem dL_law_382 : decode cL_law 382 = .ok (.iconst 0, 1) := by decide +kernel
theorem dL_law_383 : decode cL_law 383 = .ok (.ireturn, 1) := by decide +kernel
theorem dL_law_384 : decode cL_law 384 = .ok (.aload_n 1, 1) := by decide +kernel
theorem dL_law_385 : decode cL_law 385 = .ok (.aload_n 0, 1) := by decide +kernel
theorem dL_law_386 : decode cL_law 386 = .ok (.iload_n 3, 1) := by decide +kernel
theorem dL_law_387 : decode cL_law 387 = .ok (.iconst 1, 1) := by decide +kernel
theorem dL_law_388 : decode cL_law 388 = .ok (.iadd, 1) := by decide +kernel
theorem dL_law_389 : decode cL_law 389 = .ok (.iaload, 1) := by decide +kernel
theorem dL_law_390 : decode cL_law 390 = .ok (.aload_n 0, 1) := by decide +kernel
theorem dL_law_391 : decode cL_law 391 = .ok (.iload_n 3, 1) := by decide +kernel
theorem dL_law_392 : decode cL_law 392 = .ok (.iconst 2, 1) := by decide +kernel
theorem dL_law_393 : decode cL_law 393 = .ok (.iadd, 1) := by decide +kernel
theorem dL_law_394 : decode cL_law 394 = .ok (.iaload, 1) := by decide +kernel
theorem dL_law_395 : decode cL_law 395 = .ok (.invokevirtual 41, 3) := by decide +kernel
theorem dL_law_398 : decode cL_law 398 = .ok (.aload_n 2, 1) := by decide +kernel
theorem dL_law_399 : decode cL_law 399 = .ok (.aload_n 0, 1) := by decide +kernel
theorem dL_law_400 : decode cL_law 400 = .ok (.iload_n 3, 1) := by decide +kernel
theorem dL_law_401 : decode cL_law 401 = .ok (.iconst 1, 1) := by decide +kernel
theorem dL_law_402 : decode cL_law 402 = .ok (.iadd, 1) := by decide +kernel
theorem dL_law_403 : decode cL_law 403 = .ok (.iaload, 1) := by decide +kernel
theorem dL_law_404 : decode cL_law 404 = .ok (.aload_n 0, 1) := by decide +kernel
theorem dL_law_405 : decode cL_law 405 = .ok (.iload_n 3, 1) := by decide +kernel
theorem dL_law_406 : decode cL_law 406 = .ok (.iconst 2, 1) := by decide +kernel
theorem dL_law_407 : decode cL_law 407 = .ok (.iadd, 1) := by decide +kernel
theorem dL_law_408 : decode cL_law 408 = .ok (.iaload, 1) := by decide +kernel
theorem dL_law_409 : decode cL_law 409 = .ok (.invokevirtual 44, 3) := by decide +kernel
theorem dL_law_412 : decode cL_law 412 = .ok (.if_icmp .eq 480, 3) := by decide +kernel
theorem dL_law_415 : decode cL_law 415 = .ok (.iconst 0, 1) := by decide +kernel
theorem dL_law_416 : decode cL_law 416 = .ok (.ireturn, 1) := by decide +kernel
theorem dL_law_417 : decode cL_law 417 = .ok (.aload_n 1, 1) := by decide +kernel
theorem dL_law_418 : decode cL_law 418 = .ok (.aload_n 0, 1) := by decide +kernel
theorem dL_law_419 : decode cL_law 419 = .ok (.iload_n 3, 1) := by decide +kernel
theorem dL_law_420 : decode cL_law 420 = .ok (.iconst 1, 1) := by decide +kernel
theorem dL_law_421 : decode cL_law 421 = .ok (.iadd, 1) := by decide +kernel
theorem dL_law_422 : decode cL_law 422 = .ok (.iaload, 1) := by decide +kernel
theorem dL_law_423 : decode cL_law 423 = .ok (.aload_n 0, 1) := by decide +kernel
theorem dL_law_424 : decode cL_law 424 = .ok (.iload_n 3, 1) := by decide +kernel
theorem dL_law_425 : decode cL_law 425 = .ok (.iconst 2, 1) := by decide +kernel
theorem dL_law_426 : decode cL_law 426 = .ok (.iadd, 1) := by decide +kernel
theorem dL_law_427 : decode cL_law 427 = .ok (.iaload, 1) := by decide +kernel
theorem dL_law_428 : decode cL_law 428 = .ok (.invokevirtual 45, 3) := by decide +kernel
theorem dL_law_431 : decode cL_law 431 = .ok (.aload_n 2, 1) := by decide +kernel
theorem dL_law_432 : decode cL_law 432 = .ok (.aload_n 0, 1) := by decide +kernel
theorem dL_law_433 : decode cL_law 433 = .ok (.iload_n 3, 1) := by decide +kernel
theorem dL_law_434 : decode cL_law 434 = .ok (.iconst 1, 1) := by decide +kernel
theorem dL_law_435 : decode cL_law 435 = .ok (.iadd, 1) := by decide +kernel
theorem dL_law_436 : decode cL_law 436 = .ok (.iaload, 1) := by decide +kernel
theorem dL_law_437 : decode cL_law 437 = .ok (.aload_n 0, 1) := by decide +kernel
theorem dL_law_438 : decode cL_law 438 = .ok (.iload_n 3, 1) := by decide +kernel
theorem dL_law_439 : decode cL_law 439 = .ok (.iconst 2, 1) := by decide +kernel
theorem dL_law_440 : decode cL_law 440 = .ok (.iadd, 1) := by decide +kernel
theorem dL_law_441 : decode cL_law 441 = .ok (.iaload, 1) := by decide +kernel
theorem dL_law_442 : decode cL_law 442 = .ok (.invokevirtual 48, 3) := by decide +kernel
theorem dL_law_445 : decode cL_law 445 = .ok (.if_icmp .eq 447, 3) := by decide +kernel
theorem dL_law_448 : decode cL_law 448 = .ok (.iconst 0, 1) := by decide +kernel
theorem dL_law_449 : decode cL_law 449 = .ok (.ireturn, 1) := by decide +kernel
theorem dL_law_450 : decode cL_law 450 = .ok (.aload_n 1, 1) := by decide +kernel
theorem dL_law_451 : decode cL_law 451 = .ok (.aload_n 0, 1) := by decide +kernel
theorem dL_law_452 : decode cL_law 452 = .ok (.iload_n 3, 1) := by decide +kernel
theorem dL_law_453 : decode cL_law 453 = .ok (.iconst 1, 1) := by decide +kernel
theorem dL_law_454 : decode cL_law 454 = .ok (.iadd, 1) := by decide +kernel
theorem dL_law_455 : decode cL_law 455 = .ok (.iaload, 1) := by decide +kernel
theorem dL_law_456 : decode cL_law 456 = .ok (.invokevirtual 49, 3) := by decide +kernel
theorem dL_law_459 : decode cL_law 459 = .ok (.aload_n 2, 1) := by decide +kernel
theorem dL_law_460 : decode cL_law 460 = .ok (.aload_n 0, 1) := by decide +kernel
theorem dL_law_461 : decode cL_law 461 = .ok (.iload_n 3, 1) := by decide +kernel
theorem dL_law_462 : decode cL_law 462 = .ok (.iconst 1, 1) := by decide +kernel
theorem dL_law_463 : decode cL_law 463 = .ok (.iadd, 1) := by decide +kernel
theorem dL_law_464 : decode cL_law 464 = .ok (.iaload, 1) := by decide +kernel
theorem dL_law_465 : decode cL_law 465 = .ok (.invokevirtual 52, 3) := by decide +kernel
theorem dL_law_468 : decode cL_law 468 = .ok (.if_icmp .eq 424, 3) := by decide +kernel
theorem dL_law_471 : decode cL_law 471 = .ok (.iconst 0, 1) := by decide +kernel
theorem dL_law_472 : decode cL_law 472 = .ok (.ireturn, 1) := by decide +kernel
theorem dL_law_473 : decode cL_law 473 = .ok (.aload_n 1, 1) := by decide +kernel
theorem dL_law_474 : decode cL_law 474 = .ok (.aload_n 0, 1) := by decide +kernel
theorem dL_law_475 : decode cL_law 475 = .ok (.iload_n 3, 1) := by decide +kernel
theorem dL_law_476 : decode cL_law 476 = .ok (.iconst 1, 1) := by decide +kernel
theorem dL_law_477 : decode cL_law 477 = .ok (.iadd, 1) := by decide +kernel
theorem dL_law_478 : decode cL_law 478 = .ok (.iaload, 1) := by decide +kernel
theorem dL_law_479 : decode cL_law 479 = .ok (.aload_n 0, 1) := by decide +kernel
theorem dL_law_480 : decode cL_law 480 = .ok (.iload_n 3, 1) := by decide +kernel
theorem dL_law_481 : decode cL_law 481 = .ok (.iconst 2, 1) := by decide +kernel
theorem dL_law_482 : decode cL_law 482 = .ok (.iadd, 1) := by decide +kernel
theorem dL_law_483 : decode cL_law 483 = .ok (.iaload, 1) := by decide +kernel
theorem dL_law_484 : decode cL_law 484 = .ok (.aload_n 0, 1) := by decide +kernel
theorem dL_law_485 : decode cL_law 485 = .ok (.iload_n 3, 1) := by decide +kernel
theorem dL_law_486 : decode cL_law 486 = .ok (.iconst 3, 1) := by decide +kernel
theorem dL_law_487 : decode cL_law 487 = .ok (.iadd, 1) := by decide +kernel
theorem dL_law_488 : decode cL_law 488 = .ok (.iaload, 1) := by decide +kernel
theorem dL_law_489 : decode cL_law 489 = .ok (.i2l, 1) := by decide +kernel
theorem dL_law_490 : decode cL_law 490 = .ok (.bipush 32, 2) := by decide +kernel
theorem dL_law_492 : decode cL_law 492 = .ok (.lshl, 1) := by decide +kernel
theorem dL_law_493 : decode cL_law 493 = .ok (.aload_n 0, 1) := by decide +kernel
theorem dL_law_494 : decode cL_law 494 = .ok (.iload_n 3, 1) := by decide +kernel
theorem dL_law_495 : decode cL_law 495 = .ok (.iconst 4, 1) := by decide +kernel
theorem dL_law_496 : decode cL_law 496 = .ok (.iadd, 1) := by decide +kernel
theorem dL_law_497 : decode cL_law 497 = .ok (.iaload, 1) := by decide +kernel
theorem dL_law_498 : decode cL_law 498 = .ok (.i2l, 1) := by decide +kernel
theorem dL_law_499 : decode cL_law 499 = .ok (.ldc2_w 53, 3) := by decide +kernel
theorem dL_law_502 : decode cL_law 502 = .ok (.land, 1) := by decide +kernel
theorem dL_law_503 : decode cL_law 503 = .ok (.lor, 1) := by decide +kernel
theorem dL_law_504 : decode cL_law 504 = .ok (.invokevirtual 55, 3) := by decide +kernel
theorem dL_law_507 : decode cL_law 507 = .ok (.aload_n 2, 1) := by decide +kernel
theorem dL_law_508 : decode cL_law 508 = .ok (.aload_n 0, 1) := by decide +kernel
theorem dL_law_509 : decode cL_law 509 = .ok (.iload_n 3, 1) := by decide +kernel
theorem dL_law_510 : decode cL_law 510 = .ok (.iconst 1, 1) := by decide +kernel
theorem dL_law_511 : decode cL_law 511 = .ok (.iadd, 1) := by decide +kernel
theorem dL_law_512 : decode cL_law 512 = .ok (.iaload, 1) := by decide +kernel
theorem dL_law_513 : decode cL_law 513 = .ok (.aload_n 0, 1) := by decide +kernel
theorem dL_law_514 : decode cL_law 514 = .ok (.iload_n 3, 1) := by decide +kernel
theorem dL_law_515 : decode cL_law 515 = .ok (.iconst 2, 1) := by decide +kernel
theorem dL_law_516 : decode cL_law 516 = .ok (.iadd, 1) := by decide +kernel
theorem dL_law_517 : decode cL_law 517 = .ok (.iaload, 1) := by decide +kernel
theorem dL_law_518 : decode cL_law 518 = .ok (.aload_n 0, 1) := by decide +kernel
theorem dL_law_519 : decode cL_law 519 = .ok (.iload_n 3, 1) := by decide +kernel
theorem dL_law_520 : decode cL_law 520 = .ok (.iconst 3, 1) := by decide +kernel
theorem dL_law_521 : decode cL_law 521 = .ok (.iadd, 1) := by decide +kernel
theorem dL_law_522 : decode cL_law 522 = .ok (.iaload, 1) := by decide +kernel
theorem dL_law_523 : decode cL_law 523 = .ok (.i2l, 1) := by decide +kernel
theorem dL_law_524 : decode cL_law 524 = .ok (.bipush 32, 2) := by decide +kernel
theorem dL_law_526 : decode cL_law 526 = .ok (.lshl, 1) := by decide +kernel
theorem dL_law_527 : decode cL_law 527 = .ok (.aload_n 0, 1) := by decide +kernel
theorem dL_law_528 : decode cL_law 528 = .ok (.iload_n 3, 1) := by decide +kernel
theorem dL_law_529 : decode cL_law 529 = .ok (.iconst 4, 1) := by decide +kernel
theorem dL_law_530 : decode cL_law 530 = .ok (.iadd, 1) := by decide +kernel
theorem dL_law_531 : decode cL_law 531 = .ok (.iaload, 1) := by decide +kernel
theorem dL_law_532 : decode cL_law 532 = .ok (.i2l, 1) := by decide +kernel
theorem dL_law_533 : decode cL_law 533 = .ok (.ldc2_w 53, 3) := by decide +kernel
theorem dL_law_536 : decode cL_law 536 = .ok (.land, 1) := by decide +kernel
theorem dL_law_537 : decode cL_law 537 = .ok (.lor, 1) := by decide +kernel
theorem dL_law_538 : decode cL_law 538 = .ok (.invokevirtual 59, 3) := by decide +kernel
theorem dL_law_541 : decode cL_law 541 = .ok (.if_icmp .eq 351, 3) := by decide +kernel
theorem dL_law_544 : decode cL_law 544 = .ok (.iconst 0, 1) := by decide +kernel
theorem dL_law_545 : decode cL_law 545 = .ok (.ireturn, 1) := by decide +kernel
theorem dL_law_546 : decode cL_law 546 = .ok (.aload_n 1, 1) := by decide +kernel
theorem dL_law_547 : decode cL_law 547 = .ok (.invokevirtual 60, 3) := by decide +kernel
theorem dL_law_550 : decode cL_law 550 = .ok (.aload_n 2, 1) := by decide +kernel
theorem dL_law_551 : decode cL_law 551 = .ok (.invokevirtual 64, 3) := by decide +kernel
theorem dL_law_554 : decode cL_law 554 = .ok (.if_icmp .eq 338, 3) := by decide +kernel
theorem dL_law_557 : decode cL_law 557 = .ok (.iconst 0, 1) := by decide +kernel
theorem dL_law_558 : decode cL_law 558 = .ok (.ireturn, 1) := by decide +kernel
theorem dL_law_559 : decode cL_law 559 = .ok (.aload_n 1, 1) := by decide +kernel
theorem dL_law_560 : decode cL_law 560 = .ok (.aload_n 0, 1) := by decide +kernel
theorem dL_law_561 : decode cL_law 561 = .ok (.iload_n 3, 1) := by decide +kernel
theorem dL_law_562 : decode cL_law 562 = .ok (.iconst 1, 1) := by decide +kernel
theorem dL_law_563 : decode cL_law 563 = .ok (.iadd, 1) := by decide +kernel
theorem dL_law_564 : decode cL_law 564 = .ok (.iaload, 1) := by decide +kernel
theorem dL_law_565 : decode cL_law 565 = .ok (.invokevirtual 65, 3) := by decide +kernel
theorem dL_law_568 : decode cL_law 568 = .ok (.aload_n 2, 1) := by decide +kernel
theorem dL_law_569 : decode cL_law 569 = .ok (.aload_n 0, 1) := by decide +kernel
theorem dL_law_570 : decode cL_law 570 = .ok (.iload_n 3, 1) := by decide +kernel
theorem dL_law_571 : decode cL_law 571 = .ok (.iconst 1, 1) := by decide +kernel
theorem dL_law_572 : decode cL_law 572 = .ok (.iadd, 1) := by decide +kernel
theorem dL_law_573 : decode cL_law 573 = .ok (.iaload, 1) := by decide +kernel
theorem dL_law_574 : decode cL_law 574 = .ok (.invokevirtual 68, 3) := by decide +kernel
theorem dL_law_577 : decode cL_law 577 = .ok (.if_icmp .eq 315, 3) := by decide +kernel
theorem dL_law_580 : decode cL_law 580 = .ok (.iconst 0, 1) := by decide +kernel
theorem dL_law_581 : decode cL_law 581 = .ok (.ireturn, 1) := by decide +kernel
theorem dL_law_582 : decode cL_law 582 = .ok (.aload_n 1, 1) := by decide +kernel
theorem dL_law_583 : decode cL_law 583 = .ok (.aload_n 0, 1) := by decide +kernel
theorem dL_law_584 : decode cL_law 584 = .ok (.iload_n 3, 1) := by decide +kernel
theorem dL_law_585 : decode cL_law 585 = .ok (.iconst 1, 1) := by decide +kernel
theorem dL_law_586 : decode cL_law 586 = .ok (.iadd, 1) := by decide +kernel
theorem dL_law_587 : decode cL_law 587 = .ok (.iaload, 1) := by decide +kernel
theorem dL_law_588 : decode cL_law 588 = .ok (.aload_n 0, 1) := by decide +kernel
theorem dL_law_589 : decode cL_law 589 = .ok (.iload_n 3, 1) := by decide +kernel
theorem dL_law_590 : decode cL_law 590 = .ok (.iconst 2, 1) := by decide +kernel
theorem dL_law_591 : decode cL_law 591 = .ok (.iadd, 1) := by decide +kernel
theorem dL_law_592 : decode cL_law 592 = .ok (.iaload, 1) := by decide +kernel
theorem dL_law_593 : decode cL_law 593 = .ok (.invokevirtual 69, 3) := by decide +kernel
theorem dL_law_596 : decode cL_law 596 = .ok (.aload_n 2, 1) := by decide +kernel
theorem dL_law_597 : decode cL_law 597 = .ok (.aload_n 0, 1) := by decide +kernel
theorem dL_law_598 : decode cL_law 598 = .ok (.iload_n 3, 1) := by decide +kernel
theorem dL_law_599 : decode cL_law 599 = .ok (.iconst 1, 1) := by decide +kernel
theorem dL_law_600 : decode cL_law 600 = .ok (.iadd, 1) := by decide +kernel
theorem dL_law_601 : decode cL_law 601 = .ok (.iaload, 1) := by decide +kernel
theorem dL_law_602 : decode cL_law 602 = .ok (.aload_n 0, 1) := by decide +kernel
theorem dL_law_603 : decode cL_law 603 = .ok (.iload_n 3, 1) := by decide +kernel
theorem dL_law_604 : decode cL_law 604 = .ok (.iconst 2, 1) := by decide +kernel
theorem dL_law_605 : decode cL_law 605 = .ok (.iadd, 1) := by decide +kernel
theorem dL_law_606 : decode cL_law 606 = .ok (.iaload, 1) := by decide +kernel
theorem dL_law_607 : decode cL_law 607 = .ok (.invokevirtual 72, 3) := by decide +kernel
theorem dL_law_610 : decode cL_law 610 = .ok (.if_icmp .eq 282, 3) := by decide +kernel
theorem dL_law_613 : decode cL_law 613 = .ok (.iconst 0, 1) := by decide +kernel
theorem dL_law_614 : decode cL_law 614 = .ok (.ireturn, 1) := by decide +kernel
theorem dL_law_615 : decode cL_law 615 = .ok (.aload_n 1, 1) := by decide +kernel
theorem dL_law_616 : decode cL_law 616 = .ok (.aload_n 0, 1) := by decide +kernel
theorem dL_law_617 : decode cL_law 617 = .ok (.iload_n 3, 1) := by decide +kernel
theorem dL_law_618 : decode cL_law 618 = .ok (.iconst 1, 1) := by decide +kernel
theorem dL_law_619 : decode cL_law 619 = .ok (.iadd, 1) := by decide +kernel
theorem dL_law_620 : decode cL_law 620 = .ok (.iaload, 1) := by decide +kernel
theorem dL_law_621 : decode cL_law 621 = .ok (.aload_n 0, 1) := by decide +kernel
theorem dL_law_622 : decode cL_law 622 = .ok (.iload_n 3, 1) := by decide +kernel
theorem dL_law_623 : decode cL_law 623 = .ok (.iconst 2, 1) := by decide +kernel
theorem dL_law_624 : decode cL_law 624 = .ok (.iadd, 1) := by decide +kernel
theorem dL_law_625 : decode cL_law 625 = .ok (.iaload, 1) := by decide +kernel
theorem dL_law_626 : decode cL_law 626 = .ok (.aload_n 0, 1) := by decide +kernel
theorem dL_law_627 : decode cL_law 627 = .ok (.iload_n 3, 1) := by decide +kernel
theorem dL_law_628 : decode cL_law 628 = .ok (.iconst 3, 1) := by decide +kernel
theorem dL_law_629 : decode cL_law 629 = .ok (.iadd, 1) := by decide +kernel
theorem dL_law_630 : decode cL_law 630 = .ok (.iaload, 1) := by decide +kernel
theorem dL_law_631 : decode cL_law 631 = .ok (.aload_n 0, 1) := by decide +kernel
theorem dL_law_632 : decode cL_law 632 = .ok (.iload_n 3, 1) := by decide +kernel
theorem dL_law_633 : decode cL_law 633 = .ok (.iconst 4, 1) := by decide +kernel
theorem dL_law_634 : decode cL_law 634 = .ok (.iadd, 1) := by decide +kernel
theorem dL_law_635 : decode cL_law 635 = .ok (.iaload, 1) := by decide +kernel
theorem dL_law_636 : decode cL_law 636 = .ok (.invokevirtual 73, 3) := by decide +kernel
theorem dL_law_639 : decode cL_law 639 = .ok (.aload_n 2, 1) := by decide +kernel
theorem dL_law_640 : decode cL_law 640 = .ok (.aload_n 0, 1) := by decide +kernel
theorem dL_law_641 : decode cL_law 641 = .ok (.iload_n 3, 1) := by decide +kernel
theorem dL_law_642 : decode cL_law 642 = .ok (.iconst 1, 1) := by decide +kernel
theorem dL_law_643 : decode cL_law 643 = .ok (.iadd, 1) := by decide +kernel
theorem dL_law_644 : decode cL_law 644 = .ok (.iaload, 1) := by decide +kernel
theorem dL_law_645 : decode cL_law 645 = .ok (.aload_n 0, 1) := by decide +kernel
theorem dL_law_646 : decode cL_law 646 = .ok (.iload_n 3, 1) := by decide +kernel
theorem dL_law_647 : decode cL_law 647 = .ok (.iconst 2, 1) := by decide +kernel
theorem dL_law_648 : decode cL_law 648 = .ok (.iadd, 1) := by decide +kernel
theorem dL_law_649 : decode cL_law 649 = .ok (.iaload, 1) := by decide +kernel
theorem dL_law_650 : decode cL_law 650 = .ok (.aload_n 0, 1) := by decide +kernel
theorem dL_law_651 : decode cL_law 651 = .ok (.iload_n 3, 1) := by decide +kernel
theorem dL_law_652 : decode cL_law 652 = .ok (.iconst 3, 1) := by decide +kernel
theorem dL_law_653 : decode cL_law 653 = .ok (.iadd, 1) := by decide +kernel
theorem dL_law_654 : decode cL_law 654 = .ok (.iaload, 1) := by decide +kernel
theorem dL_law_655 : decode cL_law 655 = .ok (.aload_n 0, 1) := by decide +kernel
theorem dL_law_656 : decode cL_law 656 = .ok (.iload_n 3, 1) := by decide +kernel
theorem dL_law_657 : decode cL_law 657 = .ok (.iconst 4, 1) := by decide +kernel
theorem dL_law_658 : decode cL_law 658 = .ok (.iadd, 1) := by decide +kernel
theorem dL_law_659 : decode cL_law 659 = .ok (.iaload, 1) := by decide +kernel
theorem dL_law_660 : decode cL_law 660 = .ok (.invokevirtual 77, 3) := by decide +kernel
theorem dL_law_663 : decode cL_law 663 = .ok (.if_icmp .eq 229, 3) := by decide +kernel
theorem dL_law_666 : decode cL_law 666 = .ok (.iconst 0, 1) := by decide +kernel
theorem dL_law_667 : decode cL_law 667 = .ok (.ireturn, 1) := by decide +kernel
theorem dL_law_668 : decode cL_law 668 = .ok (.aload_n 1, 1) := by decide +kernel
theorem dL_law_669 : decode cL_law 669 = .ok (.aload_n 0, 1) := by decide +kernel
theorem dL_law_670 : decode cL_law 670 = .ok (.iload_n 3, 1) := by decide +kernel
theorem dL_law_671 : decode cL_law 671 = .ok (.iconst 1, 1) := by decide +kernel
theorem dL_law_672 : decode cL_law 672 = .ok (.iadd, 1) := by decide +kernel
theorem dL_law_673 : decode cL_law 673 = .ok (.iaload, 1) := by decide +kernel
theorem dL_law_674 : decode cL_law 674 = .ok (.aload_n 0, 1) := by decide +kernel
theorem dL_law_675 : decode cL_law 675 = .ok (.iload_n 3, 1) := by decide +kernel
theorem dL_law_676 : decode cL_law 676 = .ok (.iconst 2, 1) := by decide +kernel
theorem dL_law_677 : decode cL_law 677 = .ok (.iadd, 1) := by decide +kernel
theorem dL_law_678 : decode cL_law 678 = .ok (.iaload, 1) := by decide +kernel
theorem dL_law_679 : decode cL_law 679 = .ok (.aload_n 0, 1) := by decide +kernel
theorem dL_law_680 : decode cL_law 680 = .ok (.iload_n 3, 1) := by decide +kernel
theorem dL_law_681 : decode cL_law 681 = .ok (.iconst 3, 1) := by decide +kernel
theorem dL_law_682 : decode cL_law 682 = .ok (.iadd, 1) := by decide +kernel
theorem dL_law_683 : decode cL_law 683 = .ok (.iaload, 1) := by decide +kernel
theorem dL_law_684 : decode cL_law 684 = .ok (.invokevirtual 78, 3) := by decide +kernel
theorem dL_law_687 : decode cL_law 687 = .ok (.aload_n 2, 1) := by decide +kernel
theorem dL_law_688 : decode cL_law 688 = .ok (.aload_n 0, 1) := by decide +kernel
theorem dL_law_689 : decode cL_law 689 = .ok (.iload_n 3, 1) := by decide +kernel
theorem dL_law_690 : decode cL_law 690 = .ok (.iconst 1, 1) := by decide +kernel
theorem dL_law_691 : decode cL_law 691 = .ok (.iadd, 1) := by decide +kernel
theorem dL_law_692 : decode cL_law 692 = .ok (.iaload, 1) := by decide +kernel
theorem dL_law_693 : decode cL_law 693 = .ok (.aload_n 0, 1) := by decide +kernel
theorem dL_law_694 : decode cL_law 694 = .ok (.iload_n 3, 1) := by decide +kernel
theorem dL_law_695 : decode cL_law 695 = .ok (.iconst 2, 1) := by decide +kernel
theorem dL_law_696 : decode cL_law 696 = .ok (.iadd, 1) := by decide +kernel
theorem dL_law_697 : decode cL_law 697 = .ok (.iaload, 1) := by decide +kernel
theorem dL_law_698 : decode cL_law 698 = .ok (.aload_n 0, 1) := by decide +kernel
theorem dL_law_699 : decode cL_law 699 = .ok (.iload_n 3, 1) := by decide +kernel
theorem dL_law_700 : decode cL_law 700 = .ok (.iconst 3, 1) := by decide +kernel
theorem dL_law_701 : decode cL_law 701 = .ok (.iadd, 1) := by decide +kernel
theorem dL_law_702 : decode cL_law 702 = .ok (.iaload, 1) := by decide +kernel
theorem dL_law_703 : decode cL_law 703 = .ok (.invokevirtual 81, 3) := by decide +kernel
theorem dL_law_706 : decode cL_law 706 = .ok (.if_icmp .eq 186, 3) := by decide +kernel
theorem dL_law_709 : decode cL_law 709 = .ok (.iconst 0, 1) := by decide +kernel
theorem dL_law_710 : decode cL_law 710 = .ok (.ireturn, 1) := by decide +kernel
theorem dL_law_711 : decode cL_law 711 = .ok (.aload_n 1, 1) := by decide +kernel
theorem dL_law_712 : decode cL_law 712 = .ok (.aload_n 0, 1) := by decide +kernel
theorem dL_law_713 : decode cL_law 713 = .ok (.iload_n 3, 1) := by decide +kernel
theorem dL_law_714 : decode cL_law 714 = .ok (.iconst 1, 1) := by decide +kernel
theorem dL_law_715 : decode cL_law 715 = .ok (.iadd, 1) := by decide +kernel
theorem dL_law_716 : decode cL_law 716 = .ok (.iaload, 1) := by decide +kernel
theorem dL_law_717 : decode cL_law 717 = .ok (.aload_n 0, 1) := by decide +kernel
theorem dL_law_718 : decode cL_law 718 = .ok (.iload_n 3, 1) := by decide +kernel
theorem dL_law_719 : decode cL_law 719 = .ok (.iconst 2, 1) := by decide +kernel
theorem dL_law_720 : decode cL_law 720 = .ok (.iadd, 1) := by decide +kernel
theorem dL_law_721 : decode cL_law 721 = .ok (.iaload, 1) := by decide +kernel
theorem dL_law_722 : decode cL_law 722 = .ok (.invokevirtual 82, 3) := by decide +kernel
theorem dL_law_725 : decode cL_law 725 = .ok (.aload_n 2, 1) := by decide +kernel
theorem dL_law_726 : decode cL_law 726 = .ok (.aload_n 0, 1) := by decide +kernel
theorem dL_law_727 : decode cL_law 727 = .ok (.iload_n 3, 1) := by decide +kernel
theorem dL_law_728 : decode cL_law 728 = .ok (.iconst 1, 1) := by decide +kernel
theorem dL_law_729 : decode cL_law 729 = .ok (.iadd, 1) := by decide +kernel
theorem dL_law_730 : decode cL_law 730 = .ok (.iaload, 1) := by decide +kernel
theorem dL_law_731 : decode cL_law 731 = .ok (.aload_n 0, 1) := by decide +kernel
theorem dL_law_732 : decode cL_law 732 = .ok (.iload_n 3, 1) := by decide +kernel
theorem dL_law_733 : decode cL_law 733 = .ok (.iconst 2, 1) := by decide +kernel
theorem dL_law_734 : decode cL_law 734 = .ok (.iadd, 1) := by decide +kernel
theorem dL_law_735 : decode cL_law 735 = .ok (.iaload, 1) := by decide +kernel
theorem dL_law_736 : decode cL_law 736 = .ok (.invokevirtual 85, 3) := by decide +kernel
theorem dL_law_739 : decode cL_law 739 = .ok (.if_icmp .eq 153, 3) := by decide +kernel
theorem dL_law_742 : decode cL_law 742 = .ok (.iconst 0, 1) := by decide +kernel
theorem dL_law_743 : decode cL_law 743 = .ok (.ireturn, 1) := by decide +kernel
theorem dL_law_744 : decode cL_law 744 = .ok (.aload_n 1, 1) := by decide +kernel
theorem dL_law_745 : decode cL_law 745 = .ok (.aload_n 0, 1) := by decide +kernel
theorem dL_law_746 : decode cL_law 746 = .ok (.iload_n 3, 1) := by decide +kernel
theorem dL_law_747 : decode cL_law 747 = .ok (.iconst 1, 1) := by decide +kernel
theorem dL_law_748 : decode cL_law 748 = .ok (.iadd, 1) := by decide +kernel
theorem dL_law_749 : decode cL_law 749 = .ok (.iaload, 1) := by decide +kernel
theorem dL_law_750 : decode cL_law 750 = .ok (.invokevirtual 86, 3) := by decide +kernel
theorem dL_law_753 : decode cL_law 753 = .ok (.aload_n 2, 1) := by decide +kernel
theorem dL_law_754 : decode cL_law 754 = .ok (.aload_n 0, 1) := by decide +kernel
theorem dL_law_755 : decode cL_law 755 = .ok (.iload_n 3, 1) := by decide +kernel
theorem dL_law_756 : decode cL_law 756 = .ok (.iconst 1, 1) := by decide +kernel
theorem dL_law_757 : decode cL_law 757 = .ok (.iadd, 1) := by decide +kernel
theorem dL_law_758 : decode cL_law 758 = .ok (.iaload, 1) := by decide +kernel
theorem dL_law_759 : decode cL_law 759 = .ok (.invokevirtual 89, 3) := by decide +kernel
theorem dL_law_762 : decode cL_law 762 = .ok (.if_icmp .eq 130, 3) := by decide +kernel
theorem dL_law_765 : decode cL_law 765 = .ok (.iconst 0, 1) := by decide +kernel
theorem dL_law_766 : decode cL_law 766 = .ok (.ireturn, 1) := by decide +kernel
theorem dL_law_767 : decode cL_law 767 = .ok (.aload_n 1, 1) := by decide +kernel
theorem dL_law_768 : decode cL_law 768 = .ok (.invokevirtual 90, 3) := by decide +kernel
theorem dL_law_771 : decode cL_law 771 = .ok (.aload_n 2, 1) := by decide +kernel
theorem dL_law_772 : decode cL_law 772 = .ok (.invokevirtual 93, 3) := by decide +kernel
theorem dL_law_775 : decode cL_law 775 = .ok (.if_icmp .eq 117, 3) := by decide +kernel
theorem dL_law_778 : decode cL_law 778 = .ok (.iconst 0, 1) := by decide +kernel
theorem dL_law_779 : decode cL_law 779 = .ok (.ireturn, 1) := by decide +kernel
theorem dL_law_780 : decode cL_law 780 = .ok (.aload_n 1, 1) := by decide +kernel
theorem dL_law_781 : decode cL_law 781 = .ok (.aload_n 0, 1) := by decide +kernel
theorem dL_law_782 : decode cL_law 782 = .ok (.iload_n 3, 1) := by decide +kernel
theorem dL_law_783 : decode cL_law 783 = .ok (.iconst 1, 1) := by decide +kernel
theorem dL_law_784 : decode cL_law 784 = .ok (.iadd, 1) := by decide +kernel
theorem dL_law_785 : decode cL_law 785 = .ok (.iaload, 1) := by decide +kernel
theorem dL_law_786 : decode cL_law 786 = .ok (.invokevirtual 94, 3) := by decide +kernel
theorem dL_law_789 : decode cL_law 789 = .ok (.aload_n 2, 1) := by decide +kernel
theorem dL_law_790 : decode cL_law 790 = .ok (.aload_n 0, 1) := by decide +kernel
theorem dL_law_791 : decode cL_law 791 = .ok (.iload_n 3, 1) := by decide +kernel
theorem dL_law_792 : decode cL_law 792 = .ok (.iconst 1, 1) := by decide +kernel
theorem dL_law_793 : decode cL_law 793 = .ok (.iadd, 1) := by decide +kernel
theorem dL_law_794 : decode cL_law 794 = .ok (.iaload, 1) := by decide +kernel
theorem dL_law_795 : decode cL_law 795 = .ok (.invokevirtual 97, 3) := by decide +kernel
theorem dL_law_798 : decode cL_law 798 = .ok (.if_icmp .eq 94, 3) := by decide +kernel
theorem dL_law_801 : decode cL_law 801 = .ok (.iconst 0, 1) := by decide +kernel
theorem dL_law_802 : decode cL_law 802 = .ok (.ireturn, 1) := by decide +kernel
theorem dL_law_803 : decode cL_law 803 = .ok (.aload_n 1, 1) := by decide +kernel
theorem dL_law_804 : decode cL_law 804 = .ok (.aload_n 0, 1) := by decide +kernel
theorem dL_law_805 : decode cL_law 805 = .ok (.iload_n 3, 1) := by decide +kernel
theorem dL_law_806 : decode cL_law 806 = .ok (.iconst 1, 1) := by decide +kernel
theorem dL_law_807 : decode cL_law 807 = .ok (.iadd, 1) := by decide +kernel
theorem dL_law_808 : decode cL_law 808 = .ok (.iaload, 1) := by decide +kernel
theorem dL_law_809 : decode cL_law 809 = .ok (.invokevirtual 98, 3) := by decide +kernel
theorem dL_law_812 : decode cL_law 812 = .ok (.aload_n 2, 1) := by decide +kernel
theorem dL_law_813 : decode cL_law 813 = .ok (.aload_n 0, 1) := by decide +kernel
theorem dL_law_814 : decode cL_law 814 = .ok (.iload_n 3, 1) := by decide +kernel
theorem dL_law_815 : decode cL_law 815 = .ok (.iconst 1, 1) := by decide +kernel
theorem dL_law_816 : decode cL_law 816 = .ok (.iadd, 1) := by decide +kernel
theorem dL_law_817 : decode cL_law 817 = .ok (.iaload, 1) := by decide +kernel
theorem dL_law_818 : decode cL_law 818 = .ok (.invokevirtual 101, 3) := by decide +kernel
theorem dL_law_821 : decode cL_law 821 = .ok (.if_icmp .eq 71, 3) := by decide +kernel
theorem dL_law_824 : decode cL_law 824 = .ok (.iconst 0, 1) := by decide +kernel
theorem dL_law_825 : decode cL_law 825 = .ok (.ireturn, 1) := by decide +kernel
theorem dL_law_826 : decode cL_law 826 = .ok (.aload_n 1, 1) := by decide +kernel
theorem dL_law_827 : decode cL_law 827 = .ok (.aload_n 0, 1) := by decide +kernel
theorem dL_law_828 : decode cL_law 828 = .ok (.iload_n 3, 1) := by decide +kernel
theorem dL_law_829 : decode cL_law 829 = .ok (.iconst 1, 1) := by decide +kernel
theorem dL_law_830 : decode cL_law 830 = .ok (.iadd, 1) := by decide +kernel
theorem dL_law_831 : decode cL_law 831 = .ok (.iaload, 1) := by decide +kernel
theorem dL_law_832 : decode cL_law 832 = .ok (.invokevirtual 102, 3) := by decide +kernel
theorem dL_law_835 : decode cL_law 835 = .ok (.aload_n 2, 1) := by decide +kernel
theorem dL_law_836 : decode cL_law 836 = .ok (.aload_n 0, 1) := by decide +kernel
theorem dL_law_837 : decode cL_law 837 = .ok (.iload_n 3, 1) := by decide +kernel
theorem dL_law_838 : decode cL_law 838 = .ok (.iconst 1, 1) := by decide +kernel
theorem dL_law_839 : decode cL_law 839 = .ok (.iadd, 1) := by decide +kernel
theorem dL_law_840 : decode cL_law 840 = .ok (.iaload, 1) := by decide +kernel
theorem dL_law_841 : decode cL_law 841 = .ok (.invokevirtual 105, 3) := by decide +kernel
theorem dL_law_844 : decode cL_law 844 = .ok (.if_icmp .eq 48, 3) := by decide +kernel
theorem dL_law_847 : decode cL_law 847 = .ok (.iconst 0, 1) := by decide +kernel
theorem dL_law_848 : decode cL_law 848 = .ok (.ireturn, 1) := by decide +kernel
theorem dL_law_849 : decode cL_law 849 = .ok (.aload_n 1, 1) := by decide +kernel
theorem dL_law_850 : decode cL_law 850 = .ok (.aload_n 0, 1) := by decide +kernel
theorem dL_law_851 : decode cL_law 851 = .ok (.iload_n 3, 1) := by decide +kernel
theorem dL_law_852 : decode cL_law 852 = .ok (.iconst 1, 1) := by decide +kernel
theorem dL_law_853 : decode cL_law 853 = .ok (.iadd, 1) := by decide +kernel
theorem dL_law_854 : decode cL_law 854 = .ok (.iaload, 1) := by decide +kernel
theorem dL_law_855 : decode cL_law 855 = .ok (.aload_n 0, 1) := by decide +kernel
theorem dL_law_856 : decode cL_law 856 = .ok (.iload_n 3, 1) := by decide +kernel
theorem dL_law_857 : decode cL_law 857 = .ok (.iconst 2, 1) := by decide +kernel
theorem dL_law_858 : decode cL_law 858 = .ok (.iadd, 1) := by decide +kernel
theorem dL_law_859 : decode cL_law 859 = .ok (.iaload, 1) := by decide +kernel
theorem dL_law_860 : decode cL_law 860 = .ok (.aload_n 0, 1) := by decide +kernel
theorem dL_law_861 : decode cL_law 861 = .ok (.iload_n 3, 1) := by decide +kernel
theorem dL_law_862 : decode cL_law 862 = .ok (.iconst 3, 1) := by decide +kernel
theorem dL_law_863 : decode cL_law 863 = .ok (.iadd, 1) := by decide +kernel
theorem dL_law_864 : decode cL_law 864 = .ok (.iaload, 1) := by decide +kernel
theorem dL_law_865 : decode cL_law 865 = .ok (.invokevirtual 106, 3) := by decide +kernel
theorem dL_law_868 : decode cL_law 868 = .ok (.aload_n 2, 1) := by decide +kernel
theorem dL_law_869 : decode cL_law 869 = .ok (.aload_n 0, 1) := by decide +kernel
theorem dL_law_870 : decode cL_law 870 = .ok (.iload_n 3, 1) := by decide +kernel
theorem dL_law_871 : decode cL_law 871 = .ok (.iconst 1, 1) := by decide +kernel
theorem dL_law_872 : decode cL_law 872 = .ok (.iadd, 1) := by decide +kernel
theorem dL_law_873 : decode cL_law 873 = .ok (.iaload, 1) := by decide +kernel
theorem dL_law_874 : decode cL_law 874 = .ok (.aload_n 0, 1) := by decide +kernel
theorem dL_law_875 : decode cL_law 875 = .ok (.iload_n 3, 1) := by decide +kernel
theorem dL_law_876 : decode cL_law 876 = .ok (.iconst 2, 1) := by decide +kernel
theorem dL_law_877 : decode cL_law 877 = .ok (.iadd, 1) := by decide +kernel
theorem dL_law_878 : decode cL_law 878 = .ok (.iaload, 1) := by decide +kernel
theorem dL_law_879 : decode cL_law 879 = .ok (.aload_n 0, 1) := by decide +kernel
theorem dL_law_880 : decode cL_law 880 = .ok (.iload_n 3, 1) := by decide +kernel
theorem dL_law_881 : decode cL_law 881 = .ok (.iconst 3, 1) := by decide +kernel
theorem dL_law_882 : decode cL_law 882 = .ok (.iadd, 1) := by decide +kernel
theorem dL_law_883 : decode cL_law 883 = .ok (.iaload, 1) := by decide +kernel
theorem dL_law_884 : decode cL_law 884 = .ok (.invokevirtual 109, 3) := by decide +kernel
theorem dL_law_887 : decode cL_law 887 = .ok (.if_icmp .eq 5, 3) := by decide +kernel
theorem dL_law_890 : decode cL_law 890 = .ok (.iconst 0, 1) := by decide +kernel
theorem dL_law_891 : decode cL_law 891 = .ok (.ireturn, 1) := by decide +kernel
theorem dL_law_892 : decode cL_law 892 = .ok (.iinc 3 6, 3) := by decide +kernel
theorem dL_law_895 : decode cL_law 895 = .ok (.goto (-877), 3) := by decide +kernel
theorem dL_law_898 : decode cL_law 898 = .ok (.iconst 1, 1) := by decide +kernel
theorem dL_law_899 : decode cL_law 899 = .ok (.ireturn, 1) := by decide +kernel
end
section

/-! ===== words ===== -/
def gAll : List Cond := lw_tbl.filter goodWord
def gIsNest : Cond → Bool
  | .methodLinkNest _ _ _ _ => true
  | _ => false
def gNest : List Cond := lw_tbl.filter gIsNest
theorem gm_t {w : Cond} (h : w ∈ tables_1) (hg : goodWord w = true) : w ∈ gAll := List.mem_filter.mpr ⟨List.mem_append_right _ h, hg⟩
theorem gm_1 {w : Cond} (i : Nat) (h : tables_1_1[i]? = some w) (hg : goodWord w = true) : w ∈ gAll := gm_t (List.mem_append_left _ (List.mem_of_getElem? h)) hg
theorem gm_2 {w : Cond} (i : Nat) (h : tables_1_2[i]? = some w) (hg : goodWord w = true) : w ∈ gAll := gm_t (List.mem_append_right _ (List.mem_append_left _ (List.mem_of_getElem? h))) hg
theorem gm_3 {w : Cond} (i : Nat) (h : tables_1_3[i]? = some w) (hg : goodWord w = true) : w ∈ gAll := gm_t (List.mem_append_right _ (List.mem_append_right _ (List.mem_append_left _ (List.mem_of_getElem? h)))) hg
theorem gm_4 {w : Cond} (i : Nat) (h : tables_1_4[i]? = some w) (hg : goodWord w = true) : w ∈ gAll := gm_t (List.mem_append_right _ (List.mem_append_right _ (List.mem_append_right _ (List.mem_of_getElem? h)))) hg
theorem gm_s {w : Cond} (i : Nat) (h : (k2_sels lw_privs)[i]? = some w) (hg : goodWord w = true) : w ∈ gAll := List.mem_filter.mpr ⟨List.mem_append_left _ (List.mem_of_getElem? h), hg⟩
theorem gn_1 {w : Cond} (i : Nat) (h : tables_1_1[i]? = some w) (hg : gIsNest w = true) : w ∈ gNest := List.mem_filter.mpr ⟨List.mem_append_right _ (List.mem_append_left _ (List.mem_of_getElem? h)), hg⟩
theorem gn_2 {w : Cond} (i : Nat) (h : tables_1_2[i]? = some w) (hg : gIsNest w = true) : w ∈ gNest := List.mem_filter.mpr ⟨List.mem_append_right _ (List.mem_append_right _ (List.mem_append_left _ (List.mem_of_getElem? h))), hg⟩
theorem gn_3 {w : Cond} (i : Nat) (h : tables_1_3[i]? = some w) (hg : gIsNest w = true) : w ∈ gNest := List.mem_filter.mpr ⟨List.mem_append_right _ (List.mem_append_right _ (List.mem_append_right _ (List.mem_append_left _ (List.mem_of_getElem? h)))), hg⟩
theorem gn_4 {w : Cond} (i : Nat) (h : tables_1_4[i]? = some w) (hg : gIsNest w = true) : w ∈ gNest := List.mem_filter.mpr ⟨List.mem_append_right _ (List.mem_append_right _ (List.mem_append_right _ (List.mem_append_right _ (List.mem_of_getElem? h)))), hg⟩
theorem gGood {y : MethodName} {b : ByteArray} {n : Nat} {r : Option FieldType} {Ts : List Cond} (hT : ∀ w ∈ gAll, w ∈ Ts) (h : Cond.code y b n r ∈ gAll) : GoodIn Ts (Cond.code y b n r :: gAll) := by
  intro w hw
  have h1 : w ∈ gAll := by
    rcases List.mem_cons.mp hw with rfl | h2
    · exact h
    · exact h2
  exact ⟨hT w h1, good_of_word (List.mem_filter.mp h1).2⟩
def gN (U : State) : Prop := ∀ w ∈ gNest, va_Nw w U
theorem gN.same {u U : State} (h : u.vm = U.vm) (hn : gN u) : gN U := fun w hw => by
  have h2 := (List.mem_filter.mp hw).2
  cases w <;> first | (exact va_Nw.same rfl h (hn _ hw)) | (cases h2)
theorem gN.warm {s U : State} (hW : s.WarmedH U.vm) (hn : gN s) : gN U := fun w hw => by
  have h2 := (List.mem_filter.mp hw).2
  cases w <;> first | (exact va_Nw.warmM hW (hn _ hw)) | (cases h2)
/-! ===== numbers ===== -/
def vi (n : Int) : Value := .int (Int32.ofInt n)
def rng (n : Int) : Prop := -2147483648 ≤ n ∧ n ≤ 2147483647
theorem gI_toInt {n : Int} (h : rng n) : (Int32.ofInt n).toInt = n := Int32.toInt_ofInt_of_le (by have := h.1; omega) (by have := h.2; omega)
theorem gI_eq {a b : Int} (ha : rng a) (hb : rng b) : Int32.ofInt a = Int32.ofInt b ↔ a = b := by
  rw [← Int32.toInt_inj, gI_toInt ha, gI_toInt hb]
theorem gI_lt {a b : Int} (ha : rng a) (hb : rng b) : Int32.ofInt a < Int32.ofInt b ↔ a < b := by
  rw [Int32.lt_iff_toInt_lt, gI_toInt ha, gI_toInt hb]
theorem gI_le {a b : Int} (ha : rng a) (hb : rng b) : Int32.ofInt a ≤ Int32.ofInt b ↔ a ≤ b := by
  rw [Int32.le_iff_toInt_le, gI_toInt ha, gI_toInt hb]
theorem gI_0 : (0 : Int32) = Int32.ofInt 0 := rfl
theorem rng_0 : rng 0 := ⟨by decide, by decide⟩
theorem gI_in {i : Int} {n : Nat} (h0 : 0 ≤ i) (h1 : i < n) (hn : n < 2147483648) : vp_in (Int32.ofInt i) n := by
  rw [vp_in_iff, gI_toInt ⟨by omega, by omega⟩]
  exact ⟨h0, h1⟩
theorem gI_nat {i : Int} {n : Nat} (h0 : 0 ≤ i) (h1 : i < n) (hn : n < 2147483648) : ((Int32.ofInt i).toNatClampNeg : Int) = i := by
  have h : (Int32.ofInt i).toInt.toNat = (Int32.ofInt i).toNatClampNeg := Int32.toNat_toInt _
  rw [gI_toInt ⟨by omega, by omega⟩] at h
  rw [← h]
  omega
def gand (a b : Int) : Int := (Int32.ofInt a &&& Int32.ofInt b).toInt
def gor (a b : Int) : Int := (Int32.ofInt a ||| Int32.ofInt b).toInt
def gxor (a b : Int) : Int := (Int32.ofInt a ^^^ Int32.ofInt b).toInt
def gshl (a b : Int) : Int := (Int32.ofInt a <<< (Int32.ofInt b &&& 31)).toInt
def gshr (a b : Int) : Int := (Int32.ofInt a >>> (Int32.ofInt b &&& 31)).toInt
def gushr (a b : Int) : Int := ((Int32.ofInt a).toUInt32 >>> ((Int32.ofInt b).toUInt32 &&& Int32.toUInt32 31)).toInt32.toInt
def gi2l (a : Int) : Int64 := (Int32.ofInt a).toInt64
def gl2i (a : Int64) : Int := a.toInt32.toInt
def glshl (x : Int64) (b : Int) : Int64 := x <<< ((Int32.ofInt b).toInt64 &&& 63)
def glshr (x : Int64) (b : Int) : Int64 := x >>> ((Int32.ofInt b).toInt64 &&& 63)
def glushr (x : Int64) (b : Int) : Int64 := (x.toUInt64 >>> ((Int32.ofInt b).toInt64.toUInt64 &&& Int64.toUInt64 63)).toInt64
theorem vi_back (x : Int32) : vi x.toInt = .int x := by unfold vi; rw [Int32.ofInt_toInt]
theorem rng_i (x : Int32) : rng x.toInt := ⟨by have := x.le_toInt; omega, by have := x.toInt_lt; omega⟩
def gb (p : Prop) [Decidable p] : Int := if p then 1 else 0
theorem gb_t {p : Prop} [Decidable p] (h : p) : gb p = 1 := if_pos h
theorem gb_f {p : Prop} [Decidable p] (h : ¬ p) : gb p = 0 := if_neg h
theorem gb_01 (p : Prop) [Decidable p] : gb p = 0 ∨ gb p = 1 := by
  by_cases h : p
  · exact Or.inr (gb_t h)
  · exact Or.inl (gb_f h)
theorem gb_rng (p : Prop) [Decidable p] : rng (gb p) := by
  rcases gb_01 p with h | h <;> rw [h] <;> exact ⟨by decide, by decide⟩
theorem gb_eq0 {p : Prop} [Decidable p] : gb p = 0 ↔ ¬ p := by
  by_cases h : p <;> simp [gb, h]
/-! ===== the world ===== -/
abbrev gG : Type := (Nat → ClassId) × (Nat → Nat → Nat) × (Int → Nat) × (Nat → ClassId)
abbrev gS : Type := (Int → Nat → Int) × (Int → Int → Int)
abbrev gSh : Type := (Nat × List (Option Int)) ⊕ (Nat × Nat) ⊕ (Nat × Nat × (Nat → Int))
def gR (G : gG) (k : Int) : Value := .ref (G.2.2.1 k)
def gfl (G : gG) (σ : gS) (k : Int) : Nat → List (Option Int) → List Value
  | _, [] => []
  | j, none :: r => vi (σ.1 k j) :: gfl G σ k (j + 1) r
  | j, some q :: r => gR G q :: gfl G σ k (j + 1) r
def gcont (G : gG) (σ : gS) (k : Int) (sh : gSh) : va_E := match sh with
  | .inl o => .inr (o.1, gfl G σ k 0 o.2)
  | .inr (.inl a) => .inl (G.2.2.2 a.1, a.2, .inl (fun j => Int32.ofInt (σ.2 k (j : Int))))
  | .inr (.inr a) => .inl (G.2.2.2 a.1, a.2.1, .inr (.inr (.inr (.inr (fun j => some (G.2.2.1 (a.2.2 j)))))))
def gtab : List (Int × gSh) := [
  (0, .inl (7, [some 1, some 2, some 3, some 4, some 5, some 6, some 7, some 8])),
  (1, .inr (.inr (2, 6, fun j => 100 + (j : Int)))),
  (2, .inr (.inr (3, 10, fun j => 130 + (j : Int)))),
  (3, .inl (1, [none, none, none, none, none])),
  (4, .inl (0, [some 9, some 10, some 11, some 12, none, none, none, none, none, some 13, some 14, some 15, some 16])),
  (5, .inl (2, [none, some 17, some 18])),
  (6, .inl (5, [some 19, some 20, some 21, some 22, none])),
  (7, .inl (6, [some 23, none, none, none, some 24, some 25, some 26, some 27])),
  (8, .inr (.inl (0, 12))),
  (9, .inr (.inl (0, 24))), (10, .inr (.inl (0, 24))), (11, .inr (.inl (0, 24))), (12, .inr (.inl (0, 24))),
  (13, .inr (.inr (4, 25, fun j => 200 + (j : Int)))),
  (14, .inr (.inl (0, 121))), (15, .inr (.inl (0, 121))), (16, .inr (.inl (0, 121))),
  (17, .inr (.inl (0, 9))),
  (18, .inr (.inr (4, 9, fun j => 300 + (j : Int)))),
  (19, .inr (.inl (0, 60))), (20, .inr (.inl (0, 60))), (21, .inr (.inl (0, 60))), (22, .inr (.inl (0, 60))),
  (23, .inr (.inl (0, 12))), (24, .inr (.inl (0, 12))), (25, .inr (.inl (0, 12))), (26, .inr (.inl (0, 12))), (27, .inr (.inl (0, 12))),
  (400, .inl (8, [some 401, some 402, some 403, some 404, some 405, some 406, none, none, none, none, none, some 412, some 413, some 414, some 415, some 416, none, some 418, some 419, some 420, some 421, none, some 423, some 424, some 425, some 426, none, some 428, none, none, some 431, some 432, some 433, some 434])),
  (401, .inr (.inl (0, 6))),
  (402, .inr (.inl (0, 144))),
  (403, .inr (.inl (0, 144))),
  (404, .inr (.inl (0, 10))),
  (405, .inr (.inl (0, 10))),
  (406, .inr (.inl (0, 1200))),
  (412, .inr (.inl (0, 3025))),
  (413, .inr (.inl (0, 24))),
  (414, .inr (.inl (0, 24))),
  (415, .inr (.inl (0, 24))),
  (416, .inr (.inl (1, 24))),
  (418, .inr (.inl (0, 9))),
  (419, .inr (.inl (0, 9))),
  (420, .inr (.inl (0, 90))),
  (421, .inr (.inl (0, 10))),
  (423, .inr (.inl (0, 60))),
  (424, .inr (.inl (0, 60))),
  (425, .inr (.inl (0, 60))),
  (426, .inr (.inl (0, 60))),
  (428, .inr (.inl (0, 12))),
  (431, .inr (.inl (0, 12))),
  (432, .inr (.inl (0, 12))),
  (433, .inr (.inl (1, 144))),
  (434, .inr (.inl (0, 12)))]
def gshape (k : Int) : Option gSh :=
  if 100 ≤ k ∧ k < 106 then some (.inl (3, [some (k + 10), some (k + 20), none]))
  else if 110 ≤ k ∧ k < 116 then some (.inr (.inl (0, 24)))
  else if 120 ≤ k ∧ k < 126 then some (.inr (.inl (0, 24)))
  else if 130 ≤ k ∧ k < 140 then some (.inl (4, [some (k + 10), none, none]))
  else if 140 ≤ k ∧ k < 150 then some (.inr (.inl (0, 120)))
  else if 200 ≤ k ∧ k < 225 then some (.inr (.inl (0, 121)))
  else if 300 ≤ k ∧ k < 309 then some (.inr (.inl (0, 10)))
  else List.lookup k gtab
theorem sh_piece {k : Int} (h0 : 100 ≤ k) (h1 : k < 106) : gshape k = some (.inl (3, [some (k + 10), some (k + 20), none])) := if_pos ⟨h0, h1⟩
theorem sh_pitches {k : Int} (h0 : 110 ≤ k) (h1 : k < 116) : gshape k = some (.inr (.inl (0, 24))) := by
  unfold gshape; rw [if_neg (by omega), if_pos ⟨h0, h1⟩]
theorem sh_beats {k : Int} (h0 : 120 ≤ k) (h1 : k < 126) : gshape k = some (.inr (.inl (0, 24))) := by
  unfold gshape; rw [if_neg (by omega), if_neg (by omega), if_pos ⟨h0, h1⟩]
theorem sh_recording {k : Int} (h0 : 130 ≤ k) (h1 : k < 140) : gshape k = some (.inl (4, [some (k + 10), none, none])) := by
  unfold gshape; rw [if_neg (by omega), if_neg (by omega), if_neg (by omega), if_pos ⟨h0, h1⟩]
theorem sh_readings {k : Int} (h0 : 140 ≤ k) (h1 : k < 150) : gshape k = some (.inr (.inl (0, 120))) := by
  unfold gshape; rw [if_neg (by omega), if_neg (by omega), if_neg (by omega), if_neg (by omega), if_pos ⟨h0, h1⟩]
theorem sh_bestrow {k : Int} (h0 : 200 ≤ k) (h1 : k < 225) : gshape k = some (.inr (.inl (0, 121))) := by
  unfold gshape; rw [if_neg (by omega), if_neg (by omega), if_neg (by omega), if_neg (by omega), if_neg (by omega), if_pos ⟨h0, h1⟩]
theorem sh_rankrow {k : Int} (h0 : 300 ≤ k) (h1 : k < 309) : gshape k = some (.inr (.inl (0, 10))) := by
  unfold gshape; rw [if_neg (by omega), if_neg (by omega), if_neg (by omega), if_neg (by omega), if_neg (by omega), if_neg (by omega), if_pos ⟨h0, h1⟩]
theorem sh_0 : gshape 0 = some (.inl (7, [some 1, some 2, some 3, some 4, some 5, some 6, some 7, some 8])) := rfl
theorem sh_1 : gshape 1 = some (.inr (.inr (2, 6, fun j => 100 + (j : Int)))) := rfl
theorem sh_2 : gshape 2 = some (.inr (.inr (3, 10, fun j => 130 + (j : Int)))) := rfl
theorem sh_3 : gshape 3 = some (.inl (1, [none, none, none, none, none])) := rfl
theorem sh_4 : gshape 4 = some (.inl (0, [some 9, some 10, some 11, some 12, none, none, none, none, none, some 13, some 14, some 15, some 16])) := rfl
theorem sh_5 : gshape 5 = some (.inl (2, [none, some 17, some 18])) := rfl
theorem sh_6 : gshape 6 = some (.inl (5, [some 19, some 20, some 21, some 22, none])) := rfl
theorem sh_7 : gshape 7 = some (.inl (6, [some 23, none, none, none, some 24, some 25, some 26, some 27])) := rfl
theorem sh_8 : gshape 8 = some (.inr (.inl (0, 12))) := rfl
theorem sh_9 : gshape 9 = some (.inr (.inl (0, 24))) := rfl
theorem sh_10 : gshape 10 = some (.inr (.inl (0, 24))) := rfl
theorem sh_11 : gshape 11 = some (.inr (.inl (0, 24))) := rfl
theorem sh_12 : gshape 12 = some (.inr (.inl (0, 24))) := rfl
theorem sh_13 : gshape 13 = some (.inr (.inr (4, 25, fun j => 200 + (j : Int)))) := rfl
theorem sh_14 : gshape 14 = some (.inr (.inl (0, 121))) := rfl
theorem sh_15 : gshape 15 = some (.inr (.inl (0, 121))) := rfl
theorem sh_16 : gshape 16 = some (.inr (.inl (0, 121))) := rfl
theorem sh_17 : gshape 17 = some (.inr (.inl (0, 9))) := rfl
theorem sh_18 : gshape 18 = some (.inr (.inr (4, 9, fun j => 300 + (j : Int)))) := rfl
theorem sh_19 : gshape 19 = some (.inr (.inl (0, 60))) := rfl
theorem sh_20 : gshape 20 = some (.inr (.inl (0, 60))) := rfl
theorem sh_21 : gshape 21 = some (.inr (.inl (0, 60))) := rfl
theorem sh_22 : gshape 22 = some (.inr (.inl (0, 60))) := rfl
theorem sh_23 : gshape 23 = some (.inr (.inl (0, 12))) := rfl
theorem sh_24 : gshape 24 = some (.inr (.inl (0, 12))) := rfl
theorem sh_25 : gshape 25 = some (.inr (.inl (0, 12))) := rfl
theorem sh_26 : gshape 26 = some (.inr (.inl (0, 12))) := rfl
theorem sh_27 : gshape 27 = some (.inr (.inl (0, 12))) := rfl
theorem sh_400 : gshape 400 = some (.inl (8, [some 401, some 402, some 403, some 404, some 405, some 406, none, none, none, none, none, some 412, some 413, some 414, some 415, some 416, none, some 418, some 419, some 420, some 421, none, some 423, some 424, some 425, some 426, none, some 428, none, none, some 431, some 432, some 433, some 434])) := rfl
theorem sh_401 : gshape 401 = some (.inr (.inl (0, 6))) := rfl
theorem sh_402 : gshape 402 = some (.inr (.inl (0, 144))) := rfl
theorem sh_403 : gshape 403 = some (.inr (.inl (0, 144))) := rfl
theorem sh_404 : gshape 404 = some (.inr (.inl (0, 10))) := rfl
theorem sh_405 : gshape 405 = some (.inr (.inl (0, 10))) := rfl
theorem sh_406 : gshape 406 = some (.inr (.inl (0, 1200))) := rfl
theorem sh_412 : gshape 412 = some (.inr (.inl (0, 3025))) := rfl
theorem sh_413 : gshape 413 = some (.inr (.inl (0, 24))) := rfl
theorem sh_414 : gshape 414 = some (.inr (.inl (0, 24))) := rfl
theorem sh_415 : gshape 415 = some (.inr (.inl (0, 24))) := rfl
theorem sh_416 : gshape 416 = some (.inr (.inl (1, 24))) := rfl
theorem sh_418 : gshape 418 = some (.inr (.inl (0, 9))) := rfl
theorem sh_419 : gshape 419 = some (.inr (.inl (0, 9))) := rfl
theorem sh_420 : gshape 420 = some (.inr (.inl (0, 90))) := rfl
theorem sh_421 : gshape 421 = some (.inr (.inl (0, 10))) := rfl
theorem sh_423 : gshape 423 = some (.inr (.inl (0, 60))) := rfl
theorem sh_424 : gshape 424 = some (.inr (.inl (0, 60))) := rfl
theorem sh_425 : gshape 425 = some (.inr (.inl (0, 60))) := rfl
theorem sh_426 : gshape 426 = some (.inr (.inl (0, 60))) := rfl
theorem sh_428 : gshape 428 = some (.inr (.inl (0, 12))) := rfl
theorem sh_431 : gshape 431 = some (.inr (.inl (0, 12))) := rfl
theorem sh_432 : gshape 432 = some (.inr (.inl (0, 12))) := rfl
theorem sh_433 : gshape 433 = some (.inr (.inl (1, 144))) := rfl
theorem sh_434 : gshape 434 = some (.inr (.inl (0, 12))) := rfl
def gW (G : gG) (σ : gS) (H : Heap) : Prop := ∀ (k : Int) (sh : gSh), gshape k = some sh → va_at (G.1, G.2.1) vwCl (G.2.2.1 k, gcont G σ k sh) H
def gA (G : gG) : Nat → Prop := fun q => ∃ (k : Int) (sh : gSh), gshape k = some sh ∧ q = G.2.2.1 k
def gInj (G : gG) : Prop := ∀ (k : Int) (sh : gSh) (k' : Int) (sh' : gSh), gshape k = some sh → gshape k' = some sh' → G.2.2.1 k = G.2.2.1 k' → k = k'
def gtys (G : gG) : List (ClassId × FieldType) := [(G.2.2.2 0, .int), (G.2.2.2 1, .boolean), (G.2.2.2 2, .object "GleePrize$Piece"), (G.2.2.2 3, .object "GleePrize$Recording"), (G.2.2.2 4, .array .int)]
def gK (G : gG) (U : State) : Prop := va_K (G.1, G.2.1) vwCl (gtys G) U ∧ gN U
theorem gK.warm {G : gG} {s U : State} (hW : s.WarmedH U.vm) (h : gK G s) : gK G U := ⟨va_K.moved hW.alike h.1, gN.warm hW h.2⟩
theorem gP1 {D : va_G} {cl : List vw_C} {q : Nat × va_E} {H : Heap} (h : va_at D cl q H) : va_P D cl [q] H := by
  intro k x hx
  have h0 : k < 1 := (List.getElem?_eq_some_iff.mp hx).1
  rw [show k = 0 by omega] at hx
  cases hx
  exact h
/-- field j of object k, element i of array k; and their writing -/
def gpI (σ : gS) (k : Int) (j : Nat) (v : Int) : gS := (fun k' j' => if k' = k ∧ j' = j then v else σ.1 k' j', σ.2)
def gpA (σ : gS) (k : Int) (i v : Int) : gS := (σ.1, fun k' i' => if k' = k ∧ i' = i then v else σ.2 k' i')
theorem gfl_int {G : gG} {σ : gS} {k : Int} : ∀ (fl : List (Option Int)) (j0 j : Nat), fl[j]? = some none → (gfl G σ k j0 fl)[j]? = some (vi (σ.1 k (j0 + j)))
  | [], _, _, h => by simp at h
  | none :: r, j0, 0, _ => rfl
  | some q :: r, j0, 0, h => by simp at h
  | none :: r, j0, j + 1, h => by
    show (gfl G σ k (j0 + 1) r)[j]? = _
    rw [gfl_int r (j0 + 1) j (by simpa using h), show j0 + 1 + j = j0 + (j + 1) by omega]
  | some q :: r, j0, j + 1, h => by
    show (gfl G σ k (j0 + 1) r)[j]? = _
    rw [gfl_int r (j0 + 1) j (by simpa using h), show j0 + 1 + j = j0 + (j + 1) by omega]
theorem gfl_ref {G : gG} {σ : gS} {k q : Int} : ∀ (fl : List (Option Int)) (j0 j : Nat), fl[j]? = some (some q) → (gfl G σ k j0 fl)[j]? = some (gR G q)
  | [], _, _, h => by simp at h
  | none :: r, j0, 0, h => by simp at h
  | some q' :: r, j0, 0, h => by
    have : q' = q := by simpa using h
    rw [this]; rfl
  | none :: r, j0, j + 1, h => gfl_ref r (j0 + 1) j (by simpa using h)
  | some q' :: r, j0, j + 1, h => gfl_ref r (j0 + 1) j (by simpa using h)
theorem gfl_len {G : gG} {σ : gS} {k : Int} : ∀ (fl : List (Option Int)) (j0 : Nat), (gfl G σ k j0 fl).length = fl.length
  | [], _ => rfl
  | none :: r, j0 => by show (gfl G σ k (j0 + 1) r).length + 1 = _; rw [gfl_len r]; rfl
  | some q :: r, j0 => by show (gfl G σ k (j0 + 1) r).length + 1 = _; rw [gfl_len r]; rfl
theorem gfl_ne {G : gG} {σ : gS} {k : Int} {v : Int} {x : Nat} : ∀ (fl : List (Option Int)) (j0 : Nat), x < j0 → gfl G (gpI σ k x v) k j0 fl = gfl G σ k j0 fl
  | [], _, _ => rfl
  | none :: r, j0, h => by
    show vi ((gpI σ k x v).1 k j0) :: gfl G (gpI σ k x v) k (j0 + 1) r = vi (σ.1 k j0) :: gfl G σ k (j0 + 1) r
    rw [gfl_ne r (j0 + 1) (by omega)]
    have : (gpI σ k x v).1 k j0 = σ.1 k j0 := if_neg (by omega)
    rw [this]
  | some q :: r, j0, h => by
    show gR G q :: gfl G (gpI σ k x v) k (j0 + 1) r = gR G q :: gfl G σ k (j0 + 1) r
    rw [gfl_ne r (j0 + 1) (by omega)]
theorem gfl_set {G : gG} {σ : gS} {k : Int} {v : Int} : ∀ (fl : List (Option Int)) (j0 j : Nat), fl[j]? = some none → (gfl G σ k j0 fl).set j (vi v) = gfl G (gpI σ k (j0 + j) v) k j0 fl
  | [], _, _, h => by simp at h
  | none :: r, j0, 0, _ => by
    show vi v :: gfl G σ k (j0 + 1) r = vi ((gpI σ k j0 v).1 k j0) :: gfl G (gpI σ k j0 v) k (j0 + 1) r
    rw [gfl_ne r (j0 + 1) (by omega)]
    have : (gpI σ k j0 v).1 k j0 = v := if_pos ⟨rfl, rfl⟩
    rw [this]
  | some q :: r, j0, 0, h => by simp at h
  | none :: r, j0, j + 1, h => by
    show vi (σ.1 k j0) :: (gfl G σ k (j0 + 1) r).set j (vi v) = vi ((gpI σ k (j0 + (j + 1)) v).1 k j0) :: gfl G (gpI σ k (j0 + (j + 1)) v) k (j0 + 1) r
    rw [gfl_set r (j0 + 1) j (by simpa using h), show j0 + 1 + j = j0 + (j + 1) by omega]
    have : (gpI σ k (j0 + (j + 1)) v).1 k j0 = σ.1 k j0 := if_neg (by omega)
    rw [this]
  | some q :: r, j0, j + 1, h => by
    show gR G q :: (gfl G σ k (j0 + 1) r).set j (vi v) = gR G q :: gfl G (gpI σ k (j0 + (j + 1)) v) k (j0 + 1) r
    rw [gfl_set r (j0 + 1) j (by simpa using h), show j0 + 1 + j = j0 + (j + 1) by omega]
theorem gfl_off {G : gG} {σ : gS} {k k' : Int} {v : Int} {x : Nat} (hk : k' ≠ k) : ∀ (fl : List (Option Int)) (j0 : Nat), gfl G (gpI σ k x v) k' j0 fl = gfl G σ k' j0 fl
  | [], _ => rfl
  | none :: r, j0 => by
    show vi ((gpI σ k x v).1 k' j0) :: gfl G (gpI σ k x v) k' (j0 + 1) r = vi (σ.1 k' j0) :: gfl G σ k' (j0 + 1) r
    rw [gfl_off hk r (j0 + 1)]
    have : (gpI σ k x v).1 k' j0 = σ.1 k' j0 := if_neg (fun h => hk h.1)
    rw [this]
  | some q :: r, j0 => by
    show gR G q :: gfl G (gpI σ k x v) k' (j0 + 1) r = gR G q :: gfl G σ k' (j0 + 1) r
    rw [gfl_off hk r (j0 + 1)]
theorem gfl_arr {G : gG} {σ : gS} {k k' : Int} {i v : Int} : ∀ (fl : List (Option Int)) (j0 : Nat), gfl G (gpA σ k i v) k' j0 fl = gfl G σ k' j0 fl
  | [], _ => rfl
  | none :: r, j0 => by
    show vi (σ.1 k' j0) :: gfl G (gpA σ k i v) k' (j0 + 1) r = vi (σ.1 k' j0) :: gfl G σ k' (j0 + 1) r
    rw [gfl_arr r (j0 + 1)]
  | some q :: r, j0 => by
    show gR G q :: gfl G (gpA σ k i v) k' (j0 + 1) r = gR G q :: gfl G σ k' (j0 + 1) r
    rw [gfl_arr r (j0 + 1)]
theorem gcont_I {G : gG} {σ : gS} {k k' : Int} {j : Nat} {v : Int} (hk : k' ≠ k) (sh : gSh) : gcont G (gpI σ k j v) k' sh = gcont G σ k' sh := by
  rcases sh with o | a | a
  · show Sum.inr (o.1, gfl G (gpI σ k j v) k' 0 o.2) = Sum.inr (o.1, gfl G σ k' 0 o.2)
    rw [gfl_off hk]
  · rfl
  · rfl
theorem gcont_A {G : gG} {σ : gS} {k k' : Int} {i v : Int} (hk : k' ≠ k) (sh : gSh) : gcont G (gpA σ k i v) k' sh = gcont G σ k' sh := by
  rcases sh with o | a | a
  · show Sum.inr (o.1, gfl G (gpA σ k i v) k' 0 o.2) = Sum.inr (o.1, gfl G σ k' 0 o.2)
    rw [gfl_arr]
  · show Sum.inl (_, _, Sum.inl (fun j : Nat => Int32.ofInt ((gpA σ k i v).2 k' (j : Int)))) = Sum.inl (_, _, Sum.inl (fun j : Nat => Int32.ofInt (σ.2 k' (j : Int))))
    have : (fun j : Nat => Int32.ofInt ((gpA σ k i v).2 k' (j : Int))) = (fun j : Nat => Int32.ofInt (σ.2 k' (j : Int))) := by
      funext j
      have : (gpA σ k i v).2 k' (j : Int) = σ.2 k' (j : Int) := if_neg (fun h => hk h.1)
      rw [this]
    rw [this]
  · rfl
theorem gW.upd {G : gG} {σ σ' : gS} {H H1 : Heap} {k : Int} {sh : gSh} (hW : gW G σ H) (hG : gInj G) (hs : gshape k = some sh) (hat : va_at (G.1, G.2.1) vwCl (G.2.2.1 k, gcont G σ' k sh) H1) (oq : ∀ q : Nat, q ≠ G.2.2.1 k → H1[q]? = H[q]?) (hc : ∀ (k' : Int) (sh' : gSh), k' ≠ k → gcont G σ' k' sh' = gcont G σ k' sh') : gW G σ' H1 := by
  intro k' sh' hs'
  by_cases hk : k' = k
  · subst hk
    cases hs.symm.trans hs'
    exact hat
  · rw [hc k' sh' hk]
    exact (hW k' sh' hs').kept (oq _ (fun h => hk (hG k' sh' k sh hs' hs h)))
/-! ===== the judgement ===== -/
abbrev gX : Type := Program × Launch × Env × Room × State × MethodId × Array Value × List Frame × Method × Code × Nat × Nat × (State → Prop) × (Nat → Prop)
def gWL (X : gX) (G : gG) (σ : gS) (pc : Nat) (loc : List (Nat × Value)) (st : List Value) : Prop := match X with
  | (p, l, e, R, s, m, args, below, meth, c, cells, slots, Q, A) => ∀ (H : Heap) (locs : List Loc) (ls : Array Slot), gW G σ H → va_S A s.heap H locs → lv_has ls c.maxLocals loc → W p l e R s m args below meth c H locs cells slots Q (F0 m pc ls st)
def gOk (X : gX) (G : gG) (cc : ByteArray) (nL : Nat) (own : String) (ret : Option FieldType) (lv : Nat) : Prop := match X with
  | (p, l, e, R, s, m, args, below, meth, c, cells, slots, Q, A) => p.tables.exec = Jvm.exec ∧ c.code = cc ∧ c.maxLocals = nL ∧ meth.sig.returnType = ret ∧ s.vm.findClass own = some m.cls ∧ (∀ w ∈ gAll, w.before args s = true) ∧ gK G s ∧ gInj G ∧ meth.locks = false ∧ (lv ≤ R.frames ∧ 40 * lv ≤ R.locals ∧ cells ≤ R.cells ∧ slots ≤ R.slots) ∧ (∀ q, gA G q → A q)
def gQ (G : gG) (P : Option Value → gS → Prop) : Array Value → State → Outcome → State → Prop := fun _ st oc t => (∃ (r : Option Value) (σ' : gS), oc = .returned r ∧ P r σ' ∧ gW G σ' t.heap) ∧ va_F (gA G) st t
def gEnd (X : gX) (G : gG) (P : Option Value → gS → Prop) : Prop := match X with
  | (p, l, e, R, s, m, args, below, meth, c, cells, slots, Q, A) => Q = MQ below (gQ G P) args s cells slots (gA G) ∧ A = gA G
def gPi (Q : Int → gS → Prop) : Option Value → gS → Prop := fun r σ => ∃ v : Int, r = some (vi v) ∧ Q v σ
def gPv (Q : gS → Prop) : Option Value → gS → Prop := fun r σ => r = none ∧ Q σ
def rmL (n : Nat) : Room := { frames := n, cells := 0, slots := 0, locals := 40 * n }
def gMet (l : Launch) (G : gG) (y : MethodName) (bytes : ByteArray) (nL : Nat) (ret : Option FieldType) (lv : Nat) (av : List Value) (σ : gS) (P : Option Value → gS → Prop) : Prop :=
  Met l y (Cond.code y bytes nL ret :: gAll) (rmL lv) (va_Pc av (fun U => gW G σ U.heap ∧ gK G U)) (gQ G P) 0 0 (gA G)
theorem gMet_of {l : Launch} {G : gG} {y : MethodName} {bytes : ByteArray} {nL : Nat} {ret : Option FieldType} {lv : Nat} {av : List Value} {σ : gS} {P : Option Value → gS → Prop} (hy : plainFor y = true) (hG : gInj G) (hlen : (lg_sl av).length ≤ nL)
    (body : ∀ X : gX, gOk X G bytes nL y.cls ret lv → gEnd X G P → gWL X G σ 0 (lv_args 0 av) []) : gMet l G y bytes nL ret lv av σ P := by
  unfold gMet Met
  refine MetFree.of_bodySF (code := bytes) (maxLocals := nL) (ret := ret) hy ?_ ?_
  · intro args s m h hn
    obtain ⟨meth, c, h1, h2, h3, h4, h5, h6, -, -⟩ := Cond.code_spec hn (atoms_spec (ws := Cond.code y bytes nL ret :: gAll) h _ List.mem_cons_self)
    exact ⟨meth, c, h1, h2, h3, h4, h5, h6⟩
  · intro p e s m args below meth c s₁ B hml hv _
    have hh0 : s₁.heap = s.heap := by rw [B.state]; rfl
    obtain ⟨rfl, hW, hK⟩ := hv
    have hl := lv_entry av (n := nL) hlen
    rw [lg_entry_eq]
    obtain ⟨t, a1, o, b1, b2, b3⟩ := body (p, l, e, _, s, m, _, below, meth, c, 0, 0, _, gA G) ⟨B.exec, B.bytes, hml, B.returns, findClass_of_methodNamed B.named, fun w hw => atoms_spec (ws := Cond.code y bytes nL ret :: gAll) B.pre w (List.mem_cons_of_mem _ hw), hK, hG, B.notSynchronized, ⟨Nat.le_refl _, Nat.le_refl _, Nat.zero_le _, Nat.zero_le _⟩, fun q h => h⟩ ⟨rfl, rfl⟩ s.heap [] _ hW va_S.rf (by rw [hml]; exact hl) s₁ hh0 (Stand.of_body B)
    exact ⟨t, o, a1, b1, b2, b3⟩
section GROWS
variable {X : gX} {G : gG} {σ : gS} {pc : Nat} {loc : List (Nat × Value)} {st : List Value} {cc : ByteArray} {nL : Nat} {own : String} {ret : Option FieldType} {lv : Nat}
theorem g_sub {loc' : List (Nat × Value)} (ks : List Nat) (h : lv_pick loc ks = loc') (k : gWL X G σ pc loc' st) : gWL X G σ pc loc st := by
  obtain ⟨p, l, e, R, s, m, args, below, meth, c, cells, slots, Q, A⟩ := X
  intro H locs ls hW hS hl
  exact k H locs ls hW hS (lv_sub hl ks h)

theorem g_iconst (hX : gOk X G cc nL own ret lv) {n : Int} (hd : decode cc pc = .ok (.iconst n, 1)) (k : gWL X G σ (pc + 1) loc (vi n :: st)) : gWL X G σ pc loc st := by
  obtain ⟨p, l, e, R, s, m, args, below, meth, c, cells, slots, Q, A⟩ := X
  obtain ⟨hx, hb, hml, hr, hown, hts, hK, hG, hlk, hrm, hA⟩ := hX
  intro H locs ls hW hS hl
  exact lv_iconst hx hb hd rfl (k H locs ls hW hS hl)

theorem g_bipush (hX : gOk X G cc nL own ret lv) {n : Int} (hd : decode cc pc = .ok (.bipush n, 2)) (hv : (Int8.ofInt n).toInt32 = Int32.ofInt n) (k : gWL X G σ (pc + 2) loc (vi n :: st)) : gWL X G σ pc loc st := by
  obtain ⟨p, l, e, R, s, m, args, below, meth, c, cells, slots, Q, A⟩ := X
  obtain ⟨hx, hb, hml, hr, hown, hts, hK, hG, hlk, hrm, hA⟩ := hX
  intro H locs ls hW hS hl
  exact lv_bipush hx hb hd hv (k H locs ls hW hS hl)

theorem g_sipush (hX : gOk X G cc nL own ret lv) {n : Int} (hd : decode cc pc = .ok (.sipush n, 3)) (hv : (Int16.ofInt n).toInt32 = Int32.ofInt n) (k : gWL X G σ (pc + 3) loc (vi n :: st)) : gWL X G σ pc loc st := by
  obtain ⟨p, l, e, R, s, m, args, below, meth, c, cells, slots, Q, A⟩ := X
  obtain ⟨hx, hb, hml, hr, hown, hts, hK, hG, hlk, hrm, hA⟩ := hX
  intro H locs ls hW hS hl
  exact lv_sipush hx hb hd hv (k H locs ls hW hS hl)

theorem g_ldc (hX : gOk X G cc nL own ret lv) {n : Int} {index : Nat} {v : Int32} (hw : Cond.constant own index v ∈ gAll) (hd : decode cc pc = .ok (.ldc index, 2)) (hv : v = Int32.ofInt n) (k : gWL X G σ (pc + 2) loc (vi n :: st)) : gWL X G σ pc loc st := by
  obtain ⟨p, l, e, R, s, m, args, below, meth, c, cells, slots, Q, A⟩ := X
  obtain ⟨hx, hb, hml, hr, hown, hts, hK, hG, hlk, hrm, hA⟩ := hX
  intro H locs ls hW hS hl
  subst hv
  exact lv_ldc hx hb hown (hts _ hw) hd (k H locs ls hW hS hl)

theorem g_ldcw (hX : gOk X G cc nL own ret lv) {n : Int} {index : Nat} {v : Int32} (hw : Cond.constant own index v ∈ gAll) (hd : decode cc pc = .ok (.ldc_w index, 3)) (hv : v = Int32.ofInt n) (k : gWL X G σ (pc + 3) loc (vi n :: st)) : gWL X G σ pc loc st := by
  obtain ⟨p, l, e, R, s, m, args, below, meth, c, cells, slots, Q, A⟩ := X
  obtain ⟨hx, hb, hml, hr, hown, hts, hK, hG, hlk, hrm, hA⟩ := hX
  intro H locs ls hW hS hl
  subst hv
  exact lv_ldcw hx hb hown (hts _ hw) hd (k H locs ls hW hS hl)

theorem g_ldc2 (hX : gOk X G cc nL own ret lv) {index : Nat} {v : Int64} (hw : Cond.constantLong own index v ∈ gAll) (hd : decode cc pc = .ok (.ldc2_w index, 3)) (k : gWL X G σ (pc + 3) loc (.long v :: st)) : gWL X G σ pc loc st := by
  obtain ⟨p, l, e, R, s, m, args, below, meth, c, cells, slots, Q, A⟩ := X
  obtain ⟨hx, hb, hml, hr, hown, hts, hK, hG, hlk, hrm, hA⟩ := hX
  intro H locs ls hW hS hl
  exact lv_ldc2 hx hb hown (hts _ hw) hd (k H locs ls hW hS hl)

theorem g_iload_n (hX : gOk X G cc nL own ret lv) {f : Fin 4} {x : Int} (hd : decode cc pc = .ok (.iload_n f, 1)) (i : Nat) (hi : loc[i]? = some ((f : Nat), vi x)) (k : gWL X G σ (pc + 1) loc (vi x :: st)) : gWL X G σ pc loc st := by
  obtain ⟨p, l, e, R, s, m, args, below, meth, c, cells, slots, Q, A⟩ := X
  obtain ⟨hx, hb, hml, hr, hown, hts, hK, hG, hlk, hrm, hA⟩ := hX
  intro H locs ls hW hS hl
  exact lv_iload_n hx hb hd rfl (lv_at hl i hi) (k H locs ls hW hS hl)

theorem g_iload (hX : gOk X G cc nL own ret lv) {f : Nat} {x : Int} (hd : decode cc pc = .ok (.iload f, 2)) (i : Nat) (hi : loc[i]? = some (f, vi x)) (k : gWL X G σ (pc + 2) loc (vi x :: st)) : gWL X G σ pc loc st := by
  obtain ⟨p, l, e, R, s, m, args, below, meth, c, cells, slots, Q, A⟩ := X
  obtain ⟨hx, hb, hml, hr, hown, hts, hK, hG, hlk, hrm, hA⟩ := hX
  intro H locs ls hW hS hl
  exact lv_iload hx hb hd (lv_at hl i hi) (k H locs ls hW hS hl)

theorem g_aload_n (hX : gOk X G cc nL own ret lv) {f : Fin 4} {x : Int} (hd : decode cc pc = .ok (.aload_n f, 1)) (i : Nat) (hi : loc[i]? = some ((f : Nat), gR G x)) (k : gWL X G σ (pc + 1) loc (gR G x :: st)) : gWL X G σ pc loc st := by
  obtain ⟨p, l, e, R, s, m, args, below, meth, c, cells, slots, Q, A⟩ := X
  obtain ⟨hx, hb, hml, hr, hown, hts, hK, hG, hlk, hrm, hA⟩ := hX
  intro H locs ls hW hS hl
  exact lv_aload_n hx hb hd rfl (lv_at hl i hi) (k H locs ls hW hS hl)

theorem g_aload (hX : gOk X G cc nL own ret lv) {f : Nat} {x : Int} (hd : decode cc pc = .ok (.aload f, 2)) (i : Nat) (hi : loc[i]? = some (f, gR G x)) (k : gWL X G σ (pc + 2) loc (gR G x :: st)) : gWL X G σ pc loc st := by
  obtain ⟨p, l, e, R, s, m, args, below, meth, c, cells, slots, Q, A⟩ := X
  obtain ⟨hx, hb, hml, hr, hown, hts, hK, hG, hlk, hrm, hA⟩ := hX
  intro H locs ls hW hS hl
  exact lv_aload hx hb hd (lv_at hl i hi) (k H locs ls hW hS hl)

theorem g_lload_n (hX : gOk X G cc nL own ret lv) {f : Fin 4} {x : Int64} (hd : decode cc pc = .ok (.lload_n f, 1)) (i : Nat) (hi : loc[i]? = some ((f : Nat), .long x)) (k : gWL X G σ (pc + 1) loc (.long x :: st)) : gWL X G σ pc loc st := by
  obtain ⟨p, l, e, R, s, m, args, below, meth, c, cells, slots, Q, A⟩ := X
  obtain ⟨hx, hb, hml, hr, hown, hts, hK, hG, hlk, hrm, hA⟩ := hX
  intro H locs ls hW hS hl
  exact lv_lload_n hx hb hd rfl (lv_at hl i hi) (k H locs ls hW hS hl)

theorem g_lload (hX : gOk X G cc nL own ret lv) {f : Nat} {x : Int64} (hd : decode cc pc = .ok (.lload f, 2)) (i : Nat) (hi : loc[i]? = some (f, .long x)) (k : gWL X G σ (pc + 2) loc (.long x :: st)) : gWL X G σ pc loc st := by
  obtain ⟨p, l, e, R, s, m, args, below, meth, c, cells, slots, Q, A⟩ := X
  obtain ⟨hx, hb, hml, hr, hown, hts, hK, hG, hlk, hrm, hA⟩ := hX
  intro H locs ls hW hS hl
  exact lv_lload hx hb hd (lv_at hl i hi) (k H locs ls hW hS hl)

theorem g_istore_n (hX : gOk X G cc nL own ret lv) {f : Fin 4} {x : Int} {loc' : List (Nat × Value)} (hd : decode cc pc = .ok (.istore_n f, 1)) (hn : (f : Nat) < nL) (hl' : ((f : Nat), vi x) :: loc.filter (fun q => !(q.1 == (f : Nat)) && !(q.1 + 1 == (f : Nat) && q.2.category == 2)) = loc') (k : gWL X G σ (pc + 1) loc' (st)) : gWL X G σ pc loc (vi x :: st) := by
  obtain ⟨p, l, e, R, s, m, args, below, meth, c, cells, slots, Q, A⟩ := X
  obtain ⟨hx, hb, hml, hr, hown, hts, hK, hG, hlk, hrm, hA⟩ := hX
  intro H locs ls hW hS hl
  exact lv_istore_n hx hb hd rfl hl (by rw [hml]; exact hn) hl' (fun ls hl => k H locs ls hW hS hl)

theorem g_istore (hX : gOk X G cc nL own ret lv) {f : Nat} {x : Int} {loc' : List (Nat × Value)} (hd : decode cc pc = .ok (.istore f, 2)) (hn : f < nL) (hl' : (f, vi x) :: loc.filter (fun q => !(q.1 == f) && !(q.1 + 1 == f && q.2.category == 2)) = loc') (k : gWL X G σ (pc + 2) loc' (st)) : gWL X G σ pc loc (vi x :: st) := by
  obtain ⟨p, l, e, R, s, m, args, below, meth, c, cells, slots, Q, A⟩ := X
  obtain ⟨hx, hb, hml, hr, hown, hts, hK, hG, hlk, hrm, hA⟩ := hX
  intro H locs ls hW hS hl
  exact lv_istore hx hb hd hl (by rw [hml]; exact hn) hl' (fun ls hl => k H locs ls hW hS hl)

theorem g_astore_n (hX : gOk X G cc nL own ret lv) {f : Fin 4} {x : Int} {loc' : List (Nat × Value)} (hd : decode cc pc = .ok (.astore_n f, 1)) (hn : (f : Nat) < nL) (hl' : ((f : Nat), gR G x) :: loc.filter (fun q => !(q.1 == (f : Nat)) && !(q.1 + 1 == (f : Nat) && q.2.category == 2)) = loc') (k : gWL X G σ (pc + 1) loc' (st)) : gWL X G σ pc loc (gR G x :: st) := by
  obtain ⟨p, l, e, R, s, m, args, below, meth, c, cells, slots, Q, A⟩ := X
  obtain ⟨hx, hb, hml, hr, hown, hts, hK, hG, hlk, hrm, hA⟩ := hX
  intro H locs ls hW hS hl
  exact lv_astore_n hx hb hd rfl hl (by rw [hml]; exact hn) hl' (fun ls hl => k H locs ls hW hS hl)

theorem g_astore (hX : gOk X G cc nL own ret lv) {f : Nat} {x : Int} {loc' : List (Nat × Value)} (hd : decode cc pc = .ok (.astore f, 2)) (hn : f < nL) (hl' : (f, gR G x) :: loc.filter (fun q => !(q.1 == f) && !(q.1 + 1 == f && q.2.category == 2)) = loc') (k : gWL X G σ (pc + 2) loc' (st)) : gWL X G σ pc loc (gR G x :: st) := by
  obtain ⟨p, l, e, R, s, m, args, below, meth, c, cells, slots, Q, A⟩ := X
  obtain ⟨hx, hb, hml, hr, hown, hts, hK, hG, hlk, hrm, hA⟩ := hX
  intro H locs ls hW hS hl
  exact lv_astore hx hb hd hl (by rw [hml]; exact hn) hl' (fun ls hl => k H locs ls hW hS hl)

theorem g_iinc (hX : gOk X G cc nL own ret lv) {f : Nat} {n x : Int} {loc' : List (Nat × Value)} (hd : decode cc pc = .ok (.iinc f n, 3)) (i : Nat) (hi : loc[i]? = some (f, vi x)) (hn : f < nL) (hl' : (f, vi (x + n)) :: loc.filter (fun q => !(q.1 == f) && !(q.1 + 1 == f && q.2.category == 2)) = loc') (k : gWL X G σ (pc + 3) loc' (st)) : gWL X G σ pc loc st := by
  obtain ⟨p, l, e, R, s, m, args, below, meth, c, cells, slots, Q, A⟩ := X
  obtain ⟨hx, hb, hml, hr, hown, hts, hK, hG, hlk, hrm, hA⟩ := hX
  intro H locs ls hW hS hl
  exact lv_iinc (v := Int32.ofInt (x + n)) hx hb hd hl hi (by rw [Int32.ofInt_add]) (by rw [hml]; exact hn) hl' (fun ls hl => k H locs ls hW hS hl)

theorem g_iadd (hX : gOk X G cc nL own ret lv) {a b : Int} (hd : decode cc pc = .ok (.iadd, 1)) (k : gWL X G σ (pc + 1) loc (vi (a + b) :: st)) : gWL X G σ pc loc (vi b :: vi a :: st) := by
  obtain ⟨p, l, e, R, s, m, args, below, meth, c, cells, slots, Q, A⟩ := X
  obtain ⟨hx, hb, hml, hr, hown, hts, hK, hG, hlk, hrm, hA⟩ := hX
  intro H locs ls hW hS hl
  have h := k H locs ls hW hS hl
  unfold vi at h
  rw [Int32.ofInt_add] at h
  exact lv_iadd hx hb hd h

theorem g_isub (hX : gOk X G cc nL own ret lv) {a b : Int} (hd : decode cc pc = .ok (.isub, 1)) (k : gWL X G σ (pc + 1) loc (vi (a - b) :: st)) : gWL X G σ pc loc (vi b :: vi a :: st) := by
  obtain ⟨p, l, e, R, s, m, args, below, meth, c, cells, slots, Q, A⟩ := X
  obtain ⟨hx, hb, hml, hr, hown, hts, hK, hG, hlk, hrm, hA⟩ := hX
  intro H locs ls hW hS hl
  have h := k H locs ls hW hS hl
  unfold vi at h
  rw [Int32.ofInt_sub] at h
  exact lv_isub hx hb hd h

theorem g_imul (hX : gOk X G cc nL own ret lv) {a b : Int} (hd : decode cc pc = .ok (.imul, 1)) (k : gWL X G σ (pc + 1) loc (vi (a * b) :: st)) : gWL X G σ pc loc (vi b :: vi a :: st) := by
  obtain ⟨p, l, e, R, s, m, args, below, meth, c, cells, slots, Q, A⟩ := X
  obtain ⟨hx, hb, hml, hr, hown, hts, hK, hG, hlk, hrm, hA⟩ := hX
  intro H locs ls hW hS hl
  have h := k H locs ls hW hS hl
  unfold vi at h
  rw [Int32.ofInt_mul] at h
  exact lv_imul hx hb hd h

theorem g_ineg (hX : gOk X G cc nL own ret lv) {a : Int} (hd : decode cc pc = .ok (.ineg, 1)) (k : gWL X G σ (pc + 1) loc (vi (-a) :: st)) : gWL X G σ pc loc (vi a :: st) := by
  obtain ⟨p, l, e, R, s, m, args, below, meth, c, cells, slots, Q, A⟩ := X
  obtain ⟨hx, hb, hml, hr, hown, hts, hK, hG, hlk, hrm, hA⟩ := hX
  intro H locs ls hW hS hl
  have h := k H locs ls hW hS hl
  unfold vi at h
  rw [Int32.ofInt_neg] at h
  exact lv_ineg hx hb hd h

theorem g_iand (hX : gOk X G cc nL own ret lv) {a b : Int} (hd : decode cc pc = .ok (.iand, 1)) (k : gWL X G σ (pc + 1) loc (vi (gand a b) :: st)) : gWL X G σ pc loc (vi b :: vi a :: st) := by
  obtain ⟨p, l, e, R, s, m, args, below, meth, c, cells, slots, Q, A⟩ := X
  obtain ⟨hx, hb, hml, hr, hown, hts, hK, hG, hlk, hrm, hA⟩ := hX
  intro H locs ls hW hS hl
  have h := k H locs ls hW hS hl
  unfold gand at h
  rw [vi_back] at h
  exact lv_iand hx hb hd h

theorem g_ior (hX : gOk X G cc nL own ret lv) {a b : Int} (hd : decode cc pc = .ok (.ior, 1)) (k : gWL X G σ (pc + 1) loc (vi (gor a b) :: st)) : gWL X G σ pc loc (vi b :: vi a :: st) := by
  obtain ⟨p, l, e, R, s, m, args, below, meth, c, cells, slots, Q, A⟩ := X
  obtain ⟨hx, hb, hml, hr, hown, hts, hK, hG, hlk, hrm, hA⟩ := hX
  intro H locs ls hW hS hl
  have h := k H locs ls hW hS hl
  unfold gor at h
  rw [vi_back] at h
  exact lv_ior hx hb hd h

theorem g_ixor (hX : gOk X G cc nL own ret lv) {a b : Int} (hd : decode cc pc = .ok (.ixor, 1)) (k : gWL X G σ (pc + 1) loc (vi (gxor a b) :: st)) : gWL X G σ pc loc (vi b :: vi a :: st) := by
  obtain ⟨p, l, e, R, s, m, args, below, meth, c, cells, slots, Q, A⟩ := X
  obtain ⟨hx, hb, hml, hr, hown, hts, hK, hG, hlk, hrm, hA⟩ := hX
  intro H locs ls hW hS hl
  have h := k H locs ls hW hS hl
  unfold gxor at h
  rw [vi_back] at h
  exact lv_ixor hx hb hd h

theorem g_ishl (hX : gOk X G cc nL own ret lv) {a b : Int} (hd : decode cc pc = .ok (.ishl, 1)) (k : gWL X G σ (pc + 1) loc (vi (gshl a b) :: st)) : gWL X G σ pc loc (vi b :: vi a :: st) := by
  obtain ⟨p, l, e, R, s, m, args, below, meth, c, cells, slots, Q, A⟩ := X
  obtain ⟨hx, hb, hml, hr, hown, hts, hK, hG, hlk, hrm, hA⟩ := hX
  intro H locs ls hW hS hl
  have h := k H locs ls hW hS hl
  unfold gshl at h
  rw [vi_back] at h
  exact lv_ishl hx hb hd h

theorem g_ishr (hX : gOk X G cc nL own ret lv) {a b : Int} (hd : decode cc pc = .ok (.ishr, 1)) (k : gWL X G σ (pc + 1) loc (vi (gshr a b) :: st)) : gWL X G σ pc loc (vi b :: vi a :: st) := by
  obtain ⟨p, l, e, R, s, m, args, below, meth, c, cells, slots, Q, A⟩ := X
  obtain ⟨hx, hb, hml, hr, hown, hts, hK, hG, hlk, hrm, hA⟩ := hX
  intro H locs ls hW hS hl
  have h := k H locs ls hW hS hl
  unfold gshr at h
  rw [vi_back] at h
  exact lv_ishr hx hb hd h

theorem g_iushr (hX : gOk X G cc nL own ret lv) {a b : Int} (hd : decode cc pc = .ok (.iushr, 1)) (k : gWL X G σ (pc + 1) loc (vi (gushr a b) :: st)) : gWL X G σ pc loc (vi b :: vi a :: st) := by
  obtain ⟨p, l, e, R, s, m, args, below, meth, c, cells, slots, Q, A⟩ := X
  obtain ⟨hx, hb, hml, hr, hown, hts, hK, hG, hlk, hrm, hA⟩ := hX
  intro H locs ls hW hS hl
  have h := k H locs ls hW hS hl
  unfold gushr at h
  rw [vi_back] at h
  exact lv_iushr hx hb hd rfl h

theorem g_idiv (hX : gOk X G cc nL own ret lv) {a b : Int} (ha : rng a) (hbr : rng b) (h0 : 0 < b) (hd : decode cc pc = .ok (.idiv, 1)) (k : gWL X G σ (pc + 1) loc (vi (a.tdiv b) :: st)) : gWL X G σ pc loc (vi b :: vi a :: st) := by
  obtain ⟨p, l, e, R, s, m, args, below, meth, c, cells, slots, Q, A⟩ := X
  obtain ⟨hx, hb, hml, hr, hown, hts, hK, hG, hlk, hrm, hA⟩ := hX
  intro H locs ls hW hS hl
  have h := k H locs ls hW hS hl
  refine lv_idiv hx hb hd (fun e => ?_) ?_
  · rw [gI_0, gI_eq hbr rng_0] at e
    omega
  · have e : Int32.ofInt (a.tdiv b) = Int32.ofInt a / Int32.ofInt b := Int32.ofInt_tdiv ha.1 ha.2 hbr.1 hbr.2
    unfold vi at h
    rw [e] at h
    exact h

theorem g_irem (hX : gOk X G cc nL own ret lv) {a b : Int} (ha : rng a) (hbr : rng b) (h0 : 0 < b) (hd : decode cc pc = .ok (.irem, 1)) (k : gWL X G σ (pc + 1) loc (vi (a.tmod b) :: st)) : gWL X G σ pc loc (vi b :: vi a :: st) := by
  obtain ⟨p, l, e, R, s, m, args, below, meth, c, cells, slots, Q, A⟩ := X
  obtain ⟨hx, hb, hml, hr, hown, hts, hK, hG, hlk, hrm, hA⟩ := hX
  intro H locs ls hW hS hl
  have h := k H locs ls hW hS hl
  refine lv_irem hx hb hd (fun e => ?_) ?_
  · rw [gI_0, gI_eq hbr rng_0] at e
    omega
  · have e : Int32.ofInt (a.tmod b) = Int32.ofInt a - Int32.ofInt a / Int32.ofInt b * Int32.ofInt b := by
      have e1 : Int32.ofInt (a.tdiv b) = Int32.ofInt a / Int32.ofInt b := Int32.ofInt_tdiv ha.1 ha.2 hbr.1 hbr.2
      rw [← e1, ← Int32.ofInt_mul, ← Int32.ofInt_sub, Int.tmod_def, Int.mul_comm]
    unfold vi at h
    rw [e] at h
    exact h

theorem g_i2l (hX : gOk X G cc nL own ret lv) {a : Int} (hd : decode cc pc = .ok (.i2l, 1)) (k : gWL X G σ (pc + 1) loc (.long (gi2l a) :: st)) : gWL X G σ pc loc (vi a :: st) := by
  obtain ⟨p, l, e, R, s, m, args, below, meth, c, cells, slots, Q, A⟩ := X
  obtain ⟨hx, hb, hml, hr, hown, hts, hK, hG, hlk, hrm, hA⟩ := hX
  intro H locs ls hW hS hl
  exact lv_i2l hx hb hd rfl (k H locs ls hW hS hl)

theorem g_l2i (hX : gOk X G cc nL own ret lv) {a : Int64} (hd : decode cc pc = .ok (.l2i, 1)) (k : gWL X G σ (pc + 1) loc (vi (gl2i a) :: st)) : gWL X G σ pc loc (.long a :: st) := by
  obtain ⟨p, l, e, R, s, m, args, below, meth, c, cells, slots, Q, A⟩ := X
  obtain ⟨hx, hb, hml, hr, hown, hts, hK, hG, hlk, hrm, hA⟩ := hX
  intro H locs ls hW hS hl
  have h := k H locs ls hW hS hl
  unfold gl2i at h
  rw [vi_back] at h
  exact lv_l2i hx hb hd rfl h

theorem g_land (hX : gOk X G cc nL own ret lv) {a b : Int64} (hd : decode cc pc = .ok (.land, 1)) (k : gWL X G σ (pc + 1) loc (.long (a &&& b) :: st)) : gWL X G σ pc loc (.long b :: .long a :: st) := by
  obtain ⟨p, l, e, R, s, m, args, below, meth, c, cells, slots, Q, A⟩ := X
  obtain ⟨hx, hb, hml, hr, hown, hts, hK, hG, hlk, hrm, hA⟩ := hX
  intro H locs ls hW hS hl
  exact lv_land hx hb hd (k H locs ls hW hS hl)

theorem g_lor (hX : gOk X G cc nL own ret lv) {a b : Int64} (hd : decode cc pc = .ok (.lor, 1)) (k : gWL X G σ (pc + 1) loc (.long (a ||| b) :: st)) : gWL X G σ pc loc (.long b :: .long a :: st) := by
  obtain ⟨p, l, e, R, s, m, args, below, meth, c, cells, slots, Q, A⟩ := X
  obtain ⟨hx, hb, hml, hr, hown, hts, hK, hG, hlk, hrm, hA⟩ := hX
  intro H locs ls hW hS hl
  exact lv_lor hx hb hd (k H locs ls hW hS hl)

theorem g_lshl (hX : gOk X G cc nL own ret lv) {a : Int64} {b : Int} (hd : decode cc pc = .ok (.lshl, 1)) (k : gWL X G σ (pc + 1) loc (.long (glshl a b) :: st)) : gWL X G σ pc loc (vi b :: .long a :: st) := by
  obtain ⟨p, l, e, R, s, m, args, below, meth, c, cells, slots, Q, A⟩ := X
  obtain ⟨hx, hb, hml, hr, hown, hts, hK, hG, hlk, hrm, hA⟩ := hX
  intro H locs ls hW hS hl
  exact lv_lshl hx hb hd rfl (k H locs ls hW hS hl)

theorem g_lshr (hX : gOk X G cc nL own ret lv) {a : Int64} {b : Int} (hd : decode cc pc = .ok (.lshr, 1)) (k : gWL X G σ (pc + 1) loc (.long (glshr a b) :: st)) : gWL X G σ pc loc (vi b :: .long a :: st) := by
  obtain ⟨p, l, e, R, s, m, args, below, meth, c, cells, slots, Q, A⟩ := X
  obtain ⟨hx, hb, hml, hr, hown, hts, hK, hG, hlk, hrm, hA⟩ := hX
  intro H locs ls hW hS hl
  exact lv_lshr hx hb hd rfl (k H locs ls hW hS hl)

theorem g_lushr (hX : gOk X G cc nL own ret lv) {a : Int64} {b : Int} (hd : decode cc pc = .ok (.lushr, 1)) (k : gWL X G σ (pc + 1) loc (.long (glushr a b) :: st)) : gWL X G σ pc loc (vi b :: .long a :: st) := by
  obtain ⟨p, l, e, R, s, m, args, below, meth, c, cells, slots, Q, A⟩ := X
  obtain ⟨hx, hb, hml, hr, hown, hts, hK, hG, hlk, hrm, hA⟩ := hX
  intro H locs ls hW hS hl
  exact lv_lushr hx hb hd rfl (k H locs ls hW hS hl)

theorem g_dup (hX : gOk X G cc nL own ret lv) {v : Value} (hv : v.category = 1) (hd : decode cc pc = .ok (.dup, 1)) (k : gWL X G σ (pc + 1) loc (v :: v :: st)) : gWL X G σ pc loc (v :: st) := by
  obtain ⟨p, l, e, R, s, m, args, below, meth, c, cells, slots, Q, A⟩ := X
  obtain ⟨hx, hb, hml, hr, hown, hts, hK, hG, hlk, hrm, hA⟩ := hX
  intro H locs ls hW hS hl
  exact lv_dup hx hb hd hv (k H locs ls hW hS hl)

theorem g_dup2 (hX : gOk X G cc nL own ret lv) {v w : Value} (hv : v.category = 1) (hw : w.category = 1) (hd : decode cc pc = .ok (.dup2, 1)) (k : gWL X G σ (pc + 1) loc (v :: w :: v :: w :: st)) : gWL X G σ pc loc (v :: w :: st) := by
  obtain ⟨p, l, e, R, s, m, args, below, meth, c, cells, slots, Q, A⟩ := X
  obtain ⟨hx, hb, hml, hr, hown, hts, hK, hG, hlk, hrm, hA⟩ := hX
  intro H locs ls hW hS hl
  exact lv_dup2_11 hx hb hd hv hw (k H locs ls hW hS hl)

theorem g_pop (hX : gOk X G cc nL own ret lv) {v : Value} (hv : v.category = 1) (hd : decode cc pc = .ok (.pop, 1)) (k : gWL X G σ (pc + 1) loc (st)) : gWL X G σ pc loc (v :: st) := by
  obtain ⟨p, l, e, R, s, m, args, below, meth, c, cells, slots, Q, A⟩ := X
  obtain ⟨hx, hb, hml, hr, hown, hts, hK, hG, hlk, hrm, hA⟩ := hX
  intro H locs ls hW hS hl
  exact lv_pop hx hb hd hv (k H locs ls hW hS hl)

theorem g_ifeq (hX : gOk X G cc nL own ret lv) {a : Int} {off : Int} {tgt : Nat} (ha : rng a) (hd : decode cc pc = .ok (.ifCond .eq off, 3)) (ht : (pc : Int) + off = (tgt : Int)) (kt : a = 0 → gWL X G σ tgt loc st) (kf : ¬ (a = 0) → gWL X G σ (pc + 3) loc st) : gWL X G σ pc loc (vi a :: st) := by
  obtain ⟨p, l, e, R, s, m, args, below, meth, c, cells, slots, Q, A⟩ := X
  obtain ⟨hx, hb, hml, hr, hown, hts, hK, hG, hlk, hrm, hA⟩ := hX
  intro H locs ls hW hS hl
  exact lv_if_eq hx hb hd ht (fun h => kt ((gI_eq ha rng_0).mp h) H locs ls hW hS hl) (fun h => kf (fun z => h ((gI_eq ha rng_0).mpr z)) H locs ls hW hS hl)

theorem g_ifne (hX : gOk X G cc nL own ret lv) {a : Int} {off : Int} {tgt : Nat} (ha : rng a) (hd : decode cc pc = .ok (.ifCond .ne off, 3)) (ht : (pc : Int) + off = (tgt : Int)) (kt : ¬ a = 0 → gWL X G σ tgt loc st) (kf : ¬ (¬ a = 0) → gWL X G σ (pc + 3) loc st) : gWL X G σ pc loc (vi a :: st) := by
  obtain ⟨p, l, e, R, s, m, args, below, meth, c, cells, slots, Q, A⟩ := X
  obtain ⟨hx, hb, hml, hr, hown, hts, hK, hG, hlk, hrm, hA⟩ := hX
  intro H locs ls hW hS hl
  exact lv_if_ne hx hb hd ht (fun h => kt (fun z => h ((gI_eq ha rng_0).mpr z)) H locs ls hW hS hl) (fun h => kf (fun z => z ((gI_eq ha rng_0).mp h)) H locs ls hW hS hl)

theorem g_iflt (hX : gOk X G cc nL own ret lv) {a : Int} {off : Int} {tgt : Nat} (ha : rng a) (hd : decode cc pc = .ok (.ifCond .lt off, 3)) (ht : (pc : Int) + off = (tgt : Int)) (kt : a < 0 → gWL X G σ tgt loc st) (kf : ¬ (a < 0) → gWL X G σ (pc + 3) loc st) : gWL X G σ pc loc (vi a :: st) := by
  obtain ⟨p, l, e, R, s, m, args, below, meth, c, cells, slots, Q, A⟩ := X
  obtain ⟨hx, hb, hml, hr, hown, hts, hK, hG, hlk, hrm, hA⟩ := hX
  intro H locs ls hW hS hl
  exact lv_if_lt hx hb hd ht (fun h => kt ((gI_lt ha rng_0).mp h) H locs ls hW hS hl) (fun h => kf (fun z => h ((gI_lt ha rng_0).mpr z)) H locs ls hW hS hl)

theorem g_ifge (hX : gOk X G cc nL own ret lv) {a : Int} {off : Int} {tgt : Nat} (ha : rng a) (hd : decode cc pc = .ok (.ifCond .ge off, 3)) (ht : (pc : Int) + off = (tgt : Int)) (kt : 0 ≤ a → gWL X G σ tgt loc st) (kf : ¬ (0 ≤ a) → gWL X G σ (pc + 3) loc st) : gWL X G σ pc loc (vi a :: st) := by
  obtain ⟨p, l, e, R, s, m, args, below, meth, c, cells, slots, Q, A⟩ := X
  obtain ⟨hx, hb, hml, hr, hown, hts, hK, hG, hlk, hrm, hA⟩ := hX
  intro H locs ls hW hS hl
  exact lv_if_ge hx hb hd ht (fun h => kt ((gI_le rng_0 ha).mp h) H locs ls hW hS hl) (fun h => kf (fun z => h ((gI_le rng_0 ha).mpr z)) H locs ls hW hS hl)

theorem g_ifgt (hX : gOk X G cc nL own ret lv) {a : Int} {off : Int} {tgt : Nat} (ha : rng a) (hd : decode cc pc = .ok (.ifCond .gt off, 3)) (ht : (pc : Int) + off = (tgt : Int)) (kt : 0 < a → gWL X G σ tgt loc st) (kf : ¬ (0 < a) → gWL X G σ (pc + 3) loc st) : gWL X G σ pc loc (vi a :: st) := by
  obtain ⟨p, l, e, R, s, m, args, below, meth, c, cells, slots, Q, A⟩ := X
  obtain ⟨hx, hb, hml, hr, hown, hts, hK, hG, hlk, hrm, hA⟩ := hX
  intro H locs ls hW hS hl
  exact lv_if_gt hx hb hd ht (fun h => kt ((gI_lt rng_0 ha).mp h) H locs ls hW hS hl) (fun h => kf (fun z => h ((gI_lt rng_0 ha).mpr z)) H locs ls hW hS hl)

theorem g_ifle (hX : gOk X G cc nL own ret lv) {a : Int} {off : Int} {tgt : Nat} (ha : rng a) (hd : decode cc pc = .ok (.ifCond .le off, 3)) (ht : (pc : Int) + off = (tgt : Int)) (kt : a ≤ 0 → gWL X G σ tgt loc st) (kf : ¬ (a ≤ 0) → gWL X G σ (pc + 3) loc st) : gWL X G σ pc loc (vi a :: st) := by
  obtain ⟨p, l, e, R, s, m, args, below, meth, c, cells, slots, Q, A⟩ := X
  obtain ⟨hx, hb, hml, hr, hown, hts, hK, hG, hlk, hrm, hA⟩ := hX
  intro H locs ls hW hS hl
  exact lv_if_le hx hb hd ht (fun h => kt ((gI_le ha rng_0).mp h) H locs ls hW hS hl) (fun h => kf (fun z => h ((gI_le ha rng_0).mpr z)) H locs ls hW hS hl)

theorem g_iceq (hX : gOk X G cc nL own ret lv) {a b : Int} {off : Int} {tgt : Nat} (ha : rng a) (hbr : rng b) (hd : decode cc pc = .ok (.if_icmp .eq off, 3)) (ht : (pc : Int) + off = (tgt : Int)) (kt : a = b → gWL X G σ tgt loc st) (kf : ¬ (a = b) → gWL X G σ (pc + 3) loc st) : gWL X G σ pc loc (vi b :: vi a :: st) := by
  obtain ⟨p, l, e, R, s, m, args, below, meth, c, cells, slots, Q, A⟩ := X
  obtain ⟨hx, hb, hml, hr, hown, hts, hK, hG, hlk, hrm, hA⟩ := hX
  intro H locs ls hW hS hl
  exact lv_icmp_eq hx hb hd ht (fun h => kt ((gI_eq ha hbr).mp h) H locs ls hW hS hl) (fun h => kf (fun z => h ((gI_eq ha hbr).mpr z)) H locs ls hW hS hl)

theorem g_icne (hX : gOk X G cc nL own ret lv) {a b : Int} {off : Int} {tgt : Nat} (ha : rng a) (hbr : rng b) (hd : decode cc pc = .ok (.if_icmp .ne off, 3)) (ht : (pc : Int) + off = (tgt : Int)) (kt : ¬ a = b → gWL X G σ tgt loc st) (kf : ¬ (¬ a = b) → gWL X G σ (pc + 3) loc st) : gWL X G σ pc loc (vi b :: vi a :: st) := by
  obtain ⟨p, l, e, R, s, m, args, below, meth, c, cells, slots, Q, A⟩ := X
  obtain ⟨hx, hb, hml, hr, hown, hts, hK, hG, hlk, hrm, hA⟩ := hX
  intro H locs ls hW hS hl
  exact lv_icmp_ne hx hb hd ht (fun h => kt (fun z => h ((gI_eq ha hbr).mpr z)) H locs ls hW hS hl) (fun h => kf (fun z => z ((gI_eq ha hbr).mp h)) H locs ls hW hS hl)

theorem g_iclt (hX : gOk X G cc nL own ret lv) {a b : Int} {off : Int} {tgt : Nat} (ha : rng a) (hbr : rng b) (hd : decode cc pc = .ok (.if_icmp .lt off, 3)) (ht : (pc : Int) + off = (tgt : Int)) (kt : a < b → gWL X G σ tgt loc st) (kf : ¬ (a < b) → gWL X G σ (pc + 3) loc st) : gWL X G σ pc loc (vi b :: vi a :: st) := by
  obtain ⟨p, l, e, R, s, m, args, below, meth, c, cells, slots, Q, A⟩ := X
  obtain ⟨hx, hb, hml, hr, hown, hts, hK, hG, hlk, hrm, hA⟩ := hX
  intro H locs ls hW hS hl
  exact lv_icmp_lt hx hb hd ht (fun h => kt ((gI_lt ha hbr).mp h) H locs ls hW hS hl) (fun h => kf (fun z => h ((gI_lt ha hbr).mpr z)) H locs ls hW hS hl)

theorem g_icge (hX : gOk X G cc nL own ret lv) {a b : Int} {off : Int} {tgt : Nat} (ha : rng a) (hbr : rng b) (hd : decode cc pc = .ok (.if_icmp .ge off, 3)) (ht : (pc : Int) + off = (tgt : Int)) (kt : b ≤ a → gWL X G σ tgt loc st) (kf : ¬ (b ≤ a) → gWL X G σ (pc + 3) loc st) : gWL X G σ pc loc (vi b :: vi a :: st) := by
  obtain ⟨p, l, e, R, s, m, args, below, meth, c, cells, slots, Q, A⟩ := X
  obtain ⟨hx, hb, hml, hr, hown, hts, hK, hG, hlk, hrm, hA⟩ := hX
  intro H locs ls hW hS hl
  exact lv_icmp_ge hx hb hd ht (fun h => kt ((gI_le hbr ha).mp h) H locs ls hW hS hl) (fun h => kf (fun z => h ((gI_le hbr ha).mpr z)) H locs ls hW hS hl)

theorem g_icgt (hX : gOk X G cc nL own ret lv) {a b : Int} {off : Int} {tgt : Nat} (ha : rng a) (hbr : rng b) (hd : decode cc pc = .ok (.if_icmp .gt off, 3)) (ht : (pc : Int) + off = (tgt : Int)) (kt : b < a → gWL X G σ tgt loc st) (kf : ¬ (b < a) → gWL X G σ (pc + 3) loc st) : gWL X G σ pc loc (vi b :: vi a :: st) := by
  obtain ⟨p, l, e, R, s, m, args, below, meth, c, cells, slots, Q, A⟩ := X
  obtain ⟨hx, hb, hml, hr, hown, hts, hK, hG, hlk, hrm, hA⟩ := hX
  intro H locs ls hW hS hl
  exact lv_icmp_gt hx hb hd ht (fun h => kt ((gI_lt hbr ha).mp h) H locs ls hW hS hl) (fun h => kf (fun z => h ((gI_lt hbr ha).mpr z)) H locs ls hW hS hl)

theorem g_icle (hX : gOk X G cc nL own ret lv) {a b : Int} {off : Int} {tgt : Nat} (ha : rng a) (hbr : rng b) (hd : decode cc pc = .ok (.if_icmp .le off, 3)) (ht : (pc : Int) + off = (tgt : Int)) (kt : a ≤ b → gWL X G σ tgt loc st) (kf : ¬ (a ≤ b) → gWL X G σ (pc + 3) loc st) : gWL X G σ pc loc (vi b :: vi a :: st) := by
  obtain ⟨p, l, e, R, s, m, args, below, meth, c, cells, slots, Q, A⟩ := X
  obtain ⟨hx, hb, hml, hr, hown, hts, hK, hG, hlk, hrm, hA⟩ := hX
  intro H locs ls hW hS hl
  exact lv_icmp_le hx hb hd ht (fun h => kt ((gI_le ha hbr).mp h) H locs ls hW hS hl) (fun h => kf (fun z => h ((gI_le ha hbr).mpr z)) H locs ls hW hS hl)

theorem g_goto (hX : gOk X G cc nL own ret lv) {off : Int} {tgt : Nat} (hd : decode cc pc = .ok (.goto off, 3)) (ht : (pc : Int) + off = (tgt : Int)) (k : gWL X G σ tgt loc st) : gWL X G σ pc loc st := by
  obtain ⟨p, l, e, R, s, m, args, below, meth, c, cells, slots, Q, A⟩ := X
  obtain ⟨hx, hb, hml, hr, hown, hts, hK, hG, hlk, hrm, hA⟩ := hX
  intro H locs ls hW hS hl
  exact lv_goto hx hb hd ht (k H locs ls hW hS hl)

theorem g_tabOut (hX : gOk X G cc nL own ret lv) {dflt lo hi : Int} {offs : Array Int} {len : Nat} {a : Int} {tgt : Nat} (ha : rng a) (hd : decode cc pc = .ok (.tableswitch dflt lo hi offs, len)) (h : a < lo ∨ hi < a) (ht : (pc : Int) + dflt = (tgt : Int)) (k : gWL X G σ tgt loc st) : gWL X G σ pc loc (vi a :: st) := by
  obtain ⟨p, l, e, R, s, m, args, below, meth, c, cells, slots, Q, A⟩ := X
  obtain ⟨hx, hb, hml, hr, hown, hts, hK, hG, hlk, hrm, hA⟩ := hX
  intro H locs ls hW hS hl
  exact lv_tableOut hx hb hd (by rw [gI_toInt ha]; exact h) ht (k H locs ls hW hS hl)

theorem g_tabIn (hX : gOk X G cc nL own ret lv) {dflt lo hi : Int} {offs : Array Int} {len : Nat} {a : Int} {off : Int} {tgt : Nat} (ha : rng a) (hd : decode cc pc = .ok (.tableswitch dflt lo hi offs, len)) (h1 : lo ≤ a) (h2 : a ≤ hi) (ho : offs[(a - lo).toNat]? = some off) (ht : (pc : Int) + off = (tgt : Int)) (k : gWL X G σ tgt loc st) : gWL X G σ pc loc (vi a :: st) := by
  obtain ⟨p, l, e, R, s, m, args, below, meth, c, cells, slots, Q, A⟩ := X
  obtain ⟨hx, hb, hml, hr, hown, hts, hK, hG, hlk, hrm, hA⟩ := hX
  intro H locs ls hW hS hl
  exact lv_tableIn hx hb hd (by rw [gI_toInt ha]; omega) (by rw [gI_toInt ha]; omega) (by rw [gI_toInt ha]; exact ho) ht (k H locs ls hW hS hl)


def gFL (own : String) (index ci j : Nat) : Prop := ∃ (C : String) (T : u_T) (N : Nat) (ty : Nat → FieldType), vwCl[ci]? = some (C, T, N) ∧ j < N ∧ (∀ w ∈ u_ws C T N, w ∈ gAll) ∧ Cond.fieldLink own index (T j).1 (T j).2.1 (T j).2.2.1 ∈ gAll ∧ (∀ k, k < N → parseFieldDescriptor (T k).2.2.1 = some (ty k)) ∧ (∀ a, a < N → ∀ b, b < N → a ≠ b → (T a).2.1 ≠ (T b).2.1) ∧ ((T j).2.2.1 = "I" → (T j).2.2.2 = false)

theorem g_getI (hX : gOk X G cc nL own ret lv) {k0 : Int} {ci index : Nat} {fl : List (Option Int)} (hs : gshape k0 = some (.inl (ci, fl))) (j : Nat) (hj : fl[j]? = some none) (hF : gFL own index ci j) (hd : decode cc pc = .ok (.getfield index, 3)) (k : gWL X G σ (pc + 3) loc (vi (σ.1 k0 j) :: st)) : gWL X G σ pc loc (gR G k0 :: st) := by
  obtain ⟨p, l, e, R, s, m, args, below, meth, c, cells, slots, Q, A⟩ := X
  obtain ⟨hx, hb, hml, hr, hown, hts, hK, hG, hlk, hrm, hA⟩ := hX
  intro H locs ls hW hS hl
  obtain ⟨C, T, N, ty, hc, hjN, hin, hlink, hty, hnm, -⟩ := hF
  have hat := hW k0 _ hs
  have hv : (gfl G σ k0 0 fl)[j]? = some (vi (σ.1 k0 j)) := by
    have := gfl_int (G := G) (σ := σ) (k := k0) fl 0 j hj
    rwa [Nat.zero_add] at this
  exact va_get (ws := [(G.2.2.1 k0, .inr (ci, gfl G σ k0 0 fl))]) hx hb hts hin hown hK.1 (gP1 hat) 0 rfl hc j hjN (hts _ hlink) (fun _ h => h) hv hd (k H locs ls hW hS hl)

theorem g_getR (hX : gOk X G cc nL own ret lv) {k0 q : Int} {ci index : Nat} {fl : List (Option Int)} (hs : gshape k0 = some (.inl (ci, fl))) (j : Nat) (hj : fl[j]? = some (some q)) (hF : gFL own index ci j) (hd : decode cc pc = .ok (.getfield index, 3)) (k : gWL X G σ (pc + 3) loc (gR G q :: st)) : gWL X G σ pc loc (gR G k0 :: st) := by
  obtain ⟨p, l, e, R, s, m, args, below, meth, c, cells, slots, Q, A⟩ := X
  obtain ⟨hx, hb, hml, hr, hown, hts, hK, hG, hlk, hrm, hA⟩ := hX
  intro H locs ls hW hS hl
  obtain ⟨C, T, N, ty, hc, hjN, hin, hlink, hty, hnm, -⟩ := hF
  have hat := hW k0 _ hs
  exact va_get (ws := [(G.2.2.1 k0, .inr (ci, gfl G σ k0 0 fl))]) hx hb hts hin hown hK.1 (gP1 hat) 0 rfl hc j hjN (hts _ hlink) (fun _ h => h) (gfl_ref fl 0 j hj) hd (k H locs ls hW hS hl)

theorem g_putI (hX : gOk X G cc nL own ret lv) {k0 v : Int} {ci index : Nat} {fl : List (Option Int)} (hs : gshape k0 = some (.inl (ci, fl))) (j : Nat) (hj : fl[j]? = some none) (hF : gFL own index ci j) (hI : ∀ (C : String) (T : u_T) (N : Nat), vwCl[ci]? = some (C, T, N) → (T j).2.2.1 = "I") (hd : decode cc pc = .ok (.putfield index, 3)) (k : gWL X G (gpI σ k0 j v) (pc + 3) loc st) : gWL X G σ pc loc (vi v :: gR G k0 :: st) := by
  obtain ⟨p, l, e, R, s, m, args, below, meth, c, cells, slots, Q, A⟩ := X
  obtain ⟨hx, hb, hml, hr, hown, hts, hK, hG, hlk, hrm, hA⟩ := hX
  intro H locs ls hW hS hl
  obtain ⟨C, T, N, ty, hc, hjN, hin, hlink, hty, hnm, hfin⟩ := hF
  have hI := hI C T N hc
  have hfin := hfin hI
  have hat := hW k0 _ hs
  have hap := va_apart (own := own) hts hin ty hty hnm hK.1 hc
  obtain ⟨r, h1, cell, q1, q2, q3, q4⟩ := hat
  have hr : r = (C, T, N) := Option.some.inj (h1.symm.trans hc)
  subst hr
  obtain ⟨hSl, hfc, kC, hkC, hkind⟩ := hK.1.1 ci _ hc
  obtain ⟨cf, kf, fi, f, hi, hsl⟩ := hSl j hjN
  have hlay := hts _ (hin _ (u_in_lay hjN))
  unfold u_lay at hlay
  rw [if_neg (by rw [hfin]; decide)] at hlay
  have hst := (u_facts hfc hkC (u_lays hts hin hjN) hi).1
  have h6 := u_store hfc hkC hkind hlay hi (ty := .int) (v := vi v) (by rw [hI]; decide +kernel) rfl rfl
  have hlen : j < (gfl G σ k0 0 fl).length := by
    rw [gfl_len]
    exact (List.getElem?_eq_some_iff.mp hj).1
  refine W.putK hx hb (f := f) (v := vi v) ⟨hown, hts _ hlink, ⟨_, _, _, hi⟩, hst⟩ (by rw [q2]; exact h6) q1 q3 (by rw [hsl]; exact k2_hasslot (q4 j hjN)) rfl rfl hd fun H' e1 e2 e3 => ?_
  rw [hsl] at e1 ⊢
  refine k H' _ ls (hW.upd hG hs ?_ e3 (fun k' sh' hk => gcont_I hk sh')) (hS.put e2 e3 (hA _ ⟨k0, _, hs, rfl⟩)) hl
  have e : gfl G (gpI σ k0 j v) k0 0 fl = (gfl G σ k0 0 fl).set j (vi v) := by
    have := gfl_set (G := G) (σ := σ) (k := k0) (v := v) fl 0 j hj
    rw [Nat.zero_add] at this
    exact this.symm
  show va_at _ _ (G.2.2.1 k0, .inr (ci, gfl G (gpI σ k0 j v) k0 0 fl)) H'
  rw [e]
  exact ⟨_, hc, t_OB.to (V := updV (vp_V (gfl G σ k0 0 fl)) j (vi v)) ⟨_, e1, q2, q3, t_set q4 hap hjN (vi v)⟩ (fun x _ => vp_updV_set hlen (vi v) x)⟩

theorem g_iald (hX : gOk X G cc nL own ret lv) {k0 i : Int} {n : Nat} (hs : gshape k0 = some (.inr (.inl (0, n)))) (hi : 0 ≤ i ∧ i < n) (hn : n < 2147483648) (hd : decode cc pc = .ok (.iaload, 1)) (k : gWL X G σ (pc + 1) loc (vi (σ.2 k0 i) :: st)) : gWL X G σ pc loc (vi i :: gR G k0 :: st) := by
  obtain ⟨p, l, e, R, s, m, args, below, meth, c, cells, slots, Q, A⟩ := X
  obtain ⟨hx, hb, hml, hr, hown, hts, hK, hG, hlk, hrm, hA⟩ := hX
  intro H locs ls hW hS hl
  have hat := hW k0 _ hs
  have h := k H locs ls hW hS hl
  refine va_iald (ws := [(G.2.2.1 k0, .inl (G.2.2.2 0, n, .inl (fun j => Int32.ofInt (σ.2 k0 (j : Int)))))]) hx hb hK.1 (gP1 hat) 0 0 rfl rfl (gI_in hi.1 hi.2 hn) hd ?_
  rw [gI_nat hi.1 hi.2 hn]
  exact h

theorem g_zald (hX : gOk X G cc nL own ret lv) {k0 i : Int} {n : Nat} (hs : gshape k0 = some (.inr (.inl (1, n)))) (hi : 0 ≤ i ∧ i < n) (hn : n < 2147483648) (hd : decode cc pc = .ok (.baload, 1)) (k : gWL X G σ (pc + 1) loc (vi (σ.2 k0 i) :: st)) : gWL X G σ pc loc (vi i :: gR G k0 :: st) := by
  obtain ⟨p, l, e, R, s, m, args, below, meth, c, cells, slots, Q, A⟩ := X
  obtain ⟨hx, hb, hml, hr, hown, hts, hK, hG, hlk, hrm, hA⟩ := hX
  intro H locs ls hW hS hl
  have hat := hW k0 _ hs
  have h := k H locs ls hW hS hl
  refine va_zald (ws := [(G.2.2.1 k0, .inl (G.2.2.2 1, n, .inl (fun j => Int32.ofInt (σ.2 k0 (j : Int)))))]) hx hb hK.1 (gP1 hat) 0 1 rfl rfl (gI_in hi.1 hi.2 hn) hd ?_
  rw [gI_nat hi.1 hi.2 hn]
  exact h

theorem g_iast (hX : gOk X G cc nL own ret lv) {k0 i v : Int} {n : Nat} (hs : gshape k0 = some (.inr (.inl (0, n)))) (hi : 0 ≤ i ∧ i < n) (hn : n < 2147483648) (hd : decode cc pc = .ok (.iastore, 1)) (k : gWL X G (gpA σ k0 i v) (pc + 1) loc st) : gWL X G σ pc loc (vi v :: vi i :: gR G k0 :: st) := by
  obtain ⟨p, l, e, R, s, m, args, below, meth, c, cells, slots, Q, A⟩ := X
  obtain ⟨hx, hb, hml, hr, hown, hts, hK, hG, hlk, hrm, hA⟩ := hX
  intro H locs ls hW hS hl
  have hat := hW k0 _ hs
  refine W.iast hx hb (j := Int32.ofInt i) (x := Int32.ofInt v) hat ((hK.1.2 0 _ rfl).1 n (fun j => .int (Int32.ofInt (σ.2 k0 (j : Int))))) (fun q => by cases q) (by show ¬ (Int32.ofInt i < 0 ∨ (arrV _ _ _).slots.size ≤ _); rw [arrV_size]; exact gI_in hi.1 hi.2 hn) rfl rfl hd fun H1 e z oq => ?_
  refine k H1 _ ls (hW.upd hG hs ?_ oq (fun k' sh' hk => gcont_A hk sh')) (hS.put z oq (hA _ ⟨k0, _, hs, rfl⟩)) hl
  show H1[G.2.2.1 k0]? = some (arrV (G.2.2.2 0) n (fun j => .int (Int32.ofInt ((gpA σ k0 i v).2 k0 (j : Int)))))
  refine e.trans ?_
  show some ((arrV (G.2.2.2 0) n (fun j => .int (Int32.ofInt (σ.2 k0 (j : Int))))).setSlot _ _) = _
  rw [arrV_store]
  congr 2
  funext q
  by_cases hq : q = (Int32.ofInt i).toNatClampNeg
  · have hq' : (q : Int) = i := by rw [hq, gI_nat hi.1 hi.2 hn]
    have e2 : (gpA σ k0 i v).2 k0 (q : Int) = v := if_pos ⟨rfl, hq'⟩
    rw [e2]
    subst hq
    simp [updV]
  · have hq' : ¬ (q : Int) = i := fun h => hq (by have := gI_nat hi.1 hi.2 hn; omega)
    have e2 : (gpA σ k0 i v).2 k0 (q : Int) = σ.2 k0 (q : Int) := if_neg (fun h => hq' h.2)
    rw [e2]
    simp [updV, hq]

theorem g_zast (hX : gOk X G cc nL own ret lv) {k0 i v : Int} {n : Nat} (hs : gshape k0 = some (.inr (.inl (1, n)))) (hi : 0 ≤ i ∧ i < n) (hn : n < 2147483648) (h01 : v = 0 ∨ v = 1) (hd : decode cc pc = .ok (.bastore, 1)) (k : gWL X G (gpA σ k0 i v) (pc + 1) loc st) : gWL X G σ pc loc (vi v :: vi i :: gR G k0 :: st) := by
  obtain ⟨p, l, e, R, s, m, args, below, meth, c, cells, slots, Q, A⟩ := X
  obtain ⟨hx, hb, hml, hr, hown, hts, hK, hG, hlk, hrm, hA⟩ := hX
  intro H locs ls hW hS hl
  have hat := hW k0 _ hs
  refine W.zast hx hb (j := Int32.ofInt i) (x := Int32.ofInt v) hat ((hK.1.2 1 _ rfl).1 n (fun j => .int (Int32.ofInt (σ.2 k0 (j : Int))))) (fun q => by cases q) (by show ¬ (Int32.ofInt i < 0 ∨ (arrV _ _ _).slots.size ≤ _); rw [arrV_size]; exact gI_in hi.1 hi.2 hn) rfl rfl hd fun H1 e z oq => ?_
  refine k H1 _ ls (hW.upd hG hs ?_ oq (fun k' sh' hk => gcont_A hk sh')) (hS.put z oq (hA _ ⟨k0, _, hs, rfl⟩)) hl
  show H1[G.2.2.1 k0]? = some (arrV (G.2.2.2 1) n (fun j => .int (Int32.ofInt ((gpA σ k0 i v).2 k0 (j : Int)))))
  refine e.trans ?_
  show some ((arrV (G.2.2.2 1) n (fun j => .int (Int32.ofInt (σ.2 k0 (j : Int))))).setSlot _ _) = _
  rw [arrV_store]
  congr 2
  funext q
  by_cases hq : q = (Int32.ofInt i).toNatClampNeg
  · have hq' : (q : Int) = i := by rw [hq, gI_nat hi.1 hi.2 hn]
    have e2 : (gpA σ k0 i v).2 k0 (q : Int) = v := if_pos ⟨rfl, hq'⟩
    rw [e2]
    subst hq
    have hnv : narrow .boolean (.int (Int32.ofInt v)) = .int (Int32.ofInt v) := by rcases h01 with rfl | rfl <;> decide
    simp [updV, hnv]
  · have hq' : ¬ (q : Int) = i := fun h => hq (by have := gI_nat hi.1 hi.2 hn; omega)
    have e2 : (gpA σ k0 i v).2 k0 (q : Int) = σ.2 k0 (q : Int) := if_neg (fun h => hq' h.2)
    rw [e2]
    simp [updV, hq]

theorem g_aald (hX : gOk X G cc nL own ret lv) {k0 i : Int} {kd n : Nat} {f : Nat → Int} {ty : FieldType} (hs : gshape k0 = some (.inr (.inr (kd, n, f)))) (hty : (gtys G)[kd]? = some (G.2.2.2 kd, ty)) (href : ty.isReference = true) (hi : 0 ≤ i ∧ i < n) (hn : n < 2147483648) {q : Int} (hq : f i.toNat = q) (hd : decode cc pc = .ok (.aaload, 1)) (k : gWL X G σ (pc + 1) loc (gR G q :: st)) : gWL X G σ pc loc (vi i :: gR G k0 :: st) := by
  obtain ⟨p, l, e, R, s, m, args, below, meth, c, cells, slots, Q, A⟩ := X
  obtain ⟨hx, hb, hml, hr, hown, hts, hK, hG, hlk, hrm, hA⟩ := hX
  intro H locs ls hW hS hl
  have hat := hW k0 _ hs
  have h := k H locs ls hW hS hl
  have hin : vp_in (Int32.ofInt i) n := gI_in hi.1 hi.2 hn
  have hlt : (Int32.ofInt i).toNatClampNeg < n := Nat.not_le.mp fun q => hin (Or.inr q)
  have e : (Int32.ofInt i).toNatClampNeg = i.toNat := by have := gI_nat hi.1 hi.2 hn; omega
  subst hq
  refine W.aald (v := gR G (f i.toNat)) (ty := ty) hx hb hat ((hK.1.2 kd _ hty).1 n (fun j => va_rf (some (G.2.2.1 (f j))))) href (fun q => by cases q) (by show ¬ (Int32.ofInt i < 0 ∨ (arrV _ _ _).slots.size ≤ _); rw [arrV_size]; exact hin) (by show (arrV _ _ _).slots[_]? = _; rw [arrV_read _ _ hlt, e]; rfl) rfl rfl hd h


theorem g_iret {Q' : Int → gS → Prop} {v : Int} (hX : gOk X G cc nL own (some .int) lv) (hE : gEnd X G (gPi Q')) (hd : decode cc pc = .ok (.ireturn, 1)) (h : Q' v σ) : gWL X G σ pc loc [vi v] := by
  obtain ⟨p, l, e, R, s, m, args, below, meth, c, cells, slots, Q, A⟩ := X
  obtain ⟨hx, hb, hml, hr, hown, hts, hK, hG, hlk, hrm, hA⟩ := hX
  obtain ⟨rfl, rfl⟩ := hE
  intro H locs ls hW hS hl
  exact W.iret hx hb hr (fun t ht _ => ⟨⟨_, σ, rfl, ⟨v, rfl, h⟩, by rw [ht]; exact hW⟩, hS.F ht⟩) hS.2.2 hd (hlocks := hlk)
theorem g_zret {Q' : Int → gS → Prop} {v : Int} (hX : gOk X G cc nL own (some .boolean) lv) (hE : gEnd X G (gPi Q')) (hv : v = 0 ∨ v = 1) (hd : decode cc pc = .ok (.ireturn, 1)) (h : Q' v σ) : gWL X G σ pc loc [vi v] := by
  obtain ⟨p, l, e, R, s, m, args, below, meth, c, cells, slots, Q, A⟩ := X
  obtain ⟨hx, hb, hml, hr, hown, hts, hK, hG, hlk, hrm, hA⟩ := hX
  obtain ⟨rfl, rfl⟩ := hE
  intro H locs ls hW hS hl
  have hn : narrow .boolean (.int (Int32.ofInt v)) = .int (Int32.ofInt v) := by rcases hv with rfl | rfl <;> decide
  exact W.zret hx hb hr hn (fun t ht _ => ⟨⟨_, σ, rfl, ⟨v, rfl, h⟩, by rw [ht]; exact hW⟩, hS.F ht⟩) hS.2.2 hd (hlocks := hlk)
theorem g_vret {Q' : gS → Prop} (hX : gOk X G cc nL own none lv) (hE : gEnd X G (gPv Q')) (hd : decode cc pc = .ok (.return_, 1)) (h : Q' σ) : gWL X G σ pc loc [] := by
  obtain ⟨p, l, e, R, s, m, args, below, meth, c, cells, slots, Q, A⟩ := X
  obtain ⟨hx, hb, hml, hr, hown, hts, hK, hG, hlk, hrm, hA⟩ := hX
  obtain ⟨rfl, rfl⟩ := hE
  intro H locs ls hW hS hl
  exact W.vret hx hb hr (fun t ht _ => ⟨⟨_, σ, rfl, ⟨rfl, h⟩, by rw [ht]; exact hW⟩, hS.F ht⟩) hS.2.2 hd (hlocks := hlk)
/-! ===== calls ===== -/
theorem gBlind {G : gG} {σ : gS} {av : List Value} : FrameBlind (va_Pc av (fun U => gW G σ U.heap ∧ gK G U)) := by
  intro a U g mk q
  obtain ⟨q0, q1, q2, q3⟩ := q
  exact ⟨q0, q1, va_K.moved (u := U) (U := U.calling g mk a) (Vm.Alike.refl U.vm) q2, gN.same (u := U) (U := U.calling g mk a) rfl q3⟩
theorem g_back {p : Program} {l : Launch} {e : Env} {R : Room} {s : State} {m : MethodId} {args : Array Value} {below : List Frame} {meth : Method} {c : Code} {cells slots : Nat} {Q : State → Prop} {A : Nat → Prop} {H : Heap} {locs : List Loc} {ls : Array Slot} {rest st0 : List Value} {a : Array Value} {P' : Option Value → gS → Prop}
    (hrun : va_Run p l e R s m args below meth c H locs cells slots 0 0 (F0 m pc ls st0) rest (gQ G P' a) (gA G)) (hS : va_S A s.heap H locs) (hA : ∀ q, gA G q → A q)
    (kk : ∀ (r : Option Value) (σ' : gS), P' r σ' → ∀ (H1 : Heap) (locs1 : List Loc), gW G σ' H1 → va_S A s.heap H1 locs1 → W p l e R s m args below meth c H1 locs1 cells slots Q (F0 m (pc + 3) ls (r.toList ++ rest))) : W p l e R s m args below meth c H locs cells slots Q (F0 m pc ls st0) := by
  intro T hT Xs
  obtain ⟨v, st₀, t, T', L, h0, X', hL, e1, e2, ⟨⟨r, σ', hv, hp, hW1⟩, hz, hk⟩, stp⟩ := hrun T hT Xs
  cases hv
  rw [h0] at hz hk
  obtain ⟨t2, a1, b1⟩ := kk v σ' hp T'.heap (locs ++ L) (by rw [e1]; exact hW1)
    ⟨Nat.le_trans hS.1 (by rw [e1]; exact hz), fun q h1 h2 => by rw [e1, hk q (Nat.lt_of_lt_of_le h1 hS.1) (fun z => h2 (hA q z))]; exact hS.2.1 q h1 h2, fun q hq => by
      rcases List.mem_append.mp hq with h | h
      · exact hS.2.2 q h
      · exact hA _ (hL q h)⟩ T' rfl X'
  exact ⟨t2, stp t2 a1, b1⟩
def gCV (own : String) (index : Nat) (y : MethodName) (bytes : ByteArray) (maxL : Nat) (r : Option FieldType) (n ci : Nat) : Prop := ∃ (T : u_T) (N : Nat), vwCl[ci]? = some (y.cls, T, N) ∧ Cond.methodLink own index y ∈ gAll ∧ Cond.instanceMethod y ∈ gAll ∧ Cond.selects y.cls y y ∈ gAll ∧ Cond.initialized y.cls ∈ gAll ∧ Cond.code y bytes maxL r ∈ gAll ∧ (y.cls ≠ "java/lang/invoke/MethodHandle" ∧ y.cls ≠ "java/lang/invoke/VarHandle" ∧ (parseMethodDescriptor y.desc).map (fun d => d.parameters.length) = some n) ∧ maxL ≤ 21
def gCS (own : String) (index : Nat) (y : MethodName) (bytes : ByteArray) (maxL : Nat) (r : Option FieldType) (n : Nat) : Prop := Cond.methodLink own index y ∈ gAll ∧ Cond.static y ∈ gAll ∧ Cond.initialized y.cls ∈ gAll ∧ Cond.code y bytes maxL r ∈ gAll ∧ (y.cls ≠ "java/lang/invoke/MethodHandle" ∧ y.cls ≠ "java/lang/invoke/VarHandle" ∧ (parseMethodDescriptor y.desc).map (fun d => d.parameters.length) = some n) ∧ maxL ≤ 21
def gCN (own : String) (index : Nat) (y : MethodName) (host : String) (bytes : ByteArray) (maxL : Nat) (r : Option FieldType) (n : Nat) : Prop := Cond.methodLinkNest own index y host ∈ gNest ∧ Cond.static y ∈ gAll ∧ Cond.initialized y.cls ∈ gAll ∧ Cond.code y bytes maxL r ∈ gAll ∧ (y.cls ≠ "java/lang/invoke/MethodHandle" ∧ y.cls ≠ "java/lang/invoke/VarHandle" ∧ (parseMethodDescriptor y.desc).map (fun d => d.parameters.length) = some n) ∧ maxL ≤ 21
theorem g_callV {y : MethodName} {bytes : ByteArray} {maxL n ci index lv' : Nat} {r' : Option FieldType} {k0 : Int} {fl : List (Option Int)} {As stk : List Value} {P' : Option Value → gS → Prop} (hX : gOk X G cc nL own ret lv) (hM : ∀ l : Launch, gMet l G y bytes maxL r' lv' (gR G k0 :: As) σ P') (hs : gshape k0 = some (.inl (ci, fl))) (hw : gCV own index y bytes maxL r' n ci) (hlv : lv' + 1 ≤ lv) (hn : As.length = n) (hst : (st.map fun v => v.category).sum ≤ 8) (hd : decode cc pc = .ok (.invokevirtual index, 3)) (hstk : stk = As.reverse ++ gR G k0 :: st)
    (kk : ∀ (r : Option Value) (σ' : gS), P' r σ' → gWL X G σ' (pc + 3) loc (r.toList ++ st)) : gWL X G σ pc loc stk := by
  obtain ⟨p, l, e, R, s, m, args, below, meth, c, cells, slots, Q, A⟩ := X
  obtain ⟨hx, hb, hml, hr, hown, hts, hK, hG, hlk, hrm, hA⟩ := hX
  obtain ⟨T, N, hc, w1, w2, w3, w4, w5, w6, w7⟩ := hw
  intro H locs ls hW hS hl
  have cb : CallB R s args own index y bytes maxL r' (Cond.code y bytes maxL r' :: gAll) (rmL lv') 0 0 n := callB_of n hts (gGood (fun _ h => h) w5) rfl rfl rfl (hts _ w4) (hts _ w1) w6 ⟨by show lv' + 1 ≤ _; omega, by show _ + 40 * lv' ≤ _; omega⟩
  obtain ⟨r, h1, cell, q1, q2, q3, q4⟩ := hW k0 _ hs
  have hr : r = (y.cls, T, N) := Option.some.inj (h1.symm.trans hc)
  subst hr
  obtain ⟨-, hfc, -⟩ := hK.1.1 ci _ hc
  refine g_back (va_runV (As := As) (rest := st) (b := G.2.2.1 k0) (C := y.cls) ⟨hx, hb, rfl, hown, hts⟩ (hM l) ⟨cb, hts _ w2, hts _ w3⟩ ⟨gBlind, ⟨cell, q1, by rw [q3]; rfl, by rw [q2]; exact hfc⟩, fun U hU hW' => ⟨rfl, by rw [hU]; exact hW, gK.warm hW' hK⟩⟩ rfl hn hl.1 hstk (lv_room hst) hd ⟨by omega, by omega⟩) hS hA ?_
  intro r σ' hp H1 locs1 hW1 hS1
  exact kk r σ' hp H1 locs1 ls hW1 hS1 hl
theorem g_callS {y : MethodName} {bytes : ByteArray} {maxL n index lv' : Nat} {r' : Option FieldType} {As stk : List Value} {P' : Option Value → gS → Prop} (hX : gOk X G cc nL own ret lv) (hM : ∀ l : Launch, gMet l G y bytes maxL r' lv' As σ P') (hw : gCS own index y bytes maxL r' n) (hlv : lv' + 1 ≤ lv) (hn : As.length = n) (hst : (st.map fun v => v.category).sum ≤ 8) (hd : decode cc pc = .ok (.invokestatic index, 3)) (hstk : stk = As.reverse ++ st)
    (kk : ∀ (r : Option Value) (σ' : gS), P' r σ' → gWL X G σ' (pc + 3) loc (r.toList ++ st)) : gWL X G σ pc loc stk := by
  obtain ⟨p, l, e, R, s, m, args, below, meth, c, cells, slots, Q, A⟩ := X
  obtain ⟨hx, hb, hml, hr, hown, hts, hK, hG, hlk, hrm, hA⟩ := hX
  obtain ⟨w1, w2, w4, w5, w6, w7⟩ := hw
  intro H locs ls hW hS hl
  have cb : CallB R s args own index y bytes maxL r' (Cond.code y bytes maxL r' :: gAll) (rmL lv') 0 0 n := callB_of n hts (gGood (fun _ h => h) w5) rfl rfl rfl (hts _ w4) (hts _ w1) w6 ⟨by show lv' + 1 ≤ _; omega, by show _ + 40 * lv' ≤ _; omega⟩
  refine g_back (va_runS (As := As) (rest := st) ⟨hx, hb, rfl, hown, hts⟩ (hM l) ⟨cb, hts _ w2⟩ ⟨gBlind, fun U hU hW' => ⟨rfl, by rw [hU]; exact hW, gK.warm hW' hK⟩⟩ rfl hn hl.1 hstk (lv_room hst) hd ⟨by omega, by omega⟩) hS hA ?_
  intro r σ' hp H1 locs1 hW1 hS1
  exact kk r σ' hp H1 locs1 ls hW1 hS1 hl
theorem g_callSN {y : MethodName} {bytes : ByteArray} {maxL n index lv' : Nat} {host : String} {r' : Option FieldType} {As stk : List Value} {P' : Option Value → gS → Prop} (hX : gOk X G cc nL own ret lv) (hM : ∀ l : Launch, gMet l G y bytes maxL r' lv' As σ P') (hw : gCN own index y host bytes maxL r' n) (hlv : lv' + 1 ≤ lv) (hn : As.length = n) (hst : (st.map fun v => v.category).sum ≤ 8) (hd : decode cc pc = .ok (.invokestatic index, 3)) (hstk : stk = As.reverse ++ st)
    (kk : ∀ (r : Option Value) (σ' : gS), P' r σ' → gWL X G σ' (pc + 3) loc (r.toList ++ st)) : gWL X G σ pc loc stk := by
  obtain ⟨p, l, e, R, s, m, args, below, meth, c, cells, slots, Q, A⟩ := X
  obtain ⟨hx, hb, hml, hr, hown, hts, hK, hG, hlk, hrm, hA⟩ := hX
  obtain ⟨w1, w2, w4, w5, w6, w7⟩ := hw
  intro H locs ls hW hS hl
  have cb := va_cnB (R := R) (s := s) (args := args) (own := own) (host := host) (index := index) (y := y) (bytes := bytes) (maxL := maxL) (ret := r') (ws := Cond.code y bytes maxL r' :: gAll) (rm := rmL lv') (mc := 0) (ms := 0) n hts (gGood (fun _ h => h) w5) rfl rfl rfl (hK.2 _ w1) (hts _ w4) w6 ⟨by show lv' + 1 ≤ _; omega, by show _ + 40 * lv' ≤ _; omega⟩
  refine g_back (va_runSN (As := As) (rest := st) ⟨hx, hb, rfl, hown, hts⟩ (hM l) ⟨cb, hts _ w2, trivial⟩ ⟨gBlind, fun U hU hW' => ⟨rfl, by rw [hU]; exact hW, gK.warm hW' hK⟩⟩ rfl hn hl.1 hstk (lv_room hst) hd ⟨by omega, by omega⟩) hS hA ?_
  intro r σ' hp H1 locs1 hW1 hS1
  exact kk r σ' hp H1 locs1 ls hW1 hS1 hl
end GROWS
end
section
theorem gOk.inj {X : gX} {G : gG} {cc : ByteArray} {nL : Nat} {own : String} {ret : Option FieldType} {lv : Nat} (h : gOk X G cc nL own ret lv) : gInj G := by
  obtain ⟨p, l, e, R, s, m, args, below, meth, c, cells, slots, Q, A⟩ := X
  exact h.2.2.2.2.2.2.2.1
def gRg (σ : gS) : Prop := (∀ k j, rng (σ.1 k j)) ∧ ∀ k i, rng (σ.2 k i)
theorem gb_n0 {p : Prop} [Decidable p] : ¬ gb p = 0 ↔ p := by
  by_cases h : p <;> simp [gb, h]
theorem gnn {p : Prop} (h : ¬ ¬ p) : p := Classical.not_not.mp h
section GCALLS
variable {X : gX} {G : gG} {σ : gS} {pc : Nat} {loc : List (Nat × Value)} {st : List Value} {cc : ByteArray} {nL : Nat} {own : String} {ret : Option FieldType} {lv : Nat}
theorem g_cVf {y : MethodName} {bytes : ByteArray} {maxL n ci index lv' : Nat} {r' : Option FieldType} {k0 : Int} {fl : List (Option Int)} {As stk : List Value} {f : Int} {σ1 : gS} (hX : gOk X G cc nL own ret lv) (hM : ∀ l : Launch, gMet l G y bytes maxL r' lv' (gR G k0 :: As) σ (gPi (fun v σ' => (v = f ∧ σ' = σ1) ∧ gRg σ'))) (hs : gshape k0 = some (.inl (ci, fl))) (hw : gCV own index y bytes maxL r' n ci) (hlv : lv' + 1 ≤ lv) (hn : As.length = n) (hst : (st.map fun v => v.category).sum ≤ 8) (hd : decode cc pc = .ok (.invokevirtual index, 3)) (hstk : stk = As.reverse ++ gR G k0 :: st) (k : gRg σ1 → gWL X G σ1 (pc + 3) loc (vi f :: st)) : gWL X G σ pc loc stk :=
  g_callV hX hM hs hw hlv hn hst hd hstk (fun r σ' hp => by obtain ⟨v, rfl, ⟨rfl, rfl⟩, hg⟩ := hp; exact k hg)
theorem g_cSf {y : MethodName} {bytes : ByteArray} {maxL n index lv' : Nat} {r' : Option FieldType} {As stk : List Value} {f : Int} {σ1 : gS} (hX : gOk X G cc nL own ret lv) (hM : ∀ l : Launch, gMet l G y bytes maxL r' lv' As σ (gPi (fun v σ' => (v = f ∧ σ' = σ1) ∧ gRg σ'))) (hw : gCS own index y bytes maxL r' n) (hlv : lv' + 1 ≤ lv) (hn : As.length = n) (hst : (st.map fun v => v.category).sum ≤ 8) (hd : decode cc pc = .ok (.invokestatic index, 3)) (hstk : stk = As.reverse ++ st) (k : gRg σ1 → gWL X G σ1 (pc + 3) loc (vi f :: st)) : gWL X G σ pc loc stk :=
  g_callS hX hM hw hlv hn hst hd hstk (fun r σ' hp => by obtain ⟨v, rfl, ⟨rfl, rfl⟩, hg⟩ := hp; exact k hg)
theorem g_cSNf {y : MethodName} {bytes : ByteArray} {maxL n index lv' : Nat} {host : String} {r' : Option FieldType} {As stk : List Value} {f : Int} {σ1 : gS} (hX : gOk X G cc nL own ret lv) (hM : ∀ l : Launch, gMet l G y bytes maxL r' lv' As σ (gPi (fun v σ' => (v = f ∧ σ' = σ1) ∧ gRg σ'))) (hw : gCN own index y host bytes maxL r' n) (hlv : lv' + 1 ≤ lv) (hn : As.length = n) (hst : (st.map fun v => v.category).sum ≤ 8) (hd : decode cc pc = .ok (.invokestatic index, 3)) (hstk : stk = As.reverse ++ st) (k : gRg σ1 → gWL X G σ1 (pc + 3) loc (vi f :: st)) : gWL X G σ pc loc stk :=
  g_callSN hX hM hw hlv hn hst hd hstk (fun r σ' hp => by obtain ⟨v, rfl, ⟨rfl, rfl⟩, hg⟩ := hp; exact k hg)
theorem g_cVw {y : MethodName} {bytes : ByteArray} {maxL n ci index lv' : Nat} {r' : Option FieldType} {k0 : Int} {fl : List (Option Int)} {As stk : List Value} {σ1 : gS} (hX : gOk X G cc nL own ret lv) (hM : ∀ l : Launch, gMet l G y bytes maxL r' lv' (gR G k0 :: As) σ (gPv (fun σ' => (σ' = σ1) ∧ gRg σ'))) (hs : gshape k0 = some (.inl (ci, fl))) (hw : gCV own index y bytes maxL r' n ci) (hlv : lv' + 1 ≤ lv) (hn : As.length = n) (hst : (st.map fun v => v.category).sum ≤ 8) (hd : decode cc pc = .ok (.invokevirtual index, 3)) (hstk : stk = As.reverse ++ gR G k0 :: st) (k : gRg σ1 → gWL X G σ1 (pc + 3) loc st) : gWL X G σ pc loc stk :=
  g_callV hX hM hs hw hlv hn hst hd hstk (fun r σ' hp => by obtain ⟨rfl, rfl, hg⟩ := hp; exact k hg)
theorem g_cSw {y : MethodName} {bytes : ByteArray} {maxL n index lv' : Nat} {r' : Option FieldType} {As stk : List Value} {σ1 : gS} (hX : gOk X G cc nL own ret lv) (hM : ∀ l : Launch, gMet l G y bytes maxL r' lv' As σ (gPv (fun σ' => (σ' = σ1) ∧ gRg σ'))) (hw : gCS own index y bytes maxL r' n) (hlv : lv' + 1 ≤ lv) (hn : As.length = n) (hst : (st.map fun v => v.category).sum ≤ 8) (hd : decode cc pc = .ok (.invokestatic index, 3)) (hstk : stk = As.reverse ++ st) (k : gRg σ1 → gWL X G σ1 (pc + 3) loc st) : gWL X G σ pc loc stk :=
  g_callS hX hM hw hlv hn hst hd hstk (fun r σ' hp => by obtain ⟨rfl, rfl, hg⟩ := hp; exact k hg)
theorem g_cSNw {y : MethodName} {bytes : ByteArray} {maxL n index lv' : Nat} {host : String} {r' : Option FieldType} {As stk : List Value} {σ1 : gS} (hX : gOk X G cc nL own ret lv) (hM : ∀ l : Launch, gMet l G y bytes maxL r' lv' As σ (gPv (fun σ' => (σ' = σ1) ∧ gRg σ'))) (hw : gCN own index y host bytes maxL r' n) (hlv : lv' + 1 ≤ lv) (hn : As.length = n) (hst : (st.map fun v => v.category).sum ≤ 8) (hd : decode cc pc = .ok (.invokestatic index, 3)) (hstk : stk = As.reverse ++ st) (k : gRg σ1 → gWL X G σ1 (pc + 3) loc st) : gWL X G σ pc loc stk :=
  g_callSN hX hM hw hlv hn hst hd hstk (fun r σ' hp => by obtain ⟨rfl, rfl, hg⟩ := hp; exact k hg)
theorem g_cVr {y : MethodName} {bytes : ByteArray} {maxL n ci index lv' : Nat} {r' : Option FieldType} {k0 : Int} {fl : List (Option Int)} {As stk : List Value} {q : Int → gS → Prop} (hX : gOk X G cc nL own ret lv) (hM : ∀ l : Launch, gMet l G y bytes maxL r' lv' (gR G k0 :: As) σ (gPi q)) (hs : gshape k0 = some (.inl (ci, fl))) (hw : gCV own index y bytes maxL r' n ci) (hlv : lv' + 1 ≤ lv) (hn : As.length = n) (hst : (st.map fun v => v.category).sum ≤ 8) (hd : decode cc pc = .ok (.invokevirtual index, 3)) (hstk : stk = As.reverse ++ gR G k0 :: st) (k : ∀ (v : Int) (σ' : gS), q v σ' → gWL X G σ' (pc + 3) loc (vi v :: st)) : gWL X G σ pc loc stk :=
  g_callV hX hM hs hw hlv hn hst hd hstk (fun r σ' hp => by obtain ⟨v, rfl, hq⟩ := hp; exact k v σ' hq)
theorem g_cSr {y : MethodName} {bytes : ByteArray} {maxL n index lv' : Nat} {r' : Option FieldType} {As stk : List Value} {q : Int → gS → Prop} (hX : gOk X G cc nL own ret lv) (hM : ∀ l : Launch, gMet l G y bytes maxL r' lv' As σ (gPi q)) (hw : gCS own index y bytes maxL r' n) (hlv : lv' + 1 ≤ lv) (hn : As.length = n) (hst : (st.map fun v => v.category).sum ≤ 8) (hd : decode cc pc = .ok (.invokestatic index, 3)) (hstk : stk = As.reverse ++ st) (k : ∀ (v : Int) (σ' : gS), q v σ' → gWL X G σ' (pc + 3) loc (vi v :: st)) : gWL X G σ pc loc stk :=
  g_callS hX hM hw hlv hn hst hd hstk (fun r σ' hp => by obtain ⟨v, rfl, hq⟩ := hp; exact k v σ' hq)
theorem g_cSNr {y : MethodName} {bytes : ByteArray} {maxL n index lv' : Nat} {host : String} {r' : Option FieldType} {As stk : List Value} {q : Int → gS → Prop} (hX : gOk X G cc nL own ret lv) (hM : ∀ l : Launch, gMet l G y bytes maxL r' lv' As σ (gPi q)) (hw : gCN own index y host bytes maxL r' n) (hlv : lv' + 1 ≤ lv) (hn : As.length = n) (hst : (st.map fun v => v.category).sum ≤ 8) (hd : decode cc pc = .ok (.invokestatic index, 3)) (hstk : stk = As.reverse ++ st) (k : ∀ (v : Int) (σ' : gS), q v σ' → gWL X G σ' (pc + 3) loc (vi v :: st)) : gWL X G σ pc loc stk :=
  g_callSN hX hM hw hlv hn hst hd hstk (fun r σ' hp => by obtain ⟨v, rfl, hq⟩ := hp; exact k v σ' hq)
theorem g_cVu {y : MethodName} {bytes : ByteArray} {maxL n ci index lv' : Nat} {r' : Option FieldType} {k0 : Int} {fl : List (Option Int)} {As stk : List Value} {q : gS → Prop} (hX : gOk X G cc nL own ret lv) (hM : ∀ l : Launch, gMet l G y bytes maxL r' lv' (gR G k0 :: As) σ (gPv q)) (hs : gshape k0 = some (.inl (ci, fl))) (hw : gCV own index y bytes maxL r' n ci) (hlv : lv' + 1 ≤ lv) (hn : As.length = n) (hst : (st.map fun v => v.category).sum ≤ 8) (hd : decode cc pc = .ok (.invokevirtual index, 3)) (hstk : stk = As.reverse ++ gR G k0 :: st) (k : ∀ (σ' : gS), q σ' → gWL X G σ' (pc + 3) loc st) : gWL X G σ pc loc stk :=
  g_callV hX hM hs hw hlv hn hst hd hstk (fun r σ' hp => by obtain ⟨rfl, hq⟩ := hp; exact k σ' hq)
theorem g_cSu {y : MethodName} {bytes : ByteArray} {maxL n index lv' : Nat} {r' : Option FieldType} {As stk : List Value} {q : gS → Prop} (hX : gOk X G cc nL own ret lv) (hM : ∀ l : Launch, gMet l G y bytes maxL r' lv' As σ (gPv q)) (hw : gCS own index y bytes maxL r' n) (hlv : lv' + 1 ≤ lv) (hn : As.length = n) (hst : (st.map fun v => v.category).sum ≤ 8) (hd : decode cc pc = .ok (.invokestatic index, 3)) (hstk : stk = As.reverse ++ st) (k : ∀ (σ' : gS), q σ' → gWL X G σ' (pc + 3) loc st) : gWL X G σ pc loc stk :=
  g_callS hX hM hw hlv hn hst hd hstk (fun r σ' hp => by obtain ⟨rfl, hq⟩ := hp; exact k σ' hq)
theorem g_cSNu {y : MethodName} {bytes : ByteArray} {maxL n index lv' : Nat} {host : String} {r' : Option FieldType} {As stk : List Value} {q : gS → Prop} (hX : gOk X G cc nL own ret lv) (hM : ∀ l : Launch, gMet l G y bytes maxL r' lv' As σ (gPv q)) (hw : gCN own index y host bytes maxL r' n) (hlv : lv' + 1 ≤ lv) (hn : As.length = n) (hst : (st.map fun v => v.category).sum ≤ 8) (hd : decode cc pc = .ok (.invokestatic index, 3)) (hstk : stk = As.reverse ++ st) (k : ∀ (σ' : gS), q σ' → gWL X G σ' (pc + 3) loc st) : gWL X G σ pc loc stk :=
  g_callSN hX hM hw hlv hn hst hd hstk (fun r σ' hp => by obtain ⟨rfl, hq⟩ := hp; exact k σ' hq)
theorem g_top {a b : Int} (e : a = b) (k : gWL X G σ pc loc (vi b :: st)) : gWL X G σ pc loc (vi a :: st) := e ▸ k
end GCALLS

/-! ===== reading what was written ===== -/
theorem gpI_eq {σ : gS} {k : Int} {j : Nat} {v : Int} : (gpI σ k j v).1 k j = v := if_pos ⟨rfl, rfl⟩
theorem gpI_nk {σ : gS} {k k' : Int} {j j' : Nat} {v : Int} (h : k' ≠ k) : (gpI σ k j v).1 k' j' = σ.1 k' j' := if_neg (fun e => h e.1)
theorem gpI_nj {σ : gS} {k k' : Int} {j j' : Nat} {v : Int} (h : j' ≠ j) : (gpI σ k j v).1 k' j' = σ.1 k' j' := if_neg (fun e => h e.2)
theorem gpI_2 {σ : gS} {k : Int} {j : Nat} {v : Int} : (gpI σ k j v).2 = σ.2 := rfl
theorem gpA_1 {σ : gS} {k i v : Int} : (gpA σ k i v).1 = σ.1 := rfl
theorem gpA_eq {σ : gS} {k i v : Int} : (gpA σ k i v).2 k i = v := if_pos ⟨rfl, rfl⟩
theorem gpA_nk {σ : gS} {k k' i i' v : Int} (h : k' ≠ k) : (gpA σ k i v).2 k' i' = σ.2 k' i' := if_neg (fun e => h e.1)
theorem gpA_ni {σ : gS} {k k' i i' v : Int} (h : i' ≠ i) : (gpA σ k i v).2 k' i' = σ.2 k' i' := if_neg (fun e => h e.2)
theorem gRg_I {σ : gS} {k : Int} {j : Nat} {v : Int} (h : gRg σ) (hv : rng v) : gRg (gpI σ k j v) := by
  refine ⟨fun k' j' => ?_, h.2⟩
  by_cases e : k' = k ∧ j' = j
  · have : (gpI σ k j v).1 k' j' = v := if_pos e
    rw [this]; exact hv
  · have : (gpI σ k j v).1 k' j' = σ.1 k' j' := if_neg e
    rw [this]; exact h.1 _ _
theorem gRg_A {σ : gS} {k i v : Int} (h : gRg σ) (hv : rng v) : gRg (gpA σ k i v) := by
  refine ⟨h.1, fun k' i' => ?_⟩
  by_cases e : k' = k ∧ i' = i
  · have : (gpA σ k i v).2 k' i' = v := if_pos e
    rw [this]; exact hv
  · have : (gpA σ k i v).2 k' i' = σ.2 k' i' := if_neg e
    rw [this]; exact h.2 _ _
theorem rng_of {n : Int} (h0 : -2147483648 ≤ n) (h1 : n ≤ 2147483647) : rng n := ⟨h0, h1⟩
end
section

/-! ===== iteration over Int counters ===== -/
def git {α : Type} (f : Int → α → α) (a : α) : Nat → α
  | 0 => a
  | n + 1 => f (n : Int) (git f a n)
def giter {α : Type} (f : Int → α → α) (a : α) (n : Int) : α := git f a n.toNat
theorem giter_0 {α : Type} (f : Int → α → α) (a : α) : giter f a 0 = a := rfl
theorem giter_s {α : Type} (f : Int → α → α) (a : α) {n : Int} (h : 0 ≤ n) : giter f a (n + 1) = f n (giter f a n) := by
  unfold giter
  have e : (n + 1).toNat = n.toNat + 1 := by omega
  rw [e]
  show f (n.toNat : Int) (git f a n.toNat) = _
  have e2 : (n.toNat : Int) = n := by omega
  rw [e2]
theorem giter_ind {α : Type} {f : Int → α → α} {a : α} (P : Int → α → Prop) {N : Int} (h0 : P 0 a) (hs : ∀ i x, 0 ≤ i → i < N → P i x → P (i + 1) (f i x)) : ∀ n : Int, 0 ≤ n → n ≤ N → P n (giter f a n) := by
  have key : ∀ m : Nat, (m : Int) ≤ N → P (m : Int) (git f a m) := by
    intro m
    induction m with
    | zero => intro _; exact h0
    | succ m ih =>
      intro hm
      have := hs (m : Int) (git f a m) (by omega) (by omega) (ih (by omega))
      have e : ((m + 1 : Nat) : Int) = (m : Int) + 1 := by omega
      rw [e]
      exact this
  intro n h1 h2
  have := key n.toNat (by omega)
  unfold giter
  have e2 : (n.toNat : Int) = n := by omega
  rwa [e2] at this
theorem giter_congr {α : Type} {f g : Int → α → α} {a : α} {n : Int} (h0 : 0 ≤ n) (h : ∀ i x, 0 ≤ i → i < n → f i x = g i x) : giter f a n = giter g a n := by
  have := giter_ind (f := f) (a := a) (N := n) (P := fun i x => x = giter g a i) rfl (fun i x h1 h2 e => by rw [giter_s g a h1, ← e]; exact h i x h1 h2) n h0 (Int.le_refl n)
  exact this
def gsum (f : Int → Int) (n : Int) : Int := giter (fun i a => a + f i) 0 n
theorem gsum_0 (f : Int → Int) : gsum f 0 = 0 := rfl
theorem gsum_s (f : Int → Int) {n : Int} (h : 0 ≤ n) : gsum f (n + 1) = gsum f n + f n := giter_s _ _ h
theorem gsum_congr {f g : Int → Int} {n : Int} (h0 : 0 ≤ n) (h : ∀ i, 0 ≤ i → i < n → f i = g i) : gsum f n = gsum g n := giter_congr h0 (fun i x h1 h2 => by rw [h i h1 h2])
/-- a loop that counts up to hi -/
theorem gloop {α : Type} {hi : Int} (I : Int → α → Prop) (W : Int → α → Prop) (step : ∀ i a, i < hi → I i a → (∀ a', I (i + 1) a' → W (i + 1) a') → W i a) (done : ∀ a, I hi a → W hi a) : ∀ i a, i ≤ hi → I i a → W i a := by
  have key : ∀ (n : Nat) (i : Int) (a : α), i + n = hi → I i a → W i a := by
    intro n
    induction n with
    | zero =>
      intro i a h hI
      have : i = hi := by omega
      subst this
      exact done a hI
    | succ n ih =>
      intro i a h hI
      exact step i a (by omega) hI (fun a' hI' => ih (i + 1) a' (by omega) hI')
  intro i a h hI
  exact key (hi - i).toNat i a (by omega) hI
/-- a loop that counts down to lo -/
theorem gloopD {α : Type} {lo : Int} (I : Int → α → Prop) (W : Int → α → Prop) (step : ∀ i a, lo < i → I i a → (∀ a', I (i - 1) a' → W (i - 1) a') → W i a) (done : ∀ a, I lo a → W lo a) : ∀ i a, lo ≤ i → I i a → W i a := by
  have key : ∀ (n : Nat) (i : Int) (a : α), i = lo + n → I i a → W i a := by
    intro n
    induction n with
    | zero =>
      intro i a h hI
      have : i = lo := by omega
      subst this
      exact done a hI
    | succ n ih =>
      intro i a h hI
      exact step i a (by omega) hI (fun a' hI' => ih (i - 1) a' (by omega) hI')
  intro i a h hI
  exact key (i - lo).toNat i a (by omega) hI
end
section
theorem inG_X0 : ∀ w ∈ u_ws RX0 TX0 13, w ∈ gAll := List.forall_mem_cons.mpr ⟨(gm_1 119 rfl rfl), List.forall_mem_cons.mpr ⟨(gm_1 121 rfl rfl), List.forall_mem_cons.mpr ⟨(gm_1 123 rfl rfl), List.forall_mem_cons.mpr ⟨(gm_1 125 rfl rfl), List.forall_mem_cons.mpr ⟨(gm_1 127 rfl rfl), List.forall_mem_cons.mpr ⟨(gm_1 129 rfl rfl), List.forall_mem_cons.mpr ⟨(gm_1 131 rfl rfl), List.forall_mem_cons.mpr ⟨(gm_1 133 rfl rfl), List.forall_mem_cons.mpr ⟨(gm_1 135 rfl rfl), List.forall_mem_cons.mpr ⟨(gm_1 137 rfl rfl), List.forall_mem_cons.mpr ⟨(gm_1 139 rfl rfl), List.forall_mem_cons.mpr ⟨(gm_1 141 rfl rfl), List.forall_mem_cons.mpr ⟨(gm_1 143 rfl rfl), fun _ h => absurd h List.not_mem_nil⟩⟩⟩⟩⟩⟩⟩⟩⟩⟩⟩⟩⟩
theorem inG_X1 : ∀ w ∈ u_ws RX1 TX1 5, w ∈ gAll := List.forall_mem_cons.mpr ⟨(gm_1 78 rfl rfl), List.forall_mem_cons.mpr ⟨(gm_1 80 rfl rfl), List.forall_mem_cons.mpr ⟨(gm_1 82 rfl rfl), List.forall_mem_cons.mpr ⟨(gm_1 84 rfl rfl), List.forall_mem_cons.mpr ⟨(gm_1 86 rfl rfl), fun _ h => absurd h List.not_mem_nil⟩⟩⟩⟩⟩
theorem inG_X2 : ∀ w ∈ u_ws RX2 TX2 3, w ∈ gAll := List.forall_mem_cons.mpr ⟨(gm_1 157 rfl rfl), List.forall_mem_cons.mpr ⟨(gm_1 159 rfl rfl), List.forall_mem_cons.mpr ⟨(gm_1 161 rfl rfl), fun _ h => absurd h List.not_mem_nil⟩⟩⟩
theorem inG_X3 : ∀ w ∈ u_ws RX3 TX3 3, w ∈ gAll := List.forall_mem_cons.mpr ⟨(gm_1 34 rfl rfl), List.forall_mem_cons.mpr ⟨(gm_1 36 rfl rfl), List.forall_mem_cons.mpr ⟨(gm_1 38 rfl rfl), fun _ h => absurd h List.not_mem_nil⟩⟩⟩
theorem inG_X4 : ∀ w ∈ u_ws RX4 TX4 3, w ∈ gAll := List.forall_mem_cons.mpr ⟨(gm_1 56 rfl rfl), List.forall_mem_cons.mpr ⟨(gm_1 58 rfl rfl), List.forall_mem_cons.mpr ⟨(gm_1 60 rfl rfl), fun _ h => absurd h List.not_mem_nil⟩⟩⟩
theorem inG_X5 : ∀ w ∈ u_ws RX5 TX5 5, w ∈ gAll := List.forall_mem_cons.mpr ⟨(gm_1 176 rfl rfl), List.forall_mem_cons.mpr ⟨(gm_1 178 rfl rfl), List.forall_mem_cons.mpr ⟨(gm_1 180 rfl rfl), List.forall_mem_cons.mpr ⟨(gm_1 182 rfl rfl), List.forall_mem_cons.mpr ⟨(gm_1 184 rfl rfl), fun _ h => absurd h List.not_mem_nil⟩⟩⟩⟩⟩
theorem inG_X6 : ∀ w ∈ u_ws RX6 TX6 8, w ∈ gAll := List.forall_mem_cons.mpr ⟨(gm_1 205 rfl rfl), List.forall_mem_cons.mpr ⟨(gm_1 207 rfl rfl), List.forall_mem_cons.mpr ⟨(gm_1 209 rfl rfl), List.forall_mem_cons.mpr ⟨(gm_1 211 rfl rfl), List.forall_mem_cons.mpr ⟨(gm_1 213 rfl rfl), List.forall_mem_cons.mpr ⟨(gm_1 215 rfl rfl), List.forall_mem_cons.mpr ⟨(gm_1 217 rfl rfl), List.forall_mem_cons.mpr ⟨(gm_1 219 rfl rfl), fun _ h => absurd h List.not_mem_nil⟩⟩⟩⟩⟩⟩⟩⟩
theorem inG_X7 : ∀ w ∈ u_ws RX7 TX7 8, w ∈ gAll := List.forall_mem_cons.mpr ⟨(gm_1 230 rfl rfl), List.forall_mem_cons.mpr ⟨(gm_1 232 rfl rfl), List.forall_mem_cons.mpr ⟨(gm_1 234 rfl rfl), List.forall_mem_cons.mpr ⟨(gm_1 236 rfl rfl), List.forall_mem_cons.mpr ⟨(gm_1 238 rfl rfl), List.forall_mem_cons.mpr ⟨(gm_2 0 rfl rfl), List.forall_mem_cons.mpr ⟨(gm_2 2 rfl rfl), List.forall_mem_cons.mpr ⟨(gm_2 4 rfl rfl), fun _ h => absurd h List.not_mem_nil⟩⟩⟩⟩⟩⟩⟩⟩
theorem inG_X8 : ∀ w ∈ u_ws RX8 TX8 34, w ∈ gAll := List.forall_mem_cons.mpr ⟨(gm_3 72 rfl rfl), List.forall_mem_cons.mpr ⟨(gm_3 74 rfl rfl), List.forall_mem_cons.mpr ⟨(gm_3 76 rfl rfl), List.forall_mem_cons.mpr ⟨(gm_3 78 rfl rfl), List.forall_mem_cons.mpr ⟨(gm_3 80 rfl rfl), List.forall_mem_cons.mpr ⟨(gm_3 82 rfl rfl), List.forall_mem_cons.mpr ⟨(gm_3 84 rfl rfl), List.forall_mem_cons.mpr ⟨(gm_3 86 rfl rfl), List.forall_mem_cons.mpr ⟨(gm_3 88 rfl rfl), List.forall_mem_cons.mpr ⟨(gm_3 90 rfl rfl), List.forall_mem_cons.mpr ⟨(gm_3 92 rfl rfl), List.forall_mem_cons.mpr ⟨(gm_3 94 rfl rfl), List.forall_mem_cons.mpr ⟨(gm_3 96 rfl rfl), List.forall_mem_cons.mpr ⟨(gm_3 98 rfl rfl), List.forall_mem_cons.mpr ⟨(gm_3 100 rfl rfl), List.forall_mem_cons.mpr ⟨(gm_3 102 rfl rfl), List.forall_mem_cons.mpr ⟨(gm_3 104 rfl rfl), List.forall_mem_cons.mpr ⟨(gm_3 106 rfl rfl), List.forall_mem_cons.mpr ⟨(gm_3 108 rfl rfl), List.forall_mem_cons.mpr ⟨(gm_3 110 rfl rfl), List.forall_mem_cons.mpr ⟨(gm_3 112 rfl rfl), List.forall_mem_cons.mpr ⟨(gm_3 114 rfl rfl), List.forall_mem_cons.mpr ⟨(gm_3 116 rfl rfl), List.forall_mem_cons.mpr ⟨(gm_3 118 rfl rfl), List.forall_mem_cons.mpr ⟨(gm_3 120 rfl rfl), List.forall_mem_cons.mpr ⟨(gm_3 122 rfl rfl), List.forall_mem_cons.mpr ⟨(gm_3 124 rfl rfl), List.forall_mem_cons.mpr ⟨(gm_3 126 rfl rfl), List.forall_mem_cons.mpr ⟨(gm_3 128 rfl rfl), List.forall_mem_cons.mpr ⟨(gm_3 130 rfl rfl), List.forall_mem_cons.mpr ⟨(gm_3 132 rfl rfl), List.forall_mem_cons.mpr ⟨(gm_3 134 rfl rfl), List.forall_mem_cons.mpr ⟨(gm_3 136 rfl rfl), List.forall_mem_cons.mpr ⟨(gm_3 138 rfl rfl), fun _ h => absurd h List.not_mem_nil⟩⟩⟩⟩⟩⟩⟩⟩⟩⟩⟩⟩⟩⟩⟩⟩⟩⟩⟩⟩⟩⟩⟩⟩⟩⟩⟩⟩⟩⟩⟩⟩⟩⟩
theorem cv_X7_62 : gCS RX7 62 yX7_isWithin cX7_isWithin 3 (some .boolean) 3 := ⟨(gm_2 11 rfl rfl), (gm_2 12 rfl rfl), (gm_1 1 rfl rfl), (gm_2 13 rfl rfl), ⟨by decide, by decide, by decide +kernel⟩, by decide⟩
theorem cv_X8_102 : gCS RX8 102 yX8_isIn cX8_isIn 3 (some .boolean) 3 := ⟨(gm_3 146 rfl rfl), (gm_3 147 rfl rfl), (gm_1 9 rfl rfl), (gm_3 148 rfl rfl), ⟨by decide, by decide, by decide +kernel⟩, by decide⟩
def gfar (a b : Int) : Int := if a < b then b - a else a - b
def gabs (a : Int) : Int := if 0 ≤ a then a else -a
set_option maxRecDepth 100000 in
set_option maxHeartbeats 4000000 in
theorem bk_X7_isWithin_0 {X : gX} {G : gG} (hX : gOk X G cX7_isWithin 3 RX7 (some .boolean) 1) {Q : Int → gS → Prop} (hE : gEnd X G (gPi (fun v s' => Q v s' ∧ gRg s'))) (s : gS) (hs : gRg s) (x0 : Int) (x1 : Int) (x2 : Int)  (h : (rng x0) ∧ (rng x1) ∧ ((x0 < x1 → Q 0 s) ∧ (x1 ≤ x0 → (rng x2) ∧ ((x2 < x0 → Q 0 s) ∧ (x0 ≤ x2 → Q 1 s))))) : gWL X G s 0 [(0, vi x0), (1, vi x1), (2, vi x2)] [] := by
  refine g_iload_n hX dX7_isWithin_0 0 rfl ?_
  refine g_iload_n hX dX7_isWithin_1 1 rfl ?_
  obtain ⟨h1, h⟩ := h
  obtain ⟨h2, h⟩ := h
  refine g_iclt (tgt := 14) hX h1 h2 dX7_isWithin_2 (by decide) (fun c3 => ?_) (fun c3 => ?_)
  · replace h := h.1 c3
    refine g_iconst hX dX7_isWithin_14 ?_
    exact g_zret hX hE (Or.inl rfl) dX7_isWithin_15 ⟨h, hs⟩
  · replace h := h.2 (Int.not_lt.mp c3)
    refine g_iload_n hX dX7_isWithin_5 0 rfl ?_
    refine g_iload_n hX dX7_isWithin_6 2 rfl ?_
    obtain ⟨h4, h⟩ := h
    refine g_icgt (tgt := 14) hX h1 h4 dX7_isWithin_7 (by decide) (fun c5 => ?_) (fun c5 => ?_)
    · replace h := h.1 c5
      refine g_iconst hX dX7_isWithin_14 ?_
      exact g_zret hX hE (Or.inl rfl) dX7_isWithin_15 ⟨h, hs⟩
    · replace h := h.2 (Int.not_lt.mp c5)
      refine g_iconst hX dX7_isWithin_10 ?_
      refine g_goto (tgt := 15) hX dX7_isWithin_11 (by decide) ?_
      exact g_zret hX hE (Or.inr rfl) dX7_isWithin_15 ⟨h, hs⟩
set_option maxRecDepth 100000 in
set_option maxHeartbeats 4000000 in
theorem c_X7_isWithin (l : Launch) {G : gG} (hG : gInj G) (s : gS) (x0 : Int) (x1 : Int) (x2 : Int) (p0 : gRg s) (p1 : rng x0) (p2 : rng x1) (p3 : rng x2) : gMet l G yX7_isWithin cX7_isWithin 3 (some .boolean) 1 [vi x0, vi x1, vi x2] s (gPi (fun v s' => (v = (gb (x1 ≤ x0 ∧ x0 ≤ x2)) ∧ s' = s) ∧ gRg s')) := by
  refine gMet_of (plainFor_of_name (by decide)) hG (Nat.le_of_ble_eq_true rfl) (fun X hX hE => ?_)
  refine bk_X7_isWithin_0 hX hE s p0 x0 x1 x2  ?_
  exact ⟨p1, p2, fun h => ⟨(gb_f (by omega)).symm, rfl⟩, fun h => ⟨p3, fun h' => ⟨(gb_f (by omega)).symm, rfl⟩, fun h' => ⟨(gb_t (by omega)).symm, rfl⟩⟩⟩
set_option maxRecDepth 100000 in
set_option maxHeartbeats 4000000 in
theorem bk_X7_isDay_0 {X : gX} {G : gG} (hX : gOk X G cX7_isDay 1 RX7 (some .boolean) 2) {Q : Int → gS → Prop} (hE : gEnd X G (gPi (fun v s' => Q v s' ∧ gRg s'))) (s : gS) (hs : gRg s) (x0 : Int)  (h : (rng x0) ∧ Q (gb (0 ≤ x0 ∧ x0 ≤ 1000)) s) : gWL X G s 0 [(0, vi x0)] [] := by
  refine g_iload_n hX dX7_isDay_0 0 rfl ?_
  refine g_iconst hX dX7_isDay_1 ?_
  refine g_sipush hX dX7_isDay_2 rfl ?_
  obtain ⟨h1, h⟩ := h
  refine g_cSf (As := [vi x0, vi 0, vi 1000]) hX (fun l => c_X7_isWithin l hX.inj s x0 0 1000 hs h1 (by unfold rng; omega) (by unfold rng; omega)) cv_X7_62 (by decide) rfl (Nat.le_of_ble_eq_true rfl) dX7_isDay_5 rfl (fun g2 => ?_)
  exact g_zret hX hE (gb_01 _) dX7_isDay_8 ⟨h, hs⟩
set_option maxRecDepth 100000 in
set_option maxHeartbeats 4000000 in
theorem c_X7_isDay (l : Launch) {G : gG} (hG : gInj G) (s : gS) (x0 : Int) (p0 : gRg s) (p1 : rng x0) : gMet l G yX7_isDay cX7_isDay 1 (some .boolean) 2 [vi x0] s (gPi (fun v s' => (v = (gb (0 ≤ x0 ∧ x0 ≤ 1000)) ∧ s' = s) ∧ gRg s')) := by
  refine gMet_of (plainFor_of_name (by decide)) hG (Nat.le_of_ble_eq_true rfl) (fun X hX hE => ?_)
  refine bk_X7_isDay_0 hX hE s p0 x0  ?_
  exact ⟨p1, rfl, rfl⟩
set_option maxRecDepth 100000 in
set_option maxHeartbeats 4000000 in
theorem bk_X8_isIn_0 {X : gX} {G : gG} (hX : gOk X G cX8_isIn 3 RX8 (some .boolean) 1) {Q : Int → gS → Prop} (hE : gEnd X G (gPi (fun v s' => Q v s' ∧ gRg s'))) (s : gS) (hs : gRg s) (x0 : Int) (x1 : Int) (x2 : Int)  (h : (rng x0) ∧ (rng x1) ∧ ((x0 < x1 → Q 0 s) ∧ (x1 ≤ x0 → (rng x2) ∧ ((x2 < x0 → Q 0 s) ∧ (x0 ≤ x2 → Q 1 s))))) : gWL X G s 0 [(0, vi x0), (1, vi x1), (2, vi x2)] [] := by
  refine g_iload_n hX dX8_isIn_0 0 rfl ?_
  refine g_iload_n hX dX8_isIn_1 1 rfl ?_
  obtain ⟨h1, h⟩ := h
  obtain ⟨h2, h⟩ := h
  refine g_iclt (tgt := 14) hX h1 h2 dX8_isIn_2 (by decide) (fun c3 => ?_) (fun c3 => ?_)
  · replace h := h.1 c3
    refine g_iconst hX dX8_isIn_14 ?_
    exact g_zret hX hE (Or.inl rfl) dX8_isIn_15 ⟨h, hs⟩
  · replace h := h.2 (Int.not_lt.mp c3)
    refine g_iload_n hX dX8_isIn_5 0 rfl ?_
    refine g_iload_n hX dX8_isIn_6 2 rfl ?_
    obtain ⟨h4, h⟩ := h
    refine g_icgt (tgt := 14) hX h1 h4 dX8_isIn_7 (by decide) (fun c5 => ?_) (fun c5 => ?_)
    · replace h := h.1 c5
      refine g_iconst hX dX8_isIn_14 ?_
      exact g_zret hX hE (Or.inl rfl) dX8_isIn_15 ⟨h, hs⟩
    · replace h := h.2 (Int.not_lt.mp c5)
      refine g_iconst hX dX8_isIn_10 ?_
      refine g_goto (tgt := 15) hX dX8_isIn_11 (by decide) ?_
      exact g_zret hX hE (Or.inr rfl) dX8_isIn_15 ⟨h, hs⟩
set_option maxRecDepth 100000 in
set_option maxHeartbeats 4000000 in
theorem c_X8_isIn (l : Launch) {G : gG} (hG : gInj G) (s : gS) (x0 : Int) (x1 : Int) (x2 : Int) (p0 : gRg s) (p1 : rng x0) (p2 : rng x1) (p3 : rng x2) : gMet l G yX8_isIn cX8_isIn 3 (some .boolean) 1 [vi x0, vi x1, vi x2] s (gPi (fun v s' => (v = (gb (x1 ≤ x0 ∧ x0 ≤ x2)) ∧ s' = s) ∧ gRg s')) := by
  refine gMet_of (plainFor_of_name (by decide)) hG (Nat.le_of_ble_eq_true rfl) (fun X hX hE => ?_)
  refine bk_X8_isIn_0 hX hE s p0 x0 x1 x2  ?_
  exact ⟨p1, p2, fun h => ⟨(gb_f (by omega)).symm, rfl⟩, fun h => ⟨p3, fun h' => ⟨(gb_f (by omega)).symm, rfl⟩, fun h' => ⟨(gb_t (by omega)).symm, rfl⟩⟩⟩
set_option maxRecDepth 100000 in
set_option maxHeartbeats 4000000 in
theorem bk_X8_isRecording_0 {X : gX} {G : gG} (hX : gOk X G cX8_isRecording 1 RX8 (some .boolean) 2) {Q : Int → gS → Prop} (hE : gEnd X G (gPi (fun v s' => Q v s' ∧ gRg s'))) (s : gS) (hs : gRg s) (x0 : Int)  (h : (rng x0) ∧ Q (gb (0 ≤ x0 ∧ x0 ≤ 9)) s) : gWL X G s 0 [(0, vi x0)] [] := by
  refine g_iload_n hX dX8_isRecording_0 0 rfl ?_
  refine g_iconst hX dX8_isRecording_1 ?_
  refine g_bipush hX dX8_isRecording_2 rfl ?_
  obtain ⟨h1, h⟩ := h
  refine g_cSf (As := [vi x0, vi 0, vi 9]) hX (fun l => c_X8_isIn l hX.inj s x0 0 9 hs h1 (by unfold rng; omega) (by unfold rng; omega)) cv_X8_102 (by decide) rfl (Nat.le_of_ble_eq_true rfl) dX8_isRecording_4 rfl (fun g2 => ?_)
  exact g_zret hX hE (gb_01 _) dX8_isRecording_7 ⟨h, hs⟩
set_option maxRecDepth 100000 in
set_option maxHeartbeats 4000000 in
theorem c_X8_isRecording (l : Launch) {G : gG} (hG : gInj G) (s : gS) (x0 : Int) (p0 : gRg s) (p1 : rng x0) : gMet l G yX8_isRecording cX8_isRecording 1 (some .boolean) 2 [vi x0] s (gPi (fun v s' => (v = (gb (0 ≤ x0 ∧ x0 ≤ 9)) ∧ s' = s) ∧ gRg s')) := by
  refine gMet_of (plainFor_of_name (by decide)) hG (Nat.le_of_ble_eq_true rfl) (fun X hX hE => ?_)
  refine bk_X8_isRecording_0 hX hE s p0 x0  ?_
  exact ⟨p1, rfl, rfl⟩
set_option maxRecDepth 100000 in
set_option maxHeartbeats 4000000 in
theorem bk_X8_far_0 {X : gX} {G : gG} (hX : gOk X G cX8_far 2 RX8 (some .int) 1) {Q : Int → gS → Prop} (hE : gEnd X G (gPi (fun v s' => Q v s' ∧ gRg s'))) (s : gS) (hs : gRg s) (x0 : Int) (x1 : Int)  (h : (rng x0) ∧ (rng x1) ∧ ((x1 ≤ x0 → Q (x0 - x1) s) ∧ (x0 < x1 → Q (x1 - x0) s))) : gWL X G s 0 [(0, vi x0), (1, vi x1)] [] := by
  refine g_iload_n hX dX8_far_0 0 rfl ?_
  refine g_iload_n hX dX8_far_1 1 rfl ?_
  obtain ⟨h1, h⟩ := h
  obtain ⟨h2, h⟩ := h
  refine g_icge (tgt := 11) hX h1 h2 dX8_far_2 (by decide) (fun c3 => ?_) (fun c3 => ?_)
  · replace h := h.1 c3
    refine g_iload_n hX dX8_far_11 0 rfl ?_
    refine g_iload_n hX dX8_far_12 1 rfl ?_
    refine g_isub hX dX8_far_13 ?_
    exact g_iret hX hE dX8_far_14 ⟨h, hs⟩
  · replace h := h.2 (Int.not_le.mp c3)
    refine g_iload_n hX dX8_far_5 1 rfl ?_
    refine g_iload_n hX dX8_far_6 0 rfl ?_
    refine g_isub hX dX8_far_7 ?_
    refine g_goto (tgt := 14) hX dX8_far_8 (by decide) ?_
    exact g_iret hX hE dX8_far_14 ⟨h, hs⟩
set_option maxRecDepth 100000 in
set_option maxHeartbeats 4000000 in
theorem c_X8_far (l : Launch) {G : gG} (hG : gInj G) (s : gS) (x0 : Int) (x1 : Int) (p0 : gRg s) (p1 : rng x0) (p2 : rng x1) : gMet l G yX8_far cX8_far 2 (some .int) 1 [vi x0, vi x1] s (gPi (fun v s' => (v = (gfar x0 x1) ∧ s' = s) ∧ gRg s')) := by
  refine gMet_of (plainFor_of_name (by decide)) hG (Nat.le_of_ble_eq_true rfl) (fun X hX hE => ?_)
  refine bk_X8_far_0 hX hE s p0 x0 x1  ?_
  exact ⟨p1, p2, fun h => ⟨(if_neg (by omega)).symm, rfl⟩, fun h => ⟨(if_pos (by omega)).symm, rfl⟩⟩
theorem pl_rows : (Jvm.natives.all fun r => r.cls != "java/lang/Math" || !(["(I)I", "(II)I"].contains r.desc)) = true := by decide +kernel
theorem pl_math {y : MethodName} (hc : y.cls = "java/lang/Math") (hd : ["(I)I", "(II)I"].contains y.desc = true) : plainFor y = true := by
  unfold plainFor
  rw [Bool.or_eq_true]
  right
  rw [Option.isNone_iff_eq_none, NativeRow.find?, List.find?_eq_none]
  intro r hr h
  have h9 := List.all_eq_true.mp pl_rows r hr
  simp only [Bool.and_eq_true, beq_iff_eq] at h
  rw [h.1.2, h.2, hc, hd] at h9
  simp at h9
theorem pl_J9_abs_0f7a4 : plainFor yJ9_abs_0f7a4 = true := pl_math rfl rfl
theorem pl_J9_max_7cf53 : plainFor yJ9_max_7cf53 = true := pl_math rfl rfl
theorem pl_J9_min_7cf53 : plainFor yJ9_min_7cf53 = true := pl_math rfl rfl
theorem pl_J9_floorDiv_7cf53 : plainFor yJ9_floorDiv_7cf53 = true := pl_math rfl rfl
set_option maxRecDepth 100000 in
set_option maxHeartbeats 4000000 in
theorem bk_J9_abs_0f7a4_0 {X : gX} {G : gG} (hX : gOk X G cJ9_abs_0f7a4 1 RJ9 (some .int) 1) {Q : Int → gS → Prop} (hE : gEnd X G (gPi (fun v s' => Q v s' ∧ gRg s'))) (s : gS) (hs : gRg s) (x0 : Int)  (h : (rng x0) ∧ ((0 ≤ x0 → Q x0 s) ∧ (x0 < 0 → Q (-x0) s))) : gWL X G s 0 [(0, vi x0)] [] := by
  refine g_iload_n hX dJ9_abs_0f7a4_0 0 rfl ?_
  obtain ⟨h1, h⟩ := h
  refine g_ifge (tgt := 9) hX h1 dJ9_abs_0f7a4_1 (by decide) (fun c2 => ?_) (fun c2 => ?_)
  · replace h := h.1 c2
    refine g_iload_n hX dJ9_abs_0f7a4_9 0 rfl ?_
    exact g_iret hX hE dJ9_abs_0f7a4_10 ⟨h, hs⟩
  · replace h := h.2 (Int.not_le.mp c2)
    refine g_iload_n hX dJ9_abs_0f7a4_4 0 rfl ?_
    refine g_ineg hX dJ9_abs_0f7a4_5 ?_
    refine g_goto (tgt := 10) hX dJ9_abs_0f7a4_6 (by decide) ?_
    exact g_iret hX hE dJ9_abs_0f7a4_10 ⟨h, hs⟩
set_option maxRecDepth 100000 in
set_option maxHeartbeats 4000000 in
theorem c_J9_abs_0f7a4 (l : Launch) {G : gG} (hG : gInj G) (s : gS) (x0 : Int) (p0 : gRg s) (p1 : rng x0) : gMet l G yJ9_abs_0f7a4 cJ9_abs_0f7a4 1 (some .int) 1 [vi x0] s (gPi (fun v s' => (v = (gabs x0) ∧ s' = s) ∧ gRg s')) := by
  refine gMet_of pl_J9_abs_0f7a4 hG (Nat.le_of_ble_eq_true rfl) (fun X hX hE => ?_)
  refine bk_J9_abs_0f7a4_0 hX hE s p0 x0  ?_
  exact ⟨p1, fun h => ⟨(if_pos h).symm, rfl⟩, fun h => ⟨(if_neg (by omega)).symm, rfl⟩⟩
set_option maxRecDepth 100000 in
set_option maxHeartbeats 4000000 in
theorem bk_J9_max_7cf53_0 {X : gX} {G : gG} (hX : gOk X G cJ9_max_7cf53 2 RJ9 (some .int) 1) {Q : Int → gS → Prop} (hE : gEnd X G (gPi (fun v s' => Q v s' ∧ gRg s'))) (s : gS) (hs : gRg s) (x0 : Int) (x1 : Int)  (h : (rng x0) ∧ (rng x1) ∧ ((x0 < x1 → Q x1 s) ∧ (x1 ≤ x0 → Q x0 s))) : gWL X G s 0 [(0, vi x0), (1, vi x1)] [] := by
  refine g_iload_n hX dJ9_max_7cf53_0 0 rfl ?_
  refine g_iload_n hX dJ9_max_7cf53_1 1 rfl ?_
  obtain ⟨h1, h⟩ := h
  obtain ⟨h2, h⟩ := h
  refine g_iclt (tgt := 9) hX h1 h2 dJ9_max_7cf53_2 (by decide) (fun c3 => ?_) (fun c3 => ?_)
  · replace h := h.1 c3
    refine g_iload_n hX dJ9_max_7cf53_9 1 rfl ?_
    exact g_iret hX hE dJ9_max_7cf53_10 ⟨h, hs⟩
  · replace h := h.2 (Int.not_lt.mp c3)
    refine g_iload_n hX dJ9_max_7cf53_5 0 rfl ?_
    refine g_goto (tgt := 10) hX dJ9_max_7cf53_6 (by decide) ?_
    exact g_iret hX hE dJ9_max_7cf53_10 ⟨h, hs⟩
set_option maxRecDepth 100000 in
set_option maxHeartbeats 4000000 in
theorem c_J9_max_7cf53 (l : Launch) {G : gG} (hG : gInj G) (s : gS) (x0 : Int) (x1 : Int) (p0 : gRg s) (p1 : rng x0) (p2 : rng x1) : gMet l G yJ9_max_7cf53 cJ9_max_7cf53 2 (some .int) 1 [vi x0, vi x1] s (gPi (fun v s' => (v = (max x0 x1) ∧ s' = s) ∧ gRg s')) := by
  refine gMet_of pl_J9_max_7cf53 hG (Nat.le_of_ble_eq_true rfl) (fun X hX hE => ?_)
  refine bk_J9_max_7cf53_0 hX hE s p0 x0 x1  ?_
  exact ⟨p1, p2, fun h => ⟨by omega, rfl⟩, fun h => ⟨by omega, rfl⟩⟩
set_option maxRecDepth 100000 in
set_option maxHeartbeats 4000000 in
theorem bk_J9_min_7cf53_0 {X : gX} {G : gG} (hX : gOk X G cJ9_min_7cf53 2 RJ9 (some .int) 1) {Q : Int → gS → Prop} (hE : gEnd X G (gPi (fun v s' => Q v s' ∧ gRg s'))) (s : gS) (hs : gRg s) (x0 : Int) (x1 : Int)  (h : (rng x0) ∧ (rng x1) ∧ ((x1 < x0 → Q x1 s) ∧ (x0 ≤ x1 → Q x0 s))) : gWL X G s 0 [(0, vi x0), (1, vi x1)] [] := by
  refine g_iload_n hX dJ9_min_7cf53_0 0 rfl ?_
  refine g_iload_n hX dJ9_min_7cf53_1 1 rfl ?_
  obtain ⟨h1, h⟩ := h
  obtain ⟨h2, h⟩ := h
  refine g_icgt (tgt := 9) hX h1 h2 dJ9_min_7cf53_2 (by decide) (fun c3 => ?_) (fun c3 => ?_)
  · replace h := h.1 c3
    refine g_iload_n hX dJ9_min_7cf53_9 1 rfl ?_
    exact g_iret hX hE dJ9_min_7cf53_10 ⟨h, hs⟩
  · replace h := h.2 (Int.not_lt.mp c3)
    refine g_iload_n hX dJ9_min_7cf53_5 0 rfl ?_
    refine g_goto (tgt := 10) hX dJ9_min_7cf53_6 (by decide) ?_
    exact g_iret hX hE dJ9_min_7cf53_10 ⟨h, hs⟩
set_option maxRecDepth 100000 in
set_option maxHeartbeats 4000000 in
theorem c_J9_min_7cf53 (l : Launch) {G : gG} (hG : gInj G) (s : gS) (x0 : Int) (x1 : Int) (p0 : gRg s) (p1 : rng x0) (p2 : rng x1) : gMet l G yJ9_min_7cf53 cJ9_min_7cf53 2 (some .int) 1 [vi x0, vi x1] s (gPi (fun v s' => (v = (min x0 x1) ∧ s' = s) ∧ gRg s')) := by
  refine gMet_of pl_J9_min_7cf53 hG (Nat.le_of_ble_eq_true rfl) (fun X hX hE => ?_)
  refine bk_J9_min_7cf53_0 hX hE s p0 x0 x1  ?_
  exact ⟨p1, p2, fun h => ⟨by omega, rfl⟩, fun h => ⟨by omega, rfl⟩⟩
set_option maxRecDepth 100000 in
set_option maxHeartbeats 4000000 in
theorem bk_J9_floorDiv_7cf53_0 {X : gX} {G : gG} (hX : gOk X G cJ9_floorDiv_7cf53 3 RJ9 (some .int) 1) {Q : Int → gS → Prop} (hE : gEnd X G (gPi (fun v s' => Q v s' ∧ gRg s'))) (s : gS) (hs : gRg s) (x0 : Int) (x1 : Int)  (h : (rng x0) ∧ (rng x1) ∧ (0 < x1) ∧ ((0 ≤ (gxor x0 x1) → Q (x0.tdiv x1) s) ∧ ((gxor x0 x1) < 0 → (rng ((x0.tdiv x1) * x1)) ∧ ((((x0.tdiv x1) * x1) = x0 → Q (x0.tdiv x1) s) ∧ (¬ (((x0.tdiv x1) * x1) = x0) → Q ((x0.tdiv x1) - 1) s))))) : gWL X G s 0 [(0, vi x0), (1, vi x1)] [] := by
  refine g_iload_n hX dJ9_floorDiv_7cf53_0 0 rfl ?_
  refine g_iload_n hX dJ9_floorDiv_7cf53_1 1 rfl ?_
  obtain ⟨h1, h⟩ := h
  obtain ⟨h2, h⟩ := h
  obtain ⟨h3, h⟩ := h
  refine g_idiv hX h1 h2 h3 dJ9_floorDiv_7cf53_2 ?_
  refine g_istore_n (loc' := [(2, vi (x0.tdiv x1)), (0, vi x0), (1, vi x1)]) hX dJ9_floorDiv_7cf53_3 (by decide) rfl ?_
  refine g_iload_n hX dJ9_floorDiv_7cf53_4 1 rfl ?_
  refine g_iload_n hX dJ9_floorDiv_7cf53_5 2 rfl ?_
  refine g_ixor hX dJ9_floorDiv_7cf53_6 ?_
  refine g_ifge (tgt := 21) hX (rng_i _) dJ9_floorDiv_7cf53_7 (by decide) (fun c4 => ?_) (fun c4 => ?_)
  · replace h := h.1 c4
    refine g_iload_n hX dJ9_floorDiv_7cf53_21 0 rfl ?_
    exact g_iret hX hE dJ9_floorDiv_7cf53_22 ⟨h, hs⟩
  · replace h := h.2 (Int.not_le.mp c4)
    refine g_iload_n hX dJ9_floorDiv_7cf53_10 0 rfl ?_
    refine g_iload_n hX dJ9_floorDiv_7cf53_11 2 rfl ?_
    refine g_imul hX dJ9_floorDiv_7cf53_12 ?_
    refine g_iload_n hX dJ9_floorDiv_7cf53_13 1 rfl ?_
    obtain ⟨h5, h⟩ := h
    refine g_iceq (tgt := 21) hX h5 h1 dJ9_floorDiv_7cf53_14 (by decide) (fun c6 => ?_) (fun c6 => ?_)
    · replace h := h.1 c6
      refine g_iload_n hX dJ9_floorDiv_7cf53_21 0 rfl ?_
      exact g_iret hX hE dJ9_floorDiv_7cf53_22 ⟨h, hs⟩
    · replace h := h.2 c6
      refine g_iload_n hX dJ9_floorDiv_7cf53_17 0 rfl ?_
      refine g_iconst hX dJ9_floorDiv_7cf53_18 ?_
      refine g_isub hX dJ9_floorDiv_7cf53_19 ?_
      exact g_iret hX hE dJ9_floorDiv_7cf53_20 ⟨h, hs⟩
theorem gb_1 {p : Prop} [Decidable p] : gb p = 1 ↔ p := by
  by_cases h : p <;> simp [gb, h]
theorem gxor_sign {a b : Int} (ha : rng a) (hb : rng b) : 0 ≤ gxor a b ↔ (a < 0 ↔ b < 0) := by
  have h : ∀ x : Int32, x.toBitVec.msb = decide (x.toInt < 0) := fun x => BitVec.msb_eq_toInt
  have h1 := h (Int32.ofInt a)
  have h2 := h (Int32.ofInt b)
  have h3 := h (Int32.ofInt a ^^^ Int32.ofInt b)
  rw [gI_toInt ha] at h1
  rw [gI_toInt hb] at h2
  rw [Int32.toBitVec_xor, BitVec.msb_xor, h1, h2] at h3
  unfold gxor
  by_cases u : a < 0 <;> by_cases v : b < 0 <;> simp [u, v] at h3 ⊢ <;> omega
set_option maxRecDepth 100000 in
set_option maxHeartbeats 4000000 in
theorem c_J9_floorDiv_7cf53 (l : Launch) {G : gG} (hG : gInj G) (s : gS) (x0 : Int) (x1 : Int) (p0 : gRg s) (p1 : rng x0) (p2 : rng x1) (p3 : 0 < x1) : gMet l G yJ9_floorDiv_7cf53 cJ9_floorDiv_7cf53 3 (some .int) 1 [vi x0, vi x1] s (gPi (fun v s' => (v = (x0 / x1) ∧ s' = s) ∧ gRg s')) := by
  refine gMet_of pl_J9_floorDiv_7cf53 hG (Nat.le_of_ble_eq_true rfl) (fun X hX hE => ?_)
  refine bk_J9_floorDiv_7cf53_0 hX hE s p0 x0 x1  ?_
  have hd := @Int.tdiv_eq_ediv x0 x1
  have hs : Int.sign x1 = 1 := Int.sign_eq_one_of_pos p3
  have hx := gxor_sign p1 p2
  refine ⟨p1, p2, p3, fun h => ⟨?_, rfl⟩, fun h => ?_⟩
  · rw [hd, if_pos (Or.inl (by omega))]
    omega
  · have hneg : x0 < 0 := by omega
    have hb := Int.tmod_def x0 x1
    have hr : -x1 < x0.tmod x1 := Int.lt_tmod_of_pos x0 p3
    have hr2 : x0.tmod x1 ≤ 0 := by
      have := Int.tmod_nonneg x1 (a := -x0) (by omega)
      rw [Int.neg_tmod] at this
      omega
    have hm : x0.tdiv x1 * x1 = x1 * x0.tdiv x1 := Int.mul_comm _ _
    have hg : rng (x0.tdiv x1 * x1) := by
      unfold rng at *
      omega
    refine ⟨hg, fun h' => ⟨?_, rfl⟩, fun h' => ⟨?_, rfl⟩⟩
    · rw [hd, if_pos (Or.inr ⟨x0.tdiv x1, by rw [← hm, h']⟩)]
      omega
    · rw [hd, if_neg, hs]
      · omega
      · rintro (h1 | h1)
        · omega
        · exact h' (by rw [hm]; exact Int.mul_tdiv_cancel' h1)
end
section
theorem ldc_J6_265 : Cond.constant RJ6 265 (1431655765) ∈ gAll := (gm_2 132 rfl rfl)
theorem ldc_J6_266 : Cond.constant RJ6 266 (858993459) ∈ gAll := (gm_2 133 rfl rfl)
theorem ldc_J6_267 : Cond.constant RJ6 267 (252645135) ∈ gAll := (gm_2 134 rfl rfl)
/-! ===== bits of ints ===== -/
def gv (a : Int) : BitVec 32 := (Int32.ofInt a).toBitVec
theorem gv_back (x : Int32) : gv x.toInt = x.toBitVec := by unfold gv; rw [Int32.ofInt_toInt]
theorem gv_and (a b : Int) : gv (gand a b) = gv a &&& gv b := gv_back _
theorem gv_or (a b : Int) : gv (gor a b) = gv a ||| gv b := gv_back _
theorem gv_xor (a b : Int) : gv (gxor a b) = gv a ^^^ gv b := gv_back _
theorem gv_inj {a b : Int} (ha : rng a) (hb : rng b) (h : gv a = gv b) : a = b := (gI_eq ha hb).mp (Int32.toBitVec_inj.mp h)
theorem gsm : ∀ i : Fin 32, ((Int32.ofInt (i.val : Int) &&& 31).toBitVec.smod 32) = BitVec.ofNat 32 i.val := by decide +kernel
theorem gsm' {i : Int} (h0 : 0 ≤ i) (h1 : i < 32) : ((Int32.ofInt i &&& 31).toBitVec.smod 32) = BitVec.ofNat 32 i.toNat := by
  have h := gsm ⟨i.toNat, by omega⟩
  have e : ((i.toNat : Nat) : Int) = i := by omega
  rw [← h]
  show _ = ((Int32.ofInt ((i.toNat : Nat) : Int) &&& 31).toBitVec.smod 32)
  rw [e]
theorem gv_shl {a i : Int} (h0 : 0 ≤ i) (h1 : i < 32) : gv (gshl a i) = gv a <<< i.toNat := by
  unfold gshl
  rw [gv_back, Int32.toBitVec_shiftLeft, gsm' h0 h1, BitVec.shiftLeft_eq', BitVec.toNat_ofNat, Nat.mod_eq_of_lt (by omega)]
  rfl
theorem gv_shr {a i : Int} (h0 : 0 ≤ i) (h1 : i < 32) : gv (gshr a i) = (gv a).sshiftRight i.toNat := by
  unfold gshr
  rw [gv_back, Int32.toBitVec_shiftRight, gsm' h0 h1]
  show BitVec.sshiftRight _ (BitVec.ofNat 32 i.toNat).toNat = _
  rw [BitVec.toNat_ofNat, Nat.mod_eq_of_lt (by omega)]
  rfl
def gbit (b i : Int) : Int := gand (gshr b i) 1
theorem gbit_eq {b i : Int} (h0 : 0 ≤ i) (h1 : i < 32) : gbit b i = if (gv b).getLsbD i.toNat = true then 1 else 0 := by
  have e : gv (gbit b i) = if (gv b).getLsbD i.toNat = true then 1#32 else 0#32 := by
    unfold gbit
    rw [gv_and, gv_shr h0 h1, show gv 1 = 1#32 by decide]
    apply BitVec.eq_of_getLsbD_eq
    intro j hj
    rw [BitVec.getLsbD_and, BitVec.getLsbD_one, BitVec.getLsbD_sshiftRight]
    by_cases hj0 : j = 0
    · subst hj0
      have hlt : i.toNat + 0 < 32 := by omega
      rw [if_pos hlt]
      cases hb : (gv b).getLsbD i.toNat <;> simp [hb]
    · by_cases hb : (gv b).getLsbD i.toNat = true <;> simp [hb, hj0, BitVec.getLsbD_one]
  have hr : rng (gbit b i) := rng_i _
  by_cases hb : (gv b).getLsbD i.toNat = true
  · rw [if_pos hb] at e ⊢
    exact gv_inj hr (rng_of (by decide) (by decide)) (e.trans (by decide))
  · rw [if_neg hb] at e ⊢
    exact gv_inj hr (rng_of (by decide) (by decide)) (e.trans (by decide))
theorem gbit01 {b i : Int} (h0 : 0 ≤ i) (h1 : i < 32) : gbit b i = 0 ∨ gbit b i = 1 := by
  rw [gbit_eq h0 h1]
  split
  · exact Or.inr rfl
  · exact Or.inl rfl
theorem gbit_1 {b i : Int} (h0 : 0 ≤ i) (h1 : i < 32) : gbit b i = 1 ↔ (gv b).getLsbD i.toNat = true := by
  rw [gbit_eq h0 h1]
  by_cases hb : (gv b).getLsbD i.toNat = true <;> simp [hb]
theorem gbit_0 {i : Int} (h0 : 0 ≤ i) (h1 : i < 32) : gbit 0 i = 0 := by
  rw [gbit_eq h0 h1, show gv 0 = 0#32 by decide]
  simp
theorem gv_1shl {c : Int} (h0 : 0 ≤ c) (h1 : c < 32) (j : Nat) (hj : j < 32) : (gv (gshl 1 c)).getLsbD j = decide (j = c.toNat) := by
  rw [gv_shl h0 h1, show gv 1 = 1#32 by decide, BitVec.getLsbD_shiftLeft, BitVec.getLsbD_one]
  by_cases h : j = c.toNat
  · subst h; simp; omega
  · simp [h]; omega
theorem gbit_or_shl {b c i : Int} (hc0 : 0 ≤ c) (hc1 : c < 32) (h0 : 0 ≤ i) (h1 : i < 32) : gbit (gor b (gshl 1 c)) i = if i = c then 1 else gbit b i := by
  rw [gbit_eq h0 h1, gbit_eq h0 h1, gv_or, BitVec.getLsbD_or, gv_1shl hc0 hc1 _ (by omega)]
  by_cases h : i = c
  · subst h; simp
  · have : ¬ i.toNat = c.toNat := by omega
    simp [h, this]
theorem gbit_xor_shl {b c i : Int} (hc0 : 0 ≤ c) (hc1 : c < 32) (h0 : 0 ≤ i) (h1 : i < 32) : gbit (gxor b (gshl 1 c)) i = if i = c then 1 - gbit b i else gbit b i := by
  rw [gbit_eq h0 h1, gbit_eq h0 h1, gv_xor, BitVec.getLsbD_xor, gv_1shl hc0 hc1 _ (by omega)]
  by_cases h : i = c
  · subst h
    by_cases hb : (gv b).getLsbD i.toNat = true <;> simp [hb]
  · have : ¬ i.toNat = c.toNat := by omega
    simp [h, this]
theorem gbit_not {b i : Int} (h0 : 0 ≤ i) (h1 : i < 32) : gbit (gxor b (-1)) i = 1 - gbit b i := by
  have hi : i.toNat < 32 := by omega
  rw [gbit_eq h0 h1, gbit_eq h0 h1, gv_xor, BitVec.getLsbD_xor, show gv (-1) = BitVec.allOnes 32 by decide, BitVec.getLsbD_allOnes, decide_eq_true hi]
  cases hb : (gv b).getLsbD i.toNat <;> simp
theorem gbit_and {a b i : Int} (h0 : 0 ≤ i) (h1 : i < 32) : gbit (gand a b) i = 1 ↔ (gbit a i = 1 ∧ gbit b i = 1) := by
  rw [gbit_1 h0 h1, gbit_1 h0 h1, gbit_1 h0 h1, gv_and, BitVec.getLsbD_and, Bool.and_eq_true]
theorem gbit_ext {a b : Int} (ha : rng a) (hb : rng b) (h : ∀ i : Int, 0 ≤ i → i < 32 → gbit a i = gbit b i) : a = b := by
  refine gv_inj ha hb (BitVec.eq_of_getLsbD_eq ?_)
  intro j hj
  have e := h (j : Int) (by omega) (by omega)
  have u := gbit_1 (b := a) (i := (j : Int)) (by omega) (by omega)
  have v := gbit_1 (b := b) (i := (j : Int)) (by omega) (by omega)
  have ej : ((j : Int)).toNat = j := by omega
  rw [ej] at u v
  rw [e] at u
  by_cases q : (gv a).getLsbD j = true
  · rw [q, v.mp (u.mpr q)]
  · have : ¬ (gv b).getLsbD j = true := fun z => q (u.mp (v.mpr z))
    simp only [Bool.not_eq_true] at q this
    rw [q, this]
theorem gand_0 {a b : Int} : gand a b = 0 ↔ ∀ i : Int, 0 ≤ i → i < 32 → ¬ (gbit a i = 1 ∧ gbit b i = 1) := by
  constructor
  · intro h i h0 h1 hh
    have := (gbit_and (a := a) (b := b) h0 h1).mpr hh
    rw [h, gbit_0 h0 h1] at this
    omega
  · intro h
    refine gbit_ext (rng_i _) rng_0 (fun i h0 h1 => ?_)
    rw [gbit_0 h0 h1]
    rcases gbit01 (b := gand a b) h0 h1 with e | e
    · exact e
    · exact absurd ((gbit_and h0 h1).mp e) (h i h0 h1)
/-- a number that is not negative and below 2^n has no bit from n on -/
theorem gbit_hi {b i : Int} (n : Nat) (hb0 : 0 ≤ b) (hb1 : b < (2 ^ n : Nat)) (hn : (n : Int) ≤ i) (hn2 : n < 31) (h1 : i < 32) : gbit b i = 0 := by
  rw [gbit_eq (by omega) h1, if_neg]
  have hp : (2 ^ n : Nat) ≤ 2 ^ 31 := Nat.pow_le_pow_right (by decide) (by omega)
  have e : gv b = BitVec.ofNat 32 b.toNat := by
    obtain ⟨m, rfl⟩ : ∃ m : Nat, b = (m : Int) := ⟨b.toNat, by omega⟩
    show BitVec.ofInt 32 (m : Int) = _
    rw [BitVec.ofInt_natCast]
    rfl
  rw [e, BitVec.getLsbD_ofNat]
  have : b.toNat.testBit i.toNat = false := Nat.testBit_lt_two_pow (Nat.lt_of_lt_of_le (by omega : b.toNat < 2 ^ n) (Nat.pow_le_pow_right (by decide) (by omega)))
  simp [this]
/-! ===== Integer.bitCount, ones ===== -/
def gbc1 (a : Int) : Int := a - gand (gushr a 1) 1431655765
def gbc2 (a : Int) : Int := gand a 858993459 + gand (gushr a 2) 858993459
def gbc3 (a : Int) : Int := gand (a + gushr a 4) 252645135
def gbc4 (a : Int) : Int := a + gushr a 8
def gbc5 (a : Int) : Int := a + gushr a 16
def gbits (a : Int) : Int := gand (gbc5 (gbc4 (gbc3 (gbc2 (gbc1 a))))) 63
def gones (b : Int) : Int := gsum (fun k => gbit b k) 30
set_option maxRecDepth 100000 in
set_option maxHeartbeats 4000000 in
theorem bk_J6_bitCount_0f7a4_0 {X : gX} {G : gG} (hX : gOk X G cJ6_bitCount_0f7a4 1 RJ6 (some .int) 1) {Q : Int → gS → Prop} (hE : gEnd X G (gPi (fun v s' => Q v s' ∧ gRg s'))) (s : gS) (hs : gRg s) (x0 : Int)  (h : gWL X G s 10 [(0, vi (x0 - (gand (gushr x0 1) 1431655765)))] []) : gWL X G s 0 [(0, vi x0)] [] := by
  refine g_iload_n hX dJ6_bitCount_0f7a4_0 0 rfl ?_
  refine g_iload_n hX dJ6_bitCount_0f7a4_1 0 rfl ?_
  refine g_iconst hX dJ6_bitCount_0f7a4_2 ?_
  refine g_iushr hX dJ6_bitCount_0f7a4_3 ?_
  refine g_ldcw (n := 1431655765) hX ldc_J6_265 dJ6_bitCount_0f7a4_4 rfl ?_
  refine g_iand hX dJ6_bitCount_0f7a4_7 ?_
  refine g_isub hX dJ6_bitCount_0f7a4_8 ?_
  refine g_istore_n (loc' := [(0, vi (x0 - (gand (gushr x0 1) 1431655765)))]) hX dJ6_bitCount_0f7a4_9 (by decide) rfl ?_
  exact h
set_option maxRecDepth 100000 in
set_option maxHeartbeats 4000000 in
theorem bk_J6_bitCount_0f7a4_10 {X : gX} {G : gG} (hX : gOk X G cJ6_bitCount_0f7a4 1 RJ6 (some .int) 1) {Q : Int → gS → Prop} (hE : gEnd X G (gPi (fun v s' => Q v s' ∧ gRg s'))) (s : gS) (hs : gRg s) (x0 : Int)  (h : gWL X G s 24 [(0, vi ((gand x0 858993459) + (gand (gushr x0 2) 858993459)))] []) : gWL X G s 10 [(0, vi x0)] [] := by
  refine g_iload_n hX dJ6_bitCount_0f7a4_10 0 rfl ?_
  refine g_ldcw (n := 858993459) hX ldc_J6_266 dJ6_bitCount_0f7a4_11 rfl ?_
  refine g_iand hX dJ6_bitCount_0f7a4_14 ?_
  refine g_iload_n hX dJ6_bitCount_0f7a4_15 0 rfl ?_
  refine g_iconst hX dJ6_bitCount_0f7a4_16 ?_
  refine g_iushr hX dJ6_bitCount_0f7a4_17 ?_
  refine g_ldcw (n := 858993459) hX ldc_J6_266 dJ6_bitCount_0f7a4_18 rfl ?_
  refine g_iand hX dJ6_bitCount_0f7a4_21 ?_
  refine g_iadd hX dJ6_bitCount_0f7a4_22 ?_
  refine g_istore_n (loc' := [(0, vi ((gand x0 858993459) + (gand (gushr x0 2) 858993459)))]) hX dJ6_bitCount_0f7a4_23 (by decide) rfl ?_
  exact h
set_option maxRecDepth 100000 in
set_option maxHeartbeats 4000000 in
theorem bk_J6_bitCount_0f7a4_24 {X : gX} {G : gG} (hX : gOk X G cJ6_bitCount_0f7a4 1 RJ6 (some .int) 1) {Q : Int → gS → Prop} (hE : gEnd X G (gPi (fun v s' => Q v s' ∧ gRg s'))) (s : gS) (hs : gRg s) (x0 : Int)  (h : gWL X G s 34 [(0, vi (gand (x0 + (gushr x0 4)) 252645135))] []) : gWL X G s 24 [(0, vi x0)] [] := by
  refine g_iload_n hX dJ6_bitCount_0f7a4_24 0 rfl ?_
  refine g_iload_n hX dJ6_bitCount_0f7a4_25 0 rfl ?_
  refine g_iconst hX dJ6_bitCount_0f7a4_26 ?_
  refine g_iushr hX dJ6_bitCount_0f7a4_27 ?_
  refine g_iadd hX dJ6_bitCount_0f7a4_28 ?_
  refine g_ldcw (n := 252645135) hX ldc_J6_267 dJ6_bitCount_0f7a4_29 rfl ?_
  refine g_iand hX dJ6_bitCount_0f7a4_32 ?_
  refine g_istore_n (loc' := [(0, vi (gand (x0 + (gushr x0 4)) 252645135))]) hX dJ6_bitCount_0f7a4_33 (by decide) rfl ?_
  exact h
set_option maxRecDepth 100000 in
set_option maxHeartbeats 4000000 in
theorem bk_J6_bitCount_0f7a4_34 {X : gX} {G : gG} (hX : gOk X G cJ6_bitCount_0f7a4 1 RJ6 (some .int) 1) {Q : Int → gS → Prop} (hE : gEnd X G (gPi (fun v s' => Q v s' ∧ gRg s'))) (s : gS) (hs : gRg s) (x0 : Int)  (h : gWL X G s 41 [(0, vi (x0 + (gushr x0 8)))] []) : gWL X G s 34 [(0, vi x0)] [] := by
  refine g_iload_n hX dJ6_bitCount_0f7a4_34 0 rfl ?_
  refine g_iload_n hX dJ6_bitCount_0f7a4_35 0 rfl ?_
  refine g_bipush hX dJ6_bitCount_0f7a4_36 rfl ?_
  refine g_iushr hX dJ6_bitCount_0f7a4_38 ?_
  refine g_iadd hX dJ6_bitCount_0f7a4_39 ?_
  refine g_istore_n (loc' := [(0, vi (x0 + (gushr x0 8)))]) hX dJ6_bitCount_0f7a4_40 (by decide) rfl ?_
  exact h
set_option maxRecDepth 100000 in
set_option maxHeartbeats 4000000 in
theorem bk_J6_bitCount_0f7a4_41 {X : gX} {G : gG} (hX : gOk X G cJ6_bitCount_0f7a4 1 RJ6 (some .int) 1) {Q : Int → gS → Prop} (hE : gEnd X G (gPi (fun v s' => Q v s' ∧ gRg s'))) (s : gS) (hs : gRg s) (x0 : Int)  (h : gWL X G s 48 [(0, vi (x0 + (gushr x0 16)))] []) : gWL X G s 41 [(0, vi x0)] [] := by
  refine g_iload_n hX dJ6_bitCount_0f7a4_41 0 rfl ?_
  refine g_iload_n hX dJ6_bitCount_0f7a4_42 0 rfl ?_
  refine g_bipush hX dJ6_bitCount_0f7a4_43 rfl ?_
  refine g_iushr hX dJ6_bitCount_0f7a4_45 ?_
  refine g_iadd hX dJ6_bitCount_0f7a4_46 ?_
  refine g_istore_n (loc' := [(0, vi (x0 + (gushr x0 16)))]) hX dJ6_bitCount_0f7a4_47 (by decide) rfl ?_
  exact h
set_option maxRecDepth 100000 in
set_option maxHeartbeats 4000000 in
theorem bk_J6_bitCount_0f7a4_48 {X : gX} {G : gG} (hX : gOk X G cJ6_bitCount_0f7a4 1 RJ6 (some .int) 1) {Q : Int → gS → Prop} (hE : gEnd X G (gPi (fun v s' => Q v s' ∧ gRg s'))) (s : gS) (hs : gRg s) (x0 : Int)  (h : Q (gand x0 63) s) : gWL X G s 48 [(0, vi x0)] [] := by
  refine g_iload_n hX dJ6_bitCount_0f7a4_48 0 rfl ?_
  refine g_bipush hX dJ6_bitCount_0f7a4_49 rfl ?_
  refine g_iand hX dJ6_bitCount_0f7a4_51 ?_
  exact g_iret hX hE dJ6_bitCount_0f7a4_52 ⟨h, hs⟩
set_option maxRecDepth 100000 in
set_option maxHeartbeats 4000000 in
theorem c_J6_bitCount_0f7a4 (l : Launch) {G : gG} (hG : gInj G) (s : gS) (x0 : Int) (p0 : gRg s) : gMet l G yJ6_bitCount_0f7a4 cJ6_bitCount_0f7a4 1 (some .int) 1 [vi x0] s (gPi (fun v s' => (v = (gbits x0) ∧ s' = s) ∧ gRg s')) := by
  refine gMet_of (plainFor_of_name (by decide)) hG (Nat.le_of_ble_eq_true rfl) (fun X hX hE => ?_)
  refine bk_J6_bitCount_0f7a4_0 hX hE s p0 x0  ?_
  refine bk_J6_bitCount_0f7a4_10 hX hE s p0 (gbc1 x0) ?_
  refine bk_J6_bitCount_0f7a4_24 hX hE s p0 (gbc2 (gbc1 x0)) ?_
  refine bk_J6_bitCount_0f7a4_34 hX hE s p0 (gbc3 (gbc2 (gbc1 x0))) ?_
  refine bk_J6_bitCount_0f7a4_41 hX hE s p0 (gbc4 (gbc3 (gbc2 (gbc1 x0)))) ?_
  exact bk_J6_bitCount_0f7a4_48 hX hE s p0 (gbc5 (gbc4 (gbc3 (gbc2 (gbc1 x0))))) ⟨rfl, rfl⟩
set_option maxRecDepth 100000 in
set_option maxHeartbeats 4000000 in
theorem bk_X8_ones_0 {X : gX} {G : gG} (hX : gOk X G cX8_ones 3 RX8 (some .int) 1) {Q : Int → gS → Prop} (hE : gEnd X G (gPi (fun v s' => Q v s' ∧ gRg s'))) (s : gS) (hs : gRg s) (x0 : Int)  (h : gWL X G s 4 [(0, vi x0), (1, vi 0), (2, vi 0)] []) : gWL X G s 0 [(0, vi x0)] [] := by
  refine g_iconst hX dX8_ones_0 ?_
  refine g_istore_n (loc' := [(1, vi 0), (0, vi x0)]) hX dX8_ones_1 (by decide) rfl ?_
  refine g_iconst hX dX8_ones_2 ?_
  refine g_istore_n (loc' := [(2, vi 0), (1, vi 0), (0, vi x0)]) hX dX8_ones_3 (by decide) rfl ?_
  exact g_sub [2, 1, 0] rfl h
set_option maxRecDepth 100000 in
set_option maxHeartbeats 4000000 in
theorem bk_X8_ones_4 {X : gX} {G : gG} (hX : gOk X G cX8_ones 3 RX8 (some .int) 1) {Q : Int → gS → Prop} (hE : gEnd X G (gPi (fun v s' => Q v s' ∧ gRg s'))) (s : gS) (hs : gRg s) (x0 : Int) (x1 : Int) (x2 : Int)  (h : (rng x2) ∧ ((30 ≤ x2 → Q x1 s) ∧ (x2 < 30 → gWL X G s 4 [(0, vi x0), (1, vi (x1 + (gand (gshr x0 x2) 1))), (2, vi (x2 + 1))] []))) : gWL X G s 4 [(0, vi x0), (1, vi x1), (2, vi x2)] [] := by
  refine g_iload_n hX dX8_ones_4 2 rfl ?_
  refine g_bipush hX dX8_ones_5 rfl ?_
  obtain ⟨h1, h⟩ := h
  refine g_icge (tgt := 24) hX h1 (by unfold rng; omega) dX8_ones_7 (by decide) (fun c2 => ?_) (fun c2 => ?_)
  · replace h := h.1 c2
    refine g_iload_n hX dX8_ones_24 1 rfl ?_
    exact g_iret hX hE dX8_ones_25 ⟨h, hs⟩
  · replace h := h.2 (Int.not_le.mp c2)
    refine g_iload_n hX dX8_ones_10 1 rfl ?_
    refine g_iload_n hX dX8_ones_11 0 rfl ?_
    refine g_iload_n hX dX8_ones_12 2 rfl ?_
    refine g_ishr hX dX8_ones_13 ?_
    refine g_iconst hX dX8_ones_14 ?_
    refine g_iand hX dX8_ones_15 ?_
    refine g_iadd hX dX8_ones_16 ?_
    refine g_istore_n (loc' := [(1, vi (x1 + (gand (gshr x0 x2) 1))), (0, vi x0), (2, vi x2)]) hX dX8_ones_17 (by decide) rfl ?_
    refine g_iinc (loc' := [(2, vi (x2 + 1)), (1, vi (x1 + (gand (gshr x0 x2) 1))), (0, vi x0)]) hX dX8_ones_18 2 rfl (by decide) rfl ?_
    refine g_goto (tgt := 4) hX dX8_ones_21 (by decide) ?_
    exact g_sub [2, 1, 0] rfl h
set_option maxRecDepth 100000 in
set_option maxHeartbeats 4000000 in
theorem c_X8_ones (l : Launch) {G : gG} (hG : gInj G) (s : gS) (x0 : Int) (p0 : gRg s) : gMet l G yX8_ones cX8_ones 3 (some .int) 1 [vi x0] s (gPi (fun v s' => (v = (gones x0) ∧ s' = s) ∧ gRg s')) := by
  refine gMet_of (plainFor_of_name (by decide)) hG (Nat.le_of_ble_eq_true rfl) (fun X hX hE => ?_)
  refine bk_X8_ones_0 hX hE s p0 x0  ?_
  refine gloop (α := Int) (hi := 30) (fun i n => 0 ≤ i ∧ n = gsum (fun k => gbit x0 k) i) (fun i n => gWL X G s 4 [(0, vi x0), (1, vi n), (2, vi i)] []) ?_ ?_ 0 0 (by omega) ⟨by omega, rfl⟩
  · intro i n hi ⟨h0, hn⟩ next
    exact bk_X8_ones_4 hX hE s p0 x0 n i ⟨rng_of (by omega) (by omega), fun h => by omega, fun _ => next _ ⟨by omega, by rw [gsum_s _ h0, hn]; rfl⟩⟩
  · intro n ⟨h0, hn⟩
    exact bk_X8_ones_4 hX hE s p0 x0 n 30 ⟨rng_of (by omega) (by omega), fun _ => ⟨hn, rfl⟩, fun h => by omega⟩
theorem gbits_all : ∀ a : Fin 64, ∀ b : Fin 64, gbits (64 * (a.val : Int) + (b.val : Int)) = gsum (fun k => gbit (64 * (a.val : Int) + (b.val : Int)) k) 12 := by decide +kernel
theorem gbits_12 {a : Int} (h0 : 0 ≤ a) (h1 : a < 4096) : gbits a = gsum (fun k => gbit a k) 12 := by
  have h := gbits_all ⟨a.toNat / 64, by omega⟩ ⟨a.toNat % 64, by omega⟩
  have e : 64 * (((a.toNat / 64 : Nat)) : Int) + ((a.toNat % 64 : Nat) : Int) = a := by omega
  simp only [e] at h
  exact h
end
section
theorem fl_X5_9 : gFL RX5 9 5 0 := ⟨RX5, TX5, 5, tyX5, rfl, by decide, inG_X5, (gm_1 170 rfl rfl), tyX5_ok, nmX5, fun h => absurd h (by decide)⟩
theorem fl_X5_15 : gFL RX5 15 5 1 := ⟨RX5, TX5, 5, tyX5, rfl, by decide, inG_X5, (gm_1 171 rfl rfl), tyX5_ok, nmX5, fun h => absurd h (by decide)⟩
theorem fl_X5_18 : gFL RX5 18 5 2 := ⟨RX5, TX5, 5, tyX5, rfl, by decide, inG_X5, (gm_1 172 rfl rfl), tyX5_ok, nmX5, fun h => absurd h (by decide)⟩
theorem fl_X5_21 : gFL RX5 21 5 3 := ⟨RX5, TX5, 5, tyX5, rfl, by decide, inG_X5, (gm_1 173 rfl rfl), tyX5_ok, nmX5, fun h => absurd h (by decide)⟩
theorem fl_X5_24 : gFL RX5 24 5 4 := ⟨RX5, TX5, 5, tyX5, rfl, by decide, inG_X5, (gm_1 174 rfl rfl), tyX5_ok, nmX5, fun _ => rfl⟩
theorem fl_X8_72 : gFL RX8 72 8 22 := ⟨RX8, TX8, 34, tyX8, rfl, by decide, inG_X8, (gm_3 60 rfl rfl), tyX8_ok, nmX8, fun h => absurd h (by decide)⟩
theorem fl_X8_75 : gFL RX8 75 8 23 := ⟨RX8, TX8, 34, tyX8, rfl, by decide, inG_X8, (gm_3 61 rfl rfl), tyX8_ok, nmX8, fun h => absurd h (by decide)⟩
theorem fl_X8_78 : gFL RX8 78 8 24 := ⟨RX8, TX8, 34, tyX8, rfl, by decide, inG_X8, (gm_3 62 rfl rfl), tyX8_ok, nmX8, fun h => absurd h (by decide)⟩
theorem fl_X8_81 : gFL RX8 81 8 25 := ⟨RX8, TX8, 34, tyX8, rfl, by decide, inG_X8, (gm_3 63 rfl rfl), tyX8_ok, nmX8, fun h => absurd h (by decide)⟩
theorem fl_X8_169 : gFL RX8 169 8 21 := ⟨RX8, TX8, 34, tyX8, rfl, by decide, inG_X8, (gm_3 59 rfl rfl), tyX8_ok, nmX8, fun _ => rfl⟩
theorem cv_X5_28 : gCN RX5 28 yX7_isWithin "GleePrize" cX7_isWithin 3 (some .boolean) 3 := ⟨gn_2 213 rfl rfl, (gm_2 12 rfl rfl), (gm_1 1 rfl rfl), (gm_2 13 rfl rfl), ⟨by decide, by decide, by decide +kernel⟩, by decide⟩
theorem cv_X8_172 : gCV RX8 172 yX8_singers cX8_singers 5 (some .int) 2 8 := ⟨TX8, 34, rfl, (gm_4 30 rfl rfl), (gm_4 23 rfl rfl), (gm_4 24 rfl rfl), (gm_1 9 rfl rfl), (gm_4 25 rfl rfl), ⟨by decide, by decide, by decide +kernel⟩, by decide⟩
/-! ===== spans of members ===== -/
def gsing (A : Int → Int → Int) (kw kc kf kt c d n : Int) : Int := giter (fun i b => if A kc i = c ∧ A kf i ≤ d ∧ d ≤ A kt i then gor b (gshl 1 (A kw i)) else b) 0 n
def gsingM (s : gS) (c d : Int) : Int := if (0 ≤ c ∧ c ≤ 9) ∧ (0 ≤ d ∧ d ≤ 1000) then gsing s.2 423 424 425 426 c d (s.1 400 21) else -1
def gspan (s : gS) (kw kc kf kt ko : Int) (jo : Nat) (p c f t : Int) : gS := gpI (gpA (gpA (gpA (gpA s kw (s.1 ko jo) p) kc (s.1 ko jo) c) kf (s.1 ko jo) f) kt (s.1 ko jo) t) ko jo (s.1 ko jo + 1)
theorem gsing_rng (A : Int → Int → Int) (kw kc kf kt c d n : Int) : rng (gsing A kw kc kf kt c d n) := by
  unfold gsing giter
  induction n.toNat with
  | zero => exact rng_0
  | succ m ih =>
    show rng (if _ then _ else _)
    split
    · exact rng_i _
    · exact ih
set_option maxRecDepth 100000 in
set_option maxHeartbeats 4000000 in
theorem bk_X5_addSpan_0 {X : gX} {G : gG} (hX : gOk X G cX5_addSpan 5 RX5 (some .int) 1) {Q : Int → gS → Prop} (hE : gEnd X G (gPi (fun v s' => Q v s' ∧ gRg s'))) (s : gS) (hs : gRg s) (x1 : Int) (x2 : Int) (x3 : Int) (x4 : Int)  (h : (0 ≤ (s.1 6 4) ∧ (s.1 6 4) < 60) ∧ (rng x1) ∧ (rng x2) ∧ (rng x3) ∧ (rng x4) ∧ (rng ((s.1 6 4) + 1)) ∧ Q ((s.1 6 4) + 1) (gpI (gpA (gpA (gpA (gpA s 19 (s.1 6 4) x1) 20 (s.1 6 4) x2) 21 (s.1 6 4) x3) 22 (s.1 6 4) x4) 6 4 ((s.1 6 4) + 1))) : gWL X G s 0 [(0, gR G 6), (1, vi x1), (2, vi x2), (3, vi x3), (4, vi x4)] [] := by
  refine g_aload_n hX dX5_addSpan_0 0 rfl ?_
  refine g_getR hX sh_6 0 rfl fl_X5_9 dX5_addSpan_1 ?_
  refine g_aload_n hX dX5_addSpan_4 0 rfl ?_
  refine g_getI hX sh_6 4 rfl fl_X5_24 dX5_addSpan_5 ?_
  refine g_iload_n hX dX5_addSpan_8 1 rfl ?_
  obtain ⟨h1, h⟩ := h
  obtain ⟨h2, h⟩ := h
  refine g_iast hX sh_19 h1 (by decide) dX5_addSpan_9 ?_
  refine g_aload_n hX dX5_addSpan_10 0 rfl ?_
  refine g_getR hX sh_6 1 rfl fl_X5_15 dX5_addSpan_11 ?_
  refine g_aload_n hX dX5_addSpan_14 0 rfl ?_
  refine g_getI hX sh_6 4 rfl fl_X5_24 dX5_addSpan_15 ?_
  refine g_iload_n hX dX5_addSpan_18 2 rfl ?_
  obtain ⟨h3, h⟩ := h
  refine g_iast hX sh_20 h1 (by decide) dX5_addSpan_19 ?_
  refine g_aload_n hX dX5_addSpan_20 0 rfl ?_
  refine g_getR hX sh_6 2 rfl fl_X5_18 dX5_addSpan_21 ?_
  refine g_aload_n hX dX5_addSpan_24 0 rfl ?_
  refine g_getI hX sh_6 4 rfl fl_X5_24 dX5_addSpan_25 ?_
  refine g_iload_n hX dX5_addSpan_28 3 rfl ?_
  obtain ⟨h4, h⟩ := h
  refine g_iast hX sh_21 h1 (by decide) dX5_addSpan_29 ?_
  refine g_aload_n hX dX5_addSpan_30 0 rfl ?_
  refine g_getR hX sh_6 3 rfl fl_X5_21 dX5_addSpan_31 ?_
  refine g_aload_n hX dX5_addSpan_34 0 rfl ?_
  refine g_getI hX sh_6 4 rfl fl_X5_24 dX5_addSpan_35 ?_
  refine g_iload hX dX5_addSpan_38 4 rfl ?_
  obtain ⟨h5, h⟩ := h
  refine g_iast hX sh_22 h1 (by decide) dX5_addSpan_40 ?_
  refine g_aload_n hX dX5_addSpan_41 0 rfl ?_
  refine g_dup hX rfl dX5_addSpan_42 ?_
  refine g_getI hX sh_6 4 rfl fl_X5_24 dX5_addSpan_43 ?_
  refine g_iconst hX dX5_addSpan_46 ?_
  refine g_iadd hX dX5_addSpan_47 ?_
  obtain ⟨h6, h⟩ := h
  refine g_putI hX sh_6 4 rfl fl_X5_24 (fun _ _ _ e => by cases e; rfl) dX5_addSpan_48 ?_
  refine g_aload_n hX dX5_addSpan_51 0 rfl ?_
  refine g_getI hX sh_6 4 rfl fl_X5_24 dX5_addSpan_52 ?_
  refine g_top gpI_eq ?_
  exact g_iret hX hE dX5_addSpan_55 ⟨h, (gRg_I (gRg_A (gRg_A (gRg_A (gRg_A hs h2) h3) h4) h5) h6)⟩
set_option maxRecDepth 100000 in
set_option maxHeartbeats 4000000 in
theorem c_X5_addSpan (l : Launch) {G : gG} (hG : gInj G) (s : gS) (x1 : Int) (x2 : Int) (x3 : Int) (x4 : Int) (p0 : gRg s) (p1 : rng x1) (p2 : rng x2) (p3 : rng x3) (p4 : rng x4) (p5 : 0 ≤ (s.1 6 4) ∧ (s.1 6 4) < 60) : gMet l G yX5_addSpan cX5_addSpan 5 (some .int) 1 [gR G 6, vi x1, vi x2, vi x3, vi x4] s (gPi (fun v s' => (v = (s.1 6 4) + 1 ∧ s' = gspan s 19 20 21 22 6 4 x1 x2 x3 x4) ∧ gRg s')) := by
  refine gMet_of (plainFor_of_name (by decide)) hG (Nat.le_of_ble_eq_true rfl) (fun X hX hE => ?_)
  refine bk_X5_addSpan_0 hX hE s p0 x1 x2 x3 x4  ?_
  exact ⟨p5, p1, p2, p3, p4, rng_of (by omega) (by omega), rfl, rfl⟩
set_option maxRecDepth 100000 in
set_option maxHeartbeats 4000000 in
theorem bk_X5_findSingers_0 {X : gX} {G : gG} (hX : gOk X G cX5_findSingers 5 RX5 (some .int) 2) {Q : Int → gS → Prop} (hE : gEnd X G (gPi (fun v s' => Q v s' ∧ gRg s'))) (s : gS) (hs : gRg s) (x1 : Int) (x2 : Int)  (h : gWL X G s 5 [(0, gR G 6), (1, vi x1), (2, vi x2), (3, vi 0), (4, vi 0)] []) : gWL X G s 0 [(0, gR G 6), (1, vi x1), (2, vi x2)] [] := by
  refine g_iconst hX dX5_findSingers_0 ?_
  refine g_istore_n (loc' := [(3, vi 0), (0, gR G 6), (1, vi x1), (2, vi x2)]) hX dX5_findSingers_1 (by decide) rfl ?_
  refine g_iconst hX dX5_findSingers_2 ?_
  refine g_istore (loc' := [(4, vi 0), (3, vi 0), (0, gR G 6), (1, vi x1), (2, vi x2)]) hX dX5_findSingers_3 (by decide) rfl ?_
  exact g_sub [2, 3, 4, 1, 0] rfl h
set_option maxRecDepth 100000 in
set_option maxHeartbeats 4000000 in
theorem bk_X5_findSingers_5 {X : gX} {G : gG} (hX : gOk X G cX5_findSingers 5 RX5 (some .int) 2) {Q : Int → gS → Prop} (hE : gEnd X G (gPi (fun v s' => Q v s' ∧ gRg s'))) (s : gS) (hs : gRg s) (x1 : Int) (x2 : Int) (x3 : Int) (x4 : Int)  (h : (rng x4) ∧ (((s.1 6 4) ≤ x4 → Q x3 s) ∧ (x4 < (s.1 6 4) → (0 ≤ x4 ∧ x4 < 60) ∧ (rng x1) ∧ ((¬ (s.2 20 x4) = x1 → gWL X G s 5 [(0, gR G 6), (1, vi x1), (2, vi x2), (3, vi x3), (4, vi (x4 + 1))] []) ∧ ((s.2 20 x4) = x1 → (rng x2) ∧ ((¬ ((s.2 21 x4) ≤ x2 ∧ x2 ≤ (s.2 22 x4)) → gWL X G s 5 [(0, gR G 6), (1, vi x1), (2, vi x2), (3, vi x3), (4, vi (x4 + 1))] []) ∧ ((s.2 21 x4) ≤ x2 ∧ x2 ≤ (s.2 22 x4) → gWL X G s 5 [(0, gR G 6), (1, vi x1), (2, vi x2), (3, vi (gor x3 (gshl 1 (s.2 19 x4)))), (4, vi (x4 + 1))] []))))))) : gWL X G s 5 [(0, gR G 6), (1, vi x1), (2, vi x2), (3, vi x3), (4, vi x4)] [] := by
  refine g_iload hX dX5_findSingers_5 4 rfl ?_
  refine g_aload_n hX dX5_findSingers_7 0 rfl ?_
  refine g_getI hX sh_6 4 rfl fl_X5_24 dX5_findSingers_8 ?_
  obtain ⟨h1, h⟩ := h
  refine g_icge (tgt := 64) hX h1 (hs.1 _ _) dX5_findSingers_11 (by decide) (fun c2 => ?_) (fun c2 => ?_)
  · replace h := h.1 c2
    refine g_iload_n hX dX5_findSingers_64 3 rfl ?_
    exact g_iret hX hE dX5_findSingers_65 ⟨h, hs⟩
  · replace h := h.2 (Int.not_le.mp c2)
    refine g_aload_n hX dX5_findSingers_14 0 rfl ?_
    refine g_getR hX sh_6 1 rfl fl_X5_15 dX5_findSingers_15 ?_
    refine g_iload hX dX5_findSingers_18 4 rfl ?_
    obtain ⟨h3, h⟩ := h
    refine g_iald hX sh_20 h3 (by decide) dX5_findSingers_20 ?_
    refine g_iload_n hX dX5_findSingers_21 1 rfl ?_
    obtain ⟨h4, h⟩ := h
    refine g_icne (tgt := 58) hX (hs.2 _ _) h4 dX5_findSingers_22 (by decide) (fun c5 => ?_) (fun c5 => ?_)
    · replace h := h.1 c5
      refine g_iinc (loc' := [(4, vi (x4 + 1)), (0, gR G 6), (1, vi x1), (2, vi x2), (3, vi x3)]) hX dX5_findSingers_58 4 rfl (by decide) rfl ?_
      refine g_goto (tgt := 5) hX dX5_findSingers_61 (by decide) ?_
      exact g_sub [1, 2, 3, 4, 0] rfl h
    · replace h := h.2 (gnn c5)
      refine g_iload_n hX dX5_findSingers_25 2 rfl ?_
      refine g_aload_n hX dX5_findSingers_26 0 rfl ?_
      refine g_getR hX sh_6 2 rfl fl_X5_18 dX5_findSingers_27 ?_
      refine g_iload hX dX5_findSingers_30 4 rfl ?_
      refine g_iald hX sh_21 h3 (by decide) dX5_findSingers_32 ?_
      refine g_aload_n hX dX5_findSingers_33 0 rfl ?_
      refine g_getR hX sh_6 3 rfl fl_X5_21 dX5_findSingers_34 ?_
      refine g_iload hX dX5_findSingers_37 4 rfl ?_
      refine g_iald hX sh_22 h3 (by decide) dX5_findSingers_39 ?_
      obtain ⟨h6, h⟩ := h
      refine g_cSNf (As := [vi x2, vi (s.2 21 x4), vi (s.2 22 x4)]) hX (fun l => c_X7_isWithin l hX.inj s x2 (s.2 21 x4) (s.2 22 x4) hs h6 (hs.2 _ _) (hs.2 _ _)) cv_X5_28 (by decide) rfl (Nat.le_of_ble_eq_true rfl) dX5_findSingers_40 rfl (fun g7 => ?_)
      refine g_ifeq (tgt := 58) hX (gb_rng _) dX5_findSingers_43 (by decide) (fun c8 => ?_) (fun c8 => ?_)
      · replace h := h.1 (gb_eq0.mp c8)
        refine g_iinc (loc' := [(4, vi (x4 + 1)), (0, gR G 6), (1, vi x1), (2, vi x2), (3, vi x3)]) hX dX5_findSingers_58 4 rfl (by decide) rfl ?_
        refine g_goto (tgt := 5) hX dX5_findSingers_61 (by decide) ?_
        exact g_sub [1, 2, 3, 4, 0] rfl h
      · replace h := h.2 (gb_n0.mp c8)
        refine g_iload_n hX dX5_findSingers_46 3 rfl ?_
        refine g_iconst hX dX5_findSingers_47 ?_
        refine g_aload_n hX dX5_findSingers_48 0 rfl ?_
        refine g_getR hX sh_6 0 rfl fl_X5_9 dX5_findSingers_49 ?_
        refine g_iload hX dX5_findSingers_52 4 rfl ?_
        refine g_iald hX sh_19 h3 (by decide) dX5_findSingers_54 ?_
        refine g_ishl hX dX5_findSingers_55 ?_
        refine g_ior hX dX5_findSingers_56 ?_
        refine g_istore_n (loc' := [(3, vi (gor x3 (gshl 1 (s.2 19 x4)))), (0, gR G 6), (1, vi x1), (2, vi x2), (4, vi x4)]) hX dX5_findSingers_57 (by decide) rfl ?_
        refine g_iinc (loc' := [(4, vi (x4 + 1)), (3, vi (gor x3 (gshl 1 (s.2 19 x4)))), (0, gR G 6), (1, vi x1), (2, vi x2)]) hX dX5_findSingers_58 4 rfl (by decide) rfl ?_
        refine g_goto (tgt := 5) hX dX5_findSingers_61 (by decide) ?_
        exact g_sub [2, 3, 4, 1, 0] rfl h
set_option maxRecDepth 100000 in
set_option maxHeartbeats 4000000 in
theorem c_X5_findSingers (l : Launch) {G : gG} (hG : gInj G) (s : gS) (x1 : Int) (x2 : Int) (p0 : gRg s) (p1 : rng x1) (p2 : rng x2) (p3 : 0 ≤ (s.1 6 4) ∧ (s.1 6 4) ≤ 60) : gMet l G yX5_findSingers cX5_findSingers 5 (some .int) 2 [gR G 6, vi x1, vi x2] s (gPi (fun v s' => (v = (gsing s.2 19 20 21 22 x1 x2 (s.1 6 4)) ∧ s' = s) ∧ gRg s')) := by
  refine gMet_of (plainFor_of_name (by decide)) hG (Nat.le_of_ble_eq_true rfl) (fun X hX hE => ?_)
  refine bk_X5_findSingers_0 hX hE s p0 x1 x2  ?_
  refine gloop (α := Int) (hi := s.1 6 4) (fun i b => 0 ≤ i ∧ b = gsing s.2 19 20 21 22 x1 x2 i) (fun i b => gWL X G s 5 [(0, gR G 6), (1, vi x1), (2, vi x2), (3, vi b), (4, vi i)] []) ?_ ?_ 0 0 p3.1 ⟨by omega, rfl⟩
  · intro i b hi ⟨h0, hb⟩ next
    have hstep : gsing s.2 19 20 21 22 x1 x2 (i + 1) = if s.2 20 i = x1 ∧ s.2 21 i ≤ x2 ∧ x2 ≤ s.2 22 i then gor b (gshl 1 (s.2 19 i)) else b := by
      unfold gsing; rw [giter_s _ _ h0, hb]; rfl
    refine bk_X5_findSingers_5 hX hE s p0 x1 x2 b i ⟨rng_of (by omega) (by omega), fun h => by omega, fun _ => ⟨by omega, p1, fun h => next _ ⟨by omega, ?_⟩, fun h => ⟨p2, fun h2 => next _ ⟨by omega, ?_⟩, fun h2 => next _ ⟨by omega, ?_⟩⟩⟩⟩
    · rw [hstep, if_neg (fun z => h z.1)]
    · rw [hstep, if_neg (fun z => h2 z.2)]
    · rw [hstep, if_pos ⟨h, h2⟩]
  · intro b ⟨h0, hb⟩
    exact bk_X5_findSingers_5 hX hE s p0 x1 x2 b _ ⟨rng_of (by omega) (by omega), fun _ => ⟨hb, rfl⟩, fun h => by omega⟩
set_option maxRecDepth 100000 in
set_option maxHeartbeats 4000000 in
theorem bk_X8_member_0 {X : gX} {G : gG} (hX : gOk X G cX8_member 5 RX8 (some .int) 2) {Q : Int → gS → Prop} (hE : gEnd X G (gPi (fun v s' => Q v s' ∧ gRg s'))) (s : gS) (hs : gRg s) (x1 : Int) (x2 : Int) (x3 : Int) (x4 : Int)  (h : (rng x1) ∧ ((¬ (0 ≤ x1 ∧ x1 ≤ 29) → Q (-1) s) ∧ (0 ≤ x1 ∧ x1 ≤ 29 → (rng x2) ∧ ((¬ (0 ≤ x2 ∧ x2 ≤ 9) → Q (-1) s) ∧ (0 ≤ x2 ∧ x2 ≤ 9 → (rng x3) ∧ ((¬ (0 ≤ x3 ∧ x3 ≤ 1000) → Q (-1) s) ∧ (0 ≤ x3 ∧ x3 ≤ 1000 → (rng x4) ∧ ((¬ (x3 ≤ x4 ∧ x4 ≤ 1000) → Q (-1) s) ∧ (x3 ≤ x4 ∧ x4 ≤ 1000 → ((¬ (s.1 400 21) = 60 → (0 ≤ (s.1 400 21) ∧ (s.1 400 21) < 60) ∧ (rng ((s.1 400 21) + 1)) ∧ Q ((s.1 400 21) + 1) (gpI (gpA (gpA (gpA (gpA s 423 (s.1 400 21) x1) 424 (s.1 400 21) x2) 425 (s.1 400 21) x3) 426 (s.1 400 21) x4) 400 21 ((s.1 400 21) + 1))) ∧ ((s.1 400 21) = 60 → Q (-1) s))))))))))) : gWL X G s 0 [(0, gR G 400), (1, vi x1), (2, vi x2), (3, vi x3), (4, vi x4)] [] := by
  refine g_iload_n hX dX8_member_0 1 rfl ?_
  refine g_iconst hX dX8_member_1 ?_
  refine g_bipush hX dX8_member_2 rfl ?_
  obtain ⟨h1, h⟩ := h
  refine g_cSf (As := [vi x1, vi 0, vi 29]) hX (fun l => c_X8_isIn l hX.inj s x1 0 29 hs h1 (by unfold rng; omega) (by unfold rng; omega)) cv_X8_102 (by decide) rfl (Nat.le_of_ble_eq_true rfl) dX8_member_4 rfl (fun g2 => ?_)
  refine g_ifeq (tgt := 52) hX (gb_rng _) dX8_member_7 (by decide) (fun c3 => ?_) (fun c3 => ?_)
  · replace h := h.1 (gb_eq0.mp c3)
    refine g_iconst hX dX8_member_52 ?_
    exact g_iret hX hE dX8_member_53 ⟨h, hs⟩
  · replace h := h.2 (gb_n0.mp c3)
    refine g_iload_n hX dX8_member_10 2 rfl ?_
    refine g_iconst hX dX8_member_11 ?_
    refine g_bipush hX dX8_member_12 rfl ?_
    obtain ⟨h4, h⟩ := h
    refine g_cSf (As := [vi x2, vi 0, vi 9]) hX (fun l => c_X8_isIn l hX.inj s x2 0 9 hs h4 (by unfold rng; omega) (by unfold rng; omega)) cv_X8_102 (by decide) rfl (Nat.le_of_ble_eq_true rfl) dX8_member_14 rfl (fun g5 => ?_)
    refine g_ifeq (tgt := 52) hX (gb_rng _) dX8_member_17 (by decide) (fun c6 => ?_) (fun c6 => ?_)
    · replace h := h.1 (gb_eq0.mp c6)
      refine g_iconst hX dX8_member_52 ?_
      exact g_iret hX hE dX8_member_53 ⟨h, hs⟩
    · replace h := h.2 (gb_n0.mp c6)
      refine g_iload_n hX dX8_member_20 3 rfl ?_
      refine g_iconst hX dX8_member_21 ?_
      refine g_sipush hX dX8_member_22 rfl ?_
      obtain ⟨h7, h⟩ := h
      refine g_cSf (As := [vi x3, vi 0, vi 1000]) hX (fun l => c_X8_isIn l hX.inj s x3 0 1000 hs h7 (by unfold rng; omega) (by unfold rng; omega)) cv_X8_102 (by decide) rfl (Nat.le_of_ble_eq_true rfl) dX8_member_25 rfl (fun g8 => ?_)
      refine g_ifeq (tgt := 52) hX (gb_rng _) dX8_member_28 (by decide) (fun c9 => ?_) (fun c9 => ?_)
      · replace h := h.1 (gb_eq0.mp c9)
        refine g_iconst hX dX8_member_52 ?_
        exact g_iret hX hE dX8_member_53 ⟨h, hs⟩
      · replace h := h.2 (gb_n0.mp c9)
        refine g_iload hX dX8_member_31 4 rfl ?_
        refine g_iload_n hX dX8_member_33 3 rfl ?_
        refine g_sipush hX dX8_member_34 rfl ?_
        obtain ⟨h10, h⟩ := h
        refine g_cSf (As := [vi x4, vi x3, vi 1000]) hX (fun l => c_X8_isIn l hX.inj s x4 x3 1000 hs h10 h7 (by unfold rng; omega)) cv_X8_102 (by decide) rfl (Nat.le_of_ble_eq_true rfl) dX8_member_37 rfl (fun g11 => ?_)
        refine g_ifeq (tgt := 52) hX (gb_rng _) dX8_member_40 (by decide) (fun c12 => ?_) (fun c12 => ?_)
        · replace h := h.1 (gb_eq0.mp c12)
          refine g_iconst hX dX8_member_52 ?_
          exact g_iret hX hE dX8_member_53 ⟨h, hs⟩
        · replace h := h.2 (gb_n0.mp c12)
          refine g_aload_n hX dX8_member_43 0 rfl ?_
          refine g_getI hX sh_400 21 rfl fl_X8_169 dX8_member_44 ?_
          refine g_bipush hX dX8_member_47 rfl ?_
          refine g_icne (tgt := 54) hX (hs.1 _ _) (by unfold rng; omega) dX8_member_49 (by decide) (fun c13 => ?_) (fun c13 => ?_)
          · replace h := h.1 c13
            refine g_aload_n hX dX8_member_54 0 rfl ?_
            refine g_getR hX sh_400 22 rfl fl_X8_72 dX8_member_55 ?_
            refine g_aload_n hX dX8_member_58 0 rfl ?_
            refine g_getI hX sh_400 21 rfl fl_X8_169 dX8_member_59 ?_
            refine g_iload_n hX dX8_member_62 1 rfl ?_
            obtain ⟨h14, h⟩ := h
            refine g_iast hX sh_423 h14 (by decide) dX8_member_63 ?_
            refine g_aload_n hX dX8_member_64 0 rfl ?_
            refine g_getR hX sh_400 23 rfl fl_X8_75 dX8_member_65 ?_
            refine g_aload_n hX dX8_member_68 0 rfl ?_
            refine g_getI hX sh_400 21 rfl fl_X8_169 dX8_member_69 ?_
            refine g_iload_n hX dX8_member_72 2 rfl ?_
            refine g_iast hX sh_424 h14 (by decide) dX8_member_73 ?_
            refine g_aload_n hX dX8_member_74 0 rfl ?_
            refine g_getR hX sh_400 24 rfl fl_X8_78 dX8_member_75 ?_
            refine g_aload_n hX dX8_member_78 0 rfl ?_
            refine g_getI hX sh_400 21 rfl fl_X8_169 dX8_member_79 ?_
            refine g_iload_n hX dX8_member_82 3 rfl ?_
            refine g_iast hX sh_425 h14 (by decide) dX8_member_83 ?_
            refine g_aload_n hX dX8_member_84 0 rfl ?_
            refine g_getR hX sh_400 25 rfl fl_X8_81 dX8_member_85 ?_
            refine g_aload_n hX dX8_member_88 0 rfl ?_
            refine g_getI hX sh_400 21 rfl fl_X8_169 dX8_member_89 ?_
            refine g_iload hX dX8_member_92 4 rfl ?_
            refine g_iast hX sh_426 h14 (by decide) dX8_member_94 ?_
            refine g_aload_n hX dX8_member_95 0 rfl ?_
            refine g_dup hX rfl dX8_member_96 ?_
            refine g_getI hX sh_400 21 rfl fl_X8_169 dX8_member_97 ?_
            refine g_iconst hX dX8_member_100 ?_
            refine g_iadd hX dX8_member_101 ?_
            obtain ⟨h15, h⟩ := h
            refine g_putI hX sh_400 21 rfl fl_X8_169 (fun _ _ _ e => by cases e; rfl) dX8_member_102 ?_
            refine g_aload_n hX dX8_member_105 0 rfl ?_
            refine g_getI hX sh_400 21 rfl fl_X8_169 dX8_member_106 ?_
            refine g_top gpI_eq ?_
            exact g_iret hX hE dX8_member_109 ⟨h, (gRg_I (gRg_A (gRg_A (gRg_A (gRg_A hs h1) h4) h7) h10) h15)⟩
          · replace h := h.2 (gnn c13)
            refine g_iconst hX dX8_member_52 ?_
            exact g_iret hX hE dX8_member_53 ⟨h, hs⟩
set_option maxRecDepth 100000 in
set_option maxHeartbeats 4000000 in
theorem c_X8_member (l : Launch) {G : gG} (hG : gInj G) (s : gS) (x1 : Int) (x2 : Int) (x3 : Int) (x4 : Int) (p0 : gRg s) (p1 : rng x1) (p2 : rng x2) (p3 : rng x3) (p4 : rng x4) (p5 : 0 ≤ (s.1 400 21) ∧ (s.1 400 21) ≤ 60) : gMet l G yX8_member cX8_member 5 (some .int) 2 [gR G 400, vi x1, vi x2, vi x3, vi x4] s (gPi (fun v s' => (if (0 ≤ x1 ∧ x1 ≤ 29) ∧ (0 ≤ x2 ∧ x2 ≤ 9) ∧ (0 ≤ x3 ∧ x3 ≤ 1000) ∧ (x3 ≤ x4 ∧ x4 ≤ 1000) ∧ (s.1 400 21) < 60 then v = (s.1 400 21) + 1 ∧ s' = gspan s 423 424 425 426 400 21 x1 x2 x3 x4 else v = -1 ∧ s' = s) ∧ gRg s')) := by
  refine gMet_of (plainFor_of_name (by decide)) hG (Nat.le_of_ble_eq_true rfl) (fun X hX hE => ?_)
  refine bk_X8_member_0 hX hE s p0 x1 x2 x3 x4  ?_
  refine ⟨p1, fun a1 => ?_, fun a1 => ⟨p2, fun a2 => ?_, fun a2 => ⟨p3, fun a3 => ?_, fun a3 => ⟨p4, fun a4 => ?_, fun a4 => ⟨fun a5 => ⟨by omega, rng_of (by omega) (by omega), ?_⟩, fun a5 => ?_⟩⟩⟩⟩⟩
  any_goals (rw [if_neg (by omega)]; exact ⟨rfl, rfl⟩)
  rw [if_pos (by omega)]
  exact ⟨rfl, rfl⟩
set_option maxRecDepth 100000 in
set_option maxHeartbeats 4000000 in
theorem bk_X8_singers_0 {X : gX} {G : gG} (hX : gOk X G cX8_singers 5 RX8 (some .int) 2) {Q : Int → gS → Prop} (hE : gEnd X G (gPi (fun v s' => Q v s' ∧ gRg s'))) (s : gS) (hs : gRg s) (x1 : Int) (x2 : Int)  (h : (rng x1) ∧ ((¬ (0 ≤ x1 ∧ x1 ≤ 9) → Q (-1) s) ∧ (0 ≤ x1 ∧ x1 ≤ 9 → (rng x2) ∧ ((0 ≤ x2 ∧ x2 ≤ 1000 → gWL X G s 28 [(0, gR G 400), (1, vi x1), (2, vi x2), (3, vi 0), (4, vi 0)] []) ∧ (¬ (0 ≤ x2 ∧ x2 ≤ 1000) → Q (-1) s))))) : gWL X G s 0 [(0, gR G 400), (1, vi x1), (2, vi x2)] [] := by
  refine g_iload_n hX dX8_singers_0 1 rfl ?_
  refine g_iconst hX dX8_singers_1 ?_
  refine g_bipush hX dX8_singers_2 rfl ?_
  obtain ⟨h1, h⟩ := h
  refine g_cSf (As := [vi x1, vi 0, vi 9]) hX (fun l => c_X8_isIn l hX.inj s x1 0 9 hs h1 (by unfold rng; omega) (by unfold rng; omega)) cv_X8_102 (by decide) rfl (Nat.le_of_ble_eq_true rfl) dX8_singers_4 rfl (fun g2 => ?_)
  refine g_ifeq (tgt := 21) hX (gb_rng _) dX8_singers_7 (by decide) (fun c3 => ?_) (fun c3 => ?_)
  · replace h := h.1 (gb_eq0.mp c3)
    refine g_iconst hX dX8_singers_21 ?_
    exact g_iret hX hE dX8_singers_22 ⟨h, hs⟩
  · replace h := h.2 (gb_n0.mp c3)
    refine g_iload_n hX dX8_singers_10 2 rfl ?_
    refine g_iconst hX dX8_singers_11 ?_
    refine g_sipush hX dX8_singers_12 rfl ?_
    obtain ⟨h4, h⟩ := h
    refine g_cSf (As := [vi x2, vi 0, vi 1000]) hX (fun l => c_X8_isIn l hX.inj s x2 0 1000 hs h4 (by unfold rng; omega) (by unfold rng; omega)) cv_X8_102 (by decide) rfl (Nat.le_of_ble_eq_true rfl) dX8_singers_15 rfl (fun g5 => ?_)
    refine g_ifne (tgt := 23) hX (gb_rng _) dX8_singers_18 (by decide) (fun c6 => ?_) (fun c6 => ?_)
    · replace h := h.1 (gb_n0.mp c6)
      refine g_iconst hX dX8_singers_23 ?_
      refine g_istore_n (loc' := [(3, vi 0), (0, gR G 400), (1, vi x1), (2, vi x2)]) hX dX8_singers_24 (by decide) rfl ?_
      refine g_iconst hX dX8_singers_25 ?_
      refine g_istore (loc' := [(4, vi 0), (3, vi 0), (0, gR G 400), (1, vi x1), (2, vi x2)]) hX dX8_singers_26 (by decide) rfl ?_
      exact g_sub [2, 3, 4, 1, 0] rfl h
    · replace h := h.2 (gb_eq0.mp (gnn c6))
      refine g_iconst hX dX8_singers_21 ?_
      exact g_iret hX hE dX8_singers_22 ⟨h, hs⟩
set_option maxRecDepth 100000 in
set_option maxHeartbeats 4000000 in
theorem bk_X8_singers_28 {X : gX} {G : gG} (hX : gOk X G cX8_singers 5 RX8 (some .int) 2) {Q : Int → gS → Prop} (hE : gEnd X G (gPi (fun v s' => Q v s' ∧ gRg s'))) (s : gS) (hs : gRg s) (x1 : Int) (x2 : Int) (x3 : Int) (x4 : Int)  (h : (rng x4) ∧ (((s.1 400 21) ≤ x4 → Q x3 s) ∧ (x4 < (s.1 400 21) → (0 ≤ x4 ∧ x4 < 60) ∧ (rng x1) ∧ ((¬ (s.2 424 x4) = x1 → gWL X G s 28 [(0, gR G 400), (1, vi x1), (2, vi x2), (3, vi x3), (4, vi (x4 + 1))] []) ∧ ((s.2 424 x4) = x1 → (rng x2) ∧ ((x2 < (s.2 425 x4) → gWL X G s 28 [(0, gR G 400), (1, vi x1), (2, vi x2), (3, vi x3), (4, vi (x4 + 1))] []) ∧ ((s.2 425 x4) ≤ x2 → (((s.2 426 x4) < x2 → gWL X G s 28 [(0, gR G 400), (1, vi x1), (2, vi x2), (3, vi x3), (4, vi (x4 + 1))] []) ∧ (x2 ≤ (s.2 426 x4) → gWL X G s 28 [(0, gR G 400), (1, vi x1), (2, vi x2), (3, vi (gor x3 (gshl 1 (s.2 423 x4)))), (4, vi (x4 + 1))] []))))))))) : gWL X G s 28 [(0, gR G 400), (1, vi x1), (2, vi x2), (3, vi x3), (4, vi x4)] [] := by
  refine g_iload hX dX8_singers_28 4 rfl ?_
  refine g_aload_n hX dX8_singers_30 0 rfl ?_
  refine g_getI hX sh_400 21 rfl fl_X8_169 dX8_singers_31 ?_
  obtain ⟨h1, h⟩ := h
  refine g_icge (tgt := 88) hX h1 (hs.1 _ _) dX8_singers_34 (by decide) (fun c2 => ?_) (fun c2 => ?_)
  · replace h := h.1 c2
    refine g_iload_n hX dX8_singers_88 3 rfl ?_
    exact g_iret hX hE dX8_singers_89 ⟨h, hs⟩
  · replace h := h.2 (Int.not_le.mp c2)
    refine g_aload_n hX dX8_singers_37 0 rfl ?_
    refine g_getR hX sh_400 23 rfl fl_X8_75 dX8_singers_38 ?_
    refine g_iload hX dX8_singers_41 4 rfl ?_
    obtain ⟨h3, h⟩ := h
    refine g_iald hX sh_424 h3 (by decide) dX8_singers_43 ?_
    refine g_iload_n hX dX8_singers_44 1 rfl ?_
    obtain ⟨h4, h⟩ := h
    refine g_icne (tgt := 82) hX (hs.2 _ _) h4 dX8_singers_45 (by decide) (fun c5 => ?_) (fun c5 => ?_)
    · replace h := h.1 c5
      refine g_iinc (loc' := [(4, vi (x4 + 1)), (0, gR G 400), (1, vi x1), (2, vi x2), (3, vi x3)]) hX dX8_singers_82 4 rfl (by decide) rfl ?_
      refine g_goto (tgt := 28) hX dX8_singers_85 (by decide) ?_
      exact g_sub [1, 2, 3, 4, 0] rfl h
    · replace h := h.2 (gnn c5)
      refine g_aload_n hX dX8_singers_48 0 rfl ?_
      refine g_getR hX sh_400 24 rfl fl_X8_78 dX8_singers_49 ?_
      refine g_iload hX dX8_singers_52 4 rfl ?_
      refine g_iald hX sh_425 h3 (by decide) dX8_singers_54 ?_
      refine g_iload_n hX dX8_singers_55 2 rfl ?_
      obtain ⟨h6, h⟩ := h
      refine g_icgt (tgt := 82) hX (hs.2 _ _) h6 dX8_singers_56 (by decide) (fun c7 => ?_) (fun c7 => ?_)
      · replace h := h.1 c7
        refine g_iinc (loc' := [(4, vi (x4 + 1)), (0, gR G 400), (1, vi x1), (2, vi x2), (3, vi x3)]) hX dX8_singers_82 4 rfl (by decide) rfl ?_
        refine g_goto (tgt := 28) hX dX8_singers_85 (by decide) ?_
        exact g_sub [1, 2, 3, 4, 0] rfl h
      · replace h := h.2 (Int.not_lt.mp c7)
        refine g_aload_n hX dX8_singers_59 0 rfl ?_
        refine g_getR hX sh_400 25 rfl fl_X8_81 dX8_singers_60 ?_
        refine g_iload hX dX8_singers_63 4 rfl ?_
        refine g_iald hX sh_426 h3 (by decide) dX8_singers_65 ?_
        refine g_iload_n hX dX8_singers_66 2 rfl ?_
        refine g_iclt (tgt := 82) hX (hs.2 _ _) h6 dX8_singers_67 (by decide) (fun c8 => ?_) (fun c8 => ?_)
        · replace h := h.1 c8
          refine g_iinc (loc' := [(4, vi (x4 + 1)), (0, gR G 400), (1, vi x1), (2, vi x2), (3, vi x3)]) hX dX8_singers_82 4 rfl (by decide) rfl ?_
          refine g_goto (tgt := 28) hX dX8_singers_85 (by decide) ?_
          exact g_sub [1, 2, 3, 4, 0] rfl h
        · replace h := h.2 (Int.not_lt.mp c8)
          refine g_iload_n hX dX8_singers_70 3 rfl ?_
          refine g_iconst hX dX8_singers_71 ?_
          refine g_aload_n hX dX8_singers_72 0 rfl ?_
          refine g_getR hX sh_400 22 rfl fl_X8_72 dX8_singers_73 ?_
          refine g_iload hX dX8_singers_76 4 rfl ?_
          refine g_iald hX sh_423 h3 (by decide) dX8_singers_78 ?_
          refine g_ishl hX dX8_singers_79 ?_
          refine g_ior hX dX8_singers_80 ?_
          refine g_istore_n (loc' := [(3, vi (gor x3 (gshl 1 (s.2 423 x4)))), (0, gR G 400), (1, vi x1), (2, vi x2), (4, vi x4)]) hX dX8_singers_81 (by decide) rfl ?_
          refine g_iinc (loc' := [(4, vi (x4 + 1)), (3, vi (gor x3 (gshl 1 (s.2 423 x4)))), (0, gR G 400), (1, vi x1), (2, vi x2)]) hX dX8_singers_82 4 rfl (by decide) rfl ?_
          refine g_goto (tgt := 28) hX dX8_singers_85 (by decide) ?_
          exact g_sub [2, 3, 4, 1, 0] rfl h
set_option maxRecDepth 100000 in
set_option maxHeartbeats 4000000 in
theorem c_X8_singers (l : Launch) {G : gG} (hG : gInj G) (s : gS) (x1 : Int) (x2 : Int) (p0 : gRg s) (p1 : rng x1) (p2 : rng x2) (p3 : 0 ≤ (s.1 400 21) ∧ (s.1 400 21) ≤ 60) : gMet l G yX8_singers cX8_singers 5 (some .int) 2 [gR G 400, vi x1, vi x2] s (gPi (fun v s' => (v = (gsingM s x1 x2) ∧ s' = s) ∧ gRg s')) := by
  refine gMet_of (plainFor_of_name (by decide)) hG (Nat.le_of_ble_eq_true rfl) (fun X hX hE => ?_)
  refine bk_X8_singers_0 hX hE s p0 x1 x2  ?_
  refine ⟨p1, fun a1 => ⟨by unfold gsingM; rw [if_neg (by omega)], rfl⟩, fun a1 => ⟨p2, fun a2 => ?_, fun a2 => ⟨by unfold gsingM; rw [if_neg (by omega)], rfl⟩⟩⟩
  have hM : gsingM s x1 x2 = gsing s.2 423 424 425 426 x1 x2 (s.1 400 21) := if_pos ⟨a1, a2⟩
  refine gloop (α := Int) (hi := s.1 400 21) (fun i b => 0 ≤ i ∧ b = gsing s.2 423 424 425 426 x1 x2 i) (fun i b => gWL X G s 28 [(0, gR G 400), (1, vi x1), (2, vi x2), (3, vi b), (4, vi i)] []) ?_ ?_ 0 0 p3.1 ⟨by omega, rfl⟩
  · intro i b hi ⟨h0, hb⟩ next
    have hstep : gsing s.2 423 424 425 426 x1 x2 (i + 1) = if s.2 424 i = x1 ∧ s.2 425 i ≤ x2 ∧ x2 ≤ s.2 426 i then gor b (gshl 1 (s.2 423 i)) else b := by
      unfold gsing; rw [giter_s _ _ h0, hb]; rfl
    refine bk_X8_singers_28 hX hE s p0 x1 x2 b i ⟨rng_of (by omega) (by omega), fun h => by omega, fun _ => ⟨by omega, p1, fun h => next _ ⟨by omega, ?_⟩, fun h => ⟨p2, fun h2 => next _ ⟨by omega, ?_⟩, fun h2 => ⟨fun h3 => next _ ⟨by omega, ?_⟩, fun h3 => next _ ⟨by omega, ?_⟩⟩⟩⟩⟩
    · rw [hstep, if_neg (by omega)]
    · rw [hstep, if_neg (by omega)]
    · rw [hstep, if_neg (by omega)]
    · rw [hstep, if_pos (by omega)]
  · intro b ⟨h0, hb⟩
    exact bk_X8_singers_28 hX hE s p0 x1 x2 b _ ⟨rng_of (by omega) (by omega), fun _ => ⟨hb.trans hM.symm, rfl⟩, fun h => by omega⟩
set_option maxRecDepth 100000 in
set_option maxHeartbeats 4000000 in
theorem bk_X8_may_0 {X : gX} {G : gG} (hX : gOk X G cX8_may 4 RX8 (some .int) 3) {Q : Int → gS → Prop} (hE : gEnd X G (gPi (fun v s' => Q v s' ∧ gRg s'))) (s : gS) (hs : gRg s) (x1 : Int) (x2 : Int) (x3 : Int)  (h : (rng x1) ∧ ((¬ (0 ≤ x1 ∧ x1 ≤ 29) → Q (-1) s) ∧ (0 ≤ x1 ∧ x1 ≤ 29 → (rng x2) ∧ ((¬ (0 ≤ x2 ∧ x2 ≤ 9) → Q (-1) s) ∧ (0 ≤ x2 ∧ x2 ≤ 9 → (rng x3) ∧ ((0 ≤ x3 ∧ x3 ≤ 1000 → (0 ≤ (s.1 400 21) ∧ (s.1 400 21) ≤ 60) ∧ Q (gand (gshr (gsingM s x2 x3) x1) 1) s) ∧ (¬ (0 ≤ x3 ∧ x3 ≤ 1000) → Q (-1) s))))))) : gWL X G s 0 [(0, gR G 400), (1, vi x1), (2, vi x2), (3, vi x3)] [] := by
  refine g_iload_n hX dX8_may_0 1 rfl ?_
  refine g_iconst hX dX8_may_1 ?_
  refine g_bipush hX dX8_may_2 rfl ?_
  obtain ⟨h1, h⟩ := h
  refine g_cSf (As := [vi x1, vi 0, vi 29]) hX (fun l => c_X8_isIn l hX.inj s x1 0 29 hs h1 (by unfold rng; omega) (by unfold rng; omega)) cv_X8_102 (by decide) rfl (Nat.le_of_ble_eq_true rfl) dX8_may_4 rfl (fun g2 => ?_)
  refine g_ifeq (tgt := 31) hX (gb_rng _) dX8_may_7 (by decide) (fun c3 => ?_) (fun c3 => ?_)
  · replace h := h.1 (gb_eq0.mp c3)
    refine g_iconst hX dX8_may_31 ?_
    exact g_iret hX hE dX8_may_32 ⟨h, hs⟩
  · replace h := h.2 (gb_n0.mp c3)
    refine g_iload_n hX dX8_may_10 2 rfl ?_
    refine g_iconst hX dX8_may_11 ?_
    refine g_bipush hX dX8_may_12 rfl ?_
    obtain ⟨h4, h⟩ := h
    refine g_cSf (As := [vi x2, vi 0, vi 9]) hX (fun l => c_X8_isIn l hX.inj s x2 0 9 hs h4 (by unfold rng; omega) (by unfold rng; omega)) cv_X8_102 (by decide) rfl (Nat.le_of_ble_eq_true rfl) dX8_may_14 rfl (fun g5 => ?_)
    refine g_ifeq (tgt := 31) hX (gb_rng _) dX8_may_17 (by decide) (fun c6 => ?_) (fun c6 => ?_)
    · replace h := h.1 (gb_eq0.mp c6)
      refine g_iconst hX dX8_may_31 ?_
      exact g_iret hX hE dX8_may_32 ⟨h, hs⟩
    · replace h := h.2 (gb_n0.mp c6)
      refine g_iload_n hX dX8_may_20 3 rfl ?_
      refine g_iconst hX dX8_may_21 ?_
      refine g_sipush hX dX8_may_22 rfl ?_
      obtain ⟨h7, h⟩ := h
      refine g_cSf (As := [vi x3, vi 0, vi 1000]) hX (fun l => c_X8_isIn l hX.inj s x3 0 1000 hs h7 (by unfold rng; omega) (by unfold rng; omega)) cv_X8_102 (by decide) rfl (Nat.le_of_ble_eq_true rfl) dX8_may_25 rfl (fun g8 => ?_)
      refine g_ifne (tgt := 33) hX (gb_rng _) dX8_may_28 (by decide) (fun c9 => ?_) (fun c9 => ?_)
      · replace h := h.1 (gb_n0.mp c9)
        refine g_aload_n hX dX8_may_33 0 rfl ?_
        refine g_iload_n hX dX8_may_34 2 rfl ?_
        refine g_iload_n hX dX8_may_35 3 rfl ?_
        obtain ⟨h10, h⟩ := h
        refine g_cVf (As := [vi x2, vi x3]) hX (fun l => c_X8_singers l hX.inj s x2 x3 hs h4 h7 h10) sh_400 cv_X8_172 (by decide) rfl (Nat.le_of_ble_eq_true rfl) dX8_may_36 rfl (fun g11 => ?_)
        refine g_iload_n hX dX8_may_39 1 rfl ?_
        refine g_ishr hX dX8_may_40 ?_
        refine g_iconst hX dX8_may_41 ?_
        refine g_iand hX dX8_may_42 ?_
        exact g_iret hX hE dX8_may_43 ⟨h, hs⟩
      · replace h := h.2 (gb_eq0.mp (gnn c9))
        refine g_iconst hX dX8_may_31 ?_
        exact g_iret hX hE dX8_may_32 ⟨h, hs⟩
set_option maxRecDepth 100000 in
set_option maxHeartbeats 4000000 in
theorem c_X8_may (l : Launch) {G : gG} (hG : gInj G) (s : gS) (x1 : Int) (x2 : Int) (x3 : Int) (p0 : gRg s) (p1 : rng x1) (p2 : rng x2) (p3 : rng x3) (p4 : 0 ≤ (s.1 400 21) ∧ (s.1 400 21) ≤ 60) : gMet l G yX8_may cX8_may 4 (some .int) 3 [gR G 400, vi x1, vi x2, vi x3] s (gPi (fun v s' => (v = (if (0 ≤ x1 ∧ x1 ≤ 29) ∧ (0 ≤ x2 ∧ x2 ≤ 9) ∧ (0 ≤ x3 ∧ x3 ≤ 1000) then gand (gshr (gsingM s x2 x3) x1) 1 else -1) ∧ s' = s) ∧ gRg s')) := by
  refine gMet_of (plainFor_of_name (by decide)) hG (Nat.le_of_ble_eq_true rfl) (fun X hX hE => ?_)
  refine bk_X8_may_0 hX hE s p0 x1 x2 x3  ?_
  refine ⟨p1, fun a1 => ⟨by rw [if_neg (by omega)], rfl⟩, fun a1 => ⟨p2, fun a2 => ⟨by rw [if_neg (by omega)], rfl⟩, fun a2 => ⟨p3, fun a3 => ⟨p4, by rw [if_pos (by omega)], rfl⟩, fun a3 => ⟨by rw [if_neg (by omega)], rfl⟩⟩⟩⟩
end
section
/-! ===== the places, as numbers ===== -/
def gclub (y : Int64) (i : Int) : Int := gand (gl2i (glushr y (4 * i))) 15
def gbitsOf (f : Int → Int) (n : Int) : Int := giter (fun i b => gor b (gshl 1 (f i))) 0 n
def gvalid (f : Int → Int) (n : Int) : Prop := ∀ i : Int, 0 ≤ i → i < n → f i < 10 ∧ ¬ gbit (gbitsOf f i) (f i) = 1
def granks (s : gS) (k : Int) (g : Int → Int) (n : Int) : gS := giter (fun i t => gpA t k (g i) (i + 1)) s n
theorem gbitsOf_rng (f : Int → Int) (n : Int) : rng (gbitsOf f n) := by
  unfold gbitsOf giter
  cases n.toNat with
  | zero => exact rng_0
  | succ m => exact rng_i _
theorem gand15 (a : Int) : 0 ≤ gand a 15 ∧ gand a 15 ≤ 15 := by
  have e : gand a 15 = (gv a &&& 15#32).toInt := rfl
  have h : (gv a &&& 15#32).toNat ≤ 15 := by
    rw [BitVec.toNat_and]
    exact Nat.and_le_right
  rw [e, BitVec.toInt_eq_toNat_of_lt (by omega)]
  omega
theorem gclub_bd (y : Int64) (i : Int) : 0 ≤ gclub y i ∧ gclub y i ≤ 15 := gand15 _
theorem granks_rg {s : gS} {k : Int} {g : Int → Int} {n : Int} (hs : gRg s) (h0 : 0 ≤ n) (h1 : n ≤ 10) : gRg (granks s k g n) := by
  have h := giter_ind (f := fun i t => gpA t k (g i) (i + 1)) (a := s) (N := n) (fun _ t => gRg t) hs (fun i t hi hn ht => gRg_A ht (rng_of (by omega) (by omega))) n h0 (Int.le_refl n)
  exact h
theorem gsum_bd {f : Int → Int} {n lo hi : Int} (h0 : 0 ≤ n) (h : ∀ i, 0 ≤ i → i < n → lo ≤ f i ∧ f i ≤ hi) : n * lo ≤ gsum f n ∧ gsum f n ≤ n * hi := by
  have := giter_ind (f := fun i a => a + f i) (a := (0 : Int)) (N := n) (fun i a => i * lo ≤ a ∧ a ≤ i * hi) ⟨by omega, by omega⟩ (fun i x h1 h2 hx => by
    have := h i h1 h2
    have e1 : (i + 1) * lo = i * lo + lo := by rw [Int.add_mul, Int.one_mul]
    have e2 : (i + 1) * hi = i * hi + hi := by rw [Int.add_mul, Int.one_mul]
    omega) n h0 (Int.le_refl n)
  exact this
def gJ (hj : Int → Bool) : Int := gsum (fun j => if hj j = true then 1 else 0) 9
def gC (hj : Int → Bool) (rk : Int → Int → Int) (c k : Int) : Int := gsum (fun j => if hj j = true ∧ rk j c ≤ k then 1 else 0) 9
def gT (hj : Int → Bool) (rk : Int → Int → Int) (c k : Int) : Int := gsum (fun j => if hj j = true ∧ rk j c ≤ k then rk j c else 0) 9
theorem gJ_bd (hj : Int → Bool) : 0 ≤ gJ hj ∧ gJ hj ≤ 9 := by
  have := gsum_bd (f := fun j => if hj j = true then 1 else 0) (n := 9) (lo := 0) (hi := 1) (by omega) (fun i _ _ => by split <;> omega)
  unfold gJ; omega
theorem gC_bd (hj : Int → Bool) (rk : Int → Int → Int) (c k : Int) : 0 ≤ gC hj rk c k ∧ gC hj rk c k ≤ 9 := by
  have := gsum_bd (f := fun j => if hj j = true ∧ rk j c ≤ k then 1 else 0) (n := 9) (lo := 0) (hi := 1) (by omega) (fun i _ _ => by split <;> omega)
  unfold gC; omega
theorem gT_bd {hj : Int → Bool} {rk : Int → Int → Int} {c k : Int} (h : ∀ j, 0 ≤ j → j < 9 → 0 ≤ rk j c ∧ rk j c ≤ 10) : 0 ≤ gT hj rk c k ∧ gT hj rk c k ≤ 90 := by
  have := gsum_bd (f := fun j => if hj j = true ∧ rk j c ≤ k then rk j c else 0) (n := 9) (lo := 0) (hi := 10) (by omega) (fun i h0 h1 => by have := h i h0 h1; split <;> omega)
  unfold gT; omega
def gfst (P : Int → Bool) : Int → Nat → Int
  | k, 0 => k
  | k, n + 1 => if P k = true then k else gfst P (k + 1) n
theorem gfst_s (P : Int → Bool) (k : Int) (n : Nat) : gfst P k (n + 1) = if P k = true then k else gfst P (k + 1) n := rfl
theorem gfst_bd (P : Int → Bool) : ∀ (n : Nat) (k : Int), k ≤ gfst P k n ∧ gfst P k n ≤ k + n
  | 0, k => by show k ≤ k ∧ k ≤ k + _; omega
  | n + 1, k => by
    have := gfst_bd P n (k + 1)
    show k ≤ (if P k = true then k else gfst P (k + 1) n) ∧ (if P k = true then k else gfst P (k + 1) n) ≤ _
    split <;> omega
def gH (hj : Int → Bool) (rk : Int → Int → Int) (c : Int) : Int := gfst (fun k => decide (gJ hj < 2 * gC hj rk c k)) 1 9
theorem gH_bd (hj : Int → Bool) (rk : Int → Int → Int) (c : Int) : 1 ≤ gH hj rk c ∧ gH hj rk c ≤ 10 := gfst_bd _ 9 1
def gcmp (hj : Int → Bool) (rk : Int → Int → Int) (o c : Int) : Int → Nat → Int
  | _, 0 => 0
  | k, n + 1 => if gC hj rk o k - gC hj rk c k = 0 then (if gT hj rk c k - gT hj rk o k = 0 then gcmp hj rk o c (k + 1) n else gb (0 < gT hj rk c k - gT hj rk o k)) else gb (0 < gC hj rk o k - gC hj rk c k)
theorem gcmp_s (hj : Int → Bool) (rk : Int → Int → Int) (o c k : Int) (n : Nat) : gcmp hj rk o c k (n + 1) = if gC hj rk o k - gC hj rk c k = 0 then (if gT hj rk c k - gT hj rk o k = 0 then gcmp hj rk o c (k + 1) n else gb (0 < gT hj rk c k - gT hj rk o k)) else gb (0 < gC hj rk o k - gC hj rk c k) := rfl
theorem gcmp_01 (hj : Int → Bool) (rk : Int → Int → Int) (o c : Int) : ∀ (n : Nat) (k : Int), gcmp hj rk o c k n = 0 ∨ gcmp hj rk o c k n = 1
  | 0, k => Or.inl rfl
  | n + 1, k => by
    unfold gcmp
    split
    · split
      · exact gcmp_01 hj rk o c n (k + 1)
      · exact gb_01 _
    · exact gb_01 _
def gAhead (hj : Int → Bool) (rk : Int → Int → Int) (o c h : Int) : Int := if gH hj rk o = h then gcmp hj rk o c h (11 - h).toNat else gb (gH hj rk o < h)
theorem gAhead_01 (hj : Int → Bool) (rk : Int → Int → Int) (o c h : Int) : gAhead hj rk o c h = 0 ∨ gAhead hj rk o c h = 1 := by
  unfold gAhead
  split
  · exact gcmp_01 _ _ _ _ _ _
  · exact gb_01 _
def gPlace (sg : Int) (hj : Int → Bool) (rk : Int → Int → Int) (c : Int) : Int := gsum (fun o => if ((0 ≤ o ∧ o ≤ 9) ∧ gbit sg o = 1) ∧ gAhead hj rk o c (gH hj rk c) = 1 then 1 else 0) 10 + 1
def chj (s : gS) (j : Int) : Bool := decide (¬ (s.1 5 0) = 0 ∧ (s.2 17 j) = (s.1 5 0))
def crk (s : gS) (j c : Int) : Int := s.2 (300 + j) c
def gRk (s : gS) : Prop := ∀ j c : Int, 0 ≤ j → j < 9 → 0 ≤ c → c < 10 → 0 ≤ s.2 (300 + j) c ∧ s.2 (300 + j) c ≤ 10
def gjudges (s : gS) : Int := gJ (chj s)
def gcr (s : gS) (c k : Int) : Int := gC (chj s) (crk s) c k
def gsr (s : gS) (c k : Int) : Int := gT (chj s) (crk s) c k
def ghalf (s : gS) (c : Int) : Int := gH (chj s) (crk s) c
def gahead (s : gS) (o c h : Int) : Int := gAhead (chj s) (crk s) o c h
def gplace (s : gS) (c : Int) : Int := gPlace (s.1 5 0) (chj s) (crk s) c
end
section
theorem fl_X2_9 : gFL RX2 9 2 0 := ⟨RX2, TX2, 3, tyX2, rfl, by decide, inG_X2, (gm_1 153 rfl rfl), tyX2_ok, nmX2, fun _ => rfl⟩
theorem fl_X2_15 : gFL RX2 15 2 1 := ⟨RX2, TX2, 3, tyX2, rfl, by decide, inG_X2, (gm_1 155 rfl rfl), tyX2_ok, nmX2, fun h => absurd h (by decide)⟩
theorem fl_X2_21 : gFL RX2 21 2 2 := ⟨RX2, TX2, 3, tyX2, rfl, by decide, inG_X2, (gm_1 156 rfl rfl), tyX2_ok, nmX2, fun h => absurd h (by decide)⟩
theorem cv_X2_24 : gCS RX2 24 yX2_clubAt cX2_clubAt 3 (some .int) 2 := ⟨(gm_2 143 rfl rfl), (gm_2 144 rfl rfl), (gm_1 6 rfl rfl), (gm_2 145 rfl rfl), ⟨by decide, by decide, by decide +kernel⟩, by decide⟩
theorem cv_X2_28 : gCN RX2 28 yX7_isWithin "GleePrize" cX7_isWithin 3 (some .boolean) 3 := ⟨gn_2 166 rfl rfl, (gm_2 12 rfl rfl), (gm_1 1 rfl rfl), (gm_2 13 rfl rfl), ⟨by decide, by decide, by decide +kernel⟩, by decide⟩
theorem cv_X2_32 : gCV RX2 32 yX2_isCounting cX2_isCounting 2 (some .boolean) 1 2 := ⟨TX2, 3, rfl, (gm_2 154 rfl rfl), (gm_2 156 rfl rfl), (gm_s 9 rfl rfl), (gm_1 6 rfl rfl), (gm_2 157 rfl rfl), ⟨by decide, by decide, by decide +kernel⟩, by decide⟩
theorem cv_X2_36 : gCV RX2 36 yX2_findGreaterHalf cX2_findGreaterHalf 4 (some .int) 1 2 := ⟨TX2, 3, rfl, (gm_2 171 rfl rfl), (gm_2 173 rfl rfl), (gm_s 10 rfl rfl), (gm_1 6 rfl rfl), (gm_2 174 rfl rfl), ⟨by decide, by decide, by decide +kernel⟩, by decide⟩
theorem cv_X2_40 : gCV RX2 40 yX2_isSinging cX2_isSinging 2 (some .boolean) 1 2 := ⟨TX2, 3, rfl, (gm_2 180 rfl rfl), (gm_2 163 rfl rfl), (gm_2 164 rfl rfl), (gm_1 6 rfl rfl), (gm_2 165 rfl rfl), ⟨by decide, by decide, by decide +kernel⟩, by decide⟩
theorem cv_X2_43 : gCV RX2 43 yX2_isAhead cX2_isAhead 8 (some .boolean) 3 2 := ⟨TX2, 3, rfl, (gm_2 181 rfl rfl), (gm_2 183 rfl rfl), (gm_s 11 rfl rfl), (gm_1 6 rfl rfl), (gm_2 184 rfl rfl), ⟨by decide, by decide, by decide +kernel⟩, by decide⟩
theorem cv_X2_46 : gCV RX2 46 yX2_countJudges cX2_countJudges 3 (some .int) 0 2 := ⟨TX2, 3, rfl, (gm_2 175 rfl rfl), (gm_2 151 rfl rfl), (gm_2 152 rfl rfl), (gm_1 6 rfl rfl), (gm_2 153 rfl rfl), ⟨by decide, by decide, by decide +kernel⟩, by decide⟩
theorem cv_X2_50 : gCV RX2 50 yX2_countRanks cX2_countRanks 5 (some .int) 2 2 := ⟨TX2, 3, rfl, (gm_2 176 rfl rfl), (gm_2 177 rfl rfl), (gm_2 178 rfl rfl), (gm_1 6 rfl rfl), (gm_2 179 rfl rfl), ⟨by decide, by decide, by decide +kernel⟩, by decide⟩
theorem cv_X2_54 : gCV RX2 54 yX2_sumRanks cX2_sumRanks 5 (some .int) 2 2 := ⟨TX2, 3, rfl, (gm_2 185 rfl rfl), (gm_2 187 rfl rfl), (gm_s 12 rfl rfl), (gm_1 6 rfl rfl), (gm_2 188 rfl rfl), ⟨by decide, by decide, by decide +kernel⟩, by decide⟩
set_option maxRecDepth 100000 in
set_option maxHeartbeats 4000000 in
theorem bk_X2_clubAt_0 {X : gX} {G : gG} (hX : gOk X G cX2_clubAt 3 RX2 (some .int) 1) {Q : Int → gS → Prop} (hE : gEnd X G (gPi (fun v s' => Q v s' ∧ gRg s'))) (s : gS) (hs : gRg s) (y0 : Int64) (x2 : Int)  (h : Q (gand (gl2i (glushr y0 (4 * x2))) 15) s) : gWL X G s 0 [(0, .long y0), (2, vi x2)] [] := by
  refine g_lload_n hX dX2_clubAt_0 0 rfl ?_
  refine g_iconst hX dX2_clubAt_1 ?_
  refine g_iload_n hX dX2_clubAt_2 1 rfl ?_
  refine g_imul hX dX2_clubAt_3 ?_
  refine g_lushr hX dX2_clubAt_4 ?_
  refine g_l2i hX dX2_clubAt_5 ?_
  refine g_bipush hX dX2_clubAt_6 rfl ?_
  refine g_iand hX dX2_clubAt_8 ?_
  exact g_iret hX hE dX2_clubAt_9 ⟨h, hs⟩
set_option maxRecDepth 100000 in
set_option maxHeartbeats 4000000 in
theorem c_X2_clubAt (l : Launch) {G : gG} (hG : gInj G) (s : gS) (y0 : Int64) (x2 : Int) (p0 : gRg s) : gMet l G yX2_clubAt cX2_clubAt 3 (some .int) 1 [.long y0, vi x2] s (gPi (fun v s' => (v = (gclub y0 x2) ∧ s' = s) ∧ gRg s')) := by
  refine gMet_of (plainFor_of_name (by decide)) hG (Nat.le_of_ble_eq_true rfl) (fun X hX hE => ?_)
  refine bk_X2_clubAt_0 hX hE s p0 y0 x2  ?_
  exact ⟨rfl, rfl⟩
set_option maxRecDepth 100000 in
set_option maxHeartbeats 4000000 in
theorem bk_X2_takeRow_0 {X : gX} {G : gG} (hX : gOk X G cX2_takeRow 8 RX2 (some .boolean) 2) {Q : Int → gS → Prop} (hE : gEnd X G (gPi (fun v s' => Q v s' ∧ gRg s'))) (s : gS) (hs : gRg s) (x1 : Int) (x2 : Int) (y3 : Int64)  (h : gWL X G s 6 [(0, gR G 5), (1, vi x1), (2, vi x2), (3, .long y3), (5, vi 0), (6, vi 0)] []) : gWL X G s 0 [(0, gR G 5), (1, vi x1), (2, vi x2), (3, .long y3)] [] := by
  refine g_iconst hX dX2_takeRow_0 ?_
  refine g_istore (loc' := [(5, vi 0), (0, gR G 5), (1, vi x1), (2, vi x2), (3, .long y3)]) hX dX2_takeRow_1 (by decide) rfl ?_
  refine g_iconst hX dX2_takeRow_3 ?_
  refine g_istore (loc' := [(6, vi 0), (5, vi 0), (0, gR G 5), (1, vi x1), (2, vi x2), (3, .long y3)]) hX dX2_takeRow_4 (by decide) rfl ?_
  exact g_sub [2, 3, 4, 5, 1, 0] rfl h
set_option maxRecDepth 100000 in
set_option maxHeartbeats 4000000 in
theorem bk_X2_takeRow_6 {X : gX} {G : gG} (hX : gOk X G cX2_takeRow 8 RX2 (some .boolean) 2) {Q : Int → gS → Prop} (hE : gEnd X G (gPi (fun v s' => Q v s' ∧ gRg s'))) (s : gS) (hs : gRg s) (x1 : Int) (x2 : Int) (y3 : Int64) (x5 : Int) (x6 : Int)  (h : (rng x6) ∧ (rng x2) ∧ ((x2 ≤ x6 → (0 ≤ x1 ∧ x1 < 9) ∧ (rng x5) ∧ gWL X G (gpA s 17 x1 x5) 66 [(0, gR G 5), (1, vi x1), (2, vi x2), (3, .long y3), (6, vi 0)] []) ∧ (x6 < x2 → (rng (gclub y3 x6)) ∧ ((10 ≤ (gclub y3 x6) → Q 0 s) ∧ ((gclub y3 x6) < 10 → ((¬ (gand (gshr x5 (gclub y3 x6)) 1) = 1 → gWL X G s 6 [(0, gR G 5), (1, vi x1), (2, vi x2), (3, .long y3), (5, vi (gor x5 (gshl 1 (gclub y3 x6)))), (6, vi (x6 + 1))] []) ∧ ((gand (gshr x5 (gclub y3 x6)) 1) = 1 → Q 0 s))))))) : gWL X G s 6 [(0, gR G 5), (1, vi x1), (2, vi x2), (3, .long y3), (5, vi x5), (6, vi x6)] [] := by
  refine g_iload hX dX2_takeRow_6 5 rfl ?_
  refine g_iload_n hX dX2_takeRow_8 2 rfl ?_
  obtain ⟨h1, h⟩ := h
  obtain ⟨h2, h⟩ := h
  refine g_icge (tgt := 55) hX h1 h2 dX2_takeRow_9 (by decide) (fun c3 => ?_) (fun c3 => ?_)
  · replace h := h.1 c3
    refine g_aload_n hX dX2_takeRow_55 0 rfl ?_
    refine g_getR hX sh_5 1 rfl fl_X2_15 dX2_takeRow_56 ?_
    refine g_iload_n hX dX2_takeRow_59 1 rfl ?_
    refine g_iload hX dX2_takeRow_60 4 rfl ?_
    obtain ⟨h4, h⟩ := h
    obtain ⟨h5, h⟩ := h
    refine g_iast hX sh_17 h4 (by decide) dX2_takeRow_62 ?_
    refine g_iconst hX dX2_takeRow_63 ?_
    refine g_istore (loc' := [(6, vi 0), (0, gR G 5), (1, vi x1), (2, vi x2), (3, .long y3), (5, vi x5)]) hX dX2_takeRow_64 (by decide) rfl ?_
    exact g_sub [1, 2, 3, 4, 0] rfl h
  · replace h := h.2 (Int.not_le.mp c3)
    refine g_lload_n hX dX2_takeRow_12 3 rfl ?_
    refine g_iload hX dX2_takeRow_13 5 rfl ?_
    refine g_cSf (As := [.long y3, vi x6]) hX (fun l => c_X2_clubAt l hX.inj s y3 x6 hs) cv_X2_24 (by decide) rfl (Nat.le_of_ble_eq_true rfl) dX2_takeRow_15 rfl (fun g6 => ?_)
    refine g_istore (loc' := [(7, vi (gclub y3 x6)), (0, gR G 5), (1, vi x1), (2, vi x2), (3, .long y3), (5, vi x5), (6, vi x6)]) hX dX2_takeRow_18 (by decide) rfl ?_
    refine g_iload hX dX2_takeRow_20 0 rfl ?_
    refine g_bipush hX dX2_takeRow_22 rfl ?_
    obtain ⟨h7, h⟩ := h
    refine g_icge (tgt := 38) hX h7 (by unfold rng; omega) dX2_takeRow_24 (by decide) (fun c8 => ?_) (fun c8 => ?_)
    · replace h := h.1 c8
      refine g_iconst hX dX2_takeRow_38 ?_
      exact g_zret hX hE (Or.inl rfl) dX2_takeRow_39 ⟨h, hs⟩
    · replace h := h.2 (Int.not_le.mp c8)
      refine g_iload hX dX2_takeRow_27 5 rfl ?_
      refine g_iload hX dX2_takeRow_29 0 rfl ?_
      refine g_ishr hX dX2_takeRow_31 ?_
      refine g_iconst hX dX2_takeRow_32 ?_
      refine g_iand hX dX2_takeRow_33 ?_
      refine g_iconst hX dX2_takeRow_34 ?_
      refine g_icne (tgt := 40) hX (rng_i _) (by unfold rng; omega) dX2_takeRow_35 (by decide) (fun c9 => ?_) (fun c9 => ?_)
      · replace h := h.1 c9
        refine g_iload hX dX2_takeRow_40 5 rfl ?_
        refine g_iconst hX dX2_takeRow_42 ?_
        refine g_iload hX dX2_takeRow_43 0 rfl ?_
        refine g_ishl hX dX2_takeRow_45 ?_
        refine g_ior hX dX2_takeRow_46 ?_
        refine g_istore (loc' := [(5, vi (gor x5 (gshl 1 (gclub y3 x6)))), (7, vi (gclub y3 x6)), (0, gR G 5), (1, vi x1), (2, vi x2), (3, .long y3), (6, vi x6)]) hX dX2_takeRow_47 (by decide) rfl ?_
        refine g_iinc (loc' := [(6, vi (x6 + 1)), (5, vi (gor x5 (gshl 1 (gclub y3 x6)))), (7, vi (gclub y3 x6)), (0, gR G 5), (1, vi x1), (2, vi x2), (3, .long y3)]) hX dX2_takeRow_49 6 rfl (by decide) rfl ?_
        refine g_goto (tgt := 6) hX dX2_takeRow_52 (by decide) ?_
        exact g_sub [3, 4, 5, 6, 1, 0] rfl h
      · replace h := h.2 (gnn c9)
        refine g_iconst hX dX2_takeRow_38 ?_
        exact g_zret hX hE (Or.inl rfl) dX2_takeRow_39 ⟨h, hs⟩
set_option maxRecDepth 100000 in
set_option maxHeartbeats 4000000 in
theorem bk_X2_takeRow_66 {X : gX} {G : gG} (hX : gOk X G cX2_takeRow 8 RX2 (some .boolean) 2) {Q : Int → gS → Prop} (hE : gEnd X G (gPi (fun v s' => Q v s' ∧ gRg s'))) (s : gS) (hs : gRg s) (x1 : Int) (x2 : Int) (y3 : Int64) (x6 : Int)  (h : (rng x6) ∧ (rng x2) ∧ ((x2 ≤ x6 → Q 1 s) ∧ (x6 < x2 → (0 ≤ x1 ∧ x1 < 9) ∧ (0 ≤ (gclub y3 x6) ∧ (gclub y3 x6) < 10) ∧ (rng (x6 + 1)) ∧ gWL X G (gpA s (300 + x1) (gclub y3 x6) (x6 + 1)) 66 [(0, gR G 5), (1, vi x1), (2, vi x2), (3, .long y3), (6, vi (x6 + 1))] []))) : gWL X G s 66 [(0, gR G 5), (1, vi x1), (2, vi x2), (3, .long y3), (6, vi x6)] [] := by
  refine g_iload hX dX2_takeRow_66 4 rfl ?_
  refine g_iload_n hX dX2_takeRow_68 2 rfl ?_
  obtain ⟨h1, h⟩ := h
  obtain ⟨h2, h⟩ := h
  refine g_icge (tgt := 95) hX h1 h2 dX2_takeRow_69 (by decide) (fun c3 => ?_) (fun c3 => ?_)
  · replace h := h.1 c3
    refine g_iconst hX dX2_takeRow_95 ?_
    exact g_zret hX hE (Or.inr rfl) dX2_takeRow_96 ⟨h, hs⟩
  · replace h := h.2 (Int.not_le.mp c3)
    refine g_aload_n hX dX2_takeRow_72 0 rfl ?_
    refine g_getR hX sh_5 2 rfl fl_X2_21 dX2_takeRow_73 ?_
    refine g_iload_n hX dX2_takeRow_76 1 rfl ?_
    obtain ⟨h4, h⟩ := h
    have k5 := h4
    refine g_aald (kd := 4) (q := (300 + x1)) hX sh_18 rfl rfl h4 (by decide) (by show 300 + ((x1 : Int).toNat : Int) = _; omega) dX2_takeRow_77 ?_
    refine g_lload_n hX dX2_takeRow_78 3 rfl ?_
    refine g_iload hX dX2_takeRow_79 4 rfl ?_
    refine g_cSf (As := [.long y3, vi x6]) hX (fun l => c_X2_clubAt l hX.inj s y3 x6 hs) cv_X2_24 (by decide) rfl (Nat.le_of_ble_eq_true rfl) dX2_takeRow_81 rfl (fun g6 => ?_)
    refine g_iload hX dX2_takeRow_84 4 rfl ?_
    refine g_iconst hX dX2_takeRow_86 ?_
    refine g_iadd hX dX2_takeRow_87 ?_
    obtain ⟨h7, h⟩ := h
    obtain ⟨h8, h⟩ := h
    refine g_iast hX (sh_rankrow (by omega) (by omega)) h7 (by decide) dX2_takeRow_88 ?_
    refine g_iinc (loc' := [(6, vi (x6 + 1)), (0, gR G 5), (1, vi x1), (2, vi x2), (3, .long y3)]) hX dX2_takeRow_89 4 rfl (by decide) rfl ?_
    refine g_goto (tgt := 66) hX dX2_takeRow_92 (by decide) ?_
    exact g_sub [1, 2, 3, 4, 0] rfl h
set_option maxRecDepth 100000 in
set_option maxHeartbeats 4000000 in
theorem c_X2_takeRow (l : Launch) {G : gG} (hG : gInj G) (s : gS) (x1 : Int) (x2 : Int) (y3 : Int64) (p0 : gRg s) (p1 : rng x2) (p2 : 0 ≤ x1 ∧ x1 < 9) (p3 : 0 ≤ x2 ∧ x2 ≤ 10) : gMet l G yX2_takeRow cX2_takeRow 8 (some .boolean) 2 [gR G 5, vi x1, vi x2, .long y3] s (gPi (fun v s' => ((gvalid (gclub y3) x2 → v = 1 ∧ s' = granks (gpA s 17 x1 (gbitsOf (gclub y3) x2)) (300 + x1) (gclub y3) x2) ∧ (¬ gvalid (gclub y3) x2 → v = 0 ∧ s' = s)) ∧ gRg s')) := by
  refine gMet_of (plainFor_of_name (by decide)) hG (Nat.le_of_ble_eq_true rfl) (fun X hX hE => ?_)
  refine bk_X2_takeRow_0 hX hE s p0 x1 x2 y3  ?_
  have hf := gclub_bd y3
  refine gloop (α := Int) (hi := x2) (fun i b => 0 ≤ i ∧ b = gbitsOf (gclub y3) i ∧ gvalid (gclub y3) i) (fun i b => gWL X G s 6 [(0, gR G 5), (1, vi x1), (2, vi x2), (3, .long y3), (5, vi b), (6, vi i)] []) ?_ ?_ 0 0 p3.1 ⟨by omega, rfl, fun i h0 h1 => by omega⟩
  · intro i b hi ⟨h0, hb, hv⟩ next
    refine bk_X2_takeRow_6 hX hE s p0 x1 x2 y3 b i ⟨rng_of (by omega) (by omega), p1, fun h => by omega, fun _ => ⟨rng_of (by have := hf i; omega) (by have := hf i; omega), fun h => ?_, fun h => ⟨fun h2 => next _ ⟨by omega, ?_, ?_⟩, fun h2 => ?_⟩⟩⟩
    · exact ⟨fun z => by have := (z i h0 hi).1; omega, fun _ => ⟨rfl, rfl⟩⟩
    · unfold gbitsOf; rw [giter_s _ _ h0, hb]; rfl
    · intro i' h0' h1'
      by_cases e : i' = i
      · subst e
        exact ⟨h, by rw [← hb]; exact h2⟩
      · exact hv i' h0' (by omega)
    · exact ⟨fun z => absurd (by rw [← hb]; exact h2) (z i h0 hi).2, fun _ => ⟨rfl, rfl⟩⟩
  · intro b ⟨h0, hb, hv⟩
    refine bk_X2_takeRow_6 hX hE s p0 x1 x2 y3 b x2 ⟨p1, p1, fun _ => ⟨p2, by rw [hb]; exact gbitsOf_rng _ _, ?_⟩, fun h => by omega⟩
    subst hb
    refine gloop (α := gS) (hi := x2) (fun i t => 0 ≤ i ∧ t = granks (gpA s 17 x1 (gbitsOf (gclub y3) x2)) (300 + x1) (gclub y3) i) (fun i t => gWL X G t 66 [(0, gR G 5), (1, vi x1), (2, vi x2), (3, .long y3), (6, vi i)] []) ?_ ?_ 0 _ p3.1 ⟨by omega, rfl⟩
    · intro i t hi ⟨h0', ht⟩ next
      have hg : gRg t := by rw [ht]; exact granks_rg (gRg_A p0 (gbitsOf_rng _ _)) h0' (by omega)
      exact bk_X2_takeRow_66 hX hE t hg x1 x2 y3 i ⟨rng_of (by omega) (by omega), p1, fun h => by omega, fun _ => ⟨p2, ⟨(hf i).1, (hv i h0' hi).1⟩, rng_of (by omega) (by omega), next _ ⟨by omega, by unfold granks; rw [giter_s _ _ h0', ht]; rfl⟩⟩⟩
    · intro t ⟨h0', ht⟩
      have hg : gRg t := by rw [ht]; exact granks_rg (gRg_A p0 (gbitsOf_rng _ _)) h0' (by omega)
      exact bk_X2_takeRow_66 hX hE t hg x1 x2 y3 x2 ⟨p1, p1, fun _ => ⟨fun _ => ⟨rfl, ht⟩, fun z => absurd hv z⟩, fun h => by omega⟩
set_option maxRecDepth 100000 in
set_option maxHeartbeats 4000000 in
theorem bk_X2_isSinging_0 {X : gX} {G : gG} (hX : gOk X G cX2_isSinging 2 RX2 (some .boolean) 2) {Q : Int → gS → Prop} (hE : gEnd X G (gPi (fun v s' => Q v s' ∧ gRg s'))) (s : gS) (hs : gRg s) (x1 : Int)  (h : (rng x1) ∧ ((¬ (0 ≤ x1 ∧ x1 ≤ 9) → Q 0 s) ∧ (0 ≤ x1 ∧ x1 ≤ 9 → ((¬ (gand (gshr (s.1 5 0) x1) 1) = 1 → Q 0 s) ∧ ((gand (gshr (s.1 5 0) x1) 1) = 1 → Q 1 s))))) : gWL X G s 0 [(0, gR G 5), (1, vi x1)] [] := by
  refine g_iload_n hX dX2_isSinging_0 1 rfl ?_
  refine g_iconst hX dX2_isSinging_1 ?_
  refine g_bipush hX dX2_isSinging_2 rfl ?_
  obtain ⟨h1, h⟩ := h
  refine g_cSNf (As := [vi x1, vi 0, vi 9]) hX (fun l => c_X7_isWithin l hX.inj s x1 0 9 hs h1 (by unfold rng; omega) (by unfold rng; omega)) cv_X2_28 (by decide) rfl (Nat.le_of_ble_eq_true rfl) dX2_isSinging_4 rfl (fun g2 => ?_)
  refine g_ifeq (tgt := 26) hX (gb_rng _) dX2_isSinging_7 (by decide) (fun c3 => ?_) (fun c3 => ?_)
  · replace h := h.1 (gb_eq0.mp c3)
    refine g_iconst hX dX2_isSinging_26 ?_
    exact g_zret hX hE (Or.inl rfl) dX2_isSinging_27 ⟨h, hs⟩
  · replace h := h.2 (gb_n0.mp c3)
    refine g_aload_n hX dX2_isSinging_10 0 rfl ?_
    refine g_getI hX sh_5 0 rfl fl_X2_9 dX2_isSinging_11 ?_
    refine g_iload_n hX dX2_isSinging_14 1 rfl ?_
    refine g_ishr hX dX2_isSinging_15 ?_
    refine g_iconst hX dX2_isSinging_16 ?_
    refine g_iand hX dX2_isSinging_17 ?_
    refine g_iconst hX dX2_isSinging_18 ?_
    refine g_icne (tgt := 26) hX (rng_i _) (by unfold rng; omega) dX2_isSinging_19 (by decide) (fun c4 => ?_) (fun c4 => ?_)
    · replace h := h.1 c4
      refine g_iconst hX dX2_isSinging_26 ?_
      exact g_zret hX hE (Or.inl rfl) dX2_isSinging_27 ⟨h, hs⟩
    · replace h := h.2 (gnn c4)
      refine g_iconst hX dX2_isSinging_22 ?_
      refine g_goto (tgt := 27) hX dX2_isSinging_23 (by decide) ?_
      exact g_zret hX hE (Or.inr rfl) dX2_isSinging_27 ⟨h, hs⟩
set_option maxRecDepth 100000 in
set_option maxHeartbeats 4000000 in
theorem c_X2_isSinging (l : Launch) {G : gG} (hG : gInj G) (s : gS) (x1 : Int) (p0 : gRg s) (p1 : rng x1) : gMet l G yX2_isSinging cX2_isSinging 2 (some .boolean) 2 [gR G 5, vi x1] s (gPi (fun v s' => (v = (gb ((0 ≤ x1 ∧ x1 ≤ 9) ∧ gbit (s.1 5 0) x1 = 1)) ∧ s' = s) ∧ gRg s')) := by
  refine gMet_of (plainFor_of_name (by decide)) hG (Nat.le_of_ble_eq_true rfl) (fun X hX hE => ?_)
  refine bk_X2_isSinging_0 hX hE s p0 x1  ?_
  exact ⟨p1, fun h => ⟨(gb_f (fun z => h z.1)).symm, rfl⟩, fun h => ⟨fun h2 => ⟨(gb_f (fun z => h2 z.2)).symm, rfl⟩, fun h2 => ⟨(gb_t ⟨h, h2⟩).symm, rfl⟩⟩⟩
set_option maxRecDepth 100000 in
set_option maxHeartbeats 4000000 in
theorem bk_X2_isCounting_0 {X : gX} {G : gG} (hX : gOk X G cX2_isCounting 2 RX2 (some .boolean) 1) {Q : Int → gS → Prop} (hE : gEnd X G (gPi (fun v s' => Q v s' ∧ gRg s'))) (s : gS) (hs : gRg s) (x1 : Int)  (h : (((s.1 5 0) = 0 → Q 0 s) ∧ (¬ ((s.1 5 0) = 0) → (0 ≤ x1 ∧ x1 < 9) ∧ ((¬ (s.2 17 x1) = (s.1 5 0) → Q 0 s) ∧ ((s.2 17 x1) = (s.1 5 0) → Q 1 s))))) : gWL X G s 0 [(0, gR G 5), (1, vi x1)] [] := by
  refine g_aload_n hX dX2_isCounting_0 0 rfl ?_
  refine g_getI hX sh_5 0 rfl fl_X2_9 dX2_isCounting_1 ?_
  refine g_ifeq (tgt := 24) hX (hs.1 _ _) dX2_isCounting_4 (by decide) (fun c1 => ?_) (fun c1 => ?_)
  · replace h := h.1 c1
    refine g_iconst hX dX2_isCounting_24 ?_
    exact g_zret hX hE (Or.inl rfl) dX2_isCounting_25 ⟨h, hs⟩
  · replace h := h.2 c1
    refine g_aload_n hX dX2_isCounting_7 0 rfl ?_
    refine g_getR hX sh_5 1 rfl fl_X2_15 dX2_isCounting_8 ?_
    refine g_iload_n hX dX2_isCounting_11 1 rfl ?_
    obtain ⟨h2, h⟩ := h
    refine g_iald hX sh_17 h2 (by decide) dX2_isCounting_12 ?_
    refine g_aload_n hX dX2_isCounting_13 0 rfl ?_
    refine g_getI hX sh_5 0 rfl fl_X2_9 dX2_isCounting_14 ?_
    refine g_icne (tgt := 24) hX (hs.2 _ _) (hs.1 _ _) dX2_isCounting_17 (by decide) (fun c3 => ?_) (fun c3 => ?_)
    · replace h := h.1 c3
      refine g_iconst hX dX2_isCounting_24 ?_
      exact g_zret hX hE (Or.inl rfl) dX2_isCounting_25 ⟨h, hs⟩
    · replace h := h.2 (gnn c3)
      refine g_iconst hX dX2_isCounting_20 ?_
      refine g_goto (tgt := 25) hX dX2_isCounting_21 (by decide) ?_
      exact g_zret hX hE (Or.inr rfl) dX2_isCounting_25 ⟨h, hs⟩
set_option maxRecDepth 100000 in
set_option maxHeartbeats 4000000 in
theorem c_X2_isCounting (l : Launch) {G : gG} (hG : gInj G) (s : gS) (x1 : Int) (p0 : gRg s) (p1 : 0 ≤ x1 ∧ x1 < 9) : gMet l G yX2_isCounting cX2_isCounting 2 (some .boolean) 1 [gR G 5, vi x1] s (gPi (fun v s' => (v = (gb (¬ (s.1 5 0) = 0 ∧ (s.2 17 x1) = (s.1 5 0))) ∧ s' = s) ∧ gRg s')) := by
  refine gMet_of (plainFor_of_name (by decide)) hG (Nat.le_of_ble_eq_true rfl) (fun X hX hE => ?_)
  refine bk_X2_isCounting_0 hX hE s p0 x1  ?_
  exact ⟨fun h => ⟨(gb_f (fun z => z.1 h)).symm, rfl⟩, fun h => ⟨p1, fun h2 => ⟨(gb_f (fun z => h2 z.2)).symm, rfl⟩, fun h2 => ⟨(gb_t ⟨h, h2⟩).symm, rfl⟩⟩⟩
set_option maxRecDepth 100000 in
set_option maxHeartbeats 4000000 in
theorem bk_X2_countJudges_0 {X : gX} {G : gG} (hX : gOk X G cX2_countJudges 3 RX2 (some .int) 2) {Q : Int → gS → Prop} (hE : gEnd X G (gPi (fun v s' => Q v s' ∧ gRg s'))) (s : gS) (hs : gRg s)   (h : gWL X G s 4 [(0, gR G 5), (1, vi 0), (2, vi 0)] []) : gWL X G s 0 [(0, gR G 5)] [] := by
  refine g_iconst hX dX2_countJudges_0 ?_
  refine g_istore_n (loc' := [(1, vi 0), (0, gR G 5)]) hX dX2_countJudges_1 (by decide) rfl ?_
  refine g_iconst hX dX2_countJudges_2 ?_
  refine g_istore_n (loc' := [(2, vi 0), (1, vi 0), (0, gR G 5)]) hX dX2_countJudges_3 (by decide) rfl ?_
  exact g_sub [2, 1, 0] rfl h
set_option maxRecDepth 100000 in
set_option maxHeartbeats 4000000 in
theorem bk_X2_countJudges_4 {X : gX} {G : gG} (hX : gOk X G cX2_countJudges 3 RX2 (some .int) 2) {Q : Int → gS → Prop} (hE : gEnd X G (gPi (fun v s' => Q v s' ∧ gRg s'))) (s : gS) (hs : gRg s) (x1 : Int) (x2 : Int)  (h : (rng x2) ∧ ((9 ≤ x2 → Q x1 s) ∧ (x2 < 9 → (0 ≤ x2 ∧ x2 < 9) ∧ ((¬ (¬ (s.1 5 0) = 0 ∧ (s.2 17 x2) = (s.1 5 0)) → gWL X G s 4 [(0, gR G 5), (1, vi x1), (2, vi (x2 + 1))] []) ∧ (¬ (s.1 5 0) = 0 ∧ (s.2 17 x2) = (s.1 5 0) → gWL X G s 4 [(0, gR G 5), (1, vi (x1 + 1)), (2, vi (x2 + 1))] []))))) : gWL X G s 4 [(0, gR G 5), (1, vi x1), (2, vi x2)] [] := by
  refine g_iload_n hX dX2_countJudges_4 2 rfl ?_
  refine g_bipush hX dX2_countJudges_5 rfl ?_
  obtain ⟨h1, h⟩ := h
  refine g_icge (tgt := 27) hX h1 (by unfold rng; omega) dX2_countJudges_7 (by decide) (fun c2 => ?_) (fun c2 => ?_)
  · replace h := h.1 c2
    refine g_iload_n hX dX2_countJudges_27 1 rfl ?_
    exact g_iret hX hE dX2_countJudges_28 ⟨h, hs⟩
  · replace h := h.2 (Int.not_le.mp c2)
    refine g_aload_n hX dX2_countJudges_10 0 rfl ?_
    refine g_iload_n hX dX2_countJudges_11 2 rfl ?_
    obtain ⟨h3, h⟩ := h
    refine g_cVf (As := [vi x2]) hX (fun l => c_X2_isCounting l hX.inj s x2 hs h3) sh_5 cv_X2_32 (by decide) rfl (Nat.le_of_ble_eq_true rfl) dX2_countJudges_12 rfl (fun g4 => ?_)
    refine g_ifeq (tgt := 21) hX (gb_rng _) dX2_countJudges_15 (by decide) (fun c5 => ?_) (fun c5 => ?_)
    · replace h := h.1 (gb_eq0.mp c5)
      refine g_iinc (loc' := [(2, vi (x2 + 1)), (0, gR G 5), (1, vi x1)]) hX dX2_countJudges_21 2 rfl (by decide) rfl ?_
      refine g_goto (tgt := 4) hX dX2_countJudges_24 (by decide) ?_
      exact g_sub [1, 2, 0] rfl h
    · replace h := h.2 (gb_n0.mp c5)
      refine g_iinc (loc' := [(1, vi (x1 + 1)), (0, gR G 5), (2, vi x2)]) hX dX2_countJudges_18 1 rfl (by decide) rfl ?_
      refine g_iinc (loc' := [(2, vi (x2 + 1)), (1, vi (x1 + 1)), (0, gR G 5)]) hX dX2_countJudges_21 2 rfl (by decide) rfl ?_
      refine g_goto (tgt := 4) hX dX2_countJudges_24 (by decide) ?_
      exact g_sub [2, 1, 0] rfl h
set_option maxRecDepth 100000 in
set_option maxHeartbeats 4000000 in
theorem c_X2_countJudges (l : Launch) {G : gG} (hG : gInj G) (s : gS)  (p0 : gRg s) : gMet l G yX2_countJudges cX2_countJudges 3 (some .int) 2 [gR G 5] s (gPi (fun v s' => (v = (gjudges s) ∧ s' = s) ∧ gRg s')) := by
  refine gMet_of (plainFor_of_name (by decide)) hG (Nat.le_of_ble_eq_true rfl) (fun X hX hE => ?_)
  refine bk_X2_countJudges_0 hX hE s p0   ?_
  refine gloop (α := Int) (hi := 9) (fun i n => 0 ≤ i ∧ n = gsum (fun j => if chj s j = true then 1 else 0) i) (fun i n => gWL X G s 4 [(0, gR G 5), (1, vi n), (2, vi i)] []) ?_ ?_ 0 0 (by omega) ⟨by omega, rfl⟩
  · intro i n hi ⟨h0, hn⟩ next
    refine bk_X2_countJudges_4 hX hE s p0 n i ⟨rng_of (by omega) (by omega), fun h => by omega, fun _ => ⟨by omega, fun h => next _ ⟨by omega, ?_⟩, fun h => next _ ⟨by omega, ?_⟩⟩⟩
    · rw [gsum_s _ h0, hn, if_neg (by unfold chj; rw [decide_eq_true_iff]; exact h)]; omega
    · rw [gsum_s _ h0, hn, if_pos (by unfold chj; rw [decide_eq_true_iff]; exact h)]
  · intro n ⟨h0, hn⟩
    exact bk_X2_countJudges_4 hX hE s p0 n 9 ⟨rng_of (by omega) (by omega), fun _ => ⟨hn, rfl⟩, fun h => by omega⟩
set_option maxRecDepth 100000 in
set_option maxHeartbeats 4000000 in
theorem bk_X2_countRanks_0 {X : gX} {G : gG} (hX : gOk X G cX2_countRanks 5 RX2 (some .int) 2) {Q : Int → gS → Prop} (hE : gEnd X G (gPi (fun v s' => Q v s' ∧ gRg s'))) (s : gS) (hs : gRg s) (x1 : Int) (x2 : Int)  (h : gWL X G s 5 [(0, gR G 5), (1, vi x1), (2, vi x2), (3, vi 0), (4, vi 0)] []) : gWL X G s 0 [(0, gR G 5), (1, vi x1), (2, vi x2)] [] := by
  refine g_iconst hX dX2_countRanks_0 ?_
  refine g_istore_n (loc' := [(3, vi 0), (0, gR G 5), (1, vi x1), (2, vi x2)]) hX dX2_countRanks_1 (by decide) rfl ?_
  refine g_iconst hX dX2_countRanks_2 ?_
  refine g_istore (loc' := [(4, vi 0), (3, vi 0), (0, gR G 5), (1, vi x1), (2, vi x2)]) hX dX2_countRanks_3 (by decide) rfl ?_
  exact g_sub [2, 3, 4, 1, 0] rfl h
set_option maxRecDepth 100000 in
set_option maxHeartbeats 4000000 in
theorem bk_X2_countRanks_5 {X : gX} {G : gG} (hX : gOk X G cX2_countRanks 5 RX2 (some .int) 2) {Q : Int → gS → Prop} (hE : gEnd X G (gPi (fun v s' => Q v s' ∧ gRg s'))) (s : gS) (hs : gRg s) (x1 : Int) (x2 : Int) (x3 : Int) (x4 : Int)  (h : (rng x4) ∧ ((9 ≤ x4 → Q x3 s) ∧ (x4 < 9 → (0 ≤ x4 ∧ x4 < 9) ∧ ((¬ (¬ (s.1 5 0) = 0 ∧ (s.2 17 x4) = (s.1 5 0)) → gWL X G s 5 [(0, gR G 5), (1, vi x1), (2, vi x2), (3, vi x3), (4, vi (x4 + 1))] []) ∧ (¬ (s.1 5 0) = 0 ∧ (s.2 17 x4) = (s.1 5 0) → (0 ≤ x1 ∧ x1 < 10) ∧ (rng x2) ∧ ((x2 < (s.2 (300 + x4) x1) → gWL X G s 5 [(0, gR G 5), (1, vi x1), (2, vi x2), (3, vi x3), (4, vi (x4 + 1))] []) ∧ ((s.2 (300 + x4) x1) ≤ x2 → gWL X G s 5 [(0, gR G 5), (1, vi x1), (2, vi x2), (3, vi (x3 + 1)), (4, vi (x4 + 1))] []))))))) : gWL X G s 5 [(0, gR G 5), (1, vi x1), (2, vi x2), (3, vi x3), (4, vi x4)] [] := by
  refine g_iload hX dX2_countRanks_5 4 rfl ?_
  refine g_bipush hX dX2_countRanks_7 rfl ?_
  obtain ⟨h1, h⟩ := h
  refine g_icge (tgt := 43) hX h1 (by unfold rng; omega) dX2_countRanks_9 (by decide) (fun c2 => ?_) (fun c2 => ?_)
  · replace h := h.1 c2
    refine g_iload_n hX dX2_countRanks_43 3 rfl ?_
    exact g_iret hX hE dX2_countRanks_44 ⟨h, hs⟩
  · replace h := h.2 (Int.not_le.mp c2)
    refine g_aload_n hX dX2_countRanks_12 0 rfl ?_
    refine g_iload hX dX2_countRanks_13 4 rfl ?_
    obtain ⟨h3, h⟩ := h
    refine g_cVf (As := [vi x4]) hX (fun l => c_X2_isCounting l hX.inj s x4 hs h3) sh_5 cv_X2_32 (by decide) rfl (Nat.le_of_ble_eq_true rfl) dX2_countRanks_15 rfl (fun g4 => ?_)
    refine g_ifeq (tgt := 37) hX (gb_rng _) dX2_countRanks_18 (by decide) (fun c5 => ?_) (fun c5 => ?_)
    · replace h := h.1 (gb_eq0.mp c5)
      refine g_iinc (loc' := [(4, vi (x4 + 1)), (0, gR G 5), (1, vi x1), (2, vi x2), (3, vi x3)]) hX dX2_countRanks_37 4 rfl (by decide) rfl ?_
      refine g_goto (tgt := 5) hX dX2_countRanks_40 (by decide) ?_
      exact g_sub [1, 2, 3, 4, 0] rfl h
    · replace h := h.2 (gb_n0.mp c5)
      refine g_aload_n hX dX2_countRanks_21 0 rfl ?_
      refine g_getR hX sh_5 2 rfl fl_X2_21 dX2_countRanks_22 ?_
      refine g_iload hX dX2_countRanks_25 4 rfl ?_
      have k6 := h3
      refine g_aald (kd := 4) (q := (300 + x4)) hX sh_18 rfl rfl h3 (by decide) (by show 300 + ((x4 : Int).toNat : Int) = _; omega) dX2_countRanks_27 ?_
      refine g_iload_n hX dX2_countRanks_28 1 rfl ?_
      obtain ⟨h7, h⟩ := h
      refine g_iald hX (sh_rankrow (by omega) (by omega)) h7 (by decide) dX2_countRanks_29 ?_
      refine g_iload_n hX dX2_countRanks_30 2 rfl ?_
      obtain ⟨h8, h⟩ := h
      refine g_icgt (tgt := 37) hX (hs.2 _ _) h8 dX2_countRanks_31 (by decide) (fun c9 => ?_) (fun c9 => ?_)
      · replace h := h.1 c9
        refine g_iinc (loc' := [(4, vi (x4 + 1)), (0, gR G 5), (1, vi x1), (2, vi x2), (3, vi x3)]) hX dX2_countRanks_37 4 rfl (by decide) rfl ?_
        refine g_goto (tgt := 5) hX dX2_countRanks_40 (by decide) ?_
        exact g_sub [1, 2, 3, 4, 0] rfl h
      · replace h := h.2 (Int.not_lt.mp c9)
        refine g_iinc (loc' := [(3, vi (x3 + 1)), (0, gR G 5), (1, vi x1), (2, vi x2), (4, vi x4)]) hX dX2_countRanks_34 3 rfl (by decide) rfl ?_
        refine g_iinc (loc' := [(4, vi (x4 + 1)), (3, vi (x3 + 1)), (0, gR G 5), (1, vi x1), (2, vi x2)]) hX dX2_countRanks_37 4 rfl (by decide) rfl ?_
        refine g_goto (tgt := 5) hX dX2_countRanks_40 (by decide) ?_
        exact g_sub [2, 3, 4, 1, 0] rfl h
set_option maxRecDepth 100000 in
set_option maxHeartbeats 4000000 in
theorem c_X2_countRanks (l : Launch) {G : gG} (hG : gInj G) (s : gS) (x1 : Int) (x2 : Int) (p0 : gRg s) (p1 : rng x2) (p2 : 0 ≤ x1 ∧ x1 < 10) : gMet l G yX2_countRanks cX2_countRanks 5 (some .int) 2 [gR G 5, vi x1, vi x2] s (gPi (fun v s' => (v = (gcr s x1 x2) ∧ s' = s) ∧ gRg s')) := by
  refine gMet_of (plainFor_of_name (by decide)) hG (Nat.le_of_ble_eq_true rfl) (fun X hX hE => ?_)
  refine bk_X2_countRanks_0 hX hE s p0 x1 x2  ?_
  refine gloop (α := Int) (hi := 9) (fun i n => 0 ≤ i ∧ n = gsum (fun j => if chj s j = true ∧ crk s j x1 ≤ x2 then 1 else 0) i) (fun i n => gWL X G s 5 [(0, gR G 5), (1, vi x1), (2, vi x2), (3, vi n), (4, vi i)] []) ?_ ?_ 0 0 (by omega) ⟨by omega, rfl⟩
  · intro i n hi ⟨h0, hn⟩ next
    have hc : chj s i = true ↔ (¬ (s.1 5 0) = 0 ∧ (s.2 17 i) = (s.1 5 0)) := by unfold chj; rw [decide_eq_true_iff]
    refine bk_X2_countRanks_5 hX hE s p0 x1 x2 n i ⟨rng_of (by omega) (by omega), fun h => by omega, fun _ => ⟨by omega, fun h => next _ ⟨by omega, ?_⟩, fun h => ⟨p2, p1, fun h2 => next _ ⟨by omega, ?_⟩, fun h2 => next _ ⟨by omega, ?_⟩⟩⟩⟩
    · rw [gsum_s _ h0, hn, if_neg (fun z => h (hc.mp z.1))]; omega
    · rw [gsum_s _ h0, hn, if_neg (fun z => by have := z.2; unfold crk at this; omega)]; omega
    · rw [gsum_s _ h0, hn, if_pos ⟨hc.mpr h, h2⟩]
  · intro n ⟨h0, hn⟩
    exact bk_X2_countRanks_5 hX hE s p0 x1 x2 n 9 ⟨rng_of (by omega) (by omega), fun _ => ⟨hn, rfl⟩, fun h => by omega⟩
set_option maxRecDepth 100000 in
set_option maxHeartbeats 4000000 in
theorem bk_X2_sumRanks_0 {X : gX} {G : gG} (hX : gOk X G cX2_sumRanks 5 RX2 (some .int) 2) {Q : Int → gS → Prop} (hE : gEnd X G (gPi (fun v s' => Q v s' ∧ gRg s'))) (s : gS) (hs : gRg s) (x1 : Int) (x2 : Int)  (h : gWL X G s 5 [(0, gR G 5), (1, vi x1), (2, vi x2), (3, vi 0), (4, vi 0)] []) : gWL X G s 0 [(0, gR G 5), (1, vi x1), (2, vi x2)] [] := by
  refine g_iconst hX dX2_sumRanks_0 ?_
  refine g_istore_n (loc' := [(3, vi 0), (0, gR G 5), (1, vi x1), (2, vi x2)]) hX dX2_sumRanks_1 (by decide) rfl ?_
  refine g_iconst hX dX2_sumRanks_2 ?_
  refine g_istore (loc' := [(4, vi 0), (3, vi 0), (0, gR G 5), (1, vi x1), (2, vi x2)]) hX dX2_sumRanks_3 (by decide) rfl ?_
  exact g_sub [2, 3, 4, 1, 0] rfl h
set_option maxRecDepth 100000 in
set_option maxHeartbeats 4000000 in
theorem bk_X2_sumRanks_5 {X : gX} {G : gG} (hX : gOk X G cX2_sumRanks 5 RX2 (some .int) 2) {Q : Int → gS → Prop} (hE : gEnd X G (gPi (fun v s' => Q v s' ∧ gRg s'))) (s : gS) (hs : gRg s) (x1 : Int) (x2 : Int) (x3 : Int) (x4 : Int)  (h : (rng x4) ∧ ((9 ≤ x4 → Q x3 s) ∧ (x4 < 9 → (0 ≤ x4 ∧ x4 < 9) ∧ ((¬ (¬ (s.1 5 0) = 0 ∧ (s.2 17 x4) = (s.1 5 0)) → gWL X G s 5 [(0, gR G 5), (1, vi x1), (2, vi x2), (3, vi x3), (4, vi (x4 + 1))] []) ∧ (¬ (s.1 5 0) = 0 ∧ (s.2 17 x4) = (s.1 5 0) → (0 ≤ x1 ∧ x1 < 10) ∧ (rng x2) ∧ ((x2 < (s.2 (300 + x4) x1) → gWL X G s 5 [(0, gR G 5), (1, vi x1), (2, vi x2), (3, vi x3), (4, vi (x4 + 1))] []) ∧ ((s.2 (300 + x4) x1) ≤ x2 → gWL X G s 5 [(0, gR G 5), (1, vi x1), (2, vi x2), (3, vi (x3 + (s.2 (300 + x4) x1))), (4, vi (x4 + 1))] []))))))) : gWL X G s 5 [(0, gR G 5), (1, vi x1), (2, vi x2), (3, vi x3), (4, vi x4)] [] := by
  refine g_iload hX dX2_sumRanks_5 4 rfl ?_
  refine g_bipush hX dX2_sumRanks_7 rfl ?_
  obtain ⟨h1, h⟩ := h
  refine g_icge (tgt := 52) hX h1 (by unfold rng; omega) dX2_sumRanks_9 (by decide) (fun c2 => ?_) (fun c2 => ?_)
  · replace h := h.1 c2
    refine g_iload_n hX dX2_sumRanks_52 3 rfl ?_
    exact g_iret hX hE dX2_sumRanks_53 ⟨h, hs⟩
  · replace h := h.2 (Int.not_le.mp c2)
    refine g_aload_n hX dX2_sumRanks_12 0 rfl ?_
    refine g_iload hX dX2_sumRanks_13 4 rfl ?_
    obtain ⟨h3, h⟩ := h
    refine g_cVf (As := [vi x4]) hX (fun l => c_X2_isCounting l hX.inj s x4 hs h3) sh_5 cv_X2_32 (by decide) rfl (Nat.le_of_ble_eq_true rfl) dX2_sumRanks_15 rfl (fun g4 => ?_)
    refine g_ifeq (tgt := 46) hX (gb_rng _) dX2_sumRanks_18 (by decide) (fun c5 => ?_) (fun c5 => ?_)
    · replace h := h.1 (gb_eq0.mp c5)
      refine g_iinc (loc' := [(4, vi (x4 + 1)), (0, gR G 5), (1, vi x1), (2, vi x2), (3, vi x3)]) hX dX2_sumRanks_46 4 rfl (by decide) rfl ?_
      refine g_goto (tgt := 5) hX dX2_sumRanks_49 (by decide) ?_
      exact g_sub [1, 2, 3, 4, 0] rfl h
    · replace h := h.2 (gb_n0.mp c5)
      refine g_aload_n hX dX2_sumRanks_21 0 rfl ?_
      refine g_getR hX sh_5 2 rfl fl_X2_21 dX2_sumRanks_22 ?_
      refine g_iload hX dX2_sumRanks_25 4 rfl ?_
      have k6 := h3
      refine g_aald (kd := 4) (q := (300 + x4)) hX sh_18 rfl rfl h3 (by decide) (by show 300 + ((x4 : Int).toNat : Int) = _; omega) dX2_sumRanks_27 ?_
      refine g_iload_n hX dX2_sumRanks_28 1 rfl ?_
      obtain ⟨h7, h⟩ := h
      refine g_iald hX (sh_rankrow (by omega) (by omega)) h7 (by decide) dX2_sumRanks_29 ?_
      refine g_iload_n hX dX2_sumRanks_30 2 rfl ?_
      obtain ⟨h8, h⟩ := h
      refine g_icgt (tgt := 46) hX (hs.2 _ _) h8 dX2_sumRanks_31 (by decide) (fun c9 => ?_) (fun c9 => ?_)
      · replace h := h.1 c9
        refine g_iinc (loc' := [(4, vi (x4 + 1)), (0, gR G 5), (1, vi x1), (2, vi x2), (3, vi x3)]) hX dX2_sumRanks_46 4 rfl (by decide) rfl ?_
        refine g_goto (tgt := 5) hX dX2_sumRanks_49 (by decide) ?_
        exact g_sub [1, 2, 3, 4, 0] rfl h
      · replace h := h.2 (Int.not_lt.mp c9)
        refine g_iload_n hX dX2_sumRanks_34 3 rfl ?_
        refine g_aload_n hX dX2_sumRanks_35 0 rfl ?_
        refine g_getR hX sh_5 2 rfl fl_X2_21 dX2_sumRanks_36 ?_
        refine g_iload hX dX2_sumRanks_39 4 rfl ?_
        have k10 := h3
        refine g_aald (kd := 4) (q := (300 + x4)) hX sh_18 rfl rfl h3 (by decide) (by show 300 + ((x4 : Int).toNat : Int) = _; omega) dX2_sumRanks_41 ?_
        refine g_iload_n hX dX2_sumRanks_42 1 rfl ?_
        refine g_iald hX (sh_rankrow (by omega) (by omega)) h7 (by decide) dX2_sumRanks_43 ?_
        refine g_iadd hX dX2_sumRanks_44 ?_
        refine g_istore_n (loc' := [(3, vi (x3 + (s.2 (300 + x4) x1))), (0, gR G 5), (1, vi x1), (2, vi x2), (4, vi x4)]) hX dX2_sumRanks_45 (by decide) rfl ?_
        refine g_iinc (loc' := [(4, vi (x4 + 1)), (3, vi (x3 + (s.2 (300 + x4) x1))), (0, gR G 5), (1, vi x1), (2, vi x2)]) hX dX2_sumRanks_46 4 rfl (by decide) rfl ?_
        refine g_goto (tgt := 5) hX dX2_sumRanks_49 (by decide) ?_
        exact g_sub [2, 3, 4, 1, 0] rfl h
set_option maxRecDepth 100000 in
set_option maxHeartbeats 4000000 in
theorem c_X2_sumRanks (l : Launch) {G : gG} (hG : gInj G) (s : gS) (x1 : Int) (x2 : Int) (p0 : gRg s) (p1 : rng x2) (p2 : 0 ≤ x1 ∧ x1 < 10) : gMet l G yX2_sumRanks cX2_sumRanks 5 (some .int) 2 [gR G 5, vi x1, vi x2] s (gPi (fun v s' => (v = (gsr s x1 x2) ∧ s' = s) ∧ gRg s')) := by
  refine gMet_of (plainFor_of_name (by decide)) hG (Nat.le_of_ble_eq_true rfl) (fun X hX hE => ?_)
  refine bk_X2_sumRanks_0 hX hE s p0 x1 x2  ?_
  refine gloop (α := Int) (hi := 9) (fun i n => 0 ≤ i ∧ n = gsum (fun j => if chj s j = true ∧ crk s j x1 ≤ x2 then crk s j x1 else 0) i) (fun i n => gWL X G s 5 [(0, gR G 5), (1, vi x1), (2, vi x2), (3, vi n), (4, vi i)] []) ?_ ?_ 0 0 (by omega) ⟨by omega, rfl⟩
  · intro i n hi ⟨h0, hn⟩ next
    have hc : chj s i = true ↔ (¬ (s.1 5 0) = 0 ∧ (s.2 17 i) = (s.1 5 0)) := by unfold chj; rw [decide_eq_true_iff]
    refine bk_X2_sumRanks_5 hX hE s p0 x1 x2 n i ⟨rng_of (by omega) (by omega), fun h => by omega, fun _ => ⟨by omega, fun h => next _ ⟨by omega, ?_⟩, fun h => ⟨p2, p1, fun h2 => next _ ⟨by omega, ?_⟩, fun h2 => next _ ⟨by omega, ?_⟩⟩⟩⟩
    · rw [gsum_s _ h0, hn, if_neg (fun z => h (hc.mp z.1))]; omega
    · rw [gsum_s _ h0, hn, if_neg (fun z => by have := z.2; unfold crk at this; omega)]; omega
    · rw [gsum_s _ h0, hn, if_pos ⟨hc.mpr h, h2⟩]; rfl
  · intro n ⟨h0, hn⟩
    exact bk_X2_sumRanks_5 hX hE s p0 x1 x2 n 9 ⟨rng_of (by omega) (by omega), fun _ => ⟨hn, rfl⟩, fun h => by omega⟩
set_option maxRecDepth 100000 in
set_option maxHeartbeats 4000000 in
theorem bk_X2_findGreaterHalf_0 {X : gX} {G : gG} (hX : gOk X G cX2_findGreaterHalf 4 RX2 (some .int) 3) {Q : Int → gS → Prop} (hE : gEnd X G (gPi (fun v s' => Q v s' ∧ gRg s'))) (s : gS) (hs : gRg s) (x1 : Int)  (h : gWL X G s 7 [(0, gR G 5), (1, vi x1), (2, vi (gjudges s)), (3, vi 1)] []) : gWL X G s 0 [(0, gR G 5), (1, vi x1)] [] := by
  refine g_aload_n hX dX2_findGreaterHalf_0 0 rfl ?_
  refine g_cVf (As := []) hX (fun l => c_X2_countJudges l hX.inj s  hs) sh_5 cv_X2_46 (by decide) rfl (Nat.le_of_ble_eq_true rfl) dX2_findGreaterHalf_1 rfl (fun g1 => ?_)
  refine g_istore_n (loc' := [(2, vi (gjudges s)), (0, gR G 5), (1, vi x1)]) hX dX2_findGreaterHalf_4 (by decide) rfl ?_
  refine g_iconst hX dX2_findGreaterHalf_5 ?_
  refine g_istore_n (loc' := [(3, vi 1), (2, vi (gjudges s)), (0, gR G 5), (1, vi x1)]) hX dX2_findGreaterHalf_6 (by decide) rfl ?_
  exact g_sub [2, 3, 1, 0] rfl h
set_option maxRecDepth 100000 in
set_option maxHeartbeats 4000000 in
theorem bk_X2_findGreaterHalf_7 {X : gX} {G : gG} (hX : gOk X G cX2_findGreaterHalf 4 RX2 (some .int) 3) {Q : Int → gS → Prop} (hE : gEnd X G (gPi (fun v s' => Q v s' ∧ gRg s'))) (s : gS) (hs : gRg s) (x1 : Int) (x2 : Int) (x3 : Int)  (h : (rng x3) ∧ ((10 ≤ x3 → Q x3 s) ∧ (x3 < 10 → (0 ≤ x1 ∧ x1 < 10) ∧ (rng (2 * (gcr s x1 x3))) ∧ (rng x2) ∧ ((x2 < (2 * (gcr s x1 x3)) → Q x3 s) ∧ ((2 * (gcr s x1 x3)) ≤ x2 → gWL X G s 7 [(0, gR G 5), (1, vi x1), (2, vi x2), (3, vi (x3 + 1))] []))))) : gWL X G s 7 [(0, gR G 5), (1, vi x1), (2, vi x2), (3, vi x3)] [] := by
  refine g_iload_n hX dX2_findGreaterHalf_7 3 rfl ?_
  refine g_bipush hX dX2_findGreaterHalf_8 rfl ?_
  obtain ⟨h1, h⟩ := h
  refine g_icge (tgt := 31) hX h1 (by unfold rng; omega) dX2_findGreaterHalf_10 (by decide) (fun c2 => ?_) (fun c2 => ?_)
  · replace h := h.1 c2
    refine g_iload_n hX dX2_findGreaterHalf_31 3 rfl ?_
    exact g_iret hX hE dX2_findGreaterHalf_32 ⟨h, hs⟩
  · replace h := h.2 (Int.not_le.mp c2)
    refine g_iconst hX dX2_findGreaterHalf_13 ?_
    refine g_aload_n hX dX2_findGreaterHalf_14 0 rfl ?_
    refine g_iload_n hX dX2_findGreaterHalf_15 1 rfl ?_
    refine g_iload_n hX dX2_findGreaterHalf_16 3 rfl ?_
    obtain ⟨h3, h⟩ := h
    refine g_cVf (As := [vi x1, vi x3]) hX (fun l => c_X2_countRanks l hX.inj s x1 x3 hs h1 h3) sh_5 cv_X2_50 (by decide) rfl (Nat.le_of_ble_eq_true rfl) dX2_findGreaterHalf_17 rfl (fun g4 => ?_)
    refine g_imul hX dX2_findGreaterHalf_20 ?_
    refine g_iload_n hX dX2_findGreaterHalf_21 2 rfl ?_
    obtain ⟨h5, h⟩ := h
    obtain ⟨h6, h⟩ := h
    refine g_icgt (tgt := 31) hX h5 h6 dX2_findGreaterHalf_22 (by decide) (fun c7 => ?_) (fun c7 => ?_)
    · replace h := h.1 c7
      refine g_iload_n hX dX2_findGreaterHalf_31 3 rfl ?_
      exact g_iret hX hE dX2_findGreaterHalf_32 ⟨h, hs⟩
    · replace h := h.2 (Int.not_lt.mp c7)
      refine g_iinc (loc' := [(3, vi (x3 + 1)), (0, gR G 5), (1, vi x1), (2, vi x2)]) hX dX2_findGreaterHalf_25 3 rfl (by decide) rfl ?_
      refine g_goto (tgt := 7) hX dX2_findGreaterHalf_28 (by decide) ?_
      exact g_sub [1, 2, 3, 0] rfl h
set_option maxRecDepth 100000 in
set_option maxHeartbeats 4000000 in
theorem c_X2_findGreaterHalf (l : Launch) {G : gG} (hG : gInj G) (s : gS) (x1 : Int) (p0 : gRg s) (p1 : 0 ≤ x1 ∧ x1 < 10) : gMet l G yX2_findGreaterHalf cX2_findGreaterHalf 4 (some .int) 3 [gR G 5, vi x1] s (gPi (fun v s' => (v = (ghalf s x1) ∧ s' = s) ∧ gRg s')) := by
  refine gMet_of (plainFor_of_name (by decide)) hG (Nat.le_of_ble_eq_true rfl) (fun X hX hE => ?_)
  refine bk_X2_findGreaterHalf_0 hX hE s p0 x1  ?_
  have hJ := gJ_bd (chj s)
  refine gloop (α := Unit) (hi := 10) (fun i _ => 1 ≤ i ∧ gfst (fun k => decide (gJ (chj s) < 2 * gC (chj s) (crk s) x1 k)) i (10 - i).toNat = ghalf s x1) (fun i _ => gWL X G s 7 [(0, gR G 5), (1, vi x1), (2, vi (gjudges s)), (3, vi i)] []) ?_ ?_ 1 () (by omega) ⟨by omega, rfl⟩
  · intro i _ hi ⟨h0, hn⟩ next
    have hC := gC_bd (chj s) (crk s) x1 i
    have e : (10 - i).toNat = (10 - (i + 1)).toNat + 1 := by omega
    rw [e, gfst_s] at hn
    refine bk_X2_findGreaterHalf_7 hX hE s p0 x1 (gjudges s) i ⟨rng_of (by omega) (by omega), fun h => by omega, fun _ => ⟨p1, rng_of (by unfold gcr; omega) (by unfold gcr; omega), rng_of (by unfold gjudges; omega) (by unfold gjudges; omega), fun h => ⟨?_, rfl⟩, fun h => next () ⟨by omega, ?_⟩⟩⟩
    · unfold gjudges gcr at h
      rw [if_pos (decide_eq_true h)] at hn
      exact hn
    · unfold gjudges gcr at h
      rw [if_neg (by rw [decide_eq_true_iff]; exact Int.not_lt.mpr h)] at hn
      exact hn
  · intro _ ⟨h0, hn⟩
    exact bk_X2_findGreaterHalf_7 hX hE s p0 x1 (gjudges s) 10 ⟨rng_of (by omega) (by omega), fun _ => ⟨hn, rfl⟩, fun h => by omega⟩
set_option maxRecDepth 100000 in
set_option maxHeartbeats 4000000 in
theorem bk_X2_isAhead_0 {X : gX} {G : gG} (hX : gOk X G cX2_isAhead 8 RX2 (some .boolean) 4) {Q : Int → gS → Prop} (hE : gEnd X G (gPi (fun v s' => Q v s' ∧ gRg s'))) (s : gS) (hs : gRg s) (x1 : Int) (x2 : Int) (x3 : Int)  (h : (0 ≤ x1 ∧ x1 < 10) ∧ (rng (ghalf s x1)) ∧ (rng x3) ∧ (((ghalf s x1) = x3 → gWL X G s 28 [(0, gR G 5), (1, vi x1), (2, vi x2), (5, vi x3)] []) ∧ (¬ ((ghalf s x1) = x3) → ((x3 ≤ (ghalf s x1) → Q 0 s) ∧ ((ghalf s x1) < x3 → Q 1 s))))) : gWL X G s 0 [(0, gR G 5), (1, vi x1), (2, vi x2), (3, vi x3)] [] := by
  refine g_aload_n hX dX2_isAhead_0 0 rfl ?_
  refine g_iload_n hX dX2_isAhead_1 1 rfl ?_
  obtain ⟨h1, h⟩ := h
  refine g_cVf (As := [vi x1]) hX (fun l => c_X2_findGreaterHalf l hX.inj s x1 hs h1) sh_5 cv_X2_36 (by decide) rfl (Nat.le_of_ble_eq_true rfl) dX2_isAhead_2 rfl (fun g2 => ?_)
  refine g_istore (loc' := [(4, vi (ghalf s x1)), (0, gR G 5), (1, vi x1), (2, vi x2), (3, vi x3)]) hX dX2_isAhead_5 (by decide) rfl ?_
  refine g_iload hX dX2_isAhead_7 0 rfl ?_
  refine g_iload_n hX dX2_isAhead_9 4 rfl ?_
  obtain ⟨h3, h⟩ := h
  obtain ⟨h4, h⟩ := h
  refine g_iceq (tgt := 25) hX h3 h4 dX2_isAhead_10 (by decide) (fun c5 => ?_) (fun c5 => ?_)
  · replace h := h.1 c5
    refine g_iload_n hX dX2_isAhead_25 4 rfl ?_
    refine g_istore (loc' := [(5, vi x3), (4, vi (ghalf s x1)), (0, gR G 5), (1, vi x1), (2, vi x2), (3, vi x3)]) hX dX2_isAhead_26 (by decide) rfl ?_
    exact g_sub [2, 3, 4, 0] rfl h
  · replace h := h.2 c5
    refine g_iload hX dX2_isAhead_13 0 rfl ?_
    refine g_iload_n hX dX2_isAhead_15 4 rfl ?_
    refine g_icge (tgt := 23) hX h3 h4 dX2_isAhead_16 (by decide) (fun c6 => ?_) (fun c6 => ?_)
    · replace h := h.1 c6
      refine g_iconst hX dX2_isAhead_23 ?_
      exact g_zret hX hE (Or.inl rfl) dX2_isAhead_24 ⟨h, hs⟩
    · replace h := h.2 (Int.not_le.mp c6)
      refine g_iconst hX dX2_isAhead_19 ?_
      refine g_goto (tgt := 24) hX dX2_isAhead_20 (by decide) ?_
      exact g_zret hX hE (Or.inr rfl) dX2_isAhead_24 ⟨h, hs⟩
set_option maxRecDepth 100000 in
set_option maxHeartbeats 4000000 in
theorem bk_X2_isAhead_28 {X : gX} {G : gG} (hX : gOk X G cX2_isAhead 8 RX2 (some .boolean) 4) {Q : Int → gS → Prop} (hE : gEnd X G (gPi (fun v s' => Q v s' ∧ gRg s'))) (s : gS) (hs : gRg s) (x1 : Int) (x2 : Int) (x5 : Int)  (h : (rng x5) ∧ ((10 < x5 → Q 0 s) ∧ (x5 ≤ 10 → (0 ≤ x1 ∧ x1 < 10) ∧ (0 ≤ x2 ∧ x2 < 10) ∧ (rng ((gcr s x1 x5) - (gcr s x2 x5))) ∧ ((((gcr s x1 x5) - (gcr s x2 x5)) = 0 → (rng ((gsr s x2 x5) - (gsr s x1 x5))) ∧ ((((gsr s x2 x5) - (gsr s x1 x5)) = 0 → gWL X G s 28 [(0, gR G 5), (1, vi x1), (2, vi x2), (5, vi (x5 + 1))] []) ∧ (¬ (((gsr s x2 x5) - (gsr s x1 x5)) = 0) → ((((gsr s x2 x5) - (gsr s x1 x5)) ≤ 0 → Q 0 s) ∧ (0 < ((gsr s x2 x5) - (gsr s x1 x5)) → Q 1 s))))) ∧ (¬ (((gcr s x1 x5) - (gcr s x2 x5)) = 0) → ((((gcr s x1 x5) - (gcr s x2 x5)) ≤ 0 → Q 0 s) ∧ (0 < ((gcr s x1 x5) - (gcr s x2 x5)) → Q 1 s))))))) : gWL X G s 28 [(0, gR G 5), (1, vi x1), (2, vi x2), (5, vi x5)] [] := by
  refine g_iload hX dX2_isAhead_28 3 rfl ?_
  refine g_bipush hX dX2_isAhead_30 rfl ?_
  obtain ⟨h1, h⟩ := h
  refine g_icgt (tgt := 107) hX h1 (by unfold rng; omega) dX2_isAhead_32 (by decide) (fun c2 => ?_) (fun c2 => ?_)
  · replace h := h.1 c2
    refine g_iconst hX dX2_isAhead_107 ?_
    exact g_zret hX hE (Or.inl rfl) dX2_isAhead_108 ⟨h, hs⟩
  · replace h := h.2 (Int.not_lt.mp c2)
    refine g_aload_n hX dX2_isAhead_35 0 rfl ?_
    refine g_iload_n hX dX2_isAhead_36 1 rfl ?_
    refine g_iload hX dX2_isAhead_37 3 rfl ?_
    obtain ⟨h3, h⟩ := h
    refine g_cVf (As := [vi x1, vi x5]) hX (fun l => c_X2_countRanks l hX.inj s x1 x5 hs h1 h3) sh_5 cv_X2_50 (by decide) rfl (Nat.le_of_ble_eq_true rfl) dX2_isAhead_39 rfl (fun g4 => ?_)
    refine g_aload_n hX dX2_isAhead_42 0 rfl ?_
    refine g_iload_n hX dX2_isAhead_43 2 rfl ?_
    refine g_iload hX dX2_isAhead_44 3 rfl ?_
    obtain ⟨h5, h⟩ := h
    refine g_cVf (As := [vi x2, vi x5]) hX (fun l => c_X2_countRanks l hX.inj s x2 x5 hs h1 h5) sh_5 cv_X2_50 (by decide) rfl (Nat.le_of_ble_eq_true rfl) dX2_isAhead_46 rfl (fun g6 => ?_)
    refine g_isub hX dX2_isAhead_49 ?_
    refine g_istore (loc' := [(6, vi ((gcr s x1 x5) - (gcr s x2 x5))), (0, gR G 5), (1, vi x1), (2, vi x2), (5, vi x5)]) hX dX2_isAhead_50 (by decide) rfl ?_
    refine g_iload hX dX2_isAhead_52 0 rfl ?_
    obtain ⟨h7, h⟩ := h
    refine g_ifeq (tgt := 68) hX h7 dX2_isAhead_54 (by decide) (fun c8 => ?_) (fun c8 => ?_)
    · replace h := h.1 c8
      refine g_aload_n hX dX2_isAhead_68 1 rfl ?_
      refine g_iload_n hX dX2_isAhead_69 3 rfl ?_
      refine g_iload hX dX2_isAhead_70 4 rfl ?_
      refine g_cVf (As := [vi x2, vi x5]) hX (fun l => c_X2_sumRanks l hX.inj s x2 x5 hs h1 h5) sh_5 cv_X2_54 (by decide) rfl (Nat.le_of_ble_eq_true rfl) dX2_isAhead_72 rfl (fun g9 => ?_)
      refine g_aload_n hX dX2_isAhead_75 1 rfl ?_
      refine g_iload_n hX dX2_isAhead_76 2 rfl ?_
      refine g_iload hX dX2_isAhead_77 4 rfl ?_
      refine g_cVf (As := [vi x1, vi x5]) hX (fun l => c_X2_sumRanks l hX.inj s x1 x5 hs h1 h3) sh_5 cv_X2_54 (by decide) rfl (Nat.le_of_ble_eq_true rfl) dX2_isAhead_79 rfl (fun g10 => ?_)
      refine g_isub hX dX2_isAhead_82 ?_
      refine g_istore (loc' := [(7, vi ((gsr s x2 x5) - (gsr s x1 x5))), (6, vi ((gcr s x1 x5) - (gcr s x2 x5))), (0, gR G 5), (1, vi x1), (2, vi x2), (5, vi x5)]) hX dX2_isAhead_83 (by decide) rfl ?_
      refine g_iload hX dX2_isAhead_85 0 rfl ?_
      obtain ⟨h11, h⟩ := h
      refine g_ifeq (tgt := 101) hX h11 dX2_isAhead_87 (by decide) (fun c12 => ?_) (fun c12 => ?_)
      · replace h := h.1 c12
        refine g_iinc (loc' := [(5, vi (x5 + 1)), (7, vi ((gsr s x2 x5) - (gsr s x1 x5))), (6, vi ((gcr s x1 x5) - (gcr s x2 x5))), (0, gR G 5), (1, vi x1), (2, vi x2)]) hX dX2_isAhead_101 5 rfl (by decide) rfl ?_
        refine g_goto (tgt := 28) hX dX2_isAhead_104 (by decide) ?_
        exact g_sub [3, 4, 5, 0] rfl h
      · replace h := h.2 c12
        refine g_iload hX dX2_isAhead_90 0 rfl ?_
        refine g_ifle (tgt := 99) hX h11 dX2_isAhead_92 (by decide) (fun c13 => ?_) (fun c13 => ?_)
        · replace h := h.1 c13
          refine g_iconst hX dX2_isAhead_99 ?_
          exact g_zret hX hE (Or.inl rfl) dX2_isAhead_100 ⟨h, hs⟩
        · replace h := h.2 (Int.not_le.mp c13)
          refine g_iconst hX dX2_isAhead_95 ?_
          refine g_goto (tgt := 100) hX dX2_isAhead_96 (by decide) ?_
          exact g_zret hX hE (Or.inr rfl) dX2_isAhead_100 ⟨h, hs⟩
    · replace h := h.2 c8
      refine g_iload hX dX2_isAhead_57 0 rfl ?_
      refine g_ifle (tgt := 66) hX h7 dX2_isAhead_59 (by decide) (fun c14 => ?_) (fun c14 => ?_)
      · replace h := h.1 c14
        refine g_iconst hX dX2_isAhead_66 ?_
        exact g_zret hX hE (Or.inl rfl) dX2_isAhead_67 ⟨h, hs⟩
      · replace h := h.2 (Int.not_le.mp c14)
        refine g_iconst hX dX2_isAhead_62 ?_
        refine g_goto (tgt := 67) hX dX2_isAhead_63 (by decide) ?_
        exact g_zret hX hE (Or.inr rfl) dX2_isAhead_67 ⟨h, hs⟩
set_option maxRecDepth 100000 in
set_option maxHeartbeats 4000000 in
theorem c_X2_isAhead (l : Launch) {G : gG} (hG : gInj G) (s : gS) (x1 : Int) (x2 : Int) (x3 : Int) (p0 : gRg s) (p1 : gRk s) (p2 : 0 ≤ x1 ∧ x1 < 10) (p3 : 0 ≤ x2 ∧ x2 < 10) (p4 : 1 ≤ x3 ∧ x3 ≤ 10) : gMet l G yX2_isAhead cX2_isAhead 8 (some .boolean) 4 [gR G 5, vi x1, vi x2, vi x3] s (gPi (fun v s' => (v = (gahead s x1 x2 x3) ∧ s' = s) ∧ gRg s')) := by
  refine gMet_of (plainFor_of_name (by decide)) hG (Nat.le_of_ble_eq_true rfl) (fun X hX hE => ?_)
  refine bk_X2_isAhead_0 hX hE s p0 x1 x2 x3  ?_
  have hH := gH_bd (chj s) (crk s) x1
  refine ⟨p2, rng_of (by unfold ghalf; omega) (by unfold ghalf; omega), rng_of (by omega) (by omega), fun h => ?_, fun h => ⟨fun h2 => ⟨?_, rfl⟩, fun h2 => ⟨?_, rfl⟩⟩⟩
  · have he : gahead s x1 x2 x3 = gcmp (chj s) (crk s) x1 x2 x3 (11 - x3).toNat := if_pos h
    rw [he] at hE
    refine gloop (α := Unit) (hi := 11) (fun i _ => 1 ≤ i ∧ gcmp (chj s) (crk s) x1 x2 i (11 - i).toNat = gcmp (chj s) (crk s) x1 x2 x3 (11 - x3).toNat) (fun i _ => gWL X G s 28 [(0, gR G 5), (1, vi x1), (2, vi x2), (5, vi i)] []) ?_ ?_ x3 () (by omega) ⟨by omega, rfl⟩
    · intro i _ hi ⟨h0, hn⟩ next
      have hC1 := gC_bd (chj s) (crk s) x1 i
      have hC2 := gC_bd (chj s) (crk s) x2 i
      have hT1 := gT_bd (hj := chj s) (rk := crk s) (c := x1) (k := i) (fun j a b => p1 j x1 a b p2.1 p2.2)
      have hT2 := gT_bd (hj := chj s) (rk := crk s) (c := x2) (k := i) (fun j a b => p1 j x2 a b p3.1 p3.2)
      have e : (11 - i).toNat = (11 - (i + 1)).toNat + 1 := by omega
      rw [e, gcmp_s] at hn
      refine bk_X2_isAhead_28 hX hE s p0 x1 x2 i ⟨rng_of (by omega) (by omega), fun h => by omega, fun _ => ⟨p2, p3, rng_of (by unfold gcr; omega) (by unfold gcr; omega), fun h => ⟨rng_of (by unfold gsr; omega) (by unfold gsr; omega), fun h2 => next () ⟨by omega, ?_⟩, fun h2 => ⟨fun h3 => ⟨?_, rfl⟩, fun h3 => ⟨?_, rfl⟩⟩⟩, fun h => ⟨fun h3 => ⟨?_, rfl⟩, fun h3 => ⟨?_, rfl⟩⟩⟩⟩
      · unfold gcr at h; unfold gsr at h2
        rw [if_pos h, if_pos h2] at hn; exact hn
      · unfold gcr at h; unfold gsr at h2 h3
        rw [if_pos h, if_neg h2, gb_f (by omega)] at hn; exact hn
      · unfold gcr at h; unfold gsr at h2 h3
        rw [if_pos h, if_neg h2, gb_t (by omega)] at hn; exact hn
      · unfold gcr at h h3
        rw [if_neg h, gb_f (by omega)] at hn; exact hn
      · unfold gcr at h h3
        rw [if_neg h, gb_t (by omega)] at hn; exact hn
    · intro _ ⟨h0, hn⟩
      exact bk_X2_isAhead_28 hX hE s p0 x1 x2 11 ⟨rng_of (by omega) (by omega), fun _ => ⟨hn, rfl⟩, fun h => by omega⟩
  · have he : gahead s x1 x2 x3 = gb (gH (chj s) (crk s) x1 < x3) := if_neg h
    rw [he, gb_f (by unfold ghalf at h2; omega)]
  · have he : gahead s x1 x2 x3 = gb (gH (chj s) (crk s) x1 < x3) := if_neg h
    rw [he]; exact (gb_t h2).symm
set_option maxRecDepth 100000 in
set_option maxHeartbeats 4000000 in
theorem bk_X2_findPlace_0 {X : gX} {G : gG} (hX : gOk X G cX2_findPlace 5 RX2 (some .int) 5) {Q : Int → gS → Prop} (hE : gEnd X G (gPi (fun v s' => Q v s' ∧ gRg s'))) (s : gS) (hs : gRg s) (x1 : Int)  (h : (0 ≤ x1 ∧ x1 < 10) ∧ gWL X G s 11 [(0, gR G 5), (1, vi x1), (2, vi (ghalf s x1)), (3, vi 0), (4, vi 0)] []) : gWL X G s 0 [(0, gR G 5), (1, vi x1)] [] := by
  refine g_aload_n hX dX2_findPlace_0 0 rfl ?_
  refine g_iload_n hX dX2_findPlace_1 1 rfl ?_
  obtain ⟨h1, h⟩ := h
  refine g_cVf (As := [vi x1]) hX (fun l => c_X2_findGreaterHalf l hX.inj s x1 hs h1) sh_5 cv_X2_36 (by decide) rfl (Nat.le_of_ble_eq_true rfl) dX2_findPlace_2 rfl (fun g2 => ?_)
  refine g_istore_n (loc' := [(2, vi (ghalf s x1)), (0, gR G 5), (1, vi x1)]) hX dX2_findPlace_5 (by decide) rfl ?_
  refine g_iconst hX dX2_findPlace_6 ?_
  refine g_istore_n (loc' := [(3, vi 0), (2, vi (ghalf s x1)), (0, gR G 5), (1, vi x1)]) hX dX2_findPlace_7 (by decide) rfl ?_
  refine g_iconst hX dX2_findPlace_8 ?_
  refine g_istore (loc' := [(4, vi 0), (3, vi 0), (2, vi (ghalf s x1)), (0, gR G 5), (1, vi x1)]) hX dX2_findPlace_9 (by decide) rfl ?_
  exact g_sub [3, 4, 2, 1, 0] rfl h
set_option maxRecDepth 100000 in
set_option maxHeartbeats 4000000 in
theorem bk_X2_findPlace_11 {X : gX} {G : gG} (hX : gOk X G cX2_findPlace 5 RX2 (some .int) 5) {Q : Int → gS → Prop} (hE : gEnd X G (gPi (fun v s' => Q v s' ∧ gRg s'))) (s : gS) (hs : gRg s) (x1 : Int) (x2 : Int) (x3 : Int) (x4 : Int)  (h : (rng x4) ∧ ((10 ≤ x4 → Q (x3 + 1) s) ∧ (x4 < 10 → ((¬ ((0 ≤ x4 ∧ x4 ≤ 9) ∧ gbit (s.1 5 0) x4 = 1) → gWL X G s 11 [(0, gR G 5), (1, vi x1), (2, vi x2), (3, vi x3), (4, vi (x4 + 1))] []) ∧ ((0 ≤ x4 ∧ x4 ≤ 9) ∧ gbit (s.1 5 0) x4 = 1 → (gRk s) ∧ (0 ≤ x4 ∧ x4 < 10) ∧ (0 ≤ x1 ∧ x1 < 10) ∧ (1 ≤ x2 ∧ x2 ≤ 10) ∧ (rng (gahead s x4 x1 x2)) ∧ (((gahead s x4 x1 x2) = 0 → gWL X G s 11 [(0, gR G 5), (1, vi x1), (2, vi x2), (3, vi x3), (4, vi (x4 + 1))] []) ∧ (¬ ((gahead s x4 x1 x2) = 0) → gWL X G s 11 [(0, gR G 5), (1, vi x1), (2, vi x2), (3, vi (x3 + 1)), (4, vi (x4 + 1))] []))))))) : gWL X G s 11 [(0, gR G 5), (1, vi x1), (2, vi x2), (3, vi x3), (4, vi x4)] [] := by
  refine g_iload hX dX2_findPlace_11 4 rfl ?_
  refine g_bipush hX dX2_findPlace_13 rfl ?_
  obtain ⟨h1, h⟩ := h
  refine g_icge (tgt := 47) hX h1 (by unfold rng; omega) dX2_findPlace_15 (by decide) (fun c2 => ?_) (fun c2 => ?_)
  · replace h := h.1 c2
    refine g_iload_n hX dX2_findPlace_47 3 rfl ?_
    refine g_iconst hX dX2_findPlace_48 ?_
    refine g_iadd hX dX2_findPlace_49 ?_
    exact g_iret hX hE dX2_findPlace_50 ⟨h, hs⟩
  · replace h := h.2 (Int.not_le.mp c2)
    refine g_aload_n hX dX2_findPlace_18 0 rfl ?_
    refine g_iload hX dX2_findPlace_19 4 rfl ?_
    refine g_cVf (As := [vi x4]) hX (fun l => c_X2_isSinging l hX.inj s x4 hs h1) sh_5 cv_X2_40 (by decide) rfl (Nat.le_of_ble_eq_true rfl) dX2_findPlace_21 rfl (fun g3 => ?_)
    refine g_ifeq (tgt := 41) hX (gb_rng _) dX2_findPlace_24 (by decide) (fun c4 => ?_) (fun c4 => ?_)
    · replace h := h.1 (gb_eq0.mp c4)
      refine g_iinc (loc' := [(4, vi (x4 + 1)), (0, gR G 5), (1, vi x1), (2, vi x2), (3, vi x3)]) hX dX2_findPlace_41 4 rfl (by decide) rfl ?_
      refine g_goto (tgt := 11) hX dX2_findPlace_44 (by decide) ?_
      exact g_sub [1, 2, 3, 4, 0] rfl h
    · replace h := h.2 (gb_n0.mp c4)
      refine g_aload_n hX dX2_findPlace_27 0 rfl ?_
      refine g_iload hX dX2_findPlace_28 4 rfl ?_
      refine g_iload_n hX dX2_findPlace_30 1 rfl ?_
      refine g_iload_n hX dX2_findPlace_31 2 rfl ?_
      obtain ⟨h5, h⟩ := h
      obtain ⟨h6, h⟩ := h
      obtain ⟨h7, h⟩ := h
      obtain ⟨h8, h⟩ := h
      refine g_cVf (As := [vi x4, vi x1, vi x2]) hX (fun l => c_X2_isAhead l hX.inj s x4 x1 x2 hs h5 h6 h7 h8) sh_5 cv_X2_43 (by decide) rfl (Nat.le_of_ble_eq_true rfl) dX2_findPlace_32 rfl (fun g9 => ?_)
      obtain ⟨h10, h⟩ := h
      refine g_ifeq (tgt := 41) hX h10 dX2_findPlace_35 (by decide) (fun c11 => ?_) (fun c11 => ?_)
      · replace h := h.1 c11
        refine g_iinc (loc' := [(4, vi (x4 + 1)), (0, gR G 5), (1, vi x1), (2, vi x2), (3, vi x3)]) hX dX2_findPlace_41 4 rfl (by decide) rfl ?_
        refine g_goto (tgt := 11) hX dX2_findPlace_44 (by decide) ?_
        exact g_sub [1, 2, 3, 4, 0] rfl h
      · replace h := h.2 c11
        refine g_iinc (loc' := [(3, vi (x3 + 1)), (0, gR G 5), (1, vi x1), (2, vi x2), (4, vi x4)]) hX dX2_findPlace_38 3 rfl (by decide) rfl ?_
        refine g_iinc (loc' := [(4, vi (x4 + 1)), (3, vi (x3 + 1)), (0, gR G 5), (1, vi x1), (2, vi x2)]) hX dX2_findPlace_41 4 rfl (by decide) rfl ?_
        refine g_goto (tgt := 11) hX dX2_findPlace_44 (by decide) ?_
        exact g_sub [2, 3, 4, 1, 0] rfl h
set_option maxRecDepth 100000 in
set_option maxHeartbeats 4000000 in
theorem c_X2_findPlace (l : Launch) {G : gG} (hG : gInj G) (s : gS) (x1 : Int) (p0 : gRg s) (p1 : gRk s) (p2 : 0 ≤ x1 ∧ x1 < 10) : gMet l G yX2_findPlace cX2_findPlace 5 (some .int) 5 [gR G 5, vi x1] s (gPi (fun v s' => (v = (gplace s x1) ∧ s' = s) ∧ gRg s')) := by
  refine gMet_of (plainFor_of_name (by decide)) hG (Nat.le_of_ble_eq_true rfl) (fun X hX hE => ?_)
  refine bk_X2_findPlace_0 hX hE s p0 x1  ?_
  have hH := gH_bd (chj s) (crk s) x1
  refine ⟨p2, ?_⟩
  refine gloop (α := Int) (hi := 10) (fun i n => 0 ≤ i ∧ n = gsum (fun o => if ((0 ≤ o ∧ o ≤ 9) ∧ gbit (s.1 5 0) o = 1) ∧ gAhead (chj s) (crk s) o x1 (gH (chj s) (crk s) x1) = 1 then 1 else 0) i) (fun i n => gWL X G s 11 [(0, gR G 5), (1, vi x1), (2, vi (ghalf s x1)), (3, vi n), (4, vi i)] []) ?_ ?_ 0 0 (by omega) ⟨by omega, rfl⟩
  · intro i n hi ⟨h0, hn⟩ next
    have hA := gAhead_01 (chj s) (crk s) i x1 (gH (chj s) (crk s) x1)
    refine bk_X2_findPlace_11 hX hE s p0 x1 (ghalf s x1) n i ⟨rng_of (by omega) (by omega), fun h => by omega, fun _ => ⟨fun h => next _ ⟨by omega, ?_⟩, fun h => ⟨p1, by omega, p2, hH, rng_of (by unfold gahead ghalf; omega) (by unfold gahead ghalf; omega), fun h2 => next _ ⟨by omega, ?_⟩, fun h2 => next _ ⟨by omega, ?_⟩⟩⟩⟩
    · rw [gsum_s _ h0, hn, if_neg (fun z => h z.1)]; omega
    · rw [gsum_s _ h0, hn, if_neg (fun z => by have := z.2; unfold gahead ghalf at h2; omega)]; omega
    · rw [gsum_s _ h0, hn, if_pos ⟨h, by unfold gahead ghalf at h2; omega⟩]
  · intro n ⟨h0, hn⟩
    exact bk_X2_findPlace_11 hX hE s p0 x1 (ghalf s x1) n 10 ⟨rng_of (by omega) (by omega), fun _ => ⟨by rw [hn]; rfl, rfl⟩, fun h => by omega⟩
end
section
theorem fl_X8_60 : gFL RX8 60 8 17 := ⟨RX8, TX8, 34, tyX8, rfl, by decide, inG_X8, (gm_3 55 rfl rfl), tyX8_ok, nmX8, fun h => absurd h (by decide)⟩
theorem fl_X8_63 : gFL RX8 63 8 18 := ⟨RX8, TX8, 34, tyX8, rfl, by decide, inG_X8, (gm_3 56 rfl rfl), tyX8_ok, nmX8, fun h => absurd h (by decide)⟩
theorem fl_X8_66 : gFL RX8 66 8 19 := ⟨RX8, TX8, 34, tyX8, rfl, by decide, inG_X8, (gm_3 57 rfl rfl), tyX8_ok, nmX8, fun h => absurd h (by decide)⟩
theorem fl_X8_141 : gFL RX8 141 8 16 := ⟨RX8, TX8, 34, tyX8, rfl, by decide, inG_X8, (gm_3 54 rfl rfl), tyX8_ok, nmX8, fun _ => rfl⟩
theorem cv_X8_144 : gCS RX8 144 yX8_ones cX8_ones 3 (some .int) 1 := ⟨(gm_3 217 rfl rfl), (gm_3 218 rfl rfl), (gm_1 9 rfl rfl), (gm_3 219 rfl rfl), ⟨by decide, by decide, by decide +kernel⟩, by decide⟩
theorem cv_X8_149 : gCV RX8 149 yX8_hasJudge cX8_hasJudge 2 (some .boolean) 1 8 := ⟨TX8, 34, rfl, (gm_3 229 rfl rfl), (gm_3 231 rfl rfl), (gm_s 24 rfl rfl), (gm_1 9 rfl rfl), (gm_3 232 rfl rfl), ⟨by decide, by decide, by decide +kernel⟩, by decide⟩
theorem cv_X8_152 : gCV RX8 152 yX8_ranked cX8_ranked 6 (some .int) 3 8 := ⟨TX8, 34, rfl, (gm_4 6 rfl rfl), (gm_4 8 rfl rfl), (gm_s 27 rfl rfl), (gm_1 9 rfl rfl), (gm_4 9 rfl rfl), ⟨by decide, by decide, by decide +kernel⟩, by decide⟩
theorem cv_X8_160 : gCV RX8 160 yX8_sings cX8_sings 2 (some .boolean) 1 8 := ⟨TX8, 34, rfl, (gm_3 237 rfl rfl), (gm_3 239 rfl rfl), (gm_s 25 rfl rfl), (gm_1 9 rfl rfl), (gm_4 0 rfl rfl), ⟨by decide, by decide, by decide +kernel⟩, by decide⟩
theorem ldc_X8_147 : Cond.constantLong RX8 147 15 ∈ gAll := (gm_3 224 rfl rfl)
/-! ===== the reference's judges ===== -/
def mclub (y : Int64) (i : Int) : Int := gl2i ((glshr y (4 * i)) &&& 15)
def mhj (s : gS) (j : Int) : Bool := decide (0 < (s.2 418 j) ∧ (s.2 419 j) = (s.1 400 16))
def mrk (s : gS) (j c : Int) : Int := s.2 420 ((10 * j) + c)
def mRk (s : gS) : Prop := ∀ i : Int, 0 ≤ i → i < 90 → 0 ≤ s.2 420 i ∧ s.2 420 i ≤ 10
def mranked (s : gS) (c k b : Int) : Int := if b = 0 then gC (mhj s) (mrk s) c k else gT (mhj s) (mrk s) c k
def gag (hj : Int → Bool) (rk : Int → Int → Int) (a b : Int) : Int → Nat → Int
  | _, 0 => 0
  | q, n + 1 => if gC hj rk b q - gC hj rk a q = 0 then (if gT hj rk a q - gT hj rk b q = 0 then gag hj rk a b (q + 1) n else gT hj rk a q - gT hj rk b q) else gC hj rk b q - gC hj rk a q
theorem gag_s (hj : Int → Bool) (rk : Int → Int → Int) (a b q : Int) (n : Nat) : gag hj rk a b q (n + 1) = if gC hj rk b q - gC hj rk a q = 0 then (if gT hj rk a q - gT hj rk b q = 0 then gag hj rk a b (q + 1) n else gT hj rk a q - gT hj rk b q) else gC hj rk b q - gC hj rk a q := rfl
def mag (s : gS) (a b k : Int) : Int := gag (mhj s) (mrk s) a b k (gones (s.1 400 16) + 1 - k).toNat
theorem gsum_tail {f : Int → Int} {m n : Int} (h0 : 0 ≤ m) (h1 : m ≤ n) (h : ∀ i, m ≤ i → i < n → f i = 0) : gsum f n = gsum f m := by
  have key : ∀ (d : Nat) (n : Int), n = m + d → (∀ i, m ≤ i → i < n → f i = 0) → gsum f n = gsum f m := by
    intro d
    induction d with
    | zero => intro n hn _; rw [show n = m by omega]
    | succ d ih =>
      intro n hn hz
      have e : n = (n - 1) + 1 := by omega
      rw [e, gsum_s _ (by omega), ih (n - 1) (by omega) (fun i a b => hz i a (by omega)), hz (n - 1) (by omega) (by omega)]
      omega
  exact key (n - m).toNat n (by omega) h
theorem gones_bd (b : Int) : 0 ≤ gones b ∧ gones b ≤ 30 := by
  have := gsum_bd (f := fun k => gbit b k) (n := 30) (lo := 0) (hi := 1) (by omega) (fun i h0 h1 => by have := gbit01 (b := b) (i := i) h0 (by omega); omega)
  unfold gones; omega
theorem gones_n {b : Int} (n : Nat) (hn : n < 30) (h0 : 0 ≤ b) (h1 : b < (2 ^ n : Nat)) : gones b = gsum (fun k => gbit b k) n := by
  unfold gones
  exact gsum_tail (by omega) (by omega) (fun i h2 h3 => gbit_hi n h0 h1 h2 (by omega) (by omega))
theorem gones_10 {b : Int} (h0 : 0 ≤ b) (h1 : b < 1024) : gones b ≤ 10 := by
  rw [gones_n 10 (by omega) h0 h1]
  have := gsum_bd (f := fun k => gbit b k) (n := 10) (lo := 0) (hi := 1) (by omega) (fun i h0 h1 => by have := gbit01 (b := b) (i := i) h0 (by omega); omega)
  have e : ((10 : Nat) : Int) = 10 := rfl
  rw [e]; omega
theorem mclub_bd (y : Int64) (i : Int) : 0 ≤ mclub y i ∧ mclub y i ≤ 15 := by
  have e : mclub y i = gand (gl2i (glshr y (4 * i))) 15 := by
    unfold mclub gl2i gand
    rw [Int64.toInt32_and, Int32.ofInt_toInt]
    rfl
  rw [e]
  exact gand15 _
theorem mT_bd {s : gS} {c k : Int} (h : mRk s) (h0 : 0 ≤ c) (h1 : c < 10) : 0 ≤ gT (mhj s) (mrk s) c k ∧ gT (mhj s) (mrk s) c k ≤ 90 := gT_bd (fun j a b => h _ (by omega) (by omega))
set_option maxRecDepth 100000 in
set_option maxHeartbeats 4000000 in
theorem bk_X8_judge_0 {X : gX} {G : gG} (hX : gOk X G cX8_judge 8 RX8 (some .boolean) 2) {Q : Int → gS → Prop} (hE : gEnd X G (gPi (fun v s' => Q v s' ∧ gRg s'))) (s : gS) (hs : gRg s) (x1 : Int) (x2 : Int) (y3 : Int64)  (h : (rng x1) ∧ ((¬ (0 ≤ x1 ∧ x1 ≤ 8) → Q 0 s) ∧ (0 ≤ x1 ∧ x1 ≤ 8 → (rng x2) ∧ ((0 ≤ x2 ∧ x2 ≤ 10 → gWL X G s 28 [(0, gR G 400), (1, vi x1), (2, vi x2), (3, .long y3), (5, vi 0), (6, vi 0)] []) ∧ (¬ (0 ≤ x2 ∧ x2 ≤ 10) → Q 0 s))))) : gWL X G s 0 [(0, gR G 400), (1, vi x1), (2, vi x2), (3, .long y3)] [] := by
  refine g_iload_n hX dX8_judge_0 1 rfl ?_
  refine g_iconst hX dX8_judge_1 ?_
  refine g_bipush hX dX8_judge_2 rfl ?_
  obtain ⟨h1, h⟩ := h
  refine g_cSf (As := [vi x1, vi 0, vi 8]) hX (fun l => c_X8_isIn l hX.inj s x1 0 8 hs h1 (by unfold rng; omega) (by unfold rng; omega)) cv_X8_102 (by decide) rfl (Nat.le_of_ble_eq_true rfl) dX8_judge_4 rfl (fun g2 => ?_)
  refine g_ifeq (tgt := 20) hX (gb_rng _) dX8_judge_7 (by decide) (fun c3 => ?_) (fun c3 => ?_)
  · replace h := h.1 (gb_eq0.mp c3)
    refine g_iconst hX dX8_judge_20 ?_
    exact g_zret hX hE (Or.inl rfl) dX8_judge_21 ⟨h, hs⟩
  · replace h := h.2 (gb_n0.mp c3)
    refine g_iload_n hX dX8_judge_10 2 rfl ?_
    refine g_iconst hX dX8_judge_11 ?_
    refine g_bipush hX dX8_judge_12 rfl ?_
    obtain ⟨h4, h⟩ := h
    refine g_cSf (As := [vi x2, vi 0, vi 10]) hX (fun l => c_X8_isIn l hX.inj s x2 0 10 hs h4 (by unfold rng; omega) (by unfold rng; omega)) cv_X8_102 (by decide) rfl (Nat.le_of_ble_eq_true rfl) dX8_judge_14 rfl (fun g5 => ?_)
    refine g_ifne (tgt := 22) hX (gb_rng _) dX8_judge_17 (by decide) (fun c6 => ?_) (fun c6 => ?_)
    · replace h := h.1 (gb_n0.mp c6)
      refine g_iconst hX dX8_judge_22 ?_
      refine g_istore (loc' := [(5, vi 0), (0, gR G 400), (1, vi x1), (2, vi x2), (3, .long y3)]) hX dX8_judge_23 (by decide) rfl ?_
      refine g_iconst hX dX8_judge_25 ?_
      refine g_istore (loc' := [(6, vi 0), (5, vi 0), (0, gR G 400), (1, vi x1), (2, vi x2), (3, .long y3)]) hX dX8_judge_26 (by decide) rfl ?_
      exact g_sub [2, 3, 4, 5, 1, 0] rfl h
    · replace h := h.2 (gb_eq0.mp (gnn c6))
      refine g_iconst hX dX8_judge_20 ?_
      exact g_zret hX hE (Or.inl rfl) dX8_judge_21 ⟨h, hs⟩
set_option maxRecDepth 100000 in
set_option maxHeartbeats 4000000 in
theorem bk_X8_judge_28 {X : gX} {G : gG} (hX : gOk X G cX8_judge 8 RX8 (some .boolean) 2) {Q : Int → gS → Prop} (hE : gEnd X G (gPi (fun v s' => Q v s' ∧ gRg s'))) (s : gS) (hs : gRg s) (x1 : Int) (x2 : Int) (y3 : Int64) (x5 : Int) (x6 : Int)  (h : (rng x6) ∧ (rng x2) ∧ ((x2 ≤ x6 → (0 ≤ x1 ∧ x1 < 9) ∧ (rng x5) ∧ gWL X G (gpA (gpA s 418 x1 x2) 419 x1 x5) 100 [(0, gR G 400), (1, vi x1), (2, vi x2), (3, .long y3), (6, vi 0)] []) ∧ (x6 < x2 → ((10 ≤ (gl2i ((glshr y3 (4 * x6)) &&& 15)) → Q 0 s) ∧ ((gl2i ((glshr y3 (4 * x6)) &&& 15)) < 10 → ((¬ (gand (gshr x5 (gl2i ((glshr y3 (4 * x6)) &&& 15))) 1) = 1 → gWL X G s 28 [(0, gR G 400), (1, vi x1), (2, vi x2), (3, .long y3), (5, vi (gor x5 (gshl 1 (gl2i ((glshr y3 (4 * x6)) &&& 15))))), (6, vi (x6 + 1))] []) ∧ ((gand (gshr x5 (gl2i ((glshr y3 (4 * x6)) &&& 15))) 1) = 1 → Q 0 s))))))) : gWL X G s 28 [(0, gR G 400), (1, vi x1), (2, vi x2), (3, .long y3), (5, vi x5), (6, vi x6)] [] := by
  refine g_iload hX dX8_judge_28 5 rfl ?_
  refine g_iload_n hX dX8_judge_30 2 rfl ?_
  obtain ⟨h1, h⟩ := h
  obtain ⟨h2, h⟩ := h
  refine g_icge (tgt := 82) hX h1 h2 dX8_judge_31 (by decide) (fun c3 => ?_) (fun c3 => ?_)
  · replace h := h.1 c3
    refine g_aload_n hX dX8_judge_82 0 rfl ?_
    refine g_getR hX sh_400 17 rfl fl_X8_60 dX8_judge_83 ?_
    refine g_iload_n hX dX8_judge_86 1 rfl ?_
    refine g_iload_n hX dX8_judge_87 2 rfl ?_
    obtain ⟨h4, h⟩ := h
    refine g_iast hX sh_418 h4 (by decide) dX8_judge_88 ?_
    refine g_aload_n hX dX8_judge_89 0 rfl ?_
    refine g_getR hX sh_400 18 rfl fl_X8_63 dX8_judge_90 ?_
    refine g_iload_n hX dX8_judge_93 1 rfl ?_
    refine g_iload hX dX8_judge_94 4 rfl ?_
    obtain ⟨h5, h⟩ := h
    refine g_iast hX sh_419 h4 (by decide) dX8_judge_96 ?_
    refine g_iconst hX dX8_judge_97 ?_
    refine g_istore (loc' := [(6, vi 0), (0, gR G 400), (1, vi x1), (2, vi x2), (3, .long y3), (5, vi x5)]) hX dX8_judge_98 (by decide) rfl ?_
    exact g_sub [1, 2, 3, 4, 0] rfl h
  · replace h := h.2 (Int.not_le.mp c3)
    refine g_lload_n hX dX8_judge_34 3 rfl ?_
    refine g_iconst hX dX8_judge_35 ?_
    refine g_iload hX dX8_judge_36 5 rfl ?_
    refine g_imul hX dX8_judge_38 ?_
    refine g_lshr hX dX8_judge_39 ?_
    refine g_ldc2 (v := 15) hX ldc_X8_147 dX8_judge_40 ?_
    refine g_land hX dX8_judge_43 ?_
    refine g_l2i hX dX8_judge_44 ?_
    refine g_istore (loc' := [(7, vi (gl2i ((glshr y3 (4 * x6)) &&& 15))), (0, gR G 400), (1, vi x1), (2, vi x2), (3, .long y3), (5, vi x5), (6, vi x6)]) hX dX8_judge_45 (by decide) rfl ?_
    refine g_iload hX dX8_judge_47 0 rfl ?_
    refine g_bipush hX dX8_judge_49 rfl ?_
    refine g_icge (tgt := 65) hX (rng_i _) (by unfold rng; omega) dX8_judge_51 (by decide) (fun c6 => ?_) (fun c6 => ?_)
    · replace h := h.1 c6
      refine g_iconst hX dX8_judge_65 ?_
      exact g_zret hX hE (Or.inl rfl) dX8_judge_66 ⟨h, hs⟩
    · replace h := h.2 (Int.not_le.mp c6)
      refine g_iload hX dX8_judge_54 5 rfl ?_
      refine g_iload hX dX8_judge_56 0 rfl ?_
      refine g_ishr hX dX8_judge_58 ?_
      refine g_iconst hX dX8_judge_59 ?_
      refine g_iand hX dX8_judge_60 ?_
      refine g_iconst hX dX8_judge_61 ?_
      refine g_icne (tgt := 67) hX (rng_i _) (by unfold rng; omega) dX8_judge_62 (by decide) (fun c7 => ?_) (fun c7 => ?_)
      · replace h := h.1 c7
        refine g_iload hX dX8_judge_67 5 rfl ?_
        refine g_iconst hX dX8_judge_69 ?_
        refine g_iload hX dX8_judge_70 0 rfl ?_
        refine g_ishl hX dX8_judge_72 ?_
        refine g_ior hX dX8_judge_73 ?_
        refine g_istore (loc' := [(5, vi (gor x5 (gshl 1 (gl2i ((glshr y3 (4 * x6)) &&& 15))))), (7, vi (gl2i ((glshr y3 (4 * x6)) &&& 15))), (0, gR G 400), (1, vi x1), (2, vi x2), (3, .long y3), (6, vi x6)]) hX dX8_judge_74 (by decide) rfl ?_
        refine g_iinc (loc' := [(6, vi (x6 + 1)), (5, vi (gor x5 (gshl 1 (gl2i ((glshr y3 (4 * x6)) &&& 15))))), (7, vi (gl2i ((glshr y3 (4 * x6)) &&& 15))), (0, gR G 400), (1, vi x1), (2, vi x2), (3, .long y3)]) hX dX8_judge_76 6 rfl (by decide) rfl ?_
        refine g_goto (tgt := 28) hX dX8_judge_79 (by decide) ?_
        exact g_sub [3, 4, 5, 6, 1, 0] rfl h
      · replace h := h.2 (gnn c7)
        refine g_iconst hX dX8_judge_65 ?_
        exact g_zret hX hE (Or.inl rfl) dX8_judge_66 ⟨h, hs⟩
set_option maxRecDepth 100000 in
set_option maxHeartbeats 4000000 in
theorem bk_X8_judge_100 {X : gX} {G : gG} (hX : gOk X G cX8_judge 8 RX8 (some .boolean) 2) {Q : Int → gS → Prop} (hE : gEnd X G (gPi (fun v s' => Q v s' ∧ gRg s'))) (s : gS) (hs : gRg s) (x1 : Int) (x2 : Int) (y3 : Int64) (x6 : Int)  (h : (rng x6) ∧ (rng x2) ∧ ((x2 ≤ x6 → Q 1 s) ∧ (x6 < x2 → (0 ≤ ((10 * x1) + (gl2i ((glshr y3 (4 * x6)) &&& 15))) ∧ ((10 * x1) + (gl2i ((glshr y3 (4 * x6)) &&& 15))) < 90) ∧ (rng (x6 + 1)) ∧ gWL X G (gpA s 420 ((10 * x1) + (gl2i ((glshr y3 (4 * x6)) &&& 15))) (x6 + 1)) 100 [(0, gR G 400), (1, vi x1), (2, vi x2), (3, .long y3), (6, vi (x6 + 1))] []))) : gWL X G s 100 [(0, gR G 400), (1, vi x1), (2, vi x2), (3, .long y3), (6, vi x6)] [] := by
  refine g_iload hX dX8_judge_100 4 rfl ?_
  refine g_iload_n hX dX8_judge_102 2 rfl ?_
  obtain ⟨h1, h⟩ := h
  obtain ⟨h2, h⟩ := h
  refine g_icge (tgt := 137) hX h1 h2 dX8_judge_103 (by decide) (fun c3 => ?_) (fun c3 => ?_)
  · replace h := h.1 c3
    refine g_iconst hX dX8_judge_137 ?_
    exact g_zret hX hE (Or.inr rfl) dX8_judge_138 ⟨h, hs⟩
  · replace h := h.2 (Int.not_le.mp c3)
    refine g_aload_n hX dX8_judge_106 0 rfl ?_
    refine g_getR hX sh_400 19 rfl fl_X8_66 dX8_judge_107 ?_
    refine g_bipush hX dX8_judge_110 rfl ?_
    refine g_iload_n hX dX8_judge_112 1 rfl ?_
    refine g_imul hX dX8_judge_113 ?_
    refine g_lload_n hX dX8_judge_114 3 rfl ?_
    refine g_iconst hX dX8_judge_115 ?_
    refine g_iload hX dX8_judge_116 4 rfl ?_
    refine g_imul hX dX8_judge_118 ?_
    refine g_lshr hX dX8_judge_119 ?_
    refine g_ldc2 (v := 15) hX ldc_X8_147 dX8_judge_120 ?_
    refine g_land hX dX8_judge_123 ?_
    refine g_l2i hX dX8_judge_124 ?_
    refine g_iadd hX dX8_judge_125 ?_
    refine g_iload hX dX8_judge_126 4 rfl ?_
    refine g_iconst hX dX8_judge_128 ?_
    refine g_iadd hX dX8_judge_129 ?_
    obtain ⟨h4, h⟩ := h
    obtain ⟨h5, h⟩ := h
    refine g_iast hX sh_420 h4 (by decide) dX8_judge_130 ?_
    refine g_iinc (loc' := [(6, vi (x6 + 1)), (0, gR G 400), (1, vi x1), (2, vi x2), (3, .long y3)]) hX dX8_judge_131 4 rfl (by decide) rfl ?_
    refine g_goto (tgt := 100) hX dX8_judge_134 (by decide) ?_
    exact g_sub [1, 2, 3, 4, 0] rfl h
set_option maxRecDepth 100000 in
set_option maxHeartbeats 4000000 in
theorem c_X8_judge (l : Launch) {G : gG} (hG : gInj G) (s : gS) (x1 : Int) (x2 : Int) (y3 : Int64) (p0 : gRg s) (p1 : rng x1) (p2 : rng x2) : gMet l G yX8_judge cX8_judge 8 (some .boolean) 2 [gR G 400, vi x1, vi x2, .long y3] s (gPi (fun v s' => (((0 ≤ x1 ∧ x1 ≤ 8) ∧ (0 ≤ x2 ∧ x2 ≤ 10) ∧ gvalid (mclub y3) x2 → v = 1 ∧ s' = granks (gpA (gpA s 418 x1 x2) 419 x1 (gbitsOf (mclub y3) x2)) 420 (fun i => 10 * x1 + mclub y3 i) x2) ∧ (¬ ((0 ≤ x1 ∧ x1 ≤ 8) ∧ (0 ≤ x2 ∧ x2 ≤ 10) ∧ gvalid (mclub y3) x2) → v = 0 ∧ s' = s)) ∧ gRg s')) := by
  refine gMet_of (plainFor_of_name (by decide)) hG (Nat.le_of_ble_eq_true rfl) (fun X hX hE => ?_)
  refine bk_X8_judge_0 hX hE s p0 x1 x2 y3  ?_
  have hf := mclub_bd y3
  have hm : ∀ i, mclub y3 i = (gl2i ((glshr y3 (4 * i)) &&& 15)) := fun _ => rfl
  refine ⟨p1, fun a1 => ⟨fun z => absurd z.1 a1, fun _ => ⟨rfl, rfl⟩⟩, fun a1 => ⟨p2, fun a2 => ?_, fun a2 => ⟨fun z => absurd z.2.1 a2, fun _ => ⟨rfl, rfl⟩⟩⟩⟩
  refine gloop (α := Int) (hi := x2) (fun i b => 0 ≤ i ∧ b = gbitsOf (mclub y3) i ∧ gvalid (mclub y3) i) (fun i b => gWL X G s 28 [(0, gR G 400), (1, vi x1), (2, vi x2), (3, .long y3), (5, vi b), (6, vi i)] []) ?_ ?_ 0 0 a2.1 ⟨by omega, rfl, fun i h0 h1 => by omega⟩
  · intro i b hi ⟨h0, hb, hv⟩ next
    refine bk_X8_judge_28 hX hE s p0 x1 x2 y3 b i ⟨rng_of (by omega) (by omega), p2, fun h => by omega, fun _ => ⟨fun h => ?_, fun h => ⟨fun h2 => next _ ⟨by omega, ?_, ?_⟩, fun h2 => ?_⟩⟩⟩
    · exact ⟨fun z => by have := (z.2.2 i h0 hi).1; rw [hm] at this; omega, fun _ => ⟨rfl, rfl⟩⟩
    · unfold gbitsOf; rw [giter_s _ _ h0, hb]; rfl
    · intro i' h0' h1'
      by_cases e : i' = i
      · subst e
        exact ⟨h, by rw [← hb]; exact h2⟩
      · exact hv i' h0' (by omega)
    · exact ⟨fun z => absurd (by rw [← hb]; exact h2) (z.2.2 i h0 hi).2, fun _ => ⟨rfl, rfl⟩⟩
  · intro b ⟨h0, hb, hv⟩
    refine bk_X8_judge_28 hX hE s p0 x1 x2 y3 b x2 ⟨p2, p2, fun _ => ⟨by omega, by rw [hb]; exact gbitsOf_rng _ _, ?_⟩, fun h => by omega⟩
    subst hb
    have hg0 : gRg (gpA (gpA s 418 x1 x2) 419 x1 (gbitsOf (mclub y3) x2)) := gRg_A (gRg_A p0 p2) (gbitsOf_rng _ _)
    refine gloop (α := gS) (hi := x2) (fun i t => 0 ≤ i ∧ t = granks (gpA (gpA s 418 x1 x2) 419 x1 (gbitsOf (mclub y3) x2)) 420 (fun i => 10 * x1 + mclub y3 i) i) (fun i t => gWL X G t 100 [(0, gR G 400), (1, vi x1), (2, vi x2), (3, .long y3), (6, vi i)] []) ?_ ?_ 0 _ a2.1 ⟨by omega, rfl⟩
    · intro i t hi ⟨h0', ht⟩ next
      have hg : gRg t := by rw [ht]; exact granks_rg hg0 h0' (by omega)
      have h1 := (hv i h0' hi).1
      have h2 := hf i
      rw [hm] at h1 h2
      exact bk_X8_judge_100 hX hE t hg x1 x2 y3 i ⟨rng_of (by omega) (by omega), p2, fun h => by omega, fun _ => ⟨by omega, rng_of (by omega) (by omega), next _ ⟨by omega, by unfold granks; rw [giter_s _ _ h0', ht]; rfl⟩⟩⟩
    · intro t ⟨h0', ht⟩
      have hg : gRg t := by rw [ht]; exact granks_rg hg0 h0' (by omega)
      exact bk_X8_judge_100 hX hE t hg x1 x2 y3 x2 ⟨p2, p2, fun _ => ⟨fun _ => ⟨rfl, ht⟩, fun z => absurd ⟨a1, a2, hv⟩ z⟩, fun h => by omega⟩
set_option maxRecDepth 100000 in
set_option maxHeartbeats 4000000 in
theorem bk_X8_hasJudge_0 {X : gX} {G : gG} (hX : gOk X G cX8_hasJudge 2 RX8 (some .boolean) 1) {Q : Int → gS → Prop} (hE : gEnd X G (gPi (fun v s' => Q v s' ∧ gRg s'))) (s : gS) (hs : gRg s) (x1 : Int)  (h : (0 ≤ x1 ∧ x1 < 9) ∧ (((s.2 418 x1) ≤ 0 → Q 0 s) ∧ (0 < (s.2 418 x1) → ((¬ (s.2 419 x1) = (s.1 400 16) → Q 0 s) ∧ ((s.2 419 x1) = (s.1 400 16) → Q 1 s))))) : gWL X G s 0 [(0, gR G 400), (1, vi x1)] [] := by
  refine g_aload_n hX dX8_hasJudge_0 0 rfl ?_
  refine g_getR hX sh_400 17 rfl fl_X8_60 dX8_hasJudge_1 ?_
  refine g_iload_n hX dX8_hasJudge_4 1 rfl ?_
  obtain ⟨h1, h⟩ := h
  refine g_iald hX sh_418 h1 (by decide) dX8_hasJudge_5 ?_
  refine g_ifle (tgt := 26) hX (hs.2 _ _) dX8_hasJudge_6 (by decide) (fun c2 => ?_) (fun c2 => ?_)
  · replace h := h.1 c2
    refine g_iconst hX dX8_hasJudge_26 ?_
    exact g_zret hX hE (Or.inl rfl) dX8_hasJudge_27 ⟨h, hs⟩
  · replace h := h.2 (Int.not_le.mp c2)
    refine g_aload_n hX dX8_hasJudge_9 0 rfl ?_
    refine g_getR hX sh_400 18 rfl fl_X8_63 dX8_hasJudge_10 ?_
    refine g_iload_n hX dX8_hasJudge_13 1 rfl ?_
    refine g_iald hX sh_419 h1 (by decide) dX8_hasJudge_14 ?_
    refine g_aload_n hX dX8_hasJudge_15 0 rfl ?_
    refine g_getI hX sh_400 16 rfl fl_X8_141 dX8_hasJudge_16 ?_
    refine g_icne (tgt := 26) hX (hs.2 _ _) (hs.1 _ _) dX8_hasJudge_19 (by decide) (fun c3 => ?_) (fun c3 => ?_)
    · replace h := h.1 c3
      refine g_iconst hX dX8_hasJudge_26 ?_
      exact g_zret hX hE (Or.inl rfl) dX8_hasJudge_27 ⟨h, hs⟩
    · replace h := h.2 (gnn c3)
      refine g_iconst hX dX8_hasJudge_22 ?_
      refine g_goto (tgt := 27) hX dX8_hasJudge_23 (by decide) ?_
      exact g_zret hX hE (Or.inr rfl) dX8_hasJudge_27 ⟨h, hs⟩
set_option maxRecDepth 100000 in
set_option maxHeartbeats 4000000 in
theorem c_X8_hasJudge (l : Launch) {G : gG} (hG : gInj G) (s : gS) (x1 : Int) (p0 : gRg s) (p1 : 0 ≤ x1 ∧ x1 < 9) : gMet l G yX8_hasJudge cX8_hasJudge 2 (some .boolean) 1 [gR G 400, vi x1] s (gPi (fun v s' => (v = (gb (0 < (s.2 418 x1) ∧ (s.2 419 x1) = (s.1 400 16))) ∧ s' = s) ∧ gRg s')) := by
  refine gMet_of (plainFor_of_name (by decide)) hG (Nat.le_of_ble_eq_true rfl) (fun X hX hE => ?_)
  refine bk_X8_hasJudge_0 hX hE s p0 x1  ?_
  exact ⟨p1, fun h => ⟨(gb_f (fun z => by omega)).symm, rfl⟩, fun h => ⟨fun h2 => ⟨(gb_f (fun z => h2 z.2)).symm, rfl⟩, fun h2 => ⟨(gb_t ⟨h, h2⟩).symm, rfl⟩⟩⟩
set_option maxRecDepth 100000 in
set_option maxHeartbeats 4000000 in
theorem bk_X8_judges_0 {X : gX} {G : gG} (hX : gOk X G cX8_judges 3 RX8 (some .int) 2) {Q : Int → gS → Prop} (hE : gEnd X G (gPi (fun v s' => Q v s' ∧ gRg s'))) (s : gS) (hs : gRg s)   (h : gWL X G s 4 [(0, gR G 400), (1, vi 0), (2, vi 0)] []) : gWL X G s 0 [(0, gR G 400)] [] := by
  refine g_iconst hX dX8_judges_0 ?_
  refine g_istore_n (loc' := [(1, vi 0), (0, gR G 400)]) hX dX8_judges_1 (by decide) rfl ?_
  refine g_iconst hX dX8_judges_2 ?_
  refine g_istore_n (loc' := [(2, vi 0), (1, vi 0), (0, gR G 400)]) hX dX8_judges_3 (by decide) rfl ?_
  exact g_sub [2, 1, 0] rfl h
set_option maxRecDepth 100000 in
set_option maxHeartbeats 4000000 in
theorem bk_X8_judges_4 {X : gX} {G : gG} (hX : gOk X G cX8_judges 3 RX8 (some .int) 2) {Q : Int → gS → Prop} (hE : gEnd X G (gPi (fun v s' => Q v s' ∧ gRg s'))) (s : gS) (hs : gRg s) (x1 : Int) (x2 : Int)  (h : (rng x2) ∧ ((9 ≤ x2 → Q x1 s) ∧ (x2 < 9 → (0 ≤ x2 ∧ x2 < 9) ∧ ((¬ (0 < (s.2 418 x2) ∧ (s.2 419 x2) = (s.1 400 16)) → gWL X G s 4 [(0, gR G 400), (1, vi x1), (2, vi (x2 + 1))] []) ∧ (0 < (s.2 418 x2) ∧ (s.2 419 x2) = (s.1 400 16) → gWL X G s 4 [(0, gR G 400), (1, vi (x1 + 1)), (2, vi (x2 + 1))] []))))) : gWL X G s 4 [(0, gR G 400), (1, vi x1), (2, vi x2)] [] := by
  refine g_iload_n hX dX8_judges_4 2 rfl ?_
  refine g_bipush hX dX8_judges_5 rfl ?_
  obtain ⟨h1, h⟩ := h
  refine g_icge (tgt := 27) hX h1 (by unfold rng; omega) dX8_judges_7 (by decide) (fun c2 => ?_) (fun c2 => ?_)
  · replace h := h.1 c2
    refine g_iload_n hX dX8_judges_27 1 rfl ?_
    exact g_iret hX hE dX8_judges_28 ⟨h, hs⟩
  · replace h := h.2 (Int.not_le.mp c2)
    refine g_aload_n hX dX8_judges_10 0 rfl ?_
    refine g_iload_n hX dX8_judges_11 2 rfl ?_
    obtain ⟨h3, h⟩ := h
    refine g_cVf (As := [vi x2]) hX (fun l => c_X8_hasJudge l hX.inj s x2 hs h3) sh_400 cv_X8_149 (by decide) rfl (Nat.le_of_ble_eq_true rfl) dX8_judges_12 rfl (fun g4 => ?_)
    refine g_ifeq (tgt := 21) hX (gb_rng _) dX8_judges_15 (by decide) (fun c5 => ?_) (fun c5 => ?_)
    · replace h := h.1 (gb_eq0.mp c5)
      refine g_iinc (loc' := [(2, vi (x2 + 1)), (0, gR G 400), (1, vi x1)]) hX dX8_judges_21 2 rfl (by decide) rfl ?_
      refine g_goto (tgt := 4) hX dX8_judges_24 (by decide) ?_
      exact g_sub [1, 2, 0] rfl h
    · replace h := h.2 (gb_n0.mp c5)
      refine g_iinc (loc' := [(1, vi (x1 + 1)), (0, gR G 400), (2, vi x2)]) hX dX8_judges_18 1 rfl (by decide) rfl ?_
      refine g_iinc (loc' := [(2, vi (x2 + 1)), (1, vi (x1 + 1)), (0, gR G 400)]) hX dX8_judges_21 2 rfl (by decide) rfl ?_
      refine g_goto (tgt := 4) hX dX8_judges_24 (by decide) ?_
      exact g_sub [2, 1, 0] rfl h
set_option maxRecDepth 100000 in
set_option maxHeartbeats 4000000 in
theorem c_X8_judges (l : Launch) {G : gG} (hG : gInj G) (s : gS)  (p0 : gRg s) : gMet l G yX8_judges cX8_judges 3 (some .int) 2 [gR G 400] s (gPi (fun v s' => (v = (gJ (mhj s)) ∧ s' = s) ∧ gRg s')) := by
  refine gMet_of (plainFor_of_name (by decide)) hG (Nat.le_of_ble_eq_true rfl) (fun X hX hE => ?_)
  refine bk_X8_judges_0 hX hE s p0   ?_
  refine gloop (α := Int) (hi := 9) (fun i n => 0 ≤ i ∧ n = gsum (fun j => if mhj s j = true then 1 else 0) i) (fun i n => gWL X G s 4 [(0, gR G 400), (1, vi n), (2, vi i)] []) ?_ ?_ 0 0 (by omega) ⟨by omega, rfl⟩
  · intro i n hi ⟨h0, hn⟩ next
    refine bk_X8_judges_4 hX hE s p0 n i ⟨rng_of (by omega) (by omega), fun h => by omega, fun _ => ⟨by omega, fun h => next _ ⟨by omega, ?_⟩, fun h => next _ ⟨by omega, ?_⟩⟩⟩
    · rw [gsum_s _ h0, hn, if_neg (by unfold mhj; rw [decide_eq_true_iff]; exact h)]; omega
    · rw [gsum_s _ h0, hn, if_pos (by unfold mhj; rw [decide_eq_true_iff]; exact h)]
  · intro n ⟨h0, hn⟩
    exact bk_X8_judges_4 hX hE s p0 n 9 ⟨rng_of (by omega) (by omega), fun _ => ⟨hn, rfl⟩, fun h => by omega⟩
set_option maxRecDepth 100000 in
set_option maxHeartbeats 4000000 in
theorem bk_X8_sings_0 {X : gX} {G : gG} (hX : gOk X G cX8_sings 2 RX8 (some .boolean) 2) {Q : Int → gS → Prop} (hE : gEnd X G (gPi (fun v s' => Q v s' ∧ gRg s'))) (s : gS) (hs : gRg s) (x1 : Int)  (h : (rng x1) ∧ ((¬ (0 ≤ x1 ∧ x1 ≤ 9) → Q 0 s) ∧ (0 ≤ x1 ∧ x1 ≤ 9 → ((¬ (gand (gshr (s.1 400 16) x1) 1) = 1 → Q 0 s) ∧ ((gand (gshr (s.1 400 16) x1) 1) = 1 → Q 1 s))))) : gWL X G s 0 [(0, gR G 400), (1, vi x1)] [] := by
  refine g_iload_n hX dX8_sings_0 1 rfl ?_
  refine g_iconst hX dX8_sings_1 ?_
  refine g_bipush hX dX8_sings_2 rfl ?_
  obtain ⟨h1, h⟩ := h
  refine g_cSf (As := [vi x1, vi 0, vi 9]) hX (fun l => c_X8_isIn l hX.inj s x1 0 9 hs h1 (by unfold rng; omega) (by unfold rng; omega)) cv_X8_102 (by decide) rfl (Nat.le_of_ble_eq_true rfl) dX8_sings_4 rfl (fun g2 => ?_)
  refine g_ifeq (tgt := 26) hX (gb_rng _) dX8_sings_7 (by decide) (fun c3 => ?_) (fun c3 => ?_)
  · replace h := h.1 (gb_eq0.mp c3)
    refine g_iconst hX dX8_sings_26 ?_
    exact g_zret hX hE (Or.inl rfl) dX8_sings_27 ⟨h, hs⟩
  · replace h := h.2 (gb_n0.mp c3)
    refine g_aload_n hX dX8_sings_10 0 rfl ?_
    refine g_getI hX sh_400 16 rfl fl_X8_141 dX8_sings_11 ?_
    refine g_iload_n hX dX8_sings_14 1 rfl ?_
    refine g_ishr hX dX8_sings_15 ?_
    refine g_iconst hX dX8_sings_16 ?_
    refine g_iand hX dX8_sings_17 ?_
    refine g_iconst hX dX8_sings_18 ?_
    refine g_icne (tgt := 26) hX (rng_i _) (by unfold rng; omega) dX8_sings_19 (by decide) (fun c4 => ?_) (fun c4 => ?_)
    · replace h := h.1 c4
      refine g_iconst hX dX8_sings_26 ?_
      exact g_zret hX hE (Or.inl rfl) dX8_sings_27 ⟨h, hs⟩
    · replace h := h.2 (gnn c4)
      refine g_iconst hX dX8_sings_22 ?_
      refine g_goto (tgt := 27) hX dX8_sings_23 (by decide) ?_
      exact g_zret hX hE (Or.inr rfl) dX8_sings_27 ⟨h, hs⟩
set_option maxRecDepth 100000 in
set_option maxHeartbeats 4000000 in
theorem c_X8_sings (l : Launch) {G : gG} (hG : gInj G) (s : gS) (x1 : Int) (p0 : gRg s) (p1 : rng x1) : gMet l G yX8_sings cX8_sings 2 (some .boolean) 2 [gR G 400, vi x1] s (gPi (fun v s' => (v = (gb ((0 ≤ x1 ∧ x1 ≤ 9) ∧ gbit (s.1 400 16) x1 = 1)) ∧ s' = s) ∧ gRg s')) := by
  refine gMet_of (plainFor_of_name (by decide)) hG (Nat.le_of_ble_eq_true rfl) (fun X hX hE => ?_)
  refine bk_X8_sings_0 hX hE s p0 x1  ?_
  exact ⟨p1, fun h => ⟨(gb_f (fun z => h z.1)).symm, rfl⟩, fun h => ⟨fun h2 => ⟨(gb_f (fun z => h2 z.2)).symm, rfl⟩, fun h2 => ⟨(gb_t ⟨h, h2⟩).symm, rfl⟩⟩⟩
set_option maxRecDepth 100000 in
set_option maxHeartbeats 4000000 in
theorem bk_X8_ranked_0 {X : gX} {G : gG} (hX : gOk X G cX8_ranked 6 RX8 (some .int) 2) {Q : Int → gS → Prop} (hE : gEnd X G (gPi (fun v s' => Q v s' ∧ gRg s'))) (s : gS) (hs : gRg s) (x1 : Int) (x2 : Int) (x3 : Int)  (h : gWL X G s 6 [(0, gR G 400), (1, vi x1), (2, vi x2), (3, vi x3), (4, vi 0), (5, vi 0)] []) : gWL X G s 0 [(0, gR G 400), (1, vi x1), (2, vi x2), (3, vi x3)] [] := by
  refine g_iconst hX dX8_ranked_0 ?_
  refine g_istore (loc' := [(4, vi 0), (0, gR G 400), (1, vi x1), (2, vi x2), (3, vi x3)]) hX dX8_ranked_1 (by decide) rfl ?_
  refine g_iconst hX dX8_ranked_3 ?_
  refine g_istore (loc' := [(5, vi 0), (4, vi 0), (0, gR G 400), (1, vi x1), (2, vi x2), (3, vi x3)]) hX dX8_ranked_4 (by decide) rfl ?_
  exact g_sub [2, 3, 4, 5, 1, 0] rfl h
set_option maxRecDepth 100000 in
set_option maxHeartbeats 4000000 in
theorem bk_X8_ranked_6 {X : gX} {G : gG} (hX : gOk X G cX8_ranked 6 RX8 (some .int) 2) {Q : Int → gS → Prop} (hE : gEnd X G (gPi (fun v s' => Q v s' ∧ gRg s'))) (s : gS) (hs : gRg s) (x1 : Int) (x2 : Int) (x3 : Int) (x4 : Int) (x5 : Int)  (h : (rng x5) ∧ ((9 ≤ x5 → Q x4 s) ∧ (x5 < 9 → (0 ≤ x5 ∧ x5 < 9) ∧ ((¬ (0 < (s.2 418 x5) ∧ (s.2 419 x5) = (s.1 400 16)) → gWL X G s 6 [(0, gR G 400), (1, vi x1), (2, vi x2), (3, vi x3), (4, vi x4), (5, vi (x5 + 1))] []) ∧ (0 < (s.2 418 x5) ∧ (s.2 419 x5) = (s.1 400 16) → (0 ≤ ((10 * x5) + x1) ∧ ((10 * x5) + x1) < 90) ∧ (rng x2) ∧ ((x2 < (s.2 420 ((10 * x5) + x1)) → gWL X G s 6 [(0, gR G 400), (1, vi x1), (2, vi x2), (3, vi x3), (4, vi x4), (5, vi (x5 + 1))] []) ∧ ((s.2 420 ((10 * x5) + x1)) ≤ x2 → (rng x3) ∧ ((x3 = 0 → gWL X G s 6 [(0, gR G 400), (1, vi x1), (2, vi x2), (3, vi x3), (4, vi (x4 + 1)), (5, vi (x5 + 1))] []) ∧ (¬ (x3 = 0) → gWL X G s 6 [(0, gR G 400), (1, vi x1), (2, vi x2), (3, vi x3), (4, vi (x4 + (s.2 420 ((10 * x5) + x1)))), (5, vi (x5 + 1))] []))))))))) : gWL X G s 6 [(0, gR G 400), (1, vi x1), (2, vi x2), (3, vi x3), (4, vi x4), (5, vi x5)] [] := by
  refine g_iload hX dX8_ranked_6 5 rfl ?_
  refine g_bipush hX dX8_ranked_8 rfl ?_
  obtain ⟨h1, h⟩ := h
  refine g_icge (tgt := 69) hX h1 (by unfold rng; omega) dX8_ranked_10 (by decide) (fun c2 => ?_) (fun c2 => ?_)
  · replace h := h.1 c2
    refine g_iload hX dX8_ranked_69 4 rfl ?_
    exact g_iret hX hE dX8_ranked_71 ⟨h, hs⟩
  · replace h := h.2 (Int.not_le.mp c2)
    refine g_aload_n hX dX8_ranked_13 0 rfl ?_
    refine g_iload hX dX8_ranked_14 5 rfl ?_
    obtain ⟨h3, h⟩ := h
    refine g_cVf (As := [vi x5]) hX (fun l => c_X8_hasJudge l hX.inj s x5 hs h3) sh_400 cv_X8_149 (by decide) rfl (Nat.le_of_ble_eq_true rfl) dX8_ranked_16 rfl (fun g4 => ?_)
    refine g_ifeq (tgt := 63) hX (gb_rng _) dX8_ranked_19 (by decide) (fun c5 => ?_) (fun c5 => ?_)
    · replace h := h.1 (gb_eq0.mp c5)
      refine g_iinc (loc' := [(5, vi (x5 + 1)), (0, gR G 400), (1, vi x1), (2, vi x2), (3, vi x3), (4, vi x4)]) hX dX8_ranked_63 5 rfl (by decide) rfl ?_
      refine g_goto (tgt := 6) hX dX8_ranked_66 (by decide) ?_
      exact g_sub [1, 2, 3, 4, 5, 0] rfl h
    · replace h := h.2 (gb_n0.mp c5)
      refine g_aload_n hX dX8_ranked_22 0 rfl ?_
      refine g_getR hX sh_400 19 rfl fl_X8_66 dX8_ranked_23 ?_
      refine g_bipush hX dX8_ranked_26 rfl ?_
      refine g_iload hX dX8_ranked_28 5 rfl ?_
      refine g_imul hX dX8_ranked_30 ?_
      refine g_iload_n hX dX8_ranked_31 1 rfl ?_
      refine g_iadd hX dX8_ranked_32 ?_
      obtain ⟨h6, h⟩ := h
      refine g_iald hX sh_420 h6 (by decide) dX8_ranked_33 ?_
      refine g_iload_n hX dX8_ranked_34 2 rfl ?_
      obtain ⟨h7, h⟩ := h
      refine g_icgt (tgt := 63) hX (hs.2 _ _) h7 dX8_ranked_35 (by decide) (fun c8 => ?_) (fun c8 => ?_)
      · replace h := h.1 c8
        refine g_iinc (loc' := [(5, vi (x5 + 1)), (0, gR G 400), (1, vi x1), (2, vi x2), (3, vi x3), (4, vi x4)]) hX dX8_ranked_63 5 rfl (by decide) rfl ?_
        refine g_goto (tgt := 6) hX dX8_ranked_66 (by decide) ?_
        exact g_sub [1, 2, 3, 4, 5, 0] rfl h
      · replace h := h.2 (Int.not_lt.mp c8)
        refine g_iload hX dX8_ranked_38 4 rfl ?_
        refine g_iload_n hX dX8_ranked_40 3 rfl ?_
        obtain ⟨h9, h⟩ := h
        refine g_ifeq (tgt := 59) hX h9 dX8_ranked_41 (by decide) (fun c10 => ?_) (fun c10 => ?_)
        · replace h := h.1 c10
          refine g_iconst hX dX8_ranked_59 ?_
          refine g_iadd hX dX8_ranked_60 ?_
          refine g_istore (loc' := [(4, vi (x4 + 1)), (0, gR G 400), (1, vi x1), (2, vi x2), (3, vi x3), (5, vi x5)]) hX dX8_ranked_61 (by decide) rfl ?_
          refine g_iinc (loc' := [(5, vi (x5 + 1)), (4, vi (x4 + 1)), (0, gR G 400), (1, vi x1), (2, vi x2), (3, vi x3)]) hX dX8_ranked_63 5 rfl (by decide) rfl ?_
          refine g_goto (tgt := 6) hX dX8_ranked_66 (by decide) ?_
          exact g_sub [2, 3, 4, 5, 1, 0] rfl h
        · replace h := h.2 c10
          refine g_aload_n hX dX8_ranked_44 0 rfl ?_
          refine g_getR hX sh_400 19 rfl fl_X8_66 dX8_ranked_45 ?_
          refine g_bipush hX dX8_ranked_48 rfl ?_
          refine g_iload hX dX8_ranked_50 5 rfl ?_
          refine g_imul hX dX8_ranked_52 ?_
          refine g_iload_n hX dX8_ranked_53 1 rfl ?_
          refine g_iadd hX dX8_ranked_54 ?_
          refine g_iald hX sh_420 h6 (by decide) dX8_ranked_55 ?_
          refine g_goto (tgt := 60) hX dX8_ranked_56 (by decide) ?_
          refine g_iadd hX dX8_ranked_60 ?_
          refine g_istore (loc' := [(4, vi (x4 + (s.2 420 ((10 * x5) + x1)))), (0, gR G 400), (1, vi x1), (2, vi x2), (3, vi x3), (5, vi x5)]) hX dX8_ranked_61 (by decide) rfl ?_
          refine g_iinc (loc' := [(5, vi (x5 + 1)), (4, vi (x4 + (s.2 420 ((10 * x5) + x1)))), (0, gR G 400), (1, vi x1), (2, vi x2), (3, vi x3)]) hX dX8_ranked_63 5 rfl (by decide) rfl ?_
          refine g_goto (tgt := 6) hX dX8_ranked_66 (by decide) ?_
          exact g_sub [2, 3, 4, 5, 1, 0] rfl h
set_option maxRecDepth 100000 in
set_option maxHeartbeats 4000000 in
theorem c_X8_ranked (l : Launch) {G : gG} (hG : gInj G) (s : gS) (x1 : Int) (x2 : Int) (x3 : Int) (p0 : gRg s) (p1 : rng x2) (p2 : rng x3) (p3 : 0 ≤ x1 ∧ x1 < 10) : gMet l G yX8_ranked cX8_ranked 6 (some .int) 2 [gR G 400, vi x1, vi x2, vi x3] s (gPi (fun v s' => (v = (mranked s x1 x2 x3) ∧ s' = s) ∧ gRg s')) := by
  refine gMet_of (plainFor_of_name (by decide)) hG (Nat.le_of_ble_eq_true rfl) (fun X hX hE => ?_)
  refine bk_X8_ranked_0 hX hE s p0 x1 x2 x3  ?_
  by_cases hz : x3 = 0
  · have hq : mranked s x1 x2 x3 = gC (mhj s) (mrk s) x1 x2 := if_pos hz
    refine gloop (α := Int) (hi := 9) (fun i n => 0 ≤ i ∧ n = gsum (fun j => if mhj s j = true ∧ mrk s j x1 ≤ x2 then 1 else 0) i) (fun i n => gWL X G s 6 [(0, gR G 400), (1, vi x1), (2, vi x2), (3, vi x3), (4, vi n), (5, vi i)] []) ?_ ?_ 0 0 (by omega) ⟨by omega, rfl⟩
    · intro i n hi ⟨h0, hn⟩ next
      have hc : mhj s i = true ↔ (0 < (s.2 418 i) ∧ (s.2 419 i) = (s.1 400 16)) := by unfold mhj; rw [decide_eq_true_iff]
      refine bk_X8_ranked_6 hX hE s p0 x1 x2 x3 n i ⟨rng_of (by omega) (by omega), fun h => by omega, fun _ => ⟨by omega, fun h => next _ ⟨by omega, ?_⟩, fun h => ⟨by omega, p1, fun h2 => next _ ⟨by omega, ?_⟩, fun h2 => ⟨p2, fun h3 => next _ ⟨by omega, ?_⟩, fun h3 => absurd hz h3⟩⟩⟩⟩
      · rw [gsum_s _ h0, hn, if_neg (fun z => h (hc.mp z.1))]; omega
      · rw [gsum_s _ h0, hn, if_neg (fun z => by have := z.2; unfold mrk at this; omega)]; omega
      · rw [gsum_s _ h0, hn, if_pos ⟨hc.mpr h, h2⟩]
    · intro n ⟨h0, hn⟩
      exact bk_X8_ranked_6 hX hE s p0 x1 x2 x3 n 9 ⟨rng_of (by omega) (by omega), fun _ => ⟨hn.trans hq.symm, rfl⟩, fun h => by omega⟩
  · have hq : mranked s x1 x2 x3 = gT (mhj s) (mrk s) x1 x2 := if_neg hz
    refine gloop (α := Int) (hi := 9) (fun i n => 0 ≤ i ∧ n = gsum (fun j => if mhj s j = true ∧ mrk s j x1 ≤ x2 then mrk s j x1 else 0) i) (fun i n => gWL X G s 6 [(0, gR G 400), (1, vi x1), (2, vi x2), (3, vi x3), (4, vi n), (5, vi i)] []) ?_ ?_ 0 0 (by omega) ⟨by omega, rfl⟩
    · intro i n hi ⟨h0, hn⟩ next
      have hc : mhj s i = true ↔ (0 < (s.2 418 i) ∧ (s.2 419 i) = (s.1 400 16)) := by unfold mhj; rw [decide_eq_true_iff]
      refine bk_X8_ranked_6 hX hE s p0 x1 x2 x3 n i ⟨rng_of (by omega) (by omega), fun h => by omega, fun _ => ⟨by omega, fun h => next _ ⟨by omega, ?_⟩, fun h => ⟨by omega, p1, fun h2 => next _ ⟨by omega, ?_⟩, fun h2 => ⟨p2, fun h3 => absurd h3 hz, fun h3 => next _ ⟨by omega, ?_⟩⟩⟩⟩⟩
      · rw [gsum_s _ h0, hn, if_neg (fun z => h (hc.mp z.1))]; omega
      · rw [gsum_s _ h0, hn, if_neg (fun z => by have := z.2; unfold mrk at this; omega)]; omega
      · rw [gsum_s _ h0, hn, if_pos ⟨hc.mpr h, h2⟩]; rfl
    · intro n ⟨h0, hn⟩
      exact bk_X8_ranked_6 hX hE s p0 x1 x2 x3 n 9 ⟨rng_of (by omega) (by omega), fun _ => ⟨hn.trans hq.symm, rfl⟩, fun h => by omega⟩
theorem mranked_0 (s : gS) (c k : Int) : mranked s c k 0 = gC (mhj s) (mrk s) c k := rfl
theorem mranked_1 (s : gS) (c k : Int) : mranked s c k 1 = gT (mhj s) (mrk s) c k := rfl
set_option maxRecDepth 100000 in
set_option maxHeartbeats 4000000 in
theorem bk_X8_against_0 {X : gX} {G : gG} (hX : gOk X G cX8_against 7 RX8 (some .int) 3) {Q : Int → gS → Prop} (hE : gEnd X G (gPi (fun v s' => Q v s' ∧ gRg s'))) (s : gS) (hs : gRg s) (x1 : Int) (x2 : Int) (x3 : Int)  (h : gWL X G s 12 [(0, gR G 400), (1, vi x1), (2, vi x2), (4, vi (gones (s.1 400 16))), (5, vi x3)] []) : gWL X G s 0 [(0, gR G 400), (1, vi x1), (2, vi x2), (3, vi x3)] [] := by
  refine g_aload_n hX dX8_against_0 0 rfl ?_
  refine g_getI hX sh_400 16 rfl fl_X8_141 dX8_against_1 ?_
  refine g_cSf (As := [vi (s.1 400 16)]) hX (fun l => c_X8_ones l hX.inj s (s.1 400 16) hs) cv_X8_144 (by decide) rfl (Nat.le_of_ble_eq_true rfl) dX8_against_4 rfl (fun g1 => ?_)
  refine g_istore (loc' := [(4, vi (gones (s.1 400 16))), (0, gR G 400), (1, vi x1), (2, vi x2), (3, vi x3)]) hX dX8_against_7 (by decide) rfl ?_
  refine g_iload_n hX dX8_against_9 4 rfl ?_
  refine g_istore (loc' := [(5, vi x3), (4, vi (gones (s.1 400 16))), (0, gR G 400), (1, vi x1), (2, vi x2), (3, vi x3)]) hX dX8_against_10 (by decide) rfl ?_
  exact g_sub [2, 3, 4, 1, 0] rfl h
set_option maxRecDepth 100000 in
set_option maxHeartbeats 4000000 in
theorem bk_X8_against_12 {X : gX} {G : gG} (hX : gOk X G cX8_against 7 RX8 (some .int) 3) {Q : Int → gS → Prop} (hE : gEnd X G (gPi (fun v s' => Q v s' ∧ gRg s'))) (s : gS) (hs : gRg s) (x1 : Int) (x2 : Int) (x4 : Int) (x5 : Int)  (h : (rng x5) ∧ (rng x4) ∧ ((x4 < x5 → Q 0 s) ∧ (x5 ≤ x4 → (0 ≤ x2 ∧ x2 < 10) ∧ (0 ≤ x1 ∧ x1 < 10) ∧ (rng ((mranked s x2 x5 0) - (mranked s x1 x5 0))) ∧ ((¬ ((mranked s x2 x5 0) - (mranked s x1 x5 0)) = 0 → ((((mranked s x2 x5 0) - (mranked s x1 x5 0)) = 0 → gWL X G s 12 [(0, gR G 400), (1, vi x1), (2, vi x2), (4, vi x4), (5, vi (x5 + 1))] []) ∧ (¬ (((mranked s x2 x5 0) - (mranked s x1 x5 0)) = 0) → Q ((mranked s x2 x5 0) - (mranked s x1 x5 0)) s))) ∧ (((mranked s x2 x5 0) - (mranked s x1 x5 0)) = 0 → (rng ((mranked s x1 x5 1) - (mranked s x2 x5 1))) ∧ ((((mranked s x1 x5 1) - (mranked s x2 x5 1)) = 0 → gWL X G s 12 [(0, gR G 400), (1, vi x1), (2, vi x2), (4, vi x4), (5, vi (x5 + 1))] []) ∧ (¬ (((mranked s x1 x5 1) - (mranked s x2 x5 1)) = 0) → Q ((mranked s x1 x5 1) - (mranked s x2 x5 1)) s))))))) : gWL X G s 12 [(0, gR G 400), (1, vi x1), (2, vi x2), (4, vi x4), (5, vi x5)] [] := by
  refine g_iload hX dX8_against_12 4 rfl ?_
  refine g_iload hX dX8_against_14 3 rfl ?_
  obtain ⟨h1, h⟩ := h
  obtain ⟨h2, h⟩ := h
  refine g_icgt (tgt := 76) hX h1 h2 dX8_against_16 (by decide) (fun c3 => ?_) (fun c3 => ?_)
  · replace h := h.1 c3
    refine g_iconst hX dX8_against_76 ?_
    exact g_iret hX hE dX8_against_77 ⟨h, hs⟩
  · replace h := h.2 (Int.not_lt.mp c3)
    refine g_aload_n hX dX8_against_19 0 rfl ?_
    refine g_iload_n hX dX8_against_20 2 rfl ?_
    refine g_iload hX dX8_against_21 4 rfl ?_
    refine g_iconst hX dX8_against_23 ?_
    obtain ⟨h4, h⟩ := h
    refine g_cVf (As := [vi x2, vi x5, vi 0]) hX (fun l => c_X8_ranked l hX.inj s x2 x5 0 hs h1 (by unfold rng; omega) h4) sh_400 cv_X8_152 (by decide) rfl (Nat.le_of_ble_eq_true rfl) dX8_against_24 rfl (fun g5 => ?_)
    refine g_aload_n hX dX8_against_27 0 rfl ?_
    refine g_iload_n hX dX8_against_28 1 rfl ?_
    refine g_iload hX dX8_against_29 4 rfl ?_
    refine g_iconst hX dX8_against_31 ?_
    obtain ⟨h6, h⟩ := h
    refine g_cVf (As := [vi x1, vi x5, vi 0]) hX (fun l => c_X8_ranked l hX.inj s x1 x5 0 hs h1 (by unfold rng; omega) h6) sh_400 cv_X8_152 (by decide) rfl (Nat.le_of_ble_eq_true rfl) dX8_against_32 rfl (fun g7 => ?_)
    refine g_isub hX dX8_against_35 ?_
    refine g_istore (loc' := [(6, vi ((mranked s x2 x5 0) - (mranked s x1 x5 0))), (0, gR G 400), (1, vi x1), (2, vi x2), (4, vi x4), (5, vi x5)]) hX dX8_against_36 (by decide) rfl ?_
    refine g_iload hX dX8_against_38 0 rfl ?_
    obtain ⟨h8, h⟩ := h
    refine g_ifne (tgt := 62) hX h8 dX8_against_40 (by decide) (fun c9 => ?_) (fun c9 => ?_)
    · replace h := h.1 c9
      refine g_iload hX dX8_against_62 0 rfl ?_
      refine g_ifeq (tgt := 70) hX h8 dX8_against_64 (by decide) (fun c10 => ?_) (fun c10 => ?_)
      · replace h := h.1 c10
        refine g_iinc (loc' := [(5, vi (x5 + 1)), (6, vi ((mranked s x2 x5 0) - (mranked s x1 x5 0))), (0, gR G 400), (1, vi x1), (2, vi x2), (4, vi x4)]) hX dX8_against_70 5 rfl (by decide) rfl ?_
        refine g_goto (tgt := 12) hX dX8_against_73 (by decide) ?_
        exact g_sub [2, 3, 4, 5, 0] rfl h
      · replace h := h.2 c10
        refine g_iload hX dX8_against_67 0 rfl ?_
        exact g_iret hX hE dX8_against_69 ⟨h, hs⟩
    · replace h := h.2 (gnn c9)
      refine g_aload_n hX dX8_against_43 1 rfl ?_
      refine g_iload_n hX dX8_against_44 2 rfl ?_
      refine g_iload hX dX8_against_45 5 rfl ?_
      refine g_iconst hX dX8_against_47 ?_
      refine g_cVf (As := [vi x1, vi x5, vi 1]) hX (fun l => c_X8_ranked l hX.inj s x1 x5 1 hs h1 (by unfold rng; omega) h6) sh_400 cv_X8_152 (by decide) rfl (Nat.le_of_ble_eq_true rfl) dX8_against_48 rfl (fun g11 => ?_)
      refine g_aload_n hX dX8_against_51 1 rfl ?_
      refine g_iload_n hX dX8_against_52 3 rfl ?_
      refine g_iload hX dX8_against_53 5 rfl ?_
      refine g_iconst hX dX8_against_55 ?_
      refine g_cVf (As := [vi x2, vi x5, vi 1]) hX (fun l => c_X8_ranked l hX.inj s x2 x5 1 hs h1 (by unfold rng; omega) h4) sh_400 cv_X8_152 (by decide) rfl (Nat.le_of_ble_eq_true rfl) dX8_against_56 rfl (fun g12 => ?_)
      refine g_isub hX dX8_against_59 ?_
      refine g_istore (loc' := [(6, vi ((mranked s x1 x5 1) - (mranked s x2 x5 1))), (0, gR G 400), (1, vi x1), (2, vi x2), (4, vi x4), (5, vi x5)]) hX dX8_against_60 (by decide) rfl ?_
      refine g_iload hX dX8_against_62 0 rfl ?_
      obtain ⟨h13, h⟩ := h
      refine g_ifeq (tgt := 70) hX h13 dX8_against_64 (by decide) (fun c14 => ?_) (fun c14 => ?_)
      · replace h := h.1 c14
        refine g_iinc (loc' := [(5, vi (x5 + 1)), (6, vi ((mranked s x1 x5 1) - (mranked s x2 x5 1))), (0, gR G 400), (1, vi x1), (2, vi x2), (4, vi x4)]) hX dX8_against_70 5 rfl (by decide) rfl ?_
        refine g_goto (tgt := 12) hX dX8_against_73 (by decide) ?_
        exact g_sub [2, 3, 4, 5, 0] rfl h
      · replace h := h.2 c14
        refine g_iload hX dX8_against_67 0 rfl ?_
        exact g_iret hX hE dX8_against_69 ⟨h, hs⟩
set_option maxRecDepth 100000 in
set_option maxHeartbeats 4000000 in
theorem c_X8_against (l : Launch) {G : gG} (hG : gInj G) (s : gS) (x1 : Int) (x2 : Int) (x3 : Int) (p0 : gRg s) (p1 : mRk s) (p2 : 0 ≤ x1 ∧ x1 < 10) (p3 : 0 ≤ x2 ∧ x2 < 10) (p4 : 1 ≤ x3 ∧ x3 ≤ 30) : gMet l G yX8_against cX8_against 7 (some .int) 3 [gR G 400, vi x1, vi x2, vi x3] s (gPi (fun v s' => (v = (mag s x1 x2 x3) ∧ s' = s) ∧ gRg s')) := by
  refine gMet_of (plainFor_of_name (by decide)) hG (Nat.le_of_ble_eq_true rfl) (fun X hX hE => ?_)
  refine bk_X8_against_0 hX hE s p0 x1 x2 x3  ?_
  have hn := gones_bd (s.1 400 16)
  have hn1 : rng (gones (s.1 400 16)) := rng_of (by omega) (by omega)
  by_cases hk : gones (s.1 400 16) < x3
  · refine bk_X8_against_12 hX hE s p0 x1 x2 _ x3 ⟨rng_of (by omega) (by omega), hn1, fun _ => ⟨?_, rfl⟩, fun h => by omega⟩
    unfold mag
    rw [show (gones (s.1 400 16) + 1 - x3).toNat = 0 by omega]
    rfl
  · refine gloop (α := Unit) (hi := gones (s.1 400 16) + 1) (fun i _ => 1 ≤ i ∧ gag (mhj s) (mrk s) x1 x2 i (gones (s.1 400 16) + 1 - i).toNat = mag s x1 x2 x3) (fun i _ => gWL X G s 12 [(0, gR G 400), (1, vi x1), (2, vi x2), (4, vi (gones (s.1 400 16))), (5, vi i)] []) ?_ ?_ x3 () (by omega) ⟨by omega, rfl⟩
    · intro i _ hi ⟨h0, he⟩ next
      have hC1 := gC_bd (mhj s) (mrk s) x1 i
      have hC2 := gC_bd (mhj s) (mrk s) x2 i
      have hT1 := mT_bd (s := s) (c := x1) (k := i) p1 p2.1 p2.2
      have hT2 := mT_bd (s := s) (c := x2) (k := i) p1 p3.1 p3.2
      rw [show (gones (s.1 400 16) + 1 - i).toNat = (gones (s.1 400 16) + 1 - (i + 1)).toNat + 1 by omega, gag_s] at he
      refine bk_X8_against_12 hX hE s p0 x1 x2 _ i ⟨rng_of (by omega) (by omega), hn1, fun h => by omega, fun _ => ⟨p3, p2, rng_of (by rw [mranked_0, mranked_0]; omega) (by rw [mranked_0, mranked_0]; omega), fun h => ⟨fun h2 => absurd h2 h, fun h2 => ⟨?_, rfl⟩⟩, fun h => ⟨rng_of (by rw [mranked_1, mranked_1]; omega) (by rw [mranked_1, mranked_1]; omega), fun h2 => next () ⟨by omega, ?_⟩, fun h2 => ⟨?_, rfl⟩⟩⟩⟩
      · rw [mranked_0, mranked_0] at h ⊢
        rw [if_neg h] at he; exact he
      · rw [mranked_0, mranked_0] at h
        rw [mranked_1, mranked_1] at h2
        rw [if_pos h, if_pos h2] at he; exact he
      · rw [mranked_0, mranked_0] at h
        rw [mranked_1, mranked_1] at h2 ⊢
        rw [if_pos h, if_neg h2] at he; exact he
    · intro _ ⟨h0, he⟩
      refine bk_X8_against_12 hX hE s p0 x1 x2 _ _ ⟨rng_of (by omega) (by omega), hn1, fun _ => ⟨?_, rfl⟩, fun h => by omega⟩
      rw [show (gones (s.1 400 16) + 1 - (gones (s.1 400 16) + 1)).toNat = 0 by omega] at he
      exact he
set_option maxRecDepth 100000 in
set_option maxHeartbeats 4000000 in
theorem bk_X8_ranks_0 {X : gX} {G : gG} (hX : gOk X G cX8_ranks 3 RX8 (some .int) 3) {Q : Int → gS → Prop} (hE : gEnd X G (gPi (fun v s' => Q v s' ∧ gRg s'))) (s : gS) (hs : gRg s) (x1 : Int) (x2 : Int)  (h : (rng x1) ∧ ((¬ ((0 ≤ x1 ∧ x1 ≤ 9) ∧ gbit (s.1 400 16) x1 = 1) → Q (-1) s) ∧ ((0 ≤ x1 ∧ x1 ≤ 9) ∧ gbit (s.1 400 16) x1 = 1 → (rng x2) ∧ ((x2 ≤ 0 → Q (-1) s) ∧ (0 < x2 → (0 ≤ x1 ∧ x1 < 10) ∧ Q (mranked s x1 x2 0) s))))) : gWL X G s 0 [(0, gR G 400), (1, vi x1), (2, vi x2)] [] := by
  refine g_aload_n hX dX8_ranks_0 0 rfl ?_
  refine g_iload_n hX dX8_ranks_1 1 rfl ?_
  obtain ⟨h1, h⟩ := h
  refine g_cVf (As := [vi x1]) hX (fun l => c_X8_sings l hX.inj s x1 hs h1) sh_400 cv_X8_160 (by decide) rfl (Nat.le_of_ble_eq_true rfl) dX8_ranks_2 rfl (fun g2 => ?_)
  refine g_ifeq (tgt := 22) hX (gb_rng _) dX8_ranks_5 (by decide) (fun c3 => ?_) (fun c3 => ?_)
  · replace h := h.1 (gb_eq0.mp c3)
    refine g_iconst hX dX8_ranks_22 ?_
    exact g_iret hX hE dX8_ranks_23 ⟨h, hs⟩
  · replace h := h.2 (gb_n0.mp c3)
    refine g_iload_n hX dX8_ranks_8 2 rfl ?_
    obtain ⟨h4, h⟩ := h
    refine g_ifle (tgt := 22) hX h4 dX8_ranks_9 (by decide) (fun c5 => ?_) (fun c5 => ?_)
    · replace h := h.1 c5
      refine g_iconst hX dX8_ranks_22 ?_
      exact g_iret hX hE dX8_ranks_23 ⟨h, hs⟩
    · replace h := h.2 (Int.not_le.mp c5)
      refine g_aload_n hX dX8_ranks_12 0 rfl ?_
      refine g_iload_n hX dX8_ranks_13 1 rfl ?_
      refine g_iload_n hX dX8_ranks_14 2 rfl ?_
      refine g_iconst hX dX8_ranks_15 ?_
      obtain ⟨h6, h⟩ := h
      refine g_cVf (As := [vi x1, vi x2, vi 0]) hX (fun l => c_X8_ranked l hX.inj s x1 x2 0 hs h4 (by unfold rng; omega) h6) sh_400 cv_X8_152 (by decide) rfl (Nat.le_of_ble_eq_true rfl) dX8_ranks_16 rfl (fun g7 => ?_)
      refine g_goto (tgt := 23) hX dX8_ranks_19 (by decide) ?_
      exact g_iret hX hE dX8_ranks_23 ⟨h, hs⟩
set_option maxRecDepth 100000 in
set_option maxHeartbeats 4000000 in
theorem c_X8_ranks (l : Launch) {G : gG} (hG : gInj G) (s : gS) (x1 : Int) (x2 : Int) (p0 : gRg s) (p1 : rng x1) (p2 : rng x2) : gMet l G yX8_ranks cX8_ranks 3 (some .int) 3 [gR G 400, vi x1, vi x2] s (gPi (fun v s' => (v = (if ((0 ≤ x1 ∧ x1 ≤ 9) ∧ gbit (s.1 400 16) x1 = 1) ∧ 0 < x2 then gC (mhj s) (mrk s) x1 x2 else -1) ∧ s' = s) ∧ gRg s')) := by
  refine gMet_of (plainFor_of_name (by decide)) hG (Nat.le_of_ble_eq_true rfl) (fun X hX hE => ?_)
  refine bk_X8_ranks_0 hX hE s p0 x1 x2  ?_
  refine ⟨p1, fun a => ⟨by rw [if_neg (fun z => a z.1)], rfl⟩, fun a => ⟨p2, fun b => ⟨by rw [if_neg (fun z => by omega)], rfl⟩, fun b => ⟨by omega, ?_, rfl⟩⟩⟩
  rw [if_pos ⟨a, b⟩]
  rfl
set_option maxRecDepth 100000 in
set_option maxHeartbeats 4000000 in
theorem bk_X8_sing_0 {X : gX} {G : gG} (hX : gOk X G cX8_sing 2 RX8 (some .int) 2) {Q : Int → gS → Prop} (hE : gEnd X G (gPi (fun v s' => Q v s' ∧ gRg s'))) (s : gS) (hs : gRg s) (x1 : Int)  (h : (rng x1) ∧ ((1 ≤ x1 ∧ x1 ≤ 1023 → Q (gones x1) (gpI s 400 16 x1)) ∧ (¬ (1 ≤ x1 ∧ x1 ≤ 1023) → Q (-1) s))) : gWL X G s 0 [(0, gR G 400), (1, vi x1)] [] := by
  refine g_iload_n hX dX8_sing_0 1 rfl ?_
  refine g_iconst hX dX8_sing_1 ?_
  refine g_sipush hX dX8_sing_2 rfl ?_
  obtain ⟨h1, h⟩ := h
  refine g_cSf (As := [vi x1, vi 1, vi 1023]) hX (fun l => c_X8_isIn l hX.inj s x1 1 1023 hs h1 (by unfold rng; omega) (by unfold rng; omega)) cv_X8_102 (by decide) rfl (Nat.le_of_ble_eq_true rfl) dX8_sing_5 rfl (fun g2 => ?_)
  refine g_ifne (tgt := 13) hX (gb_rng _) dX8_sing_8 (by decide) (fun c3 => ?_) (fun c3 => ?_)
  · replace h := h.1 (gb_n0.mp c3)
    refine g_aload_n hX dX8_sing_13 0 rfl ?_
    refine g_iload_n hX dX8_sing_14 1 rfl ?_
    refine g_putI hX sh_400 16 rfl fl_X8_141 (fun _ _ _ e => by cases e; rfl) dX8_sing_15 ?_
    refine g_iload_n hX dX8_sing_18 1 rfl ?_
    refine g_cSf (As := [vi x1]) hX (fun l => c_X8_ones l hX.inj (gpI s 400 16 x1) x1 (gRg_I hs h1)) cv_X8_144 (by decide) rfl (Nat.le_of_ble_eq_true rfl) dX8_sing_19 rfl (fun g4 => ?_)
    exact g_iret hX hE dX8_sing_22 ⟨h, (gRg_I hs h1)⟩
  · replace h := h.2 (gb_eq0.mp (gnn c3))
    refine g_iconst hX dX8_sing_11 ?_
    exact g_iret hX hE dX8_sing_12 ⟨h, hs⟩
set_option maxRecDepth 100000 in
set_option maxHeartbeats 4000000 in
theorem c_X8_sing (l : Launch) {G : gG} (hG : gInj G) (s : gS) (x1 : Int) (p0 : gRg s) (p1 : rng x1) : gMet l G yX8_sing cX8_sing 2 (some .int) 2 [gR G 400, vi x1] s (gPi (fun v s' => (if 1 ≤ x1 ∧ x1 ≤ 1023 then v = gones x1 ∧ s' = gpI s 400 16 x1 else v = -1 ∧ s' = s) ∧ gRg s')) := by
  refine gMet_of (plainFor_of_name (by decide)) hG (Nat.le_of_ble_eq_true rfl) (fun X hX hE => ?_)
  refine bk_X8_sing_0 hX hE s p0 x1  ?_
  exact ⟨p1, fun a => by rw [if_pos a]; exact ⟨rfl, rfl⟩, fun a => by rw [if_neg a]; exact ⟨rfl, rfl⟩⟩
end
section
theorem fl_X8_69 : gFL RX8 69 8 20 := ⟨RX8, TX8, 34, tyX8, rfl, by decide, inG_X8, (gm_3 58 rfl rfl), tyX8_ok, nmX8, fun h => absurd h (by decide)⟩
theorem cv_X8_156 : gCV RX8 156 yX8_judges cX8_judges 3 (some .int) 0 8 := ⟨TX8, 34, rfl, (gm_4 1 rfl rfl), (gm_3 226 rfl rfl), (gm_3 227 rfl rfl), (gm_1 9 rfl rfl), (gm_3 228 rfl rfl), ⟨by decide, by decide, by decide +kernel⟩, by decide⟩
theorem cv_X8_163 : gCV RX8 163 yX8_against cX8_against 7 (some .int) 3 8 := ⟨TX8, 34, rfl, (gm_4 10 rfl rfl), (gm_4 12 rfl rfl), (gm_s 28 rfl rfl), (gm_1 9 rfl rfl), (gm_4 13 rfl rfl), ⟨by decide, by decide, by decide +kernel⟩, by decide⟩
theorem cv_X8_166 : gCV RX8 166 yX8_placesOf cX8_placesOf 9 none 0 8 := ⟨TX8, 34, rfl, (gm_4 2 rfl rfl), (gm_4 4 rfl rfl), (gm_s 26 rfl rfl), (gm_1 9 rfl rfl), (gm_4 5 rfl rfl), ⟨by decide, by decide, by decide +kernel⟩, by decide⟩
/-! ===== the reference's places ===== -/
def msg (s : gS) (c : Int) : Prop := (0 ≤ c ∧ c ≤ 9) ∧ gbit (s.1 400 16) c = 1
def mF (s : gS) (c : Int) : Int := gfst (fun k => decide (gJ (mhj s) < 2 * gC (mhj s) (mrk s) c k)) 1 10
def mD (s : gS) (k : Int) : Int := gsum (fun b => if ((0 ≤ b ∧ b ≤ 9) ∧ gbit (s.1 400 16) b = 1) ∧ mF s b < k then 1 else 0) 10
def mA (s : gS) (c : Int) : Int := gsum (fun b => if (((0 ≤ b ∧ b ≤ 9) ∧ gbit (s.1 400 16) b = 1) ∧ mF s b = mF s c) ∧ mag s b c (mF s c) < 0 then 1 else 0) 10
def mpl (s : gS) (c k : Int) : Int := if ((0 ≤ c ∧ c ≤ 9) ∧ gbit (s.1 400 16) c = 1) ∧ mF s c < k then mD s (mF s c) + mA s c + 1 else 0
/-- s' is s but for the places -/
def moff (s s' : gS) : Prop := s'.1 = s.1 ∧ ∀ k : Int, k ≠ 421 → s'.2 k = s.2 k
def mplaced (s s' : gS) : Prop := moff s s' ∧ ∀ c : Int, 0 ≤ c → c < 10 → s'.2 421 c = mpl s c (gones (s.1 400 16) + 1)
theorem moff.rf (s : gS) : moff s s := ⟨rfl, fun _ _ => rfl⟩
theorem moff.put {s s' : gS} (h : moff s s') (i v : Int) : moff s (gpA s' 421 i v) := ⟨h.1, fun k hk => by
  rw [← h.2 k hk]
  funext i'
  exact gpA_nk hk⟩
theorem moff.hj {s s' : gS} (h : moff s s') : mhj s' = mhj s := by
  funext j; unfold mhj
  rw [h.1, h.2 418 (by decide), h.2 419 (by decide)]
theorem moff.rk {s s' : gS} (h : moff s s') : mrk s' = mrk s := by
  funext j c; unfold mrk
  rw [h.2 420 (by decide)]
theorem moff.ag {s s' : gS} (h : moff s s') (a b k : Int) : mag s' a b k = mag s a b k := by
  unfold mag; rw [h.hj, h.rk, h.1]
theorem moff.rb {s s' : gS} (h : moff s s') (hr : mRk s) : mRk s' := by
  unfold mRk; rw [h.2 420 (by decide)]; exact hr
theorem gfst_lt {P : Int → Bool} : ∀ (n : Nat) (k j : Int), k ≤ j → j < gfst P k n → P j = false
  | 0, k, j, h1, h2 => by
    have : gfst P k 0 = k := rfl
    omega
  | n + 1, k, j, h1, h2 => by
    rw [gfst_s] at h2
    by_cases hP : P k = true
    · rw [if_pos hP] at h2; omega
    · rw [if_neg hP] at h2
      by_cases e : j = k
      · subst e; simpa using hP
      · exact gfst_lt n (k + 1) j (by omega) h2
theorem gfst_at {P : Int → Bool} : ∀ (n : Nat) (k : Int), gfst P k n < k + n → P (gfst P k n) = true
  | 0, k, h => by
    have : gfst P k 0 = k := rfl
    omega
  | n + 1, k, h => by
    rw [gfst_s] at h ⊢
    by_cases hP : P k = true
    · rw [if_pos hP]; exact hP
    · rw [if_neg hP] at h ⊢
      exact gfst_at n (k + 1) (by omega)
theorem mF_bd (s : gS) (c : Int) : 1 ≤ mF s c ∧ mF s c ≤ 11 := gfst_bd _ 10 1
/-- placed at k: not before, and the greater half is there -/
theorem mF_eq {s : gS} {c k : Int} (h1 : 1 ≤ k) (h2 : k ≤ 10) (h3 : k ≤ mF s c) : mF s c = k ↔ gJ (mhj s) < 2 * gC (mhj s) (mrk s) c k := by
  constructor
  · intro h
    have := gfst_at (P := fun k => decide (gJ (mhj s) < 2 * gC (mhj s) (mrk s) c k)) 10 1 (by show mF s c < _; omega)
    have := of_decide_eq_true this
    rw [show gfst (fun k => decide (gJ (mhj s) < 2 * gC (mhj s) (mrk s) c k)) 1 10 = mF s c from rfl, h] at this
    exact this
  · intro h
    rcases Int.lt_or_le k (mF s c) with q | q
    · have := gfst_lt (P := fun k => decide (gJ (mhj s) < 2 * gC (mhj s) (mrk s) c k)) 10 1 k h1 q
      simp at this
      omega
    · omega
theorem mD_bd (s : gS) (k : Int) : 0 ≤ mD s k ∧ mD s k ≤ 10 := by
  have := gsum_bd (f := fun b => if ((0 ≤ b ∧ b ≤ 9) ∧ gbit (s.1 400 16) b = 1) ∧ mF s b < k then 1 else 0) (n := 10) (lo := 0) (hi := 1) (by omega) (fun i _ _ => by split <;> omega)
  unfold mD; omega
theorem mA_bd (s : gS) (c : Int) : 0 ≤ mA s c ∧ mA s c ≤ 10 := by
  have := gsum_bd (f := fun b => if (((0 ≤ b ∧ b ≤ 9) ∧ gbit (s.1 400 16) b = 1) ∧ mF s b = mF s c) ∧ mag s b c (mF s c) < 0 then 1 else 0) (n := 10) (lo := 0) (hi := 1) (by omega) (fun i _ _ => by split <;> omega)
  unfold mA; omega
theorem mag_rng {s : gS} {a b k : Int} (h : mRk s) (ha : 0 ≤ a ∧ a < 10) (hb : 0 ≤ b ∧ b < 10) : rng (mag s a b k) := by
  have key : ∀ (n : Nat) (q : Int), rng (gag (mhj s) (mrk s) a b q n) := by
    intro n
    induction n with
    | zero => intro q; exact rng_0
    | succ n ih =>
      intro q
      rw [gag_s]
      have hC1 := gC_bd (mhj s) (mrk s) a q
      have hC2 := gC_bd (mhj s) (mrk s) b q
      have hT1 := mT_bd (s := s) (c := a) (k := q) h ha.1 ha.2
      have hT2 := mT_bd (s := s) (c := b) (k := q) h hb.1 hb.2
      split
      · split
        · exact ih _
        · exact rng_of (by omega) (by omega)
      · exact rng_of (by omega) (by omega)
  exact key _ _
/-- the bits that stand in 'now' behind c clubs at rank k -/
def mnow (s : gS) (k c now : Int) : Prop := rng now ∧ ∀ b : Int, 0 ≤ b → b < 32 → gbit now b = if (b < c ∧ ((0 ≤ b ∧ b ≤ 9) ∧ gbit (s.1 400 16) b = 1)) ∧ mF s b = k then 1 else 0
theorem mnow_ones {s : gS} {k now : Int} (h : mnow s k 10 now) : gones now = gsum (fun b => if ((0 ≤ b ∧ b ≤ 9) ∧ gbit (s.1 400 16) b = 1) ∧ mF s b = k then 1 else 0) 10 := by
  unfold gones
  rw [gsum_tail (m := 10) (by omega) (by omega) (fun i h0 h1 => by rw [h.2 i (by omega) (by omega), if_neg (fun z => by omega)])]
  refine gsum_congr (by omega) (fun i h0 h1 => ?_)
  rw [h.2 i h0 (by omega)]
  by_cases q : ((0 ≤ i ∧ i ≤ 9) ∧ gbit (s.1 400 16) i = 1) ∧ mF s i = k
  · rw [if_pos ⟨⟨h1, q.1⟩, q.2⟩, if_pos q]
  · rw [if_neg (fun z => q ⟨z.1.2, z.2⟩), if_neg q]
theorem mD_s (s : gS) (k : Int) : mD s (k + 1) = mD s k + gsum (fun b => if ((0 ≤ b ∧ b ≤ 9) ∧ gbit (s.1 400 16) b = 1) ∧ mF s b = k then 1 else 0) 10 := by
  have key : ∀ n : Int, 0 ≤ n → n ≤ 10 → gsum (fun b => if ((0 ≤ b ∧ b ≤ 9) ∧ gbit (s.1 400 16) b = 1) ∧ mF s b < k + 1 then 1 else 0) n = gsum (fun b => if ((0 ≤ b ∧ b ≤ 9) ∧ gbit (s.1 400 16) b = 1) ∧ mF s b < k then 1 else 0) n + gsum (fun b => if ((0 ≤ b ∧ b ≤ 9) ∧ gbit (s.1 400 16) b = 1) ∧ mF s b = k then 1 else 0) n := by
    intro n h0 h1
    refine giter_ind (f := fun i a => a + (if ((0 ≤ i ∧ i ≤ 9) ∧ gbit (s.1 400 16) i = 1) ∧ mF s i < k + 1 then 1 else 0)) (a := (0 : Int)) (N := 10) (fun n x => x = gsum (fun b => if ((0 ≤ b ∧ b ≤ 9) ∧ gbit (s.1 400 16) b = 1) ∧ mF s b < k then 1 else 0) n + gsum (fun b => if ((0 ≤ b ∧ b ≤ 9) ∧ gbit (s.1 400 16) b = 1) ∧ mF s b = k then 1 else 0) n) rfl (fun i x hi hn hx => ?_) n h0 h1
    rw [gsum_s _ hi, gsum_s _ hi, hx]
    by_cases q : (0 ≤ i ∧ i ≤ 9) ∧ gbit (s.1 400 16) i = 1
    · rcases Int.lt_trichotomy (mF s i) k with z | z | z
      · rw [if_pos ⟨q, by omega⟩, if_pos ⟨q, z⟩, if_neg (fun y => by omega)]; omega
      · rw [if_pos ⟨q, by omega⟩, if_neg (fun y => by omega), if_pos ⟨q, z⟩]; omega
      · rw [if_neg (fun y => by omega), if_neg (fun y => by omega), if_neg (fun y => by omega)]; omega
    · rw [if_neg (fun y => q y.1), if_neg (fun y => q y.1), if_neg (fun y => q y.1)]; omega
  exact key 10 (by omega) (by omega)
set_option maxRecDepth 100000 in
set_option maxHeartbeats 4000000 in
theorem bk_X8_placesOf_0 {X : gX} {G : gG} (hX : gOk X G cX8_placesOf 9 RX8 none 4) {Q : gS → Prop} (hE : gEnd X G (gPv (fun s' => Q s' ∧ gRg s'))) (s : gS) (hs : gRg s)   (h : (rng (gJ (mhj s))) ∧ gWL X G s 22 [(0, gR G 400), (1, vi (((gJ (mhj s)).tdiv 2) + 1)), (2, vi (gones (s.1 400 16))), (3, vi 0), (4, vi 0)] []) : gWL X G s 0 [(0, gR G 400)] [] := by
  refine g_aload_n hX dX8_placesOf_0 0 rfl ?_
  refine g_cVf (As := []) hX (fun l => c_X8_judges l hX.inj s  hs) sh_400 cv_X8_156 (by decide) rfl (Nat.le_of_ble_eq_true rfl) dX8_placesOf_1 rfl (fun g1 => ?_)
  refine g_iconst hX dX8_placesOf_4 ?_
  obtain ⟨h2, h⟩ := h
  refine g_idiv hX h2 (by unfold rng; omega) (by omega) dX8_placesOf_5 ?_
  refine g_iconst hX dX8_placesOf_6 ?_
  refine g_iadd hX dX8_placesOf_7 ?_
  refine g_istore_n (loc' := [(1, vi (((gJ (mhj s)).tdiv 2) + 1)), (0, gR G 400)]) hX dX8_placesOf_8 (by decide) rfl ?_
  refine g_aload_n hX dX8_placesOf_9 1 rfl ?_
  refine g_getI hX sh_400 16 rfl fl_X8_141 dX8_placesOf_10 ?_
  refine g_cSf (As := [vi (s.1 400 16)]) hX (fun l => c_X8_ones l hX.inj s (s.1 400 16) hs) cv_X8_144 (by decide) rfl (Nat.le_of_ble_eq_true rfl) dX8_placesOf_13 rfl (fun g3 => ?_)
  refine g_istore_n (loc' := [(2, vi (gones (s.1 400 16))), (1, vi (((gJ (mhj s)).tdiv 2) + 1)), (0, gR G 400)]) hX dX8_placesOf_16 (by decide) rfl ?_
  refine g_iconst hX dX8_placesOf_17 ?_
  refine g_istore_n (loc' := [(3, vi 0), (2, vi (gones (s.1 400 16))), (1, vi (((gJ (mhj s)).tdiv 2) + 1)), (0, gR G 400)]) hX dX8_placesOf_18 (by decide) rfl ?_
  refine g_iconst hX dX8_placesOf_19 ?_
  refine g_istore (loc' := [(4, vi 0), (3, vi 0), (2, vi (gones (s.1 400 16))), (1, vi (((gJ (mhj s)).tdiv 2) + 1)), (0, gR G 400)]) hX dX8_placesOf_20 (by decide) rfl ?_
  exact g_sub [4, 3, 2, 1, 0] rfl h
set_option maxRecDepth 100000 in
set_option maxHeartbeats 4000000 in
theorem bk_X8_placesOf_22 {X : gX} {G : gG} (hX : gOk X G cX8_placesOf 9 RX8 none 4) {Q : gS → Prop} (hE : gEnd X G (gPv (fun s' => Q s' ∧ gRg s'))) (s : gS) (hs : gRg s) (x1 : Int) (x2 : Int) (x3 : Int) (x4 : Int)  (h : (rng x4) ∧ ((10 ≤ x4 → gWL X G s 46 [(0, gR G 400), (1, vi x1), (2, vi x2), (3, vi x3), (4, vi 1)] []) ∧ (x4 < 10 → (0 ≤ x4 ∧ x4 < 10) ∧ gWL X G (gpA s 421 x4 0) 22 [(0, gR G 400), (1, vi x1), (2, vi x2), (3, vi x3), (4, vi (x4 + 1))] []))) : gWL X G s 22 [(0, gR G 400), (1, vi x1), (2, vi x2), (3, vi x3), (4, vi x4)] [] := by
  refine g_iload hX dX8_placesOf_22 4 rfl ?_
  refine g_bipush hX dX8_placesOf_24 rfl ?_
  obtain ⟨h1, h⟩ := h
  refine g_icge (tgt := 43) hX h1 (by unfold rng; omega) dX8_placesOf_26 (by decide) (fun c2 => ?_) (fun c2 => ?_)
  · replace h := h.1 c2
    refine g_iconst hX dX8_placesOf_43 ?_
    refine g_istore (loc' := [(4, vi 1), (0, gR G 400), (1, vi x1), (2, vi x2), (3, vi x3)]) hX dX8_placesOf_44 (by decide) rfl ?_
    exact g_sub [1, 2, 3, 4, 0] rfl h
  · replace h := h.2 (Int.not_le.mp c2)
    refine g_aload_n hX dX8_placesOf_29 0 rfl ?_
    refine g_getR hX sh_400 20 rfl fl_X8_69 dX8_placesOf_30 ?_
    refine g_iload hX dX8_placesOf_33 4 rfl ?_
    refine g_iconst hX dX8_placesOf_35 ?_
    obtain ⟨h3, h⟩ := h
    refine g_iast hX sh_421 h3 (by decide) dX8_placesOf_36 ?_
    refine g_iinc (loc' := [(4, vi (x4 + 1)), (0, gR G 400), (1, vi x1), (2, vi x2), (3, vi x3)]) hX dX8_placesOf_37 4 rfl (by decide) rfl ?_
    refine g_goto (tgt := 22) hX dX8_placesOf_40 (by decide) ?_
    exact g_sub [1, 2, 3, 4, 0] rfl h
set_option maxRecDepth 100000 in
set_option maxHeartbeats 4000000 in
theorem bk_X8_placesOf_46 {X : gX} {G : gG} (hX : gOk X G cX8_placesOf 9 RX8 none 4) {Q : gS → Prop} (hE : gEnd X G (gPv (fun s' => Q s' ∧ gRg s'))) (s : gS) (hs : gRg s) (x1 : Int) (x2 : Int) (x3 : Int) (x4 : Int)  (h : (rng x4) ∧ (rng x2) ∧ ((x2 < x4 → Q s) ∧ (x4 ≤ x2 → gWL X G s 58 [(0, gR G 400), (1, vi x1), (2, vi x2), (3, vi x3), (4, vi x4), (5, vi 0), (6, vi 0)] []))) : gWL X G s 46 [(0, gR G 400), (1, vi x1), (2, vi x2), (3, vi x3), (4, vi x4)] [] := by
  refine g_iload hX dX8_placesOf_46 4 rfl ?_
  refine g_iload_n hX dX8_placesOf_48 2 rfl ?_
  obtain ⟨h1, h⟩ := h
  obtain ⟨h2, h⟩ := h
  refine g_icgt (tgt := 214) hX h1 h2 dX8_placesOf_49 (by decide) (fun c3 => ?_) (fun c3 => ?_)
  · replace h := h.1 c3
    exact g_vret hX hE dX8_placesOf_214 ⟨h, hs⟩
  · replace h := h.2 (Int.not_lt.mp c3)
    refine g_iconst hX dX8_placesOf_52 ?_
    refine g_istore (loc' := [(5, vi 0), (0, gR G 400), (1, vi x1), (2, vi x2), (3, vi x3), (4, vi x4)]) hX dX8_placesOf_53 (by decide) rfl ?_
    refine g_iconst hX dX8_placesOf_55 ?_
    refine g_istore (loc' := [(6, vi 0), (5, vi 0), (0, gR G 400), (1, vi x1), (2, vi x2), (3, vi x3), (4, vi x4)]) hX dX8_placesOf_56 (by decide) rfl ?_
    exact g_sub [2, 3, 4, 5, 6, 1, 0] rfl h
set_option maxRecDepth 100000 in
set_option maxHeartbeats 4000000 in
theorem bk_X8_placesOf_58 {X : gX} {G : gG} (hX : gOk X G cX8_placesOf 9 RX8 none 4) {Q : gS → Prop} (hE : gEnd X G (gPv (fun s' => Q s' ∧ gRg s'))) (s : gS) (hs : gRg s) (x1 : Int) (x2 : Int) (x3 : Int) (x4 : Int) (x5 : Int) (x6 : Int)  (h : (rng x6) ∧ ((10 ≤ x6 → gWL X G s 115 [(0, gR G 400), (1, vi x1), (2, vi x2), (3, vi x3), (4, vi x4), (5, vi x5), (6, vi 0)] []) ∧ (x6 < 10 → ((¬ ((0 ≤ x6 ∧ x6 ≤ 9) ∧ gbit (s.1 400 16) x6 = 1) → gWL X G s 58 [(0, gR G 400), (1, vi x1), (2, vi x2), (3, vi x3), (4, vi x4), (5, vi x5), (6, vi (x6 + 1))] []) ∧ ((0 ≤ x6 ∧ x6 ≤ 9) ∧ gbit (s.1 400 16) x6 = 1 → (0 ≤ x6 ∧ x6 < 10) ∧ ((¬ (s.2 421 x6) = 0 → gWL X G s 58 [(0, gR G 400), (1, vi x1), (2, vi x2), (3, vi x3), (4, vi x4), (5, vi x5), (6, vi (x6 + 1))] []) ∧ ((s.2 421 x6) = 0 → (rng x4) ∧ (rng (mranked s x6 x4 0)) ∧ (rng x1) ∧ (((mranked s x6 x4 0) < x1 → gWL X G s 58 [(0, gR G 400), (1, vi x1), (2, vi x2), (3, vi x3), (4, vi x4), (5, vi x5), (6, vi (x6 + 1))] []) ∧ (x1 ≤ (mranked s x6 x4 0) → gWL X G s 58 [(0, gR G 400), (1, vi x1), (2, vi x2), (3, vi x3), (4, vi x4), (5, vi (gor x5 (gshl 1 x6))), (6, vi (x6 + 1))] []))))))))) : gWL X G s 58 [(0, gR G 400), (1, vi x1), (2, vi x2), (3, vi x3), (4, vi x4), (5, vi x5), (6, vi x6)] [] := by
  refine g_iload hX dX8_placesOf_58 6 rfl ?_
  refine g_bipush hX dX8_placesOf_60 rfl ?_
  obtain ⟨h1, h⟩ := h
  refine g_icge (tgt := 112) hX h1 (by unfold rng; omega) dX8_placesOf_62 (by decide) (fun c2 => ?_) (fun c2 => ?_)
  · replace h := h.1 c2
    refine g_iconst hX dX8_placesOf_112 ?_
    refine g_istore (loc' := [(6, vi 0), (0, gR G 400), (1, vi x1), (2, vi x2), (3, vi x3), (4, vi x4), (5, vi x5)]) hX dX8_placesOf_113 (by decide) rfl ?_
    exact g_sub [1, 2, 3, 4, 5, 6, 0] rfl h
  · replace h := h.2 (Int.not_le.mp c2)
    refine g_aload_n hX dX8_placesOf_65 0 rfl ?_
    refine g_iload hX dX8_placesOf_66 6 rfl ?_
    refine g_cVf (As := [vi x6]) hX (fun l => c_X8_sings l hX.inj s x6 hs h1) sh_400 cv_X8_160 (by decide) rfl (Nat.le_of_ble_eq_true rfl) dX8_placesOf_68 rfl (fun g3 => ?_)
    refine g_ifeq (tgt := 106) hX (gb_rng _) dX8_placesOf_71 (by decide) (fun c4 => ?_) (fun c4 => ?_)
    · replace h := h.1 (gb_eq0.mp c4)
      refine g_iinc (loc' := [(6, vi (x6 + 1)), (0, gR G 400), (1, vi x1), (2, vi x2), (3, vi x3), (4, vi x4), (5, vi x5)]) hX dX8_placesOf_106 6 rfl (by decide) rfl ?_
      refine g_goto (tgt := 58) hX dX8_placesOf_109 (by decide) ?_
      exact g_sub [1, 2, 3, 4, 5, 6, 0] rfl h
    · replace h := h.2 (gb_n0.mp c4)
      refine g_aload_n hX dX8_placesOf_74 0 rfl ?_
      refine g_getR hX sh_400 20 rfl fl_X8_69 dX8_placesOf_75 ?_
      refine g_iload hX dX8_placesOf_78 6 rfl ?_
      obtain ⟨h5, h⟩ := h
      refine g_iald hX sh_421 h5 (by decide) dX8_placesOf_80 ?_
      refine g_ifne (tgt := 106) hX (hs.2 _ _) dX8_placesOf_81 (by decide) (fun c6 => ?_) (fun c6 => ?_)
      · replace h := h.1 c6
        refine g_iinc (loc' := [(6, vi (x6 + 1)), (0, gR G 400), (1, vi x1), (2, vi x2), (3, vi x3), (4, vi x4), (5, vi x5)]) hX dX8_placesOf_106 6 rfl (by decide) rfl ?_
        refine g_goto (tgt := 58) hX dX8_placesOf_109 (by decide) ?_
        exact g_sub [1, 2, 3, 4, 5, 6, 0] rfl h
      · replace h := h.2 (gnn c6)
        refine g_aload_n hX dX8_placesOf_84 0 rfl ?_
        refine g_iload hX dX8_placesOf_85 6 rfl ?_
        refine g_iload hX dX8_placesOf_87 4 rfl ?_
        refine g_iconst hX dX8_placesOf_89 ?_
        obtain ⟨h7, h⟩ := h
        refine g_cVf (As := [vi x6, vi x4, vi 0]) hX (fun l => c_X8_ranked l hX.inj s x6 x4 0 hs h7 (by unfold rng; omega) h5) sh_400 cv_X8_152 (by decide) rfl (Nat.le_of_ble_eq_true rfl) dX8_placesOf_90 rfl (fun g8 => ?_)
        refine g_iload_n hX dX8_placesOf_93 1 rfl ?_
        obtain ⟨h9, h⟩ := h
        obtain ⟨h10, h⟩ := h
        refine g_iclt (tgt := 106) hX h9 h10 dX8_placesOf_94 (by decide) (fun c11 => ?_) (fun c11 => ?_)
        · replace h := h.1 c11
          refine g_iinc (loc' := [(6, vi (x6 + 1)), (0, gR G 400), (1, vi x1), (2, vi x2), (3, vi x3), (4, vi x4), (5, vi x5)]) hX dX8_placesOf_106 6 rfl (by decide) rfl ?_
          refine g_goto (tgt := 58) hX dX8_placesOf_109 (by decide) ?_
          exact g_sub [1, 2, 3, 4, 5, 6, 0] rfl h
        · replace h := h.2 (Int.not_lt.mp c11)
          refine g_iload hX dX8_placesOf_97 5 rfl ?_
          refine g_iconst hX dX8_placesOf_99 ?_
          refine g_iload hX dX8_placesOf_100 6 rfl ?_
          refine g_ishl hX dX8_placesOf_102 ?_
          refine g_ior hX dX8_placesOf_103 ?_
          refine g_istore (loc' := [(5, vi (gor x5 (gshl 1 x6))), (0, gR G 400), (1, vi x1), (2, vi x2), (3, vi x3), (4, vi x4), (6, vi x6)]) hX dX8_placesOf_104 (by decide) rfl ?_
          refine g_iinc (loc' := [(6, vi (x6 + 1)), (5, vi (gor x5 (gshl 1 x6))), (0, gR G 400), (1, vi x1), (2, vi x2), (3, vi x3), (4, vi x4)]) hX dX8_placesOf_106 6 rfl (by decide) rfl ?_
          refine g_goto (tgt := 58) hX dX8_placesOf_109 (by decide) ?_
          exact g_sub [2, 3, 4, 5, 6, 1, 0] rfl h
set_option maxRecDepth 100000 in
set_option maxHeartbeats 4000000 in
theorem bk_X8_placesOf_115 {X : gX} {G : gG} (hX : gOk X G cX8_placesOf 9 RX8 none 4) {Q : gS → Prop} (hE : gEnd X G (gPv (fun s' => Q s' ∧ gRg s'))) (s : gS) (hs : gRg s) (x1 : Int) (x2 : Int) (x3 : Int) (x4 : Int) (x5 : Int) (x6 : Int)  (h : (rng x6) ∧ ((10 ≤ x6 → gWL X G s 46 [(0, gR G 400), (1, vi x1), (2, vi x2), (3, vi (x3 + (gones x5))), (4, vi (x4 + 1))] []) ∧ (x6 < 10 → ((¬ (gand (gshr x5 x6) 1) = 0 → gWL X G s 141 [(0, gR G 400), (1, vi x1), (2, vi x2), (3, vi x3), (4, vi x4), (5, vi x5), (6, vi x6), (7, vi 0), (8, vi 0)] []) ∧ ((gand (gshr x5 x6) 1) = 0 → gWL X G s 115 [(0, gR G 400), (1, vi x1), (2, vi x2), (3, vi x3), (4, vi x4), (5, vi x5), (6, vi (x6 + 1))] []))))) : gWL X G s 115 [(0, gR G 400), (1, vi x1), (2, vi x2), (3, vi x3), (4, vi x4), (5, vi x5), (6, vi x6)] [] := by
  refine g_iload hX dX8_placesOf_115 6 rfl ?_
  refine g_bipush hX dX8_placesOf_117 rfl ?_
  obtain ⟨h1, h⟩ := h
  refine g_icge (tgt := 200) hX h1 (by unfold rng; omega) dX8_placesOf_119 (by decide) (fun c2 => ?_) (fun c2 => ?_)
  · replace h := h.1 c2
    refine g_iload_n hX dX8_placesOf_200 3 rfl ?_
    refine g_iload hX dX8_placesOf_201 5 rfl ?_
    refine g_cSf (As := [vi x5]) hX (fun l => c_X8_ones l hX.inj s x5 hs) cv_X8_144 (by decide) rfl (Nat.le_of_ble_eq_true rfl) dX8_placesOf_203 rfl (fun g3 => ?_)
    refine g_iadd hX dX8_placesOf_206 ?_
    refine g_istore_n (loc' := [(3, vi (x3 + (gones x5))), (0, gR G 400), (1, vi x1), (2, vi x2), (4, vi x4), (5, vi x5), (6, vi x6)]) hX dX8_placesOf_207 (by decide) rfl ?_
    refine g_iinc (loc' := [(4, vi (x4 + 1)), (3, vi (x3 + (gones x5))), (0, gR G 400), (1, vi x1), (2, vi x2), (5, vi x5), (6, vi x6)]) hX dX8_placesOf_208 4 rfl (by decide) rfl ?_
    refine g_goto (tgt := 46) hX dX8_placesOf_211 (by decide) ?_
    exact g_sub [2, 3, 4, 1, 0] rfl h
  · replace h := h.2 (Int.not_le.mp c2)
    refine g_iload hX dX8_placesOf_122 5 rfl ?_
    refine g_iload hX dX8_placesOf_124 6 rfl ?_
    refine g_ishr hX dX8_placesOf_126 ?_
    refine g_iconst hX dX8_placesOf_127 ?_
    refine g_iand hX dX8_placesOf_128 ?_
    refine g_ifne (tgt := 135) hX (rng_i _) dX8_placesOf_129 (by decide) (fun c4 => ?_) (fun c4 => ?_)
    · replace h := h.1 c4
      refine g_iconst hX dX8_placesOf_135 ?_
      refine g_istore (loc' := [(7, vi 0), (0, gR G 400), (1, vi x1), (2, vi x2), (3, vi x3), (4, vi x4), (5, vi x5), (6, vi x6)]) hX dX8_placesOf_136 (by decide) rfl ?_
      refine g_iconst hX dX8_placesOf_138 ?_
      refine g_istore (loc' := [(8, vi 0), (7, vi 0), (0, gR G 400), (1, vi x1), (2, vi x2), (3, vi x3), (4, vi x4), (5, vi x5), (6, vi x6)]) hX dX8_placesOf_139 (by decide) rfl ?_
      exact g_sub [2, 3, 4, 5, 6, 7, 8, 1, 0] rfl h
    · replace h := h.2 (gnn c4)
      refine g_goto (tgt := 194) hX dX8_placesOf_132 (by decide) ?_
      refine g_iinc (loc' := [(6, vi (x6 + 1)), (0, gR G 400), (1, vi x1), (2, vi x2), (3, vi x3), (4, vi x4), (5, vi x5)]) hX dX8_placesOf_194 6 rfl (by decide) rfl ?_
      refine g_goto (tgt := 115) hX dX8_placesOf_197 (by decide) ?_
      exact g_sub [1, 2, 3, 4, 5, 6, 0] rfl h
set_option maxRecDepth 100000 in
set_option maxHeartbeats 4000000 in
theorem bk_X8_placesOf_141 {X : gX} {G : gG} (hX : gOk X G cX8_placesOf 9 RX8 none 4) {Q : gS → Prop} (hE : gEnd X G (gPv (fun s' => Q s' ∧ gRg s'))) (s : gS) (hs : gRg s) (x1 : Int) (x2 : Int) (x3 : Int) (x4 : Int) (x5 : Int) (x6 : Int) (x7 : Int) (x8 : Int)  (h : (rng x8) ∧ ((10 ≤ x8 → (0 ≤ x6 ∧ x6 < 10) ∧ (rng ((x3 + x7) + 1)) ∧ gWL X G (gpA s 421 x6 ((x3 + x7) + 1)) 115 [(0, gR G 400), (1, vi x1), (2, vi x2), (3, vi x3), (4, vi x4), (5, vi x5), (6, vi (x6 + 1))] []) ∧ (x8 < 10 → ((¬ (gand (gshr x5 x8) 1) = 1 → gWL X G s 141 [(0, gR G 400), (1, vi x1), (2, vi x2), (3, vi x3), (4, vi x4), (5, vi x5), (6, vi x6), (7, vi x7), (8, vi (x8 + 1))] []) ∧ ((gand (gshr x5 x8) 1) = 1 → (mRk s) ∧ (0 ≤ x8 ∧ x8 < 10) ∧ (0 ≤ x6 ∧ x6 < 10) ∧ (1 ≤ x4 ∧ x4 ≤ 30) ∧ (rng (mag s x8 x6 x4)) ∧ ((0 ≤ (mag s x8 x6 x4) → gWL X G s 141 [(0, gR G 400), (1, vi x1), (2, vi x2), (3, vi x3), (4, vi x4), (5, vi x5), (6, vi x6), (7, vi x7), (8, vi (x8 + 1))] []) ∧ ((mag s x8 x6 x4) < 0 → gWL X G s 141 [(0, gR G 400), (1, vi x1), (2, vi x2), (3, vi x3), (4, vi x4), (5, vi x5), (6, vi x6), (7, vi (x7 + 1)), (8, vi (x8 + 1))] []))))))) : gWL X G s 141 [(0, gR G 400), (1, vi x1), (2, vi x2), (3, vi x3), (4, vi x4), (5, vi x5), (6, vi x6), (7, vi x7), (8, vi x8)] [] := by
  refine g_iload hX dX8_placesOf_141 8 rfl ?_
  refine g_bipush hX dX8_placesOf_143 rfl ?_
  obtain ⟨h1, h⟩ := h
  refine g_icge (tgt := 181) hX h1 (by unfold rng; omega) dX8_placesOf_145 (by decide) (fun c2 => ?_) (fun c2 => ?_)
  · replace h := h.1 c2
    refine g_aload_n hX dX8_placesOf_181 0 rfl ?_
    refine g_getR hX sh_400 20 rfl fl_X8_69 dX8_placesOf_182 ?_
    refine g_iload hX dX8_placesOf_185 6 rfl ?_
    refine g_iload_n hX dX8_placesOf_187 3 rfl ?_
    refine g_iload hX dX8_placesOf_188 7 rfl ?_
    refine g_iadd hX dX8_placesOf_190 ?_
    refine g_iconst hX dX8_placesOf_191 ?_
    refine g_iadd hX dX8_placesOf_192 ?_
    obtain ⟨h3, h⟩ := h
    obtain ⟨h4, h⟩ := h
    refine g_iast hX sh_421 h3 (by decide) dX8_placesOf_193 ?_
    refine g_iinc (loc' := [(6, vi (x6 + 1)), (0, gR G 400), (1, vi x1), (2, vi x2), (3, vi x3), (4, vi x4), (5, vi x5), (7, vi x7), (8, vi x8)]) hX dX8_placesOf_194 6 rfl (by decide) rfl ?_
    refine g_goto (tgt := 115) hX dX8_placesOf_197 (by decide) ?_
    exact g_sub [1, 2, 3, 4, 5, 6, 0] rfl h
  · replace h := h.2 (Int.not_le.mp c2)
    refine g_iload hX dX8_placesOf_148 5 rfl ?_
    refine g_iload hX dX8_placesOf_150 8 rfl ?_
    refine g_ishr hX dX8_placesOf_152 ?_
    refine g_iconst hX dX8_placesOf_153 ?_
    refine g_iand hX dX8_placesOf_154 ?_
    refine g_iconst hX dX8_placesOf_155 ?_
    refine g_icne (tgt := 175) hX (rng_i _) (by unfold rng; omega) dX8_placesOf_156 (by decide) (fun c5 => ?_) (fun c5 => ?_)
    · replace h := h.1 c5
      refine g_iinc (loc' := [(8, vi (x8 + 1)), (0, gR G 400), (1, vi x1), (2, vi x2), (3, vi x3), (4, vi x4), (5, vi x5), (6, vi x6), (7, vi x7)]) hX dX8_placesOf_175 8 rfl (by decide) rfl ?_
      refine g_goto (tgt := 141) hX dX8_placesOf_178 (by decide) ?_
      exact g_sub [1, 2, 3, 4, 5, 6, 7, 8, 0] rfl h
    · replace h := h.2 (gnn c5)
      refine g_aload_n hX dX8_placesOf_159 0 rfl ?_
      refine g_iload hX dX8_placesOf_160 8 rfl ?_
      refine g_iload hX dX8_placesOf_162 6 rfl ?_
      refine g_iload hX dX8_placesOf_164 4 rfl ?_
      obtain ⟨h6, h⟩ := h
      obtain ⟨h7, h⟩ := h
      obtain ⟨h8, h⟩ := h
      obtain ⟨h9, h⟩ := h
      refine g_cVf (As := [vi x8, vi x6, vi x4]) hX (fun l => c_X8_against l hX.inj s x8 x6 x4 hs h6 h7 h8 h9) sh_400 cv_X8_163 (by decide) rfl (Nat.le_of_ble_eq_true rfl) dX8_placesOf_166 rfl (fun g10 => ?_)
      obtain ⟨h11, h⟩ := h
      refine g_ifge (tgt := 175) hX h11 dX8_placesOf_169 (by decide) (fun c12 => ?_) (fun c12 => ?_)
      · replace h := h.1 c12
        refine g_iinc (loc' := [(8, vi (x8 + 1)), (0, gR G 400), (1, vi x1), (2, vi x2), (3, vi x3), (4, vi x4), (5, vi x5), (6, vi x6), (7, vi x7)]) hX dX8_placesOf_175 8 rfl (by decide) rfl ?_
        refine g_goto (tgt := 141) hX dX8_placesOf_178 (by decide) ?_
        exact g_sub [1, 2, 3, 4, 5, 6, 7, 8, 0] rfl h
      · replace h := h.2 (Int.not_le.mp c12)
        refine g_iinc (loc' := [(7, vi (x7 + 1)), (0, gR G 400), (1, vi x1), (2, vi x2), (3, vi x3), (4, vi x4), (5, vi x5), (6, vi x6), (8, vi x8)]) hX dX8_placesOf_172 7 rfl (by decide) rfl ?_
        refine g_iinc (loc' := [(8, vi (x8 + 1)), (7, vi (x7 + 1)), (0, gR G 400), (1, vi x1), (2, vi x2), (3, vi x3), (4, vi x4), (5, vi x5), (6, vi x6)]) hX dX8_placesOf_175 8 rfl (by decide) rfl ?_
        refine g_goto (tgt := 141) hX dX8_placesOf_178 (by decide) ?_
        exact g_sub [2, 3, 4, 5, 6, 7, 8, 1, 0] rfl h
set_option maxRecDepth 100000 in
set_option maxHeartbeats 4000000 in
theorem c_X8_placesOf (l : Launch) {G : gG} (hG : gInj G) (s : gS)  (p0 : gRg s) (p1 : mRk s) (p2 : 0 ≤ (s.1 400 16) ∧ (s.1 400 16) < 1024) : gMet l G yX8_placesOf cX8_placesOf 9 none 4 [gR G 400] s (gPv (fun s' => (mplaced s s') ∧ gRg s')) := by
  refine gMet_of (plainFor_of_name (by decide)) hG (Nat.le_of_ble_eq_true rfl) (fun X hX hE => ?_)
  refine bk_X8_placesOf_0 hX hE s p0   ?_
  have hJ := gJ_bd (mhj s)
  have hN := gones_bd (s.1 400 16)
  have hN10 := gones_10 p2.1 p2.2
  have hhalf : ∀ C : Int, ((gJ (mhj s)).tdiv 2 + 1 ≤ C ↔ gJ (mhj s) < 2 * C) := by
    intro C
    rw [Int.tdiv_eq_ediv_of_nonneg hJ.1]
    omega
  have hhr : rng ((gJ (mhj s)).tdiv 2 + 1) := by
    rw [Int.tdiv_eq_ediv_of_nonneg hJ.1]
    exact rng_of (by omega) (by omega)
  generalize (gJ (mhj s)).tdiv 2 + 1 = half at hhalf hhr ⊢
  refine ⟨rng_of (by omega) (by omega), ?_⟩
  refine gloop (α := gS) (hi := 10) (fun i t => 0 ≤ i ∧ gRg t ∧ moff s t ∧ ∀ c : Int, 0 ≤ c → c < i → t.2 421 c = 0) (fun i t => gWL X G t 22 [(0, gR G 400), (1, vi half), (2, vi (gones (s.1 400 16))), (3, vi 0), (4, vi i)] []) ?_ ?_ 0 s (by omega) ⟨by omega, p0, moff.rf s, fun c h0 h1 => by omega⟩
  · intro i t hi ⟨h0, hg, ho, hz⟩ next
    refine bk_X8_placesOf_22 hX hE t hg half _ 0 i ⟨rng_of (by omega) (by omega), fun h => by omega, fun _ => ⟨by omega, next _ ⟨by omega, gRg_A hg rng_0, ho.put _ _, fun c c0 c1 => ?_⟩⟩⟩
    by_cases e : c = i
    · subst e; exact gpA_eq
    · rw [gpA_ni e]; exact hz c c0 (by omega)
  intro t ⟨h0, hg, ho, hz⟩
  refine bk_X8_placesOf_22 hX hE t hg half _ 0 10 ⟨rng_of (by omega) (by omega), fun _ => ?_, fun h => by omega⟩
  -- the ranks
  refine gloop (α := gS × Int) (hi := gones (s.1 400 16) + 1) (fun k a => 1 ≤ k ∧ gRg a.1 ∧ moff s a.1 ∧ a.2 = mD s k ∧ ∀ c : Int, 0 ≤ c → c < 10 → a.1.2 421 c = mpl s c k) (fun k a => gWL X G a.1 46 [(0, gR G 400), (1, vi half), (2, vi (gones (s.1 400 16))), (3, vi a.2), (4, vi k)] []) ?_ ?_ 1 (t, 0) (by omega) ⟨by omega, hg, ho, ?_, fun c c0 c1 => ?_⟩
  · intro k ⟨t, dn⟩ hk ⟨hk1, hg, ho, hdn, hpl⟩ next
    dsimp only at hg ho hdn hpl ⊢
    have hD := mD_bd s k
    refine bk_X8_placesOf_46 hX hE t hg half _ dn k ⟨rng_of (by omega) (by omega), rng_of (by omega) (by omega), fun h => by omega, fun _ => ?_⟩
    have hs1 : t.1 400 16 = s.1 400 16 := by rw [ho.1]
    -- now
    refine gloop (α := Int) (hi := 10) (fun c now => 0 ≤ c ∧ mnow s k c now) (fun c now => gWL X G t 58 [(0, gR G 400), (1, vi half), (2, vi (gones (s.1 400 16))), (3, vi dn), (4, vi k), (5, vi now), (6, vi c)] []) ?_ ?_ 0 0 (by omega) ⟨by omega, rng_0, fun b b0 b1 => by rw [gbit_0 b0 b1, if_neg (fun z => by omega)]⟩
    · intro c now hc ⟨hc0, hnow⟩ next2
      have hCb := gC_bd (mhj s) (mrk s) c k
      have hstay : ¬ (((0 ≤ c ∧ c ≤ 9) ∧ gbit (s.1 400 16) c = 1) ∧ mF s c = k) → mnow s k (c + 1) now := by
        intro hnot
        refine ⟨hnow.1, fun b b0 b1 => ?_⟩
        rw [hnow.2 b b0 b1]
        by_cases e : b = c
        · subst e
          rw [if_neg (fun z => by omega), if_neg (fun z => hnot ⟨z.1.2, z.2⟩)]
        · by_cases q : (b < c ∧ ((0 ≤ b ∧ b ≤ 9) ∧ gbit (s.1 400 16) b = 1)) ∧ mF s b = k
          · rw [if_pos q, if_pos ⟨⟨by omega, q.1.2⟩, q.2⟩]
          · rw [if_neg q, if_neg (fun z => q ⟨⟨by omega, z.1.2⟩, z.2⟩)]
      have hr : mranked t c k 0 = gC (mhj s) (mrk s) c k := by rw [mranked_0, ho.hj, ho.rk]
      refine bk_X8_placesOf_58 hX hE t hg half _ dn k now c ⟨rng_of (by omega) (by omega), fun h => by omega, fun _ => ⟨fun h => next2 _ ⟨by omega, hstay (fun z => h (by rw [hs1]; exact z.1))⟩, fun h => ⟨by omega, fun h2 => next2 _ ⟨by omega, hstay (fun z => ?_)⟩, fun h2 => ⟨rng_of (by omega) (by omega), by rw [hr]; exact rng_of (by omega) (by omega), hhr, fun h3 => next2 _ ⟨by omega, hstay (fun z => ?_)⟩, fun h3 => next2 _ ⟨by omega, rng_i _, fun b b0 b1 => ?_⟩⟩⟩⟩⟩
      · rw [hpl c (by omega) (by omega)] at h2
        unfold mpl at h2
        rw [if_neg (fun y => by omega)] at h2
        exact h2 rfl
      · rw [hr] at h3
        have := (mF_eq (s := s) (c := c) hk1 (by omega) (by omega)).mp z.2
        have := (hhalf (gC (mhj s) (mrk s) c k)).mpr this
        omega
      · rw [hr] at h3
        rw [hs1] at h
        have hlt := (hhalf _).mp h3
        have hge : k ≤ mF s c := by
          rw [hpl c (by omega) (by omega)] at h2
          unfold mpl at h2
          rcases Int.lt_or_le (mF s c) k with q | q
          · rw [if_pos ⟨h, q⟩] at h2
            have := mD_bd s (mF s c)
            have := mA_bd s c
            omega
          · exact q
        have heq := (mF_eq (s := s) (c := c) hk1 (by omega) hge).mpr hlt
        rw [gbit_or_shl (by omega) (by omega) b0 b1, hnow.2 b b0 b1]
        by_cases e : b = c
        · subst e
          rw [if_pos rfl, if_pos ⟨⟨by omega, h⟩, heq⟩]
        · rw [if_neg e]
          by_cases q : (b < c ∧ ((0 ≤ b ∧ b ≤ 9) ∧ gbit (s.1 400 16) b = 1)) ∧ mF s b = k
          · rw [if_pos q, if_pos ⟨⟨by omega, q.1.2⟩, q.2⟩]
          · rw [if_neg q, if_neg (fun z => q ⟨⟨by omega, z.1.2⟩, z.2⟩)]
    · intro now ⟨_, hnow⟩
      refine bk_X8_placesOf_58 hX hE t hg half _ dn k now 10 ⟨rng_of (by omega) (by omega), fun _ => ?_, fun h => by omega⟩
      -- places at this rank
      refine gloop (α := gS) (hi := 10) (fun c u => 0 ≤ c ∧ gRg u ∧ moff s u ∧ ∀ b : Int, 0 ≤ b → b < 10 → u.2 421 b = if b < c then mpl s b (k + 1) else mpl s b k) (fun c u => gWL X G u 115 [(0, gR G 400), (1, vi half), (2, vi (gones (s.1 400 16))), (3, vi dn), (4, vi k), (5, vi now), (6, vi c)] []) ?_ ?_ 0 t (by omega) ⟨by omega, hg, ho, fun b b0 b1 => by rw [if_neg (by omega)]; exact hpl b b0 b1⟩
      · intro c u hc ⟨hc0, hgu, hou, hu⟩ next2
        have hb := hnow.2 c hc0 (by omega)
        refine bk_X8_placesOf_115 hX hE u hgu half _ dn k now c ⟨rng_of (by omega) (by omega), fun h => by omega, fun _ => ⟨fun h => ?_, fun h => next2 _ ⟨by omega, hgu, hou, fun b b0 b1 => ?_⟩⟩⟩
        · have hin : (((0 ≤ c ∧ c ≤ 9) ∧ gbit (s.1 400 16) c = 1) ∧ mF s c = k) := by
            by_cases q : (c < 10 ∧ ((0 ≤ c ∧ c ≤ 9) ∧ gbit (s.1 400 16) c = 1)) ∧ mF s c = k
            · exact ⟨q.1.2, q.2⟩
            · rw [if_neg q] at hb; exact absurd hb h
          refine gloop (α := Int) (hi := 10) (fun b ah => 0 ≤ b ∧ ah = gsum (fun b => if (((0 ≤ b ∧ b ≤ 9) ∧ gbit (s.1 400 16) b = 1) ∧ mF s b = mF s c) ∧ mag s b c (mF s c) < 0 then 1 else 0) b) (fun b ah => gWL X G u 141 [(0, gR G 400), (1, vi half), (2, vi (gones (s.1 400 16))), (3, vi dn), (4, vi k), (5, vi now), (6, vi c), (7, vi ah), (8, vi b)] []) ?_ ?_ 0 0 (by omega) ⟨by omega, rfl⟩
          · intro b ah hb10 ⟨hb0, hah⟩ next3
            have hbb := hnow.2 b hb0 (by omega)
            have hag : mag u b c k = mag s b c (mF s c) := by rw [hou.ag, hin.2]
            refine bk_X8_placesOf_141 hX hE u hgu half _ dn k now c ah b ⟨rng_of (by omega) (by omega), fun h => by omega, fun _ => ⟨fun h => next3 _ ⟨by omega, ?_⟩, fun h => ⟨hou.rb p1, by omega, by omega, by omega, mag_rng (hou.rb p1) (by omega) (by omega), fun h2 => next3 _ ⟨by omega, ?_⟩, fun h2 => next3 _ ⟨by omega, ?_⟩⟩⟩⟩
            · rw [gsum_s _ hb0, hah, if_neg (fun z => h (by show gbit now b = 1; rw [hbb, if_pos ⟨⟨hb10, z.1.1⟩, z.1.2.trans hin.2⟩]))]
              omega
            · rw [hag] at h2
              rw [gsum_s _ hb0, hah, if_neg (fun z => by omega)]
              omega
            · rw [hag] at h2
              have h' : gbit now b = 1 := h
              rw [hbb] at h'
              have hq : (b < 10 ∧ ((0 ≤ b ∧ b ≤ 9) ∧ gbit (s.1 400 16) b = 1)) ∧ mF s b = k := by
                by_cases q : (b < 10 ∧ ((0 ≤ b ∧ b ≤ 9) ∧ gbit (s.1 400 16) b = 1)) ∧ mF s b = k
                · exact q
                · rw [if_neg q] at h'; omega
              rw [gsum_s _ hb0, hah, if_pos ⟨⟨hq.1.2, hq.2.trans hin.2.symm⟩, h2⟩]
          · intro ah ⟨_, hah⟩
            have hA := mA_bd s c
            have hah' : ah = mA s c := hah
            have hv : dn + ah + 1 = mpl s c (k + 1) := by
              unfold mpl
              rw [if_pos ⟨hin.1, by omega⟩, hin.2, hdn, hah']
            refine bk_X8_placesOf_141 hX hE u hgu half _ dn k now c ah 10 ⟨rng_of (by omega) (by omega), fun _ => ⟨by omega, rng_of (by omega) (by omega), next2 _ ⟨by omega, gRg_A hgu (rng_of (by omega) (by omega)), hou.put _ _, fun b b0 b1 => ?_⟩⟩, fun h => by omega⟩
            by_cases e : b = c
            · subst e
              rw [gpA_eq, if_pos (by omega), hv]
            · rw [gpA_ni e, hu b b0 b1]
              by_cases q : b < c
              · rw [if_pos q, if_pos (by omega)]
              · rw [if_neg q, if_neg (by omega)]
        · rw [hu b b0 b1]
          by_cases e : b = c
          · subst e
            rw [if_neg (by omega), if_pos (by omega)]
            have hnot : ¬ (((0 ≤ b ∧ b ≤ 9) ∧ gbit (s.1 400 16) b = 1) ∧ mF s b = k) := by
              intro z
              rw [if_pos ⟨⟨hc, z.1⟩, z.2⟩] at hb
              have h' : gbit now b = 0 := h
              omega
            unfold mpl
            by_cases q : ((0 ≤ b ∧ b ≤ 9) ∧ gbit (s.1 400 16) b = 1) ∧ mF s b < k
            · rw [if_pos q, if_pos ⟨q.1, by omega⟩]
            · rw [if_neg q, if_neg (fun z => by
                rcases Int.lt_or_le (mF s b) k with y | y
                · exact q ⟨z.1, y⟩
                · exact hnot ⟨z.1, by omega⟩)]
          · by_cases q : b < c
            · rw [if_pos q, if_pos (by omega)]
            · rw [if_neg q, if_neg (by omega)]
      · intro u ⟨_, hgu, hou, hu⟩
        have hon := mnow_ones hnow
        refine bk_X8_placesOf_115 hX hE u hgu half _ dn k now 10 ⟨rng_of (by omega) (by omega), fun _ => next (u, dn + gones now) ⟨by omega, hgu, hou, ?_, fun c c0 c1 => ?_⟩, fun h => by omega⟩
        · show dn + gones now = mD s (k + 1)
          rw [mD_s, hon, hdn]
        · show u.2 421 c = _
          rw [hu c c0 c1, if_pos c1]
  · intro ⟨t, dn⟩ ⟨hk1, hg, ho, hdn, hpl⟩
    dsimp only at hg ho hdn hpl ⊢
    exact bk_X8_placesOf_46 hX hE t hg half _ dn _ ⟨rng_of (by omega) (by omega), rng_of (by omega) (by omega), fun _ => ⟨ho, hpl⟩, fun h => by omega⟩
  · unfold mD
    show (0 : Int) = _
    rw [gsum_tail (m := 0) (by omega) (by omega) (fun i _ _ => by
      have := mF_bd s i
      rw [if_neg (fun z => by omega)])]
    rfl
  · show t.2 421 c = _
    rw [hz c c0 c1]
    have := mF_bd s c
    unfold mpl
    rw [if_neg (fun z => by omega)]
def mplaceQ (s : gS) (c v : Int) (s' : gS) : Prop := if ((0 ≤ c ∧ c ≤ 9) ∧ gbit (s.1 400 16) c = 1) ∧ ¬ gJ (mhj s) = 0 then v = mpl s c (gones (s.1 400 16) + 1) ∧ moff s s' else v = -1 ∧ s' = s
set_option maxRecDepth 100000 in
set_option maxHeartbeats 4000000 in
theorem bk_X8_place__0 {X : gX} {G : gG} (hX : gOk X G cX8_place_ 2 RX8 (some .int) 5) {Q : Int → gS → Prop} (hE : gEnd X G (gPi (fun v s' => Q v s' ∧ gRg s'))) (s : gS) (hs : gRg s) (x1 : Int)  (h : (rng x1) ∧ ((¬ ((0 ≤ x1 ∧ x1 ≤ 9) ∧ gbit (s.1 400 16) x1 = 1) → Q (-1) s) ∧ ((0 ≤ x1 ∧ x1 ≤ 9) ∧ gbit (s.1 400 16) x1 = 1 → (rng (gJ (mhj s))) ∧ ((¬ (gJ (mhj s)) = 0 → (mRk s) ∧ (0 ≤ (s.1 400 16) ∧ (s.1 400 16) < 1024) ∧ (∀ s9 : gS, ((mplaced s s9) ∧ gRg s9) → (0 ≤ x1 ∧ x1 < 10) ∧ Q (s9.2 421 x1) s9)) ∧ ((gJ (mhj s)) = 0 → Q (-1) s))))) : gWL X G s 0 [(0, gR G 400), (1, vi x1)] [] := by
  refine g_aload_n hX dX8_place__0 0 rfl ?_
  refine g_iload_n hX dX8_place__1 1 rfl ?_
  obtain ⟨h1, h⟩ := h
  refine g_cVf (As := [vi x1]) hX (fun l => c_X8_sings l hX.inj s x1 hs h1) sh_400 cv_X8_160 (by decide) rfl (Nat.le_of_ble_eq_true rfl) dX8_place__2 rfl (fun g2 => ?_)
  refine g_ifeq (tgt := 15) hX (gb_rng _) dX8_place__5 (by decide) (fun c3 => ?_) (fun c3 => ?_)
  · replace h := h.1 (gb_eq0.mp c3)
    refine g_iconst hX dX8_place__15 ?_
    exact g_iret hX hE dX8_place__16 ⟨h, hs⟩
  · replace h := h.2 (gb_n0.mp c3)
    refine g_aload_n hX dX8_place__8 0 rfl ?_
    refine g_cVf (As := []) hX (fun l => c_X8_judges l hX.inj s  hs) sh_400 cv_X8_156 (by decide) rfl (Nat.le_of_ble_eq_true rfl) dX8_place__9 rfl (fun g4 => ?_)
    obtain ⟨h5, h⟩ := h
    refine g_ifne (tgt := 17) hX h5 dX8_place__12 (by decide) (fun c6 => ?_) (fun c6 => ?_)
    · replace h := h.1 c6
      refine g_aload_n hX dX8_place__17 0 rfl ?_
      obtain ⟨h7, h⟩ := h
      obtain ⟨h8, h⟩ := h
      refine g_cVu (As := []) hX (fun l => c_X8_placesOf l hX.inj s  hs h7 h8) sh_400 cv_X8_166 (by decide) rfl (Nat.le_of_ble_eq_true rfl) dX8_place__18 rfl (fun s9 q10 => ?_)
      replace h := h s9 q10
      have rs9 : gRg s9 := q10.2
      refine g_aload_n hX dX8_place__21 0 rfl ?_
      refine g_getR hX sh_400 20 rfl fl_X8_69 dX8_place__22 ?_
      refine g_iload_n hX dX8_place__25 1 rfl ?_
      obtain ⟨h11, h⟩ := h
      refine g_iald hX sh_421 h11 (by decide) dX8_place__26 ?_
      exact g_iret hX hE dX8_place__27 ⟨h, rs9⟩
    · replace h := h.2 (gnn c6)
      refine g_iconst hX dX8_place__15 ?_
      exact g_iret hX hE dX8_place__16 ⟨h, hs⟩
set_option maxRecDepth 100000 in
set_option maxHeartbeats 4000000 in
theorem c_X8_place_ (l : Launch) {G : gG} (hG : gInj G) (s : gS) (x1 : Int) (p0 : gRg s) (p1 : rng x1) (p2 : mRk s) (p3 : 0 ≤ (s.1 400 16) ∧ (s.1 400 16) < 1024) : gMet l G yX8_place_ cX8_place_ 2 (some .int) 5 [gR G 400, vi x1] s (gPi (fun v s' => (mplaceQ s x1 v s') ∧ gRg s')) := by
  refine gMet_of (plainFor_of_name (by decide)) hG (Nat.le_of_ble_eq_true rfl) (fun X hX hE => ?_)
  refine bk_X8_place__0 hX hE s p0 x1  ?_
  have hJ := gJ_bd (mhj s)
  unfold mplaceQ
  refine ⟨p1, fun a => ?_, fun a => ⟨rng_of (by omega) (by omega), fun b => ⟨p2, p3, fun s9 hq => ⟨by omega, ?_⟩⟩, fun b => ?_⟩⟩
  · rw [if_neg (fun z => a z.1)]; exact ⟨rfl, rfl⟩
  · rw [if_pos ⟨a, b⟩]
    exact ⟨hq.1.2 x1 (by omega) (by omega), hq.1.1⟩
  · rw [if_neg (fun z => z.2 b)]; exact ⟨rfl, rfl⟩
end
section
theorem fl_X7_58 : gFL RX7 58 7 7 := ⟨RX7, TX7, 8, tyX7, rfl, by decide, inG_X7, (gm_1 229 rfl rfl), tyX7_ok, nmX7, fun h => absurd h (by decide)⟩
theorem fl_X8_99 : gFL RX8 99 8 33 := ⟨RX8, TX8, 34, tyX8, rfl, by decide, inG_X8, (gm_3 71 rfl rfl), tyX8_ok, nmX8, fun h => absurd h (by decide)⟩
theorem cv_X7_169 : gCV RX7 169 yX7_drawOrder cX7_drawOrder 7 none 2 7 := ⟨TX7, 8, rfl, (gm_3 27 rfl rfl), (gm_3 29 rfl rfl), (gm_s 16 rfl rfl), (gm_1 1 rfl rfl), (gm_3 30 rfl rfl), ⟨by decide, by decide, by decide +kernel⟩, by decide⟩
theorem ldc_X7_183 : Cond.constant RX7 183 (1103515245) ∈ gAll := (gm_3 31 rfl rfl)
theorem ldc_X8_187 : Cond.constant RX8 187 (1103515245) ∈ gAll := (gm_4 63 rfl rfl)
/-! ===== drawn orders ===== -/
def gdst (n : Int) (m : Int) (a : (Int → Int) × Int) : (Int → Int) × Int :=
  (fun j => if j = (gushr ((1103515245 * a.2) + 12345) 8).tmod (n - 1 - m + 1) then a.1 (n - 1 - m) else if j = n - 1 - m then a.1 ((gushr ((1103515245 * a.2) + 12345) 8).tmod (n - 1 - m + 1)) else a.1 j, (1103515245 * a.2) + 12345)
def gdit (n g m : Int) : (Int → Int) × Int := giter (gdst n) (fun j => j, g) m
/-- t is s, but the row k holds the order of n drawn from g -/
def gdrawn (s t : gS) (k n g : Int) : Prop := t.1 = s.1 ∧ (∀ k' : Int, k' ≠ k → t.2 k' = s.2 k') ∧ ∀ i : Int, 0 ≤ i → i < n → t.2 k i = (gdit n g (n - 1)).1 i
theorem gushr8 (a : Int) : 0 ≤ gushr a 8 := by
  unfold gushr
  have e : ((Int32.ofInt 8).toUInt32 &&& Int32.toUInt32 31) = 8 := by decide
  rw [e]
  generalize (Int32.ofInt a).toUInt32 = x
  have h : (x >>> 8).toNat < 2 ^ 24 := by
    rw [UInt32.toNat_shiftRight, show (8 : UInt32).toNat % 32 = 8 from rfl, Nat.shiftRight_eq_div_pow]
    have := x.toNat_lt
    omega
  have e2 : (x >>> 8).toInt32.toInt = ((x >>> 8).toNat : Int) := by
    show (x >>> 8).toBitVec.toInt = _
    rw [BitVec.toInt_eq_toNat_of_lt (by show 2 * (x >>> 8).toNat < _; omega)]
    rfl
  rw [e2]
  omega
theorem gdq {g i : Int} (h : 0 ≤ i) : 0 ≤ (gushr g 8).tmod (i + 1) ∧ (gushr g 8).tmod (i + 1) < i + 1 := ⟨Int.tmod_nonneg _ (gushr8 g), Int.tmod_lt_of_pos _ (by omega)⟩
def gswap (s : gS) (k i q : Int) : gS := gpA (gpA s k i (s.2 k q)) k q (s.2 k i)
theorem gswap_at (s : gS) (k i q j : Int) : (gswap s k i q).2 k j = if j = q then s.2 k i else if j = i then s.2 k q else s.2 k j := by
  unfold gswap
  by_cases h : j = q
  · subst h; rw [gpA_eq, if_pos rfl]
  · rw [gpA_ni h, if_neg h]
    by_cases h2 : j = i
    · subst h2; rw [gpA_eq, if_pos rfl]
    · rw [gpA_ni h2, if_neg h2]
theorem gswap_off (s : gS) (k i q k' : Int) (h : k' ≠ k) : (gswap s k i q).2 k' = s.2 k' := by
  funext j
  unfold gswap
  rw [gpA_nk h, gpA_nk h]
theorem gswap_rg {s : gS} {k i q : Int} (h : gRg s) : gRg (gswap s k i q) := gRg_A (gRg_A h (h.2 _ _)) (h.2 _ _)
theorem gdstep {s : gS} {k n g x i : Int} (hi : 0 < i) (hin : i < n) (hA : ∀ j : Int, 0 ≤ j → j < n → s.2 k j = (gdit n g (n - 1 - i)).1 j) (hx : x = (gdit n g (n - 1 - i)).2) :
    (∀ j : Int, 0 ≤ j → j < n → (gswap s k i ((gushr ((1103515245 * x) + 12345) 8).tmod (i + 1))).2 k j = (gdit n g (n - 1 - (i - 1))).1 j) ∧ (1103515245 * x) + 12345 = (gdit n g (n - 1 - (i - 1))).2 := by
  have e : gdit n g (n - 1 - (i - 1)) = gdst n (n - 1 - i) (gdit n g (n - 1 - i)) := by
    unfold gdit
    rw [show n - 1 - (i - 1) = (n - 1 - i) + 1 by omega, giter_s _ _ (by omega)]
  have e2 : n - 1 - (n - 1 - i) = i := by omega
  have hq := gdq (g := (1103515245 * x) + 12345) (i := i) (by omega)
  rw [e]
  unfold gdst
  rw [e2, ← hx]
  refine ⟨fun j h0 h1 => ?_, rfl⟩
  rw [gswap_at, hA i (by omega) hin, hA _ hq.1 (by omega)]
  dsimp only
  by_cases h : j = (gushr ((1103515245 * x) + 12345) 8).tmod (i + 1)
  · rw [if_pos h, if_pos h]
  · rw [if_neg h, if_neg h, hA j h0 h1]
set_option maxRecDepth 100000 in
set_option maxHeartbeats 4000000 in
theorem bk_X7_drawOrder_0 {X : gX} {G : gG} (hX : gOk X G cX7_drawOrder 7 RX7 none 1) {Q : gS → Prop} (hE : gEnd X G (gPv (fun s' => Q s' ∧ gRg s'))) (s : gS) (hs : gRg s) (x1 : Int) (x2 : Int)  (h : gWL X G s 2 [(0, gR G 0), (1, vi x1), (2, vi x2), (3, vi 0)] []) : gWL X G s 0 [(0, gR G 0), (1, vi x1), (2, vi x2)] [] := by
  refine g_iconst hX dX7_drawOrder_0 ?_
  refine g_istore_n (loc' := [(3, vi 0), (0, gR G 0), (1, vi x1), (2, vi x2)]) hX dX7_drawOrder_1 (by decide) rfl ?_
  exact g_sub [1, 2, 3, 0] rfl h
set_option maxRecDepth 100000 in
set_option maxHeartbeats 4000000 in
theorem bk_X7_drawOrder_2 {X : gX} {G : gG} (hX : gOk X G cX7_drawOrder 7 RX7 none 1) {Q : gS → Prop} (hE : gEnd X G (gPv (fun s' => Q s' ∧ gRg s'))) (s : gS) (hs : gRg s) (x1 : Int) (x2 : Int) (x3 : Int)  (h : (rng x3) ∧ (rng x1) ∧ ((x1 ≤ x3 → gWL X G s 27 [(0, gR G 0), (3, vi x2), (4, vi (x1 - 1))] []) ∧ (x3 < x1 → (0 ≤ x3 ∧ x3 < 12) ∧ gWL X G (gpA s 8 x3 x3) 2 [(0, gR G 0), (1, vi x1), (2, vi x2), (3, vi (x3 + 1))] []))) : gWL X G s 2 [(0, gR G 0), (1, vi x1), (2, vi x2), (3, vi x3)] [] := by
  refine g_iload_n hX dX7_drawOrder_2 3 rfl ?_
  refine g_iload_n hX dX7_drawOrder_3 1 rfl ?_
  obtain ⟨h1, h⟩ := h
  obtain ⟨h2, h⟩ := h
  refine g_icge (tgt := 20) hX h1 h2 dX7_drawOrder_4 (by decide) (fun c3 => ?_) (fun c3 => ?_)
  · replace h := h.1 c3
    refine g_iload_n hX dX7_drawOrder_20 2 rfl ?_
    refine g_istore_n (loc' := [(3, vi x2), (0, gR G 0), (1, vi x1), (2, vi x2)]) hX dX7_drawOrder_21 (by decide) rfl ?_
    refine g_iload_n hX dX7_drawOrder_22 2 rfl ?_
    refine g_iconst hX dX7_drawOrder_23 ?_
    refine g_isub hX dX7_drawOrder_24 ?_
    refine g_istore (loc' := [(4, vi (x1 - 1)), (3, vi x2), (0, gR G 0), (1, vi x1), (2, vi x2)]) hX dX7_drawOrder_25 (by decide) rfl ?_
    exact g_sub [2, 1, 0] rfl h
  · replace h := h.2 (Int.not_le.mp c3)
    refine g_aload_n hX dX7_drawOrder_7 0 rfl ?_
    refine g_getR hX sh_0 7 rfl fl_X7_58 dX7_drawOrder_8 ?_
    refine g_iload_n hX dX7_drawOrder_11 3 rfl ?_
    refine g_iload_n hX dX7_drawOrder_12 3 rfl ?_
    obtain ⟨h4, h⟩ := h
    refine g_iast hX sh_8 h4 (by decide) dX7_drawOrder_13 ?_
    refine g_iinc (loc' := [(3, vi (x3 + 1)), (0, gR G 0), (1, vi x1), (2, vi x2)]) hX dX7_drawOrder_14 3 rfl (by decide) rfl ?_
    refine g_goto (tgt := 2) hX dX7_drawOrder_17 (by decide) ?_
    exact g_sub [1, 2, 3, 0] rfl h
set_option maxRecDepth 100000 in
set_option maxHeartbeats 4000000 in
theorem bk_X7_drawOrder_27 {X : gX} {G : gG} (hX : gOk X G cX7_drawOrder 7 RX7 none 1) {Q : gS → Prop} (hE : gEnd X G (gPv (fun s' => Q s' ∧ gRg s'))) (s : gS) (hs : gRg s) (x3 : Int) (x4 : Int)  (h : (rng x4) ∧ ((x4 < 1 → Q s) ∧ (1 ≤ x4 → (rng (x4 + 1)) ∧ (0 < (x4 + 1)) ∧ (0 ≤ x4 ∧ x4 < 12) ∧ (0 ≤ ((gushr ((1103515245 * x3) + 12345) 8).tmod (x4 + 1)) ∧ ((gushr ((1103515245 * x3) + 12345) 8).tmod (x4 + 1)) < 12) ∧ gWL X G (gpA (gpA s 8 x4 (s.2 8 ((gushr ((1103515245 * x3) + 12345) 8).tmod (x4 + 1)))) 8 ((gushr ((1103515245 * x3) + 12345) 8).tmod (x4 + 1)) (s.2 8 x4)) 27 [(0, gR G 0), (3, vi ((1103515245 * x3) + 12345)), (4, vi (x4 - 1))] []))) : gWL X G s 27 [(0, gR G 0), (3, vi x3), (4, vi x4)] [] := by
  refine g_iload hX dX7_drawOrder_27 2 rfl ?_
  refine g_iconst hX dX7_drawOrder_29 ?_
  obtain ⟨h1, h⟩ := h
  refine g_iclt (tgt := 91) hX h1 (by unfold rng; omega) dX7_drawOrder_30 (by decide) (fun c2 => ?_) (fun c2 => ?_)
  · replace h := h.1 c2
    exact g_vret hX hE dX7_drawOrder_91 ⟨h, hs⟩
  · replace h := h.2 (Int.not_lt.mp c2)
    refine g_ldc (n := 1103515245) hX ldc_X7_183 dX7_drawOrder_33 rfl ?_
    refine g_iload_n hX dX7_drawOrder_35 1 rfl ?_
    refine g_imul hX dX7_drawOrder_36 ?_
    refine g_sipush hX dX7_drawOrder_37 rfl ?_
    refine g_iadd hX dX7_drawOrder_40 ?_
    refine g_istore_n (loc' := [(3, vi ((1103515245 * x3) + 12345)), (0, gR G 0), (4, vi x4)]) hX dX7_drawOrder_41 (by decide) rfl ?_
    refine g_iload_n hX dX7_drawOrder_42 0 rfl ?_
    refine g_bipush hX dX7_drawOrder_43 rfl ?_
    refine g_iushr hX dX7_drawOrder_45 ?_
    refine g_iload hX dX7_drawOrder_46 2 rfl ?_
    refine g_iconst hX dX7_drawOrder_48 ?_
    refine g_iadd hX dX7_drawOrder_49 ?_
    obtain ⟨h3, h⟩ := h
    obtain ⟨h4, h⟩ := h
    refine g_irem hX (rng_i _) h3 h4 dX7_drawOrder_50 ?_
    refine g_istore (loc' := [(5, vi ((gushr ((1103515245 * x3) + 12345) 8).tmod (x4 + 1))), (3, vi ((1103515245 * x3) + 12345)), (0, gR G 0), (4, vi x4)]) hX dX7_drawOrder_51 (by decide) rfl ?_
    refine g_aload_n hX dX7_drawOrder_53 2 rfl ?_
    refine g_getR hX sh_0 7 rfl fl_X7_58 dX7_drawOrder_54 ?_
    refine g_iload hX dX7_drawOrder_57 3 rfl ?_
    obtain ⟨h5, h⟩ := h
    refine g_iald hX sh_8 h5 (by decide) dX7_drawOrder_59 ?_
    refine g_istore (loc' := [(6, vi (s.2 8 x4)), (5, vi ((gushr ((1103515245 * x3) + 12345) 8).tmod (x4 + 1))), (3, vi ((1103515245 * x3) + 12345)), (0, gR G 0), (4, vi x4)]) hX dX7_drawOrder_60 (by decide) rfl ?_
    refine g_aload_n hX dX7_drawOrder_62 3 rfl ?_
    refine g_getR hX sh_0 7 rfl fl_X7_58 dX7_drawOrder_63 ?_
    refine g_iload hX dX7_drawOrder_66 4 rfl ?_
    refine g_aload_n hX dX7_drawOrder_68 3 rfl ?_
    refine g_getR hX sh_0 7 rfl fl_X7_58 dX7_drawOrder_69 ?_
    refine g_iload hX dX7_drawOrder_72 1 rfl ?_
    obtain ⟨h6, h⟩ := h
    refine g_iald hX sh_8 h6 (by decide) dX7_drawOrder_74 ?_
    refine g_iast hX sh_8 h5 (by decide) dX7_drawOrder_75 ?_
    refine g_aload_n hX dX7_drawOrder_76 3 rfl ?_
    refine g_getR hX sh_0 7 rfl fl_X7_58 dX7_drawOrder_77 ?_
    refine g_iload hX dX7_drawOrder_80 1 rfl ?_
    refine g_iload hX dX7_drawOrder_82 0 rfl ?_
    refine g_iast hX sh_8 h6 (by decide) dX7_drawOrder_84 ?_
    refine g_iinc (loc' := [(4, vi (x4 - 1)), (6, vi (s.2 8 x4)), (5, vi ((gushr ((1103515245 * x3) + 12345) 8).tmod (x4 + 1))), (3, vi ((1103515245 * x3) + 12345)), (0, gR G 0)]) hX dX7_drawOrder_85 4 rfl (by decide) rfl ?_
    refine g_goto (tgt := 27) hX dX7_drawOrder_88 (by decide) ?_
    exact g_sub [4, 3, 0] rfl h
set_option maxRecDepth 100000 in
set_option maxHeartbeats 4000000 in
theorem c_X7_drawOrder (l : Launch) {G : gG} (hG : gInj G) (s : gS) (x1 : Int) (x2 : Int) (p0 : gRg s) (p1 : 1 ≤ x1 ∧ x1 ≤ 12) : gMet l G yX7_drawOrder cX7_drawOrder 7 none 1 [gR G 0, vi x1, vi x2] s (gPv (fun s' => (gdrawn s s' 8 x1 x2) ∧ gRg s')) := by
  refine gMet_of (plainFor_of_name (by decide)) hG (Nat.le_of_ble_eq_true rfl) (fun X hX hE => ?_)
  refine bk_X7_drawOrder_0 hX hE s p0 x1 x2  ?_
  have r1 : rng x1 := rng_of (by omega) (by omega)
  refine gloop (α := gS) (hi := x1) (fun i t => 0 ≤ i ∧ gRg t ∧ t.1 = s.1 ∧ (∀ k' : Int, k' ≠ 8 → t.2 k' = s.2 k') ∧ ∀ j : Int, 0 ≤ j → j < i → t.2 8 j = j) (fun i t => gWL X G t 2 [(0, gR G 0), (1, vi x1), (2, vi x2), (3, vi i)] []) ?_ ?_ 0 s (by omega) ⟨by omega, p0, rfl, fun _ _ => rfl, fun j h0 h1 => by omega⟩
  · intro i t hi ⟨h0, hg, h1, h2, h3⟩ next
    refine bk_X7_drawOrder_2 hX hE t hg x1 x2 i ⟨rng_of (by omega) (by omega), r1, fun h => by omega, fun _ => ⟨by omega, next _ ⟨by omega, gRg_A hg (rng_of (by omega) (by omega)), h1, fun k' hk => ?_, fun j j0 j1 => ?_⟩⟩⟩
    · rw [← h2 k' hk]; funext j; exact gpA_nk hk
    · by_cases e : j = i
      · subst e; exact gpA_eq
      · rw [gpA_ni e]; exact h3 j j0 (by omega)
  intro t ⟨h0, hg, h1, h2, h3⟩
  refine bk_X7_drawOrder_2 hX hE t hg x1 x2 x1 ⟨r1, r1, fun _ => ?_, fun h => by omega⟩
  refine gloopD (α := gS × Int) (lo := 0) (fun i a => i < x1 ∧ gRg a.1 ∧ a.1.1 = s.1 ∧ (∀ k' : Int, k' ≠ 8 → a.1.2 k' = s.2 k') ∧ (∀ j : Int, 0 ≤ j → j < x1 → a.1.2 8 j = (gdit x1 x2 (x1 - 1 - i)).1 j) ∧ a.2 = (gdit x1 x2 (x1 - 1 - i)).2) (fun i a => gWL X G a.1 27 [(0, gR G 0), (3, vi a.2), (4, vi i)] []) ?_ ?_ (x1 - 1) (t, x2) (by omega) ⟨by omega, hg, h1, h2, fun j j0 j1 => by rw [show x1 - 1 - (x1 - 1) = 0 by omega]; exact h3 j j0 j1, by rw [show x1 - 1 - (x1 - 1) = 0 by omega]; rfl⟩
  · intro i ⟨t, x⟩ hi ⟨hin, hg, h1, h2, hA, hx⟩ next
    dsimp only at hg h1 h2 hA hx ⊢
    have hq := gdq (g := (1103515245 * x) + 12345) (i := i) (by omega)
    have hst := gdstep hi hin hA hx
    refine bk_X7_drawOrder_27 hX hE t hg x i ⟨rng_of (by omega) (by omega), fun h => by omega, fun _ => ⟨rng_of (by omega) (by omega), by omega, by omega, by omega, ?_⟩⟩
    exact next (gswap t 8 i ((gushr ((1103515245 * x) + 12345) 8).tmod (i + 1)), (1103515245 * x) + 12345) ⟨by omega, gswap_rg hg, h1, fun k' hk => (gswap_off t 8 i _ k' hk).trans (h2 k' hk), hst.1, hst.2⟩
  · intro ⟨t, x⟩ ⟨hin, hg, h1, h2, hA, hx⟩
    dsimp only at hg h1 h2 hA hx ⊢
    refine bk_X7_drawOrder_27 hX hE t hg x 0 ⟨rng_of (by omega) (by omega), fun _ => ⟨h1, h2, fun j j0 j1 => ?_⟩, fun h => by omega⟩
    rw [hA j j0 j1, show x1 - 1 - 0 = x1 - 1 by omega]
set_option maxRecDepth 100000 in
set_option maxHeartbeats 4000000 in
theorem bk_X7_draw_0 {X : gX} {G : gG} (hX : gOk X G cX7_draw 4 RX7 (some .int) 2) {Q : Int → gS → Prop} (hE : gEnd X G (gPi (fun v s' => Q v s' ∧ gRg s'))) (s : gS) (hs : gRg s) (x1 : Int) (x2 : Int) (x3 : Int)  (h : (rng x1) ∧ ((¬ (1 ≤ x1 ∧ x1 ≤ 12) → Q (-1) s) ∧ (1 ≤ x1 ∧ x1 ≤ 12 → (rng x3) ∧ (rng (x1 - 1)) ∧ ((0 ≤ x3 ∧ x3 ≤ (x1 - 1) → (1 ≤ x1 ∧ x1 ≤ 12) ∧ (∀ s9 : gS, ((gdrawn s s9 8 x1 x2) ∧ gRg s9) → (0 ≤ x3 ∧ x3 < 12) ∧ Q (s9.2 8 x3) s9)) ∧ (¬ (0 ≤ x3 ∧ x3 ≤ (x1 - 1)) → Q (-1) s))))) : gWL X G s 0 [(0, gR G 0), (1, vi x1), (2, vi x2), (3, vi x3)] [] := by
  refine g_iload_n hX dX7_draw_0 1 rfl ?_
  refine g_iconst hX dX7_draw_1 ?_
  refine g_bipush hX dX7_draw_2 rfl ?_
  obtain ⟨h1, h⟩ := h
  refine g_cSf (As := [vi x1, vi 1, vi 12]) hX (fun l => c_X7_isWithin l hX.inj s x1 1 12 hs h1 (by unfold rng; omega) (by unfold rng; omega)) cv_X7_62 (by decide) rfl (Nat.le_of_ble_eq_true rfl) dX7_draw_4 rfl (fun g2 => ?_)
  refine g_ifeq (tgt := 21) hX (gb_rng _) dX7_draw_7 (by decide) (fun c3 => ?_) (fun c3 => ?_)
  · replace h := h.1 (gb_eq0.mp c3)
    refine g_iconst hX dX7_draw_21 ?_
    exact g_iret hX hE dX7_draw_22 ⟨h, hs⟩
  · replace h := h.2 (gb_n0.mp c3)
    refine g_iload_n hX dX7_draw_10 3 rfl ?_
    refine g_iconst hX dX7_draw_11 ?_
    refine g_iload_n hX dX7_draw_12 1 rfl ?_
    refine g_iconst hX dX7_draw_13 ?_
    refine g_isub hX dX7_draw_14 ?_
    obtain ⟨h4, h⟩ := h
    obtain ⟨h5, h⟩ := h
    refine g_cSf (As := [vi x3, vi 0, vi (x1 - 1)]) hX (fun l => c_X7_isWithin l hX.inj s x3 0 (x1 - 1) hs h4 (by unfold rng; omega) h5) cv_X7_62 (by decide) rfl (Nat.le_of_ble_eq_true rfl) dX7_draw_15 rfl (fun g6 => ?_)
    refine g_ifne (tgt := 23) hX (gb_rng _) dX7_draw_18 (by decide) (fun c7 => ?_) (fun c7 => ?_)
    · replace h := h.1 (gb_n0.mp c7)
      refine g_aload_n hX dX7_draw_23 0 rfl ?_
      refine g_iload_n hX dX7_draw_24 1 rfl ?_
      refine g_iload_n hX dX7_draw_25 2 rfl ?_
      obtain ⟨h8, h⟩ := h
      refine g_cVu (As := [vi x1, vi x2]) hX (fun l => c_X7_drawOrder l hX.inj s x1 x2 hs h8) sh_0 cv_X7_169 (by decide) rfl (Nat.le_of_ble_eq_true rfl) dX7_draw_26 rfl (fun s9 q10 => ?_)
      replace h := h s9 q10
      have rs9 : gRg s9 := q10.2
      refine g_aload_n hX dX7_draw_29 0 rfl ?_
      refine g_getR hX sh_0 7 rfl fl_X7_58 dX7_draw_30 ?_
      refine g_iload_n hX dX7_draw_33 3 rfl ?_
      obtain ⟨h11, h⟩ := h
      refine g_iald hX sh_8 h11 (by decide) dX7_draw_34 ?_
      exact g_iret hX hE dX7_draw_35 ⟨h, rs9⟩
    · replace h := h.2 (gb_eq0.mp (gnn c7))
      refine g_iconst hX dX7_draw_21 ?_
      exact g_iret hX hE dX7_draw_22 ⟨h, hs⟩
set_option maxRecDepth 100000 in
set_option maxHeartbeats 4000000 in
theorem c_X7_draw (l : Launch) {G : gG} (hG : gInj G) (s : gS) (x1 : Int) (x2 : Int) (x3 : Int) (p0 : gRg s) (p1 : rng x1) (p2 : rng x3) : gMet l G yX7_draw cX7_draw 4 (some .int) 2 [gR G 0, vi x1, vi x2, vi x3] s (gPi (fun v s' => (if (1 ≤ x1 ∧ x1 ≤ 12) ∧ (0 ≤ x3 ∧ x3 ≤ x1 - 1) then v = s'.2 8 x3 ∧ gdrawn s s' 8 x1 x2 else v = -1 ∧ s' = s) ∧ gRg s')) := by
  refine gMet_of (plainFor_of_name (by decide)) hG (Nat.le_of_ble_eq_true rfl) (fun X hX hE => ?_)
  refine bk_X7_draw_0 hX hE s p0 x1 x2 x3  ?_
  refine ⟨p1, fun a => by rw [if_neg (fun z => a z.1)]; exact ⟨rfl, rfl⟩, fun a => ⟨p2, rng_of (by omega) (by omega), fun b => ⟨a, fun s9 hq => ⟨by omega, ?_⟩⟩, fun b => by rw [if_neg (fun z => b z.2)]; exact ⟨rfl, rfl⟩⟩⟩
  rw [if_pos ⟨a, b⟩]
  exact ⟨rfl, hq.1⟩
set_option maxRecDepth 100000 in
set_option maxHeartbeats 4000000 in
theorem bk_X8_draw_0 {X : gX} {G : gG} (hX : gOk X G cX8_draw 8 RX8 (some .int) 2) {Q : Int → gS → Prop} (hE : gEnd X G (gPi (fun v s' => Q v s' ∧ gRg s'))) (s : gS) (hs : gRg s) (x1 : Int) (x2 : Int) (x3 : Int)  (h : (rng x1) ∧ ((¬ (1 ≤ x1 ∧ x1 ≤ 12) → Q (-1) s) ∧ (1 ≤ x1 ∧ x1 ≤ 12 → (rng x3) ∧ (rng (x1 - 1)) ∧ ((0 ≤ x3 ∧ x3 ≤ (x1 - 1) → gWL X G s 26 [(0, gR G 400), (1, vi x1), (2, vi x2), (3, vi x3), (4, vi 0)] []) ∧ (¬ (0 ≤ x3 ∧ x3 ≤ (x1 - 1)) → Q (-1) s))))) : gWL X G s 0 [(0, gR G 400), (1, vi x1), (2, vi x2), (3, vi x3)] [] := by
  refine g_iload_n hX dX8_draw_0 1 rfl ?_
  refine g_iconst hX dX8_draw_1 ?_
  refine g_bipush hX dX8_draw_2 rfl ?_
  obtain ⟨h1, h⟩ := h
  refine g_cSf (As := [vi x1, vi 1, vi 12]) hX (fun l => c_X8_isIn l hX.inj s x1 1 12 hs h1 (by unfold rng; omega) (by unfold rng; omega)) cv_X8_102 (by decide) rfl (Nat.le_of_ble_eq_true rfl) dX8_draw_4 rfl (fun g2 => ?_)
  refine g_ifeq (tgt := 21) hX (gb_rng _) dX8_draw_7 (by decide) (fun c3 => ?_) (fun c3 => ?_)
  · replace h := h.1 (gb_eq0.mp c3)
    refine g_iconst hX dX8_draw_21 ?_
    exact g_iret hX hE dX8_draw_22 ⟨h, hs⟩
  · replace h := h.2 (gb_n0.mp c3)
    refine g_iload_n hX dX8_draw_10 3 rfl ?_
    refine g_iconst hX dX8_draw_11 ?_
    refine g_iload_n hX dX8_draw_12 1 rfl ?_
    refine g_iconst hX dX8_draw_13 ?_
    refine g_isub hX dX8_draw_14 ?_
    obtain ⟨h4, h⟩ := h
    obtain ⟨h5, h⟩ := h
    refine g_cSf (As := [vi x3, vi 0, vi (x1 - 1)]) hX (fun l => c_X8_isIn l hX.inj s x3 0 (x1 - 1) hs h4 (by unfold rng; omega) h5) cv_X8_102 (by decide) rfl (Nat.le_of_ble_eq_true rfl) dX8_draw_15 rfl (fun g6 => ?_)
    refine g_ifne (tgt := 23) hX (gb_rng _) dX8_draw_18 (by decide) (fun c7 => ?_) (fun c7 => ?_)
    · replace h := h.1 (gb_n0.mp c7)
      refine g_iconst hX dX8_draw_23 ?_
      refine g_istore (loc' := [(4, vi 0), (0, gR G 400), (1, vi x1), (2, vi x2), (3, vi x3)]) hX dX8_draw_24 (by decide) rfl ?_
      exact g_sub [1, 2, 3, 4, 0] rfl h
    · replace h := h.2 (gb_eq0.mp (gnn c7))
      refine g_iconst hX dX8_draw_21 ?_
      exact g_iret hX hE dX8_draw_22 ⟨h, hs⟩
set_option maxRecDepth 100000 in
set_option maxHeartbeats 4000000 in
theorem bk_X8_draw_26 {X : gX} {G : gG} (hX : gOk X G cX8_draw 8 RX8 (some .int) 2) {Q : Int → gS → Prop} (hE : gEnd X G (gPi (fun v s' => Q v s' ∧ gRg s'))) (s : gS) (hs : gRg s) (x1 : Int) (x2 : Int) (x3 : Int) (x4 : Int)  (h : (rng x4) ∧ (rng x1) ∧ ((x1 ≤ x4 → gWL X G s 55 [(0, gR G 400), (3, vi x3), (4, vi x2), (5, vi (x1 - 1))] []) ∧ (x4 < x1 → (0 ≤ x4 ∧ x4 < 12) ∧ gWL X G (gpA s 434 x4 x4) 26 [(0, gR G 400), (1, vi x1), (2, vi x2), (3, vi x3), (4, vi (x4 + 1))] []))) : gWL X G s 26 [(0, gR G 400), (1, vi x1), (2, vi x2), (3, vi x3), (4, vi x4)] [] := by
  refine g_iload hX dX8_draw_26 4 rfl ?_
  refine g_iload_n hX dX8_draw_28 1 rfl ?_
  obtain ⟨h1, h⟩ := h
  obtain ⟨h2, h⟩ := h
  refine g_icge (tgt := 47) hX h1 h2 dX8_draw_29 (by decide) (fun c3 => ?_) (fun c3 => ?_)
  · replace h := h.1 c3
    refine g_iload_n hX dX8_draw_47 2 rfl ?_
    refine g_istore (loc' := [(4, vi x2), (0, gR G 400), (1, vi x1), (2, vi x2), (3, vi x3)]) hX dX8_draw_48 (by decide) rfl ?_
    refine g_iload_n hX dX8_draw_50 2 rfl ?_
    refine g_iconst hX dX8_draw_51 ?_
    refine g_isub hX dX8_draw_52 ?_
    refine g_istore (loc' := [(5, vi (x1 - 1)), (4, vi x2), (0, gR G 400), (1, vi x1), (2, vi x2), (3, vi x3)]) hX dX8_draw_53 (by decide) rfl ?_
    exact g_sub [2, 5, 1, 0] rfl h
  · replace h := h.2 (Int.not_le.mp c3)
    refine g_aload_n hX dX8_draw_32 0 rfl ?_
    refine g_getR hX sh_400 33 rfl fl_X8_99 dX8_draw_33 ?_
    refine g_iload hX dX8_draw_36 4 rfl ?_
    refine g_iload hX dX8_draw_38 4 rfl ?_
    obtain ⟨h4, h⟩ := h
    refine g_iast hX sh_434 h4 (by decide) dX8_draw_40 ?_
    refine g_iinc (loc' := [(4, vi (x4 + 1)), (0, gR G 400), (1, vi x1), (2, vi x2), (3, vi x3)]) hX dX8_draw_41 4 rfl (by decide) rfl ?_
    refine g_goto (tgt := 26) hX dX8_draw_44 (by decide) ?_
    exact g_sub [1, 2, 3, 4, 0] rfl h
set_option maxRecDepth 100000 in
set_option maxHeartbeats 4000000 in
theorem bk_X8_draw_55 {X : gX} {G : gG} (hX : gOk X G cX8_draw 8 RX8 (some .int) 2) {Q : Int → gS → Prop} (hE : gEnd X G (gPi (fun v s' => Q v s' ∧ gRg s'))) (s : gS) (hs : gRg s) (x3 : Int) (x4 : Int) (x5 : Int)  (h : (rng x5) ∧ ((x5 ≤ 0 → (0 ≤ x3 ∧ x3 < 12) ∧ Q (s.2 434 x3) s) ∧ (0 < x5 → (rng (x5 + 1)) ∧ (0 < (x5 + 1)) ∧ (0 ≤ x5 ∧ x5 < 12) ∧ (0 ≤ ((gushr ((1103515245 * x4) + 12345) 8).tmod (x5 + 1)) ∧ ((gushr ((1103515245 * x4) + 12345) 8).tmod (x5 + 1)) < 12) ∧ gWL X G (gpA (gpA s 434 x5 (s.2 434 ((gushr ((1103515245 * x4) + 12345) 8).tmod (x5 + 1)))) 434 ((gushr ((1103515245 * x4) + 12345) 8).tmod (x5 + 1)) (s.2 434 x5)) 55 [(0, gR G 400), (3, vi x3), (4, vi ((1103515245 * x4) + 12345)), (5, vi (x5 - 1))] []))) : gWL X G s 55 [(0, gR G 400), (3, vi x3), (4, vi x4), (5, vi x5)] [] := by
  refine g_iload hX dX8_draw_55 3 rfl ?_
  obtain ⟨h1, h⟩ := h
  refine g_ifle (tgt := 121) hX h1 dX8_draw_57 (by decide) (fun c2 => ?_) (fun c2 => ?_)
  · replace h := h.1 c2
    refine g_aload_n hX dX8_draw_121 0 rfl ?_
    refine g_getR hX sh_400 33 rfl fl_X8_99 dX8_draw_122 ?_
    refine g_iload_n hX dX8_draw_125 1 rfl ?_
    obtain ⟨h3, h⟩ := h
    refine g_iald hX sh_434 h3 (by decide) dX8_draw_126 ?_
    exact g_iret hX hE dX8_draw_127 ⟨h, hs⟩
  · replace h := h.2 (Int.not_le.mp c2)
    refine g_ldc (n := 1103515245) hX ldc_X8_187 dX8_draw_60 rfl ?_
    refine g_iload hX dX8_draw_62 2 rfl ?_
    refine g_imul hX dX8_draw_64 ?_
    refine g_sipush hX dX8_draw_65 rfl ?_
    refine g_iadd hX dX8_draw_68 ?_
    refine g_istore (loc' := [(4, vi ((1103515245 * x4) + 12345)), (0, gR G 400), (3, vi x3), (5, vi x5)]) hX dX8_draw_69 (by decide) rfl ?_
    refine g_iload hX dX8_draw_71 0 rfl ?_
    refine g_bipush hX dX8_draw_73 rfl ?_
    refine g_iushr hX dX8_draw_75 ?_
    refine g_iload hX dX8_draw_76 3 rfl ?_
    refine g_iconst hX dX8_draw_78 ?_
    refine g_iadd hX dX8_draw_79 ?_
    obtain ⟨h4, h⟩ := h
    obtain ⟨h5, h⟩ := h
    refine g_irem hX (rng_i _) h4 h5 dX8_draw_80 ?_
    refine g_istore (loc' := [(6, vi ((gushr ((1103515245 * x4) + 12345) 8).tmod (x5 + 1))), (4, vi ((1103515245 * x4) + 12345)), (0, gR G 400), (3, vi x3), (5, vi x5)]) hX dX8_draw_81 (by decide) rfl ?_
    refine g_aload_n hX dX8_draw_83 2 rfl ?_
    refine g_getR hX sh_400 33 rfl fl_X8_99 dX8_draw_84 ?_
    refine g_iload hX dX8_draw_87 4 rfl ?_
    obtain ⟨h6, h⟩ := h
    refine g_iald hX sh_434 h6 (by decide) dX8_draw_89 ?_
    refine g_istore (loc' := [(7, vi (s.2 434 x5)), (6, vi ((gushr ((1103515245 * x4) + 12345) 8).tmod (x5 + 1))), (4, vi ((1103515245 * x4) + 12345)), (0, gR G 400), (3, vi x3), (5, vi x5)]) hX dX8_draw_90 (by decide) rfl ?_
    refine g_aload_n hX dX8_draw_92 3 rfl ?_
    refine g_getR hX sh_400 33 rfl fl_X8_99 dX8_draw_93 ?_
    refine g_iload hX dX8_draw_96 5 rfl ?_
    refine g_aload_n hX dX8_draw_98 3 rfl ?_
    refine g_getR hX sh_400 33 rfl fl_X8_99 dX8_draw_99 ?_
    refine g_iload hX dX8_draw_102 1 rfl ?_
    obtain ⟨h7, h⟩ := h
    refine g_iald hX sh_434 h7 (by decide) dX8_draw_104 ?_
    refine g_iast hX sh_434 h6 (by decide) dX8_draw_105 ?_
    refine g_aload_n hX dX8_draw_106 3 rfl ?_
    refine g_getR hX sh_400 33 rfl fl_X8_99 dX8_draw_107 ?_
    refine g_iload hX dX8_draw_110 1 rfl ?_
    refine g_iload hX dX8_draw_112 0 rfl ?_
    refine g_iast hX sh_434 h7 (by decide) dX8_draw_114 ?_
    refine g_iinc (loc' := [(5, vi (x5 - 1)), (7, vi (s.2 434 x5)), (6, vi ((gushr ((1103515245 * x4) + 12345) 8).tmod (x5 + 1))), (4, vi ((1103515245 * x4) + 12345)), (0, gR G 400), (3, vi x3)]) hX dX8_draw_115 5 rfl (by decide) rfl ?_
    refine g_goto (tgt := 55) hX dX8_draw_118 (by decide) ?_
    exact g_sub [4, 5, 3, 0] rfl h
set_option maxRecDepth 100000 in
set_option maxHeartbeats 4000000 in
theorem c_X8_draw (l : Launch) {G : gG} (hG : gInj G) (s : gS) (x1 : Int) (x2 : Int) (x3 : Int) (p0 : gRg s) (p1 : rng x1) (p2 : rng x3) : gMet l G yX8_draw cX8_draw 8 (some .int) 2 [gR G 400, vi x1, vi x2, vi x3] s (gPi (fun v s' => (if (1 ≤ x1 ∧ x1 ≤ 12) ∧ (0 ≤ x3 ∧ x3 ≤ x1 - 1) then v = s'.2 434 x3 ∧ gdrawn s s' 434 x1 x2 else v = -1 ∧ s' = s) ∧ gRg s')) := by
  refine gMet_of (plainFor_of_name (by decide)) hG (Nat.le_of_ble_eq_true rfl) (fun X hX hE => ?_)
  refine bk_X8_draw_0 hX hE s p0 x1 x2 x3  ?_
  refine ⟨p1, fun a => by rw [if_neg (fun z => a z.1)]; exact ⟨rfl, rfl⟩, fun a => ⟨p2, rng_of (by omega) (by omega), fun b => ?_, fun b => by rw [if_neg (fun z => b z.2)]; exact ⟨rfl, rfl⟩⟩⟩
  refine gloop (α := gS) (hi := x1) (fun i t => 0 ≤ i ∧ gRg t ∧ t.1 = s.1 ∧ (∀ k' : Int, k' ≠ 434 → t.2 k' = s.2 k') ∧ ∀ j : Int, 0 ≤ j → j < i → t.2 434 j = j) (fun i t => gWL X G t 26 [(0, gR G 400), (1, vi x1), (2, vi x2), (3, vi x3), (4, vi i)] []) ?_ ?_ 0 s (by omega) ⟨by omega, p0, rfl, fun _ _ => rfl, fun j h0 h1 => by omega⟩
  · intro i t hi ⟨h0, hg, h1, h2, h3⟩ next
    refine bk_X8_draw_26 hX hE t hg x1 x2 x3 i ⟨rng_of (by omega) (by omega), p1, fun h => by omega, fun _ => ⟨by omega, next _ ⟨by omega, gRg_A hg (rng_of (by omega) (by omega)), h1, fun k' hk => ?_, fun j j0 j1 => ?_⟩⟩⟩
    · rw [← h2 k' hk]; funext j; exact gpA_nk hk
    · by_cases e : j = i
      · subst e; exact gpA_eq
      · rw [gpA_ni e]; exact h3 j j0 (by omega)
  intro t ⟨h0, hg, h1, h2, h3⟩
  refine bk_X8_draw_26 hX hE t hg x1 x2 x3 x1 ⟨p1, p1, fun _ => ?_, fun h => by omega⟩
  refine gloopD (α := gS × Int) (lo := 0) (fun i a => i < x1 ∧ gRg a.1 ∧ a.1.1 = s.1 ∧ (∀ k' : Int, k' ≠ 434 → a.1.2 k' = s.2 k') ∧ (∀ j : Int, 0 ≤ j → j < x1 → a.1.2 434 j = (gdit x1 x2 (x1 - 1 - i)).1 j) ∧ a.2 = (gdit x1 x2 (x1 - 1 - i)).2) (fun i a => gWL X G a.1 55 [(0, gR G 400), (3, vi x3), (4, vi a.2), (5, vi i)] []) ?_ ?_ (x1 - 1) (t, x2) (by omega) ⟨by omega, hg, h1, h2, fun j j0 j1 => by rw [show x1 - 1 - (x1 - 1) = 0 by omega]; exact h3 j j0 j1, by rw [show x1 - 1 - (x1 - 1) = 0 by omega]; rfl⟩
  · intro i ⟨t, x⟩ hi ⟨hin, hg, h1, h2, hA, hx⟩ next
    dsimp only at hg h1 h2 hA hx ⊢
    have hq := gdq (g := (1103515245 * x) + 12345) (i := i) (by omega)
    have hst := gdstep hi hin hA hx
    refine bk_X8_draw_55 hX hE t hg x3 x i ⟨rng_of (by omega) (by omega), fun h => by omega, fun _ => ⟨rng_of (by omega) (by omega), by omega, by omega, by omega, ?_⟩⟩
    exact next (gswap t 434 i ((gushr ((1103515245 * x) + 12345) 8).tmod (i + 1)), (1103515245 * x) + 12345) ⟨by omega, gswap_rg hg, h1, fun k' hk => (gswap_off t 434 i _ k' hk).trans (h2 k' hk), hst.1, hst.2⟩
  · intro ⟨t, x⟩ ⟨hin, hg, h1, h2, hA, hx⟩
    dsimp only at hg h1 h2 hA hx ⊢
    refine bk_X8_draw_55 hX hE t hg x3 x 0 ⟨rng_of (by omega) (by omega), fun _ => ⟨by omega, ?_⟩, fun h => by omega⟩
    rw [if_pos ⟨a, b⟩]
    refine ⟨rfl, h1, h2, fun j j0 j1 => ?_⟩
    rw [hA j j0 j1, show x1 - 1 - 0 = x1 - 1 by omega]
end
section
/-! ===== the laying, as numbers ===== -/
def grc (hole r p : Int) : Int := if r = -1 then hole else min (gabs (r - p)) 300
def gsc (tempo stretch lack t b : Int) : Int := stretch * gabs (t - b * tempo) + (if t = 0 then lack else 0)
def gMs (s : gS) : Prop := (1 ≤ s.1 3 0 ∧ s.1 3 0 ≤ 8) ∧ (0 ≤ s.1 3 1 ∧ s.1 3 1 ≤ 1000) ∧ (0 ≤ s.1 3 2 ∧ s.1 3 2 ≤ 1000) ∧ (0 ≤ s.1 3 3 ∧ s.1 3 3 ≤ 10000) ∧ (0 ≤ s.1 3 4 ∧ s.1 3 4 ≤ 1000)
def gRd (s : gS) (k : Int) : Prop := (0 ≤ s.1 k 1 ∧ s.1 k 1 ≤ 120) ∧ ∀ i : Int, 0 ≤ i → i < s.1 k 1 → -1 ≤ s.2 (k + 10) i ∧ s.2 (k + 10) i ≤ 4800
/-- t is s but for one row, for two rows -/
def goff (s t : gS) (k : Int) : Prop := t.1 = s.1 ∧ ∀ k' : Int, k' ≠ k → t.2 k' = s.2 k'
def goff2 (s t : gS) (k l : Int) : Prop := t.1 = s.1 ∧ ∀ k' : Int, k' ≠ k → k' ≠ l → t.2 k' = s.2 k'
theorem goff.rf (s : gS) (k : Int) : goff s s k := ⟨rfl, fun _ _ => rfl⟩
theorem goff.put {s t : gS} {k : Int} (h : goff s t k) (i v : Int) : goff s (gpA t k i v) k := ⟨h.1, fun k' hk => by
  rw [← h.2 k' hk]; funext j; exact gpA_nk hk⟩
theorem goff2.rf (s : gS) (k l : Int) : goff2 s s k l := ⟨rfl, fun _ _ _ => rfl⟩
theorem goff2.put1 {s t : gS} {k l : Int} (h : goff2 s t k l) (i v : Int) : goff2 s (gpA t k i v) k l := ⟨h.1, fun k' hk hl => by
  rw [← h.2 k' hk hl]; funext j; exact gpA_nk hk⟩
theorem goff2.put2 {s t : gS} {k l : Int} (h : goff2 s t k l) (i v : Int) : goff2 s (gpA t l i v) k l := ⟨h.1, fun k' hk hl => by
  rw [← h.2 k' hk hl]; funext j; exact gpA_nk hl⟩
/-- m is the least of f over a .. b -/
def gMn (f : Int → Int) (a b m : Int) : Prop := (∃ j : Int, a ≤ j ∧ j ≤ b ∧ m = f j) ∧ ∀ j : Int, a ≤ j → j ≤ b → m ≤ f j
theorem gMn.one (f : Int → Int) (a : Int) : gMn f a a (f a) := ⟨⟨a, by omega, by omega, rfl⟩, fun j h1 h2 => by rw [show j = a by omega]; omega⟩
theorem gMn.down {f : Int → Int} {a b m : Int} (h : gMn f (a + 1) b m) : gMn f a b (min m (f a)) := by
  obtain ⟨⟨j, h1, h2, h3⟩, h4⟩ := h
  refine ⟨?_, fun i i1 i2 => ?_⟩
  · by_cases q : m ≤ f a
    · exact ⟨j, by omega, h2, by omega⟩
    · exact ⟨a, by omega, by omega, by omega⟩
  · by_cases e : i = a
    · subst e; omega
    · have := h4 i (by omega) i2; omega
theorem gMn.up {f : Int → Int} {a b m : Int} (hab : a ≤ b + 1) (h : gMn f a b m) : gMn f a (b + 1) (min m (f (b + 1))) := by
  obtain ⟨⟨j, h1, h2, h3⟩, h4⟩ := h
  refine ⟨?_, fun i i1 i2 => ?_⟩
  · by_cases q : m ≤ f (b + 1)
    · exact ⟨j, h1, by omega, by omega⟩
    · exact ⟨b + 1, by omega, by omega, by omega⟩
  · by_cases e : i = b + 1
    · subst e; omega
    · have := h4 i i1 (by omega); omega
theorem gMn.uniq {f : Int → Int} {a b m n : Int} (h : gMn f a b m) (k : gMn f a b n) : m = n := by
  obtain ⟨⟨j, h1, h2, h3⟩, h4⟩ := h
  obtain ⟨⟨i, k1, k2, k3⟩, k4⟩ := k
  have := h4 i k1 k2
  have := k4 j h1 h2
  omega
theorem gMn.congr {f g : Int → Int} {a b m : Int} (h : gMn f a b m) (e : ∀ j, a ≤ j → j ≤ b → f j = g j) : gMn g a b m := by
  obtain ⟨⟨j, h1, h2, h3⟩, h4⟩ := h
  exact ⟨⟨j, h1, h2, by rw [h3, e j h1 h2]⟩, fun i i1 i2 => by rw [← e i i1 i2]; exact h4 i i1 i2⟩
/-- two stretches side by side -/
theorem gMn.join {f : Int → Int} {a b c m n : Int} (h : gMn f a b m) (k : gMn f (b + 1) c n) (hab : a ≤ b + 1) (hbc : b ≤ c) : gMn f a c (min m n) := by
  obtain ⟨⟨j, h1, h2, h3⟩, h4⟩ := h
  obtain ⟨⟨i, k1, k2, k3⟩, k4⟩ := k
  refine ⟨?_, fun q q1 q2 => ?_⟩
  · by_cases z : m ≤ n
    · exact ⟨j, h1, by omega, by omega⟩
    · exact ⟨i, by omega, k2, by omega⟩
  · by_cases z : q ≤ b
    · have := h4 q q1 z; omega
    · have := k4 q (by omega) q2; omega
/-- the same least, all moved by d and the numbers too -/
theorem gMn.shift {f g : Int → Int} {a b m : Int} (i d : Int) (h : gMn f a b m) (e : ∀ t, a ≤ i + t → i + t ≤ b → g t = f (i + t) + d) : gMn g (a - i) (b - i) (m + d) := by
  obtain ⟨⟨j, h1, h2, h3⟩, h4⟩ := h
  refine ⟨⟨j - i, by omega, by omega, ?_⟩, fun t t1 t2 => ?_⟩
  · rw [e (j - i) (by omega) (by omega), show i + (j - i) = j by omega, h3]
  · rw [e t (by omega) (by omega)]
    have := h4 (i + t) (by omega) (by omega)
    omega
theorem gabs_bd (a : Int) : 0 ≤ gabs a := by unfold gabs; split <;> omega
theorem grc_bd {hole r p : Int} (h : 0 ≤ hole ∧ hole ≤ 1000) : 0 ≤ grc hole r p ∧ grc hole r p ≤ 1000 := by
  unfold grc
  have := gabs_bd (r - p)
  split <;> omega
theorem gmul_bd {a b A B : Int} (ha : 0 ≤ a ∧ a ≤ A) (hb : 0 ≤ b ∧ b ≤ B) : 0 ≤ a * b ∧ a * b ≤ A * B := by
  refine ⟨Int.mul_nonneg ha.1 hb.1, ?_⟩
  exact Int.mul_le_mul ha.2 hb.2 hb.1 (by omega)
theorem gsc_bd {tempo stretch lack t b : Int} (h1 : 1 ≤ tempo ∧ tempo ≤ 8) (h2 : 0 ≤ stretch ∧ stretch ≤ 1000) (h3 : 0 ≤ lack ∧ lack ≤ 10000) (ht : 0 ≤ t ∧ t ≤ 120) (hb : 1 ≤ b ∧ b ≤ 8) : 0 ≤ gsc tempo stretch lack t b ∧ gsc tempo stretch lack t b ≤ 130000 := by
  have hd := gmul_bd (a := b) (b := tempo) (A := 8) (B := 8) (by omega) (by omega)
  have ha : 0 ≤ gabs (t - b * tempo) ∧ gabs (t - b * tempo) ≤ 120 := by unfold gabs; split <;> omega
  have := gmul_bd h2 ha
  unfold gsc
  split <;> omega
theorem gsc_0 {tempo stretch lack b : Int} (h1 : 1 ≤ tempo ∧ tempo ≤ 8) (h2 : 0 ≤ stretch ∧ stretch ≤ 1000) (h3 : 0 ≤ lack ∧ lack ≤ 10000) (hb : 1 ≤ b ∧ b ≤ 8) : gsc tempo stretch lack 0 b ≤ 74000 := by
  have hd := gmul_bd (a := b) (b := tempo) (A := 8) (B := 8) (by omega) (by omega)
  have ha : 0 ≤ gabs (0 - b * tempo) ∧ gabs (0 - b * tempo) ≤ 64 := by unfold gabs; split <;> omega
  have := gmul_bd h2 ha
  unfold gsc
  split <;> omega
/-- the two rows that a note's end is sought in -/
def gSB (s : gS) (k e : Int) : Prop := ∀ i : Int, 0 ≤ i → i ≤ e → (0 ≤ s.2 14 i ∧ s.2 14 i ≤ 120000) ∧ (0 ≤ s.2 k i ∧ s.2 k i ≤ 1000000000)
def gTb (s : gS) (e : Int) : Prop := ∀ i : Int, 0 ≤ i → i ≤ e → (0 ≤ s.2 15 i + (s.1 3 2) * i ∧ s.2 15 i + (s.1 3 2) * i ≤ 1000120000) ∧ gMn (fun j => (s.2 15 j + (s.1 3 2) * j) + (s.1 3 2) * j) i e (s.2 16 i)
def gfill (s : gS) (k i p n : Int) : gS := giter (fun q t => gpA t k (i + q) p) s n
theorem gfill_put (t : gS) (k k0 i q x v : Int) : gpI (gpA (gpI t k0 1 v) k (i + q) x) k0 1 (i + q + 1) = gpI (gpA t k (i + q) x) k0 1 (i + (q + 1)) := by
  refine Prod.ext ?_ rfl
  funext k' j'
  show (if k' = k0 ∧ j' = 1 then i + q + 1 else if k' = k0 ∧ j' = 1 then v else t.1 k' j') = (if k' = k0 ∧ j' = 1 then i + (q + 1) else t.1 k' j')
  by_cases h : k' = k0 ∧ j' = 1
  · rw [if_pos h, if_pos h]; omega
  · rw [if_neg h, if_neg h, if_neg h]
end
section
theorem fl_X0_24 : gFL RX0 24 0 4 := ⟨RX0, TX0, 13, tyX0, rfl, by decide, inG_X0, (gm_1 105 rfl rfl), tyX0_ok, nmX0, fun _ => rfl⟩
theorem fl_X0_37 : gFL RX0 37 0 8 := ⟨RX0, TX0, 13, tyX0, rfl, by decide, inG_X0, (gm_1 113 rfl rfl), tyX0_ok, nmX0, fun _ => rfl⟩
theorem fl_X0_42 : gFL RX0 42 0 9 := ⟨RX0, TX0, 13, tyX0, rfl, by decide, inG_X0, (gm_1 115 rfl rfl), tyX0_ok, nmX0, fun h => absurd h (by decide)⟩
theorem fl_X0_45 : gFL RX0 45 0 10 := ⟨RX0, TX0, 13, tyX0, rfl, by decide, inG_X0, (gm_1 116 rfl rfl), tyX0_ok, nmX0, fun h => absurd h (by decide)⟩
theorem fl_X0_48 : gFL RX0 48 0 11 := ⟨RX0, TX0, 13, tyX0, rfl, by decide, inG_X0, (gm_1 117 rfl rfl), tyX0_ok, nmX0, fun h => absurd h (by decide)⟩
theorem fl_X0_51 : gFL RX0 51 0 12 := ⟨RX0, TX0, 13, tyX0, rfl, by decide, inG_X0, (gm_1 118 rfl rfl), tyX0_ok, nmX0, fun h => absurd h (by decide)⟩
theorem fl_X0_57 : gFL RX0 57 4 1 := ⟨RX4, TX4, 3, tyX4, rfl, by decide, inG_X4, (gm_1 52 rfl rfl), tyX4_ok, nmX4, fun _ => rfl⟩
theorem fl_X0_71 : gFL RX0 71 1 2 := ⟨RX1, TX1, 5, tyX1, rfl, by decide, inG_X1, (gm_1 73 rfl rfl), tyX1_ok, nmX1, fun _ => rfl⟩
theorem fl_X0_102 : gFL RX0 102 4 0 := ⟨RX4, TX4, 3, tyX4, rfl, by decide, inG_X4, (gm_1 50 rfl rfl), tyX4_ok, nmX4, fun h => absurd h (by decide)⟩
theorem fl_X0_115 : gFL RX0 115 1 3 := ⟨RX1, TX1, 5, tyX1, rfl, by decide, inG_X1, (gm_1 75 rfl rfl), tyX1_ok, nmX1, fun _ => rfl⟩
theorem fl_X1_9 : gFL RX1 9 1 0 := ⟨RX1, TX1, 5, tyX1, rfl, by decide, inG_X1, (gm_1 69 rfl rfl), tyX1_ok, nmX1, fun _ => rfl⟩
theorem fl_X1_15 : gFL RX1 15 1 1 := ⟨RX1, TX1, 5, tyX1, rfl, by decide, inG_X1, (gm_1 71 rfl rfl), tyX1_ok, nmX1, fun _ => rfl⟩
theorem fl_X1_18 : gFL RX1 18 1 2 := ⟨RX1, TX1, 5, tyX1, rfl, by decide, inG_X1, (gm_1 72 rfl rfl), tyX1_ok, nmX1, fun _ => rfl⟩
theorem fl_X1_21 : gFL RX1 21 1 3 := ⟨RX1, TX1, 5, tyX1, rfl, by decide, inG_X1, (gm_1 74 rfl rfl), tyX1_ok, nmX1, fun _ => rfl⟩
theorem fl_X1_24 : gFL RX1 24 1 4 := ⟨RX1, TX1, 5, tyX1, rfl, by decide, inG_X1, (gm_1 76 rfl rfl), tyX1_ok, nmX1, fun _ => rfl⟩
theorem fl_X3_9 : gFL RX3 9 3 0 := ⟨RX3, TX3, 3, tyX3, rfl, by decide, inG_X3, (gm_1 27 rfl rfl), tyX3_ok, nmX3, fun h => absurd h (by decide)⟩
theorem fl_X3_15 : gFL RX3 15 3 1 := ⟨RX3, TX3, 3, tyX3, rfl, by decide, inG_X3, (gm_1 29 rfl rfl), tyX3_ok, nmX3, fun h => absurd h (by decide)⟩
theorem fl_X3_18 : gFL RX3 18 3 2 := ⟨RX3, TX3, 3, tyX3, rfl, by decide, inG_X3, (gm_1 31 rfl rfl), tyX3_ok, nmX3, fun _ => rfl⟩
theorem fl_X4_9 : gFL RX4 9 4 0 := ⟨RX4, TX4, 3, tyX4, rfl, by decide, inG_X4, (gm_1 49 rfl rfl), tyX4_ok, nmX4, fun h => absurd h (by decide)⟩
theorem fl_X4_15 : gFL RX4 15 4 1 := ⟨RX4, TX4, 3, tyX4, rfl, by decide, inG_X4, (gm_1 51 rfl rfl), tyX4_ok, nmX4, fun _ => rfl⟩
theorem fl_X4_19 : gFL RX4 19 4 2 := ⟨RX4, TX4, 3, tyX4, rfl, by decide, inG_X4, (gm_1 54 rfl rfl), tyX4_ok, nmX4, fun _ => rfl⟩
theorem cv_X0_105 : gCV RX0 105 yX1_costOfReading cX1_costOfReading 3 (some .int) 2 1 := ⟨TX1, 5, rfl, (gm_2 67 rfl rfl), (gm_2 68 rfl rfl), (gm_2 69 rfl rfl), (gm_1 4 rfl rfl), (gm_2 70 rfl rfl), ⟨by decide, by decide, by decide +kernel⟩, by decide⟩
theorem cv_X0_110 : gCS RX0 110 yJ9_min_7cf53 cJ9_min_7cf53 2 (some .int) 2 := ⟨(gm_2 82 rfl rfl), (gm_2 75 rfl rfl), (gm_1 10 rfl rfl), (gm_2 76 rfl rfl), ⟨by decide, by decide, by decide +kernel⟩, by decide⟩
theorem cv_X1_27 : gCS RX1 27 yJ9_abs_0f7a4 cJ9_abs_0f7a4 1 (some .int) 1 := ⟨(gm_2 71 rfl rfl), (gm_2 72 rfl rfl), (gm_1 10 rfl rfl), (gm_2 73 rfl rfl), ⟨by decide, by decide, by decide +kernel⟩, by decide⟩
theorem cv_X1_33 : gCS RX1 33 yJ9_min_7cf53 cJ9_min_7cf53 2 (some .int) 2 := ⟨(gm_2 74 rfl rfl), (gm_2 75 rfl rfl), (gm_1 10 rfl rfl), (gm_2 76 rfl rfl), ⟨by decide, by decide, by decide +kernel⟩, by decide⟩
theorem ldc_X0_101 : Cond.constant RX0 101 (1000000000) ∈ gAll := (gm_2 62 rfl rfl)
theorem ldc_X0_109 : Cond.constant RX0 109 (2000000000) ∈ gAll := (gm_2 81 rfl rfl)
set_option maxRecDepth 100000 in
set_option maxHeartbeats 4000000 in
theorem bk_X1_costOfReading_0 {X : gX} {G : gG} (hX : gOk X G cX1_costOfReading 3 RX1 (some .int) 2) {Q : Int → gS → Prop} (hE : gEnd X G (gPi (fun v s' => Q v s' ∧ gRg s'))) (s : gS) (hs : gRg s) (x1 : Int) (x2 : Int)  (h : (rng x1) ∧ ((¬ x1 = (-1) → (rng (x1 - x2)) ∧ (rng (gabs (x1 - x2))) ∧ Q (min (gabs (x1 - x2)) 300) s) ∧ (x1 = (-1) → Q (s.1 3 1) s))) : gWL X G s 0 [(0, gR G 3), (1, vi x1), (2, vi x2)] [] := by
  refine g_iload_n hX dX1_costOfReading_0 1 rfl ?_
  refine g_iconst hX dX1_costOfReading_1 ?_
  obtain ⟨h1, h⟩ := h
  refine g_icne (tgt := 12) hX h1 (by unfold rng; omega) dX1_costOfReading_2 (by decide) (fun c2 => ?_) (fun c2 => ?_)
  · replace h := h.1 c2
    refine g_iload_n hX dX1_costOfReading_12 1 rfl ?_
    refine g_iload_n hX dX1_costOfReading_13 2 rfl ?_
    refine g_isub hX dX1_costOfReading_14 ?_
    obtain ⟨h3, h⟩ := h
    refine g_cSf (As := [vi (x1 - x2)]) hX (fun l => c_J9_abs_0f7a4 l hX.inj s (x1 - x2) hs h3) cv_X1_27 (by decide) rfl (Nat.le_of_ble_eq_true rfl) dX1_costOfReading_15 rfl (fun g4 => ?_)
    refine g_sipush hX dX1_costOfReading_18 rfl ?_
    obtain ⟨h5, h⟩ := h
    refine g_cSf (As := [vi (gabs (x1 - x2)), vi 300]) hX (fun l => c_J9_min_7cf53 l hX.inj s (gabs (x1 - x2)) 300 hs h5 (by unfold rng; omega)) cv_X1_33 (by decide) rfl (Nat.le_of_ble_eq_true rfl) dX1_costOfReading_21 rfl (fun g6 => ?_)
    exact g_iret hX hE dX1_costOfReading_24 ⟨h, hs⟩
  · replace h := h.2 (gnn c2)
    refine g_aload_n hX dX1_costOfReading_5 0 rfl ?_
    refine g_getI hX sh_3 1 rfl fl_X1_15 dX1_costOfReading_6 ?_
    refine g_goto (tgt := 24) hX dX1_costOfReading_9 (by decide) ?_
    exact g_iret hX hE dX1_costOfReading_24 ⟨h, hs⟩
set_option maxRecDepth 100000 in
set_option maxHeartbeats 4000000 in
theorem c_X1_costOfReading (l : Launch) {G : gG} (hG : gInj G) (s : gS) (x1 : Int) (x2 : Int) (p0 : gRg s) (p1 : -1 ≤ x1 ∧ x1 ≤ 4800) (p2 : 0 ≤ x2 ∧ x2 ≤ 4800) : gMet l G yX1_costOfReading cX1_costOfReading 3 (some .int) 2 [gR G 3, vi x1, vi x2] s (gPi (fun v s' => (v = (grc (s.1 3 1) x1 x2) ∧ s' = s) ∧ gRg s')) := by
  refine gMet_of (plainFor_of_name (by decide)) hG (Nat.le_of_ble_eq_true rfl) (fun X hX hE => ?_)
  refine bk_X1_costOfReading_0 hX hE s p0 x1 x2  ?_
  have hr : rng (gabs (x1 - x2)) := by unfold gabs; split <;> exact rng_of (by omega) (by omega)
  exact ⟨rng_of (by omega) (by omega), fun h => ⟨rng_of (by omega) (by omega), hr, (if_neg h).symm, rfl⟩, fun h => ⟨(if_pos h).symm, rfl⟩⟩
set_option maxRecDepth 100000 in
set_option maxHeartbeats 4000000 in
theorem bk_X1_costOfLength_0 {X : gX} {G : gG} (hX : gOk X G cX1_costOfLength 4 RX1 (some .int) 2) {Q : Int → gS → Prop} (hE : gEnd X G (gPi (fun v s' => Q v s' ∧ gRg s'))) (s : gS) (hs : gRg s) (x1 : Int) (x2 : Int)  (h : (rng (x1 - (x2 * (s.1 3 0)))) ∧ (rng x1) ∧ ((¬ x1 = 0 → Q ((s.1 3 2) * (gabs (x1 - (x2 * (s.1 3 0))))) s) ∧ (x1 = 0 → Q (((s.1 3 2) * (gabs (x1 - (x2 * (s.1 3 0))))) + (s.1 3 3)) s))) : gWL X G s 0 [(0, gR G 3), (1, vi x1), (2, vi x2)] [] := by
  refine g_aload_n hX dX1_costOfLength_0 0 rfl ?_
  refine g_getI hX sh_3 2 rfl fl_X1_18 dX1_costOfLength_1 ?_
  refine g_iload_n hX dX1_costOfLength_4 1 rfl ?_
  refine g_iload_n hX dX1_costOfLength_5 2 rfl ?_
  refine g_aload_n hX dX1_costOfLength_6 0 rfl ?_
  refine g_getI hX sh_3 0 rfl fl_X1_9 dX1_costOfLength_7 ?_
  refine g_imul hX dX1_costOfLength_10 ?_
  refine g_isub hX dX1_costOfLength_11 ?_
  obtain ⟨h1, h⟩ := h
  refine g_cSf (As := [vi (x1 - (x2 * (s.1 3 0)))]) hX (fun l => c_J9_abs_0f7a4 l hX.inj s (x1 - (x2 * (s.1 3 0))) hs h1) cv_X1_27 (by decide) rfl (Nat.le_of_ble_eq_true rfl) dX1_costOfLength_12 rfl (fun g2 => ?_)
  refine g_imul hX dX1_costOfLength_15 ?_
  refine g_istore_n (loc' := [(3, vi ((s.1 3 2) * (gabs (x1 - (x2 * (s.1 3 0)))))), (0, gR G 3), (1, vi x1), (2, vi x2)]) hX dX1_costOfLength_16 (by decide) rfl ?_
  refine g_iload_n hX dX1_costOfLength_17 2 rfl ?_
  obtain ⟨h3, h⟩ := h
  refine g_ifne (tgt := 30) hX h3 dX1_costOfLength_18 (by decide) (fun c4 => ?_) (fun c4 => ?_)
  · replace h := h.1 c4
    refine g_iload_n hX dX1_costOfLength_30 0 rfl ?_
    exact g_iret hX hE dX1_costOfLength_31 ⟨h, hs⟩
  · replace h := h.2 (gnn c4)
    refine g_iload_n hX dX1_costOfLength_21 0 rfl ?_
    refine g_aload_n hX dX1_costOfLength_22 1 rfl ?_
    refine g_getI hX sh_3 3 rfl fl_X1_21 dX1_costOfLength_23 ?_
    refine g_iadd hX dX1_costOfLength_26 ?_
    refine g_goto (tgt := 31) hX dX1_costOfLength_27 (by decide) ?_
    exact g_iret hX hE dX1_costOfLength_31 ⟨h, hs⟩
set_option maxRecDepth 100000 in
set_option maxHeartbeats 4000000 in
theorem c_X1_costOfLength (l : Launch) {G : gG} (hG : gInj G) (s : gS) (x1 : Int) (x2 : Int) (p0 : gRg s) (p1 : gMs s) (p2 : 0 ≤ x1 ∧ x1 ≤ 120) (p3 : 1 ≤ x2 ∧ x2 ≤ 8) : gMet l G yX1_costOfLength cX1_costOfLength 4 (some .int) 2 [gR G 3, vi x1, vi x2] s (gPi (fun v s' => (v = (gsc (s.1 3 0) (s.1 3 2) (s.1 3 3) x1 x2) ∧ s' = s) ∧ gRg s')) := by
  refine gMet_of (plainFor_of_name (by decide)) hG (Nat.le_of_ble_eq_true rfl) (fun X hX hE => ?_)
  refine bk_X1_costOfLength_0 hX hE s p0 x1 x2  ?_
  have hd := gmul_bd (a := x2) (b := s.1 3 0) (A := 8) (B := 8) (by omega) (by have := p1.1; omega)
  refine ⟨rng_of (by omega) (by omega), rng_of (by omega) (by omega), fun h => ⟨?_, rfl⟩, fun h => ⟨?_, rfl⟩⟩
  · unfold gsc; rw [if_neg h]; omega
  · unfold gsc; rw [if_pos h]
set_option maxRecDepth 100000 in
set_option maxHeartbeats 4000000 in
theorem bk_X1_change_0 {X : gX} {G : gG} (hX : gOk X G cX1_change 6 RX1 none 1) {Q : gS → Prop} (hE : gEnd X G (gPv (fun s' => Q s' ∧ gRg s'))) (s : gS) (hs : gRg s) (x1 : Int) (x2 : Int) (x3 : Int) (x4 : Int) (x5 : Int)  (h : (rng x1) ∧ (rng x2) ∧ (rng x3) ∧ (rng x4) ∧ (rng x5) ∧ Q (gpI (gpI (gpI (gpI (gpI s 3 0 x1) 3 1 x2) 3 2 x3) 3 3 x4) 3 4 x5)) : gWL X G s 0 [(0, gR G 3), (1, vi x1), (2, vi x2), (3, vi x3), (4, vi x4), (5, vi x5)] [] := by
  refine g_aload_n hX dX1_change_0 0 rfl ?_
  refine g_iload_n hX dX1_change_1 1 rfl ?_
  obtain ⟨h1, h⟩ := h
  refine g_putI hX sh_3 0 rfl fl_X1_9 (fun _ _ _ e => by cases e; rfl) dX1_change_2 ?_
  refine g_aload_n hX dX1_change_5 0 rfl ?_
  refine g_iload_n hX dX1_change_6 2 rfl ?_
  obtain ⟨h2, h⟩ := h
  refine g_putI hX sh_3 1 rfl fl_X1_15 (fun _ _ _ e => by cases e; rfl) dX1_change_7 ?_
  refine g_aload_n hX dX1_change_10 0 rfl ?_
  refine g_iload_n hX dX1_change_11 3 rfl ?_
  obtain ⟨h3, h⟩ := h
  refine g_putI hX sh_3 2 rfl fl_X1_18 (fun _ _ _ e => by cases e; rfl) dX1_change_12 ?_
  refine g_aload_n hX dX1_change_15 0 rfl ?_
  refine g_iload hX dX1_change_16 4 rfl ?_
  obtain ⟨h4, h⟩ := h
  refine g_putI hX sh_3 3 rfl fl_X1_21 (fun _ _ _ e => by cases e; rfl) dX1_change_18 ?_
  refine g_aload_n hX dX1_change_21 0 rfl ?_
  refine g_iload hX dX1_change_22 5 rfl ?_
  obtain ⟨h5, h⟩ := h
  refine g_putI hX sh_3 4 rfl fl_X1_24 (fun _ _ _ e => by cases e; rfl) dX1_change_24 ?_
  exact g_vret hX hE dX1_change_27 ⟨h, (gRg_I (gRg_I (gRg_I (gRg_I (gRg_I hs h1) h2) h3) h4) h5)⟩
set_option maxRecDepth 100000 in
set_option maxHeartbeats 4000000 in
theorem c_X1_change (l : Launch) {G : gG} (hG : gInj G) (s : gS) (x1 : Int) (x2 : Int) (x3 : Int) (x4 : Int) (x5 : Int) (p0 : gRg s) (p1 : rng x1) (p2 : rng x2) (p3 : rng x3) (p4 : rng x4) (p5 : rng x5) : gMet l G yX1_change cX1_change 6 none 1 [gR G 3, vi x1, vi x2, vi x3, vi x4, vi x5] s (gPv (fun s' => (s' = gpI (gpI (gpI (gpI (gpI s 3 0 x1) 3 1 x2) 3 2 x3) 3 3 x4) 3 4 x5) ∧ gRg s')) := by
  refine gMet_of (plainFor_of_name (by decide)) hG (Nat.le_of_ble_eq_true rfl) (fun X hX hE => ?_)
  refine bk_X1_change_0 hX hE s p0 x1 x2 x3 x4 x5  ?_
  exact ⟨p1, p2, p3, p4, p5, rfl⟩
set_option maxRecDepth 100000 in
set_option maxHeartbeats 4000000 in
theorem bk_X3_addNote_0 {X : gX} {G : gG} (hX : gOk X G cX3_addNote 3 RX3 (some .int) 1) {Q : Int → gS → Prop} (hE : gEnd X G (gPi (fun v s' => Q v s' ∧ gRg s'))) (s : gS) (hs : gRg s) (k0 : Int) (x1 : Int) (x2 : Int) (hk0 : 100 ≤ k0 ∧ k0 < 106) (h : (0 ≤ (s.1 k0 2) ∧ (s.1 k0 2) < 24) ∧ (rng x1) ∧ (rng x2) ∧ (rng ((s.1 k0 2) + 1)) ∧ Q ((s.1 k0 2) + 1) (gpI (gpA (gpA s (k0 + 10) (s.1 k0 2) x1) (k0 + 20) (s.1 k0 2) x2) k0 2 ((s.1 k0 2) + 1))) : gWL X G s 0 [(0, gR G k0), (1, vi x1), (2, vi x2)] [] := by
  refine g_aload_n hX dX3_addNote_0 0 rfl ?_
  refine g_getR hX (sh_piece (by omega) (by omega)) 0 rfl fl_X3_9 dX3_addNote_1 ?_
  refine g_aload_n hX dX3_addNote_4 0 rfl ?_
  refine g_getI hX (sh_piece (by omega) (by omega)) 2 rfl fl_X3_18 dX3_addNote_5 ?_
  refine g_iload_n hX dX3_addNote_8 1 rfl ?_
  obtain ⟨h1, h⟩ := h
  obtain ⟨h2, h⟩ := h
  refine g_iast hX (sh_pitches (by omega) (by omega)) h1 (by decide) dX3_addNote_9 ?_
  refine g_aload_n hX dX3_addNote_10 0 rfl ?_
  refine g_getR hX (sh_piece (by omega) (by omega)) 1 rfl fl_X3_15 dX3_addNote_11 ?_
  refine g_aload_n hX dX3_addNote_14 0 rfl ?_
  refine g_getI hX (sh_piece (by omega) (by omega)) 2 rfl fl_X3_18 dX3_addNote_15 ?_
  refine g_iload_n hX dX3_addNote_18 2 rfl ?_
  obtain ⟨h3, h⟩ := h
  refine g_iast hX (sh_beats (by omega) (by omega)) h1 (by decide) dX3_addNote_19 ?_
  refine g_aload_n hX dX3_addNote_20 0 rfl ?_
  refine g_dup hX rfl dX3_addNote_21 ?_
  refine g_getI hX (sh_piece (by omega) (by omega)) 2 rfl fl_X3_18 dX3_addNote_22 ?_
  refine g_iconst hX dX3_addNote_25 ?_
  refine g_iadd hX dX3_addNote_26 ?_
  obtain ⟨h4, h⟩ := h
  refine g_putI hX (sh_piece (by omega) (by omega)) 2 rfl fl_X3_18 (fun _ _ _ e => by cases e; rfl) dX3_addNote_27 ?_
  refine g_aload_n hX dX3_addNote_30 0 rfl ?_
  refine g_getI hX (sh_piece (by omega) (by omega)) 2 rfl fl_X3_18 dX3_addNote_31 ?_
  refine g_top gpI_eq ?_
  exact g_iret hX hE dX3_addNote_34 ⟨h, (gRg_I (gRg_A (gRg_A hs h2) h3) h4)⟩
set_option maxRecDepth 100000 in
set_option maxHeartbeats 4000000 in
theorem c_X3_addNote (l : Launch) {G : gG} (hG : gInj G) (s : gS) (k0 : Int) (x1 : Int) (x2 : Int) (p0 : gRg s) (p1 : rng x1) (p2 : rng x2) (p3 : 100 ≤ k0 ∧ k0 < 106) (p4 : 0 ≤ (s.1 k0 2) ∧ (s.1 k0 2) < 24) : gMet l G yX3_addNote cX3_addNote 3 (some .int) 1 [gR G k0, vi x1, vi x2] s (gPi (fun v s' => (v = (s.1 k0 2) + 1 ∧ s' = gpI (gpA (gpA s (k0 + 10) (s.1 k0 2) x1) (k0 + 20) (s.1 k0 2) x2) k0 2 ((s.1 k0 2) + 1)) ∧ gRg s')) := by
  refine gMet_of (plainFor_of_name (by decide)) hG (Nat.le_of_ble_eq_true rfl) (fun X hX hE => ?_)
  refine bk_X3_addNote_0 hX hE s p0 k0 x1 x2 p3 ?_
  exact ⟨p4, p1, p2, rng_of (by omega) (by omega), rfl, rfl⟩
set_option maxRecDepth 100000 in
set_option maxHeartbeats 4000000 in
theorem bk_X4_startAnew_0 {X : gX} {G : gG} (hX : gOk X G cX4_startAnew 3 RX4 (some .int) 1) {Q : Int → gS → Prop} (hE : gEnd X G (gPi (fun v s' => Q v s' ∧ gRg s'))) (s : gS) (hs : gRg s) (k0 : Int) (x1 : Int) (hk0 : 130 ≤ k0 ∧ k0 < 140) (h : (rng x1) ∧ Q (s.1 k0 1) (gpI (gpI s k0 1 0) k0 2 x1)) : gWL X G s 0 [(0, gR G k0), (1, vi x1)] [] := by
  refine g_aload_n hX dX4_startAnew_0 0 rfl ?_
  refine g_getI hX (sh_recording (by omega) (by omega)) 1 rfl fl_X4_15 dX4_startAnew_1 ?_
  refine g_istore_n (loc' := [(2, vi (s.1 k0 1)), (0, gR G k0), (1, vi x1)]) hX dX4_startAnew_4 (by decide) rfl ?_
  refine g_aload_n hX dX4_startAnew_5 1 rfl ?_
  refine g_iconst hX dX4_startAnew_6 ?_
  refine g_putI hX (sh_recording (by omega) (by omega)) 1 rfl fl_X4_15 (fun _ _ _ e => by cases e; rfl) dX4_startAnew_7 ?_
  refine g_aload_n hX dX4_startAnew_10 1 rfl ?_
  refine g_iload_n hX dX4_startAnew_11 2 rfl ?_
  obtain ⟨h1, h⟩ := h
  refine g_putI hX (sh_recording (by omega) (by omega)) 2 rfl fl_X4_19 (fun _ _ _ e => by cases e; rfl) dX4_startAnew_12 ?_
  refine g_iload_n hX dX4_startAnew_15 0 rfl ?_
  exact g_iret hX hE dX4_startAnew_16 ⟨h, (gRg_I (gRg_I hs (by unfold rng; omega)) h1)⟩
set_option maxRecDepth 100000 in
set_option maxHeartbeats 4000000 in
theorem c_X4_startAnew (l : Launch) {G : gG} (hG : gInj G) (s : gS) (k0 : Int) (x1 : Int) (p0 : gRg s) (p1 : rng x1) (p2 : 130 ≤ k0 ∧ k0 < 140) : gMet l G yX4_startAnew cX4_startAnew 3 (some .int) 1 [gR G k0, vi x1] s (gPi (fun v s' => (v = (s.1 k0 1) ∧ s' = gpI (gpI s k0 1 0) k0 2 x1) ∧ gRg s')) := by
  refine gMet_of (plainFor_of_name (by decide)) hG (Nat.le_of_ble_eq_true rfl) (fun X hX hE => ?_)
  refine bk_X4_startAnew_0 hX hE s p0 k0 x1 p2 ?_
  exact ⟨p1, rfl, rfl⟩
set_option maxRecDepth 100000 in
set_option maxHeartbeats 4000000 in
theorem bk_X4_addReadings_0 {X : gX} {G : gG} (hX : gOk X G cX4_addReadings 4 RX4 (some .int) 1) {Q : Int → gS → Prop} (hE : gEnd X G (gPi (fun v s' => Q v s' ∧ gRg s'))) (s : gS) (hs : gRg s) (k0 : Int) (x1 : Int) (x2 : Int) (hk0 : 130 ≤ k0 ∧ k0 < 140) (h : gWL X G s 2 [(0, gR G k0), (1, vi x1), (2, vi x2), (3, vi 0)] []) : gWL X G s 0 [(0, gR G k0), (1, vi x1), (2, vi x2)] [] := by
  refine g_iconst hX dX4_addReadings_0 ?_
  refine g_istore_n (loc' := [(3, vi 0), (0, gR G k0), (1, vi x1), (2, vi x2)]) hX dX4_addReadings_1 (by decide) rfl ?_
  exact g_sub [1, 2, 3, 0] rfl h
set_option maxRecDepth 100000 in
set_option maxHeartbeats 4000000 in
theorem bk_X4_addReadings_2 {X : gX} {G : gG} (hX : gOk X G cX4_addReadings 4 RX4 (some .int) 1) {Q : Int → gS → Prop} (hE : gEnd X G (gPi (fun v s' => Q v s' ∧ gRg s'))) (s : gS) (hs : gRg s) (k0 : Int) (x1 : Int) (x2 : Int) (x3 : Int) (hk0 : 130 ≤ k0 ∧ k0 < 140) (h : (rng x3) ∧ (rng x2) ∧ ((x2 ≤ x3 → Q (s.1 k0 1) s) ∧ (x3 < x2 → (0 ≤ (s.1 k0 1) ∧ (s.1 k0 1) < 120) ∧ (rng x1) ∧ (rng ((s.1 k0 1) + 1)) ∧ gWL X G (gpI (gpA s (k0 + 10) (s.1 k0 1) x1) k0 1 ((s.1 k0 1) + 1)) 2 [(0, gR G k0), (1, vi x1), (2, vi x2), (3, vi (x3 + 1))] []))) : gWL X G s 2 [(0, gR G k0), (1, vi x1), (2, vi x2), (3, vi x3)] [] := by
  refine g_iload_n hX dX4_addReadings_2 3 rfl ?_
  refine g_iload_n hX dX4_addReadings_3 2 rfl ?_
  obtain ⟨h1, h⟩ := h
  obtain ⟨h2, h⟩ := h
  refine g_icge (tgt := 33) hX h1 h2 dX4_addReadings_4 (by decide) (fun c3 => ?_) (fun c3 => ?_)
  · replace h := h.1 c3
    refine g_aload_n hX dX4_addReadings_33 0 rfl ?_
    refine g_getI hX (sh_recording (by omega) (by omega)) 1 rfl fl_X4_15 dX4_addReadings_34 ?_
    exact g_iret hX hE dX4_addReadings_37 ⟨h, hs⟩
  · replace h := h.2 (Int.not_le.mp c3)
    refine g_aload_n hX dX4_addReadings_7 0 rfl ?_
    refine g_getR hX (sh_recording (by omega) (by omega)) 0 rfl fl_X4_9 dX4_addReadings_8 ?_
    refine g_aload_n hX dX4_addReadings_11 0 rfl ?_
    refine g_getI hX (sh_recording (by omega) (by omega)) 1 rfl fl_X4_15 dX4_addReadings_12 ?_
    refine g_iload_n hX dX4_addReadings_15 1 rfl ?_
    obtain ⟨h4, h⟩ := h
    obtain ⟨h5, h⟩ := h
    refine g_iast hX (sh_readings (by omega) (by omega)) h4 (by decide) dX4_addReadings_16 ?_
    refine g_aload_n hX dX4_addReadings_17 0 rfl ?_
    refine g_dup hX rfl dX4_addReadings_18 ?_
    refine g_getI hX (sh_recording (by omega) (by omega)) 1 rfl fl_X4_15 dX4_addReadings_19 ?_
    refine g_iconst hX dX4_addReadings_22 ?_
    refine g_iadd hX dX4_addReadings_23 ?_
    obtain ⟨h6, h⟩ := h
    refine g_putI hX (sh_recording (by omega) (by omega)) 1 rfl fl_X4_15 (fun _ _ _ e => by cases e; rfl) dX4_addReadings_24 ?_
    refine g_iinc (loc' := [(3, vi (x3 + 1)), (0, gR G k0), (1, vi x1), (2, vi x2)]) hX dX4_addReadings_27 3 rfl (by decide) rfl ?_
    refine g_goto (tgt := 2) hX dX4_addReadings_30 (by decide) ?_
    exact g_sub [1, 2, 3, 0] rfl h
set_option maxRecDepth 100000 in
set_option maxHeartbeats 4000000 in
theorem c_X4_addReadings (l : Launch) {G : gG} (hG : gInj G) (s : gS) (k0 : Int) (x1 : Int) (x2 : Int) (p0 : gRg s) (p1 : rng x1) (p2 : 130 ≤ k0 ∧ k0 < 140) (p3 : 1 ≤ x2 ∧ x2 ≤ 60) (p4 : 0 ≤ (s.1 k0 1) ∧ (s.1 k0 1) + x2 ≤ 120) : gMet l G yX4_addReadings cX4_addReadings 4 (some .int) 1 [gR G k0, vi x1, vi x2] s (gPi (fun v s' => (v = (s.1 k0 1) + x2 ∧ s' = gpI (gfill s (k0 + 10) (s.1 k0 1) x1 x2) k0 1 ((s.1 k0 1) + x2)) ∧ gRg s')) := by
  refine gMet_of (plainFor_of_name (by decide)) hG (Nat.le_of_ble_eq_true rfl) (fun X hX hE => ?_)
  refine bk_X4_addReadings_0 hX hE s p0 k0 x1 x2 p2 ?_
  refine gloop (α := gS) (hi := x2) (fun i t => 0 ≤ i ∧ gRg t ∧ t = gpI (gfill s (k0 + 10) (s.1 k0 1) x1 i) k0 1 ((s.1 k0 1) + i)) (fun i t => gWL X G t 2 [(0, gR G k0), (1, vi x1), (2, vi x2), (3, vi i)] []) ?_ ?_ 0 s (by omega) ⟨by omega, p0, ?_⟩
  · intro i t hi ⟨h0, hg, ht⟩ next
    have e1 : t.1 k0 1 = s.1 k0 1 + i := by rw [ht, gpI_eq]
    refine bk_X4_addReadings_2 hX hE t hg k0 x1 x2 i p2 ⟨rng_of (by omega) (by omega), rng_of (by omega) (by omega), fun h => by omega, fun _ => ⟨by omega, p1, rng_of (by omega) (by omega), next _ ⟨by omega, gRg_I (gRg_A hg p1) (rng_of (by omega) (by omega)), ?_⟩⟩⟩
    rw [e1, ht]
    unfold gfill
    rw [giter_s _ _ h0]
    exact gfill_put _ _ _ _ _ _ _
  · intro t ⟨h0, hg, ht⟩
    have e1 : t.1 k0 1 = s.1 k0 1 + x2 := by rw [ht, gpI_eq]
    exact bk_X4_addReadings_2 hX hE t hg k0 x1 x2 x2 p2 ⟨rng_of (by omega) (by omega), rng_of (by omega) (by omega), fun _ => ⟨e1, ht⟩, fun h => by omega⟩
  · have e : gfill s (k0 + 10) (s.1 k0 1) x1 0 = s := rfl
    rw [e]
    refine Prod.ext ?_ rfl
    funext k j
    show s.1 k j = if k = k0 ∧ j = 1 then s.1 k0 1 + 0 else s.1 k j
    split
    · next h => rw [h.1, h.2]; omega
    · rfl
set_option maxRecDepth 100000 in
set_option maxHeartbeats 4000000 in
theorem bk_X0_forget_0 {X : gX} {G : gG} (hX : gOk X G cX0_forget 1 RX0 none 1) {Q : gS → Prop} (hE : gEnd X G (gPv (fun s' => Q s' ∧ gRg s'))) (s : gS) (hs : gRg s)   (h : Q (gpI s 4 8 (-1))) : gWL X G s 0 [(0, gR G 4)] [] := by
  refine g_aload_n hX dX0_forget_0 0 rfl ?_
  refine g_iconst hX dX0_forget_1 ?_
  refine g_putI hX sh_4 8 rfl fl_X0_37 (fun _ _ _ e => by cases e; rfl) dX0_forget_2 ?_
  exact g_vret hX hE dX0_forget_5 ⟨h, (gRg_I hs (by unfold rng; omega))⟩
set_option maxRecDepth 100000 in
set_option maxHeartbeats 4000000 in
theorem c_X0_forget (l : Launch) {G : gG} (hG : gInj G) (s : gS)  (p0 : gRg s) : gMet l G yX0_forget cX0_forget 1 none 1 [gR G 4] s (gPv (fun s' => (s' = gpI s 4 8 (-1)) ∧ gRg s')) := by
  refine gMet_of (plainFor_of_name (by decide)) hG (Nat.le_of_ble_eq_true rfl) (fun X hX hE => ?_)
  refine bk_X0_forget_0 hX hE s p0   ?_
  rfl
set_option maxRecDepth 100000 in
set_option maxHeartbeats 4000000 in
theorem bk_X0_endAt_0 {X : gX} {G : gG} (hX : gOk X G cX0_endAt 3 RX0 none 1) {Q : gS → Prop} (hE : gEnd X G (gPv (fun s' => Q s' ∧ gRg s'))) (s : gS) (hs : gRg s) (x1 : Int)  (h : gWL X G s 2 [(0, gR G 4), (1, vi x1), (2, vi 0)] []) : gWL X G s 0 [(0, gR G 4), (1, vi x1)] [] := by
  refine g_iconst hX dX0_endAt_0 ?_
  refine g_istore_n (loc' := [(2, vi 0), (0, gR G 4), (1, vi x1)]) hX dX0_endAt_1 (by decide) rfl ?_
  exact g_sub [1, 2, 0] rfl h
set_option maxRecDepth 100000 in
set_option maxHeartbeats 4000000 in
theorem bk_X0_endAt_2 {X : gX} {G : gG} (hX : gOk X G cX0_endAt 3 RX0 none 1) {Q : gS → Prop} (hE : gEnd X G (gPv (fun s' => Q s' ∧ gRg s'))) (s : gS) (hs : gRg s) (x1 : Int) (x2 : Int)  (h : (rng x2) ∧ (rng x1) ∧ ((x1 ≤ x2 → (0 ≤ (s.1 4 4) ∧ (s.1 4 4) < 25) ∧ (0 ≤ x1 ∧ x1 < 121) ∧ Q (gpA s (200 + (s.1 4 4)) x1 0)) ∧ (x2 < x1 → (0 ≤ (s.1 4 4) ∧ (s.1 4 4) < 25) ∧ (0 ≤ x2 ∧ x2 < 121) ∧ gWL X G (gpA s (200 + (s.1 4 4)) x2 1000000000) 2 [(0, gR G 4), (1, vi x1), (2, vi (x2 + 1))] []))) : gWL X G s 2 [(0, gR G 4), (1, vi x1), (2, vi x2)] [] := by
  refine g_iload_n hX dX0_endAt_2 2 rfl ?_
  refine g_iload_n hX dX0_endAt_3 1 rfl ?_
  obtain ⟨h1, h⟩ := h
  obtain ⟨h2, h⟩ := h
  refine g_icge (tgt := 26) hX h1 h2 dX0_endAt_4 (by decide) (fun c3 => ?_) (fun c3 => ?_)
  · replace h := h.1 c3
    refine g_aload_n hX dX0_endAt_26 0 rfl ?_
    refine g_getR hX sh_4 9 rfl fl_X0_42 dX0_endAt_27 ?_
    refine g_aload_n hX dX0_endAt_30 0 rfl ?_
    refine g_getI hX sh_4 4 rfl fl_X0_24 dX0_endAt_31 ?_
    obtain ⟨h4, h⟩ := h
    have k5 := h4
    refine g_aald (kd := 4) (q := (200 + (s.1 4 4))) hX sh_13 rfl rfl h4 (by decide) (by show 200 + (((s.1 4 4) : Int).toNat : Int) = _; omega) dX0_endAt_34 ?_
    refine g_iload_n hX dX0_endAt_35 1 rfl ?_
    refine g_iconst hX dX0_endAt_36 ?_
    obtain ⟨h6, h⟩ := h
    refine g_iast hX (sh_bestrow (by omega) (by omega)) h6 (by decide) dX0_endAt_37 ?_
    exact g_vret hX hE dX0_endAt_38 ⟨h, (gRg_A hs (by unfold rng; omega))⟩
  · replace h := h.2 (Int.not_le.mp c3)
    refine g_aload_n hX dX0_endAt_7 0 rfl ?_
    refine g_getR hX sh_4 9 rfl fl_X0_42 dX0_endAt_8 ?_
    refine g_aload_n hX dX0_endAt_11 0 rfl ?_
    refine g_getI hX sh_4 4 rfl fl_X0_24 dX0_endAt_12 ?_
    obtain ⟨h7, h⟩ := h
    have k8 := h7
    refine g_aald (kd := 4) (q := (200 + (s.1 4 4))) hX sh_13 rfl rfl h7 (by decide) (by show 200 + (((s.1 4 4) : Int).toNat : Int) = _; omega) dX0_endAt_15 ?_
    refine g_iload_n hX dX0_endAt_16 2 rfl ?_
    refine g_ldc (n := 1000000000) hX ldc_X0_101 dX0_endAt_17 rfl ?_
    obtain ⟨h9, h⟩ := h
    refine g_iast hX (sh_bestrow (by omega) (by omega)) h9 (by decide) dX0_endAt_19 ?_
    refine g_iinc (loc' := [(2, vi (x2 + 1)), (0, gR G 4), (1, vi x1)]) hX dX0_endAt_20 2 rfl (by decide) rfl ?_
    refine g_goto (tgt := 2) hX dX0_endAt_23 (by decide) ?_
    exact g_sub [1, 2, 0] rfl h
set_option maxRecDepth 100000 in
set_option maxHeartbeats 4000000 in
theorem c_X0_endAt (l : Launch) {G : gG} (hG : gInj G) (s : gS) (x1 : Int) (p0 : gRg s) (p1 : 0 ≤ x1 ∧ x1 ≤ 120) (p2 : 0 ≤ (s.1 4 4) ∧ (s.1 4 4) ≤ 24) : gMet l G yX0_endAt cX0_endAt 3 none 1 [gR G 4, vi x1] s (gPv (fun s' => (goff s s' (200 + s.1 4 4) ∧ ∀ i : Int, 0 ≤ i → i ≤ x1 → s'.2 (200 + s.1 4 4) i = if i = x1 then 0 else 1000000000) ∧ gRg s')) := by
  refine gMet_of (plainFor_of_name (by decide)) hG (Nat.le_of_ble_eq_true rfl) (fun X hX hE => ?_)
  refine bk_X0_endAt_0 hX hE s p0 x1  ?_
  refine gloop (α := gS) (hi := x1) (fun i t => 0 ≤ i ∧ gRg t ∧ goff s t (200 + s.1 4 4) ∧ ∀ j : Int, 0 ≤ j → j < i → t.2 (200 + s.1 4 4) j = 1000000000) (fun i t => gWL X G t 2 [(0, gR G 4), (1, vi x1), (2, vi i)] []) ?_ ?_ 0 s p1.1 ⟨by omega, p0, goff.rf _ _, fun j h0 h1 => by omega⟩
  · intro i t hi ⟨h0, hg, ho, hz⟩ next
    have e4 : t.1 4 4 = s.1 4 4 := by rw [ho.1]
    refine bk_X0_endAt_2 hX hE t hg x1 i ⟨rng_of (by omega) (by omega), rng_of (by omega) (by omega), fun h => by omega, fun _ => ⟨by omega, by omega, ?_⟩⟩
    rw [e4]
    refine next _ ⟨by omega, gRg_A hg (rng_of (by omega) (by omega)), ho.put _ _, fun j j0 j1 => ?_⟩
    by_cases e : j = i
    · subst e; exact gpA_eq
    · rw [gpA_ni e]; exact hz j j0 (by omega)
  · intro t ⟨h0, hg, ho, hz⟩
    have e4 : t.1 4 4 = s.1 4 4 := by rw [ho.1]
    refine bk_X0_endAt_2 hX hE t hg x1 x1 ⟨rng_of (by omega) (by omega), rng_of (by omega) (by omega), fun _ => ⟨by omega, by omega, ?_⟩, fun h => by omega⟩
    rw [e4]
    refine ⟨ho.put _ _, fun j j0 j1 => ?_⟩
    by_cases e : j = x1
    · subst e; rw [if_pos rfl]; exact gpA_eq
    · rw [gpA_ni e, if_neg e]; exact hz j j0 (by omega)
set_option maxRecDepth 100000 in
set_option maxHeartbeats 4000000 in
theorem bk_X0_addUpReadings_0 {X : gX} {G : gG} (hX : gOk X G cX0_addUpReadings 5 RX0 none 3) {Q : gS → Prop} (hE : gEnd X G (gPv (fun s' => Q s' ∧ gRg s'))) (s : gS) (hs : gRg s) (k1 : Int) (x3 : Int) (hk1 : 130 ≤ k1 ∧ k1 < 140) (h : gWL X G (gpA s 14 0 0) 10 [(0, gR G 4), (1, gR G k1), (2, gR G 3), (3, vi x3), (4, vi 0)] []) : gWL X G s 0 [(0, gR G 4), (1, gR G k1), (2, gR G 3), (3, vi x3)] [] := by
  refine g_aload_n hX dX0_addUpReadings_0 0 rfl ?_
  refine g_getR hX sh_4 10 rfl fl_X0_45 dX0_addUpReadings_1 ?_
  refine g_iconst hX dX0_addUpReadings_4 ?_
  refine g_iconst hX dX0_addUpReadings_5 ?_
  refine g_iast hX sh_14 (by omega) (by decide) dX0_addUpReadings_6 ?_
  refine g_iconst hX dX0_addUpReadings_7 ?_
  refine g_istore (loc' := [(4, vi 0), (0, gR G 4), (1, gR G k1), (2, gR G 3), (3, vi x3)]) hX dX0_addUpReadings_8 (by decide) rfl ?_
  exact g_sub [1, 2, 3, 4, 0] rfl h
set_option maxRecDepth 100000 in
set_option maxHeartbeats 4000000 in
theorem bk_X0_addUpReadings_10 {X : gX} {G : gG} (hX : gOk X G cX0_addUpReadings 5 RX0 none 3) {Q : gS → Prop} (hE : gEnd X G (gPv (fun s' => Q s' ∧ gRg s'))) (s : gS) (hs : gRg s) (k1 : Int) (x3 : Int) (x4 : Int) (hk1 : 130 ≤ k1 ∧ k1 < 140) (h : (rng x4) ∧ (((s.1 k1 1) ≤ x4 → Q s) ∧ (x4 < (s.1 k1 1) → (0 ≤ x4 ∧ x4 < 121) ∧ (0 ≤ x4 ∧ x4 < 120) ∧ (-1 ≤ (s.2 (k1 + 10) x4) ∧ (s.2 (k1 + 10) x4) ≤ 4800) ∧ (0 ≤ x3 ∧ x3 ≤ 4800) ∧ (0 ≤ (x4 + 1) ∧ (x4 + 1) < 121) ∧ (rng ((s.2 14 x4) + (grc (s.1 3 1) (s.2 (k1 + 10) x4) x3))) ∧ gWL X G (gpA s 14 (x4 + 1) ((s.2 14 x4) + (grc (s.1 3 1) (s.2 (k1 + 10) x4) x3))) 10 [(0, gR G 4), (1, gR G k1), (2, gR G 3), (3, vi x3), (4, vi (x4 + 1))] []))) : gWL X G s 10 [(0, gR G 4), (1, gR G k1), (2, gR G 3), (3, vi x3), (4, vi x4)] [] := by
  refine g_iload hX dX0_addUpReadings_10 4 rfl ?_
  refine g_aload_n hX dX0_addUpReadings_12 1 rfl ?_
  refine g_getI hX (sh_recording (by omega) (by omega)) 1 rfl fl_X0_57 dX0_addUpReadings_13 ?_
  obtain ⟨h1, h⟩ := h
  refine g_icge (tgt := 54) hX h1 (hs.1 _ _) dX0_addUpReadings_16 (by decide) (fun c2 => ?_) (fun c2 => ?_)
  · replace h := h.1 c2
    exact g_vret hX hE dX0_addUpReadings_54 ⟨h, hs⟩
  · replace h := h.2 (Int.not_le.mp c2)
    refine g_aload_n hX dX0_addUpReadings_19 0 rfl ?_
    refine g_getR hX sh_4 10 rfl fl_X0_45 dX0_addUpReadings_20 ?_
    refine g_iload hX dX0_addUpReadings_23 4 rfl ?_
    refine g_iconst hX dX0_addUpReadings_25 ?_
    refine g_iadd hX dX0_addUpReadings_26 ?_
    refine g_aload_n hX dX0_addUpReadings_27 0 rfl ?_
    refine g_getR hX sh_4 10 rfl fl_X0_45 dX0_addUpReadings_28 ?_
    refine g_iload hX dX0_addUpReadings_31 4 rfl ?_
    obtain ⟨h3, h⟩ := h
    refine g_iald hX sh_14 h3 (by decide) dX0_addUpReadings_33 ?_
    refine g_aload_n hX dX0_addUpReadings_34 2 rfl ?_
    refine g_aload_n hX dX0_addUpReadings_35 1 rfl ?_
    refine g_getR hX (sh_recording (by omega) (by omega)) 0 rfl fl_X0_102 dX0_addUpReadings_36 ?_
    refine g_iload hX dX0_addUpReadings_39 4 rfl ?_
    obtain ⟨h4, h⟩ := h
    refine g_iald hX (sh_readings (by omega) (by omega)) h4 (by decide) dX0_addUpReadings_41 ?_
    refine g_iload_n hX dX0_addUpReadings_42 3 rfl ?_
    obtain ⟨h5, h⟩ := h
    obtain ⟨h6, h⟩ := h
    refine g_cVf (As := [vi (s.2 (k1 + 10) x4), vi x3]) hX (fun l => c_X1_costOfReading l hX.inj s (s.2 (k1 + 10) x4) x3 hs h5 h6) sh_3 cv_X0_105 (by decide) rfl (Nat.le_of_ble_eq_true rfl) dX0_addUpReadings_43 rfl (fun g7 => ?_)
    refine g_iadd hX dX0_addUpReadings_46 ?_
    obtain ⟨h8, h⟩ := h
    obtain ⟨h9, h⟩ := h
    refine g_iast hX sh_14 h8 (by decide) dX0_addUpReadings_47 ?_
    refine g_iinc (loc' := [(4, vi (x4 + 1)), (0, gR G 4), (1, gR G k1), (2, gR G 3), (3, vi x3)]) hX dX0_addUpReadings_48 4 rfl (by decide) rfl ?_
    refine g_goto (tgt := 10) hX dX0_addUpReadings_51 (by decide) ?_
    exact g_sub [1, 2, 3, 4, 0] rfl h
set_option maxRecDepth 100000 in
set_option maxHeartbeats 4000000 in
theorem c_X0_addUpReadings (l : Launch) {G : gG} (hG : gInj G) (s : gS) (k1 : Int) (_ : Int) (x3 : Int) (p0 : gRg s) (p1 : gMs s) (p2 : 130 ≤ k1 ∧ k1 < 140) (p3 : 0 ≤ x3 ∧ x3 ≤ 4800) (p4 : gRd s k1) : gMet l G yX0_addUpReadings cX0_addUpReadings 5 none 3 [gR G 4, gR G k1, gR G 3, vi x3] s (gPv (fun s' => (goff s s' 14 ∧ ∀ i : Int, 0 ≤ i → i ≤ s.1 k1 1 → s'.2 14 i = gsum (fun q => grc (s.1 3 1) (s.2 (k1 + 10) q) x3) i) ∧ gRg s')) := by
  refine gMet_of (plainFor_of_name (by decide)) hG (Nat.le_of_ble_eq_true rfl) (fun X hX hE => ?_)
  refine bk_X0_addUpReadings_0 hX hE s p0 k1 x3 p2 ?_
  have hm := p1.2.1
  have hrd := p4.1
  refine gloop (α := gS) (hi := s.1 k1 1) (fun i t => 0 ≤ i ∧ gRg t ∧ goff s t 14 ∧ ∀ j : Int, 0 ≤ j → j ≤ i → t.2 14 j = gsum (fun q => grc (s.1 3 1) (s.2 (k1 + 10) q) x3) j) (fun i t => gWL X G t 10 [(0, gR G 4), (1, gR G k1), (2, gR G 3), (3, vi x3), (4, vi i)] []) ?_ ?_ 0 _ hrd.1 ⟨by omega, gRg_A p0 rng_0, (goff.rf s 14).put 0 0, fun j h0 h1 => by rw [show j = 0 by omega]; exact gpA_eq⟩
  · intro i t hi ⟨h0, hg, ho, hz⟩ next
    have e1 : t.1 k1 1 = s.1 k1 1 := by rw [ho.1]
    have e2 : t.2 (k1 + 10) = s.2 (k1 + 10) := ho.2 _ (by omega)
    have e3 : t.1 3 1 = s.1 3 1 := by rw [ho.1]
    have hr := p4.2 i h0 hi
    have hb := gsum_bd (f := fun q => grc (s.1 3 1) (s.2 (k1 + 10) q) x3) (n := i) (lo := 0) (hi := 1000) h0 (fun q _ _ => grc_bd hm)
    have hb1 := grc_bd (r := s.2 (k1 + 10) i) (p := x3) hm
    have hzi := hz i h0 (by omega)
    refine bk_X0_addUpReadings_10 hX hE t hg k1 x3 i p2 ⟨rng_of (by omega) (by omega), fun h => by omega, fun _ => ⟨by omega, by omega, by rw [e2]; exact hr, p3, by omega, by rw [e2, e3, hzi]; exact rng_of (by omega) (by omega), ?_⟩⟩
    rw [e2, e3, hzi]
    refine next _ ⟨by omega, gRg_A hg (rng_of (by omega) (by omega)), ho.put _ _, fun j j0 j1 => ?_⟩
    by_cases e : j = i + 1
    · subst e; rw [gpA_eq, gsum_s _ h0]
    · rw [gpA_ni e]; exact hz j j0 (by omega)
  · intro t ⟨h0, hg, ho, hz⟩
    have e1 : t.1 k1 1 = s.1 k1 1 := by rw [ho.1]
    exact bk_X0_addUpReadings_10 hX hE t hg k1 x3 _ p2 ⟨rng_of (by omega) (by omega), fun _ => ⟨ho, hz⟩, fun h => by omega⟩
set_option maxRecDepth 100000 in
set_option maxHeartbeats 4000000 in
theorem bk_X0_splitByLength_0 {X : gX} {G : gG} (hX : gOk X G cX0_splitByLength 7 RX0 none 2) {Q : gS → Prop} (hE : gEnd X G (gPv (fun s' => Q s' ∧ gRg s'))) (s : gS) (hs : gRg s) (k1 : Int) (x2 : Int) (x3 : Int) (hk1 : 200 ≤ k1 ∧ k1 < 225) (h : gWL X G s 7 [(0, gR G 4), (1, gR G k1), (3, vi x3), (4, vi 2000000000), (5, vi x2)] []) : gWL X G s 0 [(0, gR G 4), (1, gR G k1), (2, vi x2), (3, vi x3)] [] := by
  refine g_ldc (n := 2000000000) hX ldc_X0_109 dX0_splitByLength_0 rfl ?_
  refine g_istore (loc' := [(4, vi 2000000000), (0, gR G 4), (1, gR G k1), (2, vi x2), (3, vi x3)]) hX dX0_splitByLength_2 (by decide) rfl ?_
  refine g_iload_n hX dX0_splitByLength_4 3 rfl ?_
  refine g_istore (loc' := [(5, vi x2), (4, vi 2000000000), (0, gR G 4), (1, gR G k1), (2, vi x2), (3, vi x3)]) hX dX0_splitByLength_5 (by decide) rfl ?_
  exact g_sub [2, 3, 5, 1, 0] rfl h
set_option maxRecDepth 100000 in
set_option maxHeartbeats 4000000 in
theorem bk_X0_splitByLength_7 {X : gX} {G : gG} (hX : gOk X G cX0_splitByLength 7 RX0 none 2) {Q : gS → Prop} (hE : gEnd X G (gPv (fun s' => Q s' ∧ gRg s'))) (s : gS) (hs : gRg s) (k1 : Int) (x3 : Int) (x4 : Int) (x5 : Int) (hk1 : 200 ≤ k1 ∧ k1 < 225) (h : (rng x5) ∧ ((x5 < 0 → Q s) ∧ (0 ≤ x5 → (0 ≤ x5 ∧ x5 < 121) ∧ (rng (((s.2 14 x5) + (s.2 k1 x5)) - (x3 * x5))) ∧ (rng x4) ∧ (rng (((s.2 14 x5) + (s.2 k1 x5)) + (x3 * x5))) ∧ (rng (min x4 (((s.2 14 x5) + (s.2 k1 x5)) + (x3 * x5)))) ∧ gWL X G (gpA (gpA s 15 x5 (((s.2 14 x5) + (s.2 k1 x5)) - (x3 * x5))) 16 x5 (min x4 (((s.2 14 x5) + (s.2 k1 x5)) + (x3 * x5)))) 7 [(0, gR G 4), (1, gR G k1), (3, vi x3), (4, vi (min x4 (((s.2 14 x5) + (s.2 k1 x5)) + (x3 * x5)))), (5, vi (x5 - 1))] []))) : gWL X G s 7 [(0, gR G 4), (1, gR G k1), (3, vi x3), (4, vi x4), (5, vi x5)] [] := by
  refine g_iload hX dX0_splitByLength_7 4 rfl ?_
  obtain ⟨h1, h⟩ := h
  refine g_iflt (tgt := 69) hX h1 dX0_splitByLength_9 (by decide) (fun c2 => ?_) (fun c2 => ?_)
  · replace h := h.1 c2
    exact g_vret hX hE dX0_splitByLength_69 ⟨h, hs⟩
  · replace h := h.2 (Int.not_lt.mp c2)
    refine g_aload_n hX dX0_splitByLength_12 0 rfl ?_
    refine g_getR hX sh_4 10 rfl fl_X0_45 dX0_splitByLength_13 ?_
    refine g_iload hX dX0_splitByLength_16 4 rfl ?_
    obtain ⟨h3, h⟩ := h
    refine g_iald hX sh_14 h3 (by decide) dX0_splitByLength_18 ?_
    refine g_aload_n hX dX0_splitByLength_19 1 rfl ?_
    refine g_iload hX dX0_splitByLength_20 4 rfl ?_
    refine g_iald hX (sh_bestrow (by omega) (by omega)) h3 (by decide) dX0_splitByLength_22 ?_
    refine g_iadd hX dX0_splitByLength_23 ?_
    refine g_istore (loc' := [(6, vi ((s.2 14 x5) + (s.2 k1 x5))), (0, gR G 4), (1, gR G k1), (3, vi x3), (4, vi x4), (5, vi x5)]) hX dX0_splitByLength_24 (by decide) rfl ?_
    refine g_aload_n hX dX0_splitByLength_26 1 rfl ?_
    refine g_getR hX sh_4 11 rfl fl_X0_48 dX0_splitByLength_27 ?_
    refine g_iload hX dX0_splitByLength_30 5 rfl ?_
    refine g_iload hX dX0_splitByLength_32 0 rfl ?_
    refine g_iload_n hX dX0_splitByLength_34 3 rfl ?_
    refine g_iload hX dX0_splitByLength_35 5 rfl ?_
    refine g_imul hX dX0_splitByLength_37 ?_
    refine g_isub hX dX0_splitByLength_38 ?_
    obtain ⟨h4, h⟩ := h
    refine g_iast hX sh_15 h3 (by decide) dX0_splitByLength_39 ?_
    refine g_iload hX dX0_splitByLength_40 4 rfl ?_
    refine g_iload hX dX0_splitByLength_42 0 rfl ?_
    refine g_iload_n hX dX0_splitByLength_44 3 rfl ?_
    refine g_iload hX dX0_splitByLength_45 5 rfl ?_
    refine g_imul hX dX0_splitByLength_47 ?_
    refine g_iadd hX dX0_splitByLength_48 ?_
    obtain ⟨h5, h⟩ := h
    obtain ⟨h6, h⟩ := h
    refine g_cSf (As := [vi x4, vi (((s.2 14 x5) + (s.2 k1 x5)) + (x3 * x5))]) hX (fun l => c_J9_min_7cf53 l hX.inj (gpA s 15 x5 (((s.2 14 x5) + (s.2 k1 x5)) - (x3 * x5))) x4 (((s.2 14 x5) + (s.2 k1 x5)) + (x3 * x5)) (gRg_A hs h4) h5 h6) cv_X0_110 (by decide) rfl (Nat.le_of_ble_eq_true rfl) dX0_splitByLength_49 rfl (fun g7 => ?_)
    refine g_istore (loc' := [(4, vi (min x4 (((s.2 14 x5) + (s.2 k1 x5)) + (x3 * x5)))), (6, vi ((s.2 14 x5) + (s.2 k1 x5))), (0, gR G 4), (1, gR G k1), (3, vi x3), (5, vi x5)]) hX dX0_splitByLength_52 (by decide) rfl ?_
    refine g_aload_n hX dX0_splitByLength_54 2 rfl ?_
    refine g_getR hX sh_4 12 rfl fl_X0_51 dX0_splitByLength_55 ?_
    refine g_iload hX dX0_splitByLength_58 5 rfl ?_
    refine g_iload hX dX0_splitByLength_60 0 rfl ?_
    obtain ⟨h8, h⟩ := h
    refine g_iast hX sh_16 h3 (by decide) dX0_splitByLength_62 ?_
    refine g_iinc (loc' := [(5, vi (x5 - 1)), (4, vi (min x4 (((s.2 14 x5) + (s.2 k1 x5)) + (x3 * x5)))), (6, vi ((s.2 14 x5) + (s.2 k1 x5))), (0, gR G 4), (1, gR G k1), (3, vi x3)]) hX dX0_splitByLength_63 5 rfl (by decide) rfl ?_
    refine g_goto (tgt := 7) hX dX0_splitByLength_66 (by decide) ?_
    exact g_sub [3, 4, 5, 1, 0] rfl h
set_option maxRecDepth 100000 in
set_option maxHeartbeats 4000000 in
theorem c_X0_splitByLength (l : Launch) {G : gG} (hG : gInj G) (s : gS) (k1 : Int) (x2 : Int) (x3 : Int) (p0 : gRg s) (p1 : 200 ≤ k1 ∧ k1 < 225) (p2 : 0 ≤ x2 ∧ x2 ≤ 120) (p3 : 0 ≤ x3 ∧ x3 ≤ 1000) (p4 : gSB s k1 x2) : gMet l G yX0_splitByLength cX0_splitByLength 7 none 2 [gR G 4, gR G k1, vi x2, vi x3] s (gPv (fun s' => (goff2 s s' 15 16 ∧ ∀ i : Int, 0 ≤ i → i ≤ x2 → s'.2 15 i = (s.2 14 i + s.2 k1 i) - x3 * i ∧ gMn (fun j => (s.2 14 j + s.2 k1 j) + x3 * j) i x2 (s'.2 16 i)) ∧ gRg s')) := by
  refine gMet_of (plainFor_of_name (by decide)) hG (Nat.le_of_ble_eq_true rfl) (fun X hX hE => ?_)
  refine bk_X0_splitByLength_0 hX hE s p0 k1 x2 x3 p1 ?_
  have hst : ∀ i : Int, 0 ≤ i → i ≤ x2 → 0 ≤ x3 * i ∧ x3 * i ≤ 120000 := fun i h0 h1 => gmul_bd (A := 1000) (B := 120) p3 (by omega)
  refine gloopD (α := gS × Int) (lo := -1) (fun i a => i ≤ x2 ∧ gRg a.1 ∧ goff2 s a.1 15 16 ∧ ((i = x2 ∧ a.2 = 2000000000) ∨ (i < x2 ∧ gMn (fun j => (s.2 14 j + s.2 k1 j) + x3 * j) (i + 1) x2 a.2)) ∧ ∀ j : Int, i < j → j ≤ x2 → a.1.2 15 j = (s.2 14 j + s.2 k1 j) - x3 * j ∧ gMn (fun j => (s.2 14 j + s.2 k1 j) + x3 * j) j x2 (a.1.2 16 j)) (fun i a => gWL X G a.1 7 [(0, gR G 4), (1, gR G k1), (3, vi x3), (4, vi a.2), (5, vi i)] []) ?_ ?_ x2 (s, 2000000000) (by omega) ⟨by omega, p0, goff2.rf _ _ _, Or.inl ⟨rfl, rfl⟩, fun j h0 h1 => by omega⟩
  · intro i ⟨t, le⟩ hi ⟨hin, hg, ho, hle, hz⟩ next
    dsimp only at hg ho hle hz ⊢
    have e14 : t.2 14 = s.2 14 := ho.2 _ (by decide) (by decide)
    have ek : t.2 k1 = s.2 k1 := ho.2 _ (by omega) (by omega)
    have hb := p4 i (by omega) hin
    have hs := hst i (by omega) hin
    have hler : -2147483648 ≤ le ∧ le ≤ 2000000000 := by
      rcases hle with ⟨_, h⟩ | ⟨_, ⟨j, j1, j2, j3⟩, _⟩
      · omega
      · have := p4 j (by omega) j2
        have := hst j (by omega) j2
        dsimp only at j3
        omega
    have hmn : gMn (fun j => (s.2 14 j + s.2 k1 j) + x3 * j) i x2 (min le ((s.2 14 i + s.2 k1 i) + x3 * i)) := by
      rcases hle with ⟨h1, h⟩ | ⟨_, h⟩
      · have := gMn.one (fun j => (s.2 14 j + s.2 k1 j) + x3 * j) i
        rw [show min le ((s.2 14 i + s.2 k1 i) + x3 * i) = (s.2 14 i + s.2 k1 i) + x3 * i by omega]
        rw [← h1]; exact this
      · exact h.down
    refine bk_X0_splitByLength_7 hX hE t hg k1 x3 le i p1 ⟨rng_of (by omega) (by omega), fun h => by omega, fun _ => ⟨by omega, by rw [e14, ek]; exact rng_of (by omega) (by omega), rng_of (by omega) (by omega), by rw [e14, ek]; exact rng_of (by omega) (by omega), by rw [e14, ek]; exact rng_of (by omega) (by omega), ?_⟩⟩
    rw [e14, ek]
    refine next (_, _) ⟨by omega, gRg_A (gRg_A hg (rng_of (by omega) (by omega))) (rng_of (by omega) (by omega)), (ho.put1 _ _).put2 _ _, Or.inr ⟨by omega, ?_⟩, fun j j0 j1 => ?_⟩
    · show gMn _ (i - 1 + 1) x2 (min le ((s.2 14 i + s.2 k1 i) + x3 * i))
      rw [show i - 1 + 1 = i by omega]
      exact hmn
    · show (gpA (gpA t 15 i _) 16 i _).2 15 j = _ ∧ gMn _ _ _ ((gpA (gpA t 15 i _) 16 i _).2 16 j)
      by_cases e : j = i
      · subst e
        refine ⟨?_, ?_⟩
        · rw [gpA_nk (by decide), gpA_eq]
        · rw [gpA_eq]; exact hmn
      · refine ⟨?_, ?_⟩
        · rw [gpA_nk (by decide), gpA_ni e]; exact (hz j (by omega) j1).1
        · rw [gpA_ni e, gpA_nk (by decide)]; exact (hz j (by omega) j1).2
  · intro ⟨t, le⟩ ⟨hin, hg, ho, hle, hz⟩
    dsimp only at hg ho hle hz ⊢
    exact bk_X0_splitByLength_7 hX hE t hg k1 x3 le (-1) p1 ⟨rng_of (by omega) (by omega), fun _ => ⟨ho, fun j j0 j1 => hz j (by omega) j1⟩, fun h => by omega⟩
set_option maxRecDepth 100000 in
set_option maxHeartbeats 4000000 in
theorem bk_X0_findLeast_0 {X : gX} {G : gG} (hX : gOk X G cX0_findLeast 8 RX0 (some .int) 2) {Q : Int → gS → Prop} (hE : gEnd X G (gPi (fun v s' => Q v s' ∧ gRg s'))) (s : gS) (hs : gRg s) (x1 : Int) (x2 : Int) (x3 : Int)  (h : (0 ≤ x1 ∧ x1 < 121) ∧ gWL X G s 28 [(0, gR G 4), (2, vi x2), (3, vi x3), (5, vi ((s.1 3 2) * x2)), (6, vi ((s.2 15 x1) + (s.1 3 3))), (7, vi (x1 + 1))] []) : gWL X G s 0 [(0, gR G 4), (1, vi x1), (2, vi x2), (3, vi x3), (4, gR G 3)] [] := by
  refine g_aload hX dX0_findLeast_0 4 rfl ?_
  refine g_getI hX sh_3 2 rfl fl_X0_71 dX0_findLeast_2 ?_
  refine g_iload_n hX dX0_findLeast_5 2 rfl ?_
  refine g_imul hX dX0_findLeast_6 ?_
  refine g_istore (loc' := [(5, vi ((s.1 3 2) * x2)), (0, gR G 4), (1, vi x1), (2, vi x2), (3, vi x3), (4, gR G 3)]) hX dX0_findLeast_7 (by decide) rfl ?_
  refine g_aload_n hX dX0_findLeast_9 1 rfl ?_
  refine g_getR hX sh_4 11 rfl fl_X0_48 dX0_findLeast_10 ?_
  refine g_iload_n hX dX0_findLeast_13 2 rfl ?_
  obtain ⟨h1, h⟩ := h
  refine g_iald hX sh_15 h1 (by decide) dX0_findLeast_14 ?_
  refine g_aload hX dX0_findLeast_15 5 rfl ?_
  refine g_getI hX sh_3 3 rfl fl_X0_115 dX0_findLeast_17 ?_
  refine g_iadd hX dX0_findLeast_20 ?_
  refine g_istore (loc' := [(6, vi ((s.2 15 x1) + (s.1 3 3))), (5, vi ((s.1 3 2) * x2)), (0, gR G 4), (1, vi x1), (2, vi x2), (3, vi x3), (4, gR G 3)]) hX dX0_findLeast_21 (by decide) rfl ?_
  refine g_iload_n hX dX0_findLeast_23 3 rfl ?_
  refine g_iconst hX dX0_findLeast_24 ?_
  refine g_iadd hX dX0_findLeast_25 ?_
  refine g_istore (loc' := [(7, vi (x1 + 1)), (6, vi ((s.2 15 x1) + (s.1 3 3))), (5, vi ((s.1 3 2) * x2)), (0, gR G 4), (1, vi x1), (2, vi x2), (3, vi x3), (4, gR G 3)]) hX dX0_findLeast_26 (by decide) rfl ?_
  exact g_sub [3, 5, 6, 2, 1, 0] rfl h
set_option maxRecDepth 100000 in
set_option maxHeartbeats 4000000 in
theorem bk_X0_findLeast_28 {X : gX} {G : gG} (hX : gOk X G cX0_findLeast 8 RX0 (some .int) 2) {Q : Int → gS → Prop} (hE : gEnd X G (gPi (fun v s' => Q v s' ∧ gRg s'))) (s : gS) (hs : gRg s) (x2 : Int) (x3 : Int) (x5 : Int) (x6 : Int) (x7 : Int)  (h : (rng x7) ∧ (rng x2) ∧ ((x2 ≤ x7 → (rng x3) ∧ ((x3 < x2 → Q (x6 + x5) s) ∧ (x2 ≤ x3 → (0 ≤ x2 ∧ x2 < 121) ∧ (rng (x6 + x5)) ∧ (rng ((s.2 16 x2) - x5)) ∧ Q (min (x6 + x5) ((s.2 16 x2) - x5)) s))) ∧ (x7 < x2 → (rng x3) ∧ ((x3 < x7 → ((x3 < x2 → Q (x6 + x5) s) ∧ (x2 ≤ x3 → (0 ≤ x2 ∧ x2 < 121) ∧ (rng (x6 + x5)) ∧ (rng ((s.2 16 x2) - x5)) ∧ Q (min (x6 + x5) ((s.2 16 x2) - x5)) s))) ∧ (x7 ≤ x3 → (0 ≤ x7 ∧ x7 < 121) ∧ (rng x6) ∧ gWL X G s 28 [(0, gR G 4), (2, vi x2), (3, vi x3), (5, vi x5), (6, vi (min x6 (s.2 15 x7))), (7, vi (x7 + 1))] []))))) : gWL X G s 28 [(0, gR G 4), (2, vi x2), (3, vi x3), (5, vi x5), (6, vi x6), (7, vi x7)] [] := by
  refine g_iload hX dX0_findLeast_28 5 rfl ?_
  refine g_iload_n hX dX0_findLeast_30 1 rfl ?_
  obtain ⟨h1, h⟩ := h
  obtain ⟨h2, h⟩ := h
  refine g_icge (tgt := 60) hX h1 h2 dX0_findLeast_31 (by decide) (fun c3 => ?_) (fun c3 => ?_)
  · replace h := h.1 c3
    refine g_iload hX dX0_findLeast_60 4 rfl ?_
    refine g_iload hX dX0_findLeast_62 3 rfl ?_
    refine g_iadd hX dX0_findLeast_64 ?_
    refine g_istore (loc' := [(6, vi (x6 + x5)), (0, gR G 4), (2, vi x2), (3, vi x3), (5, vi x5), (7, vi x7)]) hX dX0_findLeast_65 (by decide) rfl ?_
    refine g_iload_n hX dX0_findLeast_67 2 rfl ?_
    refine g_iload_n hX dX0_findLeast_68 3 rfl ?_
    obtain ⟨h4, h⟩ := h
    refine g_icgt (tgt := 89) hX h2 h4 dX0_findLeast_69 (by decide) (fun c5 => ?_) (fun c5 => ?_)
    · replace h := h.1 c5
      refine g_iload hX dX0_findLeast_89 0 rfl ?_
      exact g_iret hX hE dX0_findLeast_91 ⟨h, hs⟩
    · replace h := h.2 (Int.not_lt.mp c5)
      refine g_iload hX dX0_findLeast_72 0 rfl ?_
      refine g_aload_n hX dX0_findLeast_74 1 rfl ?_
      refine g_getR hX sh_4 12 rfl fl_X0_51 dX0_findLeast_75 ?_
      refine g_iload_n hX dX0_findLeast_78 2 rfl ?_
      obtain ⟨h6, h⟩ := h
      refine g_iald hX sh_16 h6 (by decide) dX0_findLeast_79 ?_
      refine g_iload hX dX0_findLeast_80 4 rfl ?_
      refine g_isub hX dX0_findLeast_82 ?_
      obtain ⟨h7, h⟩ := h
      obtain ⟨h8, h⟩ := h
      refine g_cSf (As := [vi (x6 + x5), vi ((s.2 16 x2) - x5)]) hX (fun l => c_J9_min_7cf53 l hX.inj s (x6 + x5) ((s.2 16 x2) - x5) hs h7 h8) cv_X0_110 (by decide) rfl (Nat.le_of_ble_eq_true rfl) dX0_findLeast_83 rfl (fun g9 => ?_)
      refine g_goto (tgt := 91) hX dX0_findLeast_86 (by decide) ?_
      exact g_iret hX hE dX0_findLeast_91 ⟨h, hs⟩
  · replace h := h.2 (Int.not_le.mp c3)
    refine g_iload hX dX0_findLeast_34 5 rfl ?_
    refine g_iload_n hX dX0_findLeast_36 2 rfl ?_
    obtain ⟨h10, h⟩ := h
    refine g_icgt (tgt := 60) hX h1 h10 dX0_findLeast_37 (by decide) (fun c11 => ?_) (fun c11 => ?_)
    · replace h := h.1 c11
      refine g_iload hX dX0_findLeast_60 4 rfl ?_
      refine g_iload hX dX0_findLeast_62 3 rfl ?_
      refine g_iadd hX dX0_findLeast_64 ?_
      refine g_istore (loc' := [(6, vi (x6 + x5)), (0, gR G 4), (2, vi x2), (3, vi x3), (5, vi x5), (7, vi x7)]) hX dX0_findLeast_65 (by decide) rfl ?_
      refine g_iload_n hX dX0_findLeast_67 2 rfl ?_
      refine g_iload_n hX dX0_findLeast_68 3 rfl ?_
      refine g_icgt (tgt := 89) hX h2 h10 dX0_findLeast_69 (by decide) (fun c12 => ?_) (fun c12 => ?_)
      · replace h := h.1 c12
        refine g_iload hX dX0_findLeast_89 0 rfl ?_
        exact g_iret hX hE dX0_findLeast_91 ⟨h, hs⟩
      · replace h := h.2 (Int.not_lt.mp c12)
        refine g_iload hX dX0_findLeast_72 0 rfl ?_
        refine g_aload_n hX dX0_findLeast_74 1 rfl ?_
        refine g_getR hX sh_4 12 rfl fl_X0_51 dX0_findLeast_75 ?_
        refine g_iload_n hX dX0_findLeast_78 2 rfl ?_
        obtain ⟨h13, h⟩ := h
        refine g_iald hX sh_16 h13 (by decide) dX0_findLeast_79 ?_
        refine g_iload hX dX0_findLeast_80 4 rfl ?_
        refine g_isub hX dX0_findLeast_82 ?_
        obtain ⟨h14, h⟩ := h
        obtain ⟨h15, h⟩ := h
        refine g_cSf (As := [vi (x6 + x5), vi ((s.2 16 x2) - x5)]) hX (fun l => c_J9_min_7cf53 l hX.inj s (x6 + x5) ((s.2 16 x2) - x5) hs h14 h15) cv_X0_110 (by decide) rfl (Nat.le_of_ble_eq_true rfl) dX0_findLeast_83 rfl (fun g16 => ?_)
        refine g_goto (tgt := 91) hX dX0_findLeast_86 (by decide) ?_
        exact g_iret hX hE dX0_findLeast_91 ⟨h, hs⟩
    · replace h := h.2 (Int.not_lt.mp c11)
      refine g_iload hX dX0_findLeast_40 4 rfl ?_
      refine g_aload_n hX dX0_findLeast_42 0 rfl ?_
      refine g_getR hX sh_4 11 rfl fl_X0_48 dX0_findLeast_43 ?_
      refine g_iload hX dX0_findLeast_46 5 rfl ?_
      obtain ⟨h17, h⟩ := h
      refine g_iald hX sh_15 h17 (by decide) dX0_findLeast_48 ?_
      obtain ⟨h18, h⟩ := h
      refine g_cSf (As := [vi x6, vi (s.2 15 x7)]) hX (fun l => c_J9_min_7cf53 l hX.inj s x6 (s.2 15 x7) hs h18 (hs.2 _ _)) cv_X0_110 (by decide) rfl (Nat.le_of_ble_eq_true rfl) dX0_findLeast_49 rfl (fun g19 => ?_)
      refine g_istore (loc' := [(6, vi (min x6 (s.2 15 x7))), (0, gR G 4), (2, vi x2), (3, vi x3), (5, vi x5), (7, vi x7)]) hX dX0_findLeast_52 (by decide) rfl ?_
      refine g_iinc (loc' := [(7, vi (x7 + 1)), (6, vi (min x6 (s.2 15 x7))), (0, gR G 4), (2, vi x2), (3, vi x3), (5, vi x5)]) hX dX0_findLeast_54 5 rfl (by decide) rfl ?_
      refine g_goto (tgt := 28) hX dX0_findLeast_57 (by decide) ?_
      exact g_sub [2, 3, 4, 5, 1, 0] rfl h
set_option maxRecDepth 100000 in
set_option maxHeartbeats 4000000 in
theorem c_X0_findLeast (l : Launch) {G : gG} (hG : gInj G) (s : gS) (x1 : Int) (x2 : Int) (x3 : Int) (_ : Int) (p0 : gRg s) (p1 : gMs s) (p2 : 0 ≤ x1 ∧ x1 < x2) (p3 : x2 ≤ x1 + 64) (p4 : x1 ≤ x3 ∧ x3 ≤ 120) (p5 : gTb s x3) : gMet l G yX0_findLeast cX0_findLeast 8 (some .int) 2 [gR G 4, vi x1, vi x2, vi x3, gR G 3] s (gPi (fun v s' => (gMn (fun j => (s.2 15 j + (s.1 3 2) * j) + ((s.1 3 2) * gabs (j - x2) + (if j = x1 then s.1 3 3 else 0))) x1 x3 v ∧ s' = s) ∧ gRg s')) := by
  refine gMet_of (plainFor_of_name (by decide)) hG (Nat.le_of_ble_eq_true rfl) (fun X hX hE => ?_)
  refine bk_X0_findLeast_0 hX hE s p0 x1 x2 x3  ?_
  obtain ⟨_, _, hst, hlk, _⟩ := p1
  have hW : ∀ j : Int, 0 ≤ j → j ≤ x3 → 0 ≤ s.2 15 j + s.1 3 2 * j ∧ s.2 15 j + s.1 3 2 * j ≤ 1000120000 := fun j h0 h1 => (p5 j h0 h1).1
  have hm : ∀ j : Int, 0 ≤ j → j ≤ 184 → 0 ≤ s.1 3 2 * j ∧ s.1 3 2 * j ≤ 184000 := fun j h0 h1 => gmul_bd (A := 1000) (B := 184) hst ⟨h0, h1⟩
  have hd := hm x2 (by omega) (by omega)
  -- the numbers that are compared
  have hlow : ∀ j : Int, x1 < j → j ≤ x2 → (s.2 15 j + s.1 3 2 * j) + (s.1 3 2 * gabs (j - x2) + (if j = x1 then s.1 3 3 else 0)) = s.2 15 j + s.1 3 2 * x2 := by
    intro j h1 h2
    have e : gabs (j - x2) = x2 - j := by unfold gabs; split <;> omega
    rw [e, if_neg (by omega), Int.mul_sub]; omega
  have hfst : (s.2 15 x1 + s.1 3 2 * x1) + (s.1 3 2 * gabs (x1 - x2) + (if x1 = x1 then s.1 3 3 else 0)) = s.2 15 x1 + s.1 3 3 + s.1 3 2 * x2 := by
    have e : gabs (x1 - x2) = x2 - x1 := by unfold gabs; split <;> omega
    rw [e, if_pos rfl, Int.mul_sub]; omega
  have hhigh : ∀ j : Int, x2 ≤ j → (s.2 15 j + s.1 3 2 * j) + (s.1 3 2 * gabs (j - x2) + (if j = x1 then s.1 3 3 else 0)) = ((s.2 15 j + s.1 3 2 * j) + s.1 3 2 * j) - s.1 3 2 * x2 := by
    intro j h1
    have e : gabs (j - x2) = j - x2 := by unfold gabs; split <;> omega
    rw [e, if_neg (by omega), Int.mul_sub]; omega
  have hT1 := hW x1 (by omega) (by omega)
  have hm1 := hm x1 (by omega) (by omega)
  -- behind the loop, with all ends before q looked at
  have hout : ∀ (q le : Int), x1 < q → (q = x2 ∧ q ≤ x3 + 1 ∨ q ≤ x2 ∧ q = x3 + 1) → gMn (fun j => (s.2 15 j + s.1 3 2 * j) + (s.1 3 2 * gabs (j - x2) + (if j = x1 then s.1 3 3 else 0))) x1 (q - 1) (le + s.1 3 2 * x2) → rng (le + s.1 3 2 * x2) → (x3 < x2 → gMn (fun j => (s.2 15 j + s.1 3 2 * j) + (s.1 3 2 * gabs (j - x2) + (if j = x1 then s.1 3 3 else 0))) x1 x3 (le + s.1 3 2 * x2) ∧ s = s) ∧ (x2 ≤ x3 → (0 ≤ x2 ∧ x2 < 121) ∧ rng (le + s.1 3 2 * x2) ∧ rng (s.2 16 x2 - s.1 3 2 * x2) ∧ gMn (fun j => (s.2 15 j + s.1 3 2 * j) + (s.1 3 2 * gabs (j - x2) + (if j = x1 then s.1 3 3 else 0))) x1 x3 (min (le + s.1 3 2 * x2) (s.2 16 x2 - s.1 3 2 * x2)) ∧ s = s) := by
    intro q le hq1 hq2 hmn hr
    refine ⟨fun h => ⟨?_, rfl⟩, fun h => ⟨by omega, hr, ?_, ?_, rfl⟩⟩
    · rw [show q - 1 = x3 by omega] at hmn; exact hmn
    · obtain ⟨⟨j, j1, j2, j3⟩, -⟩ := (p5 x2 (by omega) h).2
      have := hW j (by omega) j2
      have := hm j (by omega) (by omega)
      dsimp only at j3
      rw [j3]
      exact rng_of (by omega) (by omega)
    · have hen : gMn (fun j => (s.2 15 j + s.1 3 2 * j) + (s.1 3 2 * gabs (j - x2) + (if j = x1 then s.1 3 3 else 0))) x2 x3 (s.2 16 x2 - s.1 3 2 * x2) := by
        have h0 := (gMn.shift (g := fun j => (s.2 15 j + s.1 3 2 * j) + (s.1 3 2 * gabs (j - x2) + (if j = x1 then s.1 3 3 else 0))) 0 (-(s.1 3 2 * x2)) (p5 x2 (by omega) h).2 (fun t t1 t2 => by
          rw [Int.zero_add] at t1
          rw [hhigh t t1, Int.zero_add]; omega))
        rw [Int.sub_zero, Int.sub_zero] at h0
        exact h0
      have e : q - 1 + 1 = x2 := by omega
      have hen' : gMn (fun j => (s.2 15 j + s.1 3 2 * j) + (s.1 3 2 * gabs (j - x2) + (if j = x1 then s.1 3 3 else 0))) (q - 1 + 1) x3 (s.2 16 x2 - s.1 3 2 * x2) := by rw [e]; exact hen
      exact hmn.join hen' (by omega) (by omega)
  refine ⟨by omega, ?_⟩
  have hloop : ∀ (i le : Int), i ≤ min x2 (x3 + 1) → (x1 < i ∧ gMn (fun j => (s.2 15 j + s.1 3 2 * j) + (s.1 3 2 * gabs (j - x2) + (if j = x1 then s.1 3 3 else 0))) x1 (i - 1) (le + s.1 3 2 * x2)) → gWL X G s 28 [(0, gR G 4), (2, vi x2), (3, vi x3), (5, vi (s.1 3 2 * x2)), (6, vi le), (7, vi i)] [] := by
    refine gloop (α := Int) (hi := min x2 (x3 + 1)) _ _ ?_ ?_
    · intro i le hi ⟨h0, hmn⟩ next
      have hb := hW i (by omega) (by omega)
      have hbm := hm i (by omega) (by omega)
      have hle : rng le := by
        obtain ⟨⟨j, j1, j2, j3⟩, -⟩ := hmn
        by_cases e : j = x1
        · subst e; dsimp only at j3; rw [hfst] at j3; exact rng_of (by omega) (by omega)
        · dsimp only at j3; rw [hlow j (by omega) (by omega)] at j3
          have := hW j (by omega) (by omega)
          have := hm j (by omega) (by omega)
          exact rng_of (by omega) (by omega)
      refine bk_X0_findLeast_28 hX hE s p0 x2 x3 _ le i ⟨rng_of (by omega) (by omega), rng_of (by omega) (by omega), fun h => by omega, fun _ => ⟨rng_of (by omega) (by omega), fun h => by omega, fun _ => ⟨by omega, hle, next _ ⟨by omega, ?_⟩⟩⟩⟩
      have h2 := hmn.up (by omega)
      rw [show i - 1 + 1 = i by omega] at h2
      rw [hlow i (by omega) (by omega)] at h2
      rw [show i + 1 - 1 = i by omega, show min le (s.2 15 i) + s.1 3 2 * x2 = min (le + s.1 3 2 * x2) (s.2 15 i + s.1 3 2 * x2) by omega]
      exact h2
    · intro le ⟨h0, hmn⟩
      have hle : rng (le + s.1 3 2 * x2) := by
        obtain ⟨⟨j, j1, j2, j3⟩, -⟩ := hmn
        rw [j3]
        by_cases e : j = x1
        · subst e; dsimp only; rw [hfst]; exact rng_of (by omega) (by omega)
        · dsimp only; rw [hlow j (by omega) (by omega)]
          have := hW j (by omega) (by omega)
          have := hm j (by omega) (by omega)
          exact rng_of (by omega) (by omega)
      have ho := hout _ le h0 (by omega) hmn hle
      refine bk_X0_findLeast_28 hX hE s p0 x2 x3 _ le _ ⟨rng_of (by omega) (by omega), rng_of (by omega) (by omega), fun h => ⟨rng_of (by omega) (by omega), ho⟩, fun h => ⟨rng_of (by omega) (by omega), fun h2 => ho, fun h2 => by omega⟩⟩
  refine hloop (x1 + 1) _ (by omega) ⟨by omega, ?_⟩
  have h1 := gMn.one (fun j => (s.2 15 j + s.1 3 2 * j) + (s.1 3 2 * gabs (j - x2) + (if j = x1 then s.1 3 3 else 0))) x1
  rw [hfst] at h1
  rw [show x1 + 1 - 1 = x1 by omega]
  exact h1
end
section
theorem fl_X0_9 : gFL RX0 9 0 0 := ⟨RX0, TX0, 13, tyX0, rfl, by decide, inG_X0, (gm_1 97 rfl rfl), tyX0_ok, nmX0, fun h => absurd h (by decide)⟩
theorem fl_X0_15 : gFL RX0 15 0 1 := ⟨RX0, TX0, 13, tyX0, rfl, by decide, inG_X0, (gm_1 99 rfl rfl), tyX0_ok, nmX0, fun h => absurd h (by decide)⟩
theorem fl_X0_64 : gFL RX0 64 3 0 := ⟨RX3, TX3, 3, tyX3, rfl, by decide, inG_X3, (gm_1 28 rfl rfl), tyX3_ok, nmX3, fun h => absurd h (by decide)⟩
theorem fl_X0_80 : gFL RX0 80 3 1 := ⟨RX3, TX3, 3, tyX3, rfl, by decide, inG_X3, (gm_1 30 rfl rfl), tyX3_ok, nmX3, fun h => absurd h (by decide)⟩
theorem cv_X0_118 : gCV RX0 118 yX0_findTaken cX0_findTaken 10 (some .int) 5 0 := ⟨TX0, 13, rfl, (gm_2 91 rfl rfl), (gm_2 93 rfl rfl), (gm_s 6 rfl rfl), (gm_1 5 rfl rfl), (gm_2 94 rfl rfl), ⟨by decide, by decide, by decide +kernel⟩, by decide⟩
theorem cv_X0_122 : gCV RX0 122 yX1_costOfLength cX1_costOfLength 4 (some .int) 2 1 := ⟨TX1, 5, rfl, (gm_2 95 rfl rfl), (gm_2 96 rfl rfl), (gm_2 97 rfl rfl), (gm_1 4 rfl rfl), (gm_2 98 rfl rfl), ⟨by decide, by decide, by decide +kernel⟩, by decide⟩
theorem cv_X0_134 : gCS RX0 134 yJ9_floorDiv_7cf53 cJ9_floorDiv_7cf53 3 (some .int) 2 := ⟨(gm_2 108 rfl rfl), (gm_2 109 rfl rfl), (gm_1 10 rfl rfl), (gm_2 110 rfl rfl), ⟨by decide, by decide, by decide +kernel⟩, by decide⟩
theorem ldc_X0_125 : Cond.constant RX0 125 (-100000) ∈ gAll := (gm_2 103 rfl rfl)
/-! ===== the laying forward ===== -/
def gPc (s : gS) (k : Int) : Prop := (0 ≤ s.1 k 2 ∧ s.1 k 2 ≤ 24) ∧ ∀ i : Int, 0 ≤ i → i < s.1 k 2 → (0 ≤ s.2 (k + 10) i ∧ s.2 (k + 10) i ≤ 4800) ∧ (1 ≤ s.2 (k + 20) i ∧ s.2 (k + 20) i ≤ 8)
def gBr (s : gS) (k e : Int) : Prop := ∀ i : Int, 0 ≤ i → i ≤ e → 0 ≤ s.2 k i ∧ s.2 k i ≤ 1000000000
def gCst (M : Nat → Int) (rd pt bt : Int → Int) (k i t : Int) : Int := gsum (fun q => grc (M 1) (rd (i + q)) (pt k)) t + gsc (M 0) (M 2) (M 3) t (bt k)
def gDP (M : Nat → Int) (rd pt bt : Int → Int) (n all : Int) (B : Int → Int → Int) : Prop :=
  (∀ i : Int, 0 ≤ i → i ≤ all → B n i = if i = all then 0 else 1000000000) ∧ ∀ k i : Int, 0 ≤ k → k < n → 0 ≤ i → i ≤ all → gMn (fun t => gCst M rd pt bt k i t + B (k + 1) (i + t)) 0 (all - i) (B k i)
def gTk (M : Nat → Int) (rd pt bt : Int → Int) (n all : Int) (B : Int → Int → Int) (pos take : Int → Int) : Prop :=
  pos 0 = 0 ∧ ∀ k : Int, 0 ≤ k → k < n → (0 ≤ take k ∧ take k ≤ all - pos k) ∧ pos (k + 1) = pos k + take k ∧ gCst M rd pt bt k (pos k) (take k) + B (k + 1) (pos k + take k) = B k (pos k) ∧ ∀ t : Int, 0 ≤ t → t < take k → gCst M rd pt bt k (pos k) t + B (k + 1) (pos k + t) ≠ B k (pos k)
def gDPs (s : gS) (k1 k2 : Int) : Prop := gDP (s.1 3) (s.2 (k2 + 10)) (s.2 (k1 + 10)) (s.2 (k1 + 20)) (s.1 k1 2) (s.1 k2 1) (fun k i => s.2 (200 + k) i)
def gTks (s : gS) (k1 k2 : Int) (pos take : Int → Int) : Prop := gTk (s.1 3) (s.2 (k2 + 10)) (s.2 (k1 + 10)) (s.2 (k1 + 20)) (s.1 k1 2) (s.1 k2 1) (fun k i => s.2 (200 + k) i) pos take
def gTaken (s : gS) (k1 k2 k i v : Int) : Prop := (0 ≤ v ∧ v ≤ s.1 k2 1 - i) ∧ (∀ t : Int, 0 ≤ t → t < v → gCst (s.1 3) (s.2 (k2 + 10)) (s.2 (k1 + 10)) (s.2 (k1 + 20)) k i t + s.2 (200 + (k + 1)) (i + t) ≠ s.2 (200 + k) i) ∧ (v < s.1 k2 1 - i → gCst (s.1 3) (s.2 (k2 + 10)) (s.2 (k1 + 10)) (s.2 (k1 + 20)) k i v + s.2 (200 + (k + 1)) (i + v) = s.2 (200 + k) i)
def gof (rd : Int → Int) (p t : Int) : Int := if gsum (fun q => if rd q = -1 then 0 else 1) t = 0 then -100000 else gsum (fun q => if rd q = -1 then 0 else rd q - p) t / gsum (fun q => if rd q = -1 then 0 else 1) t
def gSp (s : gS) (k2 k : Int) : Prop := (0 ≤ s.2 10 k ∧ s.2 10 k ≤ 120) ∧ (s.2 10 k = 0 ∨ (0 ≤ s.2 9 k ∧ s.2 9 k + s.2 10 k ≤ s.1 k2 1))
def glst (off : Int → Int) (k : Int) : Int := giter (fun i a => if off i = -100000 then a else off i) 0 k
def gfrs (off : Int → Int) (k : Int) : Int := giter (fun i a => if off i = -100000 then a else if a = -100000 then off i else a) (-100000) k
def gflt (off take : Int → Int) (ear k : Int) : Int := if off k = -100000 then (if take k = 0 then 1 else 0) else gb (ear < gabs (off k - glst off k))
def gsunk (off : Int → Int) (n : Int) : Int := if gfrs off n = -100000 then 0 else gfrs off n - glst off n
def gheard (s t : gS) (k1 k2 ear : Int) : Prop := (∀ (k : Int) (j : Nat), ¬ (k = 4 ∧ (j = 6 ∨ j = 7)) → t.1 k j = s.1 k j) ∧ (∀ k : Int, k ≠ 11 → k ≠ 12 → t.2 k = s.2 k) ∧ (∀ k : Int, 0 ≤ k → k < s.1 k1 2 → t.2 11 k = gof (fun q => s.2 (k2 + 10) (s.2 9 k + q)) (s.2 (k1 + 10) k) (s.2 10 k) ∧ t.2 12 k = gflt (fun k => gof (fun q => s.2 (k2 + 10) (s.2 9 k + q)) (s.2 (k1 + 10) k) (s.2 10 k)) (s.2 10) ear k) ∧ t.1 4 6 = gsunk (fun k => gof (fun q => s.2 (k2 + 10) (s.2 9 k + q)) (s.2 (k1 + 10) k) (s.2 10 k)) (s.1 k1 2) ∧ t.1 4 7 = gsum (fun k => gflt (fun k => gof (fun q => s.2 (k2 + 10) (s.2 9 k + q)) (s.2 (k1 + 10) k) (s.2 10 k)) (s.2 10) ear k) (s.1 k1 2)
theorem gof_bd {rd : Int → Int} {p t : Int} (h0 : 0 ≤ t) (hp : 0 ≤ p ∧ p ≤ 4800) (h : ∀ q : Int, 0 ≤ q → q < t → -1 ≤ rd q ∧ rd q ≤ 4800) : gof rd p t = -100000 ∨ (-4800 ≤ gof rd p t ∧ gof rd p t ≤ 4800) := by
  have hc := gsum_bd (f := fun q => if rd q = -1 then 0 else 1) (n := t) (lo := 0) (hi := 1) h0 (fun q _ _ => by split <;> omega)
  have key := giter_ind (f := fun i a => a + (if rd i = -1 then 0 else rd i - p)) (a := (0 : Int)) (N := t) (fun i a => -4800 * gsum (fun q => if rd q = -1 then 0 else 1) i ≤ a ∧ a ≤ 4800 * gsum (fun q => if rd q = -1 then 0 else 1) i) ⟨by rw [gsum_0]; omega, by rw [gsum_0]; omega⟩ (fun i a i0 i1 ha => by
    have := h i i0 i1
    rw [gsum_s _ i0]
    by_cases e : rd i = -1
    · rw [if_pos e, if_pos e]; omega
    · rw [if_neg e, if_neg e]; omega) t h0 (Int.le_refl t)
  have key' : -4800 * gsum (fun q => if rd q = -1 then 0 else 1) t ≤ gsum (fun q => if rd q = -1 then 0 else rd q - p) t ∧ gsum (fun q => if rd q = -1 then 0 else rd q - p) t ≤ 4800 * gsum (fun q => if rd q = -1 then 0 else 1) t := key
  unfold gof
  generalize gsum (fun q => if rd q = -1 then 0 else 1) t = c at hc key' ⊢
  generalize gsum (fun q => if rd q = -1 then 0 else rd q - p) t = o at key' ⊢
  split
  · exact Or.inl rfl
  · right
    have hc0 : 0 < c := by omega
    exact ⟨Int.le_ediv_of_mul_le hc0 key'.1, Int.ediv_le_of_le_mul hc0 key'.2⟩
theorem gCst_s (M : Nat → Int) (rd pt bt : Int → Int) (k i : Int) : True := trivial
theorem gCst_bd {M : Nat → Int} {rd pt bt : Int → Int} {k i t : Int} (h1 : 1 ≤ M 0 ∧ M 0 ≤ 8) (hh : 0 ≤ M 1 ∧ M 1 ≤ 1000) (h2 : 0 ≤ M 2 ∧ M 2 ≤ 1000) (h3 : 0 ≤ M 3 ∧ M 3 ≤ 10000) (ht : 0 ≤ t ∧ t ≤ 120) (hb : 1 ≤ bt k ∧ bt k ≤ 8) : 0 ≤ gCst M rd pt bt k i t ∧ gCst M rd pt bt k i t ≤ 250000 := by
  have ha := gsum_bd (f := fun q => grc (M 1) (rd (i + q)) (pt k)) (n := t) (lo := 0) (hi := 1000) ht.1 (fun q _ _ => grc_bd hh)
  have hc := gsc_bd (b := bt k) h1 h2 h3 ht hb
  unfold gCst
  omega
set_option maxRecDepth 100000 in
set_option maxHeartbeats 4000000 in
theorem bk_X0_findTaken_0 {X : gX} {G : gG} (hX : gOk X G cX0_findTaken 10 RX0 (some .int) 3) {Q : Int → gS → Prop} (hE : gEnd X G (gPi (fun v s' => Q v s' ∧ gRg s'))) (s : gS) (hs : gRg s) (k1 : Int) (k2 : Int) (x4 : Int) (x5 : Int) (hk1 : 100 ≤ k1 ∧ k1 < 106) (hk2 : 130 ≤ k2 ∧ k2 < 140) (h : gWL X G s 15 [(0, gR G 4), (1, gR G k1), (2, gR G k2), (3, gR G 3), (4, vi x4), (5, vi x5), (6, vi ((s.1 k2 1) - x5)), (7, vi 0), (8, vi 0)] []) : gWL X G s 0 [(0, gR G 4), (1, gR G k1), (2, gR G k2), (3, gR G 3), (4, vi x4), (5, vi x5)] [] := by
  refine g_aload_n hX dX0_findTaken_0 2 rfl ?_
  refine g_getI hX (sh_recording (by omega) (by omega)) 1 rfl fl_X0_57 dX0_findTaken_1 ?_
  refine g_iload hX dX0_findTaken_4 5 rfl ?_
  refine g_isub hX dX0_findTaken_6 ?_
  refine g_istore (loc' := [(6, vi ((s.1 k2 1) - x5)), (0, gR G 4), (1, gR G k1), (2, gR G k2), (3, gR G 3), (4, vi x4), (5, vi x5)]) hX dX0_findTaken_7 (by decide) rfl ?_
  refine g_iconst hX dX0_findTaken_9 ?_
  refine g_istore (loc' := [(7, vi 0), (6, vi ((s.1 k2 1) - x5)), (0, gR G 4), (1, gR G k1), (2, gR G k2), (3, gR G 3), (4, vi x4), (5, vi x5)]) hX dX0_findTaken_10 (by decide) rfl ?_
  refine g_iconst hX dX0_findTaken_12 ?_
  refine g_istore (loc' := [(8, vi 0), (7, vi 0), (6, vi ((s.1 k2 1) - x5)), (0, gR G 4), (1, gR G k1), (2, gR G k2), (3, gR G 3), (4, vi x4), (5, vi x5)]) hX dX0_findTaken_13 (by decide) rfl ?_
  exact g_sub [3, 4, 5, 6, 7, 8, 2, 1, 0] rfl h
set_option maxRecDepth 100000 in
set_option maxHeartbeats 4000000 in
theorem bk_X0_findTaken_15 {X : gX} {G : gG} (hX : gOk X G cX0_findTaken 10 RX0 (some .int) 3) {Q : Int → gS → Prop} (hE : gEnd X G (gPi (fun v s' => Q v s' ∧ gRg s'))) (s : gS) (hs : gRg s) (k1 : Int) (k2 : Int) (x4 : Int) (x5 : Int) (x6 : Int) (x7 : Int) (x8 : Int) (hk1 : 100 ≤ k1 ∧ k1 < 106) (hk2 : 130 ≤ k2 ∧ k2 < 140) (h : (rng x8) ∧ (rng x6) ∧ ((x6 ≤ x8 → Q x6 s) ∧ (x8 < x6 → (0 ≤ x4 ∧ x4 < 24) ∧ (gMs s) ∧ (0 ≤ x8 ∧ x8 ≤ 120) ∧ (1 ≤ (s.2 (k1 + 20) x4) ∧ (s.2 (k1 + 20) x4) ≤ 8) ∧ (0 ≤ (x4 + 1) ∧ (x4 + 1) < 25) ∧ (0 ≤ (x5 + x8) ∧ (x5 + x8) < 121) ∧ (0 ≤ x4 ∧ x4 < 25) ∧ (0 ≤ x5 ∧ x5 < 121) ∧ (rng ((x7 + (gsc (s.1 3 0) (s.1 3 2) (s.1 3 3) x8 (s.2 (k1 + 20) x4))) + (s.2 (200 + (x4 + 1)) (x5 + x8)))) ∧ ((¬ ((x7 + (gsc (s.1 3 0) (s.1 3 2) (s.1 3 3) x8 (s.2 (k1 + 20) x4))) + (s.2 (200 + (x4 + 1)) (x5 + x8))) = (s.2 (200 + x4) x5) → (0 ≤ (x5 + x8) ∧ (x5 + x8) < 120) ∧ (-1 ≤ (s.2 (k2 + 10) (x5 + x8)) ∧ (s.2 (k2 + 10) (x5 + x8)) ≤ 4800) ∧ (0 ≤ (s.2 (k1 + 10) x4) ∧ (s.2 (k1 + 10) x4) ≤ 4800) ∧ gWL X G s 15 [(0, gR G 4), (1, gR G k1), (2, gR G k2), (3, gR G 3), (4, vi x4), (5, vi x5), (6, vi x6), (7, vi (x7 + (grc (s.1 3 1) (s.2 (k2 + 10) (x5 + x8)) (s.2 (k1 + 10) x4)))), (8, vi (x8 + 1))] []) ∧ (((x7 + (gsc (s.1 3 0) (s.1 3 2) (s.1 3 3) x8 (s.2 (k1 + 20) x4))) + (s.2 (200 + (x4 + 1)) (x5 + x8))) = (s.2 (200 + x4) x5) → Q x8 s))))) : gWL X G s 15 [(0, gR G 4), (1, gR G k1), (2, gR G k2), (3, gR G 3), (4, vi x4), (5, vi x5), (6, vi x6), (7, vi x7), (8, vi x8)] [] := by
  refine g_iload hX dX0_findTaken_15 8 rfl ?_
  refine g_iload hX dX0_findTaken_17 6 rfl ?_
  obtain ⟨h1, h⟩ := h
  obtain ⟨h2, h⟩ := h
  refine g_icge (tgt := 106) hX h1 h2 dX0_findTaken_19 (by decide) (fun c3 => ?_) (fun c3 => ?_)
  · replace h := h.1 c3
    refine g_iload hX dX0_findTaken_106 6 rfl ?_
    exact g_iret hX hE dX0_findTaken_108 ⟨h, hs⟩
  · replace h := h.2 (Int.not_le.mp c3)
    refine g_iload hX dX0_findTaken_22 7 rfl ?_
    refine g_aload_n hX dX0_findTaken_24 3 rfl ?_
    refine g_iload hX dX0_findTaken_25 8 rfl ?_
    refine g_aload_n hX dX0_findTaken_27 1 rfl ?_
    refine g_getR hX (sh_piece (by omega) (by omega)) 1 rfl fl_X0_80 dX0_findTaken_28 ?_
    refine g_iload hX dX0_findTaken_31 4 rfl ?_
    obtain ⟨h4, h⟩ := h
    refine g_iald hX (sh_beats (by omega) (by omega)) h4 (by decide) dX0_findTaken_33 ?_
    obtain ⟨h5, h⟩ := h
    obtain ⟨h6, h⟩ := h
    obtain ⟨h7, h⟩ := h
    refine g_cVf (As := [vi x8, vi (s.2 (k1 + 20) x4)]) hX (fun l => c_X1_costOfLength l hX.inj s x8 (s.2 (k1 + 20) x4) hs h5 h6 h7) sh_3 cv_X0_122 (by decide) rfl (Nat.le_of_ble_eq_true rfl) dX0_findTaken_34 rfl (fun g8 => ?_)
    refine g_iadd hX dX0_findTaken_37 ?_
    refine g_aload_n hX dX0_findTaken_38 0 rfl ?_
    refine g_getR hX sh_4 9 rfl fl_X0_42 dX0_findTaken_39 ?_
    refine g_iload hX dX0_findTaken_42 4 rfl ?_
    refine g_iconst hX dX0_findTaken_44 ?_
    refine g_iadd hX dX0_findTaken_45 ?_
    obtain ⟨h9, h⟩ := h
    have k10 := h9
    refine g_aald (kd := 4) (q := (200 + (x4 + 1))) hX sh_13 rfl rfl h9 (by decide) (by show 200 + (((x4 + 1) : Int).toNat : Int) = _; omega) dX0_findTaken_46 ?_
    refine g_iload hX dX0_findTaken_47 5 rfl ?_
    refine g_iload hX dX0_findTaken_49 8 rfl ?_
    refine g_iadd hX dX0_findTaken_51 ?_
    obtain ⟨h11, h⟩ := h
    refine g_iald hX (sh_bestrow (by omega) (by omega)) h11 (by decide) dX0_findTaken_52 ?_
    refine g_iadd hX dX0_findTaken_53 ?_
    refine g_istore (loc' := [(9, vi ((x7 + (gsc (s.1 3 0) (s.1 3 2) (s.1 3 3) x8 (s.2 (k1 + 20) x4))) + (s.2 (200 + (x4 + 1)) (x5 + x8)))), (0, gR G 4), (1, gR G k1), (2, gR G k2), (3, gR G 3), (4, vi x4), (5, vi x5), (6, vi x6), (7, vi x7), (8, vi x8)]) hX dX0_findTaken_54 (by decide) rfl ?_
    refine g_iload hX dX0_findTaken_56 0 rfl ?_
    refine g_aload_n hX dX0_findTaken_58 1 rfl ?_
    refine g_getR hX sh_4 9 rfl fl_X0_42 dX0_findTaken_59 ?_
    refine g_iload hX dX0_findTaken_62 5 rfl ?_
    obtain ⟨h12, h⟩ := h
    have k13 := h12
    refine g_aald (kd := 4) (q := (200 + x4)) hX sh_13 rfl rfl h12 (by decide) (by show 200 + ((x4 : Int).toNat : Int) = _; omega) dX0_findTaken_64 ?_
    refine g_iload hX dX0_findTaken_65 6 rfl ?_
    obtain ⟨h14, h⟩ := h
    refine g_iald hX (sh_bestrow (by omega) (by omega)) h14 (by decide) dX0_findTaken_67 ?_
    obtain ⟨h15, h⟩ := h
    refine g_icne (tgt := 74) hX h15 (hs.2 _ _) dX0_findTaken_68 (by decide) (fun c16 => ?_) (fun c16 => ?_)
    · replace h := h.1 c16
      refine g_iload hX dX0_findTaken_74 8 rfl ?_
      refine g_aload_n hX dX0_findTaken_76 4 rfl ?_
      refine g_aload_n hX dX0_findTaken_77 3 rfl ?_
      refine g_getR hX (sh_recording (by omega) (by omega)) 0 rfl fl_X0_102 dX0_findTaken_78 ?_
      refine g_iload hX dX0_findTaken_81 6 rfl ?_
      refine g_iload hX dX0_findTaken_83 9 rfl ?_
      refine g_iadd hX dX0_findTaken_85 ?_
      obtain ⟨h17, h⟩ := h
      refine g_iald hX (sh_readings (by omega) (by omega)) h17 (by decide) dX0_findTaken_86 ?_
      refine g_aload_n hX dX0_findTaken_87 2 rfl ?_
      refine g_getR hX (sh_piece (by omega) (by omega)) 0 rfl fl_X0_64 dX0_findTaken_88 ?_
      refine g_iload hX dX0_findTaken_91 5 rfl ?_
      refine g_iald hX (sh_pitches (by omega) (by omega)) h4 (by decide) dX0_findTaken_93 ?_
      obtain ⟨h18, h⟩ := h
      obtain ⟨h19, h⟩ := h
      refine g_cVf (As := [vi (s.2 (k2 + 10) (x5 + x8)), vi (s.2 (k1 + 10) x4)]) hX (fun l => c_X1_costOfReading l hX.inj s (s.2 (k2 + 10) (x5 + x8)) (s.2 (k1 + 10) x4) hs h18 h19) sh_3 cv_X0_105 (by decide) rfl (Nat.le_of_ble_eq_true rfl) dX0_findTaken_94 rfl (fun g20 => ?_)
      refine g_iadd hX dX0_findTaken_97 ?_
      refine g_istore (loc' := [(7, vi (x7 + (grc (s.1 3 1) (s.2 (k2 + 10) (x5 + x8)) (s.2 (k1 + 10) x4)))), (9, vi ((x7 + (gsc (s.1 3 0) (s.1 3 2) (s.1 3 3) x8 (s.2 (k1 + 20) x4))) + (s.2 (200 + (x4 + 1)) (x5 + x8)))), (0, gR G 4), (1, gR G k1), (2, gR G k2), (3, gR G 3), (4, vi x4), (5, vi x5), (6, vi x6), (8, vi x8)]) hX dX0_findTaken_98 (by decide) rfl ?_
      refine g_iinc (loc' := [(8, vi (x8 + 1)), (7, vi (x7 + (grc (s.1 3 1) (s.2 (k2 + 10) (x5 + x8)) (s.2 (k1 + 10) x4)))), (9, vi ((x7 + (gsc (s.1 3 0) (s.1 3 2) (s.1 3 3) x8 (s.2 (k1 + 20) x4))) + (s.2 (200 + (x4 + 1)) (x5 + x8)))), (0, gR G 4), (1, gR G k1), (2, gR G k2), (3, gR G 3), (4, vi x4), (5, vi x5), (6, vi x6)]) hX dX0_findTaken_100 9 rfl (by decide) rfl ?_
      refine g_goto (tgt := 15) hX dX0_findTaken_103 (by decide) ?_
      exact g_sub [3, 4, 5, 6, 7, 8, 9, 1, 0] rfl h
    · replace h := h.2 (gnn c16)
      refine g_iload hX dX0_findTaken_71 9 rfl ?_
      exact g_iret hX hE dX0_findTaken_73 ⟨h, hs⟩
set_option maxRecDepth 100000 in
set_option maxHeartbeats 4000000 in
theorem c_X0_findTaken (l : Launch) {G : gG} (hG : gInj G) (s : gS) (k1 : Int) (k2 : Int) (_ : Int) (x4 : Int) (x5 : Int) (p0 : gRg s) (p1 : gMs s) (p2 : 100 ≤ k1 ∧ k1 < 106) (p3 : 130 ≤ k2 ∧ k2 < 140) (p4 : gPc s k1) (p5 : gRd s k2) (p6 : 0 ≤ x4 ∧ x4 < s.1 k1 2) (p7 : 0 ≤ x5 ∧ x5 ≤ s.1 k2 1) (p8 : gBr s (200 + (x4 + 1)) (s.1 k2 1)) : gMet l G yX0_findTaken cX0_findTaken 10 (some .int) 3 [gR G 4, gR G k1, gR G k2, gR G 3, vi x4, vi x5] s (gPi (fun v s' => (gTaken s k1 k2 x4 x5 v ∧ s' = s) ∧ gRg s')) := by
  refine gMet_of (plainFor_of_name (by decide)) hG (Nat.le_of_ble_eq_true rfl) (fun X hX hE => ?_)
  refine bk_X0_findTaken_0 hX hE s p0 k1 k2 x4 x5 p2 p3 ?_
  obtain ⟨m0, m1, m2, m3, m4⟩ := p1
  have hpc := p4.2 x4 p6.1 p6.2
  have hrd := p5.1
  have hps := p4.1
  refine gloop (α := Int) (hi := s.1 k2 1 - x5) (fun i c => 0 ≤ i ∧ c = gsum (fun q => grc (s.1 3 1) (s.2 (k2 + 10) (x5 + q)) (s.2 (k1 + 10) x4)) i ∧ ∀ t : Int, 0 ≤ t → t < i → gCst (s.1 3) (s.2 (k2 + 10)) (s.2 (k1 + 10)) (s.2 (k1 + 20)) x4 x5 t + s.2 (200 + (x4 + 1)) (x5 + t) ≠ s.2 (200 + x4) x5) (fun i c => gWL X G s 15 [(0, gR G 4), (1, gR G k1), (2, gR G k2), (3, gR G 3), (4, vi x4), (5, vi x5), (6, vi (s.1 k2 1 - x5)), (7, vi c), (8, vi i)] []) ?_ ?_ 0 0 (by omega) ⟨by omega, rfl, fun t t0 t1 => by omega⟩
  · intro i c hi ⟨h0, hc, hn⟩ next
    have hF : (c + gsc (s.1 3 0) (s.1 3 2) (s.1 3 3) i (s.2 (k1 + 20) x4)) + s.2 (200 + (x4 + 1)) (x5 + i) = gCst (s.1 3) (s.2 (k2 + 10)) (s.2 (k1 + 10)) (s.2 (k1 + 20)) x4 x5 i + s.2 (200 + (x4 + 1)) (x5 + i) := by
      unfold gCst; rw [hc]
    have hb := gCst_bd (M := s.1 3) (rd := s.2 (k2 + 10)) (pt := s.2 (k1 + 10)) (bt := s.2 (k1 + 20)) (k := x4) (i := x5) (t := i) m0 m1 m2 m3 (by omega) hpc.2
    have hB := p8 (x5 + i) (by omega) (by omega)
    refine bk_X0_findTaken_15 hX hE s p0 k1 k2 x4 x5 _ c i p2 p3 ⟨rng_of (by omega) (by omega), rng_of (by omega) (by omega), fun h => by omega, fun _ => ⟨by omega, ⟨m0, m1, m2, m3, m4⟩, by omega, hpc.2, by omega, by omega, by omega, by omega, by rw [hF]; exact rng_of (by omega) (by omega), fun h => ⟨by omega, p5.2 _ (by omega) (by omega), hpc.1, next _ ⟨by omega, by rw [gsum_s _ h0, hc], fun t t0 t1 => ?_⟩⟩, fun h => ⟨⟨by omega, hn, fun _ => ?_⟩, rfl⟩⟩⟩
    · by_cases e : t = i
      · subst e; rw [← hF]; exact h
      · exact hn t t0 (by omega)
    · rw [← hF]; exact h
  · intro c ⟨h0, hc, hn⟩
    exact bk_X0_findTaken_15 hX hE s p0 k1 k2 x4 x5 _ c _ p2 p3 ⟨rng_of (by omega) (by omega), rng_of (by omega) (by omega), fun _ => ⟨⟨by omega, hn, fun h => by omega⟩, rfl⟩, fun h => by omega⟩
set_option maxRecDepth 100000 in
set_option maxHeartbeats 4000000 in
theorem bk_X0_layForward_0 {X : gX} {G : gG} (hX : gOk X G cX0_layForward 7 RX0 none 4) {Q : gS → Prop} (hE : gEnd X G (gPv (fun s' => Q s' ∧ gRg s'))) (s : gS) (hs : gRg s) (k1 : Int) (k2 : Int) (hk1 : 100 ≤ k1 ∧ k1 < 106) (hk2 : 130 ≤ k2 ∧ k2 < 140) (h : gWL X G s 6 [(0, gR G 4), (1, gR G k1), (2, gR G k2), (3, gR G 3), (4, vi 0), (5, vi 0)] []) : gWL X G s 0 [(0, gR G 4), (1, gR G k1), (2, gR G k2), (3, gR G 3)] [] := by
  refine g_iconst hX dX0_layForward_0 ?_
  refine g_istore (loc' := [(4, vi 0), (0, gR G 4), (1, gR G k1), (2, gR G k2), (3, gR G 3)]) hX dX0_layForward_1 (by decide) rfl ?_
  refine g_iconst hX dX0_layForward_3 ?_
  refine g_istore (loc' := [(5, vi 0), (4, vi 0), (0, gR G 4), (1, gR G k1), (2, gR G k2), (3, gR G 3)]) hX dX0_layForward_4 (by decide) rfl ?_
  exact g_sub [2, 3, 4, 5, 1, 0] rfl h
set_option maxRecDepth 100000 in
set_option maxHeartbeats 4000000 in
theorem bk_X0_layForward_6 {X : gX} {G : gG} (hX : gOk X G cX0_layForward 7 RX0 none 4) {Q : gS → Prop} (hE : gEnd X G (gPv (fun s' => Q s' ∧ gRg s'))) (s : gS) (hs : gRg s) (k1 : Int) (k2 : Int) (x4 : Int) (x5 : Int) (hk1 : 100 ≤ k1 ∧ k1 < 106) (hk2 : 130 ≤ k2 ∧ k2 < 140) (h : (rng x5) ∧ (((s.1 4 4) ≤ x5 → Q s) ∧ (x5 < (s.1 4 4) → (gMs s) ∧ (100 ≤ k1 ∧ k1 < 106) ∧ (130 ≤ k2 ∧ k2 < 140) ∧ (gPc s k1) ∧ (gRd s k2) ∧ (0 ≤ x5 ∧ x5 < s.1 k1 2) ∧ (0 ≤ x4 ∧ x4 ≤ s.1 k2 1) ∧ (gBr s (200 + (x5 + 1)) (s.1 k2 1)) ∧ (∀ (v13 : Int) (s11 : gS), ((gTaken s k1 k2 x5 x4 v13 ∧ s11 = s) ∧ gRg s11) → (rng v13) ∧ ((¬ v13 = 0 → (0 ≤ x5 ∧ x5 < 24) ∧ (rng x4) ∧ gWL X G (gpA (gpA s11 9 x5 x4) 10 x5 v13) 6 [(0, gR G 4), (1, gR G k1), (2, gR G k2), (3, gR G 3), (4, vi (x4 + v13)), (5, vi (x5 + 1))] []) ∧ (v13 = 0 → (0 ≤ x5 ∧ x5 < 24) ∧ gWL X G (gpA (gpA s11 9 x5 (-1)) 10 x5 v13) 6 [(0, gR G 4), (1, gR G k1), (2, gR G k2), (3, gR G 3), (4, vi (x4 + v13)), (5, vi (x5 + 1))] [])))))) : gWL X G s 6 [(0, gR G 4), (1, gR G k1), (2, gR G k2), (3, gR G 3), (4, vi x4), (5, vi x5)] [] := by
  refine g_iload hX dX0_layForward_6 5 rfl ?_
  refine g_aload_n hX dX0_layForward_8 0 rfl ?_
  refine g_getI hX sh_4 4 rfl fl_X0_24 dX0_layForward_9 ?_
  obtain ⟨h1, h⟩ := h
  refine g_icge (tgt := 68) hX h1 (hs.1 _ _) dX0_layForward_12 (by decide) (fun c2 => ?_) (fun c2 => ?_)
  · replace h := h.1 c2
    exact g_vret hX hE dX0_layForward_68 ⟨h, hs⟩
  · replace h := h.2 (Int.not_le.mp c2)
    refine g_aload_n hX dX0_layForward_15 0 rfl ?_
    refine g_aload_n hX dX0_layForward_16 1 rfl ?_
    refine g_aload_n hX dX0_layForward_17 2 rfl ?_
    refine g_aload_n hX dX0_layForward_18 3 rfl ?_
    refine g_iload hX dX0_layForward_19 5 rfl ?_
    refine g_iload hX dX0_layForward_21 4 rfl ?_
    obtain ⟨h3, h⟩ := h
    obtain ⟨h4, h⟩ := h
    obtain ⟨h5, h⟩ := h
    obtain ⟨h6, h⟩ := h
    obtain ⟨h7, h⟩ := h
    obtain ⟨h8, h⟩ := h
    obtain ⟨h9, h⟩ := h
    obtain ⟨h10, h⟩ := h
    refine g_cVr (As := [gR G k1, gR G k2, gR G 3, vi x5, vi x4]) hX (fun l => c_X0_findTaken l hX.inj s k1 k2 3 x5 x4 hs h3 h4 h5 h6 h7 h8 h9 h10) sh_4 cv_X0_118 (by decide) rfl (Nat.le_of_ble_eq_true rfl) dX0_layForward_23 rfl (fun v13 s11 q12 => ?_)
    replace h := h v13 s11 q12
    have rs11 : gRg s11 := q12.2
    refine g_istore (loc' := [(6, vi v13), (0, gR G 4), (1, gR G k1), (2, gR G k2), (3, gR G 3), (4, vi x4), (5, vi x5)]) hX dX0_layForward_26 (by decide) rfl ?_
    refine g_aload_n hX dX0_layForward_28 1 rfl ?_
    refine g_getR hX sh_4 0 rfl fl_X0_9 dX0_layForward_29 ?_
    refine g_iload hX dX0_layForward_32 6 rfl ?_
    refine g_iload hX dX0_layForward_34 0 rfl ?_
    obtain ⟨h14, h⟩ := h
    refine g_ifne (tgt := 43) hX h14 dX0_layForward_36 (by decide) (fun c15 => ?_) (fun c15 => ?_)
    · replace h := h.1 c15
      refine g_iload hX dX0_layForward_43 5 rfl ?_
      obtain ⟨h16, h⟩ := h
      obtain ⟨h17, h⟩ := h
      refine g_iast hX sh_9 h16 (by decide) dX0_layForward_45 ?_
      refine g_aload_n hX dX0_layForward_46 1 rfl ?_
      refine g_getR hX sh_4 1 rfl fl_X0_15 dX0_layForward_47 ?_
      refine g_iload hX dX0_layForward_50 6 rfl ?_
      refine g_iload hX dX0_layForward_52 0 rfl ?_
      refine g_iast hX sh_10 h16 (by decide) dX0_layForward_54 ?_
      refine g_iload hX dX0_layForward_55 5 rfl ?_
      refine g_iload hX dX0_layForward_57 0 rfl ?_
      refine g_iadd hX dX0_layForward_59 ?_
      refine g_istore (loc' := [(4, vi (x4 + v13)), (6, vi v13), (0, gR G 4), (1, gR G k1), (2, gR G k2), (3, gR G 3), (5, vi x5)]) hX dX0_layForward_60 (by decide) rfl ?_
      refine g_iinc (loc' := [(5, vi (x5 + 1)), (4, vi (x4 + v13)), (6, vi v13), (0, gR G 4), (1, gR G k1), (2, gR G k2), (3, gR G 3)]) hX dX0_layForward_62 6 rfl (by decide) rfl ?_
      refine g_goto (tgt := 6) hX dX0_layForward_65 (by decide) ?_
      exact g_sub [3, 4, 5, 6, 1, 0] rfl h
    · replace h := h.2 (gnn c15)
      refine g_iconst hX dX0_layForward_39 ?_
      refine g_goto (tgt := 45) hX dX0_layForward_40 (by decide) ?_
      obtain ⟨h18, h⟩ := h
      refine g_iast hX sh_9 h18 (by decide) dX0_layForward_45 ?_
      refine g_aload_n hX dX0_layForward_46 1 rfl ?_
      refine g_getR hX sh_4 1 rfl fl_X0_15 dX0_layForward_47 ?_
      refine g_iload hX dX0_layForward_50 6 rfl ?_
      refine g_iload hX dX0_layForward_52 0 rfl ?_
      refine g_iast hX sh_10 h18 (by decide) dX0_layForward_54 ?_
      refine g_iload hX dX0_layForward_55 5 rfl ?_
      refine g_iload hX dX0_layForward_57 0 rfl ?_
      refine g_iadd hX dX0_layForward_59 ?_
      refine g_istore (loc' := [(4, vi (x4 + v13)), (6, vi v13), (0, gR G 4), (1, gR G k1), (2, gR G k2), (3, gR G 3), (5, vi x5)]) hX dX0_layForward_60 (by decide) rfl ?_
      refine g_iinc (loc' := [(5, vi (x5 + 1)), (4, vi (x4 + v13)), (6, vi v13), (0, gR G 4), (1, gR G k1), (2, gR G k2), (3, gR G 3)]) hX dX0_layForward_62 6 rfl (by decide) rfl ?_
      refine g_goto (tgt := 6) hX dX0_layForward_65 (by decide) ?_
      exact g_sub [3, 4, 5, 6, 1, 0] rfl h
set_option maxRecDepth 100000 in
set_option maxHeartbeats 4000000 in
theorem c_X0_layForward (l : Launch) {G : gG} (hG : gInj G) (s : gS) (k1 : Int) (k2 : Int) (_ : Int) (p0 : gRg s) (p1 : gMs s) (p2 : 100 ≤ k1 ∧ k1 < 106) (p3 : 130 ≤ k2 ∧ k2 < 140) (p4 : gPc s k1) (p5 : gRd s k2) (p6 : s.1 4 4 = s.1 k1 2) (p7 : ∀ k : Int, 0 ≤ k → k < s.1 k1 2 → gBr s (200 + (k + 1)) (s.1 k2 1)) (p8 : gDPs s k1 k2) : gMet l G yX0_layForward cX0_layForward 7 none 4 [gR G 4, gR G k1, gR G k2, gR G 3] s (gPv (fun s' => (goff2 s s' 9 10 ∧ ∃ pos : Int → Int, gTks s k1 k2 pos (s'.2 10) ∧ ∀ k : Int, 0 ≤ k → k < s.1 k1 2 → s'.2 9 k = if s'.2 10 k = 0 then -1 else pos k) ∧ gRg s')) := by
  refine gMet_of (plainFor_of_name (by decide)) hG (Nat.le_of_ble_eq_true rfl) (fun X hX hE => ?_)
  refine bk_X0_layForward_0 hX hE s p0 k1 k2 p2 p3 ?_
  have hps := p4.1
  have hrd := p5.1
  refine gloop (α := gS × (Int → Int)) (hi := s.1 k1 2) (fun k a => 0 ≤ k ∧ gRg a.1 ∧ goff2 s a.1 9 10 ∧ (0 ≤ a.2 k ∧ a.2 k ≤ s.1 k2 1) ∧ gTk (s.1 3) (s.2 (k2 + 10)) (s.2 (k1 + 10)) (s.2 (k1 + 20)) k (s.1 k2 1) (fun k i => s.2 (200 + k) i) a.2 (a.1.2 10) ∧ ∀ q : Int, 0 ≤ q → q < k → a.1.2 9 q = if a.1.2 10 q = 0 then -1 else a.2 q) (fun k a => gWL X G a.1 6 [(0, gR G 4), (1, gR G k1), (2, gR G k2), (3, gR G 3), (4, vi (a.2 k)), (5, vi k)] []) ?_ ?_ 0 (s, fun _ => 0) hps.1 ⟨by omega, p0, goff2.rf _ _ _, by show (0 : Int) ≤ 0 ∧ (0 : Int) ≤ _; omega, ⟨rfl, fun k k0 k1 => by omega⟩, fun q q0 q1 => by omega⟩
  · intro k ⟨t, pos⟩ hk ⟨hk0, hg, ho, hp, htk, hf⟩ next
    dsimp only at hg ho hp htk hf ⊢
    have e1 : t.1 = s.1 := ho.1
    have er : t.2 (k2 + 10) = s.2 (k2 + 10) := ho.2 _ (by omega) (by omega)
    have ep : t.2 (k1 + 10) = s.2 (k1 + 10) := ho.2 _ (by omega) (by omega)
    have eb : t.2 (k1 + 20) = s.2 (k1 + 20) := ho.2 _ (by omega) (by omega)
    have eB : ∀ q : Int, 0 ≤ q → t.2 (200 + q) = s.2 (200 + q) := fun q q0 => ho.2 _ (by omega) (by omega)
    have hMs : gMs t := by unfold gMs; rw [e1]; exact p1
    have hPc : gPc t k1 := by unfold gPc; rw [e1, ep, eb]; exact p4
    have hRd : gRd t k2 := by unfold gRd; rw [e1, er]; exact p5
    have hBr : gBr t (200 + (k + 1)) (t.1 k2 1) := by unfold gBr; rw [e1, eB _ (by omega)]; exact p7 k hk0 hk
    refine bk_X0_layForward_6 hX hE t hg k1 k2 (pos k) k p2 p3 ⟨rng_of (by omega) (by omega), fun h => by rw [e1] at h; omega, fun _ => ⟨hMs, p2, p3, hPc, hRd, by rw [e1]; omega, by rw [e1]; exact hp, hBr, fun v u hu => ?_⟩⟩
    obtain ⟨⟨hv, rfl⟩, -⟩ := hu
    obtain ⟨hv1, hv2, hv3⟩ := hv
    rw [e1, er, ep, eb, eB _ (by omega), eB _ hk0] at hv2 hv3
    rw [e1] at hv1
    have hmn := p8.2 k (pos k) hk0 hk hp.1 hp.2
    have hlast : gCst (s.1 3) (s.2 (k2 + 10)) (s.2 (k1 + 10)) (s.2 (k1 + 20)) k (pos k) v + s.2 (200 + (k + 1)) (pos k + v) = s.2 (200 + k) (pos k) := by
      rcases Int.lt_or_le v (s.1 k2 1 - pos k) with q | q
      · exact hv3 q
      · obtain ⟨⟨j, j1, j2, j3⟩, -⟩ := hmn
        rcases Int.lt_or_le j v with z | z
        · exact absurd j3.symm (hv2 j j1 z)
        · have ej : j = v := by omega
          rw [ej] at j3
          exact j3.symm
    -- the next state, for both ways
    have hnext : ∀ f : Int, rng f → f = (if v = 0 then -1 else pos k) → gWL X G (gpA (gpA u 9 k f) 10 k v) 6 [(0, gR G 4), (1, gR G k1), (2, gR G k2), (3, gR G 3), (4, vi (pos k + v)), (5, vi (k + 1))] [] := by
      intro f hfr hfe
      have hz := next (gpA (gpA u 9 k f) 10 k v, fun q => if q = k + 1 then pos k + v else pos q) ⟨by omega, gRg_A (gRg_A hg hfr) (rng_of (by omega) (by omega)), (ho.put1 _ _).put2 _ _, by show 0 ≤ (if k + 1 = k + 1 then pos k + v else _) ∧ (if k + 1 = k + 1 then pos k + v else _) ≤ _; rw [if_pos rfl]; omega, ⟨?_, fun q q0 q1 => ?_⟩, fun q q0 q1 => ?_⟩
      · have ez : (fun q => if q = k + 1 then pos k + v else pos q) (k + 1) = pos k + v := if_pos rfl
        dsimp only at hz ez
        rw [ez] at hz
        exact hz
      · show (if (0 : Int) = k + 1 then pos k + v else pos 0) = 0
        rw [if_neg (by omega)]; exact htk.1
      · show (0 ≤ (gpA (gpA u 9 k f) 10 k v).2 10 q ∧ (gpA (gpA u 9 k f) 10 k v).2 10 q ≤ s.1 k2 1 - (if q = k + 1 then pos k + v else pos q)) ∧ (if q + 1 = k + 1 then pos k + v else pos (q + 1)) = (if q = k + 1 then pos k + v else pos q) + (gpA (gpA u 9 k f) 10 k v).2 10 q ∧ gCst (s.1 3) (s.2 (k2 + 10)) (s.2 (k1 + 10)) (s.2 (k1 + 20)) q (if q = k + 1 then pos k + v else pos q) ((gpA (gpA u 9 k f) 10 k v).2 10 q) + s.2 (200 + (q + 1)) ((if q = k + 1 then pos k + v else pos q) + (gpA (gpA u 9 k f) 10 k v).2 10 q) = s.2 (200 + q) (if q = k + 1 then pos k + v else pos q) ∧ ∀ t : Int, 0 ≤ t → t < (gpA (gpA u 9 k f) 10 k v).2 10 q → gCst (s.1 3) (s.2 (k2 + 10)) (s.2 (k1 + 10)) (s.2 (k1 + 20)) q (if q = k + 1 then pos k + v else pos q) t + s.2 (200 + (q + 1)) ((if q = k + 1 then pos k + v else pos q) + t) ≠ s.2 (200 + q) (if q = k + 1 then pos k + v else pos q)
        rw [if_neg (by omega : ¬ q = k + 1)]
        by_cases e : q = k
        · subst e
          rw [gpA_eq, if_pos rfl]
          exact ⟨by omega, rfl, hlast, hv2⟩
        · rw [gpA_ni e, gpA_nk (by decide), if_neg (by omega)]
          exact htk.2 q q0 (by omega)
      · show (gpA (gpA u 9 k f) 10 k v).2 9 q = if (gpA (gpA u 9 k f) 10 k v).2 10 q = 0 then -1 else (if q = k + 1 then pos k + v else pos q)
        rw [if_neg (by omega : ¬ q = k + 1), gpA_nk (by decide)]
        by_cases e : q = k
        · subst e
          rw [gpA_eq, gpA_eq]; exact hfe
        · rw [gpA_ni e, gpA_ni e, gpA_nk (by decide)]
          exact hf q q0 (by omega)
    refine ⟨rng_of (by omega) (by omega), fun h => ⟨by omega, rng_of (by omega) (by omega), hnext _ (rng_of (by omega) (by omega)) (by rw [if_neg h])⟩, fun h => ⟨by omega, hnext _ (rng_of (by omega) (by omega)) (by rw [if_pos h])⟩⟩
  · intro ⟨t, pos⟩ ⟨hk0, hg, ho, hp, htk, hf⟩
    dsimp only at hg ho hp htk hf ⊢
    exact bk_X0_layForward_6 hX hE t hg k1 k2 (pos (s.1 k1 2)) (s.1 k1 2) p2 p3 ⟨rng_of (by omega) (by omega), fun _ => ⟨ho, pos, htk, hf⟩, fun h => by rw [ho.1] at h; omega⟩
set_option maxRecDepth 100000 in
set_option maxHeartbeats 4000000 in
theorem bk_X0_findOff_0 {X : gX} {G : gG} (hX : gOk X G cX0_findOff 8 RX0 (some .int) 2) {Q : Int → gS → Prop} (hE : gEnd X G (gPi (fun v s' => Q v s' ∧ gRg s'))) (s : gS) (hs : gRg s) (k1 : Int) (x2 : Int) (x3 : Int) (hk1 : 130 ≤ k1 ∧ k1 < 140) (h : gWL X G s 9 [(0, gR G 4), (1, gR G k1), (2, vi x2), (3, vi x3), (4, vi 0), (5, vi 0), (6, vi 0)] []) : gWL X G s 0 [(0, gR G 4), (1, gR G k1), (2, vi x2), (3, vi x3)] [] := by
  refine g_iconst hX dX0_findOff_0 ?_
  refine g_istore (loc' := [(4, vi 0), (0, gR G 4), (1, gR G k1), (2, vi x2), (3, vi x3)]) hX dX0_findOff_1 (by decide) rfl ?_
  refine g_iconst hX dX0_findOff_3 ?_
  refine g_istore (loc' := [(5, vi 0), (4, vi 0), (0, gR G 4), (1, gR G k1), (2, vi x2), (3, vi x3)]) hX dX0_findOff_4 (by decide) rfl ?_
  refine g_iconst hX dX0_findOff_6 ?_
  refine g_istore (loc' := [(6, vi 0), (5, vi 0), (4, vi 0), (0, gR G 4), (1, gR G k1), (2, vi x2), (3, vi x3)]) hX dX0_findOff_7 (by decide) rfl ?_
  exact g_sub [3, 4, 5, 6, 2, 1, 0] rfl h
set_option maxRecDepth 100000 in
set_option maxHeartbeats 4000000 in
theorem bk_X0_findOff_9 {X : gX} {G : gG} (hX : gOk X G cX0_findOff 8 RX0 (some .int) 2) {Q : Int → gS → Prop} (hE : gEnd X G (gPi (fun v s' => Q v s' ∧ gRg s'))) (s : gS) (hs : gRg s) (k1 : Int) (x2 : Int) (x3 : Int) (x4 : Int) (x5 : Int) (x6 : Int) (hk1 : 130 ≤ k1 ∧ k1 < 140) (h : (0 ≤ x2 ∧ x2 < 24) ∧ (rng x6) ∧ (((s.2 10 x2) ≤ x6 → (rng x4) ∧ ((¬ x4 = 0 → (rng x5) ∧ (0 < x4) ∧ Q (x5 / x4) s) ∧ (x4 = 0 → Q (-100000) s))) ∧ (x6 < (s.2 10 x2) → (0 ≤ ((s.2 9 x2) + x6) ∧ ((s.2 9 x2) + x6) < 120) ∧ (((s.2 (k1 + 10) ((s.2 9 x2) + x6)) = (-1) → gWL X G s 9 [(0, gR G 4), (1, gR G k1), (2, vi x2), (3, vi x3), (4, vi x4), (5, vi x5), (6, vi (x6 + 1))] []) ∧ (¬ ((s.2 (k1 + 10) ((s.2 9 x2) + x6)) = (-1)) → gWL X G s 9 [(0, gR G 4), (1, gR G k1), (2, vi x2), (3, vi x3), (4, vi (x4 + 1)), (5, vi (x5 + ((s.2 (k1 + 10) ((s.2 9 x2) + x6)) - x3))), (6, vi (x6 + 1))] []))))) : gWL X G s 9 [(0, gR G 4), (1, gR G k1), (2, vi x2), (3, vi x3), (4, vi x4), (5, vi x5), (6, vi x6)] [] := by
  refine g_iload hX dX0_findOff_9 6 rfl ?_
  refine g_aload_n hX dX0_findOff_11 0 rfl ?_
  refine g_getR hX sh_4 1 rfl fl_X0_15 dX0_findOff_12 ?_
  refine g_iload_n hX dX0_findOff_15 2 rfl ?_
  obtain ⟨h1, h⟩ := h
  refine g_iald hX sh_10 h1 (by decide) dX0_findOff_16 ?_
  obtain ⟨h2, h⟩ := h
  refine g_icge (tgt := 60) hX h2 (hs.2 _ _) dX0_findOff_17 (by decide) (fun c3 => ?_) (fun c3 => ?_)
  · replace h := h.1 c3
    refine g_iload hX dX0_findOff_60 4 rfl ?_
    obtain ⟨h4, h⟩ := h
    refine g_ifne (tgt := 70) hX h4 dX0_findOff_62 (by decide) (fun c5 => ?_) (fun c5 => ?_)
    · replace h := h.1 c5
      refine g_iload hX dX0_findOff_70 5 rfl ?_
      refine g_iload hX dX0_findOff_72 4 rfl ?_
      obtain ⟨h6, h⟩ := h
      obtain ⟨h7, h⟩ := h
      refine g_cSf (As := [vi x5, vi x4]) hX (fun l => c_J9_floorDiv_7cf53 l hX.inj s x5 x4 hs h6 h4 h7) cv_X0_134 (by decide) rfl (Nat.le_of_ble_eq_true rfl) dX0_findOff_74 rfl (fun g8 => ?_)
      exact g_iret hX hE dX0_findOff_77 ⟨h, hs⟩
    · replace h := h.2 (gnn c5)
      refine g_ldc (n := (-100000)) hX ldc_X0_125 dX0_findOff_65 rfl ?_
      refine g_goto (tgt := 77) hX dX0_findOff_67 (by decide) ?_
      exact g_iret hX hE dX0_findOff_77 ⟨h, hs⟩
  · replace h := h.2 (Int.not_le.mp c3)
    refine g_aload_n hX dX0_findOff_20 1 rfl ?_
    refine g_getR hX (sh_recording (by omega) (by omega)) 0 rfl fl_X0_102 dX0_findOff_21 ?_
    refine g_aload_n hX dX0_findOff_24 0 rfl ?_
    refine g_getR hX sh_4 0 rfl fl_X0_9 dX0_findOff_25 ?_
    refine g_iload_n hX dX0_findOff_28 2 rfl ?_
    refine g_iald hX sh_9 h1 (by decide) dX0_findOff_29 ?_
    refine g_iload hX dX0_findOff_30 6 rfl ?_
    refine g_iadd hX dX0_findOff_32 ?_
    obtain ⟨h9, h⟩ := h
    refine g_iald hX (sh_readings (by omega) (by omega)) h9 (by decide) dX0_findOff_33 ?_
    refine g_istore (loc' := [(7, vi (s.2 (k1 + 10) ((s.2 9 x2) + x6))), (0, gR G 4), (1, gR G k1), (2, vi x2), (3, vi x3), (4, vi x4), (5, vi x5), (6, vi x6)]) hX dX0_findOff_34 (by decide) rfl ?_
    refine g_iload hX dX0_findOff_36 0 rfl ?_
    refine g_iconst hX dX0_findOff_38 ?_
    refine g_iceq (tgt := 54) hX (hs.2 _ _) (by unfold rng; omega) dX0_findOff_39 (by decide) (fun c10 => ?_) (fun c10 => ?_)
    · replace h := h.1 c10
      refine g_iinc (loc' := [(6, vi (x6 + 1)), (7, vi (s.2 (k1 + 10) ((s.2 9 x2) + x6))), (0, gR G 4), (1, gR G k1), (2, vi x2), (3, vi x3), (4, vi x4), (5, vi x5)]) hX dX0_findOff_54 7 rfl (by decide) rfl ?_
      refine g_goto (tgt := 9) hX dX0_findOff_57 (by decide) ?_
      exact g_sub [2, 3, 4, 5, 6, 7, 0] rfl h
    · replace h := h.2 c10
      refine g_iinc (loc' := [(4, vi (x4 + 1)), (7, vi (s.2 (k1 + 10) ((s.2 9 x2) + x6))), (0, gR G 4), (1, gR G k1), (2, vi x2), (3, vi x3), (5, vi x5), (6, vi x6)]) hX dX0_findOff_42 5 rfl (by decide) rfl ?_
      refine g_iload hX dX0_findOff_45 6 rfl ?_
      refine g_iload hX dX0_findOff_47 1 rfl ?_
      refine g_iload_n hX dX0_findOff_49 5 rfl ?_
      refine g_isub hX dX0_findOff_50 ?_
      refine g_iadd hX dX0_findOff_51 ?_
      refine g_istore (loc' := [(5, vi (x5 + ((s.2 (k1 + 10) ((s.2 9 x2) + x6)) - x3))), (4, vi (x4 + 1)), (7, vi (s.2 (k1 + 10) ((s.2 9 x2) + x6))), (0, gR G 4), (1, gR G k1), (2, vi x2), (3, vi x3), (6, vi x6)]) hX dX0_findOff_52 (by decide) rfl ?_
      refine g_iinc (loc' := [(6, vi (x6 + 1)), (5, vi (x5 + ((s.2 (k1 + 10) ((s.2 9 x2) + x6)) - x3))), (4, vi (x4 + 1)), (7, vi (s.2 (k1 + 10) ((s.2 9 x2) + x6))), (0, gR G 4), (1, gR G k1), (2, vi x2), (3, vi x3)]) hX dX0_findOff_54 7 rfl (by decide) rfl ?_
      refine g_goto (tgt := 9) hX dX0_findOff_57 (by decide) ?_
      exact g_sub [4, 5, 6, 7, 2, 1, 0] rfl h
set_option maxRecDepth 100000 in
set_option maxHeartbeats 4000000 in
theorem c_X0_findOff (l : Launch) {G : gG} (hG : gInj G) (s : gS) (k1 : Int) (x2 : Int) (x3 : Int) (p0 : gRg s) (p1 : 130 ≤ k1 ∧ k1 < 140) (p2 : 0 ≤ x2 ∧ x2 < 24) (p3 : 0 ≤ x3 ∧ x3 ≤ 4800) (p4 : gRd s k1) (p5 : gSp s k1 x2) : gMet l G yX0_findOff cX0_findOff 8 (some .int) 2 [gR G 4, gR G k1, vi x2, vi x3] s (gPi (fun v s' => (v = (gof (fun q => s.2 (k1 + 10) (s.2 9 x2 + q)) x3 (s.2 10 x2)) ∧ s' = s) ∧ gRg s')) := by
  refine gMet_of (plainFor_of_name (by decide)) hG (Nat.le_of_ble_eq_true rfl) (fun X hX hE => ?_)
  refine bk_X0_findOff_0 hX hE s p0 k1 x2 x3 p1 ?_
  have hrd := p4.1
  obtain ⟨hs1, hs2⟩ := p5
  refine gloop (α := Int × Int) (hi := s.2 10 x2) (fun i a => 0 ≤ i ∧ a.1 = gsum (fun q => if s.2 (k1 + 10) (s.2 9 x2 + q) = -1 then 0 else 1) i ∧ a.2 = gsum (fun q => if s.2 (k1 + 10) (s.2 9 x2 + q) = -1 then 0 else s.2 (k1 + 10) (s.2 9 x2 + q) - x3) i) (fun i a => gWL X G s 9 [(0, gR G 4), (1, gR G k1), (2, vi x2), (3, vi x3), (4, vi a.1), (5, vi a.2), (6, vi i)] []) ?_ ?_ 0 (0, 0) hs1.1 ⟨by omega, rfl, rfl⟩
  · intro i ⟨c, o⟩ hi ⟨h0, hc, ho⟩ next
    dsimp only at hc ho ⊢
    refine bk_X0_findOff_9 hX hE s p0 k1 x2 x3 c o i p1 ⟨p2, rng_of (by omega) (by omega), fun h => by omega, fun _ => ⟨by omega, fun h => next (c, o) ⟨by omega, ?_, ?_⟩, fun h => next (c + 1, o + (s.2 (k1 + 10) (s.2 9 x2 + i) - x3)) ⟨by omega, ?_, ?_⟩⟩⟩
    · show c = _; rw [gsum_s _ h0, if_pos h, hc]; omega
    · show o = _; rw [gsum_s _ h0, if_pos h, ho]; omega
    · show c + 1 = _; rw [gsum_s _ h0, if_neg h, hc]
    · show o + _ = _; rw [gsum_s _ h0, if_neg h, ho]
  · intro ⟨c, o⟩ ⟨h0, hc, ho⟩
    dsimp only at hc ho ⊢
    have hcb := gsum_bd (f := fun q => if s.2 (k1 + 10) (s.2 9 x2 + q) = -1 then 0 else 1) (n := s.2 10 x2) (lo := 0) (hi := 1) hs1.1 (fun q _ _ => by split <;> omega)
    have hob := gsum_bd (f := fun q => if s.2 (k1 + 10) (s.2 9 x2 + q) = -1 then 0 else s.2 (k1 + 10) (s.2 9 x2 + q) - x3) (n := s.2 10 x2) (lo := -4800) (hi := 4800) hs1.1 (fun q q0 q1 => by
      have := p4.2 (s.2 9 x2 + q) (by omega) (by omega)
      split <;> omega)
    rw [← hc] at hcb
    rw [← ho] at hob
    refine bk_X0_findOff_9 hX hE s p0 k1 x2 x3 c o _ p1 ⟨p2, rng_of (by omega) (by omega), fun _ => ⟨rng_of (by omega) (by omega), fun h => ⟨rng_of (by omega) (by omega), by omega, ?_, rfl⟩, fun h => ⟨?_, rfl⟩⟩, fun h => by omega⟩
    · unfold gof; rw [← hc, ← ho, if_neg h]
    · unfold gof; rw [← hc, if_pos h]
end
section
theorem fl_X0_18 : gFL RX0 18 0 2 := ⟨RX0, TX0, 13, tyX0, rfl, by decide, inG_X0, (gm_1 101 rfl rfl), tyX0_ok, nmX0, fun h => absurd h (by decide)⟩
theorem fl_X0_21 : gFL RX0 21 0 3 := ⟨RX0, TX0, 13, tyX0, rfl, by decide, inG_X0, (gm_1 103 rfl rfl), tyX0_ok, nmX0, fun h => absurd h (by decide)⟩
theorem fl_X0_31 : gFL RX0 31 0 6 := ⟨RX0, TX0, 13, tyX0, rfl, by decide, inG_X0, (gm_1 109 rfl rfl), tyX0_ok, nmX0, fun _ => rfl⟩
theorem fl_X0_34 : gFL RX0 34 0 7 := ⟨RX0, TX0, 13, tyX0, rfl, by decide, inG_X0, (gm_1 111 rfl rfl), tyX0_ok, nmX0, fun _ => rfl⟩
theorem cv_X0_126 : gCV RX0 126 yX0_findOff cX0_findOff 8 (some .int) 3 0 := ⟨TX0, 13, rfl, (gm_2 104 rfl rfl), (gm_2 106 rfl rfl), (gm_s 8 rfl rfl), (gm_1 5 rfl rfl), (gm_2 107 rfl rfl), ⟨by decide, by decide, by decide +kernel⟩, by decide⟩
theorem cv_X0_130 : gCS RX0 130 yJ9_abs_0f7a4 cJ9_abs_0f7a4 1 (some .int) 1 := ⟨(gm_2 111 rfl rfl), (gm_2 72 rfl rfl), (gm_1 10 rfl rfl), (gm_2 73 rfl rfl), ⟨by decide, by decide, by decide +kernel⟩, by decide⟩
theorem glst_s (off : Int → Int) {k : Int} (h : 0 ≤ k) : glst off (k + 1) = if off k = -100000 then glst off k else off k := giter_s _ _ h
theorem gfrs_s (off : Int → Int) {k : Int} (h : 0 ≤ k) : gfrs off (k + 1) = if off k = -100000 then gfrs off k else if gfrs off k = -100000 then off k else gfrs off k := giter_s _ _ h
theorem glst_bd {off : Int → Int} {n : Int} (h : ∀ k : Int, 0 ≤ k → k < n → off k = -100000 ∨ (-4800 ≤ off k ∧ off k ≤ 4800)) : ∀ k : Int, 0 ≤ k → k ≤ n → -4800 ≤ glst off k ∧ glst off k ≤ 4800 :=
  giter_ind (f := fun i a => if off i = -100000 then a else off i) (a := (0 : Int)) (N := n) (fun _ a => -4800 ≤ a ∧ a ≤ 4800) ⟨by omega, by omega⟩ (fun i x i0 i1 hx => by
    have := h i i0 i1
    split
    · exact hx
    · omega)
theorem gfrs_bd {off : Int → Int} {n : Int} (h : ∀ k : Int, 0 ≤ k → k < n → off k = -100000 ∨ (-4800 ≤ off k ∧ off k ≤ 4800)) : ∀ k : Int, 0 ≤ k → k ≤ n → gfrs off k = -100000 ∨ (-4800 ≤ gfrs off k ∧ gfrs off k ≤ 4800) :=
  giter_ind (f := fun i a => if off i = -100000 then a else if a = -100000 then off i else a) (a := (-100000 : Int)) (N := n) (fun _ a => a = -100000 ∨ (-4800 ≤ a ∧ a ≤ 4800)) (Or.inl rfl) (fun i x i0 i1 hx => by
    have := h i i0 i1
    split
    · exact hx
    · split
      · exact this
      · exact hx)
theorem gflt_01 (off take : Int → Int) (ear k : Int) : gflt off take ear k = 0 ∨ gflt off take ear k = 1 := by
  unfold gflt
  split
  · split
    · exact Or.inr rfl
    · exact Or.inl rfl
  · exact gb_01 _
set_option maxRecDepth 100000 in
set_option maxHeartbeats 4000000 in
theorem bk_X0_hear_0 {X : gX} {G : gG} (hX : gOk X G cX0_hear 8 RX0 none 3) {Q : gS → Prop} (hE : gEnd X G (gPv (fun s' => Q s' ∧ gRg s'))) (s : gS) (hs : gRg s) (k1 : Int) (k2 : Int) (x3 : Int) (hk1 : 100 ≤ k1 ∧ k1 < 106) (hk2 : 130 ≤ k2 ∧ k2 < 140) (h : gWL X G (gpI s 4 7 0) 15 [(0, gR G 4), (1, gR G k1), (2, gR G k2), (3, vi x3), (4, vi (-100000)), (5, vi 0), (6, vi 0)] []) : gWL X G s 0 [(0, gR G 4), (1, gR G k1), (2, gR G k2), (3, vi x3)] [] := by
  refine g_ldc (n := (-100000)) hX ldc_X0_125 dX0_hear_0 rfl ?_
  refine g_istore (loc' := [(4, vi (-100000)), (0, gR G 4), (1, gR G k1), (2, gR G k2), (3, vi x3)]) hX dX0_hear_2 (by decide) rfl ?_
  refine g_iconst hX dX0_hear_4 ?_
  refine g_istore (loc' := [(5, vi 0), (4, vi (-100000)), (0, gR G 4), (1, gR G k1), (2, gR G k2), (3, vi x3)]) hX dX0_hear_5 (by decide) rfl ?_
  refine g_aload_n hX dX0_hear_7 2 rfl ?_
  refine g_iconst hX dX0_hear_8 ?_
  refine g_putI hX sh_4 7 rfl fl_X0_34 (fun _ _ _ e => by cases e; rfl) dX0_hear_9 ?_
  refine g_iconst hX dX0_hear_12 ?_
  refine g_istore (loc' := [(6, vi 0), (5, vi 0), (4, vi (-100000)), (0, gR G 4), (1, gR G k1), (2, gR G k2), (3, vi x3)]) hX dX0_hear_13 (by decide) rfl ?_
  exact g_sub [3, 4, 5, 6, 2, 1, 0] rfl h
set_option maxRecDepth 100000 in
set_option maxHeartbeats 4000000 in
theorem bk_X0_hear_15 {X : gX} {G : gG} (hX : gOk X G cX0_hear 8 RX0 none 3) {Q : gS → Prop} (hE : gEnd X G (gPv (fun s' => Q s' ∧ gRg s'))) (s : gS) (hs : gRg s) (k1 : Int) (k2 : Int) (x3 : Int) (x4 : Int) (x5 : Int) (x6 : Int) (hk1 : 100 ≤ k1 ∧ k1 < 106) (hk2 : 130 ≤ k2 ∧ k2 < 140) (h : (rng x6) ∧ (((s.1 4 4) ≤ x6 → (rng x4) ∧ ((¬ x4 = (-100000) → (rng (x4 - x5)) ∧ Q (gpI s 4 6 (x4 - x5))) ∧ (x4 = (-100000) → Q (gpI s 4 6 0)))) ∧ (x6 < (s.1 4 4) → (0 ≤ x6 ∧ x6 < 24) ∧ (130 ≤ k2 ∧ k2 < 140) ∧ (0 ≤ (s.2 (k1 + 10) x6) ∧ (s.2 (k1 + 10) x6) ≤ 4800) ∧ (gRd s k2) ∧ (gSp s k2 x6) ∧ (rng (gof (fun q => s.2 (k2 + 10) (s.2 9 x6 + q)) (s.2 (k1 + 10) x6) (s.2 10 x6))) ∧ ((¬ (s.2 10 x6) = 0 → gWL X G (gpA s 11 x6 (gof (fun q => s.2 (k2 + 10) (s.2 9 x6 + q)) (s.2 (k1 + 10) x6) (s.2 10 x6))) 62 [(0, gR G 4), (1, gR G k1), (2, gR G k2), (3, vi x3), (4, vi x4), (5, vi x5), (6, vi x6), (7, vi 0)] []) ∧ ((s.2 10 x6) = 0 → gWL X G (gpA s 11 x6 (gof (fun q => s.2 (k2 + 10) (s.2 9 x6 + q)) (s.2 (k1 + 10) x6) (s.2 10 x6))) 62 [(0, gR G 4), (1, gR G k1), (2, gR G k2), (3, vi x3), (4, vi x4), (5, vi x5), (6, vi x6), (7, vi 1)] []))))) : gWL X G s 15 [(0, gR G 4), (1, gR G k1), (2, gR G k2), (3, vi x3), (4, vi x4), (5, vi x5), (6, vi x6)] [] := by
  refine g_iload hX dX0_hear_15 6 rfl ?_
  refine g_aload_n hX dX0_hear_17 0 rfl ?_
  refine g_getI hX sh_4 4 rfl fl_X0_24 dX0_hear_18 ?_
  obtain ⟨h1, h⟩ := h
  refine g_icge (tgt := 162) hX h1 (hs.1 _ _) dX0_hear_21 (by decide) (fun c2 => ?_) (fun c2 => ?_)
  · replace h := h.1 c2
    refine g_aload_n hX dX0_hear_162 0 rfl ?_
    refine g_iload hX dX0_hear_163 4 rfl ?_
    refine g_ldc (n := (-100000)) hX ldc_X0_125 dX0_hear_165 rfl ?_
    obtain ⟨h3, h⟩ := h
    refine g_icne (tgt := 174) hX h3 (by unfold rng; omega) dX0_hear_167 (by decide) (fun c4 => ?_) (fun c4 => ?_)
    · replace h := h.1 c4
      refine g_iload hX dX0_hear_174 4 rfl ?_
      refine g_iload hX dX0_hear_176 5 rfl ?_
      refine g_isub hX dX0_hear_178 ?_
      obtain ⟨h5, h⟩ := h
      refine g_putI hX sh_4 6 rfl fl_X0_31 (fun _ _ _ e => by cases e; rfl) dX0_hear_179 ?_
      exact g_vret hX hE dX0_hear_182 ⟨h, (gRg_I hs h5)⟩
    · replace h := h.2 (gnn c4)
      refine g_iconst hX dX0_hear_170 ?_
      refine g_goto (tgt := 179) hX dX0_hear_171 (by decide) ?_
      refine g_putI hX sh_4 6 rfl fl_X0_31 (fun _ _ _ e => by cases e; rfl) dX0_hear_179 ?_
      exact g_vret hX hE dX0_hear_182 ⟨h, (gRg_I hs (by unfold rng; omega))⟩
  · replace h := h.2 (Int.not_le.mp c2)
    refine g_aload_n hX dX0_hear_24 0 rfl ?_
    refine g_getR hX sh_4 2 rfl fl_X0_18 dX0_hear_25 ?_
    refine g_iload hX dX0_hear_28 6 rfl ?_
    refine g_aload_n hX dX0_hear_30 0 rfl ?_
    refine g_aload_n hX dX0_hear_31 2 rfl ?_
    refine g_iload hX dX0_hear_32 6 rfl ?_
    refine g_aload_n hX dX0_hear_34 1 rfl ?_
    refine g_getR hX (sh_piece (by omega) (by omega)) 0 rfl fl_X0_64 dX0_hear_35 ?_
    refine g_iload hX dX0_hear_38 6 rfl ?_
    obtain ⟨h6, h⟩ := h
    refine g_iald hX (sh_pitches (by omega) (by omega)) h6 (by decide) dX0_hear_40 ?_
    obtain ⟨h7, h⟩ := h
    obtain ⟨h8, h⟩ := h
    obtain ⟨h9, h⟩ := h
    obtain ⟨h10, h⟩ := h
    refine g_cVf (As := [gR G k2, vi x6, vi (s.2 (k1 + 10) x6)]) hX (fun l => c_X0_findOff l hX.inj s k2 x6 (s.2 (k1 + 10) x6) hs h7 h6 h8 h9 h10) sh_4 cv_X0_126 (by decide) rfl (Nat.le_of_ble_eq_true rfl) dX0_hear_41 rfl (fun g11 => ?_)
    obtain ⟨h12, h⟩ := h
    refine g_iast hX sh_11 h6 (by decide) dX0_hear_44 ?_
    refine g_aload_n hX dX0_hear_45 0 rfl ?_
    refine g_getR hX sh_4 1 rfl fl_X0_15 dX0_hear_46 ?_
    refine g_iload hX dX0_hear_49 6 rfl ?_
    refine g_iald hX sh_10 h6 (by decide) dX0_hear_51 ?_
    refine g_top (gpA_nk (by decide)) ?_
    refine g_ifne (tgt := 59) hX (hs.2 _ _) dX0_hear_52 (by decide) (fun c13 => ?_) (fun c13 => ?_)
    · replace h := h.1 c13
      refine g_iconst hX dX0_hear_59 ?_
      refine g_istore (loc' := [(7, vi 0), (0, gR G 4), (1, gR G k1), (2, gR G k2), (3, vi x3), (4, vi x4), (5, vi x5), (6, vi x6)]) hX dX0_hear_60 (by decide) rfl ?_
      exact g_sub [1, 2, 3, 4, 5, 6, 7, 0] rfl h
    · replace h := h.2 (gnn c13)
      refine g_iconst hX dX0_hear_55 ?_
      refine g_goto (tgt := 60) hX dX0_hear_56 (by decide) ?_
      refine g_istore (loc' := [(7, vi 1), (0, gR G 4), (1, gR G k1), (2, gR G k2), (3, vi x3), (4, vi x4), (5, vi x5), (6, vi x6)]) hX dX0_hear_60 (by decide) rfl ?_
      exact g_sub [1, 2, 3, 4, 5, 6, 7, 0] rfl h
set_option maxRecDepth 100000 in
set_option maxHeartbeats 4000000 in
theorem bk_X0_hear_62 {X : gX} {G : gG} (hX : gOk X G cX0_hear 8 RX0 none 3) {Q : gS → Prop} (hE : gEnd X G (gPv (fun s' => Q s' ∧ gRg s'))) (s : gS) (hs : gRg s) (k1 : Int) (k2 : Int) (x3 : Int) (x4 : Int) (x5 : Int) (x6 : Int) (x7 : Int) (hk1 : 100 ≤ k1 ∧ k1 < 106) (hk2 : 130 ≤ k2 ∧ k2 < 140) (h : (0 ≤ x6 ∧ x6 < 24) ∧ (((s.2 11 x6) = (-100000) → gWL X G s 123 [(0, gR G 4), (1, gR G k1), (2, gR G k2), (3, vi x3), (4, vi x4), (5, vi x5), (6, vi x6), (7, vi x7)] []) ∧ (¬ ((s.2 11 x6) = (-100000)) → (rng ((s.2 11 x6) - x5)) ∧ (rng (gabs ((s.2 11 x6) - x5))) ∧ (rng x3) ∧ (((gabs ((s.2 11 x6) - x5)) ≤ x3 → gWL X G s 98 [(0, gR G 4), (1, gR G k1), (2, gR G k2), (3, vi x3), (4, vi x4), (6, vi x6), (7, vi 0)] []) ∧ (x3 < (gabs ((s.2 11 x6) - x5)) → gWL X G s 98 [(0, gR G 4), (1, gR G k1), (2, gR G k2), (3, vi x3), (4, vi x4), (6, vi x6), (7, vi 1)] []))))) : gWL X G s 62 [(0, gR G 4), (1, gR G k1), (2, gR G k2), (3, vi x3), (4, vi x4), (5, vi x5), (6, vi x6), (7, vi x7)] [] := by
  refine g_aload_n hX dX0_hear_62 0 rfl ?_
  refine g_getR hX sh_4 2 rfl fl_X0_18 dX0_hear_63 ?_
  refine g_iload hX dX0_hear_66 6 rfl ?_
  obtain ⟨h1, h⟩ := h
  refine g_iald hX sh_11 h1 (by decide) dX0_hear_68 ?_
  refine g_ldc (n := (-100000)) hX ldc_X0_125 dX0_hear_69 rfl ?_
  refine g_iceq (tgt := 123) hX (hs.2 _ _) (by unfold rng; omega) dX0_hear_71 (by decide) (fun c2 => ?_) (fun c2 => ?_)
  · replace h := h.1 c2
    exact h
  · replace h := h.2 c2
    refine g_aload_n hX dX0_hear_74 0 rfl ?_
    refine g_getR hX sh_4 2 rfl fl_X0_18 dX0_hear_75 ?_
    refine g_iload hX dX0_hear_78 6 rfl ?_
    refine g_iald hX sh_11 h1 (by decide) dX0_hear_80 ?_
    refine g_iload hX dX0_hear_81 5 rfl ?_
    refine g_isub hX dX0_hear_83 ?_
    obtain ⟨h3, h⟩ := h
    refine g_cSf (As := [vi ((s.2 11 x6) - x5)]) hX (fun l => c_J9_abs_0f7a4 l hX.inj s ((s.2 11 x6) - x5) hs h3) cv_X0_130 (by decide) rfl (Nat.le_of_ble_eq_true rfl) dX0_hear_84 rfl (fun g4 => ?_)
    refine g_iload_n hX dX0_hear_87 3 rfl ?_
    obtain ⟨h5, h⟩ := h
    obtain ⟨h6, h⟩ := h
    refine g_icle (tgt := 95) hX h5 h6 dX0_hear_88 (by decide) (fun c7 => ?_) (fun c7 => ?_)
    · replace h := h.1 c7
      refine g_iconst hX dX0_hear_95 ?_
      refine g_istore (loc' := [(7, vi 0), (0, gR G 4), (1, gR G k1), (2, gR G k2), (3, vi x3), (4, vi x4), (5, vi x5), (6, vi x6)]) hX dX0_hear_96 (by decide) rfl ?_
      exact g_sub [1, 2, 3, 4, 5, 7, 0] rfl h
    · replace h := h.2 (Int.not_le.mp c7)
      refine g_iconst hX dX0_hear_91 ?_
      refine g_goto (tgt := 96) hX dX0_hear_92 (by decide) ?_
      refine g_istore (loc' := [(7, vi 1), (0, gR G 4), (1, gR G k1), (2, gR G k2), (3, vi x3), (4, vi x4), (5, vi x5), (6, vi x6)]) hX dX0_hear_96 (by decide) rfl ?_
      exact g_sub [1, 2, 3, 4, 5, 7, 0] rfl h
set_option maxRecDepth 100000 in
set_option maxHeartbeats 4000000 in
theorem bk_X0_hear_98 {X : gX} {G : gG} (hX : gOk X G cX0_hear 8 RX0 none 3) {Q : gS → Prop} (hE : gEnd X G (gPv (fun s' => Q s' ∧ gRg s'))) (s : gS) (hs : gRg s) (k1 : Int) (k2 : Int) (x3 : Int) (x4 : Int) (x6 : Int) (x7 : Int) (hk1 : 100 ≤ k1 ∧ k1 < 106) (hk2 : 130 ≤ k2 ∧ k2 < 140) (h : (0 ≤ x6 ∧ x6 < 24) ∧ (rng x4) ∧ ((¬ x4 = (-100000) → gWL X G s 123 [(0, gR G 4), (1, gR G k1), (2, gR G k2), (3, vi x3), (4, vi x4), (5, vi (s.2 11 x6)), (6, vi x6), (7, vi x7)] []) ∧ (x4 = (-100000) → gWL X G s 123 [(0, gR G 4), (1, gR G k1), (2, gR G k2), (3, vi x3), (4, vi (s.2 11 x6)), (5, vi (s.2 11 x6)), (6, vi x6), (7, vi x7)] []))) : gWL X G s 98 [(0, gR G 4), (1, gR G k1), (2, gR G k2), (3, vi x3), (4, vi x4), (6, vi x6), (7, vi x7)] [] := by
  refine g_aload_n hX dX0_hear_98 0 rfl ?_
  refine g_getR hX sh_4 2 rfl fl_X0_18 dX0_hear_99 ?_
  refine g_iload hX dX0_hear_102 5 rfl ?_
  obtain ⟨h1, h⟩ := h
  refine g_iald hX sh_11 h1 (by decide) dX0_hear_104 ?_
  refine g_istore (loc' := [(5, vi (s.2 11 x6)), (0, gR G 4), (1, gR G k1), (2, gR G k2), (3, vi x3), (4, vi x4), (6, vi x6), (7, vi x7)]) hX dX0_hear_105 (by decide) rfl ?_
  refine g_iload hX dX0_hear_107 5 rfl ?_
  refine g_ldc (n := (-100000)) hX ldc_X0_125 dX0_hear_109 rfl ?_
  obtain ⟨h2, h⟩ := h
  refine g_icne (tgt := 119) hX h2 (by unfold rng; omega) dX0_hear_111 (by decide) (fun c3 => ?_) (fun c3 => ?_)
  · replace h := h.1 c3
    refine g_iload hX dX0_hear_119 5 rfl ?_
    refine g_istore (loc' := [(4, vi x4), (5, vi (s.2 11 x6)), (0, gR G 4), (1, gR G k1), (2, gR G k2), (3, vi x3), (6, vi x6), (7, vi x7)]) hX dX0_hear_121 (by decide) rfl ?_
    exact g_sub [2, 3, 4, 5, 0, 1, 6, 7] rfl h
  · replace h := h.2 (gnn c3)
    refine g_iload hX dX0_hear_114 0 rfl ?_
    refine g_goto (tgt := 121) hX dX0_hear_116 (by decide) ?_
    refine g_istore (loc' := [(4, vi (s.2 11 x6)), (5, vi (s.2 11 x6)), (0, gR G 4), (1, gR G k1), (2, gR G k2), (3, vi x3), (6, vi x6), (7, vi x7)]) hX dX0_hear_121 (by decide) rfl ?_
    exact g_sub [2, 3, 4, 5, 0, 1, 6, 7] rfl h
set_option maxRecDepth 100000 in
set_option maxHeartbeats 4000000 in
theorem bk_X0_hear_123 {X : gX} {G : gG} (hX : gOk X G cX0_hear 8 RX0 none 3) {Q : gS → Prop} (hE : gEnd X G (gPv (fun s' => Q s' ∧ gRg s'))) (s : gS) (hs : gRg s) (k1 : Int) (k2 : Int) (x3 : Int) (x4 : Int) (x5 : Int) (x6 : Int) (x7 : Int) (hk1 : 100 ≤ k1 ∧ k1 < 106) (hk2 : 130 ≤ k2 ∧ k2 < 140) (h : (rng x7) ∧ ((x7 = 0 → (0 ≤ x6 ∧ x6 < 24) ∧ (rng ((s.1 4 7) + 0)) ∧ gWL X G (gpI (gpA s 12 x6 0) 4 7 ((s.1 4 7) + 0)) 15 [(0, gR G 4), (1, gR G k1), (2, gR G k2), (3, vi x3), (4, vi x4), (5, vi x5), (6, vi (x6 + 1))] []) ∧ (¬ (x7 = 0) → (0 ≤ x6 ∧ x6 < 24) ∧ (rng ((s.1 4 7) + 1)) ∧ gWL X G (gpI (gpA s 12 x6 1) 4 7 ((s.1 4 7) + 1)) 15 [(0, gR G 4), (1, gR G k1), (2, gR G k2), (3, vi x3), (4, vi x4), (5, vi x5), (6, vi (x6 + 1))] []))) : gWL X G s 123 [(0, gR G 4), (1, gR G k1), (2, gR G k2), (3, vi x3), (4, vi x4), (5, vi x5), (6, vi x6), (7, vi x7)] [] := by
  refine g_aload_n hX dX0_hear_123 0 rfl ?_
  refine g_getR hX sh_4 3 rfl fl_X0_21 dX0_hear_124 ?_
  refine g_iload hX dX0_hear_127 6 rfl ?_
  refine g_iload hX dX0_hear_129 7 rfl ?_
  obtain ⟨h1, h⟩ := h
  refine g_ifeq (tgt := 138) hX h1 dX0_hear_131 (by decide) (fun c2 => ?_) (fun c2 => ?_)
  · replace h := h.1 c2
    refine g_iconst hX dX0_hear_138 ?_
    obtain ⟨h3, h⟩ := h
    refine g_iast hX sh_12 h3 (by decide) dX0_hear_139 ?_
    refine g_aload_n hX dX0_hear_140 0 rfl ?_
    refine g_dup hX rfl dX0_hear_141 ?_
    refine g_getI hX sh_4 7 rfl fl_X0_34 dX0_hear_142 ?_
    refine g_aload_n hX dX0_hear_145 0 rfl ?_
    refine g_getR hX sh_4 3 rfl fl_X0_21 dX0_hear_146 ?_
    refine g_iload hX dX0_hear_149 6 rfl ?_
    refine g_iald hX sh_12 h3 (by decide) dX0_hear_151 ?_
    refine g_top gpA_eq ?_
    refine g_iadd hX dX0_hear_152 ?_
    obtain ⟨h4, h⟩ := h
    refine g_putI hX sh_4 7 rfl fl_X0_34 (fun _ _ _ e => by cases e; rfl) dX0_hear_153 ?_
    refine g_iinc (loc' := [(6, vi (x6 + 1)), (0, gR G 4), (1, gR G k1), (2, gR G k2), (3, vi x3), (4, vi x4), (5, vi x5), (7, vi x7)]) hX dX0_hear_156 6 rfl (by decide) rfl ?_
    refine g_goto (tgt := 15) hX dX0_hear_159 (by decide) ?_
    exact g_sub [1, 2, 3, 4, 5, 6, 0] rfl h
  · replace h := h.2 c2
    refine g_iconst hX dX0_hear_134 ?_
    refine g_goto (tgt := 139) hX dX0_hear_135 (by decide) ?_
    obtain ⟨h5, h⟩ := h
    refine g_iast hX sh_12 h5 (by decide) dX0_hear_139 ?_
    refine g_aload_n hX dX0_hear_140 0 rfl ?_
    refine g_dup hX rfl dX0_hear_141 ?_
    refine g_getI hX sh_4 7 rfl fl_X0_34 dX0_hear_142 ?_
    refine g_aload_n hX dX0_hear_145 0 rfl ?_
    refine g_getR hX sh_4 3 rfl fl_X0_21 dX0_hear_146 ?_
    refine g_iload hX dX0_hear_149 6 rfl ?_
    refine g_iald hX sh_12 h5 (by decide) dX0_hear_151 ?_
    refine g_top gpA_eq ?_
    refine g_iadd hX dX0_hear_152 ?_
    obtain ⟨h6, h⟩ := h
    refine g_putI hX sh_4 7 rfl fl_X0_34 (fun _ _ _ e => by cases e; rfl) dX0_hear_153 ?_
    refine g_iinc (loc' := [(6, vi (x6 + 1)), (0, gR G 4), (1, gR G k1), (2, gR G k2), (3, vi x3), (4, vi x4), (5, vi x5), (7, vi x7)]) hX dX0_hear_156 6 rfl (by decide) rfl ?_
    refine g_goto (tgt := 15) hX dX0_hear_159 (by decide) ?_
    exact g_sub [1, 2, 3, 4, 5, 6, 0] rfl h
set_option maxRecDepth 100000 in
set_option maxHeartbeats 4000000 in
theorem c_X0_hear (l : Launch) {G : gG} (hG : gInj G) (s : gS) (k1 : Int) (k2 : Int) (x3 : Int) (p0 : gRg s) (p1 : 100 ≤ k1 ∧ k1 < 106) (p2 : 130 ≤ k2 ∧ k2 < 140) (p3 : gPc s k1) (p4 : gRd s k2) (p5 : s.1 4 4 = s.1 k1 2) (p6 : 0 ≤ x3 ∧ x3 ≤ 1000) (p7 : ∀ k : Int, 0 ≤ k → k < s.1 k1 2 → gSp s k2 k) : gMet l G yX0_hear cX0_hear 8 none 3 [gR G 4, gR G k1, gR G k2, vi x3] s (gPv (fun s' => (gheard s s' k1 k2 x3) ∧ gRg s')) := by
  refine gMet_of (plainFor_of_name (by decide)) hG (Nat.le_of_ble_eq_true rfl) (fun X hX hE => ?_)
  refine bk_X0_hear_0 hX hE s p0 k1 k2 x3 p1 p2 ?_
  have hps := p3.1
  have hrd := p4.1
  unfold gheard at hE
  obtain ⟨off, hoff⟩ : ∃ off : Int → Int, off = fun k => gof (fun q => s.2 (k2 + 10) (s.2 9 k + q)) (s.2 (k1 + 10) k) (s.2 10 k) := ⟨_, rfl⟩
  have hoffk : ∀ k, gof (fun q => s.2 (k2 + 10) (s.2 9 k + q)) (s.2 (k1 + 10) k) (s.2 10 k) = off k := fun k => by rw [hoff]
  rw [← hoff] at hE
  have hob : ∀ k : Int, 0 ≤ k → k < s.1 k1 2 → off k = -100000 ∨ (-4800 ≤ off k ∧ off k ≤ 4800) := by
    intro k k0 k1'
    obtain ⟨q1, q2⟩ := p7 k k0 k1'
    rw [← hoffk k]
    refine gof_bd q1.1 (p3.2 k k0 k1').1 (fun q a b => ?_)
    exact p4.2 _ (by omega) (by omega)
  have hlb := glst_bd hob
  have hfb := gfrs_bd hob
  refine gloop (α := gS × Int × Int) (hi := s.1 k1 2) (fun k a => 0 ≤ k ∧ gRg a.1 ∧ (∀ (q : Int) (j : Nat), ¬ (q = 4 ∧ (j = 6 ∨ j = 7)) → a.1.1 q j = s.1 q j) ∧ (∀ q : Int, q ≠ 11 → q ≠ 12 → a.1.2 q = s.2 q) ∧ (∀ q : Int, 0 ≤ q → q < k → a.1.2 11 q = off q ∧ a.1.2 12 q = gflt off (s.2 10) x3 q) ∧ a.1.1 4 7 = gsum (fun q => gflt off (s.2 10) x3 q) k ∧ a.2.1 = gfrs off k ∧ a.2.2 = glst off k) (fun k a => gWL X G a.1 15 [(0, gR G 4), (1, gR G k1), (2, gR G k2), (3, vi x3), (4, vi a.2.1), (5, vi a.2.2), (6, vi k)] []) ?_ ?_ 0 (gpI s 4 7 0, -100000, 0) hps.1 ⟨by omega, gRg_I p0 rng_0, fun q j h => if_neg (fun z => h ⟨z.1, Or.inr z.2⟩), fun _ _ _ => rfl, fun q q0 q1 => by omega, gpI_eq, rfl, rfl⟩
  · intro k ⟨t, x4, x5⟩ hk ⟨hk0, hg, e1, e2, hq, h7, h4, h5⟩ next
    dsimp only at hg e1 e2 hq h7 h4 h5 ⊢
    have e44 : t.1 4 4 = s.1 4 4 := e1 4 4 (by omega)
    have er : t.2 (k2 + 10) = s.2 (k2 + 10) := e2 _ (by omega) (by omega)
    have ep : t.2 (k1 + 10) = s.2 (k1 + 10) := e2 _ (by omega) (by omega)
    have e9 : t.2 9 = s.2 9 := e2 _ (by decide) (by decide)
    have e10 : t.2 10 = s.2 10 := e2 _ (by decide) (by decide)
    have ek2 : t.1 k2 1 = s.1 k2 1 := e1 k2 1 (by omega)
    have hRd : gRd t k2 := by unfold gRd; rw [ek2, er]; exact p4
    have hSp : gSp t k2 k := by unfold gSp; rw [ek2, e9, e10]; exact p7 k hk0 hk
    have hok := hob k hk0 hk
    have hl := hlb k hk0 (by omega)
    have hl1 := hlb (k + 1) (by omega) (by omega)
    have hf := hfb k hk0 (by omega)
    have hfs := gsum_bd (f := fun q => gflt off (s.2 10) x3 q) (n := k) (lo := 0) (hi := 1) hk0 (fun q _ _ => by have := gflt_01 off (s.2 10) x3 q; omega)
    have hgk : gof (fun q => t.2 (k2 + 10) (t.2 9 k + q)) (t.2 (k1 + 10) k) (t.2 10 k) = off k := by rw [er, ep, e9, e10]; exact hoffk k
    have hgu : gRg (gpA t 11 k (off k)) := gRg_A hg (rng_of (by omega) (by omega))
    -- the end of the body
    have hfin : ∀ a4 a5 a7 : Int, a7 = gflt off (s.2 10) x3 k → a4 = gfrs off (k + 1) → a5 = glst off (k + 1) → gWL X G (gpA t 11 k (off k)) 123 [(0, gR G 4), (1, gR G k1), (2, gR G k2), (3, vi x3), (4, vi a4), (5, vi a5), (6, vi k), (7, vi a7)] [] := by
      intro a4 a5 a7 ha7 ha4 ha5
      have h01 := gflt_01 off (s.2 10) x3 k
      have e47 : (gpA t 11 k (off k)).1 4 7 = gsum (fun q => gflt off (s.2 10) x3 q) k := h7
      have hgo : ∀ f : Int, f = gflt off (s.2 10) x3 k → gWL X G (gpI (gpA (gpA t 11 k (off k)) 12 k f) 4 7 ((gpA t 11 k (off k)).1 4 7 + f)) 15 [(0, gR G 4), (1, gR G k1), (2, gR G k2), (3, vi x3), (4, vi a4), (5, vi a5), (6, vi (k + 1))] [] := by
        intro f hf'
        refine next (gpI (gpA (gpA t 11 k (off k)) 12 k f) 4 7 ((gpA t 11 k (off k)).1 4 7 + f), a4, a5) ⟨by omega, gRg_I (gRg_A hgu (rng_of (by omega) (by omega))) (rng_of (by omega) (by omega)), fun q j hq' => ?_, fun q q11 q12 => ?_, fun q q0 q1 => ?_, ?_, ha4, ha5⟩
        · show (gpI _ 4 7 _).1 q j = _
          by_cases hj : j = 7
          · rw [gpI_nk (fun z => hq' ⟨z, Or.inr hj⟩)]
            exact e1 q j hq'
          · rw [gpI_nj hj]
            exact e1 q j hq'
        · show (gpA (gpA t 11 k (off k)) 12 k f).2 q = _
          rw [← e2 q q11 q12]
          funext i
          rw [gpA_nk q12, gpA_nk q11]
        · show (gpA (gpA t 11 k (off k)) 12 k f).2 11 q = _ ∧ (gpA (gpA t 11 k (off k)) 12 k f).2 12 q = _
          rw [gpA_nk (by decide)]
          by_cases e : q = k
          · subst e
            rw [gpA_eq, gpA_eq]
            exact ⟨rfl, hf'⟩
          · rw [gpA_ni e, gpA_ni e, gpA_nk (by decide)]
            exact hq q q0 (by omega)
        · show (gpI _ 4 7 _).1 4 7 = _
          rw [gpI_eq, e47, gsum_s _ hk0, hf']
      refine bk_X0_hear_123 hX hE _ hgu k1 k2 x3 a4 a5 k a7 p1 p2 ⟨rng_of (by omega) (by omega), fun h => ⟨by omega, rng_of (by omega) (by omega), hgo 0 (by omega)⟩, fun h => ⟨by omega, rng_of (by omega) (by omega), hgo 1 (by omega)⟩⟩
    have h11 : (gpA t 11 k (off k)).2 11 k = off k := gpA_eq
    -- at 62
    have hmid : ∀ a7 : Int, (a7 = if s.2 10 k = 0 then 1 else 0) → gWL X G (gpA t 11 k (off k)) 62 [(0, gR G 4), (1, gR G k1), (2, gR G k2), (3, vi x3), (4, vi x4), (5, vi x5), (6, vi k), (7, vi a7)] [] := by
      intro a7 ha7
      have hga : rng (gabs (off k - x5)) ∨ off k = -100000 := by
        rcases hok with q | q
        · exact Or.inr q
        · left; unfold gabs; split <;> exact rng_of (by omega) (by omega)
      have h98 : ∀ f : Int, ¬ off k = -100000 → f = gb (x3 < gabs (off k - glst off k)) → gWL X G (gpA t 11 k (off k)) 98 [(0, gR G 4), (1, gR G k1), (2, gR G k2), (3, vi x3), (4, vi x4), (6, vi k), (7, vi f)] [] := by
        intro f hno hf'
        have hfl : f = gflt off (s.2 10) x3 k := by unfold gflt; rw [if_neg hno]; exact hf'
        refine bk_X0_hear_98 hX hE _ hgu k1 k2 x3 x4 k f p1 p2 ⟨by omega, rng_of (by omega) (by omega), fun h => ?_, fun h => ?_⟩
        · rw [h11]
          exact hfin _ _ _ hfl (by rw [gfrs_s _ hk0, if_neg hno, if_neg (by omega), h4]) (by rw [glst_s _ hk0, if_neg hno])
        · rw [h11]
          exact hfin _ _ _ hfl (by rw [gfrs_s _ hk0, if_neg hno, if_pos (by omega)]) (by rw [glst_s _ hk0, if_neg hno])
      refine bk_X0_hear_62 hX hE _ hgu k1 k2 x3 x4 x5 k a7 p1 p2 ⟨by omega, fun h => ?_, fun h => ?_⟩
      · rw [h11] at h
        exact hfin _ _ _ (by unfold gflt; rw [if_pos h]; exact ha7) (by rw [gfrs_s _ hk0, if_pos h]; exact h4) (by rw [glst_s _ hk0, if_pos h]; exact h5)
      · rw [h11] at h ⊢
        refine ⟨rng_of (by omega) (by omega), hga.resolve_right h, rng_of (by omega) (by omega), fun h2 => h98 0 h ?_, fun h2 => h98 1 h ?_⟩
        · rw [h5] at h2; exact (gb_f (by omega)).symm
        · rw [h5] at h2; exact (gb_t h2).symm
    refine bk_X0_hear_15 hX hE t hg k1 k2 x3 x4 x5 k p1 p2 ⟨rng_of (by omega) (by omega), fun h => by omega, fun _ => ⟨by omega, p2, by rw [ep]; exact (p3.2 k hk0 hk).1, hRd, hSp, by rw [hgk]; exact rng_of (by omega) (by omega), fun h => ?_, fun h => ?_⟩⟩
    · rw [hgk]; rw [e10] at h; exact hmid 0 (by rw [if_neg h])
    · rw [hgk]; rw [e10] at h; exact hmid 1 (by rw [if_pos h])
  · intro ⟨t, x4, x5⟩ ⟨hk0, hg, e1, e2, hq, h7, h4, h5⟩
    dsimp only at hg e1 e2 hq h7 h4 h5 ⊢
    have hl := hlb _ hk0 (Int.le_refl _)
    have hf := hfb _ hk0 (Int.le_refl _)
    have hgo : ∀ v : Int, v = gsunk off (s.1 k1 2) → (∀ (k : Int) (j : Nat), ¬ (k = 4 ∧ (j = 6 ∨ j = 7)) → (gpI t 4 6 v).1 k j = s.1 k j) ∧ (∀ k : Int, k ≠ 11 → k ≠ 12 → (gpI t 4 6 v).2 k = s.2 k) ∧ (∀ k : Int, 0 ≤ k → k < s.1 k1 2 → (gpI t 4 6 v).2 11 k = gof (fun q => s.2 (k2 + 10) (s.2 9 k + q)) (s.2 (k1 + 10) k) (s.2 10 k) ∧ (gpI t 4 6 v).2 12 k = gflt off (s.2 10) x3 k) ∧ (gpI t 4 6 v).1 4 6 = gsunk off (s.1 k1 2) ∧ (gpI t 4 6 v).1 4 7 = gsum (fun k => gflt off (s.2 10) x3 k) (s.1 k1 2) := by
      intro v hv
      refine ⟨fun k j hkj => ?_, e2, fun k k0 k1' => ?_, by rw [gpI_eq]; exact hv, by rw [gpI_nj (by decide)]; exact h7⟩
      · by_cases hj : j = 6
        · rw [gpI_nk (fun z => hkj ⟨z, Or.inl hj⟩)]; exact e1 k j hkj
        · rw [gpI_nj hj]; exact e1 k j hkj
      · rw [hoffk]; exact hq k k0 k1'
    refine bk_X0_hear_15 hX hE t hg k1 k2 x3 x4 x5 _ p1 p2 ⟨rng_of (by omega) (by omega), fun _ => ⟨rng_of (by omega) (by omega), fun h => ⟨rng_of (by omega) (by omega), hgo _ ?_⟩, fun h => hgo _ ?_⟩, fun h => by rw [e1 4 4 (by omega)] at h; omega⟩
    · unfold gsunk; rw [if_neg (by omega), h4, h5]
    · unfold gsunk; rw [if_pos (by omega)]
end
section
theorem fl_X0_28 : gFL RX0 28 0 5 := ⟨RX0, TX0, 13, tyX0, rfl, by decide, inG_X0, (gm_1 107 rfl rfl), tyX0_ok, nmX0, fun _ => rfl⟩
theorem fl_X0_54 : gFL RX0 54 3 2 := ⟨RX3, TX3, 3, tyX3, rfl, by decide, inG_X3, (gm_1 33 rfl rfl), tyX3_ok, nmX3, fun _ => rfl⟩
theorem fl_X0_83 : gFL RX0 83 1 0 := ⟨RX1, TX1, 5, tyX1, rfl, by decide, inG_X1, (gm_1 70 rfl rfl), tyX1_ok, nmX1, fun _ => rfl⟩
theorem fl_X0_94 : gFL RX0 94 1 4 := ⟨RX1, TX1, 5, tyX1, rfl, by decide, inG_X1, (gm_1 77 rfl rfl), tyX1_ok, nmX1, fun _ => rfl⟩
theorem cv_X0_60 : gCV RX0 60 yX0_endAt cX0_endAt 3 none 1 0 := ⟨TX0, 13, rfl, (gm_2 58 rfl rfl), (gm_2 60 rfl rfl), (gm_s 1 rfl rfl), (gm_1 5 rfl rfl), (gm_2 61 rfl rfl), ⟨by decide, by decide, by decide +kernel⟩, by decide⟩
theorem cv_X0_67 : gCV RX0 67 yX0_addUpReadings cX0_addUpReadings 5 none 3 0 := ⟨TX0, 13, rfl, (gm_2 63 rfl rfl), (gm_2 65 rfl rfl), (gm_s 2 rfl rfl), (gm_1 5 rfl rfl), (gm_2 66 rfl rfl), ⟨by decide, by decide, by decide +kernel⟩, by decide⟩
theorem cv_X0_76 : gCV RX0 76 yX0_splitByLength cX0_splitByLength 7 none 3 0 := ⟨TX0, 13, rfl, (gm_2 77 rfl rfl), (gm_2 79 rfl rfl), (gm_s 3 rfl rfl), (gm_1 5 rfl rfl), (gm_2 80 rfl rfl), ⟨by decide, by decide, by decide +kernel⟩, by decide⟩
theorem cv_X0_86 : gCV RX0 86 yX0_findLeast cX0_findLeast 8 (some .int) 4 0 := ⟨TX0, 13, rfl, (gm_2 83 rfl rfl), (gm_2 85 rfl rfl), (gm_s 4 rfl rfl), (gm_1 5 rfl rfl), (gm_2 86 rfl rfl), ⟨by decide, by decide, by decide +kernel⟩, by decide⟩
theorem cv_X0_90 : gCV RX0 90 yX0_layForward cX0_layForward 7 none 3 0 := ⟨TX0, 13, rfl, (gm_2 87 rfl rfl), (gm_2 89 rfl rfl), (gm_s 5 rfl rfl), (gm_1 5 rfl rfl), (gm_2 90 rfl rfl), ⟨by decide, by decide, by decide +kernel⟩, by decide⟩
theorem cv_X0_97 : gCV RX0 97 yX0_hear cX0_hear 8 none 3 0 := ⟨TX0, 13, rfl, (gm_2 99 rfl rfl), (gm_2 101 rfl rfl), (gm_s 7 rfl rfl), (gm_1 5 rfl rfl), (gm_2 102 rfl rfl), ⟨by decide, by decide, by decide +kernel⟩, by decide⟩
theorem gsum_shift (f : Int → Int) {i : Int} (h0 : 0 ≤ i) : ∀ t : Int, 0 ≤ t → gsum f (i + t) = gsum f i + gsum (fun q => f (i + q)) t := by
  intro t ht
  have := giter_ind (f := fun q a => a + f (i + q)) (a := (0 : Int)) (N := t) (fun q a => gsum f (i + q) = gsum f i + a) (by rw [Int.add_zero, Int.add_zero]) (fun q a q0 _ ha => by
    rw [show i + (q + 1) = (i + q) + 1 by omega, gsum_s _ (by omega), ha]; omega) t ht (Int.le_refl t)
  exact this
theorem gcell {M : Nat → Int} {rd pt bt S B' w : Int → Int} {k i all v due : Int} (hS : ∀ j : Int, 0 ≤ j → j ≤ all → S j = gsum (fun q => grc (M 1) (rd q) (pt k)) j) (hw : ∀ j : Int, 0 ≤ j → j ≤ all → w j = (S j + B' j) - M 2 * j) (hdue : due = bt k * M 0) (hi : 0 ≤ i) (hia : i ≤ all)
    (h : gMn (fun j => (w j + M 2 * j) + (M 2 * gabs (j - (i + due)) + (if j = i then M 3 else 0))) i all v) : gMn (fun t => gCst M rd pt bt k i t + B' (i + t)) 0 (all - i) (v - S i) := by
  have h2 := h.shift (g := fun t => gCst M rd pt bt k i t + B' (i + t)) i (-(S i)) (fun t t1 t2 => by
    unfold gCst gsc
    have e1 := hw (i + t) (by omega) t2
    have e2 := hS (i + t) (by omega) t2
    have e3 := hS i hi hia
    have e4 := gsum_shift (fun q => grc (M 1) (rd q) (pt k)) hi t (by omega)
    have e5 : i + t - (i + due) = t - bt k * M 0 := by rw [hdue]; omega
    have e6 : (if i + t = i then M 3 else 0) = (if t = 0 then M 3 else 0) := by
      by_cases q : t = 0
      · rw [if_pos q, if_pos (by omega)]
      · rw [if_neg q, if_neg (by omega)]
    rw [e5, e6]
    omega)
  rw [show i - i = 0 by omega] at h2
  exact h2
theorem glst_congr {off off' : Int → Int} {n : Int} (h : ∀ k : Int, 0 ≤ k → k < n → off k = off' k) (h0 : 0 ≤ n) : glst off n = glst off' n := giter_congr h0 (fun i x i0 i1 => by rw [h i i0 i1])
theorem gfrs_congr {off off' : Int → Int} {n : Int} (h : ∀ k : Int, 0 ≤ k → k < n → off k = off' k) (h0 : 0 ≤ n) : gfrs off n = gfrs off' n := giter_congr h0 (fun i x i0 i1 => by rw [h i i0 i1])
theorem gflt_congr {off off' take take' : Int → Int} {n ear : Int} (h : ∀ k : Int, 0 ≤ k → k < n → off k = off' k) (ht : ∀ k : Int, 0 ≤ k → k < n → take k = take' k) {k : Int} (h0 : 0 ≤ k) (h1 : k < n) : gflt off take ear k = gflt off' take' ear k := by
  unfold gflt
  rw [h k h0 h1, ht k h0 h1, glst_congr (off := off) (off' := off') (n := k) (fun i i0 i1 => h i i0 (by omega)) h0]
theorem gsunk_congr {off off' : Int → Int} {n : Int} (h : ∀ k : Int, 0 ≤ k → k < n → off k = off' k) (h0 : 0 ≤ n) : gsunk off n = gsunk off' n := by
  unfold gsunk
  rw [glst_congr h h0, gfrs_congr h h0]
/-- the laying that the class keeps is the one of piece k1 and recording k2 -/
def gLaid (t : gS) (k1 k2 : Int) : Prop := t.1 4 4 = t.1 k1 2 ∧ ∃ (B : Int → Int → Int) (pos : Int → Int), gDP (t.1 3) (t.2 (k2 + 10)) (t.2 (k1 + 10)) (t.2 (k1 + 20)) (t.1 k1 2) (t.1 k2 1) B ∧ gTk (t.1 3) (t.2 (k2 + 10)) (t.2 (k1 + 10)) (t.2 (k1 + 20)) (t.1 k1 2) (t.1 k2 1) B pos (t.2 10) ∧ t.1 4 5 = B 0 0 ∧ (∀ k : Int, 0 ≤ k → k < t.1 k1 2 → t.2 9 k = (if t.2 10 k = 0 then -1 else pos k) ∧ t.2 11 k = gof (fun q => t.2 (k2 + 10) (pos k + q)) (t.2 (k1 + 10) k) (t.2 10 k) ∧ t.2 12 k = gflt (fun k => gof (fun q => t.2 (k2 + 10) (pos k + q)) (t.2 (k1 + 10) k) (t.2 10 k)) (t.2 10) (t.1 3 4) k) ∧ t.1 4 6 = gsunk (fun k => gof (fun q => t.2 (k2 + 10) (pos k + q)) (t.2 (k1 + 10) k) (t.2 10 k)) (t.1 k1 2) ∧ t.1 4 7 = gsum (fun k => gflt (fun k => gof (fun q => t.2 (k2 + 10) (pos k + q)) (t.2 (k1 + 10) k) (t.2 10 k)) (t.2 10) (t.1 3 4) k) (t.1 k1 2)
def gfound (s t : gS) (k1 k2 : Int) : Prop := (∀ (q : Int) (j : Nat), q ≠ 4 → t.1 q j = s.1 q j) ∧ t.1 4 8 = s.1 4 8 ∧ (∀ q : Int, ¬ (9 ≤ q ∧ q ≤ 12) → ¬ (14 ≤ q ∧ q ≤ 16) → ¬ (200 ≤ q ∧ q < 225) → t.2 q = s.2 q) ∧ gLaid t k1 k2
/-- the rows of least costs from k + 1 on, in the state t -/
def gRows (s t : gS) (k1 k2 k : Int) : Prop := (∀ i : Int, 0 ≤ i → i ≤ s.1 k2 1 → t.2 (200 + s.1 k1 2) i = if i = s.1 k2 1 then 0 else 1000000000) ∧ (∀ q i : Int, k < q → q < s.1 k1 2 → 0 ≤ i → i ≤ s.1 k2 1 → gMn (fun a => gCst (s.1 3) (s.2 (k2 + 10)) (s.2 (k1 + 10)) (s.2 (k1 + 20)) q i a + t.2 (200 + (q + 1)) (i + a)) 0 (s.1 k2 1 - i) (t.2 (200 + q) i)) ∧ ∀ q : Int, k < q → q ≤ s.1 k1 2 → (∀ i : Int, 0 ≤ i → i ≤ s.1 k2 1 → 0 ≤ t.2 (200 + q) i ∧ t.2 (200 + q) i ≤ 1000000000) ∧ t.2 (200 + q) (s.1 k2 1) ≤ 74000 * (s.1 k1 2 - q)
set_option maxRecDepth 100000 in
set_option maxHeartbeats 4000000 in
theorem bk_X0_find_0 {X : gX} {G : gG} (hX : gOk X G cX0_find 7 RX0 none 5) {Q : gS → Prop} (hE : gEnd X G (gPv (fun s' => Q s' ∧ gRg s'))) (s : gS) (hs : gRg s) (k1 : Int) (k2 : Int) (hk1 : 100 ≤ k1 ∧ k1 < 106) (hk2 : 130 ≤ k2 ∧ k2 < 140) (h : (0 ≤ (s.1 k2 1) ∧ (s.1 k2 1) ≤ 120) ∧ (0 ≤ ((gpI s 4 4 (s.1 k1 2)).1 4 4) ∧ ((gpI s 4 4 (s.1 k1 2)).1 4 4) ≤ 24) ∧ (∀ s3 : gS, ((goff (gpI s 4 4 (s.1 k1 2)) s3 (200 + (gpI s 4 4 (s.1 k1 2)).1 4 4) ∧ ∀ i : Int, 0 ≤ i → i ≤ (s.1 k2 1) → s3.2 (200 + (gpI s 4 4 (s.1 k1 2)).1 4 4) i = if i = (s.1 k2 1) then 0 else 1000000000) ∧ gRg s3) → gWL X G s3 24 [(0, gR G 4), (1, gR G k1), (2, gR G k2), (3, gR G 3), (4, vi ((s3.1 4 4) - 1))] [])) : gWL X G s 0 [(0, gR G 4), (1, gR G k1), (2, gR G k2), (3, gR G 3)] [] := by
  refine g_aload_n hX dX0_find_0 0 rfl ?_
  refine g_aload_n hX dX0_find_1 1 rfl ?_
  refine g_getI hX (sh_piece (by omega) (by omega)) 2 rfl fl_X0_54 dX0_find_2 ?_
  refine g_putI hX sh_4 4 rfl fl_X0_24 (fun _ _ _ e => by cases e; rfl) dX0_find_5 ?_
  refine g_aload_n hX dX0_find_8 0 rfl ?_
  refine g_aload_n hX dX0_find_9 2 rfl ?_
  refine g_getI hX (sh_recording (by omega) (by omega)) 1 rfl fl_X0_57 dX0_find_10 ?_
  refine g_top (gpI_nj (by decide)) ?_
  obtain ⟨h1, h⟩ := h
  obtain ⟨h2, h⟩ := h
  refine g_cVu (As := [vi (s.1 k2 1)]) hX (fun l => c_X0_endAt l hX.inj (gpI s 4 4 (s.1 k1 2)) (s.1 k2 1) (gRg_I hs (hs.1 _ _)) h1 h2) sh_4 cv_X0_60 (by decide) rfl (Nat.le_of_ble_eq_true rfl) dX0_find_13 rfl (fun s3 q4 => ?_)
  replace h := h s3 q4
  have rs3 : gRg s3 := q4.2
  refine g_aload_n hX dX0_find_16 0 rfl ?_
  refine g_getI hX sh_4 4 rfl fl_X0_24 dX0_find_17 ?_
  refine g_iconst hX dX0_find_20 ?_
  refine g_isub hX dX0_find_21 ?_
  refine g_istore (loc' := [(4, vi ((s3.1 4 4) - 1)), (0, gR G 4), (1, gR G k1), (2, gR G k2), (3, gR G 3)]) hX dX0_find_22 (by decide) rfl ?_
  exact g_sub [1, 2, 3, 4, 0] rfl h
set_option maxRecDepth 100000 in
set_option maxHeartbeats 4000000 in
theorem bk_X0_find_24 {X : gX} {G : gG} (hX : gOk X G cX0_find 7 RX0 none 5) {Q : gS → Prop} (hE : gEnd X G (gPv (fun s' => Q s' ∧ gRg s'))) (s : gS) (hs : gRg s) (k1 : Int) (k2 : Int) (x4 : Int) (hk1 : 100 ≤ k1 ∧ k1 < 106) (hk2 : 130 ≤ k2 ∧ k2 < 140) (h : (rng x4) ∧ ((x4 < 0 → (gMs (gpI s 4 5 (s.2 (200 + 0) 0))) ∧ (100 ≤ k1 ∧ k1 < 106) ∧ (130 ≤ k2 ∧ k2 < 140) ∧ (gPc (gpI s 4 5 (s.2 (200 + 0) 0)) k1) ∧ (gRd (gpI s 4 5 (s.2 (200 + 0) 0)) k2) ∧ ((gpI s 4 5 (s.2 (200 + 0) 0)).1 4 4 = (gpI s 4 5 (s.2 (200 + 0) 0)).1 k1 2) ∧ (∀ k : Int, 0 ≤ k → k < (gpI s 4 5 (s.2 (200 + 0) 0)).1 k1 2 → gBr (gpI s 4 5 (s.2 (200 + 0) 0)) (200 + (k + 1)) ((gpI s 4 5 (s.2 (200 + 0) 0)).1 k2 1)) ∧ (gDPs (gpI s 4 5 (s.2 (200 + 0) 0)) k1 k2) ∧ (∀ s12 : gS, ((goff2 (gpI s 4 5 (s.2 (200 + 0) 0)) s12 9 10 ∧ ∃ pos : Int → Int, gTks (gpI s 4 5 (s.2 (200 + 0) 0)) k1 k2 pos (s12.2 10) ∧ ∀ k : Int, 0 ≤ k → k < (gpI s 4 5 (s.2 (200 + 0) 0)).1 k1 2 → s12.2 9 k = if s12.2 10 k = 0 then -1 else pos k) ∧ gRg s12) → (gPc s12 k1) ∧ (gRd s12 k2) ∧ (s12.1 4 4 = s12.1 k1 2) ∧ (0 ≤ (s12.1 3 4) ∧ (s12.1 3 4) ≤ 1000) ∧ (∀ k : Int, 0 ≤ k → k < s12.1 k1 2 → gSp s12 k2 k) ∧ (∀ s19 : gS, ((gheard s12 s19 k1 k2 (s12.1 3 4)) ∧ gRg s19) → Q s19))) ∧ (0 ≤ x4 → (0 ≤ x4 ∧ x4 < 24) ∧ (gMs s) ∧ (130 ≤ k2 ∧ k2 < 140) ∧ (0 ≤ (s.2 (k1 + 10) x4) ∧ (s.2 (k1 + 10) x4) ≤ 4800) ∧ (gRd s k2) ∧ (∀ s26 : gS, ((goff s s26 14 ∧ ∀ i : Int, 0 ≤ i → i ≤ s.1 k2 1 → s26.2 14 i = gsum (fun q => grc (s.1 3 1) (s.2 (k2 + 10) q) (s.2 (k1 + 10) x4)) i) ∧ gRg s26) → (0 ≤ (x4 + 1) ∧ (x4 + 1) < 25) ∧ (200 ≤ (200 + (x4 + 1)) ∧ (200 + (x4 + 1)) < 225) ∧ (0 ≤ (s26.1 k2 1) ∧ (s26.1 k2 1) ≤ 120) ∧ (0 ≤ (s26.1 3 2) ∧ (s26.1 3 2) ≤ 1000) ∧ (gSB s26 (200 + (x4 + 1)) (s26.1 k2 1)) ∧ (∀ s34 : gS, ((goff2 s26 s34 15 16 ∧ ∀ i : Int, 0 ≤ i → i ≤ (s26.1 k2 1) → s34.2 15 i = (s26.2 14 i + s26.2 (200 + (x4 + 1)) i) - (s26.1 3 2) * i ∧ gMn (fun j => (s26.2 14 j + s26.2 (200 + (x4 + 1)) j) + (s26.1 3 2) * j) i (s26.1 k2 1) (s34.2 16 i)) ∧ gRg s34) → gWL X G s34 80 [(0, gR G 4), (1, gR G k1), (2, gR G k2), (3, gR G 3), (4, vi x4), (5, vi ((s34.2 (k1 + 20) x4) * (s34.1 3 0))), (6, vi 0)] []))))) : gWL X G s 24 [(0, gR G 4), (1, gR G k1), (2, gR G k2), (3, gR G 3), (4, vi x4)] [] := by
  refine g_iload hX dX0_find_24 4 rfl ?_
  obtain ⟨h1, h⟩ := h
  refine g_iflt (tgt := 135) hX h1 dX0_find_26 (by decide) (fun c2 => ?_) (fun c2 => ?_)
  · replace h := h.1 c2
    refine g_aload_n hX dX0_find_135 0 rfl ?_
    refine g_aload_n hX dX0_find_136 0 rfl ?_
    refine g_getR hX sh_4 9 rfl fl_X0_42 dX0_find_137 ?_
    refine g_iconst hX dX0_find_140 ?_
    have k3 := (by omega)
    refine g_aald (kd := 4) (q := (200 + 0)) hX sh_13 rfl rfl (by omega) (by decide) (by show 200 + ((0 : Int).toNat : Int) = _; omega) dX0_find_141 ?_
    refine g_iconst hX dX0_find_142 ?_
    refine g_iald hX (sh_bestrow (by omega) (by omega)) (by omega) (by decide) dX0_find_143 ?_
    refine g_putI hX sh_4 5 rfl fl_X0_28 (fun _ _ _ e => by cases e; rfl) dX0_find_144 ?_
    refine g_aload_n hX dX0_find_147 0 rfl ?_
    refine g_aload_n hX dX0_find_148 1 rfl ?_
    refine g_aload_n hX dX0_find_149 2 rfl ?_
    refine g_aload_n hX dX0_find_150 3 rfl ?_
    obtain ⟨h4, h⟩ := h
    obtain ⟨h5, h⟩ := h
    obtain ⟨h6, h⟩ := h
    obtain ⟨h7, h⟩ := h
    obtain ⟨h8, h⟩ := h
    obtain ⟨h9, h⟩ := h
    obtain ⟨h10, h⟩ := h
    obtain ⟨h11, h⟩ := h
    refine g_cVu (As := [gR G k1, gR G k2, gR G 3]) hX (fun l => c_X0_layForward l hX.inj (gpI s 4 5 (s.2 (200 + 0) 0)) k1 k2 3 (gRg_I hs (hs.2 _ _)) h4 h5 h6 h7 h8 h9 h10 h11) sh_4 cv_X0_90 (by decide) rfl (Nat.le_of_ble_eq_true rfl) dX0_find_151 rfl (fun s12 q13 => ?_)
    replace h := h s12 q13
    have rs12 : gRg s12 := q13.2
    refine g_aload_n hX dX0_find_154 0 rfl ?_
    refine g_aload_n hX dX0_find_155 1 rfl ?_
    refine g_aload_n hX dX0_find_156 2 rfl ?_
    refine g_aload_n hX dX0_find_157 3 rfl ?_
    refine g_getI hX sh_3 4 rfl fl_X0_94 dX0_find_158 ?_
    obtain ⟨h14, h⟩ := h
    obtain ⟨h15, h⟩ := h
    obtain ⟨h16, h⟩ := h
    obtain ⟨h17, h⟩ := h
    obtain ⟨h18, h⟩ := h
    refine g_cVu (As := [gR G k1, gR G k2, vi (s12.1 3 4)]) hX (fun l => c_X0_hear l hX.inj s12 k1 k2 (s12.1 3 4) rs12 h5 h6 h14 h15 h16 h17 h18) sh_4 cv_X0_97 (by decide) rfl (Nat.le_of_ble_eq_true rfl) dX0_find_161 rfl (fun s19 q20 => ?_)
    replace h := h s19 q20
    have rs19 : gRg s19 := q20.2
    exact g_vret hX hE dX0_find_164 ⟨h, rs19⟩
  · replace h := h.2 (Int.not_lt.mp c2)
    refine g_aload_n hX dX0_find_29 0 rfl ?_
    refine g_aload_n hX dX0_find_30 2 rfl ?_
    refine g_aload_n hX dX0_find_31 3 rfl ?_
    refine g_aload_n hX dX0_find_32 1 rfl ?_
    refine g_getR hX (sh_piece (by omega) (by omega)) 0 rfl fl_X0_64 dX0_find_33 ?_
    refine g_iload hX dX0_find_36 4 rfl ?_
    obtain ⟨h21, h⟩ := h
    refine g_iald hX (sh_pitches (by omega) (by omega)) h21 (by decide) dX0_find_38 ?_
    obtain ⟨h22, h⟩ := h
    obtain ⟨h23, h⟩ := h
    obtain ⟨h24, h⟩ := h
    obtain ⟨h25, h⟩ := h
    refine g_cVu (As := [gR G k2, gR G 3, vi (s.2 (k1 + 10) x4)]) hX (fun l => c_X0_addUpReadings l hX.inj s k2 3 (s.2 (k1 + 10) x4) hs h22 h23 h24 h25) sh_4 cv_X0_67 (by decide) rfl (Nat.le_of_ble_eq_true rfl) dX0_find_39 rfl (fun s26 q27 => ?_)
    replace h := h s26 q27
    have rs26 : gRg s26 := q27.2
    refine g_aload_n hX dX0_find_42 0 rfl ?_
    refine g_aload_n hX dX0_find_43 0 rfl ?_
    refine g_getR hX sh_4 9 rfl fl_X0_42 dX0_find_44 ?_
    refine g_iload hX dX0_find_47 4 rfl ?_
    refine g_iconst hX dX0_find_49 ?_
    refine g_iadd hX dX0_find_50 ?_
    obtain ⟨h28, h⟩ := h
    have k29 := h28
    refine g_aald (kd := 4) (q := (200 + (x4 + 1))) hX sh_13 rfl rfl h28 (by decide) (by show 200 + (((x4 + 1) : Int).toNat : Int) = _; omega) dX0_find_51 ?_
    refine g_aload_n hX dX0_find_52 2 rfl ?_
    refine g_getI hX (sh_recording (by omega) (by omega)) 1 rfl fl_X0_57 dX0_find_53 ?_
    refine g_aload_n hX dX0_find_56 3 rfl ?_
    refine g_getI hX sh_3 2 rfl fl_X0_71 dX0_find_57 ?_
    obtain ⟨h30, h⟩ := h
    obtain ⟨h31, h⟩ := h
    obtain ⟨h32, h⟩ := h
    obtain ⟨h33, h⟩ := h
    refine g_cVu (As := [gR G (200 + (x4 + 1)), vi (s26.1 k2 1), vi (s26.1 3 2)]) hX (fun l => c_X0_splitByLength l hX.inj s26 (200 + (x4 + 1)) (s26.1 k2 1) (s26.1 3 2) rs26 h30 h31 h32 h33) sh_4 cv_X0_76 (by decide) rfl (Nat.le_of_ble_eq_true rfl) dX0_find_60 rfl (fun s34 q35 => ?_)
    replace h := h s34 q35
    have rs34 : gRg s34 := q35.2
    refine g_aload_n hX dX0_find_63 1 rfl ?_
    refine g_getR hX (sh_piece (by omega) (by omega)) 1 rfl fl_X0_80 dX0_find_64 ?_
    refine g_iload hX dX0_find_67 4 rfl ?_
    refine g_iald hX (sh_beats (by omega) (by omega)) h21 (by decide) dX0_find_69 ?_
    refine g_aload_n hX dX0_find_70 3 rfl ?_
    refine g_getI hX sh_3 0 rfl fl_X0_83 dX0_find_71 ?_
    refine g_imul hX dX0_find_74 ?_
    refine g_istore (loc' := [(5, vi ((s34.2 (k1 + 20) x4) * (s34.1 3 0))), (0, gR G 4), (1, gR G k1), (2, gR G k2), (3, gR G 3), (4, vi x4)]) hX dX0_find_75 (by decide) rfl ?_
    refine g_iconst hX dX0_find_77 ?_
    refine g_istore (loc' := [(6, vi 0), (5, vi ((s34.2 (k1 + 20) x4) * (s34.1 3 0))), (0, gR G 4), (1, gR G k1), (2, gR G k2), (3, gR G 3), (4, vi x4)]) hX dX0_find_78 (by decide) rfl ?_
    exact g_sub [2, 3, 4, 5, 6, 1, 0] rfl h
set_option maxRecDepth 100000 in
set_option maxHeartbeats 4000000 in
theorem bk_X0_find_80 {X : gX} {G : gG} (hX : gOk X G cX0_find 7 RX0 none 5) {Q : gS → Prop} (hE : gEnd X G (gPv (fun s' => Q s' ∧ gRg s'))) (s : gS) (hs : gRg s) (k1 : Int) (k2 : Int) (x4 : Int) (x5 : Int) (x6 : Int) (hk1 : 100 ≤ k1 ∧ k1 < 106) (hk2 : 130 ≤ k2 ∧ k2 < 140) (h : (rng x6) ∧ (((s.1 k2 1) < x6 → gWL X G s 24 [(0, gR G 4), (1, gR G k1), (2, gR G k2), (3, gR G 3), (4, vi (x4 - 1))] []) ∧ (x6 ≤ (s.1 k2 1) → (0 ≤ x4 ∧ x4 < 25) ∧ (gMs s) ∧ (0 ≤ x6 ∧ x6 < (x6 + x5)) ∧ ((x6 + x5) ≤ x6 + 64) ∧ (x6 ≤ (s.1 k2 1) ∧ (s.1 k2 1) ≤ 120) ∧ (gTb s (s.1 k2 1)) ∧ (∀ (v12 : Int) (s10 : gS), ((gMn (fun j => (s.2 15 j + (s.1 3 2) * j) + ((s.1 3 2) * gabs (j - (x6 + x5)) + (if j = x6 then s.1 3 3 else 0))) x6 (s.1 k2 1) v12 ∧ s10 = s) ∧ gRg s10) → (0 ≤ x6 ∧ x6 < 121) ∧ (rng (v12 - (s10.2 14 x6))) ∧ gWL X G (gpA s10 (200 + x4) x6 (v12 - (s10.2 14 x6))) 80 [(0, gR G 4), (1, gR G k1), (2, gR G k2), (3, gR G 3), (4, vi x4), (5, vi x5), (6, vi (x6 + 1))] [])))) : gWL X G s 80 [(0, gR G 4), (1, gR G k1), (2, gR G k2), (3, gR G 3), (4, vi x4), (5, vi x5), (6, vi x6)] [] := by
  refine g_iload hX dX0_find_80 6 rfl ?_
  refine g_aload_n hX dX0_find_82 2 rfl ?_
  refine g_getI hX (sh_recording (by omega) (by omega)) 1 rfl fl_X0_57 dX0_find_83 ?_
  obtain ⟨h1, h⟩ := h
  refine g_icgt (tgt := 129) hX h1 (hs.1 _ _) dX0_find_86 (by decide) (fun c2 => ?_) (fun c2 => ?_)
  · replace h := h.1 c2
    refine g_iinc (loc' := [(4, vi (x4 - 1)), (0, gR G 4), (1, gR G k1), (2, gR G k2), (3, gR G 3), (5, vi x5), (6, vi x6)]) hX dX0_find_129 4 rfl (by decide) rfl ?_
    refine g_goto (tgt := 24) hX dX0_find_132 (by decide) ?_
    exact g_sub [1, 2, 3, 4, 0] rfl h
  · replace h := h.2 (Int.not_lt.mp c2)
    refine g_aload_n hX dX0_find_89 0 rfl ?_
    refine g_getR hX sh_4 9 rfl fl_X0_42 dX0_find_90 ?_
    refine g_iload hX dX0_find_93 4 rfl ?_
    obtain ⟨h3, h⟩ := h
    have k4 := h3
    refine g_aald (kd := 4) (q := (200 + x4)) hX sh_13 rfl rfl h3 (by decide) (by show 200 + ((x4 : Int).toNat : Int) = _; omega) dX0_find_95 ?_
    refine g_iload hX dX0_find_96 6 rfl ?_
    refine g_aload_n hX dX0_find_98 0 rfl ?_
    refine g_iload hX dX0_find_99 6 rfl ?_
    refine g_iload hX dX0_find_101 6 rfl ?_
    refine g_iload hX dX0_find_103 5 rfl ?_
    refine g_iadd hX dX0_find_105 ?_
    refine g_aload_n hX dX0_find_106 2 rfl ?_
    refine g_getI hX (sh_recording (by omega) (by omega)) 1 rfl fl_X0_57 dX0_find_107 ?_
    refine g_aload_n hX dX0_find_110 3 rfl ?_
    obtain ⟨h5, h⟩ := h
    obtain ⟨h6, h⟩ := h
    obtain ⟨h7, h⟩ := h
    obtain ⟨h8, h⟩ := h
    obtain ⟨h9, h⟩ := h
    refine g_cVr (As := [vi x6, vi (x6 + x5), vi (s.1 k2 1), gR G 3]) hX (fun l => c_X0_findLeast l hX.inj s x6 (x6 + x5) (s.1 k2 1) 3 hs h5 h6 h7 h8 h9) sh_4 cv_X0_86 (by decide) rfl (Nat.le_of_ble_eq_true rfl) dX0_find_111 rfl (fun v12 s10 q11 => ?_)
    replace h := h v12 s10 q11
    have rs10 : gRg s10 := q11.2
    refine g_aload_n hX dX0_find_114 0 rfl ?_
    refine g_getR hX sh_4 10 rfl fl_X0_45 dX0_find_115 ?_
    refine g_iload hX dX0_find_118 6 rfl ?_
    obtain ⟨h13, h⟩ := h
    refine g_iald hX sh_14 h13 (by decide) dX0_find_120 ?_
    refine g_isub hX dX0_find_121 ?_
    obtain ⟨h14, h⟩ := h
    refine g_iast hX (sh_bestrow (by omega) (by omega)) h13 (by decide) dX0_find_122 ?_
    refine g_iinc (loc' := [(6, vi (x6 + 1)), (0, gR G 4), (1, gR G k1), (2, gR G k2), (3, gR G 3), (4, vi x4), (5, vi x5)]) hX dX0_find_123 6 rfl (by decide) rfl ?_
    refine g_goto (tgt := 80) hX dX0_find_126 (by decide) ?_
    exact g_sub [1, 2, 3, 4, 5, 6, 0] rfl h
set_option maxRecDepth 100000 in
set_option maxHeartbeats 4000000 in
theorem c_X0_find (l : Launch) {G : gG} (hG : gInj G) (s : gS) (k1 : Int) (k2 : Int) (_ : Int) (p0 : gRg s) (p1 : gMs s) (p2 : 100 ≤ k1 ∧ k1 < 106) (p3 : 130 ≤ k2 ∧ k2 < 140) (p4 : gPc s k1) (p5 : gRd s k2) : gMet l G yX0_find cX0_find 7 none 5 [gR G 4, gR G k1, gR G k2, gR G 3] s (gPv (fun s' => (gfound s s' k1 k2) ∧ gRg s')) := by
  refine gMet_of (plainFor_of_name (by decide)) hG (Nat.le_of_ble_eq_true rfl) (fun X hX hE => ?_)
  refine bk_X0_find_0 hX hE s p0 k1 k2 p2 p3 ?_
  have hps := p4.1
  have hrd := p5.1
  obtain ⟨m0, m1, m2, m3, m4⟩ := p1
  have e44 : (gpI s 4 4 (s.1 k1 2)).1 4 4 = s.1 k1 2 := gpI_eq
  refine ⟨hrd, by rw [e44]; exact hps, fun s3 h3 => ?_⟩
  rw [e44] at h3
  obtain ⟨⟨ho3, hrow3⟩, hg3⟩ := h3
  have e31 : ∀ (q : Int) (j : Nat), ¬ (q = 4 ∧ j = 4) → s3.1 q j = s.1 q j := fun q j hq => by rw [ho3.1]; exact if_neg hq
  have e344 : s3.1 4 4 = s.1 k1 2 := by rw [ho3.1]; exact gpI_eq
  rw [e344]
  -- the notes, from the last back
  refine gloopD (α := gS) (lo := -1) (fun k t => k < s.1 k1 2 ∧ gRg t ∧ (∀ (q : Int) (j : Nat), ¬ (q = 4 ∧ j = 4) → t.1 q j = s.1 q j) ∧ t.1 4 4 = s.1 k1 2 ∧ (∀ q : Int, ¬ (14 ≤ q ∧ q ≤ 16) → ¬ (200 ≤ q ∧ q < 225) → t.2 q = s.2 q) ∧ gRows s t k1 k2 k) (fun k t => gWL X G t 24 [(0, gR G 4), (1, gR G k1), (2, gR G k2), (3, gR G 3), (4, vi k)] []) ?_ ?_ (s.1 k1 2 - 1) s3 (by omega) ⟨by omega, hg3, e31, e344, fun q _ h2 => by
      have := ho3.2 q (by omega)
      exact this, hrow3, fun q i a b => by omega, fun q a b => ?_⟩
  · intro k t hk ⟨hkn, hg, e1, e4, e2, hr1, hr2, hr3⟩ next
    have et3 : t.1 3 = s.1 3 := by funext j; exact e1 3 j (by omega)
    have etk2 : t.1 k2 1 = s.1 k2 1 := e1 k2 1 (by omega)
    have etr : t.2 (k2 + 10) = s.2 (k2 + 10) := e2 _ (by omega) (by omega)
    have etp : t.2 (k1 + 10) = s.2 (k1 + 10) := e2 _ (by omega) (by omega)
    have etb : t.2 (k1 + 20) = s.2 (k1 + 20) := e2 _ (by omega) (by omega)
    have hpk := p4.2 k (by omega) hkn
    refine bk_X0_find_24 hX hE t hg k1 k2 k p2 p3 ⟨rng_of (by omega) (by omega), fun h => by omega, fun _ => ⟨by omega, by unfold gMs; rw [et3]; exact ⟨m0, m1, m2, m3, m4⟩, p3, by rw [etp]; exact hpk.1, by unfold gRd; rw [etk2, etr]; exact p5, fun a ha => ?_⟩⟩
    obtain ⟨⟨hoa, hSa⟩, hga⟩ := ha
    rw [et3, etk2, etr, etp] at hSa
    have ea1 : a.1 = t.1 := hoa.1
    have hSb : ∀ i : Int, 0 ≤ i → i ≤ s.1 k2 1 → 0 ≤ a.2 14 i ∧ a.2 14 i ≤ 120000 := by
      intro i i0 i1
      have := gsum_bd (f := fun q => grc (s.1 3 1) (s.2 (k2 + 10) q) (s.2 (k1 + 10) k)) (n := i) (lo := 0) (hi := 1000) i0 (fun q _ _ => grc_bd m1)
      rw [hSa i i0 i1]; omega
    have eaB : ∀ q : Int, 0 ≤ q → a.2 (200 + q) = t.2 (200 + q) := fun q q0 => hoa.2 _ (by omega)
    have hrow1 := hr3 (k + 1) (by omega) (by omega)
    refine ⟨by omega, by omega, by rw [ea1, etk2]; exact hrd, by rw [ea1, et3]; exact m2, fun i i0 i1 => ?_, fun b hb => ?_⟩
    · rw [ea1, etk2] at i1
      rw [eaB _ (by omega)]
      exact ⟨hSb i i0 i1, hrow1.1 i i0 i1⟩
    obtain ⟨⟨hob, hSplit⟩, hgb⟩ := hb
    rw [ea1, etk2, et3, eaB _ (by omega)] at hSplit
    have eb1 : b.1 = t.1 := hob.1.trans ea1
    have eb14 : b.2 14 = a.2 14 := hob.2 _ (by decide) (by decide)
    have ebB : ∀ q : Int, 0 ≤ q → b.2 (200 + q) = t.2 (200 + q) := fun q q0 => (hob.2 _ (by omega) (by omega)).trans (eaB q q0)
    have ebb : b.2 (k1 + 20) = s.2 (k1 + 20) := (hob.2 _ (by omega) (by omega)).trans ((hoa.2 _ (by omega)).trans etb)
    rw [ebb, eb1, et3]
    have hdue := gmul_bd (a := s.2 (k1 + 20) k) (b := s.1 3 0) (A := 8) (B := 8) (by omega) (by omega)
    have hdue1 : 1 ≤ s.2 (k1 + 20) k * s.1 3 0 := Int.le_trans (by omega) (Int.mul_le_mul (a := 1) (b := 1) hpk.2.1 m0.1 (by omega) (by omega))
    have hst : ∀ j : Int, 0 ≤ j → j ≤ 120 → 0 ≤ s.1 3 2 * j ∧ s.1 3 2 * j ≤ 120000 := fun j j0 j1 => gmul_bd (A := 1000) (B := 120) m2 ⟨j0, j1⟩
    -- the readings from which the note may begin
    refine gloop (α := gS) (hi := s.1 k2 1 + 1) (fun i u => 0 ≤ i ∧ gRg u ∧ u.1 = t.1 ∧ (∀ q : Int, q ≠ 200 + k → u.2 q = b.2 q) ∧ ∀ j : Int, 0 ≤ j → j < i → gMn (fun a => gCst (s.1 3) (s.2 (k2 + 10)) (s.2 (k1 + 10)) (s.2 (k1 + 20)) k j a + t.2 (200 + (k + 1)) (j + a)) 0 (s.1 k2 1 - j) (u.2 (200 + k) j)) (fun i u => gWL X G u 80 [(0, gR G 4), (1, gR G k1), (2, gR G k2), (3, gR G 3), (4, vi k), (5, vi (s.2 (k1 + 20) k * s.1 3 0)), (6, vi i)] []) ?_ ?_ 0 b (by omega) ⟨by omega, hgb, eb1, fun _ _ => rfl, fun j j0 j1 => by omega⟩
    · intro i u hi ⟨hi0, hgu, eu1, eu2, hcells⟩ next2
      have eu14 : u.2 14 = a.2 14 := (eu2 _ (by omega)).trans eb14
      have eu15 : u.2 15 = b.2 15 := eu2 _ (by omega)
      have eu16 : u.2 16 = b.2 16 := eu2 _ (by omega)
      have hTb : gTb u (u.1 k2 1) := by
        intro j j0 j1
        rw [eu1, etk2] at j1
        rw [eu1, et3, eu15, eu16, etk2]
        have hsj := hSplit j j0 j1
        have hsb := hSb j j0 j1
        have hrb := hrow1.1 j j0 j1
        refine ⟨by omega, hsj.2.congr (fun q q0 q1 => ?_)⟩
        have := (hSplit q (by omega) q1).1
        omega
      refine bk_X0_find_80 hX hE u hgu k1 k2 k _ i p2 p3 ⟨rng_of (by omega) (by omega), fun h => by rw [eu1, etk2] at h; omega, fun _ => ⟨by omega, by unfold gMs; rw [eu1, et3]; exact ⟨m0, m1, m2, m3, m4⟩, by omega, by omega, by rw [eu1, etk2]; omega, hTb, fun v w hw => ?_⟩⟩
      obtain ⟨⟨hmn, rfl⟩, -⟩ := hw
      rw [eu1, et3, etk2, eu15] at hmn
      have hcell := gcell (M := s.1 3) (rd := s.2 (k2 + 10)) (pt := s.2 (k1 + 10)) (bt := s.2 (k1 + 20)) (S := a.2 14) (B' := t.2 (200 + (k + 1))) (w := b.2 15) (k := k) hSa (fun j j0 j1 => (hSplit j j0 j1).1) rfl hi0 (by omega) hmn
      rw [eu14]
      have hwb : 0 ≤ v - a.2 14 i ∧ v - a.2 14 i ≤ 1000000000 := by
        obtain ⟨⟨j, j1, j2, j3⟩, hle⟩ := hcell
        have hc := gCst_bd (M := s.1 3) (rd := s.2 (k2 + 10)) (pt := s.2 (k1 + 10)) (bt := s.2 (k1 + 20)) (k := k) (i := i) (t := j) m0 m1 m2 m3 (by omega) hpk.2
        have hB := hrow1.1 (i + j) (by omega) (by omega)
        have hl := hle (s.1 k2 1 - i) (by omega) (by omega)
        dsimp only at j3 hl
        have hc2 := gCst_bd (M := s.1 3) (rd := s.2 (k2 + 10)) (pt := s.2 (k1 + 10)) (bt := s.2 (k1 + 20)) (k := k) (i := i) (t := s.1 k2 1 - i) m0 m1 m2 m3 (by omega) hpk.2
        rw [show i + (s.1 k2 1 - i) = s.1 k2 1 by omega] at hl
        have := hrow1.2
        omega
      refine ⟨by omega, rng_of (by omega) (by omega), next2 _ ⟨by omega, gRg_A hgu (rng_of (by omega) (by omega)), eu1, fun q hq => ?_, fun j j0 j1 => ?_⟩⟩
      · rw [← eu2 q hq]; funext x; exact gpA_nk hq
      · by_cases e : j = i
        · subst e; rw [gpA_eq]; exact hcell
        · rw [gpA_ni e]; exact hcells j j0 (by omega)
    · intro u ⟨hi0, hgu, eu1, eu2, hcells⟩
      refine bk_X0_find_80 hX hE u hgu k1 k2 k _ _ p2 p3 ⟨rng_of (by omega) (by omega), fun _ => ?_, fun h => by rw [eu1, etk2] at h; omega⟩
      have euB : ∀ q : Int, 0 ≤ q → q ≠ k → u.2 (200 + q) = t.2 (200 + q) := fun q q0 q1 => (eu2 _ (by omega)).trans (ebB q q0)
      refine next u ⟨by omega, hgu, fun q j hq => by rw [eu1]; exact e1 q j hq, by rw [eu1]; exact e4, fun q q1 q2 => ?_, ?_, fun q i q0 q1 i0 i1 => ?_, fun q q0 q1 => ?_⟩
      · rw [eu2 q (by omega), hob.2 q (by omega) (by omega), hoa.2 q (by omega)]
        exact e2 q q1 q2
      · rw [euB _ (by omega) (by omega)]; exact hr1
      · by_cases e : q = k
        · subst e
          rw [euB _ (by omega) (by omega)]
          exact hcells i i0 (by omega)
        · rw [euB _ (by omega) (by omega), euB _ (by omega) e]
          exact hr2 q i (by omega) q1 i0 i1
      · by_cases e : q = k
        · subst e
          have hbd : ∀ i : Int, 0 ≤ i → i ≤ s.1 k2 1 → (0 ≤ u.2 (200 + q) i ∧ u.2 (200 + q) i ≤ 1000000000) := by
            intro i i0 i1
            obtain ⟨⟨j, j1, j2, j3⟩, hle⟩ := hcells i i0 (by omega)
            have hc := gCst_bd (M := s.1 3) (rd := s.2 (k2 + 10)) (pt := s.2 (k1 + 10)) (bt := s.2 (k1 + 20)) (k := q) (i := i) (t := j) m0 m1 m2 m3 (by omega) hpk.2
            have hB := hrow1.1 (i + j) (by omega) (by omega)
            have hl := hle (s.1 k2 1 - i) (by omega) (by omega)
            dsimp only at j3 hl
            have hc2 := gCst_bd (M := s.1 3) (rd := s.2 (k2 + 10)) (pt := s.2 (k1 + 10)) (bt := s.2 (k1 + 20)) (k := q) (i := i) (t := s.1 k2 1 - i) m0 m1 m2 m3 (by omega) hpk.2
            rw [show i + (s.1 k2 1 - i) = s.1 k2 1 by omega] at hl
            have := hrow1.2
            omega
          refine ⟨hbd, ?_⟩
          obtain ⟨-, hle⟩ := hcells (s.1 k2 1) (by omega) (by omega)
          have hl := hle 0 (by omega) (by omega)
          dsimp only at hl
          have h0 : gCst (s.1 3) (s.2 (k2 + 10)) (s.2 (k1 + 10)) (s.2 (k1 + 20)) q (s.1 k2 1) 0 ≤ 74000 := by
            have := gsc_0 (b := s.2 (k1 + 20) q) m0 m2 m3 hpk.2
            unfold gCst
            rw [gsum_0]
            omega
          rw [Int.add_zero] at hl
          have := hrow1.2
          omega
        · rw [euB _ (by omega) e]
          exact hr3 q (by omega) q1
  · intro t ⟨hkn, hg, e1, e4, e2, hr1, hr2, hr3⟩
    have et3 : t.1 3 = s.1 3 := by funext j; exact e1 3 j (by omega)
    have etk2 : t.1 k2 1 = s.1 k2 1 := e1 k2 1 (by omega)
    have etk1 : t.1 k1 2 = s.1 k1 2 := e1 k1 2 (by omega)
    have etr : t.2 (k2 + 10) = s.2 (k2 + 10) := e2 _ (by omega) (by omega)
    have etp : t.2 (k1 + 10) = s.2 (k1 + 10) := e2 _ (by omega) (by omega)
    have etb : t.2 (k1 + 20) = s.2 (k1 + 20) := e2 _ (by omega) (by omega)
    -- the state with the cost
    obtain ⟨c, hc⟩ : ∃ c : gS, c = gpI t 4 5 (t.2 (200 + 0) 0) := ⟨_, rfl⟩
    have ec1 : ∀ (q : Int) (j : Nat), ¬ (q = 4 ∧ j = 5) → c.1 q j = t.1 q j := fun q j hq => by rw [hc]; exact if_neg hq
    have ec2 : c.2 = t.2 := by rw [hc]; rfl
    have ec45 : c.1 4 5 = t.2 200 0 := by rw [hc]; exact gpI_eq
    have ec3 : c.1 3 = s.1 3 := by funext j; rw [ec1 3 j (by omega)]; rw [et3]
    have eck1 : c.1 k1 2 = s.1 k1 2 := (ec1 k1 2 (by omega)).trans etk1
    have eck2 : c.1 k2 1 = s.1 k2 1 := (ec1 k2 1 (by omega)).trans etk2
    have hDP : gDP (s.1 3) (s.2 (k2 + 10)) (s.2 (k1 + 10)) (s.2 (k1 + 20)) (s.1 k1 2) (s.1 k2 1) (fun k i => t.2 (200 + k) i) := ⟨hr1, fun k i k0 k1' i0 i1 => hr2 k i (by omega) k1' i0 i1⟩
    refine bk_X0_find_24 hX hE t hg k1 k2 (-1) p2 p3 ⟨rng_of (by omega) (by omega), fun _ => ?_, fun h => by omega⟩
    rw [← hc]
    refine ⟨by unfold gMs; rw [ec3]; exact ⟨m0, m1, m2, m3, m4⟩, p2, p3, by unfold gPc; rw [eck1, ec2, etp, etb]; exact p4, by unfold gRd; rw [eck2, ec2, etr]; exact p5, by rw [ec1 4 4 (by omega), e4, eck1], fun k k0 k1' => ?_, ?_, fun d hd => ?_⟩
    · rw [eck1] at k1'
      unfold gBr
      rw [eck2, ec2]
      exact (hr3 (k + 1) (by omega) (by omega)).1
    · unfold gDPs
      rw [ec3, ec2, etr, etp, etb, eck1, eck2]
      exact hDP
    obtain ⟨⟨hod, pos, htk, hfst⟩, hgd⟩ := hd
    unfold gTks at htk
    rw [ec3, ec2, etr, etp, etb, eck1, eck2] at htk
    rw [eck1] at hfst
    have ed1 : d.1 = c.1 := hod.1
    have edr : d.2 (k2 + 10) = s.2 (k2 + 10) := (hod.2 _ (by omega) (by omega)).trans (by rw [ec2]; exact etr)
    have edp : d.2 (k1 + 10) = s.2 (k1 + 10) := (hod.2 _ (by omega) (by omega)).trans (by rw [ec2]; exact etp)
    have edb : d.2 (k1 + 20) = s.2 (k1 + 20) := (hod.2 _ (by omega) (by omega)).trans (by rw [ec2]; exact etb)
    have hpos : ∀ k : Int, 0 ≤ k → k ≤ s.1 k1 2 → 0 ≤ pos k ∧ pos k ≤ s.1 k2 1 := by
      have key : ∀ m : Nat, (m : Int) ≤ s.1 k1 2 → 0 ≤ pos (m : Int) ∧ pos (m : Int) ≤ s.1 k2 1 := by
        intro m
        induction m with
        | zero =>
          intro _
          have h0 : pos ((0 : Nat) : Int) = 0 := htk.1
          rw [h0]; omega
        | succ m ih =>
          intro hm
          have h1 := ih (by omega)
          obtain ⟨h2, h3, -⟩ := htk.2 (m : Int) (by omega) (by omega)
          have e : ((m + 1 : Nat) : Int) = (m : Int) + 1 := by omega
          rw [e, h3]; omega
      intro k k0 k1'
      have := key k.toNat (by omega)
      rw [show ((k.toNat : Nat) : Int) = k by omega] at this
      exact this
    refine ⟨by unfold gPc; rw [ed1, eck1, edp, edb]; exact p4, by unfold gRd; rw [ed1, eck2, edr]; exact p5, by rw [ed1, ec1 4 4 (by omega), e4, eck1], by rw [ed1, ec3]; exact m4, fun k k0 k1' => ?_, fun e he => ?_⟩
    · rw [ed1, eck1] at k1'
      have htkk := htk.2 k k0 k1'
      have hpk := hpos k k0 (by omega)
      unfold gSp
      rw [ed1, eck2, hfst k k0 k1']
      refine ⟨by omega, ?_⟩
      by_cases q : d.2 10 k = 0
      · exact Or.inl q
      · right; rw [if_neg q]; omega
    obtain ⟨⟨h1, h2, h3, h4, h5⟩, -⟩ := he
    rw [ed1, eck1, edr, edp, ec3] at h3
    rw [ed1, eck1, edr, edp] at h4
    rw [ed1, eck1, edr, edp, ec3] at h5
    have ee1 : ∀ (q : Int) (j : Nat), q ≠ 4 → e.1 q j = s.1 q j := fun q j hq => by rw [h1 q j (fun z => hq z.1), ed1, ec1 q j (fun z => hq z.1), e1 q j (fun z => hq z.1)]
    have ee3 : e.1 3 = s.1 3 := by funext j; exact ee1 3 j (by decide)
    have eek1 : e.1 k1 2 = s.1 k1 2 := ee1 k1 2 (by omega)
    have eek2 : e.1 k2 1 = s.1 k2 1 := ee1 k2 1 (by omega)
    have eer : e.2 (k2 + 10) = s.2 (k2 + 10) := (h2 _ (by omega) (by omega)).trans edr
    have eep : e.2 (k1 + 10) = s.2 (k1 + 10) := (h2 _ (by omega) (by omega)).trans edp
    have eeb : e.2 (k1 + 20) = s.2 (k1 + 20) := (h2 _ (by omega) (by omega)).trans edb
    have ee9 : e.2 9 = d.2 9 := h2 _ (by decide) (by decide)
    have ee10 : e.2 10 = d.2 10 := h2 _ (by decide) (by decide)
    have hoffc : ∀ k : Int, 0 ≤ k → k < s.1 k1 2 → gof (fun q => s.2 (k2 + 10) (d.2 9 k + q)) (s.2 (k1 + 10) k) (d.2 10 k) = gof (fun q => s.2 (k2 + 10) (pos k + q)) (s.2 (k1 + 10) k) (d.2 10 k) := by
      intro k k0 k1'
      rw [hfst k k0 k1']
      by_cases q : d.2 10 k = 0
      · rw [q]; rfl
      · rw [if_neg q]
    refine ⟨ee1, ?_, fun q q1 q2 q3 => ?_, ?_, (fun k i => t.2 (200 + k) i), pos, ?_, ?_, ?_, fun k k0 k1' => ?_, ?_, ?_⟩
    · rw [h1 4 8 (by omega), ed1, ec1 4 8 (by omega), e1 4 8 (by omega)]
    · rw [h2 q (by omega) (by omega), hod.2 q (by omega) (by omega), ec2]
      exact e2 q q2 q3
    · rw [h1 4 4 (by omega), ed1, ec1 4 4 (by omega), e4, eek1]
    · rw [ee3, eer, eep, eeb, eek1, eek2]; exact hDP
    · rw [ee3, eer, eep, eeb, eek1, eek2, ee10]; exact htk
    · rw [h1 4 5 (by omega), ed1, ec45]; rfl
    · rw [eek1] at k1'
      rw [ee9, ee10, eer, eep, ee3]
      refine ⟨hfst k k0 k1', ?_, ?_⟩
      · rw [(h3 k k0 k1').1]; exact hoffc k k0 k1'
      · rw [(h3 k k0 k1').2]
        exact gflt_congr (n := s.1 k1 2) hoffc (fun _ _ _ => rfl) k0 k1'
    · rw [h4, ee10, eer, eep, eek1]
      exact gsunk_congr hoffc hps.1
    · rw [h5, ee10, eer, eep, eek1, ee3]
      exact gsum_congr hps.1 (fun k k0 k1' => gflt_congr (n := s.1 k1 2) hoffc (fun _ _ _ => rfl) k0 k1')
  · have hq : q = s.1 k1 2 := by omega
    subst hq
    refine ⟨fun i i0 i1 => ?_, ?_⟩
    · rw [hrow3 i i0 i1]; split <;> omega
    · rw [hrow3 _ hrd.1 (Int.le_refl _), if_pos rfl]; omega
end
section
theorem fl_X8_13 : gFL RX8 13 8 1 := ⟨RX8, TX8, 34, tyX8, rfl, by decide, inG_X8, (gm_3 39 rfl rfl), tyX8_ok, nmX8, fun h => absurd h (by decide)⟩
theorem fl_X8_16 : gFL RX8 16 8 2 := ⟨RX8, TX8, 34, tyX8, rfl, by decide, inG_X8, (gm_3 40 rfl rfl), tyX8_ok, nmX8, fun h => absurd h (by decide)⟩
theorem fl_X8_25 : gFL RX8 25 8 5 := ⟨RX8, TX8, 34, tyX8, rfl, by decide, inG_X8, (gm_3 43 rfl rfl), tyX8_ok, nmX8, fun h => absurd h (by decide)⟩
theorem fl_X8_28 : gFL RX8 28 8 6 := ⟨RX8, TX8, 34, tyX8, rfl, by decide, inG_X8, (gm_3 44 rfl rfl), tyX8_ok, nmX8, fun _ => rfl⟩
theorem fl_X8_32 : gFL RX8 32 8 7 := ⟨RX8, TX8, 34, tyX8, rfl, by decide, inG_X8, (gm_3 45 rfl rfl), tyX8_ok, nmX8, fun _ => rfl⟩
theorem fl_X8_35 : gFL RX8 35 8 8 := ⟨RX8, TX8, 34, tyX8, rfl, by decide, inG_X8, (gm_3 46 rfl rfl), tyX8_ok, nmX8, fun _ => rfl⟩
theorem fl_X8_38 : gFL RX8 38 8 9 := ⟨RX8, TX8, 34, tyX8, rfl, by decide, inG_X8, (gm_3 47 rfl rfl), tyX8_ok, nmX8, fun _ => rfl⟩
theorem fl_X8_44 : gFL RX8 44 8 11 := ⟨RX8, TX8, 34, tyX8, rfl, by decide, inG_X8, (gm_3 49 rfl rfl), tyX8_ok, nmX8, fun h => absurd h (by decide)⟩
theorem fl_X8_47 : gFL RX8 47 8 12 := ⟨RX8, TX8, 34, tyX8, rfl, by decide, inG_X8, (gm_3 50 rfl rfl), tyX8_ok, nmX8, fun h => absurd h (by decide)⟩
theorem fl_X8_50 : gFL RX8 50 8 13 := ⟨RX8, TX8, 34, tyX8, rfl, by decide, inG_X8, (gm_3 51 rfl rfl), tyX8_ok, nmX8, fun h => absurd h (by decide)⟩
theorem fl_X8_53 : gFL RX8 53 8 14 := ⟨RX8, TX8, 34, tyX8, rfl, by decide, inG_X8, (gm_3 52 rfl rfl), tyX8_ok, nmX8, fun h => absurd h (by decide)⟩
theorem fl_X8_56 : gFL RX8 56 8 15 := ⟨RX8, TX8, 34, tyX8, rfl, by decide, inG_X8, (gm_3 53 rfl rfl), tyX8_ok, nmX8, fun h => absurd h (by decide)⟩
theorem cv_X8_110 : gCS RX8 110 yX8_far cX8_far 2 (some .int) 2 := ⟨(gm_3 181 rfl rfl), (gm_3 182 rfl rfl), (gm_1 9 rfl rfl), (gm_3 183 rfl rfl), ⟨by decide, by decide, by decide +kernel⟩, by decide⟩
theorem cv_X8_114 : gCV RX8 114 yX8_place cX8_place 3 (some .int) 2 8 := ⟨TX8, 34, rfl, (gm_3 172 rfl rfl), (gm_3 174 rfl rfl), (gm_s 18 rfl rfl), (gm_1 9 rfl rfl), (gm_3 175 rfl rfl), ⟨by decide, by decide, by decide +kernel⟩, by decide⟩
theorem cv_X8_118 : gCV RX8 118 yX8_readCost cX8_readCost 6 (some .int) 3 8 := ⟨TX8, 34, rfl, (gm_3 177 rfl rfl), (gm_3 179 rfl rfl), (gm_s 19 rfl rfl), (gm_1 9 rfl rfl), (gm_3 180 rfl rfl), ⟨by decide, by decide, by decide +kernel⟩, by decide⟩
theorem cv_X8_122 : gCV RX8 122 yX8_shapeCost cX8_shapeCost 3 (some .int) 2 8 := ⟨TX8, 34, rfl, (gm_3 184 rfl rfl), (gm_3 186 rfl rfl), (gm_s 20 rfl rfl), (gm_1 9 rfl rfl), (gm_3 187 rfl rfl), ⟨by decide, by decide, by decide +kernel⟩, by decide⟩
/-! ===== the laying of the reference ===== -/
def mMs (s : gS) : Prop := (1 ≤ s.1 400 6 ∧ s.1 400 6 ≤ 8) ∧ (0 ≤ s.1 400 7 ∧ s.1 400 7 ≤ 1000) ∧ (0 ≤ s.1 400 8 ∧ s.1 400 8 ≤ 1000) ∧ (0 ≤ s.1 400 9 ∧ s.1 400 9 ≤ 10000) ∧ (0 ≤ s.1 400 10 ∧ s.1 400 10 ≤ 1000)
def mM (s : gS) : Nat → Int := fun j => s.1 400 (6 + j)
def mRdF (s : gS) (r : Int) : Int → Int := fun i => s.2 406 ((120 * r) + i)
def mPtF (s : gS) (p : Int) : Int → Int := fun k => s.2 402 ((24 * p) + k)
def mBtF (s : gS) (p : Int) : Int → Int := fun k => s.2 403 ((24 * p) + k)
def mB (s : gS) : Int → Int → Int := fun k i => s.2 412 ((121 * k) + i)
def mPR (s : gS) (r p n all : Int) : Prop := (∀ k : Int, 0 ≤ k → k < n → (0 ≤ s.2 402 ((24 * p) + k) ∧ s.2 402 ((24 * p) + k) ≤ 4800) ∧ (1 ≤ s.2 403 ((24 * p) + k) ∧ s.2 403 ((24 * p) + k) ≤ 8)) ∧ ∀ i : Int, 0 ≤ i → i < all → -1 ≤ s.2 406 ((120 * r) + i) ∧ s.2 406 ((120 * r) + i) ≤ 4800
def mDP (s : gS) (r p n all : Int) : Prop := gDP (mM s) (mRdF s r) (mPtF s p) (mBtF s p) n all (mB s)
def mBd (s : gS) (n all : Int) : Prop := ∀ k i : Int, 0 ≤ k → k ≤ n → 0 ≤ i → i ≤ all → 0 ≤ s.2 412 ((121 * k) + i) ∧ s.2 412 ((121 * k) + i) ≤ 1000000000
def mV (s : gS) : Prop := mMs s ∧ (∀ r : Int, 0 ≤ r → r < 10 → (0 ≤ s.2 404 r ∧ s.2 404 r < 6) ∧ (0 ≤ s.2 405 r ∧ s.2 405 r ≤ 120) ∧ ∀ i : Int, 0 ≤ i → i < s.2 405 r → -1 ≤ s.2 406 ((120 * r) + i) ∧ s.2 406 ((120 * r) + i) ≤ 4800) ∧ ∀ p : Int, 0 ≤ p → p < 6 → (0 ≤ s.2 401 p ∧ s.2 401 p ≤ 24) ∧ ∀ k : Int, 0 ≤ k → k < s.2 401 p → (0 ≤ s.2 402 ((24 * p) + k) ∧ s.2 402 ((24 * p) + k) ≤ 4800) ∧ (1 ≤ s.2 403 ((24 * p) + k) ∧ s.2 403 ((24 * p) + k) ≤ 8)
/-- what the rows take, first, offs, hasOff hold of note k that begins at pos -/
def mnote (t : gS) (rd pt : Int → Int) (k ps : Int) : Prop := t.2 414 k = ps ∧ (t.2 416 k = if gof (fun q => rd (ps + q)) (pt k) (t.2 413 k) = -100000 then 0 else 1) ∧ t.2 415 k = if gof (fun q => rd (ps + q)) (pt k) (t.2 413 k) = -100000 then 0 else gof (fun q => rd (ps + q)) (pt k) (t.2 413 k)
def mtook (s t : gS) (r p n all : Int) : Prop := t.1 = s.1 ∧ (∀ q : Int, ¬ (413 ≤ q ∧ q ≤ 416) → t.2 q = s.2 q) ∧ ∃ pos : Int → Int, gTk (mM s) (mRdF s r) (mPtF s p) (mBtF s p) n all (mB s) pos (t.2 413) ∧ ∀ k : Int, 0 ≤ k → k < n → mnote t (mRdF s r) (mPtF s p) k (pos k)
def mLaid (t : gS) (r v : Int) : Prop := ∃ (B : Int → Int → Int) (pos : Int → Int), gDP (mM t) (mRdF t r) (mPtF t (t.2 404 r)) (mBtF t (t.2 404 r)) (t.2 401 (t.2 404 r)) (t.2 405 r) B ∧ gTk (mM t) (mRdF t r) (mPtF t (t.2 404 r)) (mBtF t (t.2 404 r)) (t.2 401 (t.2 404 r)) (t.2 405 r) B pos (t.2 413) ∧ v = B 0 0 ∧ ∀ k : Int, 0 ≤ k → k < t.2 401 (t.2 404 r) → mnote t (mRdF t r) (mPtF t (t.2 404 r)) k (pos k)
def mlays (s t : gS) (r v : Int) : Prop := (s.2 401 (s.2 404 r) = 0 → v = -1 ∧ t = s) ∧ (¬ s.2 401 (s.2 404 r) = 0 → (t.1 = s.1 ∧ (∀ q : Int, ¬ (412 ≤ q ∧ q ≤ 416) → t.2 q = s.2 q)) ∧ (mLaid t r v ∧ 0 ≤ v))
theorem gfar_abs (a b : Int) : gfar a b = gabs (a - b) := by
  unfold gfar gabs
  by_cases h : a < b
  · rw [if_pos h, if_neg (by omega)]; omega
  · rw [if_neg h, if_pos (by omega)]
theorem gfloor {o c : Int} (hc : 0 < c) (ho : o < 0) : -((c - 1 - o).tdiv c) = o / c := by
  rw [Int.tdiv_eq_ediv_of_nonneg (by omega)]
  have h1 := Int.emod_nonneg o (by omega : c ≠ 0)
  have h2 := Int.emod_lt_of_pos o hc
  have h3 := Int.emod_add_mul_ediv o c
  have key : (c - 1 - o) / c = -(o / c) ∧ (c - 1 - o) % c = c - 1 - o % c := (Int.ediv_emod_unique hc).mpr ⟨by rw [Int.mul_neg]; omega, by omega, by omega⟩
  rw [key.1]; omega
set_option maxRecDepth 100000 in
set_option maxHeartbeats 4000000 in
theorem bk_X8_readCost_0 {X : gX} {G : gG} (hX : gOk X G cX8_readCost 6 RX8 (some .int) 2) {Q : Int → gS → Prop} (hE : gEnd X G (gPi (fun v s' => Q v s' ∧ gRg s'))) (s : gS) (hs : gRg s) (x1 : Int) (x2 : Int) (x3 : Int)  (h : (0 ≤ ((120 * x1) + x2) ∧ ((120 * x1) + x2) < 1200) ∧ ((¬ (s.2 406 ((120 * x1) + x2)) = (-1) → (0 ≤ x3 ∧ x3 < 144) ∧ (rng (gfar (s.2 406 ((120 * x1) + x2)) (s.2 402 x3))) ∧ ((300 ≤ (gfar (s.2 406 ((120 * x1) + x2)) (s.2 402 x3)) → Q 300 s) ∧ ((gfar (s.2 406 ((120 * x1) + x2)) (s.2 402 x3)) < 300 → Q (gfar (s.2 406 ((120 * x1) + x2)) (s.2 402 x3)) s))) ∧ ((s.2 406 ((120 * x1) + x2)) = (-1) → Q (s.1 400 7) s))) : gWL X G s 0 [(0, gR G 400), (1, vi x1), (2, vi x2), (3, vi x3)] [] := by
  refine g_aload_n hX dX8_readCost_0 0 rfl ?_
  refine g_getR hX sh_400 5 rfl fl_X8_25 dX8_readCost_1 ?_
  refine g_bipush hX dX8_readCost_4 rfl ?_
  refine g_iload_n hX dX8_readCost_6 1 rfl ?_
  refine g_imul hX dX8_readCost_7 ?_
  refine g_iload_n hX dX8_readCost_8 2 rfl ?_
  refine g_iadd hX dX8_readCost_9 ?_
  obtain ⟨h1, h⟩ := h
  refine g_iald hX sh_406 h1 (by decide) dX8_readCost_10 ?_
  refine g_istore (loc' := [(4, vi (s.2 406 ((120 * x1) + x2))), (0, gR G 400), (1, vi x1), (2, vi x2), (3, vi x3)]) hX dX8_readCost_11 (by decide) rfl ?_
  refine g_iload hX dX8_readCost_13 0 rfl ?_
  refine g_iconst hX dX8_readCost_15 ?_
  refine g_icne (tgt := 24) hX (hs.2 _ _) (by unfold rng; omega) dX8_readCost_16 (by decide) (fun c2 => ?_) (fun c2 => ?_)
  · replace h := h.1 c2
    refine g_iload hX dX8_readCost_24 0 rfl ?_
    refine g_aload_n hX dX8_readCost_26 1 rfl ?_
    refine g_getR hX sh_400 1 rfl fl_X8_13 dX8_readCost_27 ?_
    refine g_iload_n hX dX8_readCost_30 4 rfl ?_
    obtain ⟨h3, h⟩ := h
    refine g_iald hX sh_402 h3 (by decide) dX8_readCost_31 ?_
    refine g_cSf (As := [vi (s.2 406 ((120 * x1) + x2)), vi (s.2 402 x3)]) hX (fun l => c_X8_far l hX.inj s (s.2 406 ((120 * x1) + x2)) (s.2 402 x3) hs (hs.2 _ _) (hs.2 _ _)) cv_X8_110 (by decide) rfl (Nat.le_of_ble_eq_true rfl) dX8_readCost_32 rfl (fun g4 => ?_)
    refine g_istore (loc' := [(5, vi (gfar (s.2 406 ((120 * x1) + x2)) (s.2 402 x3))), (4, vi (s.2 406 ((120 * x1) + x2))), (0, gR G 400), (1, vi x1), (2, vi x2), (3, vi x3)]) hX dX8_readCost_35 (by decide) rfl ?_
    refine g_iload hX dX8_readCost_37 0 rfl ?_
    refine g_sipush hX dX8_readCost_39 rfl ?_
    obtain ⟨h5, h⟩ := h
    refine g_icge (tgt := 50) hX h5 (by unfold rng; omega) dX8_readCost_42 (by decide) (fun c6 => ?_) (fun c6 => ?_)
    · replace h := h.1 c6
      refine g_sipush hX dX8_readCost_50 rfl ?_
      exact g_iret hX hE dX8_readCost_53 ⟨h, hs⟩
    · replace h := h.2 (Int.not_le.mp c6)
      refine g_iload hX dX8_readCost_45 0 rfl ?_
      refine g_goto (tgt := 53) hX dX8_readCost_47 (by decide) ?_
      exact g_iret hX hE dX8_readCost_53 ⟨h, hs⟩
  · replace h := h.2 (gnn c2)
    refine g_aload_n hX dX8_readCost_19 1 rfl ?_
    refine g_getI hX sh_400 7 rfl fl_X8_32 dX8_readCost_20 ?_
    exact g_iret hX hE dX8_readCost_23 ⟨h, hs⟩
set_option maxRecDepth 100000 in
set_option maxHeartbeats 4000000 in
theorem c_X8_readCost (l : Launch) {G : gG} (hG : gInj G) (s : gS) (x1 : Int) (x2 : Int) (x3 : Int) (p0 : gRg s) (p1 : 0 ≤ ((120 * x1) + x2) ∧ ((120 * x1) + x2) < 1200) (p2 : 0 ≤ x3 ∧ x3 < 144) (p3 : -1 ≤ (s.2 406 ((120 * x1) + x2)) ∧ (s.2 406 ((120 * x1) + x2)) ≤ 4800) (p4 : 0 ≤ (s.2 402 x3) ∧ (s.2 402 x3) ≤ 4800) : gMet l G yX8_readCost cX8_readCost 6 (some .int) 2 [gR G 400, vi x1, vi x2, vi x3] s (gPi (fun v s' => (v = (grc (s.1 400 7) (s.2 406 ((120 * x1) + x2)) (s.2 402 x3)) ∧ s' = s) ∧ gRg s')) := by
  refine gMet_of (plainFor_of_name (by decide)) hG (Nat.le_of_ble_eq_true rfl) (fun X hX hE => ?_)
  refine bk_X8_readCost_0 hX hE s p0 x1 x2 x3  ?_
  have hf : gfar (s.2 406 ((120 * x1) + x2)) (s.2 402 x3) = gabs (s.2 406 ((120 * x1) + x2) - s.2 402 x3) := gfar_abs _ _
  have hr : rng (gfar (s.2 406 ((120 * x1) + x2)) (s.2 402 x3)) := by rw [hf]; unfold gabs; split <;> exact rng_of (by omega) (by omega)
  refine ⟨p1, fun h => ⟨p2, hr, fun h2 => ⟨?_, rfl⟩, fun h2 => ⟨?_, rfl⟩⟩, fun h => ⟨(if_pos h).symm, rfl⟩⟩
  · unfold grc; rw [if_neg h, ← hf]; omega
  · unfold grc; rw [if_neg h, ← hf]; omega
set_option maxRecDepth 100000 in
set_option maxHeartbeats 4000000 in
theorem bk_X8_shapeCost_0 {X : gX} {G : gG} (hX : gOk X G cX8_shapeCost 3 RX8 (some .int) 2) {Q : Int → gS → Prop} (hE : gEnd X G (gPi (fun v s' => Q v s' ∧ gRg s'))) (s : gS) (hs : gRg s) (x1 : Int) (x2 : Int)  (h : (0 ≤ x1 ∧ x1 < 144) ∧ (rng x2) ∧ (rng ((s.2 403 x1) * (s.1 400 6))) ∧ ((¬ x2 = 0 → Q (((s.1 400 8) * (gfar x2 ((s.2 403 x1) * (s.1 400 6)))) + 0) s) ∧ (x2 = 0 → Q (((s.1 400 8) * (gfar x2 ((s.2 403 x1) * (s.1 400 6)))) + (s.1 400 9)) s))) : gWL X G s 0 [(0, gR G 400), (1, vi x1), (2, vi x2)] [] := by
  refine g_aload_n hX dX8_shapeCost_0 0 rfl ?_
  refine g_getI hX sh_400 8 rfl fl_X8_35 dX8_shapeCost_1 ?_
  refine g_iload_n hX dX8_shapeCost_4 2 rfl ?_
  refine g_aload_n hX dX8_shapeCost_5 0 rfl ?_
  refine g_getR hX sh_400 2 rfl fl_X8_16 dX8_shapeCost_6 ?_
  refine g_iload_n hX dX8_shapeCost_9 1 rfl ?_
  obtain ⟨h1, h⟩ := h
  refine g_iald hX sh_403 h1 (by decide) dX8_shapeCost_10 ?_
  refine g_aload_n hX dX8_shapeCost_11 0 rfl ?_
  refine g_getI hX sh_400 6 rfl fl_X8_28 dX8_shapeCost_12 ?_
  refine g_imul hX dX8_shapeCost_15 ?_
  obtain ⟨h2, h⟩ := h
  obtain ⟨h3, h⟩ := h
  refine g_cSf (As := [vi x2, vi ((s.2 403 x1) * (s.1 400 6))]) hX (fun l => c_X8_far l hX.inj s x2 ((s.2 403 x1) * (s.1 400 6)) hs h2 h3) cv_X8_110 (by decide) rfl (Nat.le_of_ble_eq_true rfl) dX8_shapeCost_16 rfl (fun g4 => ?_)
  refine g_imul hX dX8_shapeCost_19 ?_
  refine g_iload_n hX dX8_shapeCost_20 2 rfl ?_
  refine g_ifne (tgt := 31) hX h2 dX8_shapeCost_21 (by decide) (fun c5 => ?_) (fun c5 => ?_)
  · replace h := h.1 c5
    refine g_iconst hX dX8_shapeCost_31 ?_
    refine g_iadd hX dX8_shapeCost_32 ?_
    exact g_iret hX hE dX8_shapeCost_33 ⟨h, hs⟩
  · replace h := h.2 (gnn c5)
    refine g_aload_n hX dX8_shapeCost_24 0 rfl ?_
    refine g_getI hX sh_400 9 rfl fl_X8_38 dX8_shapeCost_25 ?_
    refine g_goto (tgt := 32) hX dX8_shapeCost_28 (by decide) ?_
    refine g_iadd hX dX8_shapeCost_32 ?_
    exact g_iret hX hE dX8_shapeCost_33 ⟨h, hs⟩
set_option maxRecDepth 100000 in
set_option maxHeartbeats 4000000 in
theorem c_X8_shapeCost (l : Launch) {G : gG} (hG : gInj G) (s : gS) (x1 : Int) (x2 : Int) (p0 : gRg s) (p1 : mMs s) (p2 : 0 ≤ x1 ∧ x1 < 144) (p3 : 0 ≤ x2 ∧ x2 ≤ 120) (p4 : 1 ≤ (s.2 403 x1) ∧ (s.2 403 x1) ≤ 8) : gMet l G yX8_shapeCost cX8_shapeCost 3 (some .int) 2 [gR G 400, vi x1, vi x2] s (gPi (fun v s' => (v = (gsc (s.1 400 6) (s.1 400 8) (s.1 400 9) x2 (s.2 403 x1)) ∧ s' = s) ∧ gRg s')) := by
  refine gMet_of (plainFor_of_name (by decide)) hG (Nat.le_of_ble_eq_true rfl) (fun X hX hE => ?_)
  refine bk_X8_shapeCost_0 hX hE s p0 x1 x2  ?_
  have hd := gmul_bd (a := s.2 403 x1) (b := s.1 400 6) (A := 8) (B := 8) (by omega) (by have := p1.1; omega)
  have hf : gfar x2 (s.2 403 x1 * s.1 400 6) = gabs (x2 - s.2 403 x1 * s.1 400 6) := gfar_abs _ _
  refine ⟨p2, rng_of (by omega) (by omega), rng_of (by omega) (by omega), fun h => ⟨?_, rfl⟩, fun h => ⟨?_, rfl⟩⟩
  · unfold gsc; rw [if_neg h, hf]
  · unfold gsc; rw [if_pos h, hf]
set_option maxRecDepth 100000 in
set_option maxHeartbeats 4000000 in
theorem bk_X8_place_0 {X : gX} {G : gG} (hX : gOk X G cX8_place 3 RX8 (some .int) 1) {Q : Int → gS → Prop} (hE : gEnd X G (gPi (fun v s' => Q v s' ∧ gRg s'))) (s : gS) (hs : gRg s) (x1 : Int) (x2 : Int)  (h : Q ((121 * x1) + x2) s) : gWL X G s 0 [(0, gR G 400), (1, vi x1), (2, vi x2)] [] := by
  refine g_bipush hX dX8_place_0 rfl ?_
  refine g_iload_n hX dX8_place_2 1 rfl ?_
  refine g_imul hX dX8_place_3 ?_
  refine g_iload_n hX dX8_place_4 2 rfl ?_
  refine g_iadd hX dX8_place_5 ?_
  exact g_iret hX hE dX8_place_6 ⟨h, hs⟩
set_option maxRecDepth 100000 in
set_option maxHeartbeats 4000000 in
theorem c_X8_place (l : Launch) {G : gG} (hG : gInj G) (s : gS) (x1 : Int) (x2 : Int) (p0 : gRg s) : gMet l G yX8_place cX8_place 3 (some .int) 1 [gR G 400, vi x1, vi x2] s (gPi (fun v s' => (v = ((121 * x1) + x2) ∧ s' = s) ∧ gRg s')) := by
  refine gMet_of (plainFor_of_name (by decide)) hG (Nat.le_of_ble_eq_true rfl) (fun X hX hE => ?_)
  refine bk_X8_place_0 hX hE s p0 x1 x2  ?_
  exact ⟨rfl, rfl⟩
set_option maxRecDepth 100000 in
set_option maxHeartbeats 4000000 in
theorem bk_X8_takes_0 {X : gX} {G : gG} (hX : gOk X G cX8_takes 13 RX8 none 3) {Q : gS → Prop} (hE : gEnd X G (gPv (fun s' => Q s' ∧ gRg s'))) (s : gS) (hs : gRg s) (x1 : Int) (x2 : Int) (x3 : Int) (x4 : Int)  (h : gWL X G s 6 [(0, gR G 400), (1, vi x1), (2, vi x2), (3, vi x3), (5, vi 0), (6, vi 0)] []) : gWL X G s 0 [(0, gR G 400), (1, vi x1), (2, vi x2), (3, vi x3), (4, vi x4)] [] := by
  refine g_iconst hX dX8_takes_0 ?_
  refine g_istore (loc' := [(5, vi 0), (0, gR G 400), (1, vi x1), (2, vi x2), (3, vi x3), (4, vi x4)]) hX dX8_takes_1 (by decide) rfl ?_
  refine g_iconst hX dX8_takes_3 ?_
  refine g_istore (loc' := [(6, vi 0), (5, vi 0), (0, gR G 400), (1, vi x1), (2, vi x2), (3, vi x3), (4, vi x4)]) hX dX8_takes_4 (by decide) rfl ?_
  exact g_sub [2, 3, 4, 5, 1, 0] rfl h
set_option maxRecDepth 100000 in
set_option maxHeartbeats 4000000 in
theorem bk_X8_takes_6 {X : gX} {G : gG} (hX : gOk X G cX8_takes 13 RX8 none 3) {Q : gS → Prop} (hE : gEnd X G (gPv (fun s' => Q s' ∧ gRg s'))) (s : gS) (hs : gRg s) (x1 : Int) (x2 : Int) (x3 : Int) (x5 : Int) (x6 : Int)  (h : (rng x6) ∧ (rng x3) ∧ ((x3 ≤ x6 → Q s) ∧ (x6 < x3 → gWL X G s 27 [(0, gR G 400), (1, vi x1), (2, vi x2), (3, vi x3), (5, vi x5), (6, vi x6), (7, vi ((24 * x2) + x6)), (8, vi 0), (9, vi 0)] []))) : gWL X G s 6 [(0, gR G 400), (1, vi x1), (2, vi x2), (3, vi x3), (5, vi x5), (6, vi x6)] [] := by
  refine g_iload hX dX8_takes_6 5 rfl ?_
  refine g_iload_n hX dX8_takes_8 3 rfl ?_
  obtain ⟨h1, h⟩ := h
  obtain ⟨h2, h⟩ := h
  refine g_icge (tgt := 257) hX h1 h2 dX8_takes_9 (by decide) (fun c3 => ?_) (fun c3 => ?_)
  · replace h := h.1 c3
    exact g_vret hX hE dX8_takes_257 ⟨h, hs⟩
  · replace h := h.2 (Int.not_le.mp c3)
    refine g_bipush hX dX8_takes_12 rfl ?_
    refine g_iload_n hX dX8_takes_14 2 rfl ?_
    refine g_imul hX dX8_takes_15 ?_
    refine g_iload hX dX8_takes_16 5 rfl ?_
    refine g_iadd hX dX8_takes_18 ?_
    refine g_istore (loc' := [(7, vi ((24 * x2) + x6)), (0, gR G 400), (1, vi x1), (2, vi x2), (3, vi x3), (5, vi x5), (6, vi x6)]) hX dX8_takes_19 (by decide) rfl ?_
    refine g_iconst hX dX8_takes_21 ?_
    refine g_istore (loc' := [(8, vi 0), (7, vi ((24 * x2) + x6)), (0, gR G 400), (1, vi x1), (2, vi x2), (3, vi x3), (5, vi x5), (6, vi x6)]) hX dX8_takes_22 (by decide) rfl ?_
    refine g_iconst hX dX8_takes_24 ?_
    refine g_istore (loc' := [(9, vi 0), (8, vi 0), (7, vi ((24 * x2) + x6)), (0, gR G 400), (1, vi x1), (2, vi x2), (3, vi x3), (5, vi x5), (6, vi x6)]) hX dX8_takes_25 (by decide) rfl ?_
    exact g_sub [3, 4, 5, 6, 7, 8, 2, 1, 0] rfl h
set_option maxRecDepth 100000 in
set_option maxHeartbeats 4000000 in
theorem bk_X8_takes_27 {X : gX} {G : gG} (hX : gOk X G cX8_takes 13 RX8 none 3) {Q : gS → Prop} (hE : gEnd X G (gPv (fun s' => Q s' ∧ gRg s'))) (s : gS) (hs : gRg s) (x1 : Int) (x2 : Int) (x3 : Int) (x5 : Int) (x6 : Int) (x7 : Int) (x8 : Int) (x9 : Int)  (h : (mMs s) ∧ (0 ≤ x7 ∧ x7 < 144) ∧ (0 ≤ x9 ∧ x9 ≤ 120) ∧ (1 ≤ (s.2 403 x7) ∧ (s.2 403 x7) ≤ 8) ∧ (0 ≤ ((121 * (x6 + 1)) + (x5 + x9)) ∧ ((121 * (x6 + 1)) + (x5 + x9)) < 3025) ∧ (0 ≤ ((121 * x6) + x5) ∧ ((121 * x6) + x5) < 3025) ∧ (rng ((x8 + (gsc (s.1 400 6) (s.1 400 8) (s.1 400 9) x9 (s.2 403 x7))) + (s.2 412 ((121 * (x6 + 1)) + (x5 + x9))))) ∧ ((((x8 + (gsc (s.1 400 6) (s.1 400 8) (s.1 400 9) x9 (s.2 403 x7))) + (s.2 412 ((121 * (x6 + 1)) + (x5 + x9)))) = (s.2 412 ((121 * x6) + x5)) → (0 ≤ x6 ∧ x6 < 24) ∧ (rng x5) ∧ (rng x9) ∧ gWL X G (gpA (gpA s 414 x6 x5) 413 x6 x9) 124 [(0, gR G 400), (1, vi x1), (2, vi x2), (3, vi x3), (5, vi x5), (6, vi x6), (7, vi x7), (9, vi x9), (10, vi 0), (11, vi 0), (12, vi x5)] []) ∧ (¬ (((x8 + (gsc (s.1 400 6) (s.1 400 8) (s.1 400 9) x9 (s.2 403 x7))) + (s.2 412 ((121 * (x6 + 1)) + (x5 + x9)))) = (s.2 412 ((121 * x6) + x5))) → (0 ≤ ((120 * x1) + (x5 + x9)) ∧ ((120 * x1) + (x5 + x9)) < 1200) ∧ (-1 ≤ (s.2 406 ((120 * x1) + (x5 + x9))) ∧ (s.2 406 ((120 * x1) + (x5 + x9))) ≤ 4800) ∧ (0 ≤ (s.2 402 x7) ∧ (s.2 402 x7) ≤ 4800) ∧ gWL X G s 27 [(0, gR G 400), (1, vi x1), (2, vi x2), (3, vi x3), (5, vi x5), (6, vi x6), (7, vi x7), (8, vi (x8 + (grc (s.1 400 7) (s.2 406 ((120 * x1) + (x5 + x9))) (s.2 402 x7)))), (9, vi (x9 + 1))] []))) : gWL X G s 27 [(0, gR G 400), (1, vi x1), (2, vi x2), (3, vi x3), (5, vi x5), (6, vi x6), (7, vi x7), (8, vi x8), (9, vi x9)] [] := by
  refine g_iload hX dX8_takes_27 7 rfl ?_
  refine g_aload_n hX dX8_takes_29 0 rfl ?_
  refine g_iload hX dX8_takes_30 6 rfl ?_
  refine g_iload hX dX8_takes_32 8 rfl ?_
  obtain ⟨h1, h⟩ := h
  obtain ⟨h2, h⟩ := h
  obtain ⟨h3, h⟩ := h
  obtain ⟨h4, h⟩ := h
  refine g_cVf (As := [vi x7, vi x9]) hX (fun l => c_X8_shapeCost l hX.inj s x7 x9 hs h1 h2 h3 h4) sh_400 cv_X8_122 (by decide) rfl (Nat.le_of_ble_eq_true rfl) dX8_takes_34 rfl (fun g5 => ?_)
  refine g_iadd hX dX8_takes_37 ?_
  refine g_aload_n hX dX8_takes_38 0 rfl ?_
  refine g_getR hX sh_400 11 rfl fl_X8_44 dX8_takes_39 ?_
  refine g_aload_n hX dX8_takes_42 0 rfl ?_
  refine g_iload hX dX8_takes_43 5 rfl ?_
  refine g_iconst hX dX8_takes_45 ?_
  refine g_iadd hX dX8_takes_46 ?_
  refine g_iload hX dX8_takes_47 4 rfl ?_
  refine g_iload hX dX8_takes_49 8 rfl ?_
  refine g_iadd hX dX8_takes_51 ?_
  refine g_cVf (As := [vi (x6 + 1), vi (x5 + x9)]) hX (fun l => c_X8_place l hX.inj s (x6 + 1) (x5 + x9) hs) sh_400 cv_X8_114 (by decide) rfl (Nat.le_of_ble_eq_true rfl) dX8_takes_52 rfl (fun g6 => ?_)
  obtain ⟨h7, h⟩ := h
  refine g_iald hX sh_412 h7 (by decide) dX8_takes_55 ?_
  refine g_iadd hX dX8_takes_56 ?_
  refine g_aload_n hX dX8_takes_57 0 rfl ?_
  refine g_getR hX sh_400 11 rfl fl_X8_44 dX8_takes_58 ?_
  refine g_aload_n hX dX8_takes_61 0 rfl ?_
  refine g_iload hX dX8_takes_62 5 rfl ?_
  refine g_iload hX dX8_takes_64 4 rfl ?_
  refine g_cVf (As := [vi x6, vi x5]) hX (fun l => c_X8_place l hX.inj s x6 x5 hs) sh_400 cv_X8_114 (by decide) rfl (Nat.le_of_ble_eq_true rfl) dX8_takes_66 rfl (fun g8 => ?_)
  obtain ⟨h9, h⟩ := h
  refine g_iald hX sh_412 h9 (by decide) dX8_takes_69 ?_
  obtain ⟨h10, h⟩ := h
  refine g_iceq (tgt := 96) hX h10 (hs.2 _ _) dX8_takes_70 (by decide) (fun c11 => ?_) (fun c11 => ?_)
  · replace h := h.1 c11
    refine g_aload_n hX dX8_takes_96 0 rfl ?_
    refine g_getR hX sh_400 13 rfl fl_X8_50 dX8_takes_97 ?_
    refine g_iload hX dX8_takes_100 5 rfl ?_
    refine g_iload hX dX8_takes_102 4 rfl ?_
    obtain ⟨h12, h⟩ := h
    obtain ⟨h13, h⟩ := h
    refine g_iast hX sh_414 h12 (by decide) dX8_takes_104 ?_
    refine g_aload_n hX dX8_takes_105 0 rfl ?_
    refine g_getR hX sh_400 12 rfl fl_X8_47 dX8_takes_106 ?_
    refine g_iload hX dX8_takes_109 5 rfl ?_
    refine g_iload hX dX8_takes_111 8 rfl ?_
    obtain ⟨h14, h⟩ := h
    refine g_iast hX sh_413 h12 (by decide) dX8_takes_113 ?_
    refine g_iconst hX dX8_takes_114 ?_
    refine g_istore (loc' := [(10, vi 0), (0, gR G 400), (1, vi x1), (2, vi x2), (3, vi x3), (5, vi x5), (6, vi x6), (7, vi x7), (8, vi x8), (9, vi x9)]) hX dX8_takes_115 (by decide) rfl ?_
    refine g_iconst hX dX8_takes_117 ?_
    refine g_istore (loc' := [(11, vi 0), (10, vi 0), (0, gR G 400), (1, vi x1), (2, vi x2), (3, vi x3), (5, vi x5), (6, vi x6), (7, vi x7), (8, vi x8), (9, vi x9)]) hX dX8_takes_118 (by decide) rfl ?_
    refine g_iload hX dX8_takes_120 6 rfl ?_
    refine g_istore (loc' := [(12, vi x5), (11, vi 0), (10, vi 0), (0, gR G 400), (1, vi x1), (2, vi x2), (3, vi x3), (5, vi x5), (6, vi x6), (7, vi x7), (8, vi x8), (9, vi x9)]) hX dX8_takes_122 (by decide) rfl ?_
    exact g_sub [3, 4, 5, 6, 7, 8, 9, 11, 2, 1, 0] rfl h
  · replace h := h.2 c11
    refine g_iload hX dX8_takes_73 7 rfl ?_
    refine g_aload_n hX dX8_takes_75 0 rfl ?_
    refine g_iload_n hX dX8_takes_76 1 rfl ?_
    refine g_iload hX dX8_takes_77 4 rfl ?_
    refine g_iload hX dX8_takes_79 8 rfl ?_
    refine g_iadd hX dX8_takes_81 ?_
    refine g_iload hX dX8_takes_82 6 rfl ?_
    obtain ⟨h15, h⟩ := h
    obtain ⟨h16, h⟩ := h
    obtain ⟨h17, h⟩ := h
    refine g_cVf (As := [vi x1, vi (x5 + x9), vi x7]) hX (fun l => c_X8_readCost l hX.inj s x1 (x5 + x9) x7 hs h15 h2 h16 h17) sh_400 cv_X8_118 (by decide) rfl (Nat.le_of_ble_eq_true rfl) dX8_takes_84 rfl (fun g18 => ?_)
    refine g_iadd hX dX8_takes_87 ?_
    refine g_istore (loc' := [(8, vi (x8 + (grc (s.1 400 7) (s.2 406 ((120 * x1) + (x5 + x9))) (s.2 402 x7)))), (0, gR G 400), (1, vi x1), (2, vi x2), (3, vi x3), (5, vi x5), (6, vi x6), (7, vi x7), (9, vi x9)]) hX dX8_takes_88 (by decide) rfl ?_
    refine g_iinc (loc' := [(9, vi (x9 + 1)), (8, vi (x8 + (grc (s.1 400 7) (s.2 406 ((120 * x1) + (x5 + x9))) (s.2 402 x7)))), (0, gR G 400), (1, vi x1), (2, vi x2), (3, vi x3), (5, vi x5), (6, vi x6), (7, vi x7)]) hX dX8_takes_90 8 rfl (by decide) rfl ?_
    refine g_goto (tgt := 27) hX dX8_takes_93 (by decide) ?_
    exact g_sub [2, 3, 4, 5, 6, 7, 8, 1, 0] rfl h
set_option maxRecDepth 100000 in
set_option maxHeartbeats 4000000 in
theorem bk_X8_takes_124 {X : gX} {G : gG} (hX : gOk X G cX8_takes 13 RX8 none 3) {Q : gS → Prop} (hE : gEnd X G (gPv (fun s' => Q s' ∧ gRg s'))) (s : gS) (hs : gRg s) (x1 : Int) (x2 : Int) (x3 : Int) (x5 : Int) (x6 : Int) (x7 : Int) (x9 : Int) (x10 : Int) (x11 : Int) (x12 : Int)  (h : (rng x12) ∧ (rng (x5 + x9)) ∧ (((x5 + x9) ≤ x12 → gWL X G s 187 [(0, gR G 400), (1, vi x1), (2, vi x2), (3, vi x3), (5, vi x5), (6, vi x6), (9, vi x9), (10, vi x10), (11, vi x11)] []) ∧ (x12 < (x5 + x9) → (0 ≤ ((120 * x1) + x12) ∧ ((120 * x1) + x12) < 1200) ∧ ((¬ (s.2 406 ((120 * x1) + x12)) = (-1) → (0 ≤ x7 ∧ x7 < 144) ∧ gWL X G s 124 [(0, gR G 400), (1, vi x1), (2, vi x2), (3, vi x3), (5, vi x5), (6, vi x6), (7, vi x7), (9, vi x9), (10, vi (x10 + 1)), (11, vi (x11 + ((s.2 406 ((120 * x1) + x12)) - (s.2 402 x7)))), (12, vi (x12 + 1))] []) ∧ ((s.2 406 ((120 * x1) + x12)) = (-1) → gWL X G s 124 [(0, gR G 400), (1, vi x1), (2, vi x2), (3, vi x3), (5, vi x5), (6, vi x6), (7, vi x7), (9, vi x9), (10, vi x10), (11, vi x11), (12, vi (x12 + 1))] []))))) : gWL X G s 124 [(0, gR G 400), (1, vi x1), (2, vi x2), (3, vi x3), (5, vi x5), (6, vi x6), (7, vi x7), (9, vi x9), (10, vi x10), (11, vi x11), (12, vi x12)] [] := by
  refine g_iload hX dX8_takes_124 10 rfl ?_
  refine g_iload hX dX8_takes_126 4 rfl ?_
  refine g_iload hX dX8_takes_128 7 rfl ?_
  refine g_iadd hX dX8_takes_130 ?_
  obtain ⟨h1, h⟩ := h
  obtain ⟨h2, h⟩ := h
  refine g_icge (tgt := 187) hX h1 h2 dX8_takes_131 (by decide) (fun c3 => ?_) (fun c3 => ?_)
  · replace h := h.1 c3
    exact g_sub [0, 1, 2, 3, 4, 5, 7, 8, 9] rfl h
  · replace h := h.2 (Int.not_le.mp c3)
    refine g_aload_n hX dX8_takes_134 0 rfl ?_
    refine g_getR hX sh_400 5 rfl fl_X8_25 dX8_takes_135 ?_
    refine g_bipush hX dX8_takes_138 rfl ?_
    refine g_iload_n hX dX8_takes_140 1 rfl ?_
    refine g_imul hX dX8_takes_141 ?_
    refine g_iload hX dX8_takes_142 10 rfl ?_
    refine g_iadd hX dX8_takes_144 ?_
    obtain ⟨h4, h⟩ := h
    refine g_iald hX sh_406 h4 (by decide) dX8_takes_145 ?_
    refine g_iconst hX dX8_takes_146 ?_
    refine g_icne (tgt := 153) hX (hs.2 _ _) (by unfold rng; omega) dX8_takes_147 (by decide) (fun c5 => ?_) (fun c5 => ?_)
    · replace h := h.1 c5
      refine g_iinc (loc' := [(10, vi (x10 + 1)), (0, gR G 400), (1, vi x1), (2, vi x2), (3, vi x3), (5, vi x5), (6, vi x6), (7, vi x7), (9, vi x9), (11, vi x11), (12, vi x12)]) hX dX8_takes_153 8 rfl (by decide) rfl ?_
      refine g_iload hX dX8_takes_156 9 rfl ?_
      refine g_aload_n hX dX8_takes_158 1 rfl ?_
      refine g_getR hX sh_400 5 rfl fl_X8_25 dX8_takes_159 ?_
      refine g_bipush hX dX8_takes_162 rfl ?_
      refine g_iload_n hX dX8_takes_164 2 rfl ?_
      refine g_imul hX dX8_takes_165 ?_
      refine g_iload hX dX8_takes_166 10 rfl ?_
      refine g_iadd hX dX8_takes_168 ?_
      refine g_iald hX sh_406 h4 (by decide) dX8_takes_169 ?_
      refine g_aload_n hX dX8_takes_170 1 rfl ?_
      refine g_getR hX sh_400 1 rfl fl_X8_13 dX8_takes_171 ?_
      refine g_iload hX dX8_takes_174 7 rfl ?_
      obtain ⟨h6, h⟩ := h
      refine g_iald hX sh_402 h6 (by decide) dX8_takes_176 ?_
      refine g_isub hX dX8_takes_177 ?_
      refine g_iadd hX dX8_takes_178 ?_
      refine g_istore (loc' := [(11, vi (x11 + ((s.2 406 ((120 * x1) + x12)) - (s.2 402 x7)))), (10, vi (x10 + 1)), (0, gR G 400), (1, vi x1), (2, vi x2), (3, vi x3), (5, vi x5), (6, vi x6), (7, vi x7), (9, vi x9), (12, vi x12)]) hX dX8_takes_179 (by decide) rfl ?_
      refine g_iinc (loc' := [(12, vi (x12 + 1)), (11, vi (x11 + ((s.2 406 ((120 * x1) + x12)) - (s.2 402 x7)))), (10, vi (x10 + 1)), (0, gR G 400), (1, vi x1), (2, vi x2), (3, vi x3), (5, vi x5), (6, vi x6), (7, vi x7), (9, vi x9)]) hX dX8_takes_181 10 rfl (by decide) rfl ?_
      refine g_goto (tgt := 124) hX dX8_takes_184 (by decide) ?_
      exact g_sub [3, 4, 5, 6, 7, 8, 9, 10, 2, 1, 0] rfl h
    · replace h := h.2 (gnn c5)
      refine g_goto (tgt := 181) hX dX8_takes_150 (by decide) ?_
      refine g_iinc (loc' := [(12, vi (x12 + 1)), (0, gR G 400), (1, vi x1), (2, vi x2), (3, vi x3), (5, vi x5), (6, vi x6), (7, vi x7), (9, vi x9), (10, vi x10), (11, vi x11)]) hX dX8_takes_181 10 rfl (by decide) rfl ?_
      refine g_goto (tgt := 124) hX dX8_takes_184 (by decide) ?_
      exact g_sub [1, 2, 3, 4, 5, 6, 7, 8, 9, 10, 0] rfl h
set_option maxRecDepth 100000 in
set_option maxHeartbeats 4000000 in
theorem bk_X8_takes_187 {X : gX} {G : gG} (hX : gOk X G cX8_takes 13 RX8 none 3) {Q : gS → Prop} (hE : gEnd X G (gPv (fun s' => Q s' ∧ gRg s'))) (s : gS) (hs : gRg s) (x1 : Int) (x2 : Int) (x3 : Int) (x5 : Int) (x6 : Int) (x9 : Int) (x10 : Int) (x11 : Int)  (h : (rng x10) ∧ ((x10 ≤ 0 → (0 ≤ x6 ∧ x6 < 24) ∧ gWL X G (gpA s 416 x6 0) 204 [(0, gR G 400), (1, vi x1), (2, vi x2), (3, vi x3), (5, vi x5), (6, vi x6), (9, vi x9), (10, vi x10), (11, vi x11)] []) ∧ (0 < x10 → (0 ≤ x6 ∧ x6 < 24) ∧ gWL X G (gpA s 416 x6 1) 204 [(0, gR G 400), (1, vi x1), (2, vi x2), (3, vi x3), (5, vi x5), (6, vi x6), (9, vi x9), (10, vi x10), (11, vi x11)] []))) : gWL X G s 187 [(0, gR G 400), (1, vi x1), (2, vi x2), (3, vi x3), (5, vi x5), (6, vi x6), (9, vi x9), (10, vi x10), (11, vi x11)] [] := by
  refine g_aload_n hX dX8_takes_187 0 rfl ?_
  refine g_getR hX sh_400 15 rfl fl_X8_56 dX8_takes_188 ?_
  refine g_iload hX dX8_takes_191 5 rfl ?_
  refine g_iload hX dX8_takes_193 7 rfl ?_
  obtain ⟨h1, h⟩ := h
  refine g_ifle (tgt := 202) hX h1 dX8_takes_195 (by decide) (fun c2 => ?_) (fun c2 => ?_)
  · replace h := h.1 c2
    refine g_iconst hX dX8_takes_202 ?_
    obtain ⟨h3, h⟩ := h
    refine g_zast hX sh_416 h3 (by decide) (Or.inl rfl) dX8_takes_203 ?_
    exact h
  · replace h := h.2 (Int.not_le.mp c2)
    refine g_iconst hX dX8_takes_198 ?_
    refine g_goto (tgt := 203) hX dX8_takes_199 (by decide) ?_
    obtain ⟨h4, h⟩ := h
    refine g_zast hX sh_416 h4 (by decide) (Or.inr rfl) dX8_takes_203 ?_
    exact h
set_option maxRecDepth 100000 in
set_option maxHeartbeats 4000000 in
theorem bk_X8_takes_204 {X : gX} {G : gG} (hX : gOk X G cX8_takes 13 RX8 none 3) {Q : gS → Prop} (hE : gEnd X G (gPv (fun s' => Q s' ∧ gRg s'))) (s : gS) (hs : gRg s) (x1 : Int) (x2 : Int) (x3 : Int) (x5 : Int) (x6 : Int) (x9 : Int) (x10 : Int) (x11 : Int)  (h : (rng x10) ∧ ((¬ x10 = 0 → (rng x11) ∧ ((x11 < 0 → (rng ((x10 - 1) - x11)) ∧ (0 < x10) ∧ (0 ≤ x6 ∧ x6 < 24) ∧ (rng (-(((x10 - 1) - x11).tdiv x10))) ∧ gWL X G (gpA s 415 x6 (-(((x10 - 1) - x11).tdiv x10))) 6 [(0, gR G 400), (1, vi x1), (2, vi x2), (3, vi x3), (5, vi (x5 + x9)), (6, vi (x6 + 1))] []) ∧ (0 ≤ x11 → (0 < x10) ∧ (0 ≤ x6 ∧ x6 < 24) ∧ (rng (x11.tdiv x10)) ∧ gWL X G (gpA s 415 x6 (x11.tdiv x10)) 6 [(0, gR G 400), (1, vi x1), (2, vi x2), (3, vi x3), (5, vi (x5 + x9)), (6, vi (x6 + 1))] []))) ∧ (x10 = 0 → (0 ≤ x6 ∧ x6 < 24) ∧ gWL X G (gpA s 415 x6 0) 6 [(0, gR G 400), (1, vi x1), (2, vi x2), (3, vi x3), (5, vi (x5 + x9)), (6, vi (x6 + 1))] []))) : gWL X G s 204 [(0, gR G 400), (1, vi x1), (2, vi x2), (3, vi x3), (5, vi x5), (6, vi x6), (9, vi x9), (10, vi x10), (11, vi x11)] [] := by
  refine g_aload_n hX dX8_takes_204 0 rfl ?_
  refine g_getR hX sh_400 14 rfl fl_X8_53 dX8_takes_205 ?_
  refine g_iload hX dX8_takes_208 5 rfl ?_
  refine g_iload hX dX8_takes_210 7 rfl ?_
  obtain ⟨h1, h⟩ := h
  refine g_ifne (tgt := 219) hX h1 dX8_takes_212 (by decide) (fun c2 => ?_) (fun c2 => ?_)
  · replace h := h.1 c2
    refine g_iload hX dX8_takes_219 8 rfl ?_
    obtain ⟨h3, h⟩ := h
    refine g_iflt (tgt := 232) hX h3 dX8_takes_221 (by decide) (fun c4 => ?_) (fun c4 => ?_)
    · replace h := h.1 c4
      refine g_iload hX dX8_takes_232 7 rfl ?_
      refine g_iconst hX dX8_takes_234 ?_
      refine g_isub hX dX8_takes_235 ?_
      refine g_iload hX dX8_takes_236 8 rfl ?_
      refine g_isub hX dX8_takes_238 ?_
      refine g_iload hX dX8_takes_239 7 rfl ?_
      obtain ⟨h5, h⟩ := h
      obtain ⟨h6, h⟩ := h
      refine g_idiv hX h5 h1 h6 dX8_takes_241 ?_
      refine g_ineg hX dX8_takes_242 ?_
      obtain ⟨h7, h⟩ := h
      obtain ⟨h8, h⟩ := h
      refine g_iast hX sh_415 h7 (by decide) dX8_takes_243 ?_
      refine g_iload hX dX8_takes_244 4 rfl ?_
      refine g_iload hX dX8_takes_246 6 rfl ?_
      refine g_iadd hX dX8_takes_248 ?_
      refine g_istore (loc' := [(5, vi (x5 + x9)), (0, gR G 400), (1, vi x1), (2, vi x2), (3, vi x3), (6, vi x6), (9, vi x9), (10, vi x10), (11, vi x11)]) hX dX8_takes_249 (by decide) rfl ?_
      refine g_iinc (loc' := [(6, vi (x6 + 1)), (5, vi (x5 + x9)), (0, gR G 400), (1, vi x1), (2, vi x2), (3, vi x3), (9, vi x9), (10, vi x10), (11, vi x11)]) hX dX8_takes_251 5 rfl (by decide) rfl ?_
      refine g_goto (tgt := 6) hX dX8_takes_254 (by decide) ?_
      exact g_sub [2, 3, 4, 5, 1, 0] rfl h
    · replace h := h.2 (Int.not_lt.mp c4)
      refine g_iload hX dX8_takes_224 8 rfl ?_
      refine g_iload hX dX8_takes_226 7 rfl ?_
      obtain ⟨h9, h⟩ := h
      refine g_idiv hX h3 h1 h9 dX8_takes_228 ?_
      refine g_goto (tgt := 243) hX dX8_takes_229 (by decide) ?_
      obtain ⟨h10, h⟩ := h
      obtain ⟨h11, h⟩ := h
      refine g_iast hX sh_415 h10 (by decide) dX8_takes_243 ?_
      refine g_iload hX dX8_takes_244 4 rfl ?_
      refine g_iload hX dX8_takes_246 6 rfl ?_
      refine g_iadd hX dX8_takes_248 ?_
      refine g_istore (loc' := [(5, vi (x5 + x9)), (0, gR G 400), (1, vi x1), (2, vi x2), (3, vi x3), (6, vi x6), (9, vi x9), (10, vi x10), (11, vi x11)]) hX dX8_takes_249 (by decide) rfl ?_
      refine g_iinc (loc' := [(6, vi (x6 + 1)), (5, vi (x5 + x9)), (0, gR G 400), (1, vi x1), (2, vi x2), (3, vi x3), (9, vi x9), (10, vi x10), (11, vi x11)]) hX dX8_takes_251 5 rfl (by decide) rfl ?_
      refine g_goto (tgt := 6) hX dX8_takes_254 (by decide) ?_
      exact g_sub [2, 3, 4, 5, 1, 0] rfl h
  · replace h := h.2 (gnn c2)
    refine g_iconst hX dX8_takes_215 ?_
    refine g_goto (tgt := 243) hX dX8_takes_216 (by decide) ?_
    obtain ⟨h12, h⟩ := h
    refine g_iast hX sh_415 h12 (by decide) dX8_takes_243 ?_
    refine g_iload hX dX8_takes_244 4 rfl ?_
    refine g_iload hX dX8_takes_246 6 rfl ?_
    refine g_iadd hX dX8_takes_248 ?_
    refine g_istore (loc' := [(5, vi (x5 + x9)), (0, gR G 400), (1, vi x1), (2, vi x2), (3, vi x3), (6, vi x6), (9, vi x9), (10, vi x10), (11, vi x11)]) hX dX8_takes_249 (by decide) rfl ?_
    refine g_iinc (loc' := [(6, vi (x6 + 1)), (5, vi (x5 + x9)), (0, gR G 400), (1, vi x1), (2, vi x2), (3, vi x3), (9, vi x9), (10, vi x10), (11, vi x11)]) hX dX8_takes_251 5 rfl (by decide) rfl ?_
    refine g_goto (tgt := 6) hX dX8_takes_254 (by decide) ?_
    exact g_sub [2, 3, 4, 5, 1, 0] rfl h
set_option maxRecDepth 100000 in
set_option maxHeartbeats 4000000 in
theorem c_X8_takes (l : Launch) {G : gG} (hG : gInj G) (s : gS) (x1 : Int) (x2 : Int) (x3 : Int) (x4 : Int) (p0 : gRg s) (p1 : mMs s) (p2 : 0 ≤ x1 ∧ x1 < 10) (p3 : 0 ≤ x2 ∧ x2 < 6) (p4 : 0 ≤ x3 ∧ x3 ≤ 24) (p5 : 0 ≤ x4 ∧ x4 ≤ 120) (p6 : mPR s x1 x2 x3 x4) (p7 : mDP s x1 x2 x3 x4) (p8 : mBd s x3 x4) : gMet l G yX8_takes cX8_takes 13 none 3 [gR G 400, vi x1, vi x2, vi x3, vi x4] s (gPv (fun s' => (mtook s s' x1 x2 x3 x4) ∧ gRg s')) := by
  refine gMet_of (plainFor_of_name (by decide)) hG (Nat.le_of_ble_eq_true rfl) (fun X hX hE => ?_)
  refine bk_X8_takes_0 hX hE s p0 x1 x2 x3 x4  ?_
  obtain ⟨m0, m1, m2, m3, m4⟩ := p1
  have hpr := p6
  refine gloop (α := gS × (Int → Int)) (hi := x3) (fun k a => 0 ≤ k ∧ gRg a.1 ∧ a.1.1 = s.1 ∧ (∀ q : Int, ¬ (413 ≤ q ∧ q ≤ 416) → a.1.2 q = s.2 q) ∧ (0 ≤ a.2 k ∧ a.2 k ≤ x4) ∧ gTk (mM s) (mRdF s x1) (mPtF s x2) (mBtF s x2) k x4 (mB s) a.2 (a.1.2 413) ∧ ∀ q : Int, 0 ≤ q → q < k → mnote a.1 (mRdF s x1) (mPtF s x2) q (a.2 q)) (fun k a => gWL X G a.1 6 [(0, gR G 400), (1, vi x1), (2, vi x2), (3, vi x3), (5, vi (a.2 k)), (6, vi k)] []) ?_ ?_ 0 (s, fun _ => 0) p4.1 ⟨by omega, p0, rfl, fun _ _ => rfl, by show (0 : Int) ≤ 0 ∧ (0 : Int) ≤ _; omega, ⟨rfl, fun k k0 k1 => by omega⟩, fun q q0 q1 => by omega⟩
  · intro k ⟨t, pos⟩ hk ⟨hk0, hg, e1, e2, hp, htk, hn⟩ next
    dsimp only at hg e1 e2 hp htk hn ⊢
    have e402 : t.2 402 = s.2 402 := e2 _ (by decide)
    have e403 : t.2 403 = s.2 403 := e2 _ (by decide)
    have e406 : t.2 406 = s.2 406 := e2 _ (by decide)
    have e412 : t.2 412 = s.2 412 := e2 _ (by decide)
    have hpk := hpr.1 k hk0 hk
    have hmn := p7.2 k (pos k) hk0 hk hp.1 hp.2
    refine bk_X8_takes_6 hX hE t hg x1 x2 x3 (pos k) k ⟨rng_of (by omega) (by omega), rng_of (by omega) (by omega), fun h => by omega, fun _ => ?_⟩
    -- behind the search
    have hexit : ∀ v : Int, (0 ≤ v ∧ v ≤ x4 - pos k) → gCst (mM s) (mRdF s x1) (mPtF s x2) (mBtF s x2) k (pos k) v + mB s (k + 1) (pos k + v) = mB s k (pos k) → (∀ a : Int, 0 ≤ a → a < v → gCst (mM s) (mRdF s x1) (mPtF s x2) (mBtF s x2) k (pos k) a + mB s (k + 1) (pos k + a) ≠ mB s k (pos k)) → gWL X G (gpA (gpA t 414 k (pos k)) 413 k v) 124 [(0, gR G 400), (1, vi x1), (2, vi x2), (3, vi x3), (5, vi (pos k)), (6, vi k), (7, vi ((24 * x2) + k)), (9, vi v), (10, vi 0), (11, vi 0), (12, vi (pos k))] [] := by
      intro v hv hF hnF
      obtain ⟨u, hu⟩ : ∃ u : gS, u = gpA (gpA t 414 k (pos k)) 413 k v := ⟨_, rfl⟩
      have hgu : gRg u := by rw [hu]; exact gRg_A (gRg_A hg (rng_of (by omega) (by omega))) (rng_of (by omega) (by omega))
      have eu1 : u.1 = s.1 := by rw [hu]; exact e1
      have eu2 : ∀ q : Int, q ≠ 413 → q ≠ 414 → u.2 q = t.2 q := fun q q3 q4 => by rw [hu]; funext i; rw [gpA_nk q3, gpA_nk q4]
      have eu406 : u.2 406 = s.2 406 := (eu2 _ (by decide) (by decide)).trans e406
      have eu402 : u.2 402 = s.2 402 := (eu2 _ (by decide) (by decide)).trans e402
      rw [← hu]
      -- the next note
      have hend : ∀ ho of : Int, ho = (if gof (fun q => mRdF s x1 (pos k + q)) (mPtF s x2 k) v = -100000 then 0 else 1) → of = (if gof (fun q => mRdF s x1 (pos k + q)) (mPtF s x2 k) v = -100000 then 0 else gof (fun q => mRdF s x1 (pos k + q)) (mPtF s x2 k) v) → rng of → gWL X G (gpA (gpA u 416 k ho) 415 k of) 6 [(0, gR G 400), (1, vi x1), (2, vi x2), (3, vi x3), (5, vi (pos k + v)), (6, vi (k + 1))] [] := by
        intro ho of hho hof hrof
        have hrho : rng ho := by rw [hho]; split <;> exact rng_of (by omega) (by omega)
        have h413 : ∀ q, (gpA (gpA u 416 k ho) 415 k of).2 413 q = if q = k then v else t.2 413 q := fun q => by
          rw [gpA_nk (by decide), gpA_nk (by decide), hu]
          by_cases e : q = k
          · subst e; rw [gpA_eq, if_pos rfl]
          · rw [gpA_ni e, gpA_nk (by decide), if_neg e]
        have hz := next (gpA (gpA u 416 k ho) 415 k of, fun q => if q = k + 1 then pos k + v else pos q) ⟨by omega, gRg_A (gRg_A hgu hrho) hrof, eu1, fun q hq => ?_, ?_, ⟨?_, fun q q0 q1 => ?_⟩, fun q q0 q1 => ?_⟩
        · have ez : (fun q => if q = k + 1 then pos k + v else pos q) (k + 1) = pos k + v := if_pos rfl
          dsimp only at hz ez
          rw [ez] at hz
          exact hz
        · show (gpA (gpA u 416 k ho) 415 k of).2 q = s.2 q
          rw [← e2 q hq, ← eu2 q (by omega) (by omega)]
          funext i
          rw [gpA_nk (by omega), gpA_nk (by omega)]
        · show 0 ≤ (if k + 1 = k + 1 then pos k + v else _) ∧ (if k + 1 = k + 1 then pos k + v else _) ≤ x4
          rw [if_pos rfl]; omega
        · show (if (0 : Int) = k + 1 then pos k + v else pos 0) = 0
          rw [if_neg (by omega)]; exact htk.1
        · show (0 ≤ (gpA (gpA u 416 k ho) 415 k of).2 413 q ∧ (gpA (gpA u 416 k ho) 415 k of).2 413 q ≤ x4 - (if q = k + 1 then pos k + v else pos q)) ∧ (if q + 1 = k + 1 then pos k + v else pos (q + 1)) = (if q = k + 1 then pos k + v else pos q) + (gpA (gpA u 416 k ho) 415 k of).2 413 q ∧ gCst (mM s) (mRdF s x1) (mPtF s x2) (mBtF s x2) q (if q = k + 1 then pos k + v else pos q) ((gpA (gpA u 416 k ho) 415 k of).2 413 q) + mB s (q + 1) ((if q = k + 1 then pos k + v else pos q) + (gpA (gpA u 416 k ho) 415 k of).2 413 q) = mB s q (if q = k + 1 then pos k + v else pos q) ∧ ∀ a : Int, 0 ≤ a → a < (gpA (gpA u 416 k ho) 415 k of).2 413 q → gCst (mM s) (mRdF s x1) (mPtF s x2) (mBtF s x2) q (if q = k + 1 then pos k + v else pos q) a + mB s (q + 1) ((if q = k + 1 then pos k + v else pos q) + a) ≠ mB s q (if q = k + 1 then pos k + v else pos q)
          rw [if_neg (by omega : ¬ q = k + 1), h413]
          by_cases e : q = k
          · subst e
            rw [if_pos rfl, if_pos rfl]
            exact ⟨by omega, rfl, hF, hnF⟩
          · rw [if_neg e, if_neg (by omega)]
            exact htk.2 q q0 (by omega)
        · show mnote (gpA (gpA u 416 k ho) 415 k of) (mRdF s x1) (mPtF s x2) q (if q = k + 1 then pos k + v else pos q)
          rw [if_neg (by omega : ¬ q = k + 1)]
          unfold mnote
          rw [h413]
          by_cases e : q = k
          · subst e
            rw [if_pos rfl, gpA_eq, gpA_nk (by decide), gpA_nk (by decide), gpA_nk (by decide), gpA_eq, hu, gpA_nk (by decide), gpA_eq]
            exact ⟨rfl, hho, hof⟩
          · rw [if_neg e, gpA_nk (by decide), gpA_nk (by decide), gpA_nk (by decide), gpA_ni e, gpA_ni e, gpA_nk (by decide), hu, gpA_nk (by decide), gpA_ni e, gpA_nk (by decide), gpA_nk (by decide), gpA_nk (by decide), gpA_nk (by decide)]
            exact hn q q0 (by omega)
      -- off
      refine gloop (α := Int × Int) (hi := pos k + v) (fun i a => pos k ≤ i ∧ a.1 = gsum (fun q => if mRdF s x1 (pos k + q) = -1 then 0 else 1) (i - pos k) ∧ a.2 = gsum (fun q => if mRdF s x1 (pos k + q) = -1 then 0 else mRdF s x1 (pos k + q) - mPtF s x2 k) (i - pos k)) (fun i a => gWL X G u 124 [(0, gR G 400), (1, vi x1), (2, vi x2), (3, vi x3), (5, vi (pos k)), (6, vi k), (7, vi ((24 * x2) + k)), (9, vi v), (10, vi a.1), (11, vi a.2), (12, vi i)] []) ?_ ?_ (pos k) (0, 0) (by omega) ⟨by omega, by rw [show pos k - pos k = 0 by omega]; rfl, by rw [show pos k - pos k = 0 by omega]; rfl⟩
      · intro i ⟨c, o⟩ hi ⟨hi0, hc, ho⟩ next2
        dsimp only at hc ho ⊢
        have er : s.2 406 ((120 * x1) + i) = mRdF s x1 (pos k + (i - pos k)) := by unfold mRdF; rw [show pos k + (i - pos k) = i by omega]
        refine bk_X8_takes_124 hX hE u hgu x1 x2 x3 (pos k) k ((24 * x2) + k) v c o i ⟨rng_of (by omega) (by omega), rng_of (by omega) (by omega), fun h => by omega, fun _ => ⟨by omega, fun h => ⟨by omega, ?_⟩, fun h => ?_⟩⟩
        · rw [eu406] at h ⊢
          rw [eu402]
          rw [er] at h
          refine next2 (c + 1, o + (s.2 406 ((120 * x1) + i) - s.2 402 ((24 * x2) + k))) ⟨by omega, ?_, ?_⟩
          · show c + 1 = _
            rw [show i + 1 - pos k = (i - pos k) + 1 by omega, gsum_s _ (by omega), if_neg h, hc]
          · show o + _ = _
            rw [show i + 1 - pos k = (i - pos k) + 1 by omega, gsum_s _ (by omega), if_neg h, ho, er]
            rfl
        · rw [eu406, er] at h
          refine next2 (c, o) ⟨by omega, ?_, ?_⟩
          · show c = _
            rw [show i + 1 - pos k = (i - pos k) + 1 by omega, gsum_s _ (by omega), if_pos h, hc]; omega
          · show o = _
            rw [show i + 1 - pos k = (i - pos k) + 1 by omega, gsum_s _ (by omega), if_pos h, ho]; omega
      · intro ⟨c, o⟩ ⟨hi0, hc, ho⟩
        dsimp only at hc ho ⊢
        rw [show pos k + v - pos k = v by omega] at hc ho
        have hrdv : ∀ q : Int, 0 ≤ q → q < v → -1 ≤ mRdF s x1 (pos k + q) ∧ mRdF s x1 (pos k + q) ≤ 4800 := fun q q0 q1 => hpr.2 (pos k + q) (by omega) (by omega)
        have hcb := gsum_bd (f := fun q => if mRdF s x1 (pos k + q) = -1 then 0 else 1) (n := v) (lo := 0) (hi := 1) hv.1 (fun q _ _ => by split <;> omega)
        have hpt : 0 ≤ mPtF s x2 k ∧ mPtF s x2 k ≤ 4800 := hpk.1
        have hob := gsum_bd (f := fun q => if mRdF s x1 (pos k + q) = -1 then 0 else mRdF s x1 (pos k + q) - mPtF s x2 k) (n := v) (lo := -4800) (hi := 4800) hv.1 (fun q q0 q1 => by have := hrdv q q0 q1; split <;> omega)
        have hgb := gof_bd (rd := fun q => mRdF s x1 (pos k + q)) (p := mPtF s x2 k) (t := v) hv.1 hpt hrdv
        have hgo : gof (fun q => mRdF s x1 (pos k + q)) (mPtF s x2 k) v = if c = 0 then -100000 else o / c := by unfold gof; rw [← hc, ← ho]
        rw [← hc] at hcb
        rw [← ho] at hob
        -- 187, then 204
        have h204 : ∀ hof' : Int, hof' = (if gof (fun q => mRdF s x1 (pos k + q)) (mPtF s x2 k) v = -100000 then 0 else 1) → gWL X G (gpA u 416 k hof') 204 [(0, gR G 400), (1, vi x1), (2, vi x2), (3, vi x3), (5, vi (pos k)), (6, vi k), (9, vi v), (10, vi c), (11, vi o)] [] := by
          intro hof' hh
          have hrho : rng hof' := by rw [hh]; split <;> exact rng_of (by omega) (by omega)
          refine bk_X8_takes_204 hX hE _ (gRg_A hgu hrho) x1 x2 x3 (pos k) k v c o ⟨rng_of (by omega) (by omega), fun h => ⟨rng_of (by omega) (by omega), fun h2 => ?_, fun h2 => ?_⟩, fun h => ⟨by omega, ?_⟩⟩
          · have hfl := gfloor (o := o) (c := c) (by omega) h2
            rw [if_neg h] at hgo
            have hne : ¬ gof (fun q => mRdF s x1 (pos k + q)) (mPtF s x2 k) v = -100000 := by
              intro z
              rcases hgb with _ | q
              · have : -4800 ≤ o / c := Int.le_ediv_of_mul_le (by omega) (by
                  have := gsum_bd (f := fun q => if mRdF s x1 (pos k + q) = -1 then 0 else 1) (n := v) (lo := 0) (hi := 1) hv.1 (fun q _ _ => by split <;> omega)
                  have key := giter_ind (f := fun i a => a + (if mRdF s x1 (pos k + i) = -1 then 0 else mRdF s x1 (pos k + i) - mPtF s x2 k)) (a := (0 : Int)) (N := v) (fun i a => -4800 * gsum (fun q => if mRdF s x1 (pos k + q) = -1 then 0 else 1) i ≤ a) (by rw [gsum_0]; omega) (fun i a i0 i1 ha => by
                    have := hrdv i i0 i1
                    rw [gsum_s _ i0]
                    by_cases e : mRdF s x1 (pos k + i) = -1
                    · rw [if_pos e, if_pos e]; omega
                    · rw [if_neg e, if_neg e]; omega) v hv.1 (Int.le_refl v)
                  have key' : -4800 * gsum (fun q => if mRdF s x1 (pos k + q) = -1 then 0 else 1) v ≤ gsum (fun q => if mRdF s x1 (pos k + q) = -1 then 0 else mRdF s x1 (pos k + q) - mPtF s x2 k) v := key
                  rw [← hc, ← ho] at key'
                  exact key')
                omega
              · omega
            refine ⟨rng_of (by omega) (by omega), by omega, by omega, ?_, ?_⟩
            · rw [hfl, ← hgo]; exact rng_of (by omega) (by omega)
            · rw [hfl]
              exact hend _ _ hh (by rw [if_neg hne, hgo]) (by rw [← hgo]; exact rng_of (by omega) (by omega))
          · have htd : o.tdiv c = o / c := Int.tdiv_eq_ediv_of_nonneg h2
            rw [if_neg h] at hgo
            have hnn : 0 ≤ o / c := Int.ediv_nonneg h2 (by omega)
            have hne : ¬ gof (fun q => mRdF s x1 (pos k + q)) (mPtF s x2 k) v = -100000 := by omega
            refine ⟨by omega, by omega, ?_, ?_⟩
            · rw [htd, ← hgo]; exact rng_of (by omega) (by omega)
            · rw [htd]
              exact hend _ _ hh (by rw [if_neg hne, hgo]) (by rw [← hgo]; exact rng_of (by omega) (by omega))
          · rw [if_pos h] at hgo
            exact hend _ _ hh (by rw [if_pos hgo]) rng_0
        have h187 : gWL X G u 187 [(0, gR G 400), (1, vi x1), (2, vi x2), (3, vi x3), (5, vi (pos k)), (6, vi k), (9, vi v), (10, vi c), (11, vi o)] [] := by
          refine bk_X8_takes_187 hX hE u hgu x1 x2 x3 (pos k) k v c o ⟨rng_of (by omega) (by omega), fun h => ⟨by omega, h204 0 ?_⟩, fun h => ⟨by omega, h204 1 ?_⟩⟩
          · rw [hgo, if_pos (by omega : c = 0), if_pos rfl]
          · rw [if_neg]
            intro z
            rcases hgb with _ | q
            · rw [hgo, if_neg (by omega)] at z
              have : -4800 ≤ o / c := Int.le_ediv_of_mul_le (by omega) (by
                have key := giter_ind (f := fun i a => a + (if mRdF s x1 (pos k + i) = -1 then 0 else mRdF s x1 (pos k + i) - mPtF s x2 k)) (a := (0 : Int)) (N := v) (fun i a => -4800 * gsum (fun q => if mRdF s x1 (pos k + q) = -1 then 0 else 1) i ≤ a) (by rw [gsum_0]; omega) (fun i a i0 i1 ha => by
                  have := hrdv i i0 i1
                  rw [gsum_s _ i0]
                  by_cases e : mRdF s x1 (pos k + i) = -1
                  · rw [if_pos e, if_pos e]; omega
                  · rw [if_neg e, if_neg e]; omega) v hv.1 (Int.le_refl v)
                have key' : -4800 * gsum (fun q => if mRdF s x1 (pos k + q) = -1 then 0 else 1) v ≤ gsum (fun q => if mRdF s x1 (pos k + q) = -1 then 0 else mRdF s x1 (pos k + q) - mPtF s x2 k) v := key
                rw [← hc, ← ho] at key'
                exact key')
              omega
            · omega
        exact bk_X8_takes_124 hX hE u hgu x1 x2 x3 (pos k) k ((24 * x2) + k) v c o _ ⟨rng_of (by omega) (by omega), rng_of (by omega) (by omega), fun _ => h187, fun h => by omega⟩
    -- the search
    obtain ⟨⟨j, j0, j1, hj⟩, -⟩ := hmn
    have hstep : ∀ (i c : Int), i ≤ j → (0 ≤ i ∧ c = gsum (fun q => grc (s.1 400 7) (mRdF s x1 (pos k + q)) (mPtF s x2 k)) i ∧ ∀ a : Int, 0 ≤ a → a < i → gCst (mM s) (mRdF s x1) (mPtF s x2) (mBtF s x2) k (pos k) a + mB s (k + 1) (pos k + a) ≠ mB s k (pos k)) → gWL X G t 27 [(0, gR G 400), (1, vi x1), (2, vi x2), (3, vi x3), (5, vi (pos k)), (6, vi k), (7, vi ((24 * x2) + k)), (8, vi c), (9, vi i)] [] := by
      have hone : ∀ (i c : Int), i ≤ j → (0 ≤ i ∧ c = gsum (fun q => grc (s.1 400 7) (mRdF s x1 (pos k + q)) (mPtF s x2 k)) i ∧ ∀ a : Int, 0 ≤ a → a < i → gCst (mM s) (mRdF s x1) (mPtF s x2) (mBtF s x2) k (pos k) a + mB s (k + 1) (pos k + a) ≠ mB s k (pos k)) → (i < j → ¬ gCst (mM s) (mRdF s x1) (mPtF s x2) (mBtF s x2) k (pos k) i + mB s (k + 1) (pos k + i) = mB s k (pos k) → gWL X G t 27 [(0, gR G 400), (1, vi x1), (2, vi x2), (3, vi x3), (5, vi (pos k)), (6, vi k), (7, vi ((24 * x2) + k)), (8, vi (c + grc (s.1 400 7) (mRdF s x1 (pos k + i)) (mPtF s x2 k))), (9, vi (i + 1))] []) → gWL X G t 27 [(0, gR G 400), (1, vi x1), (2, vi x2), (3, vi x3), (5, vi (pos k)), (6, vi k), (7, vi ((24 * x2) + k)), (8, vi c), (9, vi i)] [] := by
        intro i c hij ⟨hi0, hc, hno⟩ hnext
        have hF : (c + gsc (s.1 400 6) (s.1 400 8) (s.1 400 9) i (s.2 403 ((24 * x2) + k))) + s.2 412 ((121 * (k + 1)) + (pos k + i)) = gCst (mM s) (mRdF s x1) (mPtF s x2) (mBtF s x2) k (pos k) i + mB s (k + 1) (pos k + i) := by
          unfold gCst; rw [hc]; rfl
        have hb := gCst_bd (M := mM s) (rd := mRdF s x1) (pt := mPtF s x2) (bt := mBtF s x2) (k := k) (i := pos k) (t := i) m0 m1 m2 m3 (by omega) hpk.2
        have hB := p8 (k + 1) (pos k + i) (by omega) (by omega) (by omega) (by omega)
        have hB' : 0 ≤ mB s (k + 1) (pos k + i) ∧ mB s (k + 1) (pos k + i) ≤ 1000000000 := hB
        refine bk_X8_takes_27 hX hE t hg x1 x2 x3 (pos k) k ((24 * x2) + k) c i ⟨by unfold mMs; rw [e1]; exact ⟨m0, m1, m2, m3, m4⟩, by omega, by omega, by rw [e403]; exact hpk.2, by omega, by omega, by rw [e1, e403, e412, hF]; exact rng_of (by omega) (by omega), fun h => ⟨by omega, rng_of (by omega) (by omega), rng_of (by omega) (by omega), ?_⟩, fun h => ?_⟩
        · rw [e1, e403, e412, hF] at h
          exact hexit i (by omega) h hno
        · rw [e1, e403, e412, hF] at h
          have hlt : i < j := by
            rcases Int.lt_or_le i j with q | q
            · exact q
            · have e : i = j := by omega
              rw [e] at h
              exact absurd hj.symm h
          refine ⟨by omega, by rw [e406]; exact hpr.2 (pos k + i) (by omega) (by omega), by rw [e402]; exact hpk.1, ?_⟩
          rw [e1, e406, e402]
          exact hnext hlt h
      refine gloop (α := Int) (hi := j) _ _ ?_ ?_
      · intro i c hi hI next2
        refine hone i c (by omega) hI (fun _ hne => next2 _ ⟨by omega, by rw [gsum_s _ hI.1, hI.2.1], fun a a0 a1 => ?_⟩)
        by_cases e : a = i
        · subst e; exact hne
        · exact hI.2.2 a a0 (by omega)
      · intro c hI
        exact hone j c (by omega) hI (fun h _ => by omega)
    exact hstep 0 0 j0 ⟨by omega, rfl, fun a a0 a1 => by omega⟩
  · intro ⟨t, pos⟩ ⟨hk0, hg, e1, e2, hp, htk, hn⟩
    dsimp only at hg e1 e2 hp htk hn ⊢
    exact bk_X8_takes_6 hX hE t hg x1 x2 x3 (pos x3) x3 ⟨rng_of (by omega) (by omega), rng_of (by omega) (by omega), fun _ => ⟨e1, e2, pos, htk, hn⟩, fun h => by omega⟩
end
