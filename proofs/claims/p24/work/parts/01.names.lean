-- ===== PART A: goes FIRST, ahead of the names: the tables' words, and 'selects' of the private methods out of them =====
/-- a private method of a class that the tables say can be made, by its rows of tables_1 -/
def lw_okq (q : MethodName × Nat) : Prop := (q.1.cls ≠ "java/lang/invoke/MethodHandle" ∧ q.1.cls ≠ "java/lang/invoke/VarHandle") ∧ Cond.instantiable q.1.cls q.2 ∈ tables_1 ∧ Cond.privateMethod q.1 ∈ tables_1 ∧ Cond.instanceMethod q.1 ∈ tables_1
theorem lw_p0 : lw_okq (⟨"CopyPlates$Night", "madePlates", "()I"⟩, 6) := ⟨⟨by decide +kernel, by decide +kernel⟩, List.mem_of_getElem? (i := 19) (by decide +kernel), List.mem_of_getElem? (i := 213) (by decide +kernel), List.mem_of_getElem? (i := 214) (by decide +kernel)⟩
theorem lw_p1 : lw_okq (⟨"CopyPlates$Night", "isMade", "(I)Z"⟩, 6) := ⟨⟨by decide +kernel, by decide +kernel⟩, List.mem_of_getElem? (i := 19) (by decide +kernel), List.mem_of_getElem? (i := 217) (by decide +kernel), List.mem_of_getElem? (i := 218) (by decide +kernel)⟩
theorem lw_p2 : lw_okq (⟨"CopyPlates$Night", "piecesThatAre", "(I)I"⟩, 6) := ⟨⟨by decide +kernel, by decide +kernel⟩, List.mem_of_getElem? (i := 19) (by decide +kernel), List.mem_of_getElem? (i := 224) (by decide +kernel), List.mem_of_getElem? (i := 225) (by decide +kernel)⟩
theorem lw_p3 : lw_okq (⟨"CopyPlates$Night", "heldPieces", "()I"⟩, 6) := ⟨⟨by decide +kernel, by decide +kernel⟩, List.mem_of_getElem? (i := 19) (by decide +kernel), List.mem_of_getElem? (i := 228) (by decide +kernel), List.mem_of_getElem? (i := 229) (by decide +kernel)⟩
theorem lw_p4 : lw_okq (⟨"CopyPlates$Night", "replates", "()I"⟩, 6) := ⟨⟨by decide +kernel, by decide +kernel⟩, List.mem_of_getElem? (i := 19) (by decide +kernel), List.mem_of_getElem? (i := 232) (by decide +kernel), List.mem_of_getElem? (i := 233) (by decide +kernel)⟩
theorem lw_p5 : lw_okq (⟨"CopyPlates$Night", "editAtDesks", "()V"⟩, 6) := ⟨⟨by decide +kernel, by decide +kernel⟩, List.mem_of_getElem? (i := 19) (by decide +kernel), List.mem_of_getElem? (i := 290) (by decide +kernel), List.mem_of_getElem? (i := 291) (by decide +kernel)⟩
theorem lw_p6 : lw_okq (⟨"CopyPlates$Piece", "becomeReady", "(I)V"⟩, 10) := ⟨⟨by decide +kernel, by decide +kernel⟩, List.mem_of_getElem? (i := 35) (by decide +kernel), List.mem_of_getElem? (i := 302) (by decide +kernel), List.mem_of_getElem? (i := 303) (by decide +kernel)⟩
theorem lw_p7 : lw_okq (⟨"CopyPlates$Night", "readAtLawyer", "()V"⟩, 6) := ⟨⟨by decide +kernel, by decide +kernel⟩, List.mem_of_getElem? (i := 19) (by decide +kernel), List.mem_of_getElem? (i := 306) (by decide +kernel), List.mem_of_getElem? (i := 307) (by decide +kernel)⟩
theorem lw_p8 : lw_okq (⟨"CopyPlates$Night", "firstAtLawyer", "()I"⟩, 6) := ⟨⟨by decide +kernel, by decide +kernel⟩, List.mem_of_getElem? (i := 19) (by decide +kernel), List.mem_of_getElem? (i := 310) (by decide +kernel), List.mem_of_getElem? (i := 311) (by decide +kernel)⟩
theorem lw_p9 : lw_okq (⟨"CopyPlates$Night", "plateAt", "(I)I"⟩, 6) := ⟨⟨by decide +kernel, by decide +kernel⟩, List.mem_of_getElem? (i := 19) (by decide +kernel), List.mem_of_getElem? (i := 318) (by decide +kernel), List.mem_of_getElem? (i := 319) (by decide +kernel)⟩
theorem lw_p10 : lw_okq (⟨"CopyPlates$Night", "firstByRank", "(I)I"⟩, 6) := ⟨⟨by decide +kernel, by decide +kernel⟩, List.mem_of_getElem? (i := 19) (by decide +kernel), List.mem_of_getElem? (i := 334) (by decide +kernel), List.mem_of_getElem? (i := 335) (by decide +kernel)⟩
theorem lw_p11 : lw_okq (⟨"CopyPlates$Night", "goesAhead", "(II)Z"⟩, 6) := ⟨⟨by decide +kernel, by decide +kernel⟩, List.mem_of_getElem? (i := 19) (by decide +kernel), List.mem_of_getElem? (i := 338) (by decide +kernel), List.mem_of_getElem? (i := 339) (by decide +kernel)⟩
theorem lw_p12 : lw_okq (⟨"CopyPlates$Night", "placeInQueue", "(I)I"⟩, 6) := ⟨⟨by decide +kernel, by decide +kernel⟩, List.mem_of_getElem? (i := 19) (by decide +kernel), List.mem_of_getElem? (i := 354) (by decide +kernel), List.mem_of_getElem? (i := 355) (by decide +kernel)⟩
theorem lw_p13 : lw_okq (⟨"CopyPlates$Night", "placeAtDesk", "(I)I"⟩, 6) := ⟨⟨by decide +kernel, by decide +kernel⟩, List.mem_of_getElem? (i := 19) (by decide +kernel), List.mem_of_getElem? (i := 358) (by decide +kernel), List.mem_of_getElem? (i := 359) (by decide +kernel)⟩
theorem lw_p14 : lw_okq (⟨"CopyPlates$Night", "placeAtLawyer", "(I)I"⟩, 6) := ⟨⟨by decide +kernel, by decide +kernel⟩, List.mem_of_getElem? (i := 19) (by decide +kernel), List.mem_of_getElem? (i := 362) (by decide +kernel), List.mem_of_getElem? (i := 363) (by decide +kernel)⟩
theorem lw_p15 : lw_okq (⟨"CopyPlates$Night", "platesWith", "(I)I"⟩, 6) := ⟨⟨by decide +kernel, by decide +kernel⟩, List.mem_of_getElem? (i := 19) (by decide +kernel), List.mem_of_getElem? (i := 366) (by decide +kernel), List.mem_of_getElem? (i := 367) (by decide +kernel)⟩
def lw_privs_1 : List (MethodName × Nat) := [(⟨"CopyPlates$Night", "madePlates", "()I"⟩, 6), (⟨"CopyPlates$Night", "isMade", "(I)Z"⟩, 6), (⟨"CopyPlates$Night", "piecesThatAre", "(I)I"⟩, 6), (⟨"CopyPlates$Night", "heldPieces", "()I"⟩, 6), (⟨"CopyPlates$Night", "replates", "()I"⟩, 6), (⟨"CopyPlates$Night", "editAtDesks", "()V"⟩, 6), (⟨"CopyPlates$Piece", "becomeReady", "(I)V"⟩, 10), (⟨"CopyPlates$Night", "readAtLawyer", "()V"⟩, 6), (⟨"CopyPlates$Night", "firstAtLawyer", "()I"⟩, 6), (⟨"CopyPlates$Night", "plateAt", "(I)I"⟩, 6), (⟨"CopyPlates$Night", "firstByRank", "(I)I"⟩, 6), (⟨"CopyPlates$Night", "goesAhead", "(II)Z"⟩, 6), (⟨"CopyPlates$Night", "placeInQueue", "(I)I"⟩, 6), (⟨"CopyPlates$Night", "placeAtDesk", "(I)I"⟩, 6), (⟨"CopyPlates$Night", "placeAtLawyer", "(I)I"⟩, 6), (⟨"CopyPlates$Night", "platesWith", "(I)I"⟩, 6)]
theorem lw_r1 : ∀ q ∈ lw_privs_1, lw_okq q := List.forall_mem_cons.mpr ⟨lw_p0, List.forall_mem_cons.mpr ⟨lw_p1, List.forall_mem_cons.mpr ⟨lw_p2, List.forall_mem_cons.mpr ⟨lw_p3, List.forall_mem_cons.mpr ⟨lw_p4, List.forall_mem_cons.mpr ⟨lw_p5, List.forall_mem_cons.mpr ⟨lw_p6, List.forall_mem_cons.mpr ⟨lw_p7, List.forall_mem_cons.mpr ⟨lw_p8, List.forall_mem_cons.mpr ⟨lw_p9, List.forall_mem_cons.mpr ⟨lw_p10, List.forall_mem_cons.mpr ⟨lw_p11, List.forall_mem_cons.mpr ⟨lw_p12, List.forall_mem_cons.mpr ⟨lw_p13, List.forall_mem_cons.mpr ⟨lw_p14, List.forall_mem_cons.mpr ⟨lw_p15, fun _ h => absurd h List.not_mem_nil⟩⟩⟩⟩⟩⟩⟩⟩⟩⟩⟩⟩⟩⟩⟩⟩
theorem lw_p16 : lw_okq (⟨"CopyPlates", "goAheadToPlate", "(I)V"⟩, 6) := ⟨⟨by decide +kernel, by decide +kernel⟩, List.mem_of_getElem? (i := 11) (by decide +kernel), List.mem_of_getElem? (i := 386) (by decide +kernel), List.mem_of_getElem? (i := 387) (by decide +kernel)⟩
theorem lw_p17 : lw_okq (⟨"CopyPlates$Night", "insertPlate", "(IZ)I"⟩, 6) := ⟨⟨by decide +kernel, by decide +kernel⟩, List.mem_of_getElem? (i := 19) (by decide +kernel), List.mem_of_getElem? (i := 415) (by decide +kernel), List.mem_of_getElem? (i := 416) (by decide +kernel)⟩
theorem lw_p18 : lw_okq (⟨"CopyPlates$Night", "isOnLatestMade", "(I)Z"⟩, 6) := ⟨⟨by decide +kernel, by decide +kernel⟩, List.mem_of_getElem? (i := 19) (by decide +kernel), List.mem_of_getElem? (i := 443) (by decide +kernel), List.mem_of_getElem? (i := 444) (by decide +kernel)⟩
theorem lw_p19 : lw_okq (⟨"CopyPlates$Night", "tellReplate", "()Z"⟩, 6) := ⟨⟨by decide +kernel, by decide +kernel⟩, List.mem_of_getElem? (i := 19) (by decide +kernel), List.mem_of_getElem? (i := 447) (by decide +kernel), List.mem_of_getElem? (i := 448) (by decide +kernel)⟩
theorem lw_p20 : lw_okq (⟨"CopyPlates$Night", "reasonOf", "(I)I"⟩, 6) := ⟨⟨by decide +kernel, by decide +kernel⟩, List.mem_of_getElem? (i := 19) (by decide +kernel), List.mem_of_getElem? (i := 479) (by decide +kernel), List.mem_of_getElem? (i := 480) (by decide +kernel)⟩
theorem lw_p21 : lw_okq (⟨"CopyPlates$Night", "causeOf", "(I)I"⟩, 6) := ⟨⟨by decide +kernel, by decide +kernel⟩, List.mem_of_getElem? (i := 19) (by decide +kernel), List.mem_of_getElem? (i := 483) (by decide +kernel), List.mem_of_getElem? (i := 484) (by decide +kernel)⟩
theorem lw_p22 : lw_okq (⟨"CopyPlates$Night", "firstAtDesk", "(I)I"⟩, 6) := ⟨⟨by decide +kernel, by decide +kernel⟩, List.mem_of_getElem? (i := 19) (by decide +kernel), List.mem_of_getElem? (i := 487) (by decide +kernel), List.mem_of_getElem? (i := 488) (by decide +kernel)⟩
theorem lw_p23 : lw_okq (⟨"CopyPlates$Night", "lastTakenAheadOf", "(I)I"⟩, 6) := ⟨⟨by decide +kernel, by decide +kernel⟩, List.mem_of_getElem? (i := 19) (by decide +kernel), List.mem_of_getElem? (i := 491) (by decide +kernel), List.mem_of_getElem? (i := 492) (by decide +kernel)⟩
def lw_privs_2 : List (MethodName × Nat) := [(⟨"CopyPlates", "goAheadToPlate", "(I)V"⟩, 6), (⟨"CopyPlates$Night", "insertPlate", "(IZ)I"⟩, 6), (⟨"CopyPlates$Night", "isOnLatestMade", "(I)Z"⟩, 6), (⟨"CopyPlates$Night", "tellReplate", "()Z"⟩, 6), (⟨"CopyPlates$Night", "reasonOf", "(I)I"⟩, 6), (⟨"CopyPlates$Night", "causeOf", "(I)I"⟩, 6), (⟨"CopyPlates$Night", "firstAtDesk", "(I)I"⟩, 6), (⟨"CopyPlates$Night", "lastTakenAheadOf", "(I)I"⟩, 6)]
theorem lw_r2 : ∀ q ∈ lw_privs_2, lw_okq q := List.forall_mem_cons.mpr ⟨lw_p16, List.forall_mem_cons.mpr ⟨lw_p17, List.forall_mem_cons.mpr ⟨lw_p18, List.forall_mem_cons.mpr ⟨lw_p19, List.forall_mem_cons.mpr ⟨lw_p20, List.forall_mem_cons.mpr ⟨lw_p21, List.forall_mem_cons.mpr ⟨lw_p22, List.forall_mem_cons.mpr ⟨lw_p23, fun _ h => absurd h List.not_mem_nil⟩⟩⟩⟩⟩⟩⟩⟩
def lw_privs : List (MethodName × Nat) := lw_privs_1 ++ (lw_privs_2)
def lw_tbl : List Cond := k2_sels lw_privs ++ tables_1
theorem lw_privs_ok : ∀ q ∈ lw_privs, lw_okq q := by
  show ∀ q ∈ lw_privs_1 ++ (lw_privs_2), lw_okq q
  exact List.forall_mem_append.mpr ⟨lw_r1, lw_r2⟩

def RX0 : String := "CopyPlates$History"
def TX0 : u_T := fun k => match k with
  | 0 => ("CopyPlates$History", "states", "[LCopyPlates$Night;", true)
  | 1 => ("CopyPlates$History", "next", "I", false)
  | _ => ("CopyPlates$History", "changes", "I", false)
def tyX0 : Nat → FieldType := fun k => match k with
  | 0 => .array (.object "CopyPlates$Night")
  | 1 => .int
  | _ => .int
abbrev wsX00 : List Cond := u_ws RX0 TX0 3
theorem nmX0 : ∀ a, a < 3 → ∀ b, b < 3 → a ≠ b → (TX0 a).2.1 ≠ (TX0 b).2.1 := by decide +kernel
theorem tyX0_ok : ∀ k, k < 3 → parseFieldDescriptor (TX0 k).2.2.1 = some (tyX0 k) := by decide +kernel
abbrev cX0_init : ByteArray := prog_2_method_1_code
def yX0_init : MethodName := ⟨RX0, "<init>", "()V"⟩
abbrev cX0_prepare : ByteArray := prog_2_method_2_code
def yX0_prepare : MethodName := ⟨RX0, "prepare", "(LCopyPlates$Night;)V"⟩
abbrev cX0_recordUnlessError : ByteArray := prog_2_method_3_code
def yX0_recordUnlessError : MethodName := ⟨RX0, "recordUnlessError", "(I)I"⟩
def RX1 : String := "CopyPlates$Night"
def TX1 : u_T := fun k => match k with
  | 0 => ("CopyPlates$Night", "settings", "[I", true)
  | 1 => ("CopyPlates$Night", "minute", "I", false)
  | 2 => ("CopyPlates$Night", "pieces", "[LCopyPlates$Piece;", true)
  | 3 => ("CopyPlates$Night", "pieceCount", "I", false)
  | 4 => ("CopyPlates$Night", "plates", "[LCopyPlates$Plate;", true)
  | _ => ("CopyPlates$Night", "plateCount", "I", false)
def tyX1 : Nat → FieldType := fun k => match k with
  | 0 => .array .int
  | 1 => .int
  | 2 => .array (.object "CopyPlates$Piece")
  | 3 => .int
  | 4 => .array (.object "CopyPlates$Plate")
  | _ => .int
abbrev wsX10 : List Cond := u_ws RX1 TX1 6
theorem nmX1 : ∀ a, a < 6 → ∀ b, b < 6 → a ≠ b → (TX1 a).2.1 ≠ (TX1 b).2.1 := by decide +kernel
theorem tyX1_ok : ∀ k, k < 6 → parseFieldDescriptor (TX1 k).2.2.1 = some (tyX1 k) := by decide +kernel
abbrev cX1_init : ByteArray := prog_3_method_1_code
def yX1_init : MethodName := ⟨RX1, "<init>", "()V"⟩
abbrev cX1_copyFrom : ByteArray := prog_3_method_2_code
def yX1_copyFrom : MethodName := ⟨RX1, "copyFrom", "(LCopyPlates$Night;)V"⟩
abbrev cX1_hasPiece : ByteArray := prog_3_method_3_code
def yX1_hasPiece : MethodName := ⟨RX1, "hasPiece", "(I)Z"⟩
abbrev cX1_isPiece : ByteArray := prog_3_method_4_code
def yX1_isPiece : MethodName := ⟨RX1, "isPiece", "(II)Z"⟩
abbrev cX1_changeSetting : ByteArray := prog_3_method_5_code
def yX1_changeSetting : MethodName := ⟨RX1, "changeSetting", "(II)I"⟩
abbrev cX1_addPiece : ByteArray := prog_3_method_6_code
def yX1_addPiece : MethodName := ⟨RX1, "addPiece", "(IIII)I"⟩
abbrev cX1_addPlate : ByteArray := prog_3_method_7_code
def yX1_addPlate : MethodName := ⟨RX1, "addPlate", "(I)I"⟩
abbrev cX1_turnHold : ByteArray := prog_3_method_8_code
def yX1_turnHold : MethodName := ⟨RX1, "turnHold", "(I)I"⟩
abbrev cX1_killPiece : ByteArray := prog_3_method_9_code
def yX1_killPiece : MethodName := ⟨RX1, "killPiece", "(I)I"⟩
abbrev cX1_passMinutes : ByteArray := prog_3_method_10_code
def yX1_passMinutes : MethodName := ⟨RX1, "passMinutes", "(I)I"⟩
abbrev cX1_passMinute : ByteArray := prog_3_method_11_code
def yX1_passMinute : MethodName := ⟨RX1, "passMinute", "()Z"⟩
abbrev cX1_editAtDesks : ByteArray := prog_3_method_12_code
def yX1_editAtDesks : MethodName := ⟨RX1, "editAtDesks", "()V"⟩
abbrev cX1_readAtLawyer : ByteArray := prog_3_method_13_code
def yX1_readAtLawyer : MethodName := ⟨RX1, "readAtLawyer", "()V"⟩
abbrev cX1_firstAtDesk : ByteArray := prog_3_method_14_code
def yX1_firstAtDesk : MethodName := ⟨RX1, "firstAtDesk", "(I)I"⟩
abbrev cX1_firstAtLawyer : ByteArray := prog_3_method_15_code
def yX1_firstAtLawyer : MethodName := ⟨RX1, "firstAtLawyer", "()I"⟩
abbrev cX1_placeInQueue : ByteArray := prog_3_method_16_code
def yX1_placeInQueue : MethodName := ⟨RX1, "placeInQueue", "(I)I"⟩
abbrev cX1_placeAtDesk : ByteArray := prog_3_method_17_code
def yX1_placeAtDesk : MethodName := ⟨RX1, "placeAtDesk", "(I)I"⟩
abbrev cX1_placeAtLawyer : ByteArray := prog_3_method_18_code
def yX1_placeAtLawyer : MethodName := ⟨RX1, "placeAtLawyer", "(I)I"⟩
abbrev cX1_piecesForPlate : ByteArray := prog_3_method_19_code
def yX1_piecesForPlate : MethodName := ⟨RX1, "piecesForPlate", "()I"⟩
abbrev cX1_linesOf : ByteArray := prog_3_method_20_code
def yX1_linesOf : MethodName := ⟨RX1, "linesOf", "(I)I"⟩
abbrev cX1_takenNow : ByteArray := prog_3_method_21_code
def yX1_takenNow : MethodName := ⟨RX1, "takenNow", "()I"⟩
abbrev cX1_firstByRank : ByteArray := prog_3_method_22_code
def yX1_firstByRank : MethodName := ⟨RX1, "firstByRank", "(I)I"⟩
abbrev cX1_lastTakenAheadOf : ByteArray := prog_3_method_23_code
def yX1_lastTakenAheadOf : MethodName := ⟨RX1, "lastTakenAheadOf", "(I)I"⟩
abbrev cX1_goesAhead : ByteArray := prog_3_method_24_code
def yX1_goesAhead : MethodName := ⟨RX1, "goesAhead", "(II)Z"⟩
abbrev cX1_whyNotOnPlate : ByteArray := prog_3_method_25_code
def yX1_whyNotOnPlate : MethodName := ⟨RX1, "whyNotOnPlate", "(II)I"⟩
abbrev cX1_reasonOf : ByteArray := prog_3_method_26_code
def yX1_reasonOf : MethodName := ⟨RX1, "reasonOf", "(I)I"⟩
abbrev cX1_causeOf : ByteArray := prog_3_method_27_code
def yX1_causeOf : MethodName := ⟨RX1, "causeOf", "(I)I"⟩
abbrev cX1_isMade : ByteArray := prog_3_method_28_code
def yX1_isMade : MethodName := ⟨RX1, "isMade", "(I)Z"⟩
abbrev cX1_nextDue : ByteArray := prog_3_method_29_code
def yX1_nextDue : MethodName := ⟨RX1, "nextDue", "()I"⟩
abbrev cX1_minutesToPlate : ByteArray := prog_3_method_30_code
def yX1_minutesToPlate : MethodName := ⟨RX1, "minutesToPlate", "(I)I"⟩
abbrev cX1_madePlates : ByteArray := prog_3_method_31_code
def yX1_madePlates : MethodName := ⟨RX1, "madePlates", "()I"⟩
abbrev cX1_plateAt : ByteArray := prog_3_method_32_code
def yX1_plateAt : MethodName := ⟨RX1, "plateAt", "(I)I"⟩
abbrev cX1_isOnLatestMade : ByteArray := prog_3_method_33_code
def yX1_isOnLatestMade : MethodName := ⟨RX1, "isOnLatestMade", "(I)Z"⟩
abbrev cX1_tellReplate : ByteArray := prog_3_method_34_code
def yX1_tellReplate : MethodName := ⟨RX1, "tellReplate", "()Z"⟩
abbrev cX1_insertPlate : ByteArray := prog_3_method_35_code
def yX1_insertPlate : MethodName := ⟨RX1, "insertPlate", "(IZ)I"⟩
abbrev cX1_factOfPiece : ByteArray := prog_3_method_36_code
def yX1_factOfPiece : MethodName := ⟨RX1, "factOfPiece", "(II)I"⟩
abbrev cX1_platesWith : ByteArray := prog_3_method_37_code
def yX1_platesWith : MethodName := ⟨RX1, "platesWith", "(I)I"⟩
abbrev cX1_factOfPlate : ByteArray := prog_3_method_38_code
def yX1_factOfPlate : MethodName := ⟨RX1, "factOfPlate", "(II)I"⟩
abbrev cX1_factOfNight : ByteArray := prog_3_method_39_code
def yX1_factOfNight : MethodName := ⟨RX1, "factOfNight", "(I)I"⟩
abbrev cX1_piecesThatAre : ByteArray := prog_3_method_40_code
def yX1_piecesThatAre : MethodName := ⟨RX1, "piecesThatAre", "(I)I"⟩
abbrev cX1_heldPieces : ByteArray := prog_3_method_41_code
def yX1_heldPieces : MethodName := ⟨RX1, "heldPieces", "()I"⟩
abbrev cX1_replates : ByteArray := prog_3_method_42_code
def yX1_replates : MethodName := ⟨RX1, "replates", "()I"⟩
def RX2 : String := "CopyPlates$OrderReader"
def TX2 : u_T := fun k => match k with
  | 0 => ("CopyPlates$OrderReader", "pad", "LCopyPlates$Pad;", true)
  | 1 => ("CopyPlates$OrderReader", "place", "I", false)
  | 2 => ("CopyPlates$OrderReader", "kind", "C", false)
  | 3 => ("CopyPlates$OrderReader", "number", "I", false)
  | 4 => ("CopyPlates$OrderReader", "desk", "I", false)
  | 5 => ("CopyPlates$OrderReader", "rank", "I", false)
  | _ => ("CopyPlates$OrderReader", "legal", "I", false)
def tyX2 : Nat → FieldType := fun k => match k with
  | 0 => .object "CopyPlates$Pad"
  | 1 => .int
  | 2 => .char
  | 3 => .int
  | 4 => .int
  | 5 => .int
  | _ => .int
abbrev wsX20 : List Cond := u_ws RX2 TX2 7
theorem nmX2 : ∀ a, a < 7 → ∀ b, b < 7 → a ≠ b → (TX2 a).2.1 ≠ (TX2 b).2.1 := by decide +kernel
theorem tyX2_ok : ∀ k, k < 7 → parseFieldDescriptor (TX2 k).2.2.1 = some (tyX2 k) := by decide +kernel
abbrev cX2_init : ByteArray := prog_4_method_1_code
def yX2_init : MethodName := ⟨RX2, "<init>", "(LCopyPlates$Pad;)V"⟩
def RX3 : String := "CopyPlates$Pad"
def TX3 : u_T := fun k => match k with
  | 0 => ("CopyPlates$Pad", "characters", "[C", true)
  | _ => ("CopyPlates$Pad", "length", "I", false)
def tyX3 : Nat → FieldType := fun k => match k with
  | 0 => .array .char
  | _ => .int
abbrev wsX30 : List Cond := u_ws RX3 TX3 2
theorem nmX3 : ∀ a, a < 2 → ∀ b, b < 2 → a ≠ b → (TX3 a).2.1 ≠ (TX3 b).2.1 := by decide +kernel
theorem tyX3_ok : ∀ k, k < 2 → parseFieldDescriptor (TX3 k).2.2.1 = some (tyX3 k) := by decide +kernel
abbrev cX3_init : ByteArray := prog_5_method_1_code
def yX3_init : MethodName := ⟨RX3, "<init>", "()V"⟩
def RX4 : String := "CopyPlates$Piece"
def TX4 : u_T := fun k => match k with
  | 0 => ("CopyPlates$Piece", "desk", "I", false)
  | 1 => ("CopyPlates$Piece", "lines", "I", false)
  | 2 => ("CopyPlates$Piece", "rank", "I", false)
  | 3 => ("CopyPlates$Piece", "legal", "Z", false)
  | 4 => ("CopyPlates$Piece", "state", "I", false)
  | 5 => ("CopyPlates$Piece", "held", "Z", false)
  | 6 => ("CopyPlates$Piece", "edited", "I", false)
  | 7 => ("CopyPlates$Piece", "read", "I", false)
  | 8 => ("CopyPlates$Piece", "readyMinute", "I", false)
  | _ => ("CopyPlates$Piece", "lawyerTurn", "I", false)
def tyX4 : Nat → FieldType := fun k => match k with
  | 0 => .int
  | 1 => .int
  | 2 => .int
  | 3 => .boolean
  | 4 => .int
  | 5 => .boolean
  | 6 => .int
  | 7 => .int
  | 8 => .int
  | _ => .int
abbrev wsX40 : List Cond := u_ws RX4 TX4 10
theorem nmX4 : ∀ a, a < 10 → ∀ b, b < 10 → a ≠ b → (TX4 a).2.1 ≠ (TX4 b).2.1 := by decide +kernel
theorem tyX4_ok : ∀ k, k < 10 → parseFieldDescriptor (TX4 k).2.2.1 = some (tyX4 k) := by decide +kernel
abbrev cX4_init : ByteArray := prog_6_method_1_code
def yX4_init : MethodName := ⟨RX4, "<init>", "()V"⟩
abbrev cX4_come : ByteArray := prog_6_method_2_code
def yX4_come : MethodName := ⟨RX4, "come", "(IIIZ)V"⟩
abbrev cX4_copyFrom : ByteArray := prog_6_method_3_code
def yX4_copyFrom : MethodName := ⟨RX4, "copyFrom", "(LCopyPlates$Piece;)V"⟩
abbrev cX4_editFor : ByteArray := prog_6_method_4_code
def yX4_editFor : MethodName := ⟨RX4, "editFor", "(II)V"⟩
abbrev cX4_readOneMinute : ByteArray := prog_6_method_5_code
def yX4_readOneMinute : MethodName := ⟨RX4, "readOneMinute", "(II)V"⟩
abbrev cX4_becomeReady : ByteArray := prog_6_method_6_code
def yX4_becomeReady : MethodName := ⟨RX4, "becomeReady", "(I)V"⟩
abbrev cX4_isForPlate : ByteArray := prog_6_method_7_code
def yX4_isForPlate : MethodName := ⟨RX4, "isForPlate", "()Z"⟩
def RX5 : String := "CopyPlates$Plate"
def TX5 : u_T := fun k => match k with
  | 0 => ("CopyPlates$Plate", "minute", "I", false)
  | 1 => ("CopyPlates$Plate", "replate", "Z", false)
  | _ => ("CopyPlates$Plate", "pieces", "I", false)
def tyX5 : Nat → FieldType := fun k => match k with
  | 0 => .int
  | 1 => .boolean
  | _ => .int
abbrev wsX50 : List Cond := u_ws RX5 TX5 3
theorem nmX5 : ∀ a, a < 3 → ∀ b, b < 3 → a ≠ b → (TX5 a).2.1 ≠ (TX5 b).2.1 := by decide +kernel
theorem tyX5_ok : ∀ k, k < 3 → parseFieldDescriptor (TX5 k).2.2.1 = some (tyX5 k) := by decide +kernel
abbrev cX5_init : ByteArray := prog_7_method_1_code
def yX5_init : MethodName := ⟨RX5, "<init>", "()V"⟩
abbrev cX5_tell : ByteArray := prog_7_method_2_code
def yX5_tell : MethodName := ⟨RX5, "tell", "(IZ)V"⟩
abbrev cX5_copyFrom : ByteArray := prog_7_method_3_code
def yX5_copyFrom : MethodName := ⟨RX5, "copyFrom", "(LCopyPlates$Plate;)V"⟩
def RX6 : String := "CopyPlates"
def TX6 : u_T := fun k => match k with
  | 0 => ("CopyPlates", "night", "LCopyPlates$Night;", true)
  | 1 => ("CopyPlates", "ahead", "LCopyPlates$Night;", true)
  | 2 => ("CopyPlates", "history", "LCopyPlates$History;", true)
  | 3 => ("CopyPlates", "slots", "[LCopyPlates$Night;", true)
  | 4 => ("CopyPlates", "pad", "LCopyPlates$Pad;", true)
  | _ => ("CopyPlates", "reader", "LCopyPlates$OrderReader;", true)
def tyX6 : Nat → FieldType := fun k => match k with
  | 0 => .object "CopyPlates$Night"
  | 1 => .object "CopyPlates$Night"
  | 2 => .object "CopyPlates$History"
  | 3 => .array (.object "CopyPlates$Night")
  | 4 => .object "CopyPlates$Pad"
  | _ => .object "CopyPlates$OrderReader"
abbrev wsX60 : List Cond := u_ws RX6 TX6 6
theorem nmX6 : ∀ a, a < 6 → ∀ b, b < 6 → a ≠ b → (TX6 a).2.1 ≠ (TX6 b).2.1 := by decide +kernel
theorem tyX6_ok : ∀ k, k < 6 → parseFieldDescriptor (TX6 k).2.2.1 = some (tyX6 k) := by decide +kernel
abbrev cX6_init : ByteArray := prog_1_method_1_code
def yX6_init : MethodName := ⟨RX6, "<init>", "()V"⟩
abbrev cX6_set : ByteArray := prog_1_method_2_code
def yX6_set : MethodName := ⟨RX6, "set", "(II)I"⟩
abbrev cX6_piece : ByteArray := prog_1_method_3_code
def yX6_piece : MethodName := ⟨RX6, "piece", "(IIII)I"⟩
abbrev cX6_plate : ByteArray := prog_1_method_4_code
def yX6_plate : MethodName := ⟨RX6, "plate", "(I)I"⟩
abbrev cX6_hold : ByteArray := prog_1_method_5_code
def yX6_hold : MethodName := ⟨RX6, "hold", "(I)I"⟩
abbrev cX6_kill : ByteArray := prog_1_method_6_code
def yX6_kill : MethodName := ⟨RX6, "kill", "(I)I"⟩
abbrev cX6_pass : ByteArray := prog_1_method_7_code
def yX6_pass : MethodName := ⟨RX6, "pass", "(I)I"⟩
abbrev cX6_ofPiece : ByteArray := prog_1_method_8_code
def yX6_ofPiece : MethodName := ⟨RX6, "ofPiece", "(II)I"⟩
abbrev cX6_ofPlate : ByteArray := prog_1_method_9_code
def yX6_ofPlate : MethodName := ⟨RX6, "ofPlate", "(II)I"⟩
abbrev cX6_count : ByteArray := prog_1_method_10_code
def yX6_count : MethodName := ⟨RX6, "count", "(I)I"⟩
abbrev cX6_why : ByteArray := prog_1_method_11_code
def yX6_why : MethodName := ⟨RX6, "why", "(II)I"⟩
abbrev cX6_plateNow : ByteArray := prog_1_method_12_code
def yX6_plateNow : MethodName := ⟨RX6, "plateNow", "()I"⟩
abbrev cX6_readyIn : ByteArray := prog_1_method_13_code
def yX6_readyIn : MethodName := ⟨RX6, "readyIn", "(I)I"⟩
abbrev cX6_leastRoom : ByteArray := prog_1_method_14_code
def yX6_leastRoom : MethodName := ⟨RX6, "leastRoom", "()I"⟩
abbrev cX6_nextPlate : ByteArray := prog_1_method_15_code
def yX6_nextPlate : MethodName := ⟨RX6, "nextPlate", "()I"⟩
abbrev cX6_goAheadToPlate : ByteArray := prog_1_method_16_code
def yX6_goAheadToPlate : MethodName := ⟨RX6, "goAheadToPlate", "(I)V"⟩
abbrev cX6_isInSet : ByteArray := prog_1_method_25_code
def yX6_isInSet : MethodName := ⟨RX6, "isInSet", "(II)Z"⟩
abbrev cX6_oneIf : ByteArray := prog_1_method_26_code
def yX6_oneIf : MethodName := ⟨RX6, "oneIf", "(Z)I"⟩
def RX7 : String := "CopyPlatesModel"
def TX7 : u_T := fun k => match k with
  | _ => ("", "", "", false)
def tyX7 : Nat → FieldType := fun k => match k with
  | _ => .int
abbrev wsX70 : List Cond := u_ws RX7 TX7 0
theorem nmX7 : ∀ a, a < 0 → ∀ b, b < 0 → a ≠ b → (TX7 a).2.1 ≠ (TX7 b).2.1 := by decide +kernel
theorem tyX7_ok : ∀ k, k < 0 → parseFieldDescriptor (TX7 k).2.2.1 = some (tyX7 k) := by decide +kernel
def RL : String := "CopyPlatesLaw"
abbrev cL_cell : ByteArray := method_2_code
def yL_cell : MethodName := ⟨RL, "cell", "([II)I"⟩
abbrev cL_up : ByteArray := method_3_code
def yL_up : MethodName := ⟨RL, "up", "(II)I"⟩
abbrev cL_isStep : ByteArray := method_4_code
def yL_isStep : MethodName := ⟨RL, "isStep", "(LCopyPlates;LCopyPlates;I)Z"⟩
abbrev cL_areAlike : ByteArray := method_5_code
def yL_areAlike : MethodName := ⟨RL, "areAlike", "(LCopyPlates;LCopyPlates;)Z"⟩
abbrev cL_isWell : ByteArray := method_6_code
def yL_isWell : MethodName := ⟨RL, "isWell", "(LCopyPlates;)Z"⟩
abbrev cL_law : ByteArray := code
def yL_law : MethodName := ⟨RL, "law", "([I)Z"⟩
abbrev vwCl : List vw_C := [(RX0, TX0, 3), (RX1, TX1, 6), (RX2, TX2, 7), (RX3, TX3, 2), (RX4, TX4, 10), (RX5, TX5, 3), (RX6, TX6, 6)]
