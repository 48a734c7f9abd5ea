section
-- ===== PART A: goes FIRST, ahead of the names: the tables' words, and 'selects' of the private methods out of them =====
/-- a private method of a class that the tables say can be made, by its rows of tables_1 -/
def lw_okq (q : MethodName × Nat) : Prop := (q.1.cls ≠ "java/lang/invoke/MethodHandle" ∧ q.1.cls ≠ "java/lang/invoke/VarHandle") ∧ Cond.instantiable q.1.cls q.2 ∈ tables_1 ∧ Cond.privateMethod q.1 ∈ tables_1 ∧ Cond.instanceMethod q.1 ∈ tables_1
theorem lw_p0 : lw_okq (⟨"CopyPlates$Night", "plateAt", "(I)I"⟩, 6) := ⟨⟨by decide +kernel, by decide +kernel⟩, List.mem_of_getElem? (i := 20) (by decide +kernel), List.mem_of_getElem? (i := 270) (by decide +kernel), List.mem_of_getElem? (i := 271) (by decide +kernel)⟩
theorem lw_p1 : lw_okq (⟨"CopyPlates$Night", "insertPlate", "(IZ)I"⟩, 6) := ⟨⟨by decide +kernel, by decide +kernel⟩, List.mem_of_getElem? (i := 20) (by decide +kernel), List.mem_of_getElem? (i := 274) (by decide +kernel), List.mem_of_getElem? (i := 275) (by decide +kernel)⟩
theorem lw_p2 : lw_okq (⟨"CopyPlates$Night", "isOnLatestMade", "(I)Z"⟩, 6) := ⟨⟨by decide +kernel, by decide +kernel⟩, List.mem_of_getElem? (i := 20) (by decide +kernel), List.mem_of_getElem? (i := 305) (by decide +kernel), List.mem_of_getElem? (i := 306) (by decide +kernel)⟩
theorem lw_p3 : lw_okq (⟨"CopyPlates$Night", "madePlates", "()I"⟩, 6) := ⟨⟨by decide +kernel, by decide +kernel⟩, List.mem_of_getElem? (i := 20) (by decide +kernel), List.mem_of_getElem? (i := 309) (by decide +kernel), List.mem_of_getElem? (i := 310) (by decide +kernel)⟩
theorem lw_p4 : lw_okq (⟨"CopyPlates$Night", "isMade", "(I)Z"⟩, 6) := ⟨⟨by decide +kernel, by decide +kernel⟩, List.mem_of_getElem? (i := 20) (by decide +kernel), List.mem_of_getElem? (i := 313) (by decide +kernel), List.mem_of_getElem? (i := 314) (by decide +kernel)⟩
theorem lw_p5 : lw_okq (⟨"CopyPlates$Night", "tellReplate", "()Z"⟩, 6) := ⟨⟨by decide +kernel, by decide +kernel⟩, List.mem_of_getElem? (i := 20) (by decide +kernel), List.mem_of_getElem? (i := 320) (by decide +kernel), List.mem_of_getElem? (i := 321) (by decide +kernel)⟩
theorem lw_p6 : lw_okq (⟨"CopyPlates$Night", "editAtDesks", "()V"⟩, 6) := ⟨⟨by decide +kernel, by decide +kernel⟩, List.mem_of_getElem? (i := 20) (by decide +kernel), List.mem_of_getElem? (i := 340) (by decide +kernel), List.mem_of_getElem? (i := 341) (by decide +kernel)⟩
theorem lw_p7 : lw_okq (⟨"CopyPlates$Piece", "becomeReady", "(I)V"⟩, 10) := ⟨⟨by decide +kernel, by decide +kernel⟩, List.mem_of_getElem? (i := 36) (by decide +kernel), List.mem_of_getElem? (i := 349) (by decide +kernel), List.mem_of_getElem? (i := 350) (by decide +kernel)⟩
theorem lw_p8 : lw_okq (⟨"CopyPlates$Night", "readAtLawyer", "()V"⟩, 6) := ⟨⟨by decide +kernel, by decide +kernel⟩, List.mem_of_getElem? (i := 20) (by decide +kernel), List.mem_of_getElem? (i := 353) (by decide +kernel), List.mem_of_getElem? (i := 354) (by decide +kernel)⟩
theorem lw_p9 : lw_okq (⟨"CopyPlates$Night", "firstAtLawyer", "()I"⟩, 6) := ⟨⟨by decide +kernel, by decide +kernel⟩, List.mem_of_getElem? (i := 20) (by decide +kernel), List.mem_of_getElem? (i := 357) (by decide +kernel), List.mem_of_getElem? (i := 358) (by decide +kernel)⟩
theorem lw_p10 : lw_okq (⟨"CopyPlates$Night", "firstByRank", "(I)I"⟩, 6) := ⟨⟨by decide +kernel, by decide +kernel⟩, List.mem_of_getElem? (i := 20) (by decide +kernel), List.mem_of_getElem? (i := 377) (by decide +kernel), List.mem_of_getElem? (i := 378) (by decide +kernel)⟩
theorem lw_p11 : lw_okq (⟨"CopyPlates$Night", "goesAhead", "(II)Z"⟩, 6) := ⟨⟨by decide +kernel, by decide +kernel⟩, List.mem_of_getElem? (i := 20) (by decide +kernel), List.mem_of_getElem? (i := 381) (by decide +kernel), List.mem_of_getElem? (i := 382) (by decide +kernel)⟩
theorem lw_p12 : lw_okq (⟨"CopyPlates$Night", "placeInQueue", "(I)I"⟩, 6) := ⟨⟨by decide +kernel, by decide +kernel⟩, List.mem_of_getElem? (i := 20) (by decide +kernel), List.mem_of_getElem? (i := 393) (by decide +kernel), List.mem_of_getElem? (i := 394) (by decide +kernel)⟩
theorem lw_p13 : lw_okq (⟨"CopyPlates$Night", "placeAtDesk", "(I)I"⟩, 6) := ⟨⟨by decide +kernel, by decide +kernel⟩, List.mem_of_getElem? (i := 20) (by decide +kernel), List.mem_of_getElem? (i := 397) (by decide +kernel), List.mem_of_getElem? (i := 398) (by decide +kernel)⟩
theorem lw_p14 : lw_okq (⟨"CopyPlates$Night", "placeAtLawyer", "(I)I"⟩, 6) := ⟨⟨by decide +kernel, by decide +kernel⟩, List.mem_of_getElem? (i := 20) (by decide +kernel), List.mem_of_getElem? (i := 401) (by decide +kernel), List.mem_of_getElem? (i := 402) (by decide +kernel)⟩
theorem lw_p15 : lw_okq (⟨"CopyPlates$Night", "platesWith", "(I)I"⟩, 6) := ⟨⟨by decide +kernel, by decide +kernel⟩, List.mem_of_getElem? (i := 20) (by decide +kernel), List.mem_of_getElem? (i := 405) (by decide +kernel), List.mem_of_getElem? (i := 406) (by decide +kernel)⟩
def lw_privs_1 : List (MethodName × Nat) := [(⟨"CopyPlates$Night", "plateAt", "(I)I"⟩, 6), (⟨"CopyPlates$Night", "insertPlate", "(IZ)I"⟩, 6), (⟨"CopyPlates$Night", "isOnLatestMade", "(I)Z"⟩, 6), (⟨"CopyPlates$Night", "madePlates", "()I"⟩, 6), (⟨"CopyPlates$Night", "isMade", "(I)Z"⟩, 6), (⟨"CopyPlates$Night", "tellReplate", "()Z"⟩, 6), (⟨"CopyPlates$Night", "editAtDesks", "()V"⟩, 6), (⟨"CopyPlates$Piece", "becomeReady", "(I)V"⟩, 10), (⟨"CopyPlates$Night", "readAtLawyer", "()V"⟩, 6), (⟨"CopyPlates$Night", "firstAtLawyer", "()I"⟩, 6), (⟨"CopyPlates$Night", "firstByRank", "(I)I"⟩, 6), (⟨"CopyPlates$Night", "goesAhead", "(II)Z"⟩, 6), (⟨"CopyPlates$Night", "placeInQueue", "(I)I"⟩, 6), (⟨"CopyPlates$Night", "placeAtDesk", "(I)I"⟩, 6), (⟨"CopyPlates$Night", "placeAtLawyer", "(I)I"⟩, 6), (⟨"CopyPlates$Night", "platesWith", "(I)I"⟩, 6)]
theorem lw_r1 : ∀ q ∈ lw_privs_1, lw_okq q := List.forall_mem_cons.mpr ⟨lw_p0, List.forall_mem_cons.mpr ⟨lw_p1, List.forall_mem_cons.mpr ⟨lw_p2, List.forall_mem_cons.mpr ⟨lw_p3, List.forall_mem_cons.mpr ⟨lw_p4, List.forall_mem_cons.mpr ⟨lw_p5, List.forall_mem_cons.mpr ⟨lw_p6, List.forall_mem_cons.mpr ⟨lw_p7, List.forall_mem_cons.mpr ⟨lw_p8, List.forall_mem_cons.mpr ⟨lw_p9, List.forall_mem_cons.mpr ⟨lw_p10, List.forall_mem_cons.mpr ⟨lw_p11, List.forall_mem_cons.mpr ⟨lw_p12, List.forall_mem_cons.mpr ⟨lw_p13, List.forall_mem_cons.mpr ⟨lw_p14, List.forall_mem_cons.mpr ⟨lw_p15, fun _ h => absurd h List.not_mem_nil⟩⟩⟩⟩⟩⟩⟩⟩⟩⟩⟩⟩⟩⟩⟩⟩
theorem lw_p16 : lw_okq (⟨"CopyPlates$Night", "piecesThatAre", "(I)I"⟩, 6) := ⟨⟨by decide +kernel, by decide +kernel⟩, List.mem_of_getElem? (i := 20) (by decide +kernel), List.mem_of_getElem? (i := 429) (by decide +kernel), List.mem_of_getElem? (i := 430) (by decide +kernel)⟩
theorem lw_p17 : lw_okq (⟨"CopyPlates$Night", "heldPieces", "()I"⟩, 6) := ⟨⟨by decide +kernel, by decide +kernel⟩, List.mem_of_getElem? (i := 20) (by decide +kernel), List.mem_of_getElem? (i := 433) (by decide +kernel), List.mem_of_getElem? (i := 434) (by decide +kernel)⟩
theorem lw_p18 : lw_okq (⟨"CopyPlates$Night", "replates", "()I"⟩, 6) := ⟨⟨by decide +kernel, by decide +kernel⟩, List.mem_of_getElem? (i := 20) (by decide +kernel), List.mem_of_getElem? (i := 437) (by decide +kernel), List.mem_of_getElem? (i := 438) (by decide +kernel)⟩
theorem lw_p19 : lw_okq (⟨"CopyPlates$Night", "reasonOf", "(I)I"⟩, 6) := ⟨⟨by decide +kernel, by decide +kernel⟩, List.mem_of_getElem? (i := 20) (by decide +kernel), List.mem_of_getElem? (i := 449) (by decide +kernel), List.mem_of_getElem? (i := 450) (by decide +kernel)⟩
theorem lw_p20 : lw_okq (⟨"CopyPlates$Night", "causeOf", "(I)I"⟩, 6) := ⟨⟨by decide +kernel, by decide +kernel⟩, List.mem_of_getElem? (i := 20) (by decide +kernel), List.mem_of_getElem? (i := 453) (by decide +kernel), List.mem_of_getElem? (i := 454) (by decide +kernel)⟩
theorem lw_p21 : lw_okq (⟨"CopyPlates$Night", "firstAtDesk", "(I)I"⟩, 6) := ⟨⟨by decide +kernel, by decide +kernel⟩, List.mem_of_getElem? (i := 20) (by decide +kernel), List.mem_of_getElem? (i := 457) (by decide +kernel), List.mem_of_getElem? (i := 458) (by decide +kernel)⟩
theorem lw_p22 : lw_okq (⟨"CopyPlates$Night", "lastTakenAheadOf", "(I)I"⟩, 6) := ⟨⟨by decide +kernel, by decide +kernel⟩, List.mem_of_getElem? (i := 20) (by decide +kernel), List.mem_of_getElem? (i := 461) (by decide +kernel), List.mem_of_getElem? (i := 462) (by decide +kernel)⟩
theorem lw_p23 : lw_okq (⟨"CopyPlates", "goAheadToPlate", "(I)V"⟩, 6) := ⟨⟨by decide +kernel, by decide +kernel⟩, List.mem_of_getElem? (i := 12) (by decide +kernel), List.mem_of_getElem? (i := 486) (by decide +kernel), List.mem_of_getElem? (i := 487) (by decide +kernel)⟩
theorem lw_p24 : lw_okq (⟨"CopyPlates$OrderReader", "readPiece", "()Z"⟩, 7) := ⟨⟨by decide +kernel, by decide +kernel⟩, List.mem_of_getElem? (i := 160) (by decide +kernel), List.mem_of_getElem? (i := 547) (by decide +kernel), List.mem_of_getElem? (i := 548) (by decide +kernel)⟩
theorem lw_p25 : lw_okq (⟨"CopyPlates$OrderReader", "digitHere", "()I"⟩, 7) := ⟨⟨by decide +kernel, by decide +kernel⟩, List.mem_of_getElem? (i := 160) (by decide +kernel), List.mem_of_getElem? (i := 551) (by decide +kernel), List.mem_of_getElem? (i := 552) (by decide +kernel)⟩
theorem lw_p26 : lw_okq (⟨"CopyPlates$OrderReader", "readNumber", "()Z"⟩, 7) := ⟨⟨by decide +kernel, by decide +kernel⟩, List.mem_of_getElem? (i := 160) (by decide +kernel), List.mem_of_getElem? (i := 559) (by decide +kernel), List.mem_of_getElem? (i := 560) (by decide +kernel)⟩
theorem lw_p27 : lw_okq (⟨"CopyPlates", "carryOrderOut", "()I"⟩, 6) := ⟨⟨by decide +kernel, by decide +kernel⟩, List.mem_of_getElem? (i := 12) (by decide +kernel), List.mem_of_getElem? (i := 570) (by decide +kernel), List.mem_of_getElem? (i := 571) (by decide +kernel)⟩
theorem lw_p28 : lw_okq (⟨"CopyPlatesModel", "ends", "(I)I"⟩, 15) := ⟨⟨by decide +kernel, by decide +kernel⟩, List.mem_of_getElem? (i := 591) (by decide +kernel), List.mem_of_getElem? (i := 660) (by decide +kernel), List.mem_of_getElem? (i := 661) (by decide +kernel)⟩
theorem lw_p29 : lw_okq (⟨"CopyPlatesModel", "doPiece", "(IIII)I"⟩, 15) := ⟨⟨by decide +kernel, by decide +kernel⟩, List.mem_of_getElem? (i := 591) (by decide +kernel), List.mem_of_getElem? (i := 668) (by decide +kernel), List.mem_of_getElem? (i := 669) (by decide +kernel)⟩
theorem lw_p30 : lw_okq (⟨"CopyPlatesModel", "sets", "(III)V"⟩, 15) := ⟨⟨by decide +kernel, by decide +kernel⟩, List.mem_of_getElem? (i := 591) (by decide +kernel), List.mem_of_getElem? (i := 675) (by decide +kernel), List.mem_of_getElem? (i := 676) (by decide +kernel)⟩
theorem lw_p31 : lw_okq (⟨"CopyPlatesModel", "comesTo", "(II)V"⟩, 15) := ⟨⟨by decide +kernel, by decide +kernel⟩, List.mem_of_getElem? (i := 591) (by decide +kernel), List.mem_of_getElem? (i := 679) (by decide +kernel), List.mem_of_getElem? (i := 680) (by decide +kernel)⟩
def lw_privs_2 : List (MethodName × Nat) := [(⟨"CopyPlates$Night", "piecesThatAre", "(I)I"⟩, 6), (⟨"CopyPlates$Night", "heldPieces", "()I"⟩, 6), (⟨"CopyPlates$Night", "replates", "()I"⟩, 6), (⟨"CopyPlates$Night", "reasonOf", "(I)I"⟩, 6), (⟨"CopyPlates$Night", "causeOf", "(I)I"⟩, 6), (⟨"CopyPlates$Night", "firstAtDesk", "(I)I"⟩, 6), (⟨"CopyPlates$Night", "lastTakenAheadOf", "(I)I"⟩, 6), (⟨"CopyPlates", "goAheadToPlate", "(I)V"⟩, 6), (⟨"CopyPlates$OrderReader", "readPiece", "()Z"⟩, 7), (⟨"CopyPlates$OrderReader", "digitHere", "()I"⟩, 7), (⟨"CopyPlates$OrderReader", "readNumber", "()Z"⟩, 7), (⟨"CopyPlates", "carryOrderOut", "()I"⟩, 6), (⟨"CopyPlatesModel", "ends", "(I)I"⟩, 15), (⟨"CopyPlatesModel", "doPiece", "(IIII)I"⟩, 15), (⟨"CopyPlatesModel", "sets", "(III)V"⟩, 15), (⟨"CopyPlatesModel", "comesTo", "(II)V"⟩, 15)]
theorem lw_r2 : ∀ q ∈ lw_privs_2, lw_okq q := List.forall_mem_cons.mpr ⟨lw_p16, List.forall_mem_cons.mpr ⟨lw_p17, List.forall_mem_cons.mpr ⟨lw_p18, List.forall_mem_cons.mpr ⟨lw_p19, List.forall_mem_cons.mpr ⟨lw_p20, List.forall_mem_cons.mpr ⟨lw_p21, List.forall_mem_cons.mpr ⟨lw_p22, List.forall_mem_cons.mpr ⟨lw_p23, List.forall_mem_cons.mpr ⟨lw_p24, List.forall_mem_cons.mpr ⟨lw_p25, List.forall_mem_cons.mpr ⟨lw_p26, List.forall_mem_cons.mpr ⟨lw_p27, List.forall_mem_cons.mpr ⟨lw_p28, List.forall_mem_cons.mpr ⟨lw_p29, List.forall_mem_cons.mpr ⟨lw_p30, List.forall_mem_cons.mpr ⟨lw_p31, fun _ h => absurd h List.not_mem_nil⟩⟩⟩⟩⟩⟩⟩⟩⟩⟩⟩⟩⟩⟩⟩⟩
theorem lw_p32 : lw_okq (⟨"CopyPlatesModel", "doPlate", "(I)I"⟩, 15) := ⟨⟨by decide +kernel, by decide +kernel⟩, List.mem_of_getElem? (i := 591) (by decide +kernel), List.mem_of_getElem? (i := 687) (by decide +kernel), List.mem_of_getElem? (i := 688) (by decide +kernel)⟩
theorem lw_p33 : lw_okq (⟨"CopyPlatesModel", "due", "(I)I"⟩, 15) := ⟨⟨by decide +kernel, by decide +kernel⟩, List.mem_of_getElem? (i := 591) (by decide +kernel), List.mem_of_getElem? (i := 692) (by decide +kernel), List.mem_of_getElem? (i := 693) (by decide +kernel)⟩
theorem lw_p34 : lw_okq (⟨"CopyPlatesModel", "plateAt", "(II)I"⟩, 15) := ⟨⟨by decide +kernel, by decide +kernel⟩, List.mem_of_getElem? (i := 591) (by decide +kernel), List.mem_of_getElem? (i := 696) (by decide +kernel), List.mem_of_getElem? (i := 697) (by decide +kernel)⟩
theorem lw_p35 : lw_okq (⟨"CopyPlatesModel", "tells", "(II)I"⟩, 15) := ⟨⟨by decide +kernel, by decide +kernel⟩, List.mem_of_getElem? (i := 591) (by decide +kernel), List.mem_of_getElem? (i := 700) (by decide +kernel), List.mem_of_getElem? (i := 701) (by decide +kernel)⟩
theorem lw_p36 : lw_okq (⟨"CopyPlatesModel", "doHold", "(I)I"⟩, 15) := ⟨⟨by decide +kernel, by decide +kernel⟩, List.mem_of_getElem? (i := 591) (by decide +kernel), List.mem_of_getElem? (i := 708) (by decide +kernel), List.mem_of_getElem? (i := 709) (by decide +kernel)⟩
theorem lw_p37 : lw_okq (⟨"CopyPlatesModel", "isPiece", "(I)Z"⟩, 15) := ⟨⟨by decide +kernel, by decide +kernel⟩, List.mem_of_getElem? (i := 591) (by decide +kernel), List.mem_of_getElem? (i := 712) (by decide +kernel), List.mem_of_getElem? (i := 713) (by decide +kernel)⟩
theorem lw_p38 : lw_okq (⟨"CopyPlatesModel", "of", "(II)I"⟩, 15) := ⟨⟨by decide +kernel, by decide +kernel⟩, List.mem_of_getElem? (i := 591) (by decide +kernel), List.mem_of_getElem? (i := 716) (by decide +kernel), List.mem_of_getElem? (i := 717) (by decide +kernel)⟩
theorem lw_p39 : lw_okq (⟨"CopyPlatesModel", "doKill", "(I)I"⟩, 15) := ⟨⟨by decide +kernel, by decide +kernel⟩, List.mem_of_getElem? (i := 591) (by decide +kernel), List.mem_of_getElem? (i := 724) (by decide +kernel), List.mem_of_getElem? (i := 725) (by decide +kernel)⟩
theorem lw_p40 : lw_okq (⟨"CopyPlatesModel", "leaves", "(I)V"⟩, 15) := ⟨⟨by decide +kernel, by decide +kernel⟩, List.mem_of_getElem? (i := 591) (by decide +kernel), List.mem_of_getElem? (i := 728) (by decide +kernel), List.mem_of_getElem? (i := 729) (by decide +kernel)⟩
theorem lw_p41 : lw_okq (⟨"CopyPlatesModel", "queueOf", "(I)I"⟩, 15) := ⟨⟨by decide +kernel, by decide +kernel⟩, List.mem_of_getElem? (i := 591) (by decide +kernel), List.mem_of_getElem? (i := 732) (by decide +kernel), List.mem_of_getElem? (i := 733) (by decide +kernel)⟩
theorem lw_p42 : lw_okq (⟨"CopyPlatesModel", "placeOf", "(I)I"⟩, 15) := ⟨⟨by decide +kernel, by decide +kernel⟩, List.mem_of_getElem? (i := 591) (by decide +kernel), List.mem_of_getElem? (i := 736) (by decide +kernel), List.mem_of_getElem? (i := 737) (by decide +kernel)⟩
theorem lw_p43 : lw_okq (⟨"CopyPlatesModel", "inQueue", "(II)I"⟩, 15) := ⟨⟨by decide +kernel, by decide +kernel⟩, List.mem_of_getElem? (i := 591) (by decide +kernel), List.mem_of_getElem? (i := 740) (by decide +kernel), List.mem_of_getElem? (i := 741) (by decide +kernel)⟩
theorem lw_p44 : lw_okq (⟨"CopyPlatesModel", "isOnLatest", "(I)Z"⟩, 15) := ⟨⟨by decide +kernel, by decide +kernel⟩, List.mem_of_getElem? (i := 591) (by decide +kernel), List.mem_of_getElem? (i := 744) (by decide +kernel), List.mem_of_getElem? (i := 745) (by decide +kernel)⟩
theorem lw_p45 : lw_okq (⟨"CopyPlatesModel", "isDueSoon", "()Z"⟩, 15) := ⟨⟨by decide +kernel, by decide +kernel⟩, List.mem_of_getElem? (i := 591) (by decide +kernel), List.mem_of_getElem? (i := 748) (by decide +kernel), List.mem_of_getElem? (i := 749) (by decide +kernel)⟩
theorem lw_p46 : lw_okq (⟨"CopyPlatesModel", "doPass", "(I)I"⟩, 15) := ⟨⟨by decide +kernel, by decide +kernel⟩, List.mem_of_getElem? (i := 591) (by decide +kernel), List.mem_of_getElem? (i := 756) (by decide +kernel), List.mem_of_getElem? (i := 757) (by decide +kernel)⟩
theorem lw_p47 : lw_okq (⟨"CopyPlatesModel", "passes", "()I"⟩, 15) := ⟨⟨by decide +kernel, by decide +kernel⟩, List.mem_of_getElem? (i := 591) (by decide +kernel), List.mem_of_getElem? (i := 760) (by decide +kernel), List.mem_of_getElem? (i := 761) (by decide +kernel)⟩
def lw_privs_3 : List (MethodName × Nat) := [(⟨"CopyPlatesModel", "doPlate", "(I)I"⟩, 15), (⟨"CopyPlatesModel", "due", "(I)I"⟩, 15), (⟨"CopyPlatesModel", "plateAt", "(II)I"⟩, 15), (⟨"CopyPlatesModel", "tells", "(II)I"⟩, 15), (⟨"CopyPlatesModel", "doHold", "(I)I"⟩, 15), (⟨"CopyPlatesModel", "isPiece", "(I)Z"⟩, 15), (⟨"CopyPlatesModel", "of", "(II)I"⟩, 15), (⟨"CopyPlatesModel", "doKill", "(I)I"⟩, 15), (⟨"CopyPlatesModel", "leaves", "(I)V"⟩, 15), (⟨"CopyPlatesModel", "queueOf", "(I)I"⟩, 15), (⟨"CopyPlatesModel", "placeOf", "(I)I"⟩, 15), (⟨"CopyPlatesModel", "inQueue", "(II)I"⟩, 15), (⟨"CopyPlatesModel", "isOnLatest", "(I)Z"⟩, 15), (⟨"CopyPlatesModel", "isDueSoon", "()Z"⟩, 15), (⟨"CopyPlatesModel", "doPass", "(I)I"⟩, 15), (⟨"CopyPlatesModel", "passes", "()I"⟩, 15)]
theorem lw_r3 : ∀ q ∈ lw_privs_3, lw_okq q := List.forall_mem_cons.mpr ⟨lw_p32, List.forall_mem_cons.mpr ⟨lw_p33, List.forall_mem_cons.mpr ⟨lw_p34, List.forall_mem_cons.mpr ⟨lw_p35, List.forall_mem_cons.mpr ⟨lw_p36, List.forall_mem_cons.mpr ⟨lw_p37, List.forall_mem_cons.mpr ⟨lw_p38, List.forall_mem_cons.mpr ⟨lw_p39, List.forall_mem_cons.mpr ⟨lw_p40, List.forall_mem_cons.mpr ⟨lw_p41, List.forall_mem_cons.mpr ⟨lw_p42, List.forall_mem_cons.mpr ⟨lw_p43, List.forall_mem_cons.mpr ⟨lw_p44, List.forall_mem_cons.mpr ⟨lw_p45, List.forall_mem_cons.mpr ⟨lw_p46, List.forall_mem_cons.mpr ⟨lw_p47, fun _ h => absurd h List.not_mem_nil⟩⟩⟩⟩⟩⟩⟩⟩⟩⟩⟩⟩⟩⟩⟩⟩
theorem lw_p48 : lw_okq (⟨"CopyPlatesModel", "works", "()V"⟩, 15) := ⟨⟨by decide +kernel, by decide +kernel⟩, List.mem_of_getElem? (i := 591) (by decide +kernel), List.mem_of_getElem? (i := 764) (by decide +kernel), List.mem_of_getElem? (i := 765) (by decide +kernel)⟩
theorem lw_p49 : lw_okq (⟨"CopyPlatesModel", "edits", "(I)V"⟩, 15) := ⟨⟨by decide +kernel, by decide +kernel⟩, List.mem_of_getElem? (i := 591) (by decide +kernel), List.mem_of_getElem? (i := 768) (by decide +kernel), List.mem_of_getElem? (i := 769) (by decide +kernel)⟩
theorem lw_p50 : lw_okq (⟨"CopyPlatesModel", "becomesReady", "(I)V"⟩, 15) := ⟨⟨by decide +kernel, by decide +kernel⟩, List.mem_of_getElem? (i := 591) (by decide +kernel), List.mem_of_getElem? (i := 772) (by decide +kernel), List.mem_of_getElem? (i := 773) (by decide +kernel)⟩
theorem lw_p51 : lw_okq (⟨"CopyPlatesModel", "reads", "()V"⟩, 15) := ⟨⟨by decide +kernel, by decide +kernel⟩, List.mem_of_getElem? (i := 591) (by decide +kernel), List.mem_of_getElem? (i := 776) (by decide +kernel), List.mem_of_getElem? (i := 777) (by decide +kernel)⟩
theorem lw_p52 : lw_okq (⟨"CopyPlatesModel", "takes", "(I)V"⟩, 15) := ⟨⟨by decide +kernel, by decide +kernel⟩, List.mem_of_getElem? (i := 591) (by decide +kernel), List.mem_of_getElem? (i := 780) (by decide +kernel), List.mem_of_getElem? (i := 781) (by decide +kernel)⟩
theorem lw_p53 : lw_okq (⟨"CopyPlatesModel", "ranked", "(I)I"⟩, 15) := ⟨⟨by decide +kernel, by decide +kernel⟩, List.mem_of_getElem? (i := 591) (by decide +kernel), List.mem_of_getElem? (i := 784) (by decide +kernel), List.mem_of_getElem? (i := 785) (by decide +kernel)⟩
theorem lw_p54 : lw_okq (⟨"CopyPlatesModel", "isFree", "(I)Z"⟩, 15) := ⟨⟨by decide +kernel, by decide +kernel⟩, List.mem_of_getElem? (i := 591) (by decide +kernel), List.mem_of_getElem? (i := 788) (by decide +kernel), List.mem_of_getElem? (i := 789) (by decide +kernel)⟩
theorem lw_p55 : lw_okq (⟨"CopyPlatesModel", "isAhead", "(II)Z"⟩, 15) := ⟨⟨by decide +kernel, by decide +kernel⟩, List.mem_of_getElem? (i := 591) (by decide +kernel), List.mem_of_getElem? (i := 792) (by decide +kernel), List.mem_of_getElem? (i := 793) (by decide +kernel)⟩
theorem lw_p56 : lw_okq (⟨"CopyPlatesModel", "platesWith", "(I)I"⟩, 15) := ⟨⟨by decide +kernel, by decide +kernel⟩, List.mem_of_getElem? (i := 591) (by decide +kernel), List.mem_of_getElem? (i := 801) (by decide +kernel), List.mem_of_getElem? (i := 802) (by decide +kernel)⟩
theorem lw_p57 : lw_okq (⟨"CopyPlatesModel", "linesOf", "(I)I"⟩, 15) := ⟨⟨by decide +kernel, by decide +kernel⟩, List.mem_of_getElem? (i := 591) (by decide +kernel), List.mem_of_getElem? (i := 810) (by decide +kernel), List.mem_of_getElem? (i := 811) (by decide +kernel)⟩
theorem lw_p58 : lw_okq (⟨"CopyPlatesModel", "manyThat", "(I)I"⟩, 15) := ⟨⟨by decide +kernel, by decide +kernel⟩, List.mem_of_getElem? (i := 591) (by decide +kernel), List.mem_of_getElem? (i := 818) (by decide +kernel), List.mem_of_getElem? (i := 819) (by decide +kernel)⟩
theorem lw_p59 : lw_okq (⟨"CopyPlatesModel", "manyHeld", "()I"⟩, 15) := ⟨⟨by decide +kernel, by decide +kernel⟩, List.mem_of_getElem? (i := 591) (by decide +kernel), List.mem_of_getElem? (i := 823) (by decide +kernel), List.mem_of_getElem? (i := 824) (by decide +kernel)⟩
theorem lw_p60 : lw_okq (⟨"CopyPlatesModel", "replates", "()I"⟩, 15) := ⟨⟨by decide +kernel, by decide +kernel⟩, List.mem_of_getElem? (i := 591) (by decide +kernel), List.mem_of_getElem? (i := 827) (by decide +kernel), List.mem_of_getElem? (i := 828) (by decide +kernel)⟩
theorem lw_p61 : lw_okq (⟨"CopyPlatesModel", "reason", "(I)I"⟩, 15) := ⟨⟨by decide +kernel, by decide +kernel⟩, List.mem_of_getElem? (i := 591) (by decide +kernel), List.mem_of_getElem? (i := 835) (by decide +kernel), List.mem_of_getElem? (i := 836) (by decide +kernel)⟩
theorem lw_p62 : lw_okq (⟨"CopyPlatesModel", "lastAhead", "(I)I"⟩, 15) := ⟨⟨by decide +kernel, by decide +kernel⟩, List.mem_of_getElem? (i := 591) (by decide +kernel), List.mem_of_getElem? (i := 839) (by decide +kernel), List.mem_of_getElem? (i := 840) (by decide +kernel)⟩
theorem lw_p63 : lw_okq (⟨"CopyPlatesModel", "comesToNext", "()Z"⟩, 15) := ⟨⟨by decide +kernel, by decide +kernel⟩, List.mem_of_getElem? (i := 591) (by decide +kernel), List.mem_of_getElem? (i := 855) (by decide +kernel), List.mem_of_getElem? (i := 856) (by decide +kernel)⟩
def lw_privs_4 : List (MethodName × Nat) := [(⟨"CopyPlatesModel", "works", "()V"⟩, 15), (⟨"CopyPlatesModel", "edits", "(I)V"⟩, 15), (⟨"CopyPlatesModel", "becomesReady", "(I)V"⟩, 15), (⟨"CopyPlatesModel", "reads", "()V"⟩, 15), (⟨"CopyPlatesModel", "takes", "(I)V"⟩, 15), (⟨"CopyPlatesModel", "ranked", "(I)I"⟩, 15), (⟨"CopyPlatesModel", "isFree", "(I)Z"⟩, 15), (⟨"CopyPlatesModel", "isAhead", "(II)Z"⟩, 15), (⟨"CopyPlatesModel", "platesWith", "(I)I"⟩, 15), (⟨"CopyPlatesModel", "linesOf", "(I)I"⟩, 15), (⟨"CopyPlatesModel", "manyThat", "(I)I"⟩, 15), (⟨"CopyPlatesModel", "manyHeld", "()I"⟩, 15), (⟨"CopyPlatesModel", "replates", "()I"⟩, 15), (⟨"CopyPlatesModel", "reason", "(I)I"⟩, 15), (⟨"CopyPlatesModel", "lastAhead", "(I)I"⟩, 15), (⟨"CopyPlatesModel", "comesToNext", "()Z"⟩, 15)]
theorem lw_r4 : ∀ q ∈ lw_privs_4, lw_okq q := List.forall_mem_cons.mpr ⟨lw_p48, List.forall_mem_cons.mpr ⟨lw_p49, List.forall_mem_cons.mpr ⟨lw_p50, List.forall_mem_cons.mpr ⟨lw_p51, List.forall_mem_cons.mpr ⟨lw_p52, List.forall_mem_cons.mpr ⟨lw_p53, List.forall_mem_cons.mpr ⟨lw_p54, List.forall_mem_cons.mpr ⟨lw_p55, List.forall_mem_cons.mpr ⟨lw_p56, List.forall_mem_cons.mpr ⟨lw_p57, List.forall_mem_cons.mpr ⟨lw_p58, List.forall_mem_cons.mpr ⟨lw_p59, List.forall_mem_cons.mpr ⟨lw_p60, List.forall_mem_cons.mpr ⟨lw_p61, List.forall_mem_cons.mpr ⟨lw_p62, List.forall_mem_cons.mpr ⟨lw_p63, fun _ h => absurd h List.not_mem_nil⟩⟩⟩⟩⟩⟩⟩⟩⟩⟩⟩⟩⟩⟩⟩⟩
theorem lw_p64 : lw_okq (⟨"CopyPlatesModel", "readsOrder", "()Z"⟩, 15) := ⟨⟨by decide +kernel, by decide +kernel⟩, List.mem_of_getElem? (i := 591) (by decide +kernel), List.mem_of_getElem? (i := 878) (by decide +kernel), List.mem_of_getElem? (i := 879) (by decide +kernel)⟩
theorem lw_p65 : lw_okq (⟨"CopyPlatesModel", "takesOne", "(I)Z"⟩, 15) := ⟨⟨by decide +kernel, by decide +kernel⟩, List.mem_of_getElem? (i := 591) (by decide +kernel), List.mem_of_getElem? (i := 882) (by decide +kernel), List.mem_of_getElem? (i := 883) (by decide +kernel)⟩
theorem lw_p66 : lw_okq (⟨"CopyPlatesModel", "isHere", "(II)Z"⟩, 15) := ⟨⟨by decide +kernel, by decide +kernel⟩, List.mem_of_getElem? (i := 591) (by decide +kernel), List.mem_of_getElem? (i := 886) (by decide +kernel), List.mem_of_getElem? (i := 887) (by decide +kernel)⟩
theorem lw_p67 : lw_okq (⟨"CopyPlatesModel", "readsPiece", "()Z"⟩, 15) := ⟨⟨by decide +kernel, by decide +kernel⟩, List.mem_of_getElem? (i := 591) (by decide +kernel), List.mem_of_getElem? (i := 890) (by decide +kernel), List.mem_of_getElem? (i := 891) (by decide +kernel)⟩
theorem lw_p68 : lw_okq (⟨"CopyPlatesModel", "readsDigit", "(I)Z"⟩, 15) := ⟨⟨by decide +kernel, by decide +kernel⟩, List.mem_of_getElem? (i := 591) (by decide +kernel), List.mem_of_getElem? (i := 894) (by decide +kernel), List.mem_of_getElem? (i := 895) (by decide +kernel)⟩
theorem lw_p69 : lw_okq (⟨"CopyPlatesModel", "readsNumber", "()Z"⟩, 15) := ⟨⟨by decide +kernel, by decide +kernel⟩, List.mem_of_getElem? (i := 591) (by decide +kernel), List.mem_of_getElem? (i := 898) (by decide +kernel), List.mem_of_getElem? (i := 899) (by decide +kernel)⟩
def lw_privs_5 : List (MethodName × Nat) := [(⟨"CopyPlatesModel", "readsOrder", "()Z"⟩, 15), (⟨"CopyPlatesModel", "takesOne", "(I)Z"⟩, 15), (⟨"CopyPlatesModel", "isHere", "(II)Z"⟩, 15), (⟨"CopyPlatesModel", "readsPiece", "()Z"⟩, 15), (⟨"CopyPlatesModel", "readsDigit", "(I)Z"⟩, 15), (⟨"CopyPlatesModel", "readsNumber", "()Z"⟩, 15)]
theorem lw_r5 : ∀ q ∈ lw_privs_5, lw_okq q := List.forall_mem_cons.mpr ⟨lw_p64, List.forall_mem_cons.mpr ⟨lw_p65, List.forall_mem_cons.mpr ⟨lw_p66, List.forall_mem_cons.mpr ⟨lw_p67, List.forall_mem_cons.mpr ⟨lw_p68, List.forall_mem_cons.mpr ⟨lw_p69, fun _ h => absurd h List.not_mem_nil⟩⟩⟩⟩⟩⟩
def lw_privs : List (MethodName × Nat) := lw_privs_1 ++ (lw_privs_2 ++ (lw_privs_3 ++ (lw_privs_4 ++ (lw_privs_5))))
def lw_tbl : List Cond := k2_sels lw_privs ++ tables_1
theorem lw_privs_ok : ∀ q ∈ lw_privs, lw_okq q := by
  show ∀ q ∈ lw_privs_1 ++ (lw_privs_2 ++ (lw_privs_3 ++ (lw_privs_4 ++ (lw_privs_5)))), lw_okq q
  exact List.forall_mem_append.mpr ⟨lw_r1, List.forall_mem_append.mpr ⟨lw_r2, List.forall_mem_append.mpr ⟨lw_r3, List.forall_mem_append.mpr ⟨lw_r4, lw_r5⟩⟩⟩⟩

def RX0 : String := "CopyPlates$History"
def TX0 : u_T := fun k => match k with
  | 0 => ("CopyPlates$History", "states", "[LCopyPlates$Night;", true)
  | 1 => ("CopyPlates$History", "next", "I", false)
  | _ => ("CopyPlates$History", "changes", "I", false)
def tyX0 : Nat → FieldType := fun k => match k with
  | 0 => .array (.object "CopyPlates$Night")
  | 1 => .int
  | _ => .int
abbrev wsX00 : List Cond := u_ws RX0 TX0 3
theorem nmX0 : ∀ a, a < 3 → ∀ b, b < 3 → a ≠ b → (TX0 a).2.1 ≠ (TX0 b).2.1 := by decide +kernel
theorem tyX0_ok : ∀ k, k < 3 → parseFieldDescriptor (TX0 k).2.2.1 = some (tyX0 k) := by decide +kernel
abbrev cX0_init : ByteArray := prog_2_method_1_code
def yX0_init : MethodName := ⟨RX0, "<init>", "()V"⟩
abbrev cX0_prepare : ByteArray := prog_2_method_2_code
def yX0_prepare : MethodName := ⟨RX0, "prepare", "(LCopyPlates$Night;)V"⟩
abbrev cX0_recordUnlessError : ByteArray := prog_2_method_3_code
def yX0_recordUnlessError : MethodName := ⟨RX0, "recordUnlessError", "(I)I"⟩
abbrev cX0_takeBack : ByteArray := prog_2_method_4_code
def yX0_takeBack : MethodName := ⟨RX0, "takeBack", "(LCopyPlates$Night;)V"⟩
def RX1 : String := "CopyPlates$Night"
def TX1 : u_T := fun k => match k with
  | 0 => ("CopyPlates$Night", "settings", "[I", true)
  | 1 => ("CopyPlates$Night", "minute", "I", false)
  | 2 => ("CopyPlates$Night", "pieces", "[LCopyPlates$Piece;", true)
  | 3 => ("CopyPlates$Night", "pieceCount", "I", false)
  | 4 => ("CopyPlates$Night", "plates", "[LCopyPlates$Plate;", true)
  | _ => ("CopyPlates$Night", "plateCount", "I", false)
def tyX1 : Nat → FieldType := fun k => match k with
  | 0 => .array .int
  | 1 => .int
  | 2 => .array (.object "CopyPlates$Piece")
  | 3 => .int
  | 4 => .array (.object "CopyPlates$Plate")
  | _ => .int
abbrev wsX10 : List Cond := u_ws RX1 TX1 6
theorem nmX1 : ∀ a, a < 6 → ∀ b, b < 6 → a ≠ b → (TX1 a).2.1 ≠ (TX1 b).2.1 := by decide +kernel
theorem tyX1_ok : ∀ k, k < 6 → parseFieldDescriptor (TX1 k).2.2.1 = some (tyX1 k) := by decide +kernel
abbrev cX1_init : ByteArray := prog_3_method_1_code
def yX1_init : MethodName := ⟨RX1, "<init>", "()V"⟩
abbrev cX1_copyFrom : ByteArray := prog_3_method_2_code
def yX1_copyFrom : MethodName := ⟨RX1, "copyFrom", "(LCopyPlates$Night;)V"⟩
abbrev cX1_hasPiece : ByteArray := prog_3_method_3_code
def yX1_hasPiece : MethodName := ⟨RX1, "hasPiece", "(I)Z"⟩
abbrev cX1_isPiece : ByteArray := prog_3_method_4_code
def yX1_isPiece : MethodName := ⟨RX1, "isPiece", "(II)Z"⟩
abbrev cX1_changeSetting : ByteArray := prog_3_method_5_code
def yX1_changeSetting : MethodName := ⟨RX1, "changeSetting", "(II)I"⟩
abbrev cX1_addPiece : ByteArray := prog_3_method_6_code
def yX1_addPiece : MethodName := ⟨RX1, "addPiece", "(IIII)I"⟩
abbrev cX1_addPlate : ByteArray := prog_3_method_7_code
def yX1_addPlate : MethodName := ⟨RX1, "addPlate", "(I)I"⟩
abbrev cX1_turnHold : ByteArray := prog_3_method_8_code
def yX1_turnHold : MethodName := ⟨RX1, "turnHold", "(I)I"⟩
abbrev cX1_killPiece : ByteArray := prog_3_method_9_code
def yX1_killPiece : MethodName := ⟨RX1, "killPiece", "(I)I"⟩
abbrev cX1_passMinutes : ByteArray := prog_3_method_10_code
def yX1_passMinutes : MethodName := ⟨RX1, "passMinutes", "(I)I"⟩
abbrev cX1_passMinute : ByteArray := prog_3_method_11_code
def yX1_passMinute : MethodName := ⟨RX1, "passMinute", "()Z"⟩
abbrev cX1_editAtDesks : ByteArray := prog_3_method_12_code
def yX1_editAtDesks : MethodName := ⟨RX1, "editAtDesks", "()V"⟩
abbrev cX1_readAtLawyer : ByteArray := prog_3_method_13_code
def yX1_readAtLawyer : MethodName := ⟨RX1, "readAtLawyer", "()V"⟩
abbrev cX1_firstAtDesk : ByteArray := prog_3_method_14_code
def yX1_firstAtDesk : MethodName := ⟨RX1, "firstAtDesk", "(I)I"⟩
abbrev cX1_firstAtLawyer : ByteArray := prog_3_method_15_code
def yX1_firstAtLawyer : MethodName := ⟨RX1, "firstAtLawyer", "()I"⟩
abbrev cX1_placeInQueue : ByteArray := prog_3_method_16_code
def yX1_placeInQueue : MethodName := ⟨RX1, "placeInQueue", "(I)I"⟩
abbrev cX1_placeAtDesk : ByteArray := prog_3_method_17_code
def yX1_placeAtDesk : MethodName := ⟨RX1, "placeAtDesk", "(I)I"⟩
abbrev cX1_placeAtLawyer : ByteArray := prog_3_method_18_code
def yX1_placeAtLawyer : MethodName := ⟨RX1, "placeAtLawyer", "(I)I"⟩
abbrev cX1_piecesForPlate : ByteArray := prog_3_method_19_code
def yX1_piecesForPlate : MethodName := ⟨RX1, "piecesForPlate", "()I"⟩
abbrev cX1_linesOf : ByteArray := prog_3_method_20_code
def yX1_linesOf : MethodName := ⟨RX1, "linesOf", "(I)I"⟩
abbrev cX1_takenNow : ByteArray := prog_3_method_21_code
def yX1_takenNow : MethodName := ⟨RX1, "takenNow", "()I"⟩
abbrev cX1_firstByRank : ByteArray := prog_3_method_22_code
def yX1_firstByRank : MethodName := ⟨RX1, "firstByRank", "(I)I"⟩
abbrev cX1_lastTakenAheadOf : ByteArray := prog_3_method_23_code
def yX1_lastTakenAheadOf : MethodName := ⟨RX1, "lastTakenAheadOf", "(I)I"⟩
abbrev cX1_goesAhead : ByteArray := prog_3_method_24_code
def yX1_goesAhead : MethodName := ⟨RX1, "goesAhead", "(II)Z"⟩
abbrev cX1_whyNotOnPlate : ByteArray := prog_3_method_25_code
def yX1_whyNotOnPlate : MethodName := ⟨RX1, "whyNotOnPlate", "(II)I"⟩
abbrev cX1_reasonOf : ByteArray := prog_3_method_26_code
def yX1_reasonOf : MethodName := ⟨RX1, "reasonOf", "(I)I"⟩
abbrev cX1_causeOf : ByteArray := prog_3_method_27_code
def yX1_causeOf : MethodName := ⟨RX1, "causeOf", "(I)I"⟩
abbrev cX1_isMade : ByteArray := prog_3_method_28_code
def yX1_isMade : MethodName := ⟨RX1, "isMade", "(I)Z"⟩
abbrev cX1_nextDue : ByteArray := prog_3_method_29_code
def yX1_nextDue : MethodName := ⟨RX1, "nextDue", "()I"⟩
abbrev cX1_minutesToPlate : ByteArray := prog_3_method_30_code
def yX1_minutesToPlate : MethodName := ⟨RX1, "minutesToPlate", "(I)I"⟩
abbrev cX1_madePlates : ByteArray := prog_3_method_31_code
def yX1_madePlates : MethodName := ⟨RX1, "madePlates", "()I"⟩
abbrev cX1_plateAt : ByteArray := prog_3_method_32_code
def yX1_plateAt : MethodName := ⟨RX1, "plateAt", "(I)I"⟩
abbrev cX1_isOnLatestMade : ByteArray := prog_3_method_33_code
def yX1_isOnLatestMade : MethodName := ⟨RX1, "isOnLatestMade", "(I)Z"⟩
abbrev cX1_tellReplate : ByteArray := prog_3_method_34_code
def yX1_tellReplate : MethodName := ⟨RX1, "tellReplate", "()Z"⟩
abbrev cX1_insertPlate : ByteArray := prog_3_method_35_code
def yX1_insertPlate : MethodName := ⟨RX1, "insertPlate", "(IZ)I"⟩
abbrev cX1_factOfPiece : ByteArray := prog_3_method_36_code
def yX1_factOfPiece : MethodName := ⟨RX1, "factOfPiece", "(II)I"⟩
abbrev cX1_platesWith : ByteArray := prog_3_method_37_code
def yX1_platesWith : MethodName := ⟨RX1, "platesWith", "(I)I"⟩
abbrev cX1_factOfPlate : ByteArray := prog_3_method_38_code
def yX1_factOfPlate : MethodName := ⟨RX1, "factOfPlate", "(II)I"⟩
abbrev cX1_factOfNight : ByteArray := prog_3_method_39_code
def yX1_factOfNight : MethodName := ⟨RX1, "factOfNight", "(I)I"⟩
abbrev cX1_piecesThatAre : ByteArray := prog_3_method_40_code
def yX1_piecesThatAre : MethodName := ⟨RX1, "piecesThatAre", "(I)I"⟩
abbrev cX1_heldPieces : ByteArray := prog_3_method_41_code
def yX1_heldPieces : MethodName := ⟨RX1, "heldPieces", "()I"⟩
abbrev cX1_replates : ByteArray := prog_3_method_42_code
def yX1_replates : MethodName := ⟨RX1, "replates", "()I"⟩
def RX2 : String := "CopyPlates$OrderReader"
def TX2 : u_T := fun k => match k with
  | 0 => ("CopyPlates$OrderReader", "pad", "LCopyPlates$Pad;", true)
  | 1 => ("CopyPlates$OrderReader", "place", "I", false)
  | 2 => ("CopyPlates$OrderReader", "kind", "C", false)
  | 3 => ("CopyPlates$OrderReader", "number", "I", false)
  | 4 => ("CopyPlates$OrderReader", "desk", "I", false)
  | 5 => ("CopyPlates$OrderReader", "rank", "I", false)
  | _ => ("CopyPlates$OrderReader", "legal", "I", false)
def tyX2 : Nat → FieldType := fun k => match k with
  | 0 => .object "CopyPlates$Pad"
  | 1 => .int
  | 2 => .char
  | 3 => .int
  | 4 => .int
  | 5 => .int
  | _ => .int
abbrev wsX20 : List Cond := u_ws RX2 TX2 7
theorem nmX2 : ∀ a, a < 7 → ∀ b, b < 7 → a ≠ b → (TX2 a).2.1 ≠ (TX2 b).2.1 := by decide +kernel
theorem tyX2_ok : ∀ k, k < 7 → parseFieldDescriptor (TX2 k).2.2.1 = some (tyX2 k) := by decide +kernel
abbrev cX2_init : ByteArray := prog_4_method_1_code
def yX2_init : MethodName := ⟨RX2, "<init>", "(LCopyPlates$Pad;)V"⟩
abbrev cX2_goToStart : ByteArray := prog_4_method_2_code
def yX2_goToStart : MethodName := ⟨RX2, "goToStart", "()V"⟩
abbrev cX2_findFault : ByteArray := prog_4_method_3_code
def yX2_findFault : MethodName := ⟨RX2, "findFault", "()I"⟩
abbrev cX2_readOrder : ByteArray := prog_4_method_4_code
def yX2_readOrder : MethodName := ⟨RX2, "readOrder", "()Z"⟩
abbrev cX2_readPiece : ByteArray := prog_4_method_5_code
def yX2_readPiece : MethodName := ⟨RX2, "readPiece", "()Z"⟩
abbrev cX2_readNumber : ByteArray := prog_4_method_6_code
def yX2_readNumber : MethodName := ⟨RX2, "readNumber", "()Z"⟩
abbrev cX2_readSign : ByteArray := prog_4_method_7_code
def yX2_readSign : MethodName := ⟨RX2, "readSign", "(C)Z"⟩
abbrev cX2_digitHere : ByteArray := prog_4_method_8_code
def yX2_digitHere : MethodName := ⟨RX2, "digitHere", "()I"⟩
def RX3 : String := "CopyPlates$Pad"
def TX3 : u_T := fun k => match k with
  | 0 => ("CopyPlates$Pad", "characters", "[C", true)
  | _ => ("CopyPlates$Pad", "length", "I", false)
def tyX3 : Nat → FieldType := fun k => match k with
  | 0 => .array .char
  | _ => .int
abbrev wsX30 : List Cond := u_ws RX3 TX3 2
theorem nmX3 : ∀ a, a < 2 → ∀ b, b < 2 → a ≠ b → (TX3 a).2.1 ≠ (TX3 b).2.1 := by decide +kernel
theorem tyX3_ok : ∀ k, k < 2 → parseFieldDescriptor (TX3 k).2.2.1 = some (tyX3 k) := by decide +kernel
abbrev cX3_init : ByteArray := prog_5_method_1_code
def yX3_init : MethodName := ⟨RX3, "<init>", "()V"⟩
abbrev cX3_append : ByteArray := prog_5_method_2_code
def yX3_append : MethodName := ⟨RX3, "append", "(J)I"⟩
abbrev cX3_charactersIn : ByteArray := prog_5_method_3_code
def yX3_charactersIn : MethodName := ⟨RX3, "charactersIn", "(J)I"⟩
abbrev cX3_empty : ByteArray := prog_5_method_4_code
def yX3_empty : MethodName := ⟨RX3, "empty", "()I"⟩
abbrev cX3_characterAt : ByteArray := prog_5_method_5_code
def yX3_characterAt : MethodName := ⟨RX3, "characterAt", "(I)C"⟩
def RX4 : String := "CopyPlates$Piece"
def TX4 : u_T := fun k => match k with
  | 0 => ("CopyPlates$Piece", "desk", "I", false)
  | 1 => ("CopyPlates$Piece", "lines", "I", false)
  | 2 => ("CopyPlates$Piece", "rank", "I", false)
  | 3 => ("CopyPlates$Piece", "legal", "Z", false)
  | 4 => ("CopyPlates$Piece", "state", "I", false)
  | 5 => ("CopyPlates$Piece", "held", "Z", false)
  | 6 => ("CopyPlates$Piece", "edited", "I", false)
  | 7 => ("CopyPlates$Piece", "read", "I", false)
  | 8 => ("CopyPlates$Piece", "readyMinute", "I", false)
  | _ => ("CopyPlates$Piece", "lawyerTurn", "I", false)
def tyX4 : Nat → FieldType := fun k => match k with
  | 0 => .int
  | 1 => .int
  | 2 => .int
  | 3 => .boolean
  | 4 => .int
  | 5 => .boolean
  | 6 => .int
  | 7 => .int
  | 8 => .int
  | _ => .int
abbrev wsX40 : List Cond := u_ws RX4 TX4 10
theorem nmX4 : ∀ a, a < 10 → ∀ b, b < 10 → a ≠ b → (TX4 a).2.1 ≠ (TX4 b).2.1 := by decide +kernel
theorem tyX4_ok : ∀ k, k < 10 → parseFieldDescriptor (TX4 k).2.2.1 = some (tyX4 k) := by decide +kernel
abbrev cX4_init : ByteArray := prog_6_method_1_code
def yX4_init : MethodName := ⟨RX4, "<init>", "()V"⟩
abbrev cX4_come : ByteArray := prog_6_method_2_code
def yX4_come : MethodName := ⟨RX4, "come", "(IIIZ)V"⟩
abbrev cX4_copyFrom : ByteArray := prog_6_method_3_code
def yX4_copyFrom : MethodName := ⟨RX4, "copyFrom", "(LCopyPlates$Piece;)V"⟩
abbrev cX4_editFor : ByteArray := prog_6_method_4_code
def yX4_editFor : MethodName := ⟨RX4, "editFor", "(II)V"⟩
abbrev cX4_readOneMinute : ByteArray := prog_6_method_5_code
def yX4_readOneMinute : MethodName := ⟨RX4, "readOneMinute", "(II)V"⟩
abbrev cX4_becomeReady : ByteArray := prog_6_method_6_code
def yX4_becomeReady : MethodName := ⟨RX4, "becomeReady", "(I)V"⟩
abbrev cX4_isForPlate : ByteArray := prog_6_method_7_code
def yX4_isForPlate : MethodName := ⟨RX4, "isForPlate", "()Z"⟩
def RX5 : String := "CopyPlates$Plate"
def TX5 : u_T := fun k => match k with
  | 0 => ("CopyPlates$Plate", "minute", "I", false)
  | 1 => ("CopyPlates$Plate", "replate", "Z", false)
  | _ => ("CopyPlates$Plate", "pieces", "I", false)
def tyX5 : Nat → FieldType := fun k => match k with
  | 0 => .int
  | 1 => .boolean
  | _ => .int
abbrev wsX50 : List Cond := u_ws RX5 TX5 3
theorem nmX5 : ∀ a, a < 3 → ∀ b, b < 3 → a ≠ b → (TX5 a).2.1 ≠ (TX5 b).2.1 := by decide +kernel
theorem tyX5_ok : ∀ k, k < 3 → parseFieldDescriptor (TX5 k).2.2.1 = some (tyX5 k) := by decide +kernel
abbrev cX5_init : ByteArray := prog_7_method_1_code
def yX5_init : MethodName := ⟨RX5, "<init>", "()V"⟩
abbrev cX5_tell : ByteArray := prog_7_method_2_code
def yX5_tell : MethodName := ⟨RX5, "tell", "(IZ)V"⟩
abbrev cX5_copyFrom : ByteArray := prog_7_method_3_code
def yX5_copyFrom : MethodName := ⟨RX5, "copyFrom", "(LCopyPlates$Plate;)V"⟩
def RX6 : String := "CopyPlates"
def TX6 : u_T := fun k => match k with
  | 0 => ("CopyPlates", "night", "LCopyPlates$Night;", true)
  | 1 => ("CopyPlates", "ahead", "LCopyPlates$Night;", true)
  | 2 => ("CopyPlates", "history", "LCopyPlates$History;", true)
  | 3 => ("CopyPlates", "slots", "[LCopyPlates$Night;", true)
  | 4 => ("CopyPlates", "pad", "LCopyPlates$Pad;", true)
  | _ => ("CopyPlates", "reader", "LCopyPlates$OrderReader;", true)
def tyX6 : Nat → FieldType := fun k => match k with
  | 0 => .object "CopyPlates$Night"
  | 1 => .object "CopyPlates$Night"
  | 2 => .object "CopyPlates$History"
  | 3 => .array (.object "CopyPlates$Night")
  | 4 => .object "CopyPlates$Pad"
  | _ => .object "CopyPlates$OrderReader"
abbrev wsX60 : List Cond := u_ws RX6 TX6 6
theorem nmX6 : ∀ a, a < 6 → ∀ b, b < 6 → a ≠ b → (TX6 a).2.1 ≠ (TX6 b).2.1 := by decide +kernel
theorem tyX6_ok : ∀ k, k < 6 → parseFieldDescriptor (TX6 k).2.2.1 = some (tyX6 k) := by decide +kernel
abbrev cX6_init : ByteArray := prog_1_method_1_code
def yX6_init : MethodName := ⟨RX6, "<init>", "()V"⟩
abbrev cX6_set : ByteArray := prog_1_method_2_code
def yX6_set : MethodName := ⟨RX6, "set", "(II)I"⟩
abbrev cX6_piece : ByteArray := prog_1_method_3_code
def yX6_piece : MethodName := ⟨RX6, "piece", "(IIII)I"⟩
abbrev cX6_plate : ByteArray := prog_1_method_4_code
def yX6_plate : MethodName := ⟨RX6, "plate", "(I)I"⟩
abbrev cX6_hold : ByteArray := prog_1_method_5_code
def yX6_hold : MethodName := ⟨RX6, "hold", "(I)I"⟩
abbrev cX6_kill : ByteArray := prog_1_method_6_code
def yX6_kill : MethodName := ⟨RX6, "kill", "(I)I"⟩
abbrev cX6_pass : ByteArray := prog_1_method_7_code
def yX6_pass : MethodName := ⟨RX6, "pass", "(I)I"⟩
abbrev cX6_ofPiece : ByteArray := prog_1_method_8_code
def yX6_ofPiece : MethodName := ⟨RX6, "ofPiece", "(II)I"⟩
abbrev cX6_ofPlate : ByteArray := prog_1_method_9_code
def yX6_ofPlate : MethodName := ⟨RX6, "ofPlate", "(II)I"⟩
abbrev cX6_count : ByteArray := prog_1_method_10_code
def yX6_count : MethodName := ⟨RX6, "count", "(I)I"⟩
abbrev cX6_why : ByteArray := prog_1_method_11_code
def yX6_why : MethodName := ⟨RX6, "why", "(II)I"⟩
abbrev cX6_plateNow : ByteArray := prog_1_method_12_code
def yX6_plateNow : MethodName := ⟨RX6, "plateNow", "()I"⟩
abbrev cX6_readyIn : ByteArray := prog_1_method_13_code
def yX6_readyIn : MethodName := ⟨RX6, "readyIn", "(I)I"⟩
abbrev cX6_leastRoom : ByteArray := prog_1_method_14_code
def yX6_leastRoom : MethodName := ⟨RX6, "leastRoom", "()I"⟩
abbrev cX6_nextPlate : ByteArray := prog_1_method_15_code
def yX6_nextPlate : MethodName := ⟨RX6, "nextPlate", "()I"⟩
abbrev cX6_goAheadToPlate : ByteArray := prog_1_method_16_code
def yX6_goAheadToPlate : MethodName := ⟨RX6, "goAheadToPlate", "(I)V"⟩
abbrev cX6_put : ByteArray := prog_1_method_17_code
def yX6_put : MethodName := ⟨RX6, "put", "(J)I"⟩
abbrev cX6_wipe : ByteArray := prog_1_method_18_code
def yX6_wipe : MethodName := ⟨RX6, "wipe", "()I"⟩
abbrev cX6_fault : ByteArray := prog_1_method_19_code
def yX6_fault : MethodName := ⟨RX6, "fault", "()I"⟩
abbrev cX6_carryOut : ByteArray := prog_1_method_20_code
def yX6_carryOut : MethodName := ⟨RX6, "carryOut", "()I"⟩
abbrev cX6_carryOrderOut : ByteArray := prog_1_method_21_code
def yX6_carryOrderOut : MethodName := ⟨RX6, "carryOrderOut", "()I"⟩
abbrev cX6_undo : ByteArray := prog_1_method_22_code
def yX6_undo : MethodName := ⟨RX6, "undo", "()I"⟩
abbrev cX6_save : ByteArray := prog_1_method_23_code
def yX6_save : MethodName := ⟨RX6, "save", "(I)I"⟩
abbrev cX6_restore : ByteArray := prog_1_method_24_code
def yX6_restore : MethodName := ⟨RX6, "restore", "(I)I"⟩
abbrev cX6_isInSet : ByteArray := prog_1_method_25_code
def yX6_isInSet : MethodName := ⟨RX6, "isInSet", "(II)Z"⟩
abbrev cX6_oneIf : ByteArray := prog_1_method_26_code
def yX6_oneIf : MethodName := ⟨RX6, "oneIf", "(Z)I"⟩
def RX7 : String := "CopyPlatesModel"
def TX7 : u_T := fun k => match k with
  | 0 => ("CopyPlatesModel", "all", "[I", true)
  | 1 => ("CopyPlatesModel", "kept", "[I", true)
  | 2 => ("CopyPlatesModel", "tried", "[I", true)
  | 3 => ("CopyPlatesModel", "history", "[I", true)
  | 4 => ("CopyPlatesModel", "historyLong", "I", false)
  | 5 => ("CopyPlatesModel", "slots", "[I", true)
  | 6 => ("CopyPlatesModel", "isSaved", "[I", true)
  | 7 => ("CopyPlatesModel", "taken", "I", false)
  | 8 => ("CopyPlatesModel", "takenLines", "I", false)
  | 9 => ("CopyPlatesModel", "pad", "[I", true)
  | 10 => ("CopyPlatesModel", "padLong", "I", false)
  | 11 => ("CopyPlatesModel", "spot", "I", false)
  | 12 => ("CopyPlatesModel", "isDone", "Z", false)
  | 13 => ("CopyPlatesModel", "told", "I", false)
  | _ => ("CopyPlatesModel", "number", "I", false)
def tyX7 : Nat → FieldType := fun k => match k with
  | 0 => .array .int
  | 1 => .array .int
  | 2 => .array .int
  | 3 => .array .int
  | 4 => .int
  | 5 => .array .int
  | 6 => .array .int
  | 7 => .int
  | 8 => .int
  | 9 => .array .int
  | 10 => .int
  | 11 => .int
  | 12 => .boolean
  | 13 => .int
  | _ => .int
abbrev wsX70 : List Cond := u_ws RX7 TX7 15
theorem nmX7 : ∀ a, a < 15 → ∀ b, b < 15 → a ≠ b → (TX7 a).2.1 ≠ (TX7 b).2.1 := by decide +kernel
theorem tyX7_ok : ∀ k, k < 15 → parseFieldDescriptor (TX7 k).2.2.1 = some (tyX7 k) := by decide +kernel
abbrev cX7_init : ByteArray := prog_9_method_1_code
def yX7_init : MethodName := ⟨RX7, "<init>", "()V"⟩
abbrev cX7_in : ByteArray := prog_9_method_3_code
def yX7_in : MethodName := ⟨RX7, "in", "(JJJ)Z"⟩
abbrev cX7_copy : ByteArray := prog_9_method_4_code
def yX7_copy : MethodName := ⟨RX7, "copy", "([I[I)V"⟩
abbrev cX7_ends : ByteArray := prog_9_method_5_code
def yX7_ends : MethodName := ⟨RX7, "ends", "(I)I"⟩
abbrev cX7_isPiece : ByteArray := prog_9_method_6_code
def yX7_isPiece : MethodName := ⟨RX7, "isPiece", "(I)Z"⟩
abbrev cX7_of : ByteArray := prog_9_method_7_code
def yX7_of : MethodName := ⟨RX7, "of", "(II)I"⟩
abbrev cX7_sets : ByteArray := prog_9_method_8_code
def yX7_sets : MethodName := ⟨RX7, "sets", "(III)V"⟩
abbrev cX7_inQueue : ByteArray := prog_9_method_9_code
def yX7_inQueue : MethodName := ⟨RX7, "inQueue", "(II)I"⟩
abbrev cX7_queueOf : ByteArray := prog_9_method_10_code
def yX7_queueOf : MethodName := ⟨RX7, "queueOf", "(I)I"⟩
abbrev cX7_placeOf : ByteArray := prog_9_method_11_code
def yX7_placeOf : MethodName := ⟨RX7, "placeOf", "(I)I"⟩
abbrev cX7_comesTo : ByteArray := prog_9_method_12_code
def yX7_comesTo : MethodName := ⟨RX7, "comesTo", "(II)V"⟩
abbrev cX7_leaves : ByteArray := prog_9_method_13_code
def yX7_leaves : MethodName := ⟨RX7, "leaves", "(I)V"⟩
abbrev cX7_becomesReady : ByteArray := prog_9_method_14_code
def yX7_becomesReady : MethodName := ⟨RX7, "becomesReady", "(I)V"⟩
abbrev cX7_edits : ByteArray := prog_9_method_15_code
def yX7_edits : MethodName := ⟨RX7, "edits", "(I)V"⟩
abbrev cX7_reads : ByteArray := prog_9_method_16_code
def yX7_reads : MethodName := ⟨RX7, "reads", "()V"⟩
abbrev cX7_isFree : ByteArray := prog_9_method_17_code
def yX7_isFree : MethodName := ⟨RX7, "isFree", "(I)Z"⟩
abbrev cX7_isAhead : ByteArray := prog_9_method_18_code
def yX7_isAhead : MethodName := ⟨RX7, "isAhead", "(II)Z"⟩
abbrev cX7_ranked : ByteArray := prog_9_method_19_code
def yX7_ranked : MethodName := ⟨RX7, "ranked", "(I)I"⟩
abbrev cX7_takes : ByteArray := prog_9_method_20_code
def yX7_takes : MethodName := ⟨RX7, "takes", "(I)V"⟩
abbrev cX7_plateAt : ByteArray := prog_9_method_21_code
def yX7_plateAt : MethodName := ⟨RX7, "plateAt", "(II)I"⟩
abbrev cX7_due : ByteArray := prog_9_method_22_code
def yX7_due : MethodName := ⟨RX7, "due", "(I)I"⟩
abbrev cX7_works : ByteArray := prog_9_method_23_code
def yX7_works : MethodName := ⟨RX7, "works", "()V"⟩
abbrev cX7_passes : ByteArray := prog_9_method_24_code
def yX7_passes : MethodName := ⟨RX7, "passes", "()I"⟩
abbrev cX7_doPiece : ByteArray := prog_9_method_25_code
def yX7_doPiece : MethodName := ⟨RX7, "doPiece", "(IIII)I"⟩
abbrev cX7_tells : ByteArray := prog_9_method_26_code
def yX7_tells : MethodName := ⟨RX7, "tells", "(II)I"⟩
abbrev cX7_doPlate : ByteArray := prog_9_method_27_code
def yX7_doPlate : MethodName := ⟨RX7, "doPlate", "(I)I"⟩
abbrev cX7_doHold : ByteArray := prog_9_method_28_code
def yX7_doHold : MethodName := ⟨RX7, "doHold", "(I)I"⟩
abbrev cX7_isOnLatest : ByteArray := prog_9_method_29_code
def yX7_isOnLatest : MethodName := ⟨RX7, "isOnLatest", "(I)Z"⟩
abbrev cX7_isDueSoon : ByteArray := prog_9_method_30_code
def yX7_isDueSoon : MethodName := ⟨RX7, "isDueSoon", "()Z"⟩
abbrev cX7_doKill : ByteArray := prog_9_method_31_code
def yX7_doKill : MethodName := ⟨RX7, "doKill", "(I)I"⟩
abbrev cX7_doPass : ByteArray := prog_9_method_32_code
def yX7_doPass : MethodName := ⟨RX7, "doPass", "(I)I"⟩
abbrev cX7_isSetting : ByteArray := prog_9_method_33_code
def yX7_isSetting : MethodName := ⟨RX7, "isSetting", "(II)Z"⟩
abbrev cX7_set : ByteArray := prog_9_method_34_code
def yX7_set : MethodName := ⟨RX7, "set", "(II)I"⟩
abbrev cX7_piece : ByteArray := prog_9_method_35_code
def yX7_piece : MethodName := ⟨RX7, "piece", "(IIII)I"⟩
abbrev cX7_plate : ByteArray := prog_9_method_36_code
def yX7_plate : MethodName := ⟨RX7, "plate", "(I)I"⟩
abbrev cX7_hold : ByteArray := prog_9_method_37_code
def yX7_hold : MethodName := ⟨RX7, "hold", "(I)I"⟩
abbrev cX7_kill : ByteArray := prog_9_method_38_code
def yX7_kill : MethodName := ⟨RX7, "kill", "(I)I"⟩
abbrev cX7_pass : ByteArray := prog_9_method_39_code
def yX7_pass : MethodName := ⟨RX7, "pass", "(I)I"⟩
abbrev cX7_platesWith : ByteArray := prog_9_method_40_code
def yX7_platesWith : MethodName := ⟨RX7, "platesWith", "(I)I"⟩
abbrev cX7_ofPiece : ByteArray := prog_9_method_41_code
def yX7_ofPiece : MethodName := ⟨RX7, "ofPiece", "(II)I"⟩
abbrev cX7_linesOf : ByteArray := prog_9_method_42_code
def yX7_linesOf : MethodName := ⟨RX7, "linesOf", "(I)I"⟩
abbrev cX7_ofPlate : ByteArray := prog_9_method_43_code
def yX7_ofPlate : MethodName := ⟨RX7, "ofPlate", "(II)I"⟩
abbrev cX7_manyThat : ByteArray := prog_9_method_44_code
def yX7_manyThat : MethodName := ⟨RX7, "manyThat", "(I)I"⟩
abbrev cX7_manyHeld : ByteArray := prog_9_method_45_code
def yX7_manyHeld : MethodName := ⟨RX7, "manyHeld", "()I"⟩
abbrev cX7_replates : ByteArray := prog_9_method_46_code
def yX7_replates : MethodName := ⟨RX7, "replates", "()I"⟩
abbrev cX7_count : ByteArray := prog_9_method_47_code
def yX7_count : MethodName := ⟨RX7, "count", "(I)I"⟩
abbrev cX7_lastAhead : ByteArray := prog_9_method_48_code
def yX7_lastAhead : MethodName := ⟨RX7, "lastAhead", "(I)I"⟩
abbrev cX7_reason : ByteArray := prog_9_method_49_code
def yX7_reason : MethodName := ⟨RX7, "reason", "(I)I"⟩
abbrev cX7_why : ByteArray := prog_9_method_50_code
def yX7_why : MethodName := ⟨RX7, "why", "(II)I"⟩
abbrev cX7_plateNow : ByteArray := prog_9_method_51_code
def yX7_plateNow : MethodName := ⟨RX7, "plateNow", "()I"⟩
abbrev cX7_readyIn : ByteArray := prog_9_method_52_code
def yX7_readyIn : MethodName := ⟨RX7, "readyIn", "(I)I"⟩
abbrev cX7_comesToNext : ByteArray := prog_9_method_53_code
def yX7_comesToNext : MethodName := ⟨RX7, "comesToNext", "()Z"⟩
abbrev cX7_leastRoom : ByteArray := prog_9_method_54_code
def yX7_leastRoom : MethodName := ⟨RX7, "leastRoom", "()I"⟩
abbrev cX7_nextPlate : ByteArray := prog_9_method_55_code
def yX7_nextPlate : MethodName := ⟨RX7, "nextPlate", "()I"⟩
abbrev cX7_put : ByteArray := prog_9_method_56_code
def yX7_put : MethodName := ⟨RX7, "put", "(J)I"⟩
abbrev cX7_wipe : ByteArray := prog_9_method_57_code
def yX7_wipe : MethodName := ⟨RX7, "wipe", "()I"⟩
abbrev cX7_isHere : ByteArray := prog_9_method_58_code
def yX7_isHere : MethodName := ⟨RX7, "isHere", "(II)Z"⟩
abbrev cX7_takesOne : ByteArray := prog_9_method_59_code
def yX7_takesOne : MethodName := ⟨RX7, "takesOne", "(I)Z"⟩
abbrev cX7_readsDigit : ByteArray := prog_9_method_60_code
def yX7_readsDigit : MethodName := ⟨RX7, "readsDigit", "(I)Z"⟩
abbrev cX7_readsNumber : ByteArray := prog_9_method_61_code
def yX7_readsNumber : MethodName := ⟨RX7, "readsNumber", "()Z"⟩
abbrev cX7_readsPiece : ByteArray := prog_9_method_62_code
def yX7_readsPiece : MethodName := ⟨RX7, "readsPiece", "()Z"⟩
abbrev cX7_readsOrder : ByteArray := prog_9_method_63_code
def yX7_readsOrder : MethodName := ⟨RX7, "readsOrder", "()Z"⟩
abbrev cX7_fault : ByteArray := prog_9_method_64_code
def yX7_fault : MethodName := ⟨RX7, "fault", "()I"⟩
abbrev cX7_carryOut : ByteArray := prog_9_method_65_code
def yX7_carryOut : MethodName := ⟨RX7, "carryOut", "()I"⟩
abbrev cX7_undo : ByteArray := prog_9_method_66_code
def yX7_undo : MethodName := ⟨RX7, "undo", "()I"⟩
abbrev cX7_save : ByteArray := prog_9_method_67_code
def yX7_save : MethodName := ⟨RX7, "save", "(I)I"⟩
abbrev cX7_restore : ByteArray := prog_9_method_68_code
def yX7_restore : MethodName := ⟨RX7, "restore", "(I)I"⟩
def RL : String := "CopyPlatesLaw"
abbrev cL_law : ByteArray := code
def yL_law : MethodName := ⟨RL, "law", "([I)Z"⟩
abbrev vwCl : List vw_C := [(RX0, TX0, 3), (RX1, TX1, 6), (RX2, TX2, 7), (RX3, TX3, 2), (RX4, TX4, 10), (RX5, TX5, 3), (RX6, TX6, 6), (RX7, TX7, 15)]
end
section
/-! CORE: one memory of numbers and one of references for all cells that the law makes; a judgement cp_G at a frame over them; rows for the instructions -/
abbrev cp_Mem : Type := Nat → Nat → Int32
abbrev cp_Rem : Type := Nat → Nat → Option Nat
abbrev cp_Shp : Type := Nat → Nat × Nat
/-- the fixed numbers of a run: classes and slots, array classes, the first cell of ours, the cells of the three tables -/
abbrev cp_En : Type := va_G × (Nat → ClassId) × Nat × (Nat → Nat)
abbrev cp_D (E : cp_En) : va_G := E.1
abbrev cp_cs (E : cp_En) : Nat → ClassId := E.2.1
abbrev cp_b0 (E : cp_En) : Nat := E.2.2.1
abbrev cp_ts (E : cp_En) : Nat → Nat := E.2.2.2
def cp_A (E : cp_En) : Nat → Prop := fun q => cp_b0 E ≤ q
def cp_ty (E : cp_En) : List (ClassId × FieldType) := [(cp_cs E 9, .int), (cp_cs E 10, .char), (cp_cs E 11, .object "CopyPlates$Night"), (cp_cs E 12, .object "CopyPlates$Piece"), (cp_cs E 13, .object "CopyPlates$Plate")]
/-- which fields are references -/
def cp_rf (ci j : Nat) : Bool := match ci with
  | 0 => j == 0
  | 1 => j == 0 || j == 2 || j == 4
  | 2 => j == 0
  | 3 => j == 0
  | 6 => true
  | 7 => j == 0 || j == 1 || j == 2 || j == 3 || j == 5 || j == 6 || j == 9
  | _ => false
def cp_nf (ci : Nat) : Nat := match ci with
  | 0 => 3
  | 1 => 6
  | 2 => 7
  | 3 => 2
  | 4 => 10
  | 5 => 3
  | 6 => 6
  | _ => 15
def cp_fv (ci : Nat) (i : Nat → Int32) (r : Nat → Option Nat) (j : Nat) : Value := if cp_rf ci j = true then va_rf (r j) else .int (i j)
def cp_fs (ci : Nat) (i : Nat → Int32) (r : Nat → Option Nat) : List Value := (List.range (cp_nf ci)).map (cp_fv ci i r)
/-- what a cell of kind k holds: 1 to 8 an object of class k - 1, 9 numbers, 10 characters, 11 to 13 references -/
def cp_e (cs : Nat → ClassId) (k : Nat × Nat) (i : Nat → Int32) (r : Nat → Option Nat) : va_E :=
  if k.1 ≤ 8 then .inr (k.1 - 1, cp_fs (k.1 - 1) i r) else if k.1 ≤ 10 then .inl (cs k.1, k.2, .inl i) else .inl (cs k.1, k.2, .inr (.inr (.inr (.inr r))))
def cp_WL (E : cp_En) (cnt : Nat) (sh : cp_Shp) (I : cp_Mem) (R : cp_Rem) : va_W := va_pl (List.range' (cp_b0 E) cnt) (fun a => cp_e (cp_cs E) (sh a) (I a) (R a))
def cp_own (E : cp_En) (cnt : Nat) (sh : cp_Shp) : Prop := ∀ a, (sh a).1 ≠ 0 ↔ (cp_b0 E ≤ a ∧ a < cp_b0 E + cnt)
def cp_PW (E : cp_En) (cnt : Nat) (sh : cp_Shp) (I : cp_Mem) (R : cp_Rem) (H : Heap) : Prop := cp_own E cnt sh ∧ H.size = cp_b0 E + cnt ∧ va_P (cp_D E) vwCl (cp_WL E cnt sh I R) H
theorem cp_WL_get (E : cp_En) (cnt : Nat) (sh : cp_Shp) (I : cp_Mem) (R : cp_Rem) {k : Nat} (h : k < cnt) : (cp_WL E cnt sh I R)[k]? = some (cp_b0 E + k, cp_e (cp_cs E) (sh (cp_b0 E + k)) (I (cp_b0 E + k)) (R (cp_b0 E + k))) := by
  unfold cp_WL va_pl
  rw [List.getElem?_map, List.getElem?_range' h]
  simp
theorem cp_WL_len (E : cp_En) (cnt : Nat) (sh : cp_Shp) (I : cp_Mem) (R : cp_Rem) : (cp_WL E cnt sh I R).length = cnt := by
  simp [cp_WL, va_pl]
theorem cp_WL_at (E : cp_En) (cnt : Nat) (sh : cp_Shp) (I : cp_Mem) (R : cp_Rem) {a : Nat} (h : cp_b0 E ≤ a ∧ a < cp_b0 E + cnt) : (cp_WL E cnt sh I R)[a - cp_b0 E]? = some (a, cp_e (cp_cs E) (sh a) (I a) (R a)) := by
  have h1 := cp_WL_get E cnt sh I R (k := a - cp_b0 E) (by omega)
  rw [show cp_b0 E + (a - cp_b0 E) = a by omega] at h1
  exact h1
theorem cp_WL_D (E : cp_En) (cnt : Nat) (sh : cp_Shp) (I : cp_Mem) (R : cp_Rem) : va_D (cp_A E) (cp_WL E cnt sh I R) := by
  have key : ∀ (k : Nat) (q : Nat × va_E), (cp_WL E cnt sh I R)[k]? = some q → q.1 = cp_b0 E + k := by
    intro k q hk
    have hl := (List.getElem?_eq_some_iff.mp hk).1
    rw [cp_WL_len] at hl
    rw [cp_WL_get E cnt sh I R hl] at hk
    cases hk
    rfl
  refine ⟨fun i j p q hi hj hpq => ?_, fun k q hk => ?_⟩
  · have h1 := key i p hi
    have h2 := key j q hj
    omega
  · have h1 := key k q hk
    show cp_b0 E ≤ q.1
    omega
theorem cp_WL_set {E : cp_En} {cnt : Nat} {sh : cp_Shp} {I I' : cp_Mem} {R R' : cp_Rem} {a : Nat} {e : va_E} (h : cp_b0 E ≤ a ∧ a < cp_b0 E + cnt) (he : e = cp_e (cp_cs E) (sh a) (I' a) (R' a)) (ho : ∀ q, q ≠ a → I' q = I q ∧ R' q = R q) : (cp_WL E cnt sh I R).set (a - cp_b0 E) (a, e) = cp_WL E cnt sh I' R' := by
  apply List.ext_getElem?
  intro k
  by_cases hk : k = a - cp_b0 E
  · subst hk
    rw [List.getElem?_set_self (by rw [cp_WL_len]; omega), cp_WL_at E cnt sh I' R' h, he]
  · rw [List.getElem?_set_ne (Ne.symm hk)]
    by_cases hl : k < cnt
    · rw [cp_WL_get E cnt sh I R hl, cp_WL_get E cnt sh I' R' hl]
      obtain ⟨h1, h2⟩ := ho (cp_b0 E + k) (by omega)
      rw [h1, h2]
    · rw [List.getElem?_eq_none (by rw [cp_WL_len]; omega), List.getElem?_eq_none (by rw [cp_WL_len]; omega)]
/-- writing one number, one reference -/
def cp_wi (I : cp_Mem) (a j : Nat) (v : Int32) : cp_Mem := fun a' j' => if a' = a ∧ j' = j then v else I a' j'
def cp_wr (R : cp_Rem) (a j : Nat) (v : Option Nat) : cp_Rem := fun a' j' => if a' = a ∧ j' = j then v else R a' j'
theorem cp_wi_s (I : cp_Mem) (a j : Nat) (v : Int32) : cp_wi I a j v a j = v := by simp [cp_wi]
theorem cp_wi_a (I : cp_Mem) (a j : Nat) (v : Int32) {a' : Nat} (h : a' ≠ a) : cp_wi I a j v a' = I a' := by
  funext q
  simp [cp_wi, h]
theorem cp_wr_a (R : cp_Rem) (a j : Nat) (v : Option Nat) {a' : Nat} (h : a' ≠ a) : cp_wr R a j v a' = R a' := by
  funext q
  simp [cp_wr, h]
theorem cp_fs_len (ci : Nat) (i : Nat → Int32) (r : Nat → Option Nat) : (cp_fs ci i r).length = cp_nf ci := by simp [cp_fs]
theorem cp_fs_get (ci : Nat) (i : Nat → Int32) (r : Nat → Option Nat) {j : Nat} (h : j < cp_nf ci) : (cp_fs ci i r)[j]? = some (cp_fv ci i r j) := by
  unfold cp_fs
  rw [List.getElem?_map, List.getElem?_range h]
  rfl
theorem cp_fs_set (ci : Nat) {i i' : Nat → Int32} {r r' : Nat → Option Nat} {j : Nat} {v : Value} (hv : v = cp_fv ci i' r' j) (ho : ∀ q, q ≠ j → cp_fv ci i' r' q = cp_fv ci i r q) : (cp_fs ci i r).set j v = cp_fs ci i' r' := by
  apply List.ext_getElem?
  intro k
  by_cases hl : k < cp_nf ci
  · by_cases hk : k = j
    · subst hk
      rw [List.getElem?_set_self (by rw [cp_fs_len]; exact hl), cp_fs_get ci i' r' hl, hv]
    · rw [List.getElem?_set_ne (Ne.symm hk), cp_fs_get ci i r hl, cp_fs_get ci i' r' hl, ho k hk]
  · rw [List.getElem?_eq_none (by rw [List.length_set, cp_fs_len]; omega), List.getElem?_eq_none (by rw [cp_fs_len]; omega)]
/-- the tables' words that stay good -/
def cp_TG : List Cond := lw_tbl.filter goodWord
theorem cp_TG_in {i : Nat} {w : Cond} (h : lw_tbl[i]? = some w) (hg : goodWord w = true) : w ∈ cp_TG := List.mem_filter.mpr ⟨List.mem_of_getElem? h, hg⟩
theorem cp_TG_good : GoodIn cp_TG cp_TG := fun w hw => ⟨hw, good_of_word (List.mem_filter.mp hw).2⟩
/-- words of nest mates, which are carried apart -/
def cp_nF : List (String × Nat × String) := [(RX1, 9, "FIRST_VALUES"), (RX1, 67, "LEAST_VALUES"), (RX1, 70, "GREATEST_VALUES")]
def cp_nM : List (String × Nat × MethodName) := [(RX1, 33, yX4_init), (RX1, 43, yX5_init), (RX1, 89, yX6_oneIf), (RX1, 118, yX6_isInSet), (RX2, 59, yX6_oneIf)]
def cp_nw (U : State) : Prop := (∀ q ∈ cp_nF, va_Nw (.fieldLinkNest q.1 q.2.1 "CopyPlates" q.2.2 "[I" "CopyPlates") U) ∧ (∀ q ∈ cp_nM, va_Nw (.methodLinkNest q.1 q.2.1 q.2.2 "CopyPlates") U)
theorem cp_nw_warm {s U : State} (hW : s.WarmedH U.vm) (h : cp_nw s) : cp_nw U := ⟨fun q hq => va_Nw.warmF hW (h.1 q hq), fun q hq => va_Nw.warmM hW (h.2 q hq)⟩
theorem cp_nw_same {u U : State} (hv : u.vm = U.vm) (h : cp_nw u) : cp_nw U := ⟨fun q hq => va_Nw.same rfl hv (h.1 q hq), fun q hq => va_Nw.same rfl hv (h.2 q hq)⟩
def cp_sn : Nat → String
  | 0 => "FIRST_VALUES"
  | 1 => "LEAST_VALUES"
  | _ => "GREATEST_VALUES"
def cp_sv (k j : Nat) : Int32 := match k, j with
  | 0, 0 => 4
  | 0, 1 => 10
  | 0, 2 => 60
  | 0, _ => 5
  | 1, 2 => 10
  | 1, _ => 1
  | _, 0 => 20
  | _, 2 => 400
  | _, _ => 60
/-- the three tables of the class: nobody writes them -/
def cp_Z (E : cp_En) (U : State) (H : Heap) : Prop := ∀ k, k < 3 → va_Z "CopyPlates" (cp_sn k) "[I" (.ref (cp_ts E k)) (cp_A E) U H ∧ va_T .int (cp_ts E k) 4 (fun j => .int (cp_sv k j)) (cp_A E) U H
theorem cp_Z_moved {E : cp_En} {u U : State} {H : Heap} (hv : u.vm.Alike U.vm) (h : cp_Z E u H) : cp_Z E U H := fun k hk => ⟨(h k hk).1.moved hv, (h k hk).2.moved hv⟩
theorem cp_Z_kept {E : cp_En} {U : State} {H H1 : Heap} (hq : ∀ a : Nat, a < H.size → ¬ cp_A E a → H1[a]? = H[a]?) (h : cp_Z E U H) : cp_Z E U H1 := fun k hk => ⟨(h k hk).1.kept hq, (h k hk).2.kept hq⟩
def cp_K (E : cp_En) (U : State) : Prop := va_K (cp_D E) vwCl (cp_ty E) U ∧ cp_nw U
theorem cp_K_warm {E : cp_En} {s U : State} (hW : s.WarmedH U.vm) (h : cp_K E s) : cp_K E U := ⟨h.1.moved hW.alike, cp_nw_warm hW h.2⟩
/-- a method's room: d calls below it -/
def cp_rm (d mc ms : Nat) : Room := { frames := d, cells := mc, slots := ms, locals := 12 + 32 * d }
abbrev cp_Cx : Type := Program × Launch × Env × Room × State × MethodId × Array Value × List Frame × Method × Code × (State → Prop)
abbrev cp_xp (x : cp_Cx) : Program := x.1
abbrev cp_xl (x : cp_Cx) : Launch := x.2.1
abbrev cp_xe (x : cp_Cx) : Env := x.2.2.1
abbrev cp_xR (x : cp_Cx) : Room := x.2.2.2.1
abbrev cp_xs (x : cp_Cx) : State := x.2.2.2.2.1
abbrev cp_xm (x : cp_Cx) : MethodId := x.2.2.2.2.2.1
abbrev cp_xa (x : cp_Cx) : Array Value := x.2.2.2.2.2.2.1
abbrev cp_xb (x : cp_Cx) : List Frame := x.2.2.2.2.2.2.2.1
abbrev cp_xk (x : cp_Cx) : Method := x.2.2.2.2.2.2.2.2.1
abbrev cp_xc (x : cp_Cx) : Code := x.2.2.2.2.2.2.2.2.2.1
abbrev cp_xQ (x : cp_Cx) : State → Prop := x.2.2.2.2.2.2.2.2.2.2
abbrev cp_W (x : cp_Cx) (H : Heap) (locs : List Loc) (cells slots : Nat) (g : JFrame) : Prop := W (cp_xp x) (cp_xl x) (cp_xe x) (cp_xR x) (cp_xs x) (cp_xm x) (cp_xa x) (cp_xb x) (cp_xk x) (cp_xc x) H locs cells slots (cp_xQ x) g
/-- the locals as a list, a place each -/
def cp_lq : Nat → List (Option Value) → List (Nat × Value)
  | _, [] => []
  | k, none :: t => cp_lq (k + 1) t
  | k, some v :: t => (k, v) :: cp_lq (k + 1) t
theorem cp_lq_in : ∀ (L : List (Option Value)) (k i : Nat) (v : Value), (i, v) ∈ cp_lq k L ↔ k ≤ i ∧ L[i - k]? = some (some v)
  | [], k, i, v => by simp [cp_lq]
  | none :: t, k, i, v => by
    rw [cp_lq, cp_lq_in t (k + 1) i v]
    constructor
    · rintro ⟨h1, h2⟩
      refine ⟨by omega, ?_⟩
      rw [show i - k = (i - (k + 1)) + 1 by omega]
      simpa using h2
    · rintro ⟨h1, h2⟩
      rcases Nat.eq_or_lt_of_le h1 with h | h
      · subst h; simp at h2
      · refine ⟨h, ?_⟩
        rw [show i - k = (i - (k + 1)) + 1 by omega] at h2
        simpa using h2
  | some w :: t, k, i, v => by
    rw [cp_lq, List.mem_cons, cp_lq_in t (k + 1) i v]
    constructor
    · rintro (h | ⟨h1, h2⟩)
      · cases h; simp
      · refine ⟨by omega, ?_⟩
        rw [show i - k = (i - (k + 1)) + 1 by omega]
        simpa using h2
    · rintro ⟨h1, h2⟩
      rcases Nat.eq_or_lt_of_le h1 with h | h
      · subst h; left; simp at h2; rw [h2]
      · right
        refine ⟨h, ?_⟩
        rw [show i - k = (i - (k + 1)) + 1 by omega] at h2
        simpa using h2
def cp_lH (ls : Array Slot) (nL : Nat) (L : List (Option Value)) : Prop := lv_has ls nL (cp_lq 0 L)
theorem cp_lH_at {ls : Array Slot} {nL : Nat} {L : List (Option Value)} (h : cp_lH ls nL L) {i : Nat} {v : Value} (hv : L[i]? = some (some v)) : ls[i]? = some (.val v) := h.2.2 (i, v) ((cp_lq_in L 0 i v).mpr ⟨Nat.zero_le _, hv⟩)
/-- the judgement at a frame -/
def cp_G (x : cp_Cx) (E : cp_En) (nL cells slots cnt : Nat) (sh : cp_Shp) (I : cp_Mem) (R : cp_Rem) (pc : Nat) (L : List (Option Value)) (st : List Value) : Prop :=
  ∀ (H : Heap) (locs : List Loc) (ls : Array Slot), cp_PW E cnt sh I R H → va_S (cp_A E) (cp_xs x).heap H locs → cp_lH ls nL L → cp_W x H locs cells slots (F0 (cp_xm x) pc ls st)
/-- what holds all through a method's run -/
def cp_Ok (x : cp_Cx) (E : cp_En) (own : String) (bc : ByteArray) (nL d mc ms : Nat) : Prop :=
  (cp_xp x).tables.exec = Jvm.exec ∧ (cp_xc x).code = bc ∧ (cp_xc x).maxLocals = nL ∧ (cp_xs x).vm.findClass own = some (cp_xm x).cls ∧ (∀ w ∈ cp_TG, w.before (cp_xa x) (cp_xs x) = true) ∧ cp_K E (cp_xs x) ∧ cp_Z E (cp_xs x) (cp_xs x).heap ∧ cp_b0 E ≤ (cp_xs x).heap.size ∧
  (d ≤ (cp_xR x).frames ∧ 12 + 32 * d ≤ (cp_xR x).locals ∧ mc ≤ (cp_xR x).cells ∧ ms ≤ (cp_xR x).slots)
end
section
section CPR
variable {x : cp_Cx} {E : cp_En} {own : String} {bc : ByteArray} {nL d mc ms : Nat} {cells slots cnt : Nat} {sh : cp_Shp} {I : cp_Mem} {R : cp_Rem} {pc : Nat} {L : List (Option Value)} {st : List Value}
def cp_nl : Option Value → Bool
  | some (.long _) => false
  | some (.double _) => false
  | _ => true
def cp_ls (L : List (Option Value)) (i : Nat) (v : Value) (L' : List (Option Value)) : Prop := i < L.length ∧ L' = L.set i (some v) ∧ (∀ w, 0 < i → L[i - 1]? = some w → cp_nl w = true)
theorem cp_ls0 {b : Option Value} {t : List (Option Value)} {v : Value} : cp_ls (b :: t) 0 v (some v :: t) := ⟨by simp, rfl, fun w h _ => absurd h (by omega)⟩
theorem cp_lg0 {t : List (Option Value)} {v : Value} : (some v :: t)[0]? = some (some v) := rfl
theorem cp_ls1 {b : Option Value} {t : List (Option Value)} {v : Value} {a0 : Option Value} (h : cp_nl a0 = true) : cp_ls (a0 :: b :: t) 1 v (a0 :: some v :: t) := ⟨by simp, rfl, fun w _ hw => by simp at hw; rw [← hw]; exact h⟩
theorem cp_lg1 {t : List (Option Value)} {v : Value} {a0 : Option Value} : (a0 :: some v :: t)[1]? = some (some v) := rfl
theorem cp_ls2 {b : Option Value} {t : List (Option Value)} {v : Value} {a0 : Option Value} {a1 : Option Value} (h : cp_nl a1 = true) : cp_ls (a0 :: a1 :: b :: t) 2 v (a0 :: a1 :: some v :: t) := ⟨by simp, rfl, fun w _ hw => by simp at hw; rw [← hw]; exact h⟩
theorem cp_lg2 {t : List (Option Value)} {v : Value} {a0 : Option Value} {a1 : Option Value} : (a0 :: a1 :: some v :: t)[2]? = some (some v) := rfl
theorem cp_ls3 {b : Option Value} {t : List (Option Value)} {v : Value} {a0 : Option Value} {a1 : Option Value} {a2 : Option Value} (h : cp_nl a2 = true) : cp_ls (a0 :: a1 :: a2 :: b :: t) 3 v (a0 :: a1 :: a2 :: some v :: t) := ⟨by simp, rfl, fun w _ hw => by simp at hw; rw [← hw]; exact h⟩
theorem cp_lg3 {t : List (Option Value)} {v : Value} {a0 : Option Value} {a1 : Option Value} {a2 : Option Value} : (a0 :: a1 :: a2 :: some v :: t)[3]? = some (some v) := rfl
theorem cp_ls4 {b : Option Value} {t : List (Option Value)} {v : Value} {a0 : Option Value} {a1 : Option Value} {a2 : Option Value} {a3 : Option Value} (h : cp_nl a3 = true) : cp_ls (a0 :: a1 :: a2 :: a3 :: b :: t) 4 v (a0 :: a1 :: a2 :: a3 :: some v :: t) := ⟨by simp, rfl, fun w _ hw => by simp at hw; rw [← hw]; exact h⟩
theorem cp_lg4 {t : List (Option Value)} {v : Value} {a0 : Option Value} {a1 : Option Value} {a2 : Option Value} {a3 : Option Value} : (a0 :: a1 :: a2 :: a3 :: some v :: t)[4]? = some (some v) := rfl
theorem cp_ls5 {b : Option Value} {t : List (Option Value)} {v : Value} {a0 : Option Value} {a1 : Option Value} {a2 : Option Value} {a3 : Option Value} {a4 : Option Value} (h : cp_nl a4 = true) : cp_ls (a0 :: a1 :: a2 :: a3 :: a4 :: b :: t) 5 v (a0 :: a1 :: a2 :: a3 :: a4 :: some v :: t) := ⟨by simp, rfl, fun w _ hw => by simp at hw; rw [← hw]; exact h⟩
theorem cp_lg5 {t : List (Option Value)} {v : Value} {a0 : Option Value} {a1 : Option Value} {a2 : Option Value} {a3 : Option Value} {a4 : Option Value} : (a0 :: a1 :: a2 :: a3 :: a4 :: some v :: t)[5]? = some (some v) := rfl
theorem cp_ls6 {b : Option Value} {t : List (Option Value)} {v : Value} {a0 : Option Value} {a1 : Option Value} {a2 : Option Value} {a3 : Option Value} {a4 : Option Value} {a5 : Option Value} (h : cp_nl a5 = true) : cp_ls (a0 :: a1 :: a2 :: a3 :: a4 :: a5 :: b :: t) 6 v (a0 :: a1 :: a2 :: a3 :: a4 :: a5 :: some v :: t) := ⟨by simp, rfl, fun w _ hw => by simp at hw; rw [← hw]; exact h⟩
theorem cp_lg6 {t : List (Option Value)} {v : Value} {a0 : Option Value} {a1 : Option Value} {a2 : Option Value} {a3 : Option Value} {a4 : Option Value} {a5 : Option Value} : (a0 :: a1 :: a2 :: a3 :: a4 :: a5 :: some v :: t)[6]? = some (some v) := rfl
theorem cp_ls7 {b : Option Value} {t : List (Option Value)} {v : Value} {a0 : Option Value} {a1 : Option Value} {a2 : Option Value} {a3 : Option Value} {a4 : Option Value} {a5 : Option Value} {a6 : Option Value} (h : cp_nl a6 = true) : cp_ls (a0 :: a1 :: a2 :: a3 :: a4 :: a5 :: a6 :: b :: t) 7 v (a0 :: a1 :: a2 :: a3 :: a4 :: a5 :: a6 :: some v :: t) := ⟨by simp, rfl, fun w _ hw => by simp at hw; rw [← hw]; exact h⟩
theorem cp_lg7 {t : List (Option Value)} {v : Value} {a0 : Option Value} {a1 : Option Value} {a2 : Option Value} {a3 : Option Value} {a4 : Option Value} {a5 : Option Value} {a6 : Option Value} : (a0 :: a1 :: a2 :: a3 :: a4 :: a5 :: a6 :: some v :: t)[7]? = some (some v) := rfl
theorem cp_ls8 {b : Option Value} {t : List (Option Value)} {v : Value} {a0 : Option Value} {a1 : Option Value} {a2 : Option Value} {a3 : Option Value} {a4 : Option Value} {a5 : Option Value} {a6 : Option Value} {a7 : Option Value} (h : cp_nl a7 = true) : cp_ls (a0 :: a1 :: a2 :: a3 :: a4 :: a5 :: a6 :: a7 :: b :: t) 8 v (a0 :: a1 :: a2 :: a3 :: a4 :: a5 :: a6 :: a7 :: some v :: t) := ⟨by simp, rfl, fun w _ hw => by simp at hw; rw [← hw]; exact h⟩
theorem cp_lg8 {t : List (Option Value)} {v : Value} {a0 : Option Value} {a1 : Option Value} {a2 : Option Value} {a3 : Option Value} {a4 : Option Value} {a5 : Option Value} {a6 : Option Value} {a7 : Option Value} : (a0 :: a1 :: a2 :: a3 :: a4 :: a5 :: a6 :: a7 :: some v :: t)[8]? = some (some v) := rfl
theorem cp_ls9 {b : Option Value} {t : List (Option Value)} {v : Value} {a0 : Option Value} {a1 : Option Value} {a2 : Option Value} {a3 : Option Value} {a4 : Option Value} {a5 : Option Value} {a6 : Option Value} {a7 : Option Value} {a8 : Option Value} (h : cp_nl a8 = true) : cp_ls (a0 :: a1 :: a2 :: a3 :: a4 :: a5 :: a6 :: a7 :: a8 :: b :: t) 9 v (a0 :: a1 :: a2 :: a3 :: a4 :: a5 :: a6 :: a7 :: a8 :: some v :: t) := ⟨by simp, rfl, fun w _ hw => by simp at hw; rw [← hw]; exact h⟩
theorem cp_lg9 {t : List (Option Value)} {v : Value} {a0 : Option Value} {a1 : Option Value} {a2 : Option Value} {a3 : Option Value} {a4 : Option Value} {a5 : Option Value} {a6 : Option Value} {a7 : Option Value} {a8 : Option Value} : (a0 :: a1 :: a2 :: a3 :: a4 :: a5 :: a6 :: a7 :: a8 :: some v :: t)[9]? = some (some v) := rfl
theorem cp_lH_ls {ls : Array Slot} {nL : Nat} {L L' : List (Option Value)} {i : Nat} {v : Value} (h : lv_has ls nL ((i, v) :: (cp_lq 0 L).filter (fun q => !(q.1 == i) && !(q.1 + 1 == i && q.2.category == 2)))) (hs : cp_ls L i v L') : cp_lH ls nL L' := by
  obtain ⟨h1, h2, h3⟩ := hs
  refine ⟨h.1, h.2.1, fun q hq => ?_⟩
  obtain ⟨j, w⟩ := q
  have hj := ((cp_lq_in L' 0 j w).mp hq).2
  rw [Nat.sub_zero, h2] at hj
  by_cases hji : j = i
  · subst hji
    rw [List.getElem?_set_self h1] at hj
    cases hj
    exact h.2.2 _ List.mem_cons_self
  · rw [List.getElem?_set_ne (Ne.symm hji)] at hj
    refine h.2.2 (j, w) (List.mem_cons_of_mem _ (List.mem_filter.mpr ⟨(cp_lq_in L 0 j w).mpr ⟨Nat.zero_le _, hj⟩, ?_⟩))
    by_cases hk : j + 1 = i
    · have h4 := h3 (some w) (by omega) (by rw [show i - 1 = j by omega]; exact hj)
      cases w <;> simp_all [cp_nl, Value.category]
    · simp [hji, hk]
theorem cp_iadd (O : cp_Ok x E own bc nL d mc ms) {a b : Int32} (hd : decode bc pc = .ok (.iadd, 1)) (k : cp_G x E nL cells slots cnt sh I R (pc + 1) L (.int (a + b) :: st)) : cp_G x E nL cells slots cnt sh I R pc L (.int b :: .int a :: st) := fun H locs ls hW hS hl => lv_iadd O.1 O.2.1 hd (k H locs ls hW hS hl)
theorem cp_isub (O : cp_Ok x E own bc nL d mc ms) {a b : Int32} (hd : decode bc pc = .ok (.isub, 1)) (k : cp_G x E nL cells slots cnt sh I R (pc + 1) L (.int (a - b) :: st)) : cp_G x E nL cells slots cnt sh I R pc L (.int b :: .int a :: st) := fun H locs ls hW hS hl => lv_isub O.1 O.2.1 hd (k H locs ls hW hS hl)
theorem cp_imul (O : cp_Ok x E own bc nL d mc ms) {a b : Int32} (hd : decode bc pc = .ok (.imul, 1)) (k : cp_G x E nL cells slots cnt sh I R (pc + 1) L (.int (a * b) :: st)) : cp_G x E nL cells slots cnt sh I R pc L (.int b :: .int a :: st) := fun H locs ls hW hS hl => lv_imul O.1 O.2.1 hd (k H locs ls hW hS hl)
theorem cp_iand (O : cp_Ok x E own bc nL d mc ms) {a b : Int32} (hd : decode bc pc = .ok (.iand, 1)) (k : cp_G x E nL cells slots cnt sh I R (pc + 1) L (.int (a &&& b) :: st)) : cp_G x E nL cells slots cnt sh I R pc L (.int b :: .int a :: st) := fun H locs ls hW hS hl => lv_iand O.1 O.2.1 hd (k H locs ls hW hS hl)
theorem cp_ior (O : cp_Ok x E own bc nL d mc ms) {a b : Int32} (hd : decode bc pc = .ok (.ior, 1)) (k : cp_G x E nL cells slots cnt sh I R (pc + 1) L (.int (a ||| b) :: st)) : cp_G x E nL cells slots cnt sh I R pc L (.int b :: .int a :: st) := fun H locs ls hW hS hl => lv_ior O.1 O.2.1 hd (k H locs ls hW hS hl)
theorem cp_ixor (O : cp_Ok x E own bc nL d mc ms) {a b : Int32} (hd : decode bc pc = .ok (.ixor, 1)) (k : cp_G x E nL cells slots cnt sh I R (pc + 1) L (.int (a ^^^ b) :: st)) : cp_G x E nL cells slots cnt sh I R pc L (.int b :: .int a :: st) := fun H locs ls hW hS hl => lv_ixor O.1 O.2.1 hd (k H locs ls hW hS hl)
theorem cp_ishl (O : cp_Ok x E own bc nL d mc ms) {a b : Int32} (hd : decode bc pc = .ok (.ishl, 1)) (k : cp_G x E nL cells slots cnt sh I R (pc + 1) L (.int (a <<< (b &&& 31)) :: st)) : cp_G x E nL cells slots cnt sh I R pc L (.int b :: .int a :: st) := fun H locs ls hW hS hl => lv_ishl O.1 O.2.1 hd (k H locs ls hW hS hl)
theorem cp_ishr (O : cp_Ok x E own bc nL d mc ms) {a b : Int32} (hd : decode bc pc = .ok (.ishr, 1)) (k : cp_G x E nL cells slots cnt sh I R (pc + 1) L (.int (a >>> (b &&& 31)) :: st)) : cp_G x E nL cells slots cnt sh I R pc L (.int b :: .int a :: st) := fun H locs ls hW hS hl => lv_ishr O.1 O.2.1 hd (k H locs ls hW hS hl)
theorem cp_land (O : cp_Ok x E own bc nL d mc ms) {a b : Int64} (hd : decode bc pc = .ok (.land, 1)) (k : cp_G x E nL cells slots cnt sh I R (pc + 1) L (.long (a &&& b) :: st)) : cp_G x E nL cells slots cnt sh I R pc L (.long b :: .long a :: st) := fun H locs ls hW hS hl => lv_land O.1 O.2.1 hd (k H locs ls hW hS hl)
theorem cp_lor (O : cp_Ok x E own bc nL d mc ms) {a b : Int64} (hd : decode bc pc = .ok (.lor, 1)) (k : cp_G x E nL cells slots cnt sh I R (pc + 1) L (.long (a ||| b) :: st)) : cp_G x E nL cells slots cnt sh I R pc L (.long b :: .long a :: st) := fun H locs ls hW hS hl => lv_lor O.1 O.2.1 hd (k H locs ls hW hS hl)
theorem cp_lsub (O : cp_Ok x E own bc nL d mc ms) {a b : Int64} (hd : decode bc pc = .ok (.lsub, 1)) (k : cp_G x E nL cells slots cnt sh I R (pc + 1) L (.long (a - b) :: st)) : cp_G x E nL cells slots cnt sh I R pc L (.long b :: .long a :: st) := fun H locs ls hW hS hl => lv_lsub O.1 O.2.1 hd (k H locs ls hW hS hl)
theorem cp_lshl (O : cp_Ok x E own bc nL d mc ms) {a : Int64} {b : Int32} (hd : decode bc pc = .ok (.lshl, 1)) (k : cp_G x E nL cells slots cnt sh I R (pc + 1) L (.long (a <<< (b.toInt64 &&& 63)) :: st)) : cp_G x E nL cells slots cnt sh I R pc L (.int b :: .long a :: st) := fun H locs ls hW hS hl => lv_lshl O.1 O.2.1 hd rfl (k H locs ls hW hS hl)
theorem cp_lushr (O : cp_Ok x E own bc nL d mc ms) {a : Int64} {b : Int32} (hd : decode bc pc = .ok (.lushr, 1)) (k : cp_G x E nL cells slots cnt sh I R (pc + 1) L (.long (a.toUInt64 >>> (b.toInt64.toUInt64 &&& Int64.toUInt64 63)).toInt64 :: st)) : cp_G x E nL cells slots cnt sh I R pc L (.int b :: .long a :: st) := fun H locs ls hW hS hl => lv_lushr O.1 O.2.1 hd rfl (k H locs ls hW hS hl)
theorem cp_i2l (O : cp_Ok x E own bc nL d mc ms) {a : Int32} (hd : decode bc pc = .ok (.i2l, 1)) (k : cp_G x E nL cells slots cnt sh I R (pc + 1) L (.long a.toInt64 :: st)) : cp_G x E nL cells slots cnt sh I R pc L (.int a :: st) := fun H locs ls hW hS hl => lv_i2l O.1 O.2.1 hd rfl (k H locs ls hW hS hl)
theorem cp_l2i (O : cp_Ok x E own bc nL d mc ms) {a : Int64} (hd : decode bc pc = .ok (.l2i, 1)) (k : cp_G x E nL cells slots cnt sh I R (pc + 1) L (.int a.toInt32 :: st)) : cp_G x E nL cells slots cnt sh I R pc L (.long a :: st) := fun H locs ls hW hS hl => lv_l2i O.1 O.2.1 hd rfl (k H locs ls hW hS hl)
theorem cp_i2c (O : cp_Ok x E own bc nL d mc ms) {a : Int32} (hd : decode bc pc = .ok (.i2c, 1)) (k : cp_G x E nL cells slots cnt sh I R (pc + 1) L (.int (a.toUInt32 % 65536).toInt32 :: st)) : cp_G x E nL cells slots cnt sh I R pc L (.int a :: st) := fun H locs ls hW hS hl => lv_i2c O.1 O.2.1 hd rfl (k H locs ls hW hS hl)
theorem cp_lcmp (O : cp_Ok x E own bc nL d mc ms) {a b : Int64} (hd : decode bc pc = .ok (.lcmp, 1)) (k : cp_G x E nL cells slots cnt sh I R (pc + 1) L (.int (lg_cmp a b) :: st)) : cp_G x E nL cells slots cnt sh I R pc L (.long b :: .long a :: st) := fun H locs ls hW hS hl => W.lcmp O.1 O.2.1 hd (k H locs ls hW hS hl)
theorem cp_iconst (O : cp_Ok x E own bc nL d mc ms) {n : Int} {v : Int32} (hd : decode bc pc = .ok (.iconst n, 1)) (hv : Int32.ofInt n = v) (k : cp_G x E nL cells slots cnt sh I R (pc + 1) L (.int v :: st)) : cp_G x E nL cells slots cnt sh I R pc L st := fun H locs ls hW hS hl => lv_iconst O.1 O.2.1 hd hv (k H locs ls hW hS hl)
theorem cp_bipush (O : cp_Ok x E own bc nL d mc ms) {n : Int} {v : Int32} (hd : decode bc pc = .ok (.bipush n, 2)) (hv : (Int8.ofInt n).toInt32 = v) (k : cp_G x E nL cells slots cnt sh I R (pc + 2) L (.int v :: st)) : cp_G x E nL cells slots cnt sh I R pc L st := fun H locs ls hW hS hl => lv_bipush O.1 O.2.1 hd hv (k H locs ls hW hS hl)
theorem cp_sipush (O : cp_Ok x E own bc nL d mc ms) {n : Int} {v : Int32} (hd : decode bc pc = .ok (.sipush n, 3)) (hv : (Int16.ofInt n).toInt32 = v) (k : cp_G x E nL cells slots cnt sh I R (pc + 3) L (.int v :: st)) : cp_G x E nL cells slots cnt sh I R pc L st := fun H locs ls hW hS hl => lv_sipush O.1 O.2.1 hd hv (k H locs ls hW hS hl)
theorem cp_lconst (O : cp_Ok x E own bc nL d mc ms) {n : Fin 2} {v : Int64} (hd : decode bc pc = .ok (.lconst n, 1)) (hv : Int64.ofNat (n : Nat) = v) (k : cp_G x E nL cells slots cnt sh I R (pc + 1) L (.long v :: st)) : cp_G x E nL cells slots cnt sh I R pc L st := fun H locs ls hW hS hl => lv_lconst O.1 O.2.1 hd hv (k H locs ls hW hS hl)
theorem cp_dup (O : cp_Ok x E own bc nL d mc ms) {a : Value} (hd : decode bc pc = .ok (.dup, 1)) (hv : a.category = 1) (k : cp_G x E nL cells slots cnt sh I R (pc + 1) L (a :: a :: st)) : cp_G x E nL cells slots cnt sh I R pc L (a :: st) := fun H locs ls hW hS hl => lv_dup O.1 O.2.1 hd hv (k H locs ls hW hS hl)
theorem cp_pop (O : cp_Ok x E own bc nL d mc ms) {a : Value} (hd : decode bc pc = .ok (.pop, 1)) (hv : a.category = 1) (k : cp_G x E nL cells slots cnt sh I R (pc + 1) L st) : cp_G x E nL cells slots cnt sh I R pc L (a :: st) := fun H locs ls hW hS hl => lv_pop O.1 O.2.1 hd hv (k H locs ls hW hS hl)
theorem cp_dup2 (O : cp_Ok x E own bc nL d mc ms) {a b : Value} (hd : decode bc pc = .ok (.dup2, 1)) (hv : a.category = 1) (hv2 : b.category = 1) (k : cp_G x E nL cells slots cnt sh I R (pc + 1) L (a :: b :: a :: b :: st)) : cp_G x E nL cells slots cnt sh I R pc L (a :: b :: st) := fun H locs ls hW hS hl => lv_dup2_11 O.1 O.2.1 hd hv hv2 (k H locs ls hW hS hl)
theorem cp_ldc2 (O : cp_Ok x E own bc nL d mc ms) {index : Nat} {v : Int64} (hw : Cond.constantLong own index v ∈ cp_TG) (hd : decode bc pc = .ok (.ldc2_w index, 3)) (k : cp_G x E nL cells slots cnt sh I R (pc + 3) L (.long v :: st)) : cp_G x E nL cells slots cnt sh I R pc L st := fun H locs ls hW hS hl => lv_ldc2 O.1 O.2.1 O.2.2.2.1 (O.2.2.2.2.1 _ hw) hd (k H locs ls hW hS hl)
theorem cp_iload_n (O : cp_Ok x E own bc nL d mc ms) {n : Fin 4} {a : Int32} (hd : decode bc pc = .ok (.iload_n n, 1)) (hg : L[(n : Nat)]? = some (some (.int a))) (k : cp_G x E nL cells slots cnt sh I R (pc + 1) L (.int a :: st)) : cp_G x E nL cells slots cnt sh I R pc L st := fun H locs ls hW hS hl => lv_iload_n O.1 O.2.1 hd rfl (cp_lH_at hl hg) (k H locs ls hW hS hl)
theorem cp_iload (O : cp_Ok x E own bc nL d mc ms) {n : Nat} {a : Int32} (hd : decode bc pc = .ok (.iload n, 2)) (hg : L[n]? = some (some (.int a))) (k : cp_G x E nL cells slots cnt sh I R (pc + 2) L (.int a :: st)) : cp_G x E nL cells slots cnt sh I R pc L st := fun H locs ls hW hS hl => lv_iload O.1 O.2.1 hd (cp_lH_at hl hg) (k H locs ls hW hS hl)
theorem cp_lload_n (O : cp_Ok x E own bc nL d mc ms) {n : Fin 4} {a : Int64} (hd : decode bc pc = .ok (.lload_n n, 1)) (hg : L[(n : Nat)]? = some (some (.long a))) (k : cp_G x E nL cells slots cnt sh I R (pc + 1) L (.long a :: st)) : cp_G x E nL cells slots cnt sh I R pc L st := fun H locs ls hW hS hl => lv_lload_n O.1 O.2.1 hd rfl (cp_lH_at hl hg) (k H locs ls hW hS hl)
theorem cp_lload (O : cp_Ok x E own bc nL d mc ms) {n : Nat} {a : Int64} (hd : decode bc pc = .ok (.lload n, 2)) (hg : L[n]? = some (some (.long a))) (k : cp_G x E nL cells slots cnt sh I R (pc + 2) L (.long a :: st)) : cp_G x E nL cells slots cnt sh I R pc L st := fun H locs ls hW hS hl => lv_lload O.1 O.2.1 hd (cp_lH_at hl hg) (k H locs ls hW hS hl)
theorem cp_aload_n (O : cp_Ok x E own bc nL d mc ms) {n : Fin 4} {a : Nat} (hd : decode bc pc = .ok (.aload_n n, 1)) (hg : L[(n : Nat)]? = some (some (.ref a))) (k : cp_G x E nL cells slots cnt sh I R (pc + 1) L (.ref a :: st)) : cp_G x E nL cells slots cnt sh I R pc L st := fun H locs ls hW hS hl => lv_aload_n O.1 O.2.1 hd rfl (cp_lH_at hl hg) (k H locs ls hW hS hl)
theorem cp_aload (O : cp_Ok x E own bc nL d mc ms) {n : Nat} {a : Nat} (hd : decode bc pc = .ok (.aload n, 2)) (hg : L[n]? = some (some (.ref a))) (k : cp_G x E nL cells slots cnt sh I R (pc + 2) L (.ref a :: st)) : cp_G x E nL cells slots cnt sh I R pc L st := fun H locs ls hW hS hl => lv_aload O.1 O.2.1 hd (cp_lH_at hl hg) (k H locs ls hW hS hl)
theorem cp_aload_nN (O : cp_Ok x E own bc nL d mc ms) {n : Fin 4} (hd : decode bc pc = .ok (.aload_n n, 1)) (hg : L[(n : Nat)]? = some (some .null)) (k : cp_G x E nL cells slots cnt sh I R (pc + 1) L (.null :: st)) : cp_G x E nL cells slots cnt sh I R pc L st := fun H locs ls hW hS hl => lv_aload_nN O.1 O.2.1 hd rfl (cp_lH_at hl hg) (k H locs ls hW hS hl)
theorem cp_istore_n (O : cp_Ok x E own bc nL d mc ms) {n : Fin 4} {a : Int32} {L' : List (Option Value)} (hd : decode bc pc = .ok (.istore_n n, 1)) (hn : (n : Nat) < nL) (hs : cp_ls L (n : Nat) (.int a) L') (k : cp_G x E nL cells slots cnt sh I R (pc + 1) L' st) : cp_G x E nL cells slots cnt sh I R pc L (.int a :: st) := fun H locs ls hW hS hl => lv_istore_n O.1 O.2.1 hd rfl hl hn rfl (fun ls' hl' => k H locs ls' hW hS (cp_lH_ls hl' hs))
theorem cp_istore (O : cp_Ok x E own bc nL d mc ms) {n : Nat} {a : Int32} {L' : List (Option Value)} (hd : decode bc pc = .ok (.istore n, 2)) (hn : n < nL) (hs : cp_ls L n (.int a) L') (k : cp_G x E nL cells slots cnt sh I R (pc + 2) L' st) : cp_G x E nL cells slots cnt sh I R pc L (.int a :: st) := fun H locs ls hW hS hl => lv_istore O.1 O.2.1 hd hl hn rfl (fun ls' hl' => k H locs ls' hW hS (cp_lH_ls hl' hs))
theorem cp_astore_n (O : cp_Ok x E own bc nL d mc ms) {n : Fin 4} {a : Nat} {L' : List (Option Value)} (hd : decode bc pc = .ok (.astore_n n, 1)) (hn : (n : Nat) < nL) (hs : cp_ls L (n : Nat) (.ref a) L') (k : cp_G x E nL cells slots cnt sh I R (pc + 1) L' st) : cp_G x E nL cells slots cnt sh I R pc L (.ref a :: st) := fun H locs ls hW hS hl => lv_astore_n O.1 O.2.1 hd rfl hl hn rfl (fun ls' hl' => k H locs ls' hW hS (cp_lH_ls hl' hs))
theorem cp_astore (O : cp_Ok x E own bc nL d mc ms) {n : Nat} {a : Nat} {L' : List (Option Value)} (hd : decode bc pc = .ok (.astore n, 2)) (hn : n < nL) (hs : cp_ls L n (.ref a) L') (k : cp_G x E nL cells slots cnt sh I R (pc + 2) L' st) : cp_G x E nL cells slots cnt sh I R pc L (.ref a :: st) := fun H locs ls hW hS hl => lv_astore O.1 O.2.1 hd hl hn rfl (fun ls' hl' => k H locs ls' hW hS (cp_lH_ls hl' hs))
theorem cp_astore_nN (O : cp_Ok x E own bc nL d mc ms) {n : Fin 4} {L' : List (Option Value)} (hd : decode bc pc = .ok (.astore_n n, 1)) (hn : (n : Nat) < nL) (hs : cp_ls L (n : Nat) .null L') (k : cp_G x E nL cells slots cnt sh I R (pc + 1) L' st) : cp_G x E nL cells slots cnt sh I R pc L (.null :: st) := fun H locs ls hW hS hl => lv_astore_nN O.1 O.2.1 hd rfl hl hn rfl (fun ls' hl' => k H locs ls' hW hS (cp_lH_ls hl' hs))
theorem cp_iinc (O : cp_Ok x E own bc nL d mc ms) {i : Nat} {n : Int} {a v : Int32} {L' : List (Option Value)} (hd : decode bc pc = .ok (.iinc i n, 3)) (hg : L[i]? = some (some (.int a))) (hv : a + Int32.ofInt n = v) (hn : i < nL) (hs : cp_ls L i (.int v) L') (k : cp_G x E nL cells slots cnt sh I R (pc + 3) L' st) : cp_G x E nL cells slots cnt sh I R pc L st := fun H locs ls hW hS hl => by
  obtain ⟨q, hq⟩ := List.getElem?_of_mem ((cp_lq_in L 0 i (.int a)).mpr ⟨Nat.zero_le _, hg⟩)
  exact lv_iinc O.1 O.2.1 hd hl hq hv hn rfl (fun ls' hl' => k H locs ls' hW hS (cp_lH_ls hl' hs))
def cp_lls (L : List (Option Value)) (i : Nat) (v : Value) (L' : List (Option Value)) : Prop := i + 1 < L.length ∧ L' = (L.set i (some v)).set (i + 1) none ∧ (∀ w, 0 < i → L[i - 1]? = some w → cp_nl w = true)
theorem cp_lH_ls2 {ls : Array Slot} {nL : Nat} {L L' : List (Option Value)} {i : Nat} {v : Value} (h : lv_has ls nL ((i, v) :: (cp_lq 0 L).filter (fun q => !(q.1 == i) && (!(q.1 == i + 1) && !(q.1 + 1 == i && q.2.category == 2))))) (hs : cp_lls L i v L') : cp_lH ls nL L' := by
  obtain ⟨h1, h2, h3⟩ := hs
  refine ⟨h.1, h.2.1, fun q hq => ?_⟩
  obtain ⟨j, w⟩ := q
  have hj := ((cp_lq_in L' 0 j w).mp hq).2
  rw [Nat.sub_zero, h2] at hj
  by_cases hj2 : j = i + 1
  · subst hj2
    rw [List.getElem?_set_self (by rw [List.length_set]; omega)] at hj
    cases hj
  · rw [List.getElem?_set_ne (Ne.symm hj2)] at hj
    by_cases hji : j = i
    · subst hji
      rw [List.getElem?_set_self (by omega)] at hj
      cases hj
      exact h.2.2 _ List.mem_cons_self
    · rw [List.getElem?_set_ne (Ne.symm hji)] at hj
      refine h.2.2 (j, w) (List.mem_cons_of_mem _ (List.mem_filter.mpr ⟨(cp_lq_in L 0 j w).mpr ⟨Nat.zero_le _, hj⟩, ?_⟩))
      by_cases hk : j + 1 = i
      · have h4 := h3 (some w) (by omega) (by rw [show i - 1 = j by omega]; exact hj)
        cases w <;> simp_all [cp_nl, Value.category]
      · simp [hji, hk, hj2]
theorem cp_lls0 {b c : Option Value} {t : List (Option Value)} {v : Value} : cp_lls (b :: c :: t) 0 v (some v :: none :: t) := ⟨by simp, rfl, fun w h _ => absurd h (by omega)⟩
theorem cp_lls1 {b c : Option Value} {t : List (Option Value)} {v : Value} {a0 : Option Value} (h : cp_nl a0 = true) : cp_lls (a0 :: b :: c :: t) 1 v (a0 :: some v :: none :: t) := ⟨by simp, rfl, fun w _ hw => by simp at hw; rw [← hw]; exact h⟩
theorem cp_lls2 {b c : Option Value} {t : List (Option Value)} {v : Value} {a0 : Option Value} {a1 : Option Value} (h : cp_nl a1 = true) : cp_lls (a0 :: a1 :: b :: c :: t) 2 v (a0 :: a1 :: some v :: none :: t) := ⟨by simp, rfl, fun w _ hw => by simp at hw; rw [← hw]; exact h⟩
theorem cp_lls3 {b c : Option Value} {t : List (Option Value)} {v : Value} {a0 : Option Value} {a1 : Option Value} {a2 : Option Value} (h : cp_nl a2 = true) : cp_lls (a0 :: a1 :: a2 :: b :: c :: t) 3 v (a0 :: a1 :: a2 :: some v :: none :: t) := ⟨by simp, rfl, fun w _ hw => by simp at hw; rw [← hw]; exact h⟩
theorem cp_lls4 {b c : Option Value} {t : List (Option Value)} {v : Value} {a0 : Option Value} {a1 : Option Value} {a2 : Option Value} {a3 : Option Value} (h : cp_nl a3 = true) : cp_lls (a0 :: a1 :: a2 :: a3 :: b :: c :: t) 4 v (a0 :: a1 :: a2 :: a3 :: some v :: none :: t) := ⟨by simp, rfl, fun w _ hw => by simp at hw; rw [← hw]; exact h⟩
theorem cp_lls5 {b c : Option Value} {t : List (Option Value)} {v : Value} {a0 : Option Value} {a1 : Option Value} {a2 : Option Value} {a3 : Option Value} {a4 : Option Value} (h : cp_nl a4 = true) : cp_lls (a0 :: a1 :: a2 :: a3 :: a4 :: b :: c :: t) 5 v (a0 :: a1 :: a2 :: a3 :: a4 :: some v :: none :: t) := ⟨by simp, rfl, fun w _ hw => by simp at hw; rw [← hw]; exact h⟩
theorem cp_lls6 {b c : Option Value} {t : List (Option Value)} {v : Value} {a0 : Option Value} {a1 : Option Value} {a2 : Option Value} {a3 : Option Value} {a4 : Option Value} {a5 : Option Value} (h : cp_nl a5 = true) : cp_lls (a0 :: a1 :: a2 :: a3 :: a4 :: a5 :: b :: c :: t) 6 v (a0 :: a1 :: a2 :: a3 :: a4 :: a5 :: some v :: none :: t) := ⟨by simp, rfl, fun w _ hw => by simp at hw; rw [← hw]; exact h⟩
theorem cp_lls7 {b c : Option Value} {t : List (Option Value)} {v : Value} {a0 : Option Value} {a1 : Option Value} {a2 : Option Value} {a3 : Option Value} {a4 : Option Value} {a5 : Option Value} {a6 : Option Value} (h : cp_nl a6 = true) : cp_lls (a0 :: a1 :: a2 :: a3 :: a4 :: a5 :: a6 :: b :: c :: t) 7 v (a0 :: a1 :: a2 :: a3 :: a4 :: a5 :: a6 :: some v :: none :: t) := ⟨by simp, rfl, fun w _ hw => by simp at hw; rw [← hw]; exact h⟩
theorem cp_lstore_n (O : cp_Ok x E own bc nL d mc ms) {n : Fin 4} {a : Int64} {L' : List (Option Value)} (hd : decode bc pc = .ok (.lstore_n n, 1)) (hn : (n : Nat) + 1 < nL) (hs : cp_lls L (n : Nat) (.long a) L') (k : cp_G x E nL cells slots cnt sh I R (pc + 1) L' st) : cp_G x E nL cells slots cnt sh I R pc L (.long a :: st) := fun H locs ls hW hS hl => lv_lstore_n O.1 O.2.1 hd rfl hl hn rfl (fun ls' hl' => k H locs ls' hW hS (cp_lH_ls2 hl' hs))
theorem cp_lstore (O : cp_Ok x E own bc nL d mc ms) {n : Nat} {a : Int64} {L' : List (Option Value)} (hd : decode bc pc = .ok (.lstore n, 2)) (hn : n + 1 < nL) (hs : cp_lls L n (.long a) L') (k : cp_G x E nL cells slots cnt sh I R (pc + 2) L' st) : cp_G x E nL cells slots cnt sh I R pc L (.long a :: st) := fun H locs ls hW hS hl => lv_lstore O.1 O.2.1 hd hl hn rfl (fun ls' hl' => k H locs ls' hW hS (cp_lH_ls2 hl' hs))
theorem cp_if_eq (O : cp_Ok x E own bc nL d mc ms) {a : Int32} {off : Int} {tgt : Nat} (hd : decode bc pc = .ok (.ifCond .eq off, 3)) (ht : (pc : Int) + off = (tgt : Int)) (kt : a = 0 → cp_G x E nL cells slots cnt sh I R tgt L st) (kf : ¬ a = 0 → cp_G x E nL cells slots cnt sh I R (pc + 3) L st) : cp_G x E nL cells slots cnt sh I R pc L (.int a :: st) := fun H locs ls hW hS hl => lv_if_eq O.1 O.2.1 hd ht (fun h => kt h H locs ls hW hS hl) (fun h => kf h H locs ls hW hS hl)
theorem cp_icmp_eq (O : cp_Ok x E own bc nL d mc ms) {a b : Int32} {off : Int} {tgt : Nat} (hd : decode bc pc = .ok (.if_icmp .eq off, 3)) (ht : (pc : Int) + off = (tgt : Int)) (kt : a = b → cp_G x E nL cells slots cnt sh I R tgt L st) (kf : ¬ a = b → cp_G x E nL cells slots cnt sh I R (pc + 3) L st) : cp_G x E nL cells slots cnt sh I R pc L (.int b :: .int a :: st) := fun H locs ls hW hS hl => lv_icmp_eq O.1 O.2.1 hd ht (fun h => kt h H locs ls hW hS hl) (fun h => kf h H locs ls hW hS hl)
theorem cp_if_ne (O : cp_Ok x E own bc nL d mc ms) {a : Int32} {off : Int} {tgt : Nat} (hd : decode bc pc = .ok (.ifCond .ne off, 3)) (ht : (pc : Int) + off = (tgt : Int)) (kt : ¬ a = 0 → cp_G x E nL cells slots cnt sh I R tgt L st) (kf : a = 0 → cp_G x E nL cells slots cnt sh I R (pc + 3) L st) : cp_G x E nL cells slots cnt sh I R pc L (.int a :: st) := fun H locs ls hW hS hl => lv_if_ne O.1 O.2.1 hd ht (fun h => kt h H locs ls hW hS hl) (fun h => kf h H locs ls hW hS hl)
theorem cp_icmp_ne (O : cp_Ok x E own bc nL d mc ms) {a b : Int32} {off : Int} {tgt : Nat} (hd : decode bc pc = .ok (.if_icmp .ne off, 3)) (ht : (pc : Int) + off = (tgt : Int)) (kt : ¬ a = b → cp_G x E nL cells slots cnt sh I R tgt L st) (kf : a = b → cp_G x E nL cells slots cnt sh I R (pc + 3) L st) : cp_G x E nL cells slots cnt sh I R pc L (.int b :: .int a :: st) := fun H locs ls hW hS hl => lv_icmp_ne O.1 O.2.1 hd ht (fun h => kt h H locs ls hW hS hl) (fun h => kf h H locs ls hW hS hl)
theorem cp_if_lt (O : cp_Ok x E own bc nL d mc ms) {a : Int32} {off : Int} {tgt : Nat} (hd : decode bc pc = .ok (.ifCond .lt off, 3)) (ht : (pc : Int) + off = (tgt : Int)) (kt : a < 0 → cp_G x E nL cells slots cnt sh I R tgt L st) (kf : ¬ a < 0 → cp_G x E nL cells slots cnt sh I R (pc + 3) L st) : cp_G x E nL cells slots cnt sh I R pc L (.int a :: st) := fun H locs ls hW hS hl => lv_if_lt O.1 O.2.1 hd ht (fun h => kt h H locs ls hW hS hl) (fun h => kf h H locs ls hW hS hl)
theorem cp_icmp_lt (O : cp_Ok x E own bc nL d mc ms) {a b : Int32} {off : Int} {tgt : Nat} (hd : decode bc pc = .ok (.if_icmp .lt off, 3)) (ht : (pc : Int) + off = (tgt : Int)) (kt : a < b → cp_G x E nL cells slots cnt sh I R tgt L st) (kf : ¬ a < b → cp_G x E nL cells slots cnt sh I R (pc + 3) L st) : cp_G x E nL cells slots cnt sh I R pc L (.int b :: .int a :: st) := fun H locs ls hW hS hl => lv_icmp_lt O.1 O.2.1 hd ht (fun h => kt h H locs ls hW hS hl) (fun h => kf h H locs ls hW hS hl)
theorem cp_if_ge (O : cp_Ok x E own bc nL d mc ms) {a : Int32} {off : Int} {tgt : Nat} (hd : decode bc pc = .ok (.ifCond .ge off, 3)) (ht : (pc : Int) + off = (tgt : Int)) (kt : 0 ≤ a → cp_G x E nL cells slots cnt sh I R tgt L st) (kf : ¬ 0 ≤ a → cp_G x E nL cells slots cnt sh I R (pc + 3) L st) : cp_G x E nL cells slots cnt sh I R pc L (.int a :: st) := fun H locs ls hW hS hl => lv_if_ge O.1 O.2.1 hd ht (fun h => kt h H locs ls hW hS hl) (fun h => kf h H locs ls hW hS hl)
theorem cp_icmp_ge (O : cp_Ok x E own bc nL d mc ms) {a b : Int32} {off : Int} {tgt : Nat} (hd : decode bc pc = .ok (.if_icmp .ge off, 3)) (ht : (pc : Int) + off = (tgt : Int)) (kt : b ≤ a → cp_G x E nL cells slots cnt sh I R tgt L st) (kf : ¬ b ≤ a → cp_G x E nL cells slots cnt sh I R (pc + 3) L st) : cp_G x E nL cells slots cnt sh I R pc L (.int b :: .int a :: st) := fun H locs ls hW hS hl => lv_icmp_ge O.1 O.2.1 hd ht (fun h => kt h H locs ls hW hS hl) (fun h => kf h H locs ls hW hS hl)
theorem cp_if_gt (O : cp_Ok x E own bc nL d mc ms) {a : Int32} {off : Int} {tgt : Nat} (hd : decode bc pc = .ok (.ifCond .gt off, 3)) (ht : (pc : Int) + off = (tgt : Int)) (kt : 0 < a → cp_G x E nL cells slots cnt sh I R tgt L st) (kf : ¬ 0 < a → cp_G x E nL cells slots cnt sh I R (pc + 3) L st) : cp_G x E nL cells slots cnt sh I R pc L (.int a :: st) := fun H locs ls hW hS hl => lv_if_gt O.1 O.2.1 hd ht (fun h => kt h H locs ls hW hS hl) (fun h => kf h H locs ls hW hS hl)
theorem cp_icmp_gt (O : cp_Ok x E own bc nL d mc ms) {a b : Int32} {off : Int} {tgt : Nat} (hd : decode bc pc = .ok (.if_icmp .gt off, 3)) (ht : (pc : Int) + off = (tgt : Int)) (kt : b < a → cp_G x E nL cells slots cnt sh I R tgt L st) (kf : ¬ b < a → cp_G x E nL cells slots cnt sh I R (pc + 3) L st) : cp_G x E nL cells slots cnt sh I R pc L (.int b :: .int a :: st) := fun H locs ls hW hS hl => lv_icmp_gt O.1 O.2.1 hd ht (fun h => kt h H locs ls hW hS hl) (fun h => kf h H locs ls hW hS hl)
theorem cp_if_le (O : cp_Ok x E own bc nL d mc ms) {a : Int32} {off : Int} {tgt : Nat} (hd : decode bc pc = .ok (.ifCond .le off, 3)) (ht : (pc : Int) + off = (tgt : Int)) (kt : a ≤ 0 → cp_G x E nL cells slots cnt sh I R tgt L st) (kf : ¬ a ≤ 0 → cp_G x E nL cells slots cnt sh I R (pc + 3) L st) : cp_G x E nL cells slots cnt sh I R pc L (.int a :: st) := fun H locs ls hW hS hl => lv_if_le O.1 O.2.1 hd ht (fun h => kt h H locs ls hW hS hl) (fun h => kf h H locs ls hW hS hl)
theorem cp_icmp_le (O : cp_Ok x E own bc nL d mc ms) {a b : Int32} {off : Int} {tgt : Nat} (hd : decode bc pc = .ok (.if_icmp .le off, 3)) (ht : (pc : Int) + off = (tgt : Int)) (kt : a ≤ b → cp_G x E nL cells slots cnt sh I R tgt L st) (kf : ¬ a ≤ b → cp_G x E nL cells slots cnt sh I R (pc + 3) L st) : cp_G x E nL cells slots cnt sh I R pc L (.int b :: .int a :: st) := fun H locs ls hW hS hl => lv_icmp_le O.1 O.2.1 hd ht (fun h => kt h H locs ls hW hS hl) (fun h => kf h H locs ls hW hS hl)
theorem cp_goto (O : cp_Ok x E own bc nL d mc ms) {off : Int} {tgt : Nat} (hd : decode bc pc = .ok (.goto off, 3)) (ht : (pc : Int) + off = (tgt : Int)) (k : cp_G x E nL cells slots cnt sh I R tgt L st) : cp_G x E nL cells slots cnt sh I R pc L st := fun H locs ls hW hS hl => lv_goto O.1 O.2.1 hd ht (k H locs ls hW hS hl)
theorem cp_ifnonnull (O : cp_Ok x E own bc nL d mc ms) {a : Nat} {off : Int} {tgt : Nat} (hd : decode bc pc = .ok (.ifnonnull off, 3)) (ht : (pc : Int) + off = (tgt : Int)) (k : cp_G x E nL cells slots cnt sh I R tgt L st) : cp_G x E nL cells slots cnt sh I R pc L (.ref a :: st) := fun H locs ls hW hS hl => lv_ifnonnull O.1 O.2.1 hd ht (k H locs ls hW hS hl)
theorem cp_ifnonnullN (O : cp_Ok x E own bc nL d mc ms) {off : Int} (hd : decode bc pc = .ok (.ifnonnull off, 3)) (k : cp_G x E nL cells slots cnt sh I R (pc + 3) L st) : cp_G x E nL cells slots cnt sh I R pc L (.null :: st) := fun H locs ls hW hS hl => lv_ifnonnullN O.1 O.2.1 hd (k H locs ls hW hS hl)
theorem cp_tableOut (O : cp_Ok x E own bc nL d mc ms) {dflt lo hi : Int} {offs : Array Int} {len tgt : Nat} {a : Int32} (hd : decode bc pc = .ok (.tableswitch dflt lo hi offs, len)) (h : a.toInt < lo ∨ hi < a.toInt) (ht : (pc : Int) + dflt = (tgt : Int)) (k : cp_G x E nL cells slots cnt sh I R tgt L st) : cp_G x E nL cells slots cnt sh I R pc L (.int a :: st) := fun H locs ls hW hS hl => lv_tableOut O.1 O.2.1 hd h ht (k H locs ls hW hS hl)
theorem cp_tableIn (O : cp_Ok x E own bc nL d mc ms) {dflt lo hi off : Int} {offs : Array Int} {len tgt : Nat} {a : Int32} (hd : decode bc pc = .ok (.tableswitch dflt lo hi offs, len)) (h1 : ¬ a.toInt < lo) (h2 : ¬ hi < a.toInt) (ho : offs[(a.toInt - lo).toNat]? = some off) (ht : (pc : Int) + off = (tgt : Int)) (k : cp_G x E nL cells slots cnt sh I R tgt L st) : cp_G x E nL cells slots cnt sh I R pc L (.int a :: st) := fun H locs ls hW hS hl => lv_tableIn O.1 O.2.1 hd h1 h2 ho ht (k H locs ls hW hS hl)
end CPR
end
section
/-! MEMORY: fields, arrays, tables -/
def cp_clf (ci : Nat) (C : String) (T : u_T) (N : Nat) (ty0 : Nat → FieldType) : Prop := vwCl[ci]? = some (C, T, N) ∧ (∀ w ∈ u_ws C T N, w ∈ cp_TG) ∧ (∀ k, k < N → parseFieldDescriptor (T k).2.2.1 = some (ty0 k)) ∧ (∀ a, a < N → ∀ b, b < N → a ≠ b → (T a).2.1 ≠ (T b).2.1) ∧ ci < 8 ∧ cp_nf ci = N
def cp_lk (own : String) (index : Nat) (T : u_T) (j : Nat) : Prop := Cond.fieldLink own index (T j).1 (T j).2.1 (T j).2.2.1 ∈ cp_TG
theorem cp_e_obj (cs : Nat → ClassId) (ci : Nat) (i : Nat → Int32) (r : Nat → Option Nat) (h : ci < 8) : cp_e cs (ci + 1, 0) i r = .inr (ci, cp_fs ci i r) := by
  unfold cp_e
  rw [if_pos (show (ci + 1, 0).1 ≤ 8 from h)]
  rfl
theorem cp_narb {v : Int32} (h : v = 0 ∨ v = 1) : narrow .boolean (.int v) = .int v ∧ fits .boolean (.int v) = true := by
  rcases h with rfl | rfl <;> exact ⟨rfl, rfl⟩
section CPM
variable {x : cp_Cx} {E : cp_En} {own : String} {bc : ByteArray} {nL d mc ms : Nat} {cells slots cnt : Nat} {sh : cp_Shp} {I : cp_Mem} {R : cp_Rem} {pc : Nat} {L : List (Option Value)} {st : List Value}
theorem cp_PW_in {H : Heap} (hW : cp_PW E cnt sh I R H) {a k n : Nat} (hs : sh a = (k + 1, n)) : cp_b0 E ≤ a ∧ a < cp_b0 E + cnt := (hW.1 a).mp (by rw [hs]; simp)
theorem cp_get (O : cp_Ok x E own bc nL d mc ms) {ci j index a : Nat} {C : String} {T : u_T} {N : Nat} {ty0 : Nat → FieldType} (hc : cp_clf ci C T N ty0) (hj : j < N) (hlk : cp_lk own index T j) (hs : sh a = (ci + 1, 0)) (hd : decode bc pc = .ok (.getfield index, 3))
    (k : cp_G x E nL cells slots cnt sh I R (pc + 3) L (cp_fv ci (I a) (R a) j :: st)) : cp_G x E nL cells slots cnt sh I R pc L (.ref a :: st) := by
  intro H locs ls hW hS hl
  obtain ⟨c1, c2, c3, c4, c5, c6⟩ := hc
  have ha := cp_PW_in hW hs
  have he := cp_WL_at E cnt sh I R ha
  rw [hs, cp_e_obj _ _ _ _ c5] at he
  exact va_get O.1 O.2.1 O.2.2.2.2.1 c2 O.2.2.2.1 O.2.2.2.2.2.1.1 hW.2.2 _ he c1 j hj (O.2.2.2.2.1 _ hlk) (fun _ h => h) (cp_fs_get ci _ _ (by rw [c6]; exact hj)) hd (k H locs ls hW hS hl)
theorem cp_getr (O : cp_Ok x E own bc nL d mc ms) {ci j index a y : Nat} {C : String} {T : u_T} {N : Nat} {ty0 : Nat → FieldType} (hc : cp_clf ci C T N ty0) (hj : j < N) (hlk : cp_lk own index T j) (hrf : cp_rf ci j = true) (hs : sh a = (ci + 1, 0)) (hr : R a j = some y) (hd : decode bc pc = .ok (.getfield index, 3))
    (k : cp_G x E nL cells slots cnt sh I R (pc + 3) L (.ref y :: st)) : cp_G x E nL cells slots cnt sh I R pc L (.ref a :: st) := by
  refine cp_get O hc hj hlk hs hd ?_
  rw [show cp_fv ci (I a) (R a) j = .ref y by unfold cp_fv; rw [if_pos hrf, hr]; rfl]
  exact k
/-- a number in a field -/
theorem cp_put (O : cp_Ok x E own bc nL d mc ms) {ci j index a : Nat} {v : Int32} {C : String} {T : u_T} {N : Nat} {ty0 : Nat → FieldType} (hc : cp_clf ci C T N ty0) (hj : j < N) (hlk : cp_lk own index T j) (hfin : (T j).2.2.2 = false) {ty : FieldType} (hd0 : parseFieldDescriptor (T j).2.2.1 = some ty) (hn : narrow ty (.int v) = .int v ∧ fits ty (.int v) = true) (hrf : cp_rf ci j = false) (hs : sh a = (ci + 1, 0)) (hd : decode bc pc = .ok (.putfield index, 3))
    (k : cp_G x E nL cells slots cnt sh (cp_wi I a j v) R (pc + 3) L st) : cp_G x E nL cells slots cnt sh I R pc L (.int v :: .ref a :: st) := by
  intro H locs ls hW hS hl
  obtain ⟨c1, c2, c3, c4, c5, c6⟩ := hc
  have ha := cp_PW_in hW hs
  have he := cp_WL_at E cnt sh I R ha
  rw [hs, cp_e_obj _ _ _ _ c5] at he
  have hK := O.2.2.2.2.2.1.1
  have hts := O.2.2.2.2.1
  have hD := cp_WL_D E cnt sh I R
  have hap := va_apart (own := own) hts c2 ty0 c3 c4 hK c1
  obtain ⟨r, h1, cell, q1, q2, q3, q4⟩ := hW.2.2 _ _ he
  have hr : r = (C, T, N) := Option.some.inj (h1.symm.trans c1)
  subst hr
  obtain ⟨hSl, hfc, kC, hkC, hkind⟩ := hK.1 ci _ c1
  obtain ⟨cf, kf, fi, f, hi, hsl⟩ := hSl j hj
  have hlay := hts _ (c2 _ (u_in_lay hj))
  unfold u_lay at hlay
  rw [if_neg (by rw [hfin]; decide)] at hlay
  have hst := (u_facts hfc hkC (u_lays hts c2 hj) hi).1
  have h6 := u_store hfc hkC hkind hlay hi hd0 hn.1 hn.2
  refine W.putK O.1 O.2.1 (f := f) ⟨O.2.2.2.1, O.2.2.2.2.1 _ hlk, ⟨_, _, _, hi⟩, hst⟩ (by rw [q2]; exact h6) q1 q3 (by rw [hsl]; exact k2_hasslot (q4 j hj)) rfl rfl hd fun H' e1 e2 e3 => ?_
  rw [hsl] at e1 ⊢
  have hlen : j < (cp_fs ci (I a) (R a)).length := by rw [cp_fs_len, c6]; exact hj
  have hP := hW.2.2.set (H1 := H') (e := .inr (ci, (cp_fs ci (I a) (R a)).set j (.int v))) hD he ⟨_, c1, t_OB.to (V := updV (vp_V (cp_fs ci (I a) (R a))) j (.int v)) ⟨_, e1, q2, q3, t_set q4 hap hj (.int v)⟩ (fun i _ => vp_updV_set hlen (.int v) i)⟩ e3
  rw [cp_WL_set (I' := cp_wi I a j v) (R' := R) ha (by
    rw [hs, cp_e_obj _ _ _ _ c5, cp_fs_set ci (i' := cp_wi I a j v a) (r' := R a) (by unfold cp_fv; rw [if_neg (by rw [hrf]; decide), cp_wi_s]) (fun q hq => by unfold cp_fv; simp [cp_wi, hq])]) (fun q hq => ⟨cp_wi_a I a j v hq, rfl⟩)] at hP
  exact k H' _ ls ⟨hW.1, by rw [e2]; exact hW.2.1, hP⟩ (hS.put e2 e3 ha.1) hl
/-- arrays of numbers -/
theorem cp_e_int (cs : Nat → ClassId) (n : Nat) (i : Nat → Int32) (r : Nat → Option Nat) : cp_e cs (9, n) i r = .inl (cs 9, n, .inl i) := by
  simp [cp_e]
theorem cp_e_chr (cs : Nat → ClassId) (n : Nat) (i : Nat → Int32) (r : Nat → Option Nat) : cp_e cs (10, n) i r = .inl (cs 10, n, .inl i) := by
  simp [cp_e]
theorem cp_e_ref (cs : Nat → ClassId) (k n : Nat) (i : Nat → Int32) (r : Nat → Option Nat) (h : 10 < k) : cp_e cs (k, n) i r = .inl (cs k, n, .inr (.inr (.inr (.inr r)))) := by
  simp [cp_e, show ¬ k ≤ 8 by omega, show ¬ k ≤ 10 by omega]
theorem cp_iald (O : cp_Ok x E own bc nL d mc ms) {a n j : Nat} {i : Int32} (hs : sh a = (9, n)) (hi : i = nI j) (hj : j < n) (hn : n < 2 ^ 31) (hd : decode bc pc = .ok (.iaload, 1))
    (k : cp_G x E nL cells slots cnt sh I R (pc + 1) L (.int (I a j) :: st)) : cp_G x E nL cells slots cnt sh I R pc L (.int i :: .ref a :: st) := by
  intro H locs ls hW hS hl
  have ha := cp_PW_in hW hs
  have he := cp_WL_at E cnt sh I R ha
  rw [hs, cp_e_int] at he
  subst hi
  refine va_iald O.1 O.2.1 O.2.2.2.2.2.1.1 hW.2.2 _ 0 he rfl (vp_in_nI hj hn) hd ?_
  rw [nI_clamp (Nat.lt_trans hj hn)]
  exact k H locs ls hW hS hl
theorem cp_cald (O : cp_Ok x E own bc nL d mc ms) {a n j : Nat} {i : Int32} (hs : sh a = (10, n)) (hi : i = nI j) (hj : j < n) (hn : n < 2 ^ 31) (hd : decode bc pc = .ok (.caload, 1))
    (k : cp_G x E nL cells slots cnt sh I R (pc + 1) L (.int (I a j) :: st)) : cp_G x E nL cells slots cnt sh I R pc L (.int i :: .ref a :: st) := by
  intro H locs ls hW hS hl
  have ha := cp_PW_in hW hs
  have he := cp_WL_at E cnt sh I R ha
  rw [hs, cp_e_chr] at he
  subst hi
  refine va_cald O.1 O.2.1 O.2.2.2.2.2.1.1 hW.2.2 _ 1 he rfl (vp_in_nI hj hn) hd ?_
  rw [nI_clamp (Nat.lt_trans hj hn)]
  exact k H locs ls hW hS hl
theorem cp_refT {E : cp_En} {k : Nat} {C : String} (hk : (k = 11 ∧ C = "CopyPlates$Night") ∨ (k = 12 ∧ C = "CopyPlates$Piece") ∨ (k = 13 ∧ C = "CopyPlates$Plate")) : (cp_ty E)[k - 9]? = some (cp_cs E k, .object C) := by
  rcases hk with ⟨rfl, rfl⟩ | ⟨rfl, rfl⟩ | ⟨rfl, rfl⟩ <;> rfl
theorem cp_aald (O : cp_Ok x E own bc nL d mc ms) {a k n j : Nat} {i : Int32} {C : String} (hk : (k = 11 ∧ C = "CopyPlates$Night") ∨ (k = 12 ∧ C = "CopyPlates$Piece") ∨ (k = 13 ∧ C = "CopyPlates$Plate")) (hs : sh a = (k, n)) (hi : i = nI j) (hj : j < n) (hn : n < 2 ^ 31) (hd : decode bc pc = .ok (.aaload, 1))
    (kk : cp_G x E nL cells slots cnt sh I R (pc + 1) L (va_rf (R a j) :: st)) : cp_G x E nL cells slots cnt sh I R pc L (.int i :: .ref a :: st) := by
  intro H locs ls hW hS hl
  have h10 : 10 < k := by omega
  have ha := (hW.1 a).mp (by rw [hs]; show k ≠ 0; omega)
  have he := cp_WL_at E cnt sh I R ha
  rw [hs, cp_e_ref _ _ _ _ _ h10] at he
  subst hi
  refine va_aldq O.1 O.2.1 O.2.2.2.2.2.1.1 hW.2.2 _ (k - 9) he (cp_refT hk) (vp_in_nI hj hn) hd ?_
  rw [nI_clamp (Nat.lt_trans hj hn)]
  exact kk H locs ls hW hS hl
theorem cp_aaldr (O : cp_Ok x E own bc nL d mc ms) {a k n j y : Nat} {i : Int32} {C : String} (hk : (k = 11 ∧ C = "CopyPlates$Night") ∨ (k = 12 ∧ C = "CopyPlates$Piece") ∨ (k = 13 ∧ C = "CopyPlates$Plate")) (hs : sh a = (k, n)) (hi : i = nI j) (hj : j < n) (hn : n < 2 ^ 31) (hr : R a j = some y) (hd : decode bc pc = .ok (.aaload, 1))
    (kk : cp_G x E nL cells slots cnt sh I R (pc + 1) L (.ref y :: st)) : cp_G x E nL cells slots cnt sh I R pc L (.int i :: .ref a :: st) := by
  refine cp_aald O hk hs hi hj hn hd ?_
  rw [hr]
  exact kk
theorem cp_iast (O : cp_Ok x E own bc nL d mc ms) {a n j : Nat} {i v : Int32} (hs : sh a = (9, n)) (hi : i = nI j) (hj : j < n) (hn : n < 2 ^ 31) (hd : decode bc pc = .ok (.iastore, 1))
    (k : cp_G x E nL cells slots cnt sh (cp_wi I a j v) R (pc + 1) L st) : cp_G x E nL cells slots cnt sh I R pc L (.int v :: .int i :: .ref a :: st) := by
  intro H locs ls hW hS hl
  have ha := cp_PW_in hW hs
  have he := cp_WL_at E cnt sh I R ha
  rw [hs, cp_e_int] at he
  subst hi
  refine W.iast O.1 O.2.1 (hW.2.2 _ _ he) ((O.2.2.2.2.2.1.1.2 0 _ rfl).1 n (fun q => .int (I a q))) (fun q => by cases q) (by show ¬ (nI j < 0 ∨ (arrV _ _ _).slots.size ≤ _); rw [arrV_size]; exact vp_in_nI hj hn) rfl rfl hd fun H1 e z oq => ?_
  have hc : (nI j).toNatClampNeg = j := nI_clamp (Nat.lt_trans hj hn)
  have hP := hW.2.2.set (e := .inl (cp_cs E 9, n, .inl (cp_wi I a j v a))) (cp_WL_D E cnt sh I R) he (by
    show H1[a]? = some (vp_cell _ _)
    rw [e, vp_cell_i, vp_cell_i, arrV_store]
    congr 2
    funext q
    rw [hc]
    by_cases hq : q = j
    · subst hq; simp [updV, cp_wi]
    · simp [updV, cp_wi, hq]) oq
  rw [cp_WL_set (I' := cp_wi I a j v) (R' := R) ha (by rw [hs, cp_e_int]) (fun q hq => ⟨cp_wi_a I a j v hq, rfl⟩)] at hP
  exact k H1 _ ls ⟨hW.1, by rw [z]; exact hW.2.1, hP⟩ (hS.put z oq ha.1) hl
theorem cp_cast (O : cp_Ok x E own bc nL d mc ms) {a n j q0 : Nat} {i v : Int32} (hs : sh a = (10, n)) (hi : i = nI j) (hj : j < n) (hn : n < 2 ^ 31) (hv : v = nI q0) (hq0 : q0 < 65536) (hd : decode bc pc = .ok (.castore, 1))
    (k : cp_G x E nL cells slots cnt sh (cp_wi I a j v) R (pc + 1) L st) : cp_G x E nL cells slots cnt sh I R pc L (.int v :: .int i :: .ref a :: st) := by
  intro H locs ls hW hS hl
  have ha := cp_PW_in hW hs
  have he := cp_WL_at E cnt sh I R ha
  rw [hs, cp_e_chr] at he
  subst hi
  refine W.cast O.1 O.2.1 (hW.2.2 _ _ he) ((O.2.2.2.2.2.1.1.2 1 _ rfl).1 n (fun q => .int (I a q))) (fun q => by cases q) (by show ¬ (nI j < 0 ∨ (arrV _ _ _).slots.size ≤ _); rw [arrV_size]; exact vp_in_nI hj hn) rfl rfl hd fun H1 e z oq => ?_
  have hc : (nI j).toNatClampNeg = j := nI_clamp (Nat.lt_trans hj hn)
  have hP := hW.2.2.set (e := .inl (cp_cs E 10, n, .inl (cp_wi I a j v a))) (cp_WL_D E cnt sh I R) he (by
    show H1[a]? = some (vp_cell _ _)
    rw [e, hv, (pk_charN hq0).1, vp_cell_i, vp_cell_i, arrV_store]
    congr 2
    funext q
    rw [hc]
    by_cases hq : q = j
    · subst hq; simp [updV, cp_wi]
    · simp [updV, cp_wi, hq]) oq
  rw [cp_WL_set (I' := cp_wi I a j v) (R' := R) ha (by rw [hs, cp_e_chr]) (fun q hq => ⟨cp_wi_a I a j v hq, rfl⟩)] at hP
  exact k H1 _ ls ⟨hW.1, by rw [z]; exact hW.2.1, hP⟩ (hS.put z oq ha.1) hl
/-- the tables of numbers that nobody writes -/
theorem cp_gets (O : cp_Ok x E own bc nL d mc ms) {q index : Nat} (hq : q < 3) (hlk : Cond.fieldLink own index "CopyPlates" (cp_sn q) "[I" ∈ cp_TG) (hd : decode bc pc = .ok (.getstatic index, 3))
    (k : cp_G x E nL cells slots cnt sh I R (pc + 3) L (.ref (cp_ts E q) :: st)) : cp_G x E nL cells slots cnt sh I R pc L st := fun H locs ls hW hS hl =>
  va_gets O.1 O.2.1 (O.2.2.2.2.2.2.1 q hq).1 hS O.2.2.2.1 (O.2.2.2.2.1 _ hlk) (fun _ h => h) hd (k H locs ls hW hS hl)
theorem cp_getsN (O : cp_Ok x E own bc nL d mc ms) {q index : Nat} (hq : q < 3) (hlk : (own, index, cp_sn q) ∈ cp_nF) (hd : decode bc pc = .ok (.getstatic index, 3))
    (k : cp_G x E nL cells slots cnt sh I R (pc + 3) L (.ref (cp_ts E q) :: st)) : cp_G x E nL cells slots cnt sh I R pc L st := fun H locs ls hW hS hl =>
  va_getsN O.1 O.2.1 (O.2.2.2.2.2.2.1 q hq).1 hS O.2.2.2.1 (va_Nw.use rfl (O.2.2.2.2.2.1.2.1 _ hlk)) (fun _ h => h) hd (k H locs ls hW hS hl)
theorem cp_tald (O : cp_Ok x E own bc nL d mc ms) {q j : Nat} {i : Int32} (hq : q < 3) (hi : i = nI j) (hj : j < 4) (hd : decode bc pc = .ok (.iaload, 1))
    (k : cp_G x E nL cells slots cnt sh I R (pc + 1) L (.int (cp_sv q j) :: st)) : cp_G x E nL cells slots cnt sh I R pc L (.int i :: .ref (cp_ts E q) :: st) := fun H locs ls hW hS hl => by
  subst hi
  refine va_ti O.1 O.2.1 (O.2.2.2.2.2.2.1 q hq).2 hS (vp_in_nI hj (by decide)) (v := .int (cp_sv q j)) (by rw [nI_clamp (by omega)]) hd (k H locs ls hW hS hl)
end CPM
end
section
/-! CONTRACTS AND CALLS -/
def cp_Pre (E : cp_En) (cnt : Nat) (sh : cp_Shp) (I : cp_Mem) (R : cp_Rem) (U : State) : Prop := cp_PW E cnt sh I R U.heap ∧ cp_K E U ∧ cp_Z E U U.heap
def cp_Qc (E : cp_En) (Post : Option Value → Nat → cp_Shp → cp_Mem → cp_Rem → Prop) : Array Value → State → Outcome → State → Prop := fun _ st oc t => (∃ (v : Option Value) (cnt' : Nat) (sh' : cp_Shp) (I' : cp_Mem) (R' : cp_Rem), oc = .returned v ∧ Post v cnt' sh' I' R' ∧ cp_PW E cnt' sh' I' R' t.heap) ∧ va_F (cp_A E) st t
def cp_Ct (l : Launch) (E : cp_En) (y : MethodName) (bc : ByteArray) (nL : Nat) (ret : Option FieldType) (d mc ms : Nat) (as : List Value) (cnt : Nat) (sh : cp_Shp) (I : cp_Mem) (R : cp_Rem) (Post : Option Value → Nat → cp_Shp → cp_Mem → cp_Rem → Prop) : Prop :=
  Met l y (.code y bc nL ret :: cp_TG) (cp_rm d mc ms) (va_Pc as (cp_Pre E cnt sh I R)) (cp_Qc E Post) mc ms (cp_A E)
/-- a method that makes nothing: its answer and the numbers behind it -/
def cp_Fn (l : Launch) (E : cp_En) (y : MethodName) (bc : ByteArray) (nL : Nat) (ret : Option FieldType) (d : Nat) (as : List Value) (cnt : Nat) (sh : cp_Shp) (I : cp_Mem) (R : cp_Rem) (v : Option Value) (I' : cp_Mem) : Prop :=
  cp_Ct l E y bc nL ret d 0 0 as cnt sh I R (fun v' c s i r => v' = v ∧ c = cnt ∧ s = sh ∧ i = I' ∧ r = R)
theorem cp_Ct_of {l : Launch} {E : cp_En} {y : MethodName} {bc : ByteArray} {nL : Nat} {ret : Option FieldType} {d mc ms : Nat} {as : List Value} {cnt : Nat} {sh : cp_Shp} {I : cp_Mem} {R : cp_Rem} {Post : Option Value → Nat → cp_Shp → cp_Mem → cp_Rem → Prop} {L0 : List (Option Value)}
    (hy : plainName y.cls = true) (hlen : (lg_sl as).length ≤ nL) (hL : cp_lq 0 L0 = lv_args 0 as)
    (body : ∀ x : cp_Cx, cp_xl x = l → cp_Ok x E y.cls bc nL d mc ms → (y.name = "<init>" → (cp_xk x).name = "<init>") →
      (∀ (rt : FieldType) (v : Int32) (cnt' : Nat) (sh' : cp_Shp) (I' : cp_Mem) (R' : cp_Rem) (pc : Nat) (L : List (Option Value)), ret = some rt → narrow rt (.int v) = .int v → decode bc pc = .ok (.ireturn, 1) → Post (some (.int v)) cnt' sh' I' R' → cp_G x E nL mc ms cnt' sh' I' R' pc L [.int v]) →
      (∀ (cnt' : Nat) (sh' : cp_Shp) (I' : cp_Mem) (R' : cp_Rem) (pc : Nat) (L : List (Option Value)), ret = none → decode bc pc = .ok (.return_, 1) → Post none cnt' sh' I' R' → cp_G x E nL mc ms cnt' sh' I' R' pc L []) →
      cp_G x E nL 0 0 cnt sh I R 0 L0 []) : cp_Ct l E y bc nL ret d mc ms as cnt sh I R Post := by
  refine Met.ofW (cc := bc) (maxL := nL) (ret := ret) hy rfl ?_
  intro p e s m args below meth c s₁ B hml hv
  obtain ⟨rfl, hW, hK, hZ⟩ := hv
  have hts := atoms_spec (ws := .code y bc nL ret :: cp_TG) B.pre
  have hown : s.vm.findClass y.cls = some m.cls := findClass_of_methodNamed B.named
  have hlocks := B.notSynchronized
  rw [lg_entry_eq]
  have hl := lv_entry as hlen
  generalize (lg_sl as ++ List.replicate (nL - (lg_sl as).length) Slot.unset).toArray = ls at hl ⊢
  refine body (p, l, e, (headSpec (.code y bc nL ret :: cp_TG) (cp_rm d mc ms)).room, s, m, as.toArray, below, meth, c, MQ below (cp_Qc E Post) as.toArray s mc ms (cp_A E)) rfl
    ⟨B.exec, B.bytes, hml, hown, fun w hw => hts w (List.mem_cons_of_mem _ hw), hK, hZ, by rw [hW.2.1]; exact Nat.le_add_right _ _, Nat.le_refl _, Nat.le_refl _, Nat.le_refl _, Nat.le_refl _⟩ (fun hi => (name_of_methodNamed B.named B.method).1.trans hi) ?_ ?_ s.heap [] ls hW va_S.rf (by show lv_has ls nL (cp_lq 0 L0); rw [hL]; exact hl)
  · intro rt v cnt' sh' I' R' pc L hrt hn hd hp H locs ls' hW' hS hl'
    exact W.zret (Qc := cp_Qc E Post) B.exec B.bytes (B.returns.trans hrt) hn (fun t ht hw => ⟨⟨_, _, _, _, _, rfl, hp, by rw [ht]; exact hW'⟩, hS.F ht⟩) hS.2.2 hd
  · intro cnt' sh' I' R' pc L hrt hd hp H locs ls' hW' hS hl'
    exact W.vret (Qc := cp_Qc E Post) B.exec B.bytes (B.returns.trans hrt) (fun t ht hw => ⟨⟨_, _, _, _, _, rfl, hp, by rw [ht]; exact hW'⟩, hS.F ht⟩) hS.2.2 hd
/-- the same for a method that makes nothing: an int (a boolean, a character) comes back -/
theorem cp_Fn_i {l : Launch} {E : cp_En} {y : MethodName} {bc : ByteArray} {nL : Nat} {rt : FieldType} {d : Nat} {as : List Value} {cnt : Nat} {sh : cp_Shp} {I : cp_Mem} {R : cp_Rem} {r : Int32} {I' : cp_Mem} (L0 : List (Option Value))
    (hy : plainName y.cls = true) (hlen : (lg_sl as).length ≤ nL) (hL : cp_lq 0 L0 = lv_args 0 as) (hn : narrow rt (.int r) = .int r)
    (body : ∀ x : cp_Cx, cp_xl x = l → cp_Ok x E y.cls bc nL d 0 0 →
      (∀ (v : Int32) (I1 : cp_Mem) (pc : Nat) (L : List (Option Value)), decode bc pc = .ok (.ireturn, 1) → v = r → I1 = I' → cp_G x E nL 0 0 cnt sh I1 R pc L [.int v]) →
      cp_G x E nL 0 0 cnt sh I R 0 L0 []) : cp_Fn l E y bc nL (some rt) d as cnt sh I R (some (.int r)) I' :=
  cp_Ct_of hy hlen hL fun x h1 h2 _ h4 _ => body x h1 h2 fun v I1 pc L hd hv hI => h4 rt v cnt sh I1 R pc L rfl (by rw [hv]; exact hn) hd ⟨by rw [hv], rfl, rfl, hI, rfl⟩
theorem cp_Fn_v {l : Launch} {E : cp_En} {y : MethodName} {bc : ByteArray} {nL : Nat} {d : Nat} {as : List Value} {cnt : Nat} {sh : cp_Shp} {I : cp_Mem} {R : cp_Rem} {I' : cp_Mem} (L0 : List (Option Value))
    (hy : plainName y.cls = true) (hlen : (lg_sl as).length ≤ nL) (hL : cp_lq 0 L0 = lv_args 0 as)
    (body : ∀ x : cp_Cx, cp_xl x = l → cp_Ok x E y.cls bc nL d 0 0 →
      (∀ (I1 : cp_Mem) (pc : Nat) (L : List (Option Value)), decode bc pc = .ok (.return_, 1) → I1 = I' → cp_G x E nL 0 0 cnt sh I1 R pc L []) →
      cp_G x E nL 0 0 cnt sh I R 0 L0 []) : cp_Fn l E y bc nL none d as cnt sh I R none I' :=
  cp_Ct_of hy hlen hL fun x h1 h2 _ _ h5 => body x h1 h2 fun I1 pc L hd hI => h5 cnt sh I1 R pc L rfl hd ⟨rfl, rfl, rfl, hI, rfl⟩
/-- what the words say of a method that is called: its code; of a call of it -/
def cp_me (y : MethodName) (cb : ByteArray) (nLc : Nat) (ret : Option FieldType) (n : Nat) : Prop := Cond.code y cb nLc ret ∈ cp_TG ∧ Cond.initialized y.cls ∈ cp_TG ∧ y.cls ≠ "java/lang/invoke/MethodHandle" ∧ y.cls ≠ "java/lang/invoke/VarHandle" ∧ (parseMethodDescriptor y.desc).map (fun d => d.parameters.length) = some n
def cp_mi (y : MethodName) : Prop := Cond.instanceMethod y ∈ cp_TG ∧ Cond.selects y.cls y y ∈ cp_TG
def cp_rl (d nLc dc : Nat) : Prop := dc + 1 ≤ d ∧ 8 + (nLc + 11) + (12 + 32 * dc) ≤ 12 + 32 * d
section CPC
variable {x : cp_Cx} {E : cp_En} {own : String} {bc : ByteArray} {nL d mc ms : Nat} {cells slots cnt : Nat} {sh : cp_Shp} {I : cp_Mem} {R : cp_Rem} {pc : Nat} {L : List (Option Value)} {st stk rest As : List Value} {y : MethodName} {cb : ByteArray} {nLc n index dc mcc msc b : Nat} {ret : Option FieldType} {Post : Option Value → Nat → cp_Shp → cp_Mem → cp_Rem → Prop}
theorem cp_good {w : Cond} (h : w ∈ cp_TG) : w ∈ cp_TG ∧ ((w.onTables && w.keeps) = true ∨ ∃ ty, w = .arrayClass ty) := ⟨h, good_of_word (List.mem_filter.mp h).2⟩
theorem cp_goodIn (hc : Cond.code y cb nLc ret ∈ cp_TG) : GoodIn cp_TG (.code y cb nLc ret :: cp_TG) := fun w hw => by
  rcases List.mem_cons.mp hw with h | h
  · subst h; exact cp_good hc
  · exact cp_good h
theorem cp_room (O : cp_Ok x E own bc nL d mc ms) (hr : cp_rl d nLc dc) : (cp_rm dc mcc msc).frames + 1 ≤ (cp_xR x).frames ∧ 8 + (nLc + 11) + (cp_rm dc mcc msc).locals ≤ (cp_xR x).locals :=
  ⟨Nat.le_trans hr.1 O.2.2.2.2.2.2.2.2.1, Nat.le_trans hr.2 O.2.2.2.2.2.2.2.2.2.1⟩
theorem cp_blind {as : List Value} : FrameBlind (va_Pc as (cp_Pre E cnt sh I R)) := fun a U g mk q => by
  obtain ⟨q1, q2, q3, q4⟩ := q
  exact ⟨q1, q2, ⟨va_K.moved (u := U) (U := U.calling g mk a) (Vm.Alike.refl U.vm) q3.1, cp_nw_same rfl q3.2⟩, cp_Z_moved (u := U) (U := U.calling g mk a) (Vm.Alike.refl U.vm) q4⟩
theorem cp_pre (O : cp_Ok x E own bc nL d mc ms) {H : Heap} {locs : List Loc} (hW : cp_PW E cnt sh I R H) (hS : va_S (cp_A E) (cp_xs x).heap H locs) {as : List Value} : ∀ U : State, U.heap = H → (cp_xs x).WarmedH U.vm → va_Pc as (cp_Pre E cnt sh I R) as.toArray U := fun U hU hw => by
  refine ⟨rfl, by rw [hU]; exact hW, cp_K_warm hw O.2.2.2.2.2.1, ?_⟩
  rw [hU]
  exact cp_Z_kept (fun a h1 h2 => hS.2.1 a h1 h2) (cp_Z_moved hw.alike O.2.2.2.2.2.2.1)
theorem cp_after (O : cp_Ok x E own bc nL d mc ms) {H : Heap} {locs : List Loc} {ls : Array Slot} {a : Array Value} {st0 : List Value} (hW : cp_PW E cnt sh I R H) (hS : va_S (cp_A E) (cp_xs x).heap H locs) (hl : cp_lH ls nL L)
    (hr : va_Run (cp_xp x) (cp_xl x) (cp_xe x) (cp_xR x) (cp_xs x) (cp_xm x) (cp_xa x) (cp_xb x) (cp_xk x) (cp_xc x) H locs cells slots mcc msc (F0 (cp_xm x) pc ls st0) rest (cp_Qc E Post a) (cp_A E))
    (k : ∀ v cnt' sh' I' R', Post v cnt' sh' I' R' → cp_G x E nL (cells + mcc) (slots + msc) cnt' sh' I' R' (pc + 3) L (v.toList ++ rest)) : cp_W x H locs cells slots (F0 (cp_xm x) pc ls st0) := by
  intro T hT X
  obtain ⟨v, st₀, t, T', L', h0, X', hL, e1, e2, ⟨⟨v', cnt', sh', I', R', hv, hp, hW'⟩, hz, hk⟩, stp⟩ := hr T hT X
  cases hv
  rw [h0] at hz hk
  obtain ⟨t2, a1, b1⟩ := k v cnt' sh' I' R' hp T'.heap (locs ++ L') ls (by rw [e1]; exact hW') ⟨Nat.le_trans hS.1 (by rw [e1]; exact hz), fun q h1 h2 => by rw [e1, hk q (Nat.lt_of_lt_of_le h1 hS.1) h2]; exact hS.2.1 q h1 h2, fun q hq => by
      rcases List.mem_append.mp hq with h | h
      · exact hS.2.2 q h
      · exact hL q h⟩ hl T' rfl X'
  exact ⟨t2, stp t2 a1, b1⟩
theorem cp_recv (O : cp_Ok x E own bc nL d mc ms) {H : Heap} (hW : cp_PW E cnt sh I R H) {ci : Nat} {C : String} {T : u_T} {N : Nat} {ty0 : Nat → FieldType} (hc : cp_clf ci C T N ty0) (hs : sh b = (ci + 1, 0)) : ∃ cell : Cell, H[b]? = some cell ∧ cell.vm.isStatics = false ∧ (cp_xs x).vm.findClass C = some cell.cls := by
  obtain ⟨c1, c2, c3, c4, c5, c6⟩ := hc
  have he := cp_WL_at E cnt sh I R (cp_PW_in hW hs)
  rw [hs, cp_e_obj _ _ _ _ c5] at he
  exact va_recv O.2.2.2.2.2.1.1 hW.2.2 c1 he
theorem cp_callV (O : cp_Ok x E own bc nL d mc ms) (hM : cp_me y cb nLc ret n) (hI : cp_mi y) (hlk : Cond.methodLink own index y ∈ cp_TG) {ci : Nat} {T : u_T} {N : Nat} {ty0 : Nat → FieldType} (hc : cp_clf ci y.cls T N ty0) (hs : sh b = (ci + 1, 0))
    (hC : cp_Ct (cp_xl x) E y cb nLc ret dc mcc msc (.ref b :: As) cnt sh I R Post) (hd : decode bc pc = .ok (.invokevirtual index, 3)) (hn : As.length = n) (hst : stk = As.reverse ++ .ref b :: rest) (hr : cp_rl d nLc dc) (hcs : cells + mcc ≤ mc ∧ slots + msc ≤ ms) (hrest : (rest.map fun v => v.category).sum ≤ 8)
    (k : ∀ v cnt' sh' I' R', Post v cnt' sh' I' R' → cp_G x E nL (cells + mcc) (slots + msc) cnt' sh' I' R' (pc + 3) L (v.toList ++ rest)) : cp_G x E nL cells slots cnt sh I R pc L stk := by
  intro H locs ls hW hS hl
  subst hst
  refine cp_after O (a := (Value.ref b :: As).toArray) hW hS hl (va_runV (As := As) (rest := rest) ⟨O.1, O.2.1, O.2.2.1, O.2.2.2.1, O.2.2.2.2.1⟩ hC (cwV n O.2.2.2.2.1 (fun w hw => ?_) rfl rfl rfl ⟨rfl, hM.2.2.1, hM.2.2.2.1, hM.2.2.2.2⟩ (cp_room O hr)) ⟨cp_blind, cp_recv O hW hc hs, cp_pre O hW hS⟩ rfl hn hl.1 rfl (lv_room hrest) hd ⟨Nat.le_trans hcs.1 O.2.2.2.2.2.2.2.2.2.2.1, Nat.le_trans hcs.2 O.2.2.2.2.2.2.2.2.2.2.2⟩) k
  unfold wsV at hw
  rcases List.mem_append.mp hw with h | h
  · simp only [List.mem_cons, List.not_mem_nil, or_false] at h
    rcases h with h | h | h | h <;> subst h
    · exact cp_good hlk
    · exact cp_good hI.1
    · exact cp_good hI.2
    · exact cp_good hM.2.1
  · exact cp_goodIn hM.1 w h
theorem cp_callS (O : cp_Ok x E own bc nL d mc ms) (hM : cp_me y cb nLc ret n) (hst0 : Cond.static y ∈ cp_TG) (hlk : Cond.methodLink own index y ∈ cp_TG)
    (hC : cp_Ct (cp_xl x) E y cb nLc ret dc mcc msc As cnt sh I R Post) (hd : decode bc pc = .ok (.invokestatic index, 3)) (hn : As.length = n) (hst : stk = As.reverse ++ rest) (hr : cp_rl d nLc dc) (hcs : cells + mcc ≤ mc ∧ slots + msc ≤ ms) (hrest : (rest.map fun v => v.category).sum ≤ 8)
    (k : ∀ v cnt' sh' I' R', Post v cnt' sh' I' R' → cp_G x E nL (cells + mcc) (slots + msc) cnt' sh' I' R' (pc + 3) L (v.toList ++ rest)) : cp_G x E nL cells slots cnt sh I R pc L stk := by
  intro H locs ls hW hS hl
  subst hst
  refine cp_after O (a := As.toArray) hW hS hl (va_runS (As := As) (rest := rest) ⟨O.1, O.2.1, O.2.2.1, O.2.2.2.1, O.2.2.2.2.1⟩ hC (va_cwS n O.2.2.2.2.1 (fun w hw => ?_) rfl rfl rfl ⟨hM.2.2.1, hM.2.2.2.1, hM.2.2.2.2⟩ (cp_room O hr)) ⟨cp_blind, cp_pre O hW hS⟩ rfl hn hl.1 rfl (lv_room hrest) hd ⟨Nat.le_trans hcs.1 O.2.2.2.2.2.2.2.2.2.2.1, Nat.le_trans hcs.2 O.2.2.2.2.2.2.2.2.2.2.2⟩) k
  unfold va_wsS at hw
  rcases List.mem_append.mp hw with h | h
  · simp only [List.mem_cons, List.not_mem_nil, or_false] at h
    rcases h with h | h | h <;> subst h
    · exact cp_good hlk
    · exact cp_good hst0
    · exact cp_good hM.2.1
  · exact cp_goodIn hM.1 w h
theorem cp_callSN (O : cp_Ok x E own bc nL d mc ms) (hM : cp_me y cb nLc ret n) (hst0 : Cond.static y ∈ cp_TG) (hlk : (own, index, y) ∈ cp_nM)
    (hC : cp_Ct (cp_xl x) E y cb nLc ret dc mcc msc As cnt sh I R Post) (hd : decode bc pc = .ok (.invokestatic index, 3)) (hn : As.length = n) (hst : stk = As.reverse ++ rest) (hr : cp_rl d nLc dc) (hcs : cells + mcc ≤ mc ∧ slots + msc ≤ ms) (hrest : (rest.map fun v => v.category).sum ≤ 8)
    (k : ∀ v cnt' sh' I' R', Post v cnt' sh' I' R' → cp_G x E nL (cells + mcc) (slots + msc) cnt' sh' I' R' (pc + 3) L (v.toList ++ rest)) : cp_G x E nL cells slots cnt sh I R pc L stk := by
  intro H locs ls hW hS hl
  subst hst
  exact cp_after O (a := As.toArray) hW hS hl (va_runSN (As := As) (rest := rest) ⟨O.1, O.2.1, O.2.2.1, O.2.2.2.1, O.2.2.2.2.1⟩ hC ⟨va_cnB n O.2.2.2.2.1 (cp_goodIn hM.1) rfl rfl rfl (O.2.2.2.2.2.1.2.2 _ hlk) (O.2.2.2.2.1 _ hM.2.1) ⟨hM.2.2.1, hM.2.2.2.1, hM.2.2.2.2⟩ (cp_room O hr), O.2.2.2.2.1 _ hst0, trivial⟩ ⟨cp_blind, cp_pre O hW hS⟩ rfl hn hl.1 rfl (lv_room hrest) hd ⟨Nat.le_trans hcs.1 O.2.2.2.2.2.2.2.2.2.2.1, Nat.le_trans hcs.2 O.2.2.2.2.2.2.2.2.2.2.2⟩) k
/-- calls of methods that make nothing -/
theorem cp_cVi (O : cp_Ok x E own bc nL d mc ms) {r : Int32} {I' : cp_Mem} (hM : cp_me y cb nLc ret n) (hI : cp_mi y) (hlk : Cond.methodLink own index y ∈ cp_TG) {ci : Nat} {T : u_T} {N : Nat} {ty0 : Nat → FieldType} (hc : cp_clf ci y.cls T N ty0) (hs : sh b = (ci + 1, 0))
    (hC : cp_Fn (cp_xl x) E y cb nLc ret dc (.ref b :: As) cnt sh I R (some (.int r)) I') (hd : decode bc pc = .ok (.invokevirtual index, 3)) (hn : As.length = n) (hst : stk = As.reverse ++ .ref b :: rest) (hr : cp_rl d nLc dc) (hcs : cells ≤ mc ∧ slots ≤ ms) (hrest : (rest.map fun v => v.category).sum ≤ 8)
    (k : cp_G x E nL cells slots cnt sh I' R (pc + 3) L (.int r :: rest)) : cp_G x E nL cells slots cnt sh I R pc L stk :=
  cp_callV O hM hI hlk hc hs hC hd hn hst hr hcs hrest fun v c s i r h => by
    obtain ⟨rfl, rfl, rfl, rfl, rfl⟩ := h
    exact k
theorem cp_cVv (O : cp_Ok x E own bc nL d mc ms) {I' : cp_Mem} (hM : cp_me y cb nLc ret n) (hI : cp_mi y) (hlk : Cond.methodLink own index y ∈ cp_TG) {ci : Nat} {T : u_T} {N : Nat} {ty0 : Nat → FieldType} (hc : cp_clf ci y.cls T N ty0) (hs : sh b = (ci + 1, 0))
    (hC : cp_Fn (cp_xl x) E y cb nLc ret dc (.ref b :: As) cnt sh I R none I') (hd : decode bc pc = .ok (.invokevirtual index, 3)) (hn : As.length = n) (hst : stk = As.reverse ++ .ref b :: rest) (hr : cp_rl d nLc dc) (hcs : cells ≤ mc ∧ slots ≤ ms) (hrest : (rest.map fun v => v.category).sum ≤ 8)
    (k : cp_G x E nL cells slots cnt sh I' R (pc + 3) L rest) : cp_G x E nL cells slots cnt sh I R pc L stk :=
  cp_callV O hM hI hlk hc hs hC hd hn hst hr hcs hrest fun v c s i r h => by
    obtain ⟨rfl, rfl, rfl, rfl, rfl⟩ := h
    exact k
theorem cp_cSi (O : cp_Ok x E own bc nL d mc ms) {r : Int32} {I' : cp_Mem} (hM : cp_me y cb nLc ret n) (hst0 : Cond.static y ∈ cp_TG) (hlk : Cond.methodLink own index y ∈ cp_TG)
    (hC : cp_Fn (cp_xl x) E y cb nLc ret dc As cnt sh I R (some (.int r)) I') (hd : decode bc pc = .ok (.invokestatic index, 3)) (hn : As.length = n) (hst : stk = As.reverse ++ rest) (hr : cp_rl d nLc dc) (hcs : cells ≤ mc ∧ slots ≤ ms) (hrest : (rest.map fun v => v.category).sum ≤ 8)
    (k : cp_G x E nL cells slots cnt sh I' R (pc + 3) L (.int r :: rest)) : cp_G x E nL cells slots cnt sh I R pc L stk :=
  cp_callS O hM hst0 hlk hC hd hn hst hr hcs hrest fun v c s i r h => by
    obtain ⟨rfl, rfl, rfl, rfl, rfl⟩ := h
    exact k
theorem cp_cSv (O : cp_Ok x E own bc nL d mc ms) {I' : cp_Mem} (hM : cp_me y cb nLc ret n) (hst0 : Cond.static y ∈ cp_TG) (hlk : Cond.methodLink own index y ∈ cp_TG)
    (hC : cp_Fn (cp_xl x) E y cb nLc ret dc As cnt sh I R none I') (hd : decode bc pc = .ok (.invokestatic index, 3)) (hn : As.length = n) (hst : stk = As.reverse ++ rest) (hr : cp_rl d nLc dc) (hcs : cells ≤ mc ∧ slots ≤ ms) (hrest : (rest.map fun v => v.category).sum ≤ 8)
    (k : cp_G x E nL cells slots cnt sh I' R (pc + 3) L rest) : cp_G x E nL cells slots cnt sh I R pc L stk :=
  cp_callS O hM hst0 hlk hC hd hn hst hr hcs hrest fun v c s i r h => by
    obtain ⟨rfl, rfl, rfl, rfl, rfl⟩ := h
    exact k
theorem cp_cSNi (O : cp_Ok x E own bc nL d mc ms) {r : Int32} {I' : cp_Mem} (hM : cp_me y cb nLc ret n) (hst0 : Cond.static y ∈ cp_TG) (hlk : (own, index, y) ∈ cp_nM)
    (hC : cp_Fn (cp_xl x) E y cb nLc ret dc As cnt sh I R (some (.int r)) I') (hd : decode bc pc = .ok (.invokestatic index, 3)) (hn : As.length = n) (hst : stk = As.reverse ++ rest) (hr : cp_rl d nLc dc) (hcs : cells ≤ mc ∧ slots ≤ ms) (hrest : (rest.map fun v => v.category).sum ≤ 8)
    (k : cp_G x E nL cells slots cnt sh I' R (pc + 3) L (.int r :: rest)) : cp_G x E nL cells slots cnt sh I R pc L stk :=
  cp_callSN O hM hst0 hlk hC hd hn hst hr hcs hrest fun v c s i r h => by
    obtain ⟨rfl, rfl, rfl, rfl, rfl⟩ := h
    exact k
end CPC
end
