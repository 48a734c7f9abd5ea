section
-- ===== PART A: goes FIRST, ahead of the names: the tables' words, and 'selects' of the private methods out of them =====
/-- a private method of a class that the tables say can be made, by its rows of tables_1 -/
def lw_okq (q : MethodName × Nat) : Prop := (q.1.cls ≠ "java/lang/invoke/MethodHandle" ∧ q.1.cls ≠ "java/lang/invoke/VarHandle") ∧ Cond.instantiable q.1.cls q.2 ∈ tables_1 ∧ Cond.privateMethod q.1 ∈ tables_1 ∧ Cond.instanceMethod q.1 ∈ tables_1
theorem lw_p0 : lw_okq (⟨"CopyPlates$Night", "plateAt", "(I)I"⟩, 6) := ⟨⟨by decide +kernel, by decide +kernel⟩, List.mem_of_getElem? (i := 20) (by decide +kernel), List.mem_of_getElem? (i := 270) (by decide +kernel), List.mem_of_getElem? (i := 271) (by decide +kernel)⟩
theorem lw_p1 : lw_okq (⟨"CopyPlates$Night", "insertPlate", "(IZ)I"⟩, 6) := ⟨⟨by decide +kernel, by decide +kernel⟩, List.mem_of_getElem? (i := 20) (by decide +kernel), List.mem_of_getElem? (i := 274) (by decide +kernel), List.mem_of_getElem? (i := 275) (by decide +kernel)⟩
theorem lw_p2 : lw_okq (⟨"CopyPlates$Night", "isOnLatestMade", "(I)Z"⟩, 6) := ⟨⟨by decide +kernel, by decide +kernel⟩, List.mem_of_getElem? (i := 20) (by decide +kernel), List.mem_of_getElem? (i := 305) (by decide +kernel), List.mem_of_getElem? (i := 306) (by decide +kernel)⟩
theorem lw_p3 : lw_okq (⟨"CopyPlates$Night", "madePlates", "()I"⟩, 6) := ⟨⟨by decide +kernel, by decide +kernel⟩, List.mem_of_getElem? (i := 20) (by decide +kernel), List.mem_of_getElem? (i := 309) (by decide +kernel), List.mem_of_getElem? (i := 310) (by decide +kernel)⟩
theorem lw_p4 : lw_okq (⟨"CopyPlates$Night", "isMade", "(I)Z"⟩, 6) := ⟨⟨by decide +kernel, by decide +kernel⟩, List.mem_of_getElem? (i := 20) (by decide +kernel), List.mem_of_getElem? (i := 313) (by decide +kernel), List.mem_of_getElem? (i := 314) (by decide +kernel)⟩
theorem lw_p5 : lw_okq (⟨"CopyPlates$Night", "tellReplate", "()Z"⟩, 6) := ⟨⟨by decide +kernel, by decide +kernel⟩, List.mem_of_getElem? (i := 20) (by decide +kernel), List.mem_of_getElem? (i := 320) (by decide +kernel), List.mem_of_getElem? (i := 321) (by decide +kernel)⟩
theorem lw_p6 : lw_okq (⟨"CopyPlates$Night", "editAtDesks", "()V"⟩, 6) := ⟨⟨by decide +kernel, by decide +kernel⟩, List.mem_of_getElem? (i := 20) (by decide +kernel), List.mem_of_getElem? (i := 340) (by decide +kernel), List.mem_of_getElem? (i := 341) (by decide +kernel)⟩
theorem lw_p7 : lw_okq (⟨"CopyPlates$Piece", "becomeReady", "(I)V"⟩, 10) := ⟨⟨by decide +kernel, by decide +kernel⟩, List.mem_of_getElem? (i := 36) (by decide +kernel), List.mem_of_getElem? (i := 349) (by decide +kernel), List.mem_of_getElem? (i := 350) (by decide +kernel)⟩
theorem lw_p8 : lw_okq (⟨"CopyPlates$Night", "readAtLawyer", "()V"⟩, 6) := ⟨⟨by decide +kernel, by decide +kernel⟩, List.mem_of_getElem? (i := 20) (by decide +kernel), List.mem_of_getElem? (i := 353) (by decide +kernel), List.mem_of_getElem? (i := 354) (by decide +kernel)⟩
theorem lw_p9 : lw_okq (⟨"CopyPlates$Night", "firstAtLawyer", "()I"⟩, 6) := ⟨⟨by decide +kernel, by decide +kernel⟩, List.mem_of_getElem? (i := 20) (by decide +kernel), List.mem_of_getElem? (i := 357) (by decide +kernel), List.mem_of_getElem? (i := 358) (by decide +kernel)⟩
theorem lw_p10 : lw_okq (⟨"CopyPlates$Night", "firstByRank", "(I)I"⟩, 6) := ⟨⟨by decide +kernel, by decide +kernel⟩, List.mem_of_getElem? (i := 20) (by decide +kernel), List.mem_of_getElem? (i := 377) (by decide +kernel), List.mem_of_getElem? (i := 378) (by decide +kernel)⟩
theorem lw_p11 : lw_okq (⟨"CopyPlates$Night", "goesAhead", "(II)Z"⟩, 6) := ⟨⟨by decide +kernel, by decide +kernel⟩, List.mem_of_getElem? (i := 20) (by decide +kernel), List.mem_of_getElem? (i := 381) (by decide +kernel), List.mem_of_getElem? (i := 382) (by decide +kernel)⟩
theorem lw_p12 : lw_okq (⟨"CopyPlates$Night", "placeInQueue", "(I)I"⟩, 6) := ⟨⟨by decide +kernel, by decide +kernel⟩, List.mem_of_getElem? (i := 20) (by decide +kernel), List.mem_of_getElem? (i := 393) (by decide +kernel), List.mem_of_getElem? (i := 394) (by decide +kernel)⟩
theorem lw_p13 : lw_okq (⟨"CopyPlates$Night", "placeAtDesk", "(I)I"⟩, 6) := ⟨⟨by decide +kernel, by decide +kernel⟩, List.mem_of_getElem? (i := 20) (by decide +kernel), List.mem_of_getElem? (i := 397) (by decide +kernel), List.mem_of_getElem? (i := 398) (by decide +kernel)⟩
theorem lw_p14 : lw_okq (⟨"CopyPlates$Night", "placeAtLawyer", "(I)I"⟩, 6) := ⟨⟨by decide +kernel, by decide +kernel⟩, List.mem_of_getElem? (i := 20) (by decide +kernel), List.mem_of_getElem? (i := 401) (by decide +kernel), List.mem_of_getElem? (i := 402) (by decide +kernel)⟩
theorem lw_p15 : lw_okq (⟨"CopyPlates$Night", "platesWith", "(I)I"⟩, 6) := ⟨⟨by decide +kernel, by decide +kernel⟩, List.mem_of_getElem? (i := 20) (by decide +kernel), List.mem_of_getElem? (i := 405) (by decide +kernel), List.mem_of_getElem? (i := 406) (by decide +kernel)⟩
def lw_privs_1 : List (MethodName × Nat) := [(⟨"CopyPlates$Night", "plateAt", "(I)I"⟩, 6), (⟨"CopyPlates$Night", "insertPlate", "(IZ)I"⟩, 6), (⟨"CopyPlates$Night", "isOnLatestMade", "(I)Z"⟩, 6), (⟨"CopyPlates$Night", "madePlates", "()I"⟩, 6), (⟨"CopyPlates$Night", "isMade", "(I)Z"⟩, 6), (⟨"CopyPlates$Night", "tellReplate", "()Z"⟩, 6), (⟨"CopyPlates$Night", "editAtDesks", "()V"⟩, 6), (⟨"CopyPlates$Piece", "becomeReady", "(I)V"⟩, 10), (⟨"CopyPlates$Night", "readAtLawyer", "()V"⟩, 6), (⟨"CopyPlates$Night", "firstAtLawyer", "()I"⟩, 6), (⟨"CopyPlates$Night", "firstByRank", "(I)I"⟩, 6), (⟨"CopyPlates$Night", "goesAhead", "(II)Z"⟩, 6), (⟨"CopyPlates$Night", "placeInQueue", "(I)I"⟩, 6), (⟨"CopyPlates$Night", "placeAtDesk", "(I)I"⟩, 6), (⟨"CopyPlates$Night", "placeAtLawyer", "(I)I"⟩, 6), (⟨"CopyPlates$Night", "platesWith", "(I)I"⟩, 6)]
theorem lw_r1 : ∀ q ∈ lw_privs_1, lw_okq q := List.forall_mem_cons.mpr ⟨lw_p0, List.forall_mem_cons.mpr ⟨lw_p1, List.forall_mem_cons.mpr ⟨lw_p2, List.forall_mem_cons.mpr ⟨lw_p3, List.forall_mem_cons.mpr ⟨lw_p4, List.forall_mem_cons.mpr ⟨lw_p5, List.forall_mem_cons.mpr ⟨lw_p6, List.forall_mem_cons.mpr ⟨lw_p7, List.forall_mem_cons.mpr ⟨lw_p8, List.forall_mem_cons.mpr ⟨lw_p9, List.forall_mem_cons.mpr ⟨lw_p10, List.forall_mem_cons.mpr ⟨lw_p11, List.forall_mem_cons.mpr ⟨lw_p12, List.forall_mem_cons.mpr ⟨lw_p13, List.forall_mem_cons.mpr ⟨lw_p14, List.forall_mem_cons.mpr ⟨lw_p15, fun _ h => absurd h List.not_mem_nil⟩⟩⟩⟩⟩⟩⟩⟩⟩⟩⟩⟩⟩⟩⟩⟩
theorem lw_p16 : lw_okq (⟨"CopyPlates$Night", "piecesThatAre", "(I)I"⟩, 6) := ⟨⟨by decide +kernel, by decide +kernel⟩, List.mem_of_getElem? (i := 20) (by decide +kernel), List.mem_of_getElem? (i := 429) (by decide +kernel), List.mem_of_getElem? (i := 430) (by decide +kernel)⟩
theorem lw_p17 : lw_okq (⟨"CopyPlates$Night", "heldPieces", "()I"⟩, 6) := ⟨⟨by decide +kernel, by decide +kernel⟩, List.mem_of_getElem? (i := 20) (by decide +kernel), List.mem_of_getElem? (i := 433) (by decide +kernel), List.mem_of_getElem? (i := 434) (by decide +kernel)⟩
theorem lw_p18 : lw_okq (⟨"CopyPlates$Night", "replates", "()I"⟩, 6) := ⟨⟨by decide +kernel, by decide +kernel⟩, List.mem_of_getElem? (i := 20) (by decide +kernel), List.mem_of_getElem? (i := 437) (by decide +kernel), List.mem_of_getElem? (i := 438) (by decide +kernel)⟩
theorem lw_p19 : lw_okq (⟨"CopyPlates$Night", "reasonOf", "(I)I"⟩, 6) := ⟨⟨by decide +kernel, by decide +kernel⟩, List.mem_of_getElem? (i := 20) (by decide +kernel), List.mem_of_getElem? (i := 449) (by decide +kernel), List.mem_of_getElem? (i := 450) (by decide +kernel)⟩
theorem lw_p20 : lw_okq (⟨"CopyPlates$Night", "causeOf", "(I)I"⟩, 6) := ⟨⟨by decide +kernel, by decide +kernel⟩, List.mem_of_getElem? (i := 20) (by decide +kernel), List.mem_of_getElem? (i := 453) (by decide +kernel), List.mem_of_getElem? (i := 454) (by decide +kernel)⟩
theorem lw_p21 : lw_okq (⟨"CopyPlates$Night", "firstAtDesk", "(I)I"⟩, 6) := ⟨⟨by decide +kernel, by decide +kernel⟩, List.mem_of_getElem? (i := 20) (by decide +kernel), List.mem_of_getElem? (i := 457) (by decide +kernel), List.mem_of_getElem? (i := 458) (by decide +kernel)⟩
theorem lw_p22 : lw_okq (⟨"CopyPlates$Night", "lastTakenAheadOf", "(I)I"⟩, 6) := ⟨⟨by decide +kernel, by decide +kernel⟩, List.mem_of_getElem? (i := 20) (by decide +kernel), List.mem_of_getElem? (i := 461) (by decide +kernel), List.mem_of_getElem? (i := 462) (by decide +kernel)⟩
theorem lw_p23 : lw_okq (⟨"CopyPlates", "goAheadToPlate", "(I)V"⟩, 6) := ⟨⟨by decide +kernel, by decide +kernel⟩, List.mem_of_getElem? (i := 12) (by decide +kernel), List.mem_of_getElem? (i := 486) (by decide +kernel), List.mem_of_getElem? (i := 487) (by decide +kernel)⟩
theorem lw_p24 : lw_okq (⟨"CopyPlates$OrderReader", "readPiece", "()Z"⟩, 7) := ⟨⟨by decide +kernel, by decide +kernel⟩, List.mem_of_getElem? (i := 160) (by decide +kernel), List.mem_of_getElem? (i := 547) (by decide +kernel), List.mem_of_getElem? (i := 548) (by decide +kernel)⟩
theorem lw_p25 : lw_okq (⟨"CopyPlates$OrderReader", "digitHere", "()I"⟩, 7) := ⟨⟨by decide +kernel, by decide +kernel⟩, List.mem_of_getElem? (i := 160) (by decide +kernel), List.mem_of_getElem? (i := 551) (by decide +kernel), List.mem_of_getElem? (i := 552) (by decide +kernel)⟩
theorem lw_p26 : lw_okq (⟨"CopyPlates$OrderReader", "readNumber", "()Z"⟩, 7) := ⟨⟨by decide +kernel, by decide +kernel⟩, List.mem_of_getElem? (i := 160) (by decide +kernel), List.mem_of_getElem? (i := 559) (by decide +kernel), List.mem_of_getElem? (i := 560) (by decide +kernel)⟩
theorem lw_p27 : lw_okq (⟨"CopyPlates", "carryOrderOut", "()I"⟩, 6) := ⟨⟨by decide +kernel, by decide +kernel⟩, List.mem_of_getElem? (i := 12) (by decide +kernel), List.mem_of_getElem? (i := 570) (by decide +kernel), List.mem_of_getElem? (i := 571) (by decide +kernel)⟩
theorem lw_p28 : lw_okq (⟨"CopyPlatesModel", "ends", "(I)I"⟩, 15) := ⟨⟨by decide +kernel, by decide +kernel⟩, List.mem_of_getElem? (i := 591) (by decide +kernel), List.mem_of_getElem? (i := 660) (by decide +kernel), List.mem_of_getElem? (i := 661) (by decide +kernel)⟩
theorem lw_p29 : lw_okq (⟨"CopyPlatesModel", "doPiece", "(IIII)I"⟩, 15) := ⟨⟨by decide +kernel, by decide +kernel⟩, List.mem_of_getElem? (i := 591) (by decide +kernel), List.mem_of_getElem? (i := 668) (by decide +kernel), List.mem_of_getElem? (i := 669) (by decide +kernel)⟩
theorem lw_p30 : lw_okq (⟨"CopyPlatesModel", "sets", "(III)V"⟩, 15) := ⟨⟨by decide +kernel, by decide +kernel⟩, List.mem_of_getElem? (i := 591) (by decide +kernel), List.mem_of_getElem? (i := 675) (by decide +kernel), List.mem_of_getElem? (i := 676) (by decide +kernel)⟩
theorem lw_p31 : lw_okq (⟨"CopyPlatesModel", "comesTo", "(II)V"⟩, 15) := ⟨⟨by decide +kernel, by decide +kernel⟩, List.mem_of_getElem? (i := 591) (by decide +kernel), List.mem_of_getElem? (i := 679) (by decide +kernel), List.mem_of_getElem? (i := 680) (by decide +kernel)⟩
def lw_privs_2 : List (MethodName × Nat) := [(⟨"CopyPlates$Night", "piecesThatAre", "(I)I"⟩, 6), (⟨"CopyPlates$Night", "heldPieces", "()I"⟩, 6), (⟨"CopyPlates$Night", "replates", "()I"⟩, 6), (⟨"CopyPlates$Night", "reasonOf", "(I)I"⟩, 6), (⟨"CopyPlates$Night", "causeOf", "(I)I"⟩, 6), (⟨"CopyPlates$Night", "firstAtDesk", "(I)I"⟩, 6), (⟨"CopyPlates$Night", "lastTakenAheadOf", "(I)I"⟩, 6), (⟨"CopyPlates", "goAheadToPlate", "(I)V"⟩, 6), (⟨"CopyPlates$OrderReader", "readPiece", "()Z"⟩, 7), (⟨"CopyPlates$OrderReader", "digitHere", "()I"⟩, 7), (⟨"CopyPlates$OrderReader", "readNumber", "()Z"⟩, 7), (⟨"CopyPlates", "carryOrderOut", "()I"⟩, 6), (⟨"CopyPlatesModel", "ends", "(I)I"⟩, 15), (⟨"CopyPlatesModel", "doPiece", "(IIII)I"⟩, 15), (⟨"CopyPlatesModel", "sets", "(III)V"⟩, 15), (⟨"CopyPlatesModel", "comesTo", "(II)V"⟩, 15)]
theorem lw_r2 : ∀ q ∈ lw_privs_2, lw_okq q := List.forall_mem_cons.mpr ⟨lw_p16, List.forall_mem_cons.mpr ⟨lw_p17, List.forall_mem_cons.mpr ⟨lw_p18, List.forall_mem_cons.mpr ⟨lw_p19, List.forall_mem_cons.mpr ⟨lw_p20, List.forall_mem_cons.mpr ⟨lw_p21, List.forall_mem_cons.mpr ⟨lw_p22, List.forall_mem_cons.mpr ⟨lw_p23, List.forall_mem_cons.mpr ⟨lw_p24, List.forall_mem_cons.mpr ⟨lw_p25, List.forall_mem_cons.mpr ⟨lw_p26, List.forall_mem_cons.mpr ⟨lw_p27, List.forall_mem_cons.mpr ⟨lw_p28, List.forall_mem_cons.mpr ⟨lw_p29, List.forall_mem_cons.mpr ⟨lw_p30, List.forall_mem_cons.mpr ⟨lw_p31, fun _ h => absurd h List.not_mem_nil⟩⟩⟩⟩⟩⟩⟩⟩⟩⟩⟩⟩⟩⟩⟩⟩
theorem lw_p32 : lw_okq (⟨"CopyPlatesModel", "doPlate", "(I)I"⟩, 15) := ⟨⟨by decide +kernel, by decide +kernel⟩, List.mem_of_getElem? (i := 591) (by decide +kernel), List.mem_of_getElem? (i := 687) (by decide +kernel), List.mem_of_getElem? (i := 688) (by decide +kernel)⟩
theorem lw_p33 : lw_okq (⟨"CopyPlatesModel", "due", "(I)I"⟩, 15) := ⟨⟨by decide +kernel, by decide +kernel⟩, List.mem_of_getElem? (i := 591) (by decide +kernel), List.mem_of_getElem? (i := 692) (by decide +kernel), List.mem_of_getElem? (i := 693) (by decide +kernel)⟩
theorem lw_p34 : lw_okq (⟨"CopyPlatesModel", "plateAt", "(II)I"⟩, 15) := ⟨⟨by decide +kernel, by decide +kernel⟩, List.mem_of_getElem? (i := 591) (by decide +kernel), List.mem_of_getElem? (i := 696) (by decide +kernel), List.mem_of_getElem? (i := 697) (by decide +kernel)⟩
theorem lw_p35 : lw_okq (⟨"CopyPlatesModel", "tells", "(II)I"⟩, 15) := ⟨⟨by decide +kernel, by decide +kernel⟩, List.mem_of_getElem? (i := 591) (by decide +kernel), List.mem_of_getElem? (i := 700) (by decide +kernel), List.mem_of_getElem? (i := 701) (by decide +kernel)⟩
theorem lw_p36 : lw_okq (⟨"CopyPlatesModel", "doHold", "(I)I"⟩, 15) := ⟨⟨by decide +kernel, by decide +kernel⟩, List.mem_of_getElem? (i := 591) (by decide +kernel), List.mem_of_getElem? (i := 708) (by decide +kernel), List.mem_of_getElem? (i := 709) (by decide +kernel)⟩
theorem lw_p37 : lw_okq (⟨"CopyPlatesModel", "isPiece", "(I)Z"⟩, 15) := ⟨⟨by decide +kernel, by decide +kernel⟩, List.mem_of_getElem? (i := 591) (by decide +kernel), List.mem_of_getElem? (i := 712) (by decide +kernel), List.mem_of_getElem? (i := 713) (by decide +kernel)⟩
theorem lw_p38 : lw_okq (⟨"CopyPlatesModel", "of", "(II)I"⟩, 15) := ⟨⟨by decide +kernel, by decide +kernel⟩, List.mem_of_getElem? (i := 591) (by decide +kernel), List.mem_of_getElem? (i := 716) (by decide +kernel), List.mem_of_getElem? (i := 717) (by decide +kernel)⟩
theorem lw_p39 : lw_okq (⟨"CopyPlatesModel", "doKill", "(I)I"⟩, 15) := ⟨⟨by decide +kernel, by decide +kernel⟩, List.mem_of_getElem? (i := 591) (by decide +kernel), List.mem_of_getElem? (i := 724) (by decide +kernel), List.mem_of_getElem? (i := 725) (by decide +kernel)⟩
theorem lw_p40 : lw_okq (⟨"CopyPlatesModel", "leaves", "(I)V"⟩, 15) := ⟨⟨by decide +kernel, by decide +kernel⟩, List.mem_of_getElem? (i := 591) (by decide +kernel), List.mem_of_getElem? (i := 728) (by decide +kernel), List.mem_of_getElem? (i := 729) (by decide +kernel)⟩
theorem lw_p41 : lw_okq (⟨"CopyPlatesModel", "queueOf", "(I)I"⟩, 15) := ⟨⟨by decide +kernel, by decide +kernel⟩, List.mem_of_getElem? (i := 591) (by decide +kernel), List.mem_of_getElem? (i := 732) (by decide +kernel), List.mem_of_getElem? (i := 733) (by decide +kernel)⟩
theorem lw_p42 : lw_okq (⟨"CopyPlatesModel", "placeOf", "(I)I"⟩, 15) := ⟨⟨by decide +kernel, by decide +kernel⟩, List.mem_of_getElem? (i := 591) (by decide +kernel), List.mem_of_getElem? (i := 736) (by decide +kernel), List.mem_of_getElem? (i := 737) (by decide +kernel)⟩
theorem lw_p43 : lw_okq (⟨"CopyPlatesModel", "inQueue", "(II)I"⟩, 15) := ⟨⟨by decide +kernel, by decide +kernel⟩, List.mem_of_getElem? (i := 591) (by decide +kernel), List.mem_of_getElem? (i := 740) (by decide +kernel), List.mem_of_getElem? (i := 741) (by decide +kernel)⟩
theorem lw_p44 : lw_okq (⟨"CopyPlatesModel", "isOnLatest", "(I)Z"⟩, 15) := ⟨⟨by decide +kernel, by decide +kernel⟩, List.mem_of_getElem? (i := 591) (by decide +kernel), List.mem_of_getElem? (i := 744) (by decide +kernel), List.mem_of_getElem? (i := 745) (by decide +kernel)⟩
theorem lw_p45 : lw_okq (⟨"CopyPlatesModel", "isDueSoon", "()Z"⟩, 15) := ⟨⟨by decide +kernel, by decide +kernel⟩, List.mem_of_getElem? (i := 591) (by decide +kernel), List.mem_of_getElem? (i := 748) (by decide +kernel), List.mem_of_getElem? (i := 749) (by decide +kernel)⟩
theorem lw_p46 : lw_okq (⟨"CopyPlatesModel", "doPass", "(I)I"⟩, 15) := ⟨⟨by decide +kernel, by decide +kernel⟩, List.mem_of_getElem? (i := 591) (by decide +kernel), List.mem_of_getElem? (i := 756) (by decide +kernel), List.mem_of_getElem? (i := 757) (by decide +kernel)⟩
theorem lw_p47 : lw_okq (⟨"CopyPlatesModel", "passes", "()I"⟩, 15) := ⟨⟨by decide +kernel, by decide +kernel⟩, List.mem_of_getElem? (i := 591) (by decide +kernel), List.mem_of_getElem? (i := 760) (by decide +kernel), List.mem_of_getElem? (i := 761) (by decide +kernel)⟩
def lw_privs_3 : List (MethodName × Nat) := [(⟨"CopyPlatesModel", "doPlate", "(I)I"⟩, 15), (⟨"CopyPlatesModel", "due", "(I)I"⟩, 15), (⟨"CopyPlatesModel", "plateAt", "(II)I"⟩, 15), (⟨"CopyPlatesModel", "tells", "(II)I"⟩, 15), (⟨"CopyPlatesModel", "doHold", "(I)I"⟩, 15), (⟨"CopyPlatesModel", "isPiece", "(I)Z"⟩, 15), (⟨"CopyPlatesModel", "of", "(II)I"⟩, 15), (⟨"CopyPlatesModel", "doKill", "(I)I"⟩, 15), (⟨"CopyPlatesModel", "leaves", "(I)V"⟩, 15), (⟨"CopyPlatesModel", "queueOf", "(I)I"⟩, 15), (⟨"CopyPlatesModel", "placeOf", "(I)I"⟩, 15), (⟨"CopyPlatesModel", "inQueue", "(II)I"⟩, 15), (⟨"CopyPlatesModel", "isOnLatest", "(I)Z"⟩, 15), (⟨"CopyPlatesModel", "isDueSoon", "()Z"⟩, 15), (⟨"CopyPlatesModel", "doPass", "(I)I"⟩, 15), (⟨"CopyPlatesModel", "passes", "()I"⟩, 15)]
theorem lw_r3 : ∀ q ∈ lw_privs_3, lw_okq q := List.forall_mem_cons.mpr ⟨lw_p32, List.forall_mem_cons.mpr ⟨lw_p33, List.forall_mem_cons.mpr ⟨lw_p34, List.forall_mem_cons.mpr ⟨lw_p35, List.forall_mem_cons.mpr ⟨lw_p36, List.forall_mem_cons.mpr ⟨lw_p37, List.forall_mem_cons.mpr ⟨lw_p38, List.forall_mem_cons.mpr ⟨lw_p39, List.forall_mem_cons.mpr ⟨lw_p40, List.forall_mem_cons.mpr ⟨lw_p41, List.forall_mem_cons.mpr ⟨lw_p42, List.forall_mem_cons.mpr ⟨lw_p43, List.forall_mem_cons.mpr ⟨lw_p44, List.forall_mem_cons.mpr ⟨lw_p45, List.forall_mem_cons.mpr ⟨lw_p46, List.forall_mem_cons.mpr ⟨lw_p47, fun _ h => absurd h List.not_mem_nil⟩⟩⟩⟩⟩⟩⟩⟩⟩⟩⟩⟩⟩⟩⟩⟩
theorem lw_p48 : lw_okq (⟨"CopyPlatesModel", "works", "()V"⟩, 15) := ⟨⟨by decide +kernel, by decide +kernel⟩, List.mem_of_getElem? (i := 591) (by decide +kernel), List.mem_of_getElem? (i := 764) (by decide +kernel), List.mem_of_getElem? (i := 765) (by decide +kernel)⟩
theorem lw_p49 : lw_okq (⟨"CopyPlatesModel", "edits", "(I)V"⟩, 15) := ⟨⟨by decide +kernel, by decide +kernel⟩, List.mem_of_getElem? (i := 591) (by decide +kernel), List.mem_of_getElem? (i := 768) (by decide +kernel), List.mem_of_getElem? (i := 769) (by decide +kernel)⟩
theorem lw_p50 : lw_okq (⟨"CopyPlatesModel", "becomesReady", "(I)V"⟩, 15) := ⟨⟨by decide +kernel, by decide +kernel⟩, List.mem_of_getElem? (i := 591) (by decide +kernel), List.mem_of_getElem? (i := 772) (by decide +kernel), List.mem_of_getElem? (i := 773) (by decide +kernel)⟩
theorem lw_p51 : lw_okq (⟨"CopyPlatesModel", "reads", "()V"⟩, 15) := ⟨⟨by decide +kernel, by decide +kernel⟩, List.mem_of_getElem? (i := 591) (by decide +kernel), List.mem_of_getElem? (i := 776) (by decide +kernel), List.mem_of_getElem? (i := 777) (by decide +kernel)⟩
theorem lw_p52 : lw_okq (⟨"CopyPlatesModel", "takes", "(I)V"⟩, 15) := ⟨⟨by decide +kernel, by decide +kernel⟩, List.mem_of_getElem? (i := 591) (by decide +kernel), List.mem_of_getElem? (i := 780) (by decide +kernel), List.mem_of_getElem? (i := 781) (by decide +kernel)⟩
theorem lw_p53 : lw_okq (⟨"CopyPlatesModel", "ranked", "(I)I"⟩, 15) := ⟨⟨by decide +kernel, by decide +kernel⟩, List.mem_of_getElem? (i := 591) (by decide +kernel), List.mem_of_getElem? (i := 784) (by decide +kernel), List.mem_of_getElem? (i := 785) (by decide +kernel)⟩
theorem lw_p54 : lw_okq (⟨"CopyPlatesModel", "isFree", "(I)Z"⟩, 15) := ⟨⟨by decide +kernel, by decide +kernel⟩, List.mem_of_getElem? (i := 591) (by decide +kernel), List.mem_of_getElem? (i := 788) (by decide +kernel), List.mem_of_getElem? (i := 789) (by decide +kernel)⟩
theorem lw_p55 : lw_okq (⟨"CopyPlatesModel", "isAhead", "(II)Z"⟩, 15) := ⟨⟨by decide +kernel, by decide +kernel⟩, List.mem_of_getElem? (i := 591) (by decide +kernel), List.mem_of_getElem? (i := 792) (by decide +kernel), List.mem_of_getElem? (i := 793) (by decide +kernel)⟩
theorem lw_p56 : lw_okq (⟨"CopyPlatesModel", "platesWith", "(I)I"⟩, 15) := ⟨⟨by decide +kernel, by decide +kernel⟩, List.mem_of_getElem? (i := 591) (by decide +kernel), List.mem_of_getElem? (i := 801) (by decide +kernel), List.mem_of_getElem? (i := 802) (by decide +kernel)⟩
theorem lw_p57 : lw_okq (⟨"CopyPlatesModel", "linesOf", "(I)I"⟩, 15) := ⟨⟨by decide +kernel, by decide +kernel⟩, List.mem_of_getElem? (i := 591) (by decide +kernel), List.mem_of_getElem? (i := 810) (by decide +kernel), List.mem_of_getElem? (i := 811) (by decide +kernel)⟩
theorem lw_p58 : lw_okq (⟨"CopyPlatesModel", "manyThat", "(I)I"⟩, 15) := ⟨⟨by decide +kernel, by decide +kernel⟩, List.mem_of_getElem? (i := 591) (by decide +kernel), List.mem_of_getElem? (i := 818) (by decide +kernel), List.mem_of_getElem? (i := 819) (by decide +kernel)⟩
theorem lw_p59 : lw_okq (⟨"CopyPlatesModel", "manyHeld", "()I"⟩, 15) := ⟨⟨by decide +kernel, by decide +kernel⟩, List.mem_of_getElem? (i := 591) (by decide +kernel), List.mem_of_getElem? (i := 823) (by decide +kernel), List.mem_of_getElem? (i := 824) (by decide +kernel)⟩
theorem lw_p60 : lw_okq (⟨"CopyPlatesModel", "replates", "()I"⟩, 15) := ⟨⟨by decide +kernel, by decide +kernel⟩, List.mem_of_getElem? (i := 591) (by decide +kernel), List.mem_of_getElem? (i := 827) (by decide +kernel), List.mem_of_getElem? (i := 828) (by decide +kernel)⟩
theorem lw_p61 : lw_okq (⟨"CopyPlatesModel", "reason", "(I)I"⟩, 15) := ⟨⟨by decide +kernel, by decide +kernel⟩, List.mem_of_getElem? (i := 591) (by decide +kernel), List.mem_of_getElem? (i := 835) (by decide +kernel), List.mem_of_getElem? (i := 836) (by decide +kernel)⟩
theorem lw_p62 : lw_okq (⟨"CopyPlatesModel", "lastAhead", "(I)I"⟩, 15) := ⟨⟨by decide +kernel, by decide +kernel⟩, List.mem_of_getElem? (i := 591) (by decide +kernel), List.mem_of_getElem? (i := 839) (by decide +kernel), List.mem_of_getElem? (i := 840) (by decide +kernel)⟩
theorem lw_p63 : lw_okq (⟨"CopyPlatesModel", "comesToNext", "()Z"⟩, 15) := ⟨⟨by decide +kernel, by decide +kernel⟩, List.mem_of_getElem? (i := 591) (by decide +kernel), List.mem_of_getElem? (i := 855) (by decide +kernel), List.mem_of_getElem? (i := 856) (by decide +kernel)⟩
def lw_privs_4 : List (MethodName × Nat) := [(⟨"CopyPlatesModel", "works", "()V"⟩, 15), (⟨"CopyPlatesModel", "edits", "(I)V"⟩, 15), (⟨"CopyPlatesModel", "becomesReady", "(I)V"⟩, 15), (⟨"CopyPlatesModel", "reads", "()V"⟩, 15), (⟨"CopyPlatesModel", "takes", "(I)V"⟩, 15), (⟨"CopyPlatesModel", "ranked", "(I)I"⟩, 15), (⟨"CopyPlatesModel", "isFree", "(I)Z"⟩, 15), (⟨"CopyPlatesModel", "isAhead", "(II)Z"⟩, 15), (⟨"CopyPlatesModel", "platesWith", "(I)I"⟩, 15), (⟨"CopyPlatesModel", "linesOf", "(I)I"⟩, 15), (⟨"CopyPlatesModel", "manyThat", "(I)I"⟩, 15), (⟨"CopyPlatesModel", "manyHeld", "()I"⟩, 15), (⟨"CopyPlatesModel", "replates", "()I"⟩, 15), (⟨"CopyPlatesModel", "reason", "(I)I"⟩, 15), (⟨"CopyPlatesModel", "lastAhead", "(I)I"⟩, 15), (⟨"CopyPlatesModel", "comesToNext", "()Z"⟩, 15)]
theorem lw_r4 : ∀ q ∈ lw_privs_4, lw_okq q := List.forall_mem_cons.mpr ⟨lw_p48, List.forall_mem_cons.mpr ⟨lw_p49, List.forall_mem_cons.mpr ⟨lw_p50, List.forall_mem_cons.mpr ⟨lw_p51, List.forall_mem_cons.mpr ⟨lw_p52, List.forall_mem_cons.mpr ⟨lw_p53, List.forall_mem_cons.mpr ⟨lw_p54, List.forall_mem_cons.mpr ⟨lw_p55, List.forall_mem_cons.mpr ⟨lw_p56, List.forall_mem_cons.mpr ⟨lw_p57, List.forall_mem_cons.mpr ⟨lw_p58, List.forall_mem_cons.mpr ⟨lw_p59, List.forall_mem_cons.mpr ⟨lw_p60, List.forall_mem_cons.mpr ⟨lw_p61, List.forall_mem_cons.mpr ⟨lw_p62, List.forall_mem_cons.mpr ⟨lw_p63, fun _ h => absurd h List.not_mem_nil⟩⟩⟩⟩⟩⟩⟩⟩⟩⟩⟩⟩⟩⟩⟩⟩
theorem lw_p64 : lw_okq (⟨"CopyPlatesModel", "readsOrder", "()Z"⟩, 15) := ⟨⟨by decide +kernel, by decide +kernel⟩, List.mem_of_getElem? (i := 591) (by decide +kernel), List.mem_of_getElem? (i := 878) (by decide +kernel), List.mem_of_getElem? (i := 879) (by decide +kernel)⟩
theorem lw_p65 : lw_okq (⟨"CopyPlatesModel", "takesOne", "(I)Z"⟩, 15) := ⟨⟨by decide +kernel, by decide +kernel⟩, List.mem_of_getElem? (i := 591) (by decide +kernel), List.mem_of_getElem? (i := 882) (by decide +kernel), List.mem_of_getElem? (i := 883) (by decide +kernel)⟩
theorem lw_p66 : lw_okq (⟨"CopyPlatesModel", "isHere", "(II)Z"⟩, 15) := ⟨⟨by decide +kernel, by decide +kernel⟩, List.mem_of_getElem? (i := 591) (by decide +kernel), List.mem_of_getElem? (i := 886) (by decide +kernel), List.mem_of_getElem? (i := 887) (by decide +kernel)⟩
theorem lw_p67 : lw_okq (⟨"CopyPlatesModel", "readsPiece", "()Z"⟩, 15) := ⟨⟨by decide +kernel, by decide +kernel⟩, List.mem_of_getElem? (i := 591) (by decide +kernel), List.mem_of_getElem? (i := 890) (by decide +kernel), List.mem_of_getElem? (i := 891) (by decide +kernel)⟩
theorem lw_p68 : lw_okq (⟨"CopyPlatesModel", "readsDigit", "(I)Z"⟩, 15) := ⟨⟨by decide +kernel, by decide +kernel⟩, List.mem_of_getElem? (i := 591) (by decide +kernel), List.mem_of_getElem? (i := 894) (by decide +kernel), List.mem_of_getElem? (i := 895) (by decide +kernel)⟩
theorem lw_p69 : lw_okq (⟨"CopyPlatesModel", "readsNumber", "()Z"⟩, 15) := ⟨⟨by decide +kernel, by decide +kernel⟩, List.mem_of_getElem? (i := 591) (by decide +kernel), List.mem_of_getElem? (i := 898) (by decide +kernel), List.mem_of_getElem? (i := 899) (by decide +kernel)⟩
def lw_privs_5 : List (MethodName × Nat) := [(⟨"CopyPlatesModel", "readsOrder", "()Z"⟩, 15), (⟨"CopyPlatesModel", "takesOne", "(I)Z"⟩, 15), (⟨"CopyPlatesModel", "isHere", "(II)Z"⟩, 15), (⟨"CopyPlatesModel", "readsPiece", "()Z"⟩, 15), (⟨"CopyPlatesModel", "readsDigit", "(I)Z"⟩, 15), (⟨"CopyPlatesModel", "readsNumber", "()Z"⟩, 15)]
theorem lw_r5 : ∀ q ∈ lw_privs_5, lw_okq q := List.forall_mem_cons.mpr ⟨lw_p64, List.forall_mem_cons.mpr ⟨lw_p65, List.forall_mem_cons.mpr ⟨lw_p66, List.forall_mem_cons.mpr ⟨lw_p67, List.forall_mem_cons.mpr ⟨lw_p68, List.forall_mem_cons.mpr ⟨lw_p69, fun _ h => absurd h List.not_mem_nil⟩⟩⟩⟩⟩⟩
def lw_privs : List (MethodName × Nat) := lw_privs_1 ++ (lw_privs_2 ++ (lw_privs_3 ++ (lw_privs_4 ++ (lw_privs_5))))
def lw_tbl : List Cond := k2_sels lw_privs ++ tables_1
theorem lw_privs_ok : ∀ q ∈ lw_privs, lw_okq q := by
  show ∀ q ∈ lw_privs_1 ++ (lw_privs_2 ++ (lw_privs_3 ++ (lw_privs_4 ++ (lw_privs_5)))), lw_okq q
  exact List.forall_mem_append.mpr ⟨lw_r1, List.forall_mem_append.mpr ⟨lw_r2, List.forall_mem_append.mpr ⟨lw_r3, List.forall_mem_append.mpr ⟨lw_r4, lw_r5⟩⟩⟩⟩

def RX0 : String := "CopyPlates$History"
def TX0 : u_T := fun k => match k with
  | 0 => ("CopyPlates$History", "states", "[LCopyPlates$Night;", true)
  | 1 => ("CopyPlates$History", "next", "I", false)
  | _ => ("CopyPlates$History", "changes", "I", false)
def tyX0 : Nat → FieldType := fun k => match k with
  | 0 => .array (.object "CopyPlates$Night")
  | 1 => .int
  | _ => .int
abbrev wsX00 : List Cond := u_ws RX0 TX0 3
theorem nmX0 : ∀ a, a < 3 → ∀ b, b < 3 → a ≠ b → (TX0 a).2.1 ≠ (TX0 b).2.1 := by decide +kernel
theorem tyX0_ok : ∀ k, k < 3 → parseFieldDescriptor (TX0 k).2.2.1 = some (tyX0 k) := by decide +kernel
abbrev cX0_init : ByteArray := prog_2_method_1_code
def yX0_init : MethodName := ⟨RX0, "<init>", "()V"⟩
abbrev cX0_prepare : ByteArray := prog_2_method_2_code
def yX0_prepare : MethodName := ⟨RX0, "prepare", "(LCopyPlates$Night;)V"⟩
abbrev cX0_recordUnlessError : ByteArray := prog_2_method_3_code
def yX0_recordUnlessError : MethodName := ⟨RX0, "recordUnlessError", "(I)I"⟩
abbrev cX0_takeBack : ByteArray := prog_2_method_4_code
def yX0_takeBack : MethodName := ⟨RX0, "takeBack", "(LCopyPlates$Night;)V"⟩
def RX1 : String := "CopyPlates$Night"
def TX1 : u_T := fun k => match k with
  | 0 => ("CopyPlates$Night", "settings", "[I", true)
  | 1 => ("CopyPlates$Night", "minute", "I", false)
  | 2 => ("CopyPlates$Night", "pieces", "[LCopyPlates$Piece;", true)
  | 3 => ("CopyPlates$Night", "pieceCount", "I", false)
  | 4 => ("CopyPlates$Night", "plates", "[LCopyPlates$Plate;", true)
  | _ => ("CopyPlates$Night", "plateCount", "I", false)
def tyX1 : Nat → FieldType := fun k => match k with
  | 0 => .array .int
  | 1 => .int
  | 2 => .array (.object "CopyPlates$Piece")
  | 3 => .int
  | 4 => .array (.object "CopyPlates$Plate")
  | _ => .int
abbrev wsX10 : List Cond := u_ws RX1 TX1 6
theorem nmX1 : ∀ a, a < 6 → ∀ b, b < 6 → a ≠ b → (TX1 a).2.1 ≠ (TX1 b).2.1 := by decide +kernel
theorem tyX1_ok : ∀ k, k < 6 → parseFieldDescriptor (TX1 k).2.2.1 = some (tyX1 k) := by decide +kernel
abbrev cX1_init : ByteArray := prog_3_method_1_code
def yX1_init : MethodName := ⟨RX1, "<init>", "()V"⟩
abbrev cX1_copyFrom : ByteArray := prog_3_method_2_code
def yX1_copyFrom : MethodName := ⟨RX1, "copyFrom", "(LCopyPlates$Night;)V"⟩
abbrev cX1_hasPiece : ByteArray := prog_3_method_3_code
def yX1_hasPiece : MethodName := ⟨RX1, "hasPiece", "(I)Z"⟩
abbrev cX1_isPiece : ByteArray := prog_3_method_4_code
def yX1_isPiece : MethodName := ⟨RX1, "isPiece", "(II)Z"⟩
abbrev cX1_changeSetting : ByteArray := prog_3_method_5_code
def yX1_changeSetting : MethodName := ⟨RX1, "changeSetting", "(II)I"⟩
abbrev cX1_addPiece : ByteArray := prog_3_method_6_code
def yX1_addPiece : MethodName := ⟨RX1, "addPiece", "(IIII)I"⟩
abbrev cX1_addPlate : ByteArray := prog_3_method_7_code
def yX1_addPlate : MethodName := ⟨RX1, "addPlate", "(I)I"⟩
abbrev cX1_turnHold : ByteArray := prog_3_method_8_code
def yX1_turnHold : MethodName := ⟨RX1, "turnHold", "(I)I"⟩
abbrev cX1_killPiece : ByteArray := prog_3_method_9_code
def yX1_killPiece : MethodName := ⟨RX1, "killPiece", "(I)I"⟩
abbrev cX1_passMinutes : ByteArray := prog_3_method_10_code
def yX1_passMinutes : MethodName := ⟨RX1, "passMinutes", "(I)I"⟩
abbrev cX1_passMinute : ByteArray := prog_3_method_11_code
def yX1_passMinute : MethodName := ⟨RX1, "passMinute", "()Z"⟩
abbrev cX1_editAtDesks : ByteArray := prog_3_method_12_code
def yX1_editAtDesks : MethodName := ⟨RX1, "editAtDesks", "()V"⟩
abbrev cX1_readAtLawyer : ByteArray := prog_3_method_13_code
def yX1_readAtLawyer : MethodName := ⟨RX1, "readAtLawyer", "()V"⟩
abbrev cX1_firstAtDesk : ByteArray := prog_3_method_14_code
def yX1_firstAtDesk : MethodName := ⟨RX1, "firstAtDesk", "(I)I"⟩
abbrev cX1_firstAtLawyer : ByteArray := prog_3_method_15_code
def yX1_firstAtLawyer : MethodName := ⟨RX1, "firstAtLawyer", "()I"⟩
abbrev cX1_placeInQueue : ByteArray := prog_3_method_16_code
def yX1_placeInQueue : MethodName := ⟨RX1, "placeInQueue", "(I)I"⟩
abbrev cX1_placeAtDesk : ByteArray := prog_3_method_17_code
def yX1_placeAtDesk : MethodName := ⟨RX1, "placeAtDesk", "(I)I"⟩
abbrev cX1_placeAtLawyer : ByteArray := prog_3_method_18_code
def yX1_placeAtLawyer : MethodName := ⟨RX1, "placeAtLawyer", "(I)I"⟩
abbrev cX1_piecesForPlate : ByteArray := prog_3_method_19_code
def yX1_piecesForPlate : MethodName := ⟨RX1, "piecesForPlate", "()I"⟩
abbrev cX1_linesOf : ByteArray := prog_3_method_20_code
def yX1_linesOf : MethodName := ⟨RX1, "linesOf", "(I)I"⟩
abbrev cX1_takenNow : ByteArray := prog_3_method_21_code
def yX1_takenNow : MethodName := ⟨RX1, "takenNow", "()I"⟩
abbrev cX1_firstByRank : ByteArray := prog_3_method_22_code
def yX1_firstByRank : MethodName := ⟨RX1, "firstByRank", "(I)I"⟩
abbrev cX1_lastTakenAheadOf : ByteArray := prog_3_method_23_code
def yX1_lastTakenAheadOf : MethodName := ⟨RX1, "lastTakenAheadOf", "(I)I"⟩
abbrev cX1_goesAhead : ByteArray := prog_3_method_24_code
def yX1_goesAhead : MethodName := ⟨RX1, "goesAhead", "(II)Z"⟩
abbrev cX1_whyNotOnPlate : ByteArray := prog_3_method_25_code
def yX1_whyNotOnPlate : MethodName := ⟨RX1, "whyNotOnPlate", "(II)I"⟩
abbrev cX1_reasonOf : ByteArray := prog_3_method_26_code
def yX1_reasonOf : MethodName := ⟨RX1, "reasonOf", "(I)I"⟩
abbrev cX1_causeOf : ByteArray := prog_3_method_27_code
def yX1_causeOf : MethodName := ⟨RX1, "causeOf", "(I)I"⟩
abbrev cX1_isMade : ByteArray := prog_3_method_28_code
def yX1_isMade : MethodName := ⟨RX1, "isMade", "(I)Z"⟩
abbrev cX1_nextDue : ByteArray := prog_3_method_29_code
def yX1_nextDue : MethodName := ⟨RX1, "nextDue", "()I"⟩
abbrev cX1_minutesToPlate : ByteArray := prog_3_method_30_code
def yX1_minutesToPlate : MethodName := ⟨RX1, "minutesToPlate", "(I)I"⟩
abbrev cX1_madePlates : ByteArray := prog_3_method_31_code
def yX1_madePlates : MethodName := ⟨RX1, "madePlates", "()I"⟩
abbrev cX1_plateAt : ByteArray := prog_3_method_32_code
def yX1_plateAt : MethodName := ⟨RX1, "plateAt", "(I)I"⟩
abbrev cX1_isOnLatestMade : ByteArray := prog_3_method_33_code
def yX1_isOnLatestMade : MethodName := ⟨RX1, "isOnLatestMade", "(I)Z"⟩
abbrev cX1_tellReplate : ByteArray := prog_3_method_34_code
def yX1_tellReplate : MethodName := ⟨RX1, "tellReplate", "()Z"⟩
abbrev cX1_insertPlate : ByteArray := prog_3_method_35_code
def yX1_insertPlate : MethodName := ⟨RX1, "insertPlate", "(IZ)I"⟩
abbrev cX1_factOfPiece : ByteArray := prog_3_method_36_code
def yX1_factOfPiece : MethodName := ⟨RX1, "factOfPiece", "(II)I"⟩
abbrev cX1_platesWith : ByteArray := prog_3_method_37_code
def yX1_platesWith : MethodName := ⟨RX1, "platesWith", "(I)I"⟩
abbrev cX1_factOfPlate : ByteArray := prog_3_method_38_code
def yX1_factOfPlate : MethodName := ⟨RX1, "factOfPlate", "(II)I"⟩
abbrev cX1_factOfNight : ByteArray := prog_3_method_39_code
def yX1_factOfNight : MethodName := ⟨RX1, "factOfNight", "(I)I"⟩
abbrev cX1_piecesThatAre : ByteArray := prog_3_method_40_code
def yX1_piecesThatAre : MethodName := ⟨RX1, "piecesThatAre", "(I)I"⟩
abbrev cX1_heldPieces : ByteArray := prog_3_method_41_code
def yX1_heldPieces : MethodName := ⟨RX1, "heldPieces", "()I"⟩
abbrev cX1_replates : ByteArray := prog_3_method_42_code
def yX1_replates : MethodName := ⟨RX1, "replates", "()I"⟩
def RX2 : String := "CopyPlates$OrderReader"
def TX2 : u_T := fun k => match k with
  | 0 => ("CopyPlates$OrderReader", "pad", "LCopyPlates$Pad;", true)
  | 1 => ("CopyPlates$OrderReader", "place", "I", false)
  | 2 => ("CopyPlates$OrderReader", "kind", "C", false)
  | 3 => ("CopyPlates$OrderReader", "number", "I", false)
  | 4 => ("CopyPlates$OrderReader", "desk", "I", false)
  | 5 => ("CopyPlates$OrderReader", "rank", "I", false)
  | _ => ("CopyPlates$OrderReader", "legal", "I", false)
def tyX2 : Nat → FieldType := fun k => match k with
  | 0 => .object "CopyPlates$Pad"
  | 1 => .int
  | 2 => .char
  | 3 => .int
  | 4 => .int
  | 5 => .int
  | _ => .int
abbrev wsX20 : List Cond := u_ws RX2 TX2 7
theorem nmX2 : ∀ a, a < 7 → ∀ b, b < 7 → a ≠ b → (TX2 a).2.1 ≠ (TX2 b).2.1 := by decide +kernel
theorem tyX2_ok : ∀ k, k < 7 → parseFieldDescriptor (TX2 k).2.2.1 = some (tyX2 k) := by decide +kernel
abbrev cX2_init : ByteArray := prog_4_method_1_code
def yX2_init : MethodName := ⟨RX2, "<init>", "(LCopyPlates$Pad;)V"⟩
abbrev cX2_goToStart : ByteArray := prog_4_method_2_code
def yX2_goToStart : MethodName := ⟨RX2, "goToStart", "()V"⟩
abbrev cX2_findFault : ByteArray := prog_4_method_3_code
def yX2_findFault : MethodName := ⟨RX2, "findFault", "()I"⟩
abbrev cX2_readOrder : ByteArray := prog_4_method_4_code
def yX2_readOrder : MethodName := ⟨RX2, "readOrder", "()Z"⟩
abbrev cX2_readPiece : ByteArray := prog_4_method_5_code
def yX2_readPiece : MethodName := ⟨RX2, "readPiece", "()Z"⟩
abbrev cX2_readNumber : ByteArray := prog_4_method_6_code
def yX2_readNumber : MethodName := ⟨RX2, "readNumber", "()Z"⟩
abbrev cX2_readSign : ByteArray := prog_4_method_7_code
def yX2_readSign : MethodName := ⟨RX2, "readSign", "(C)Z"⟩
abbrev cX2_digitHere : ByteArray := prog_4_method_8_code
def yX2_digitHere : MethodName := ⟨RX2, "digitHere", "()I"⟩
def RX3 : String := "CopyPlates$Pad"
def TX3 : u_T := fun k => match k with
  | 0 => ("CopyPlates$Pad", "characters", "[C", true)
  | _ => ("CopyPlates$Pad", "length", "I", false)
def tyX3 : Nat → FieldType := fun k => match k with
  | 0 => .array .char
  | _ => .int
abbrev wsX30 : List Cond := u_ws RX3 TX3 2
theorem nmX3 : ∀ a, a < 2 → ∀ b, b < 2 → a ≠ b → (TX3 a).2.1 ≠ (TX3 b).2.1 := by decide +kernel
theorem tyX3_ok : ∀ k, k < 2 → parseFieldDescriptor (TX3 k).2.2.1 = some (tyX3 k) := by decide +kernel
abbrev cX3_init : ByteArray := prog_5_method_1_code
def yX3_init : MethodName := ⟨RX3, "<init>", "()V"⟩
abbrev cX3_append : ByteArray := prog_5_method_2_code
def yX3_append : MethodName := ⟨RX3, "append", "(J)I"⟩
abbrev cX3_charactersIn : ByteArray := prog_5_method_3_code
def yX3_charactersIn : MethodName := ⟨RX3, "charactersIn", "(J)I"⟩
abbrev cX3_empty : ByteArray := prog_5_method_4_code
def yX3_empty : MethodName := ⟨RX3, "empty", "()I"⟩
abbrev cX3_characterAt : ByteArray := prog_5_method_5_code
def yX3_characterAt : MethodName := ⟨RX3, "characterAt", "(I)C"⟩
def RX4 : String := "CopyPlates$Piece"
def TX4 : u_T := fun k => match k with
  | 0 => ("CopyPlates$Piece", "desk", "I", false)
  | 1 => ("CopyPlates$Piece", "lines", "I", false)
  | 2 => ("CopyPlates$Piece", "rank", "I", false)
  | 3 => ("CopyPlates$Piece", "legal", "Z", false)
  | 4 => ("CopyPlates$Piece", "state", "I", false)
  | 5 => ("CopyPlates$Piece", "held", "Z", false)
  | 6 => ("CopyPlates$Piece", "edited", "I", false)
  | 7 => ("CopyPlates$Piece", "read", "I", false)
  | 8 => ("CopyPlates$Piece", "readyMinute", "I", false)
  | _ => ("CopyPlates$Piece", "lawyerTurn", "I", false)
def tyX4 : Nat → FieldType := fun k => match k with
  | 0 => .int
  | 1 => .int
  | 2 => .int
  | 3 => .boolean
  | 4 => .int
  | 5 => .boolean
  | 6 => .int
  | 7 => .int
  | 8 => .int
  | _ => .int
abbrev wsX40 : List Cond := u_ws RX4 TX4 10
theorem nmX4 : ∀ a, a < 10 → ∀ b, b < 10 → a ≠ b → (TX4 a).2.1 ≠ (TX4 b).2.1 := by decide +kernel
theorem tyX4_ok : ∀ k, k < 10 → parseFieldDescriptor (TX4 k).2.2.1 = some (tyX4 k) := by decide +kernel
abbrev cX4_init : ByteArray := prog_6_method_1_code
def yX4_init : MethodName := ⟨RX4, "<init>", "()V"⟩
abbrev cX4_come : ByteArray := prog_6_method_2_code
def yX4_come : MethodName := ⟨RX4, "come", "(IIIZ)V"⟩
abbrev cX4_copyFrom : ByteArray := prog_6_method_3_code
def yX4_copyFrom : MethodName := ⟨RX4, "copyFrom", "(LCopyPlates$Piece;)V"⟩
abbrev cX4_editFor : ByteArray := prog_6_method_4_code
def yX4_editFor : MethodName := ⟨RX4, "editFor", "(II)V"⟩
abbrev cX4_readOneMinute : ByteArray := prog_6_method_5_code
def yX4_readOneMinute : MethodName := ⟨RX4, "readOneMinute", "(II)V"⟩
abbrev cX4_becomeReady : ByteArray := prog_6_method_6_code
def yX4_becomeReady : MethodName := ⟨RX4, "becomeReady", "(I)V"⟩
abbrev cX4_isForPlate : ByteArray := prog_6_method_7_code
def yX4_isForPlate : MethodName := ⟨RX4, "isForPlate", "()Z"⟩
def RX5 : String := "CopyPlates$Plate"
def TX5 : u_T := fun k => match k with
  | 0 => ("CopyPlates$Plate", "minute", "I", false)
  | 1 => ("CopyPlates$Plate", "replate", "Z", false)
  | _ => ("CopyPlates$Plate", "pieces", "I", false)
def tyX5 : Nat → FieldType := fun k => match k with
  | 0 => .int
  | 1 => .boolean
  | _ => .int
abbrev wsX50 : List Cond := u_ws RX5 TX5 3
theorem nmX5 : ∀ a, a < 3 → ∀ b, b < 3 → a ≠ b → (TX5 a).2.1 ≠ (TX5 b).2.1 := by decide +kernel
theorem tyX5_ok : ∀ k, k < 3 → parseFieldDescriptor (TX5 k).2.2.1 = some (tyX5 k) := by decide +kernel
abbrev cX5_init : ByteArray := prog_7_method_1_code
def yX5_init : MethodName := ⟨RX5, "<init>", "()V"⟩
abbrev cX5_tell : ByteArray := prog_7_method_2_code
def yX5_tell : MethodName := ⟨RX5, "tell", "(IZ)V"⟩
abbrev cX5_copyFrom : ByteArray := prog_7_method_3_code
def yX5_copyFrom : MethodName := ⟨RX5, "copyFrom", "(LCopyPlates$Plate;)V"⟩
def RX6 : String := "CopyPlates"
def TX6 : u_T := fun k => match k with
  | 0 => ("CopyPlates", "night", "LCopyPlates$Night;", true)
  | 1 => ("CopyPlates", "ahead", "LCopyPlates$Night;", true)
  | 2 => ("CopyPlates", "history", "LCopyPlates$History;", true)
  | 3 => ("CopyPlates", "slots", "[LCopyPlates$Night;", true)
  | 4 => ("CopyPlates", "pad", "LCopyPlates$Pad;", true)
  | _ => ("CopyPlates", "reader", "LCopyPlates$OrderReader;", true)
def tyX6 : Nat → FieldType := fun k => match k with
  | 0 => .object "CopyPlates$Night"
  | 1 => .object "CopyPlates$Night"
  | 2 => .object "CopyPlates$History"
  | 3 => .array (.object "CopyPlates$Night")
  | 4 => .object "CopyPlates$Pad"
  | _ => .object "CopyPlates$OrderReader"
abbrev wsX60 : List Cond := u_ws RX6 TX6 6
theorem nmX6 : ∀ a, a < 6 → ∀ b, b < 6 → a ≠ b → (TX6 a).2.1 ≠ (TX6 b).2.1 := by decide +kernel
theorem tyX6_ok : ∀ k, k < 6 → parseFieldDescriptor (TX6 k).2.2.1 = some (tyX6 k) := by decide +kernel
abbrev cX6_init : ByteArray := prog_1_method_1_code
def yX6_init : MethodName := ⟨RX6, "<init>", "()V"⟩
abbrev cX6_set : ByteArray := prog_1_method_2_code
def yX6_set : MethodName := ⟨RX6, "set", "(II)I"⟩
abbrev cX6_piece : ByteArray := prog_1_method_3_code
def yX6_piece : MethodName := ⟨RX6, "piece", "(IIII)I"⟩
abbrev cX6_plate : ByteArray := prog_1_method_4_code
def yX6_plate : MethodName := ⟨RX6, "plate", "(I)I"⟩
abbrev cX6_hold : ByteArray := prog_1_method_5_code
def yX6_hold : MethodName := ⟨RX6, "hold", "(I)I"⟩
abbrev cX6_kill : ByteArray := prog_1_method_6_code
def yX6_kill : MethodName := ⟨RX6, "kill", "(I)I"⟩
abbrev cX6_pass : ByteArray := prog_1_method_7_code
def yX6_pass : MethodName := ⟨RX6, "pass", "(I)I"⟩
abbrev cX6_ofPiece : ByteArray := prog_1_method_8_code
def yX6_ofPiece : MethodName := ⟨RX6, "ofPiece", "(II)I"⟩
abbrev cX6_ofPlate : ByteArray := prog_1_method_9_code
def yX6_ofPlate : MethodName := ⟨RX6, "ofPlate", "(II)I"⟩
abbrev cX6_count : ByteArray := prog_1_method_10_code
def yX6_count : MethodName := ⟨RX6, "count", "(I)I"⟩
abbrev cX6_why : ByteArray := prog_1_method_11_code
def yX6_why : MethodName := ⟨RX6, "why", "(II)I"⟩
abbrev cX6_plateNow : ByteArray := prog_1_method_12_code
def yX6_plateNow : MethodName := ⟨RX6, "plateNow", "()I"⟩
abbrev cX6_readyIn : ByteArray := prog_1_method_13_code
def yX6_readyIn : MethodName := ⟨RX6, "readyIn", "(I)I"⟩
abbrev cX6_leastRoom : ByteArray := prog_1_method_14_code
def yX6_leastRoom : MethodName := ⟨RX6, "leastRoom", "()I"⟩
abbrev cX6_nextPlate : ByteArray := prog_1_method_15_code
def yX6_nextPlate : MethodName := ⟨RX6, "nextPlate", "()I"⟩
abbrev cX6_goAheadToPlate : ByteArray := prog_1_method_16_code
def yX6_goAheadToPlate : MethodName := ⟨RX6, "goAheadToPlate", "(I)V"⟩
abbrev cX6_put : ByteArray := prog_1_method_17_code
def yX6_put : MethodName := ⟨RX6, "put", "(J)I"⟩
abbrev cX6_wipe : ByteArray := prog_1_method_18_code
def yX6_wipe : MethodName := ⟨RX6, "wipe", "()I"⟩
abbrev cX6_fault : ByteArray := prog_1_method_19_code
def yX6_fault : MethodName := ⟨RX6, "fault", "()I"⟩
abbrev cX6_carryOut : ByteArray := prog_1_method_20_code
def yX6_carryOut : MethodName := ⟨RX6, "carryOut", "()I"⟩
abbrev cX6_carryOrderOut : ByteArray := prog_1_method_21_code
def yX6_carryOrderOut : MethodName := ⟨RX6, "carryOrderOut", "()I"⟩
abbrev cX6_undo : ByteArray := prog_1_method_22_code
def yX6_undo : MethodName := ⟨RX6, "undo", "()I"⟩
abbrev cX6_save : ByteArray := prog_1_method_23_code
def yX6_save : MethodName := ⟨RX6, "save", "(I)I"⟩
abbrev cX6_restore : ByteArray := prog_1_method_24_code
def yX6_restore : MethodName := ⟨RX6, "restore", "(I)I"⟩
abbrev cX6_isInSet : ByteArray := prog_1_method_25_code
def yX6_isInSet : MethodName := ⟨RX6, "isInSet", "(II)Z"⟩
abbrev cX6_oneIf : ByteArray := prog_1_method_26_code
def yX6_oneIf : MethodName := ⟨RX6, "oneIf", "(Z)I"⟩
def RX7 : String := "CopyPlatesModel"
def TX7 : u_T := fun k => match k with
  | 0 => ("CopyPlatesModel", "all", "[I", true)
  | 1 => ("CopyPlatesModel", "kept", "[I", true)
  | 2 => ("CopyPlatesModel", "tried", "[I", true)
  | 3 => ("CopyPlatesModel", "history", "[I", true)
  | 4 => ("CopyPlatesModel", "historyLong", "I", false)
  | 5 => ("CopyPlatesModel", "slots", "[I", true)
  | 6 => ("CopyPlatesModel", "isSaved", "[I", true)
  | 7 => ("CopyPlatesModel", "taken", "I", false)
  | 8 => ("CopyPlatesModel", "takenLines", "I", false)
  | 9 => ("CopyPlatesModel", "pad", "[I", true)
  | 10 => ("CopyPlatesModel", "padLong", "I", false)
  | 11 => ("CopyPlatesModel", "spot", "I", false)
  | 12 => ("CopyPlatesModel", "isDone", "Z", false)
  | 13 => ("CopyPlatesModel", "told", "I", false)
  | _ => ("CopyPlatesModel", "number", "I", false)
def tyX7 : Nat → FieldType := fun k => match k with
  | 0 => .array .int
  | 1 => .array .int
  | 2 => .array .int
  | 3 => .array .int
  | 4 => .int
  | 5 => .array .int
  | 6 => .array .int
  | 7 => .int
  | 8 => .int
  | 9 => .array .int
  | 10 => .int
  | 11 => .int
  | 12 => .boolean
  | 13 => .int
  | _ => .int
abbrev wsX70 : List Cond := u_ws RX7 TX7 15
theorem nmX7 : ∀ a, a < 15 → ∀ b, b < 15 → a ≠ b → (TX7 a).2.1 ≠ (TX7 b).2.1 := by decide +kernel
theorem tyX7_ok : ∀ k, k < 15 → parseFieldDescriptor (TX7 k).2.2.1 = some (tyX7 k) := by decide +kernel
abbrev cX7_init : ByteArray := prog_9_method_1_code
def yX7_init : MethodName := ⟨RX7, "<init>", "()V"⟩
abbrev cX7_in : ByteArray := prog_9_method_3_code
def yX7_in : MethodName := ⟨RX7, "in", "(JJJ)Z"⟩
abbrev cX7_copy : ByteArray := prog_9_method_4_code
def yX7_copy : MethodName := ⟨RX7, "copy", "([I[I)V"⟩
abbrev cX7_ends : ByteArray := prog_9_method_5_code
def yX7_ends : MethodName := ⟨RX7, "ends", "(I)I"⟩
abbrev cX7_isPiece : ByteArray := prog_9_method_6_code
def yX7_isPiece : MethodName := ⟨RX7, "isPiece", "(I)Z"⟩
abbrev cX7_of : ByteArray := prog_9_method_7_code
def yX7_of : MethodName := ⟨RX7, "of", "(II)I"⟩
abbrev cX7_sets : ByteArray := prog_9_method_8_code
def yX7_sets : MethodName := ⟨RX7, "sets", "(III)V"⟩
abbrev cX7_inQueue : ByteArray := prog_9_method_9_code
def yX7_inQueue : MethodName := ⟨RX7, "inQueue", "(II)I"⟩
abbrev cX7_queueOf : ByteArray := prog_9_method_10_code
def yX7_queueOf : MethodName := ⟨RX7, "queueOf", "(I)I"⟩
abbrev cX7_placeOf : ByteArray := prog_9_method_11_code
def yX7_placeOf : MethodName := ⟨RX7, "placeOf", "(I)I"⟩
abbrev cX7_comesTo : ByteArray := prog_9_method_12_code
def yX7_comesTo : MethodName := ⟨RX7, "comesTo", "(II)V"⟩
abbrev cX7_leaves : ByteArray := prog_9_method_13_code
def yX7_leaves : MethodName := ⟨RX7, "leaves", "(I)V"⟩
abbrev cX7_becomesReady : ByteArray := prog_9_method_14_code
def yX7_becomesReady : MethodName := ⟨RX7, "becomesReady", "(I)V"⟩
abbrev cX7_edits : ByteArray := prog_9_method_15_code
def yX7_edits : MethodName := ⟨RX7, "edits", "(I)V"⟩
abbrev cX7_reads : ByteArray := prog_9_method_16_code
def yX7_reads : MethodName := ⟨RX7, "reads", "()V"⟩
abbrev cX7_isFree : ByteArray := prog_9_method_17_code
def yX7_isFree : MethodName := ⟨RX7, "isFree", "(I)Z"⟩
abbrev cX7_isAhead : ByteArray := prog_9_method_18_code
def yX7_isAhead : MethodName := ⟨RX7, "isAhead", "(II)Z"⟩
abbrev cX7_ranked : ByteArray := prog_9_method_19_code
def yX7_ranked : MethodName := ⟨RX7, "ranked", "(I)I"⟩
abbrev cX7_takes : ByteArray := prog_9_method_20_code
def yX7_takes : MethodName := ⟨RX7, "takes", "(I)V"⟩
abbrev cX7_plateAt : ByteArray := prog_9_method_21_code
def yX7_plateAt : MethodName := ⟨RX7, "plateAt", "(II)I"⟩
abbrev cX7_due : ByteArray := prog_9_method_22_code
def yX7_due : MethodName := ⟨RX7, "due", "(I)I"⟩
abbrev cX7_works : ByteArray := prog_9_method_23_code
def yX7_works : MethodName := ⟨RX7, "works", "()V"⟩
abbrev cX7_passes : ByteArray := prog_9_method_24_code
def yX7_passes : MethodName := ⟨RX7, "passes", "()I"⟩
abbrev cX7_doPiece : ByteArray := prog_9_method_25_code
def yX7_doPiece : MethodName := ⟨RX7, "doPiece", "(IIII)I"⟩
abbrev cX7_tells : ByteArray := prog_9_method_26_code
def yX7_tells : MethodName := ⟨RX7, "tells", "(II)I"⟩
abbrev cX7_doPlate : ByteArray := prog_9_method_27_code
def yX7_doPlate : MethodName := ⟨RX7, "doPlate", "(I)I"⟩
abbrev cX7_doHold : ByteArray := prog_9_method_28_code
def yX7_doHold : MethodName := ⟨RX7, "doHold", "(I)I"⟩
abbrev cX7_isOnLatest : ByteArray := prog_9_method_29_code
def yX7_isOnLatest : MethodName := ⟨RX7, "isOnLatest", "(I)Z"⟩
abbrev cX7_isDueSoon : ByteArray := prog_9_method_30_code
def yX7_isDueSoon : MethodName := ⟨RX7, "isDueSoon", "()Z"⟩
abbrev cX7_doKill : ByteArray := prog_9_method_31_code
def yX7_doKill : MethodName := ⟨RX7, "doKill", "(I)I"⟩
abbrev cX7_doPass : ByteArray := prog_9_method_32_code
def yX7_doPass : MethodName := ⟨RX7, "doPass", "(I)I"⟩
abbrev cX7_isSetting : ByteArray := prog_9_method_33_code
def yX7_isSetting : MethodName := ⟨RX7, "isSetting", "(II)Z"⟩
abbrev cX7_set : ByteArray := prog_9_method_34_code
def yX7_set : MethodName := ⟨RX7, "set", "(II)I"⟩
abbrev cX7_piece : ByteArray := prog_9_method_35_code
def yX7_piece : MethodName := ⟨RX7, "piece", "(IIII)I"⟩
abbrev cX7_plate : ByteArray := prog_9_method_36_code
def yX7_plate : MethodName := ⟨RX7, "plate", "(I)I"⟩
abbrev cX7_hold : ByteArray := prog_9_method_37_code
def yX7_hold : MethodName := ⟨RX7, "hold", "(I)I"⟩
abbrev cX7_kill : ByteArray := prog_9_method_38_code
def yX7_kill : MethodName := ⟨RX7, "kill", "(I)I"⟩
abbrev cX7_pass : ByteArray := prog_9_method_39_code
def yX7_pass : MethodName := ⟨RX7, "pass", "(I)I"⟩
abbrev cX7_platesWith : ByteArray := prog_9_method_40_code
def yX7_platesWith : MethodName := ⟨RX7, "platesWith", "(I)I"⟩
abbrev cX7_ofPiece : ByteArray := prog_9_method_41_code
def yX7_ofPiece : MethodName := ⟨RX7, "ofPiece", "(II)I"⟩
abbrev cX7_linesOf : ByteArray := prog_9_method_42_code
def yX7_linesOf : MethodName := ⟨RX7, "linesOf", "(I)I"⟩
abbrev cX7_ofPlate : ByteArray := prog_9_method_43_code
def yX7_ofPlate : MethodName := ⟨RX7, "ofPlate", "(II)I"⟩
abbrev cX7_manyThat : ByteArray := prog_9_method_44_code
def yX7_manyThat : MethodName := ⟨RX7, "manyThat", "(I)I"⟩
abbrev cX7_manyHeld : ByteArray := prog_9_method_45_code
def yX7_manyHeld : MethodName := ⟨RX7, "manyHeld", "()I"⟩
abbrev cX7_replates : ByteArray := prog_9_method_46_code
def yX7_replates : MethodName := ⟨RX7, "replates", "()I"⟩
abbrev cX7_count : ByteArray := prog_9_method_47_code
def yX7_count : MethodName := ⟨RX7, "count", "(I)I"⟩
abbrev cX7_lastAhead : ByteArray := prog_9_method_48_code
def yX7_lastAhead : MethodName := ⟨RX7, "lastAhead", "(I)I"⟩
abbrev cX7_reason : ByteArray := prog_9_method_49_code
def yX7_reason : MethodName := ⟨RX7, "reason", "(I)I"⟩
abbrev cX7_why : ByteArray := prog_9_method_50_code
def yX7_why : MethodName := ⟨RX7, "why", "(II)I"⟩
abbrev cX7_plateNow : ByteArray := prog_9_method_51_code
def yX7_plateNow : MethodName := ⟨RX7, "plateNow", "()I"⟩
abbrev cX7_readyIn : ByteArray := prog_9_method_52_code
def yX7_readyIn : MethodName := ⟨RX7, "readyIn", "(I)I"⟩
abbrev cX7_comesToNext : ByteArray := prog_9_method_53_code
def yX7_comesToNext : MethodName := ⟨RX7, "comesToNext", "()Z"⟩
abbrev cX7_leastRoom : ByteArray := prog_9_method_54_code
def yX7_leastRoom : MethodName := ⟨RX7, "leastRoom", "()I"⟩
abbrev cX7_nextPlate : ByteArray := prog_9_method_55_code
def yX7_nextPlate : MethodName := ⟨RX7, "nextPlate", "()I"⟩
abbrev cX7_put : ByteArray := prog_9_method_56_code
def yX7_put : MethodName := ⟨RX7, "put", "(J)I"⟩
abbrev cX7_wipe : ByteArray := prog_9_method_57_code
def yX7_wipe : MethodName := ⟨RX7, "wipe", "()I"⟩
abbrev cX7_isHere : ByteArray := prog_9_method_58_code
def yX7_isHere : MethodName := ⟨RX7, "isHere", "(II)Z"⟩
abbrev cX7_takesOne : ByteArray := prog_9_method_59_code
def yX7_takesOne : MethodName := ⟨RX7, "takesOne", "(I)Z"⟩
abbrev cX7_readsDigit : ByteArray := prog_9_method_60_code
def yX7_readsDigit : MethodName := ⟨RX7, "readsDigit", "(I)Z"⟩
abbrev cX7_readsNumber : ByteArray := prog_9_method_61_code
def yX7_readsNumber : MethodName := ⟨RX7, "readsNumber", "()Z"⟩
abbrev cX7_readsPiece : ByteArray := prog_9_method_62_code
def yX7_readsPiece : MethodName := ⟨RX7, "readsPiece", "()Z"⟩
abbrev cX7_readsOrder : ByteArray := prog_9_method_63_code
def yX7_readsOrder : MethodName := ⟨RX7, "readsOrder", "()Z"⟩
abbrev cX7_fault : ByteArray := prog_9_method_64_code
def yX7_fault : MethodName := ⟨RX7, "fault", "()I"⟩
abbrev cX7_carryOut : ByteArray := prog_9_method_65_code
def yX7_carryOut : MethodName := ⟨RX7, "carryOut", "()I"⟩
abbrev cX7_undo : ByteArray := prog_9_method_66_code
def yX7_undo : MethodName := ⟨RX7, "undo", "()I"⟩
abbrev cX7_save : ByteArray := prog_9_method_67_code
def yX7_save : MethodName := ⟨RX7, "save", "(I)I"⟩
abbrev cX7_restore : ByteArray := prog_9_method_68_code
def yX7_restore : MethodName := ⟨RX7, "restore", "(I)I"⟩
def RL : String := "CopyPlatesLaw"
abbrev cL_law : ByteArray := code
def yL_law : MethodName := ⟨RL, "law", "([I)Z"⟩
abbrev vwCl : List vw_C := [(RX0, TX0, 3), (RX1, TX1, 6), (RX2, TX2, 7), (RX3, TX3, 2), (RX4, TX4, 10), (RX5, TX5, 3), (RX6, TX6, 6), (RX7, TX7, 15)]
end
section
/-! CORE: one memory of numbers and one of references for all cells that the law makes; a judgement cp_G at a frame over them; rows for the instructions -/
abbrev cp_Mem : Type := Nat → Nat → Int32
abbrev cp_Rem : Type := Nat → Nat → Option Nat
abbrev cp_Shp : Type := Nat → Nat × Nat
/-- the fixed numbers of a run: classes and slots, array classes, the first cell of ours, the cells of the three tables -/
abbrev cp_En : Type := va_G × (Nat → ClassId) × Nat × (Nat → Nat)
abbrev cp_D (E : cp_En) : va_G := E.1
abbrev cp_cs (E : cp_En) : Nat → ClassId := E.2.1
abbrev cp_b0 (E : cp_En) : Nat := E.2.2.1
abbrev cp_ts (E : cp_En) : Nat → Nat := E.2.2.2
def cp_A (E : cp_En) : Nat → Prop := fun q => cp_b0 E ≤ q
def cp_ty (E : cp_En) : List (ClassId × FieldType) := [(cp_cs E 9, .int), (cp_cs E 10, .char), (cp_cs E 11, .object "CopyPlates$Night"), (cp_cs E 12, .object "CopyPlates$Piece"), (cp_cs E 13, .object "CopyPlates$Plate")]
/-- which fields are references -/
def cp_rf (ci j : Nat) : Bool := match ci with
  | 0 => j == 0
  | 1 => j == 0 || j == 2 || j == 4
  | 2 => j == 0
  | 3 => j == 0
  | 6 => true
  | 7 => j == 0 || j == 1 || j == 2 || j == 3 || j == 5 || j == 6 || j == 9
  | _ => false
def cp_nf (ci : Nat) : Nat := match ci with
  | 0 => 3
  | 1 => 6
  | 2 => 7
  | 3 => 2
  | 4 => 10
  | 5 => 3
  | 6 => 6
  | _ => 15
def cp_fv (ci : Nat) (i : Nat → Int32) (r : Nat → Option Nat) (j : Nat) : Value := if cp_rf ci j = true then va_rf (r j) else .int (i j)
def cp_fs (ci : Nat) (i : Nat → Int32) (r : Nat → Option Nat) : List Value := (List.range (cp_nf ci)).map (cp_fv ci i r)
/-- what a cell of kind k holds: 1 to 8 an object of class k - 1, 9 numbers, 10 characters, 11 to 13 references -/
def cp_e (cs : Nat → ClassId) (k : Nat × Nat) (i : Nat → Int32) (r : Nat → Option Nat) : va_E :=
  if k.1 ≤ 8 then .inr (k.1 - 1, cp_fs (k.1 - 1) i r) else if k.1 ≤ 10 then .inl (cs k.1, k.2, .inl i) else .inl (cs k.1, k.2, .inr (.inr (.inr (.inr r))))
def cp_WL (E : cp_En) (cnt : Nat) (sh : cp_Shp) (I : cp_Mem) (R : cp_Rem) : va_W := va_pl (List.range' (cp_b0 E) cnt) (fun a => cp_e (cp_cs E) (sh a) (I a) (R a))
def cp_own (E : cp_En) (cnt : Nat) (sh : cp_Shp) : Prop := ∀ a, (sh a).1 ≠ 0 ↔ (cp_b0 E ≤ a ∧ a < cp_b0 E + cnt)
def cp_PW (E : cp_En) (cnt : Nat) (sh : cp_Shp) (I : cp_Mem) (R : cp_Rem) (H : Heap) : Prop := cp_own E cnt sh ∧ H.size = cp_b0 E + cnt ∧ va_P (cp_D E) vwCl (cp_WL E cnt sh I R) H
theorem cp_WL_get (E : cp_En) (cnt : Nat) (sh : cp_Shp) (I : cp_Mem) (R : cp_Rem) {k : Nat} (h : k < cnt) : (cp_WL E cnt sh I R)[k]? = some (cp_b0 E + k, cp_e (cp_cs E) (sh (cp_b0 E + k)) (I (cp_b0 E + k)) (R (cp_b0 E + k))) := by
  unfold cp_WL va_pl
  rw [List.getElem?_map, List.getElem?_range' h]
  simp
theorem cp_WL_len (E : cp_En) (cnt : Nat) (sh : cp_Shp) (I : cp_Mem) (R : cp_Rem) : (cp_WL E cnt sh I R).length = cnt := by
  simp [cp_WL, va_pl]
theorem cp_WL_at (E : cp_En) (cnt : Nat) (sh : cp_Shp) (I : cp_Mem) (R : cp_Rem) {a : Nat} (h : cp_b0 E ≤ a ∧ a < cp_b0 E + cnt) : (cp_WL E cnt sh I R)[a - cp_b0 E]? = some (a, cp_e (cp_cs E) (sh a) (I a) (R a)) := by
  have h1 := cp_WL_get E cnt sh I R (k := a - cp_b0 E) (by omega)
  rw [show cp_b0 E + (a - cp_b0 E) = a by omega] at h1
  exact h1
theorem cp_WL_D (E : cp_En) (cnt : Nat) (sh : cp_Shp) (I : cp_Mem) (R : cp_Rem) : va_D (cp_A E) (cp_WL E cnt sh I R) := by
  have key : ∀ (k : Nat) (q : Nat × va_E), (cp_WL E cnt sh I R)[k]? = some q → q.1 = cp_b0 E + k := by
    intro k q hk
    have hl := (List.getElem?_eq_some_iff.mp hk).1
    rw [cp_WL_len] at hl
    rw [cp_WL_get E cnt sh I R hl] at hk
    cases hk
    rfl
  refine ⟨fun i j p q hi hj hpq => ?_, fun k q hk => ?_⟩
  · have h1 := key i p hi
    have h2 := key j q hj
    omega
  · have h1 := key k q hk
    show cp_b0 E ≤ q.1
    omega
theorem cp_WL_set {E : cp_En} {cnt : Nat} {sh : cp_Shp} {I I' : cp_Mem} {R R' : cp_Rem} {a : Nat} {e : va_E} (h : cp_b0 E ≤ a ∧ a < cp_b0 E + cnt) (he : e = cp_e (cp_cs E) (sh a) (I' a) (R' a)) (ho : ∀ q, q ≠ a → I' q = I q ∧ R' q = R q) : (cp_WL E cnt sh I R).set (a - cp_b0 E) (a, e) = cp_WL E cnt sh I' R' := by
  apply List.ext_getElem?
  intro k
  by_cases hk : k = a - cp_b0 E
  · subst hk
    rw [List.getElem?_set_self (by rw [cp_WL_len]; omega), cp_WL_at E cnt sh I' R' h, he]
  · rw [List.getElem?_set_ne (Ne.symm hk)]
    by_cases hl : k < cnt
    · rw [cp_WL_get E cnt sh I R hl, cp_WL_get E cnt sh I' R' hl]
      obtain ⟨h1, h2⟩ := ho (cp_b0 E + k) (by omega)
      rw [h1, h2]
    · rw [List.getElem?_eq_none (by rw [cp_WL_len]; omega), List.getElem?_eq_none (by rw [cp_WL_len]; omega)]
/-- writing one number, one reference -/
def cp_wi (I : cp_Mem) (a j : Nat) (v : Int32) : cp_Mem := fun a' j' => if a' = a ∧ j' = j then v else I a' j'
def cp_wr (R : cp_Rem) (a j : Nat) (v : Option Nat) : cp_Rem := fun a' j' => if a' = a ∧ j' = j then v else R a' j'
theorem cp_wi_s (I : cp_Mem) (a j : Nat) (v : Int32) : cp_wi I a j v a j = v := by simp [cp_wi]
theorem cp_wi_a (I : cp_Mem) (a j : Nat) (v : Int32) {a' : Nat} (h : a' ≠ a) : cp_wi I a j v a' = I a' := by
  funext q
  simp [cp_wi, h]
theorem cp_wr_a (R : cp_Rem) (a j : Nat) (v : Option Nat) {a' : Nat} (h : a' ≠ a) : cp_wr R a j v a' = R a' := by
  funext q
  simp [cp_wr, h]
theorem cp_fs_len (ci : Nat) (i : Nat → Int32) (r : Nat → Option Nat) : (cp_fs ci i r).length = cp_nf ci := by simp [cp_fs]
theorem cp_fs_get (ci : Nat) (i : Nat → Int32) (r : Nat → Option Nat) {j : Nat} (h : j < cp_nf ci) : (cp_fs ci i r)[j]? = some (cp_fv ci i r j) := by
  unfold cp_fs
  rw [List.getElem?_map, List.getElem?_range h]
  rfl
theorem cp_fs_set (ci : Nat) {i i' : Nat → Int32} {r r' : Nat → Option Nat} {j : Nat} {v : Value} (hv : v = cp_fv ci i' r' j) (ho : ∀ q, q ≠ j → cp_fv ci i' r' q = cp_fv ci i r q) : (cp_fs ci i r).set j v = cp_fs ci i' r' := by
  apply List.ext_getElem?
  intro k
  by_cases hl : k < cp_nf ci
  · by_cases hk : k = j
    · subst hk
      rw [List.getElem?_set_self (by rw [cp_fs_len]; exact hl), cp_fs_get ci i' r' hl, hv]
    · rw [List.getElem?_set_ne (Ne.symm hk), cp_fs_get ci i r hl, cp_fs_get ci i' r' hl, ho k hk]
  · rw [List.getElem?_eq_none (by rw [List.length_set, cp_fs_len]; omega), List.getElem?_eq_none (by rw [cp_fs_len]; omega)]
/-- the tables' words that stay good -/
def cp_TG : List Cond := lw_tbl.filter goodWord
theorem cp_TG_in {i : Nat} {w : Cond} (h : lw_tbl[i]? = some w) (hg : goodWord w = true) : w ∈ cp_TG := List.mem_filter.mpr ⟨List.mem_of_getElem? h, hg⟩
theorem cp_TG_good : GoodIn cp_TG cp_TG := fun w hw => ⟨hw, good_of_word (List.mem_filter.mp hw).2⟩
/-- words of nest mates, which are carried apart -/
def cp_nF : List (String × Nat × String) := [(RX1, 9, "FIRST_VALUES"), (RX1, 67, "LEAST_VALUES"), (RX1, 70, "GREATEST_VALUES")]
def cp_nM : List (String × Nat × MethodName) := [(RX1, 33, yX4_init), (RX1, 43, yX5_init), (RX1, 89, yX6_oneIf), (RX1, 118, yX6_isInSet), (RX2, 59, yX6_oneIf)]
def cp_nw (U : State) : Prop := (∀ q ∈ cp_nF, va_Nw (.fieldLinkNest q.1 q.2.1 "CopyPlates" q.2.2 "[I" "CopyPlates") U) ∧ (∀ q ∈ cp_nM, va_Nw (.methodLinkNest q.1 q.2.1 q.2.2 "CopyPlates") U)
theorem cp_nw_warm {s U : State} (hW : s.WarmedH U.vm) (h : cp_nw s) : cp_nw U := ⟨fun q hq => va_Nw.warmF hW (h.1 q hq), fun q hq => va_Nw.warmM hW (h.2 q hq)⟩
theorem cp_nw_same {u U : State} (hv : u.vm = U.vm) (h : cp_nw u) : cp_nw U := ⟨fun q hq => va_Nw.same rfl hv (h.1 q hq), fun q hq => va_Nw.same rfl hv (h.2 q hq)⟩
def cp_sn : Nat → String
  | 0 => "FIRST_VALUES"
  | 1 => "LEAST_VALUES"
  | _ => "GREATEST_VALUES"
def cp_sv (k j : Nat) : Int32 := match k, j with
  | 0, 0 => 4
  | 0, 1 => 10
  | 0, 2 => 60
  | 0, _ => 5
  | 1, 2 => 10
  | 1, _ => 1
  | _, 0 => 20
  | _, 2 => 400
  | _, _ => 60
/-- the three tables of the class: nobody writes them -/
def cp_Z (E : cp_En) (U : State) (H : Heap) : Prop := ∀ k, k < 3 → va_Z "CopyPlates" (cp_sn k) "[I" (.ref (cp_ts E k)) (cp_A E) U H ∧ va_T .int (cp_ts E k) 4 (fun j => .int (cp_sv k j)) (cp_A E) U H
theorem cp_Z_moved {E : cp_En} {u U : State} {H : Heap} (hv : u.vm.Alike U.vm) (h : cp_Z E u H) : cp_Z E U H := fun k hk => ⟨(h k hk).1.moved hv, (h k hk).2.moved hv⟩
theorem cp_Z_kept {E : cp_En} {U : State} {H H1 : Heap} (hq : ∀ a : Nat, a < H.size → ¬ cp_A E a → H1[a]? = H[a]?) (h : cp_Z E U H) : cp_Z E U H1 := fun k hk => ⟨(h k hk).1.kept hq, (h k hk).2.kept hq⟩
def cp_K (E : cp_En) (U : State) : Prop := va_K (cp_D E) vwCl (cp_ty E) U ∧ cp_nw U
theorem cp_K_warm {E : cp_En} {s U : State} (hW : s.WarmedH U.vm) (h : cp_K E s) : cp_K E U := ⟨h.1.moved hW.alike, cp_nw_warm hW h.2⟩
/-- a method's room: d calls below it -/
def cp_rm (d mc ms : Nat) : Room := { frames := d, cells := mc, slots := ms, locals := 12 + 32 * d }
abbrev cp_Cx : Type := Program × Launch × Env × Room × State × MethodId × Array Value × List Frame × Method × Code × (State → Prop)
abbrev cp_xp (x : cp_Cx) : Program := x.1
abbrev cp_xl (x : cp_Cx) : Launch := x.2.1
abbrev cp_xe (x : cp_Cx) : Env := x.2.2.1
abbrev cp_xR (x : cp_Cx) : Room := x.2.2.2.1
abbrev cp_xs (x : cp_Cx) : State := x.2.2.2.2.1
abbrev cp_xm (x : cp_Cx) : MethodId := x.2.2.2.2.2.1
abbrev cp_xa (x : cp_Cx) : Array Value := x.2.2.2.2.2.2.1
abbrev cp_xb (x : cp_Cx) : List Frame := x.2.2.2.2.2.2.2.1
abbrev cp_xk (x : cp_Cx) : Method := x.2.2.2.2.2.2.2.2.1
abbrev cp_xc (x : cp_Cx) : Code := x.2.2.2.2.2.2.2.2.2.1
abbrev cp_xQ (x : cp_Cx) : State → Prop := x.2.2.2.2.2.2.2.2.2.2
abbrev cp_W (x : cp_Cx) (H : Heap) (locs : List Loc) (cells slots : Nat) (g : JFrame) : Prop := W (cp_xp x) (cp_xl x) (cp_xe x) (cp_xR x) (cp_xs x) (cp_xm x) (cp_xa x) (cp_xb x) (cp_xk x) (cp_xc x) H locs cells slots (cp_xQ x) g
/-- the locals as a list, a place each -/
def cp_lq : Nat → List (Option Value) → List (Nat × Value)
  | _, [] => []
  | k, none :: t => cp_lq (k + 1) t
  | k, some v :: t => (k, v) :: cp_lq (k + 1) t
theorem cp_lq_in : ∀ (L : List (Option Value)) (k i : Nat) (v : Value), (i, v) ∈ cp_lq k L ↔ k ≤ i ∧ L[i - k]? = some (some v)
  | [], k, i, v => by simp [cp_lq]
  | none :: t, k, i, v => by
    rw [cp_lq, cp_lq_in t (k + 1) i v]
    constructor
    · rintro ⟨h1, h2⟩
      refine ⟨by omega, ?_⟩
      rw [show i - k = (i - (k + 1)) + 1 by omega]
      simpa using h2
    · rintro ⟨h1, h2⟩
      rcases Nat.eq_or_lt_of_le h1 with h | h
      · subst h; simp at h2
      · refine ⟨h, ?_⟩
        rw [show i - k = (i - (k + 1)) + 1 by omega] at h2
        simpa using h2
  | some w :: t, k, i, v => by
    rw [cp_lq, List.mem_cons, cp_lq_in t (k + 1) i v]
    constructor
    · rintro (h | ⟨h1, h2⟩)
      · cases h; simp
      · refine ⟨by omega, ?_⟩
        rw [show i - k = (i - (k + 1)) + 1 by omega]
        simpa using h2
    · rintro ⟨h1, h2⟩
      rcases Nat.eq_or_lt_of_le h1 with h | h
      · subst h; left; simp at h2; rw [h2]
      · right
        refine ⟨h, ?_⟩
        rw [show i - k = (i - (k + 1)) + 1 by omega] at h2
        simpa using h2
def cp_lH (ls : Array Slot) (nL : Nat) (L : List (Option Value)) : Prop := lv_has ls nL (cp_lq 0 L)
theorem cp_lH_at {ls : Array Slot} {nL : Nat} {L : List (Option Value)} (h : cp_lH ls nL L) {i : Nat} {v : Value} (hv : L[i]? = some (some v)) : ls[i]? = some (.val v) := h.2.2 (i, v) ((cp_lq_in L 0 i v).mpr ⟨Nat.zero_le _, hv⟩)
/-- the judgement at a frame -/
def cp_G (x : cp_Cx) (E : cp_En) (nL cells slots cnt : Nat) (sh : cp_Shp) (I : cp_Mem) (R : cp_Rem) (pc : Nat) (L : List (Option Value)) (st : List Value) : Prop :=
  ∀ (H : Heap) (locs : List Loc) (ls : Array Slot), cp_PW E cnt sh I R H → va_S (cp_A E) (cp_xs x).heap H locs → cp_lH ls nL L → cp_W x H locs cells slots (F0 (cp_xm x) pc ls st)
/-- what holds all through a method's run -/
def cp_Ok (x : cp_Cx) (E : cp_En) (own : String) (bc : ByteArray) (nL d mc ms : Nat) : Prop :=
  (cp_xp x).tables.exec = Jvm.exec ∧ (cp_xc x).code = bc ∧ (cp_xc x).maxLocals = nL ∧ (cp_xs x).vm.findClass own = some (cp_xm x).cls ∧ (∀ w ∈ cp_TG, w.before (cp_xa x) (cp_xs x) = true) ∧ cp_K E (cp_xs x) ∧ cp_Z E (cp_xs x) (cp_xs x).heap ∧ cp_b0 E ≤ (cp_xs x).heap.size ∧
  (d ≤ (cp_xR x).frames ∧ 12 + 32 * d ≤ (cp_xR x).locals ∧ mc ≤ (cp_xR x).cells ∧ ms ≤ (cp_xR x).slots)
end
section
section CPR
variable {x : cp_Cx} {E : cp_En} {own : String} {bc : ByteArray} {nL d mc ms : Nat} {cells slots cnt : Nat} {sh : cp_Shp} {I : cp_Mem} {R : cp_Rem} {pc : Nat} {L : List (Option Value)} {st : List Value}
def cp_nl : Option Value → Bool
  | some (.long _) => false
  | some (.double _) => false
  | _ => true
def cp_ls (L : List (Option Value)) (i : Nat) (v : Value) (L' : List (Option Value)) : Prop := i < L.length ∧ L' = L.set i (some v) ∧ (∀ w, 0 < i → L[i - 1]? = some w → cp_nl w = true)
theorem cp_ls0 {b : Option Value} {t : List (Option Value)} {v : Value} : cp_ls (b :: t) 0 v (some v :: t) := ⟨by simp, rfl, fun w h _ => absurd h (by omega)⟩
theorem cp_lg0 {t : List (Option Value)} {v : Value} : (some v :: t)[0]? = some (some v) := rfl
theorem cp_ls1 {b : Option Value} {t : List (Option Value)} {v : Value} {a0 : Option Value} (h : cp_nl a0 = true) : cp_ls (a0 :: b :: t) 1 v (a0 :: some v :: t) := ⟨by simp, rfl, fun w _ hw => by simp at hw; rw [← hw]; exact h⟩
theorem cp_lg1 {t : List (Option Value)} {v : Value} {a0 : Option Value} : (a0 :: some v :: t)[1]? = some (some v) := rfl
theorem cp_ls2 {b : Option Value} {t : List (Option Value)} {v : Value} {a0 : Option Value} {a1 : Option Value} (h : cp_nl a1 = true) : cp_ls (a0 :: a1 :: b :: t) 2 v (a0 :: a1 :: some v :: t) := ⟨by simp, rfl, fun w _ hw => by simp at hw; rw [← hw]; exact h⟩
theorem cp_lg2 {t : List (Option Value)} {v : Value} {a0 : Option Value} {a1 : Option Value} : (a0 :: a1 :: some v :: t)[2]? = some (some v) := rfl
theorem cp_ls3 {b : Option Value} {t : List (Option Value)} {v : Value} {a0 : Option Value} {a1 : Option Value} {a2 : Option Value} (h : cp_nl a2 = true) : cp_ls (a0 :: a1 :: a2 :: b :: t) 3 v (a0 :: a1 :: a2 :: some v :: t) := ⟨by simp, rfl, fun w _ hw => by simp at hw; rw [← hw]; exact h⟩
theorem cp_lg3 {t : List (Option Value)} {v : Value} {a0 : Option Value} {a1 : Option Value} {a2 : Option Value} : (a0 :: a1 :: a2 :: some v :: t)[3]? = some (some v) := rfl
theorem cp_ls4 {b : Option Value} {t : List (Option Value)} {v : Value} {a0 : Option Value} {a1 : Option Value} {a2 : Option Value} {a3 : Option Value} (h : cp_nl a3 = true) : cp_ls (a0 :: a1 :: a2 :: a3 :: b :: t) 4 v (a0 :: a1 :: a2 :: a3 :: some v :: t) := ⟨by simp, rfl, fun w _ hw => by simp at hw; rw [← hw]; exact h⟩
theorem cp_lg4 {t : List (Option Value)} {v : Value} {a0 : Option Value} {a1 : Option Value} {a2 : Option Value} {a3 : Option Value} : (a0 :: a1 :: a2 :: a3 :: some v :: t)[4]? = some (some v) := rfl
theorem cp_ls5 {b : Option Value} {t : List (Option Value)} {v : Value} {a0 : Option Value} {a1 : Option Value} {a2 : Option Value} {a3 : Option Value} {a4 : Option Value} (h : cp_nl a4 = true) : cp_ls (a0 :: a1 :: a2 :: a3 :: a4 :: b :: t) 5 v (a0 :: a1 :: a2 :: a3 :: a4 :: some v :: t) := ⟨by simp, rfl, fun w _ hw => by simp at hw; rw [← hw]; exact h⟩
theorem cp_lg5 {t : List (Option Value)} {v : Value} {a0 : Option Value} {a1 : Option Value} {a2 : Option Value} {a3 : Option Value} {a4 : Option Value} : (a0 :: a1 :: a2 :: a3 :: a4 :: some v :: t)[5]? = some (some v) := rfl
theorem cp_ls6 {b : Option Value} {t : List (Option Value)} {v : Value} {a0 : Option Value} {a1 : Option Value} {a2 : Option Value} {a3 : Option Value} {a4 : Option Value} {a5 : Option Value} (h : cp_nl a5 = true) : cp_ls (a0 :: a1 :: a2 :: a3 :: a4 :: a5 :: b :: t) 6 v (a0 :: a1 :: a2 :: a3 :: a4 :: a5 :: some v :: t) := ⟨by simp, rfl, fun w _ hw => by simp at hw; rw [← hw]; exact h⟩
theorem cp_lg6 {t : List (Option Value)} {v : Value} {a0 : Option Value} {a1 : Option Value} {a2 : Option Value} {a3 : Option Value} {a4 : Option Value} {a5 : Option Value} : (a0 :: a1 :: a2 :: a3 :: a4 :: a5 :: some v :: t)[6]? = some (some v) := rfl
theorem cp_ls7 {b : Option Value} {t : List (Option Value)} {v : Value} {a0 : Option Value} {a1 : Option Value} {a2 : Option Value} {a3 : Option Value} {a4 : Option Value} {a5 : Option Value} {a6 : Option Value} (h : cp_nl a6 = true) : cp_ls (a0 :: a1 :: a2 :: a3 :: a4 :: a5 :: a6 :: b :: t) 7 v (a0 :: a1 :: a2 :: a3 :: a4 :: a5 :: a6 :: some v :: t) := ⟨by simp, rfl, fun w _ hw => by simp at hw; rw [← hw]; exact h⟩
theorem cp_lg7 {t : List (Option Value)} {v : Value} {a0 : Option Value} {a1 : Option Value} {a2 : Option Value} {a3 : Option Value} {a4 : Option Value} {a5 : Option Value} {a6 : Option Value} : (a0 :: a1 :: a2 :: a3 :: a4 :: a5 :: a6 :: some v :: t)[7]? = some (some v) := rfl
theorem cp_ls8 {b : Option Value} {t : List (Option Value)} {v : Value} {a0 : Option Value} {a1 : Option Value} {a2 : Option Value} {a3 : Option Value} {a4 : Option Value} {a5 : Option Value} {a6 : Option Value} {a7 : Option Value} (h : cp_nl a7 = true) : cp_ls (a0 :: a1 :: a2 :: a3 :: a4 :: a5 :: a6 :: a7 :: b :: t) 8 v (a0 :: a1 :: a2 :: a3 :: a4 :: a5 :: a6 :: a7 :: some v :: t) := ⟨by simp, rfl, fun w _ hw => by simp at hw; rw [← hw]; exact h⟩
theorem cp_lg8 {t : List (Option Value)} {v : Value} {a0 : Option Value} {a1 : Option Value} {a2 : Option Value} {a3 : Option Value} {a4 : Option Value} {a5 : Option Value} {a6 : Option Value} {a7 : Option Value} : (a0 :: a1 :: a2 :: a3 :: a4 :: a5 :: a6 :: a7 :: some v :: t)[8]? = some (some v) := rfl
theorem cp_ls9 {b : Option Value} {t : List (Option Value)} {v : Value} {a0 : Option Value} {a1 : Option Value} {a2 : Option Value} {a3 : Option Value} {a4 : Option Value} {a5 : Option Value} {a6 : Option Value} {a7 : Option Value} {a8 : Option Value} (h : cp_nl a8 = true) : cp_ls (a0 :: a1 :: a2 :: a3 :: a4 :: a5 :: a6 :: a7 :: a8 :: b :: t) 9 v (a0 :: a1 :: a2 :: a3 :: a4 :: a5 :: a6 :: a7 :: a8 :: some v :: t) := ⟨by simp, rfl, fun w _ hw => by simp at hw; rw [← hw]; exact h⟩
theorem cp_lg9 {t : List (Option Value)} {v : Value} {a0 : Option Value} {a1 : Option Value} {a2 : Option Value} {a3 : Option Value} {a4 : Option Value} {a5 : Option Value} {a6 : Option Value} {a7 : Option Value} {a8 : Option Value} : (a0 :: a1 :: a2 :: a3 :: a4 :: a5 :: a6 :: a7 :: a8 :: some v :: t)[9]? = some (some v) := rfl
theorem cp_lH_ls {ls : Array Slot} {nL : Nat} {L L' : List (Option Value)} {i : Nat} {v : Value} (h : lv_has ls nL ((i, v) :: (cp_lq 0 L).filter (fun q => !(q.1 == i) && !(q.1 + 1 == i && q.2.category == 2)))) (hs : cp_ls L i v L') : cp_lH ls nL L' := by
  obtain ⟨h1, h2, h3⟩ := hs
  refine ⟨h.1, h.2.1, fun q hq => ?_⟩
  obtain ⟨j, w⟩ := q
  have hj := ((cp_lq_in L' 0 j w).mp hq).2
  rw [Nat.sub_zero, h2] at hj
  by_cases hji : j = i
  · subst hji
    rw [List.getElem?_set_self h1] at hj
    cases hj
    exact h.2.2 _ List.mem_cons_self
  · rw [List.getElem?_set_ne (Ne.symm hji)] at hj
    refine h.2.2 (j, w) (List.mem_cons_of_mem _ (List.mem_filter.mpr ⟨(cp_lq_in L 0 j w).mpr ⟨Nat.zero_le _, hj⟩, ?_⟩))
    by_cases hk : j + 1 = i
    · have h4 := h3 (some w) (by omega) (by rw [show i - 1 = j by omega]; exact hj)
      cases w <;> simp_all [cp_nl, Value.category]
    · simp [hji, hk]
theorem cp_iadd (O : cp_Ok x E own bc nL d mc ms) {a b : Int32} (hd : decode bc pc = .ok (.iadd, 1)) (k : cp_G x E nL cells slots cnt sh I R (pc + 1) L (.int (a + b) :: st)) : cp_G x E nL cells slots cnt sh I R pc L (.int b :: .int a :: st) := fun H locs ls hW hS hl => lv_iadd O.1 O.2.1 hd (k H locs ls hW hS hl)
theorem cp_isub (O : cp_Ok x E own bc nL d mc ms) {a b : Int32} (hd : decode bc pc = .ok (.isub, 1)) (k : cp_G x E nL cells slots cnt sh I R (pc + 1) L (.int (a - b) :: st)) : cp_G x E nL cells slots cnt sh I R pc L (.int b :: .int a :: st) := fun H locs ls hW hS hl => lv_isub O.1 O.2.1 hd (k H locs ls hW hS hl)
theorem cp_imul (O : cp_Ok x E own bc nL d mc ms) {a b : Int32} (hd : decode bc pc = .ok (.imul, 1)) (k : cp_G x E nL cells slots cnt sh I R (pc + 1) L (.int (a * b) :: st)) : cp_G x E nL cells slots cnt sh I R pc L (.int b :: .int a :: st) := fun H locs ls hW hS hl => lv_imul O.1 O.2.1 hd (k H locs ls hW hS hl)
theorem cp_iand (O : cp_Ok x E own bc nL d mc ms) {a b : Int32} (hd : decode bc pc = .ok (.iand, 1)) (k : cp_G x E nL cells slots cnt sh I R (pc + 1) L (.int (a &&& b) :: st)) : cp_G x E nL cells slots cnt sh I R pc L (.int b :: .int a :: st) := fun H locs ls hW hS hl => lv_iand O.1 O.2.1 hd (k H locs ls hW hS hl)
theorem cp_ior (O : cp_Ok x E own bc nL d mc ms) {a b : Int32} (hd : decode bc pc = .ok (.ior, 1)) (k : cp_G x E nL cells slots cnt sh I R (pc + 1) L (.int (a ||| b) :: st)) : cp_G x E nL cells slots cnt sh I R pc L (.int b :: .int a :: st) := fun H locs ls hW hS hl => lv_ior O.1 O.2.1 hd (k H locs ls hW hS hl)
theorem cp_ixor (O : cp_Ok x E own bc nL d mc ms) {a b : Int32} (hd : decode bc pc = .ok (.ixor, 1)) (k : cp_G x E nL cells slots cnt sh I R (pc + 1) L (.int (a ^^^ b) :: st)) : cp_G x E nL cells slots cnt sh I R pc L (.int b :: .int a :: st) := fun H locs ls hW hS hl => lv_ixor O.1 O.2.1 hd (k H locs ls hW hS hl)
theorem cp_ishl (O : cp_Ok x E own bc nL d mc ms) {a b : Int32} (hd : decode bc pc = .ok (.ishl, 1)) (k : cp_G x E nL cells slots cnt sh I R (pc + 1) L (.int (a <<< (b &&& 31)) :: st)) : cp_G x E nL cells slots cnt sh I R pc L (.int b :: .int a :: st) := fun H locs ls hW hS hl => lv_ishl O.1 O.2.1 hd (k H locs ls hW hS hl)
theorem cp_ishr (O : cp_Ok x E own bc nL d mc ms) {a b : Int32} (hd : decode bc pc = .ok (.ishr, 1)) (k : cp_G x E nL cells slots cnt sh I R (pc + 1) L (.int (a >>> (b &&& 31)) :: st)) : cp_G x E nL cells slots cnt sh I R pc L (.int b :: .int a :: st) := fun H locs ls hW hS hl => lv_ishr O.1 O.2.1 hd (k H locs ls hW hS hl)
theorem cp_land (O : cp_Ok x E own bc nL d mc ms) {a b : Int64} (hd : decode bc pc = .ok (.land, 1)) (k : cp_G x E nL cells slots cnt sh I R (pc + 1) L (.long (a &&& b) :: st)) : cp_G x E nL cells slots cnt sh I R pc L (.long b :: .long a :: st) := fun H locs ls hW hS hl => lv_land O.1 O.2.1 hd (k H locs ls hW hS hl)
theorem cp_lor (O : cp_Ok x E own bc nL d mc ms) {a b : Int64} (hd : decode bc pc = .ok (.lor, 1)) (k : cp_G x E nL cells slots cnt sh I R (pc + 1) L (.long (a ||| b) :: st)) : cp_G x E nL cells slots cnt sh I R pc L (.long b :: .long a :: st) := fun H locs ls hW hS hl => lv_lor O.1 O.2.1 hd (k H locs ls hW hS hl)
theorem cp_lsub (O : cp_Ok x E own bc nL d mc ms) {a b : Int64} (hd : decode bc pc = .ok (.lsub, 1)) (k : cp_G x E nL cells slots cnt sh I R (pc + 1) L (.long (a - b) :: st)) : cp_G x E nL cells slots cnt sh I R pc L (.long b :: .long a :: st) := fun H locs ls hW hS hl => lv_lsub O.1 O.2.1 hd (k H locs ls hW hS hl)
theorem cp_lshl (O : cp_Ok x E own bc nL d mc ms) {a : Int64} {b : Int32} (hd : decode bc pc = .ok (.lshl, 1)) (k : cp_G x E nL cells slots cnt sh I R (pc + 1) L (.long (a <<< (b.toInt64 &&& 63)) :: st)) : cp_G x E nL cells slots cnt sh I R pc L (.int b :: .long a :: st) := fun H locs ls hW hS hl => lv_lshl O.1 O.2.1 hd rfl (k H locs ls hW hS hl)
theorem cp_lushr (O : cp_Ok x E own bc nL d mc ms) {a : Int64} {b : Int32} (hd : decode bc pc = .ok (.lushr, 1)) (k : cp_G x E nL cells slots cnt sh I R (pc + 1) L (.long (a.toUInt64 >>> (b.toInt64.toUInt64 &&& Int64.toUInt64 63)).toInt64 :: st)) : cp_G x E nL cells slots cnt sh I R pc L (.int b :: .long a :: st) := fun H locs ls hW hS hl => lv_lushr O.1 O.2.1 hd rfl (k H locs ls hW hS hl)
theorem cp_i2l (O : cp_Ok x E own bc nL d mc ms) {a : Int32} (hd : decode bc pc = .ok (.i2l, 1)) (k : cp_G x E nL cells slots cnt sh I R (pc + 1) L (.long a.toInt64 :: st)) : cp_G x E nL cells slots cnt sh I R pc L (.int a :: st) := fun H locs ls hW hS hl => lv_i2l O.1 O.2.1 hd rfl (k H locs ls hW hS hl)
theorem cp_l2i (O : cp_Ok x E own bc nL d mc ms) {a : Int64} (hd : decode bc pc = .ok (.l2i, 1)) (k : cp_G x E nL cells slots cnt sh I R (pc + 1) L (.int a.toInt32 :: st)) : cp_G x E nL cells slots cnt sh I R pc L (.long a :: st) := fun H locs ls hW hS hl => lv_l2i O.1 O.2.1 hd rfl (k H locs ls hW hS hl)
theorem cp_i2c (O : cp_Ok x E own bc nL d mc ms) {a : Int32} (hd : decode bc pc = .ok (.i2c, 1)) (k : cp_G x E nL cells slots cnt sh I R (pc + 1) L (.int (a.toUInt32 % 65536).toInt32 :: st)) : cp_G x E nL cells slots cnt sh I R pc L (.int a :: st) := fun H locs ls hW hS hl => lv_i2c O.1 O.2.1 hd rfl (k H locs ls hW hS hl)
theorem cp_lcmp (O : cp_Ok x E own bc nL d mc ms) {a b : Int64} (hd : decode bc pc = .ok (.lcmp, 1)) (k : cp_G x E nL cells slots cnt sh I R (pc + 1) L (.int (lg_cmp a b) :: st)) : cp_G x E nL cells slots cnt sh I R pc L (.long b :: .long a :: st) := fun H locs ls hW hS hl => W.lcmp O.1 O.2.1 hd (k H locs ls hW hS hl)
theorem cp_iconst (O : cp_Ok x E own bc nL d mc ms) {n : Int} {v : Int32} (hd : decode bc pc = .ok (.iconst n, 1)) (hv : Int32.ofInt n = v) (k : cp_G x E nL cells slots cnt sh I R (pc + 1) L (.int v :: st)) : cp_G x E nL cells slots cnt sh I R pc L st := fun H locs ls hW hS hl => lv_iconst O.1 O.2.1 hd hv (k H locs ls hW hS hl)
theorem cp_bipush (O : cp_Ok x E own bc nL d mc ms) {n : Int} {v : Int32} (hd : decode bc pc = .ok (.bipush n, 2)) (hv : (Int8.ofInt n).toInt32 = v) (k : cp_G x E nL cells slots cnt sh I R (pc + 2) L (.int v :: st)) : cp_G x E nL cells slots cnt sh I R pc L st := fun H locs ls hW hS hl => lv_bipush O.1 O.2.1 hd hv (k H locs ls hW hS hl)
theorem cp_sipush (O : cp_Ok x E own bc nL d mc ms) {n : Int} {v : Int32} (hd : decode bc pc = .ok (.sipush n, 3)) (hv : (Int16.ofInt n).toInt32 = v) (k : cp_G x E nL cells slots cnt sh I R (pc + 3) L (.int v :: st)) : cp_G x E nL cells slots cnt sh I R pc L st := fun H locs ls hW hS hl => lv_sipush O.1 O.2.1 hd hv (k H locs ls hW hS hl)
theorem cp_lconst (O : cp_Ok x E own bc nL d mc ms) {n : Fin 2} {v : Int64} (hd : decode bc pc = .ok (.lconst n, 1)) (hv : Int64.ofNat (n : Nat) = v) (k : cp_G x E nL cells slots cnt sh I R (pc + 1) L (.long v :: st)) : cp_G x E nL cells slots cnt sh I R pc L st := fun H locs ls hW hS hl => lv_lconst O.1 O.2.1 hd hv (k H locs ls hW hS hl)
theorem cp_dup (O : cp_Ok x E own bc nL d mc ms) {a : Value} (hd : decode bc pc = .ok (.dup, 1)) (hv : a.category = 1) (k : cp_G x E nL cells slots cnt sh I R (pc + 1) L (a :: a :: st)) : cp_G x E nL cells slots cnt sh I R pc L (a :: st) := fun H locs ls hW hS hl => lv_dup O.1 O.2.1 hd hv (k H locs ls hW hS hl)
theorem cp_pop (O : cp_Ok x E own bc nL d mc ms) {a : Value} (hd : decode bc pc = .ok (.pop, 1)) (hv : a.category = 1) (k : cp_G x E nL cells slots cnt sh I R (pc + 1) L st) : cp_G x E nL cells slots cnt sh I R pc L (a :: st) := fun H locs ls hW hS hl => lv_pop O.1 O.2.1 hd hv (k H locs ls hW hS hl)
theorem cp_dup2 (O : cp_Ok x E own bc nL d mc ms) {a b : Value} (hd : decode bc pc = .ok (.dup2, 1)) (hv : a.category = 1) (hv2 : b.category = 1) (k : cp_G x E nL cells slots cnt sh I R (pc + 1) L (a :: b :: a :: b :: st)) : cp_G x E nL cells slots cnt sh I R pc L (a :: b :: st) := fun H locs ls hW hS hl => lv_dup2_11 O.1 O.2.1 hd hv hv2 (k H locs ls hW hS hl)
theorem cp_ldc2 (O : cp_Ok x E own bc nL d mc ms) {index : Nat} {v : Int64} (hw : Cond.constantLong own index v ∈ cp_TG) (hd : decode bc pc = .ok (.ldc2_w index, 3)) (k : cp_G x E nL cells slots cnt sh I R (pc + 3) L (.long v :: st)) : cp_G x E nL cells slots cnt sh I R pc L st := fun H locs ls hW hS hl => lv_ldc2 O.1 O.2.1 O.2.2.2.1 (O.2.2.2.2.1 _ hw) hd (k H locs ls hW hS hl)
theorem cp_iload_n (O : cp_Ok x E own bc nL d mc ms) {n : Fin 4} {a : Int32} (hd : decode bc pc = .ok (.iload_n n, 1)) (hg : L[(n : Nat)]? = some (some (.int a))) (k : cp_G x E nL cells slots cnt sh I R (pc + 1) L (.int a :: st)) : cp_G x E nL cells slots cnt sh I R pc L st := fun H locs ls hW hS hl => lv_iload_n O.1 O.2.1 hd rfl (cp_lH_at hl hg) (k H locs ls hW hS hl)
theorem cp_iload (O : cp_Ok x E own bc nL d mc ms) {n : Nat} {a : Int32} (hd : decode bc pc = .ok (.iload n, 2)) (hg : L[n]? = some (some (.int a))) (k : cp_G x E nL cells slots cnt sh I R (pc + 2) L (.int a :: st)) : cp_G x E nL cells slots cnt sh I R pc L st := fun H locs ls hW hS hl => lv_iload O.1 O.2.1 hd (cp_lH_at hl hg) (k H locs ls hW hS hl)
theorem cp_lload_n (O : cp_Ok x E own bc nL d mc ms) {n : Fin 4} {a : Int64} (hd : decode bc pc = .ok (.lload_n n, 1)) (hg : L[(n : Nat)]? = some (some (.long a))) (k : cp_G x E nL cells slots cnt sh I R (pc + 1) L (.long a :: st)) : cp_G x E nL cells slots cnt sh I R pc L st := fun H locs ls hW hS hl => lv_lload_n O.1 O.2.1 hd rfl (cp_lH_at hl hg) (k H locs ls hW hS hl)
theorem cp_lload (O : cp_Ok x E own bc nL d mc ms) {n : Nat} {a : Int64} (hd : decode bc pc = .ok (.lload n, 2)) (hg : L[n]? = some (some (.long a))) (k : cp_G x E nL cells slots cnt sh I R (pc + 2) L (.long a :: st)) : cp_G x E nL cells slots cnt sh I R pc L st := fun H locs ls hW hS hl => lv_lload O.1 O.2.1 hd (cp_lH_at hl hg) (k H locs ls hW hS hl)
theorem cp_aload_n (O : cp_Ok x E own bc nL d mc ms) {n : Fin 4} {a : Nat} (hd : decode bc pc = .ok (.aload_n n, 1)) (hg : L[(n : Nat)]? = some (some (.ref a))) (k : cp_G x E nL cells slots cnt sh I R (pc + 1) L (.ref a :: st)) : cp_G x E nL cells slots cnt sh I R pc L st := fun H locs ls hW hS hl => lv_aload_n O.1 O.2.1 hd rfl (cp_lH_at hl hg) (k H locs ls hW hS hl)
theorem cp_aload (O : cp_Ok x E own bc nL d mc ms) {n : Nat} {a : Nat} (hd : decode bc pc = .ok (.aload n, 2)) (hg : L[n]? = some (some (.ref a))) (k : cp_G x E nL cells slots cnt sh I R (pc + 2) L (.ref a :: st)) : cp_G x E nL cells slots cnt sh I R pc L st := fun H locs ls hW hS hl => lv_aload O.1 O.2.1 hd (cp_lH_at hl hg) (k H locs ls hW hS hl)
theorem cp_aload_nN (O : cp_Ok x E own bc nL d mc ms) {n : Fin 4} (hd : decode bc pc = .ok (.aload_n n, 1)) (hg : L[(n : Nat)]? = some (some .null)) (k : cp_G x E nL cells slots cnt sh I R (pc + 1) L (.null :: st)) : cp_G x E nL cells slots cnt sh I R pc L st := fun H locs ls hW hS hl => lv_aload_nN O.1 O.2.1 hd rfl (cp_lH_at hl hg) (k H locs ls hW hS hl)
theorem cp_istore_n (O : cp_Ok x E own bc nL d mc ms) {n : Fin 4} {a : Int32} {L' : List (Option Value)} (hd : decode bc pc = .ok (.istore_n n, 1)) (hn : (n : Nat) < nL) (hs : cp_ls L (n : Nat) (.int a) L') (k : cp_G x E nL cells slots cnt sh I R (pc + 1) L' st) : cp_G x E nL cells slots cnt sh I R pc L (.int a :: st) := fun H locs ls hW hS hl => lv_istore_n O.1 O.2.1 hd rfl hl hn rfl (fun ls' hl' => k H locs ls' hW hS (cp_lH_ls hl' hs))
theorem cp_istore (O : cp_Ok x E own bc nL d mc ms) {n : Nat} {a : Int32} {L' : List (Option Value)} (hd : decode bc pc = .ok (.istore n, 2)) (hn : n < nL) (hs : cp_ls L n (.int a) L') (k : cp_G x E nL cells slots cnt sh I R (pc + 2) L' st) : cp_G x E nL cells slots cnt sh I R pc L (.int a :: st) := fun H locs ls hW hS hl => lv_istore O.1 O.2.1 hd hl hn rfl (fun ls' hl' => k H locs ls' hW hS (cp_lH_ls hl' hs))
theorem cp_astore_n (O : cp_Ok x E own bc nL d mc ms) {n : Fin 4} {a : Nat} {L' : List (Option Value)} (hd : decode bc pc = .ok (.astore_n n, 1)) (hn : (n : Nat) < nL) (hs : cp_ls L (n : Nat) (.ref a) L') (k : cp_G x E nL cells slots cnt sh I R (pc + 1) L' st) : cp_G x E nL cells slots cnt sh I R pc L (.ref a :: st) := fun H locs ls hW hS hl => lv_astore_n O.1 O.2.1 hd rfl hl hn rfl (fun ls' hl' => k H locs ls' hW hS (cp_lH_ls hl' hs))
theorem cp_astore (O : cp_Ok x E own bc nL d mc ms) {n : Nat} {a : Nat} {L' : List (Option Value)} (hd : decode bc pc = .ok (.astore n, 2)) (hn : n < nL) (hs : cp_ls L n (.ref a) L') (k : cp_G x E nL cells slots cnt sh I R (pc + 2) L' st) : cp_G x E nL cells slots cnt sh I R pc L (.ref a :: st) := fun H locs ls hW hS hl => lv_astore O.1 O.2.1 hd hl hn rfl (fun ls' hl' => k H locs ls' hW hS (cp_lH_ls hl' hs))
theorem cp_astore_nN (O : cp_Ok x E own bc nL d mc ms) {n : Fin 4} {L' : List (Option Value)} (hd : decode bc pc = .ok (.astore_n n, 1)) (hn : (n : Nat) < nL) (hs : cp_ls L (n : Nat) .null L') (k : cp_G x E nL cells slots cnt sh I R (pc + 1) L' st) : cp_G x E nL cells slots cnt sh I R pc L (.null :: st) := fun H locs ls hW hS hl => lv_astore_nN O.1 O.2.1 hd rfl hl hn rfl (fun ls' hl' => k H locs ls' hW hS (cp_lH_ls hl' hs))
theorem cp_iinc (O : cp_Ok x E own bc nL d mc ms) {i : Nat} {n : Int} {a v : Int32} {L' : List (Option Value)} (hd : decode bc pc = .ok (.iinc i n, 3)) (hg : L[i]? = some (some (.int a))) (hv : a + Int32.ofInt n = v) (hn : i < nL) (hs : cp_ls L i (.int v) L') (k : cp_G x E nL cells slots cnt sh I R (pc + 3) L' st) : cp_G x E nL cells slots cnt sh I R pc L st := fun H locs ls hW hS hl => by
  obtain ⟨q, hq⟩ := List.getElem?_of_mem ((cp_lq_in L 0 i (.int a)).mpr ⟨Nat.zero_le _, hg⟩)
  exact lv_iinc O.1 O.2.1 hd hl hq hv hn rfl (fun ls' hl' => k H locs ls' hW hS (cp_lH_ls hl' hs))
def cp_lls (L : List (Option Value)) (i : Nat) (v : Value) (L' : List (Option Value)) : Prop := i + 1 < L.length ∧ L' = (L.set i (some v)).set (i + 1) none ∧ (∀ w, 0 < i → L[i - 1]? = some w → cp_nl w = true)
theorem cp_lH_ls2 {ls : Array Slot} {nL : Nat} {L L' : List (Option Value)} {i : Nat} {v : Value} (h : lv_has ls nL ((i, v) :: (cp_lq 0 L).filter (fun q => !(q.1 == i) && (!(q.1 == i + 1) && !(q.1 + 1 == i && q.2.category == 2))))) (hs : cp_lls L i v L') : cp_lH ls nL L' := by
  obtain ⟨h1, h2, h3⟩ := hs
  refine ⟨h.1, h.2.1, fun q hq => ?_⟩
  obtain ⟨j, w⟩ := q
  have hj := ((cp_lq_in L' 0 j w).mp hq).2
  rw [Nat.sub_zero, h2] at hj
  by_cases hj2 : j = i + 1
  · subst hj2
    rw [List.getElem?_set_self (by rw [List.length_set]; omega)] at hj
    cases hj
  · rw [List.getElem?_set_ne (Ne.symm hj2)] at hj
    by_cases hji : j = i
    · subst hji
      rw [List.getElem?_set_self (by omega)] at hj
      cases hj
      exact h.2.2 _ List.mem_cons_self
    · rw [List.getElem?_set_ne (Ne.symm hji)] at hj
      refine h.2.2 (j, w) (List.mem_cons_of_mem _ (List.mem_filter.mpr ⟨(cp_lq_in L 0 j w).mpr ⟨Nat.zero_le _, hj⟩, ?_⟩))
      by_cases hk : j + 1 = i
      · have h4 := h3 (some w) (by omega) (by rw [show i - 1 = j by omega]; exact hj)
        cases w <;> simp_all [cp_nl, Value.category]
      · simp [hji, hk, hj2]
theorem cp_lls0 {b c : Option Value} {t : List (Option Value)} {v : Value} : cp_lls (b :: c :: t) 0 v (some v :: none :: t) := ⟨by simp, rfl, fun w h _ => absurd h (by omega)⟩
theorem cp_lls1 {b c : Option Value} {t : List (Option Value)} {v : Value} {a0 : Option Value} (h : cp_nl a0 = true) : cp_lls (a0 :: b :: c :: t) 1 v (a0 :: some v :: none :: t) := ⟨by simp, rfl, fun w _ hw => by simp at hw; rw [← hw]; exact h⟩
theorem cp_lls2 {b c : Option Value} {t : List (Option Value)} {v : Value} {a0 : Option Value} {a1 : Option Value} (h : cp_nl a1 = true) : cp_lls (a0 :: a1 :: b :: c :: t) 2 v (a0 :: a1 :: some v :: none :: t) := ⟨by simp, rfl, fun w _ hw => by simp at hw; rw [← hw]; exact h⟩
theorem cp_lls3 {b c : Option Value} {t : List (Option Value)} {v : Value} {a0 : Option Value} {a1 : Option Value} {a2 : Option Value} (h : cp_nl a2 = true) : cp_lls (a0 :: a1 :: a2 :: b :: c :: t) 3 v (a0 :: a1 :: a2 :: some v :: none :: t) := ⟨by simp, rfl, fun w _ hw => by simp at hw; rw [← hw]; exact h⟩
theorem cp_lls4 {b c : Option Value} {t : List (Option Value)} {v : Value} {a0 : Option Value} {a1 : Option Value} {a2 : Option Value} {a3 : Option Value} (h : cp_nl a3 = true) : cp_lls (a0 :: a1 :: a2 :: a3 :: b :: c :: t) 4 v (a0 :: a1 :: a2 :: a3 :: some v :: none :: t) := ⟨by simp, rfl, fun w _ hw => by simp at hw; rw [← hw]; exact h⟩
theorem cp_lls5 {b c : Option Value} {t : List (Option Value)} {v : Value} {a0 : Option Value} {a1 : Option Value} {a2 : Option Value} {a3 : Option Value} {a4 : Option Value} (h : cp_nl a4 = true) : cp_lls (a0 :: a1 :: a2 :: a3 :: a4 :: b :: c :: t) 5 v (a0 :: a1 :: a2 :: a3 :: a4 :: some v :: none :: t) := ⟨by simp, rfl, fun w _ hw => by simp at hw; rw [← hw]; exact h⟩
theorem cp_lls6 {b c : Option Value} {t : List (Option Value)} {v : Value} {a0 : Option Value} {a1 : Option Value} {a2 : Option Value} {a3 : Option Value} {a4 : Option Value} {a5 : Option Value} (h : cp_nl a5 = true) : cp_lls (a0 :: a1 :: a2 :: a3 :: a4 :: a5 :: b :: c :: t) 6 v (a0 :: a1 :: a2 :: a3 :: a4 :: a5 :: some v :: none :: t) := ⟨by simp, rfl, fun w _ hw => by simp at hw; rw [← hw]; exact h⟩
theorem cp_lls7 {b c : Option Value} {t : List (Option Value)} {v : Value} {a0 : Option Value} {a1 : Option Value} {a2 : Option Value} {a3 : Option Value} {a4 : Option Value} {a5 : Option Value} {a6 : Option Value} (h : cp_nl a6 = true) : cp_lls (a0 :: a1 :: a2 :: a3 :: a4 :: a5 :: a6 :: b :: c :: t) 7 v (a0 :: a1 :: a2 :: a3 :: a4 :: a5 :: a6 :: some v :: none :: t) := ⟨by simp, rfl, fun w _ hw => by simp at hw; rw [← hw]; exact h⟩
theorem cp_lstore_n (O : cp_Ok x E own bc nL d mc ms) {n : Fin 4} {a : Int64} {L' : List (Option Value)} (hd : decode bc pc = .ok (.lstore_n n, 1)) (hn : (n : Nat) + 1 < nL) (hs : cp_lls L (n : Nat) (.long a) L') (k : cp_G x E nL cells slots cnt sh I R (pc + 1) L' st) : cp_G x E nL cells slots cnt sh I R pc L (.long a :: st) := fun H locs ls hW hS hl => lv_lstore_n O.1 O.2.1 hd rfl hl hn rfl (fun ls' hl' => k H locs ls' hW hS (cp_lH_ls2 hl' hs))
theorem cp_lstore (O : cp_Ok x E own bc nL d mc ms) {n : Nat} {a : Int64} {L' : List (Option Value)} (hd : decode bc pc = .ok (.lstore n, 2)) (hn : n + 1 < nL) (hs : cp_lls L n (.long a) L') (k : cp_G x E nL cells slots cnt sh I R (pc + 2) L' st) : cp_G x E nL cells slots cnt sh I R pc L (.long a :: st) := fun H locs ls hW hS hl => lv_lstore O.1 O.2.1 hd hl hn rfl (fun ls' hl' => k H locs ls' hW hS (cp_lH_ls2 hl' hs))
theorem cp_if_eq (O : cp_Ok x E own bc nL d mc ms) {a : Int32} {off : Int} {tgt : Nat} (hd : decode bc pc = .ok (.ifCond .eq off, 3)) (ht : (pc : Int) + off = (tgt : Int)) (kt : a = 0 → cp_G x E nL cells slots cnt sh I R tgt L st) (kf : ¬ a = 0 → cp_G x E nL cells slots cnt sh I R (pc + 3) L st) : cp_G x E nL cells slots cnt sh I R pc L (.int a :: st) := fun H locs ls hW hS hl => lv_if_eq O.1 O.2.1 hd ht (fun h => kt h H locs ls hW hS hl) (fun h => kf h H locs ls hW hS hl)
theorem cp_icmp_eq (O : cp_Ok x E own bc nL d mc ms) {a b : Int32} {off : Int} {tgt : Nat} (hd : decode bc pc = .ok (.if_icmp .eq off, 3)) (ht : (pc : Int) + off = (tgt : Int)) (kt : a = b → cp_G x E nL cells slots cnt sh I R tgt L st) (kf : ¬ a = b → cp_G x E nL cells slots cnt sh I R (pc + 3) L st) : cp_G x E nL cells slots cnt sh I R pc L (.int b :: .int a :: st) := fun H locs ls hW hS hl => lv_icmp_eq O.1 O.2.1 hd ht (fun h => kt h H locs ls hW hS hl) (fun h => kf h H locs ls hW hS hl)
theorem cp_if_ne (O : cp_Ok x E own bc nL d mc ms) {a : Int32} {off : Int} {tgt : Nat} (hd : decode bc pc = .ok (.ifCond .ne off, 3)) (ht : (pc : Int) + off = (tgt : Int)) (kt : ¬ a = 0 → cp_G x E nL cells slots cnt sh I R tgt L st) (kf : a = 0 → cp_G x E nL cells slots cnt sh I R (pc + 3) L st) : cp_G x E nL cells slots cnt sh I R pc L (.int a :: st) := fun H locs ls hW hS hl => lv_if_ne O.1 O.2.1 hd ht (fun h => kt h H locs ls hW hS hl) (fun h => kf h H locs ls hW hS hl)
theorem cp_icmp_ne (O : cp_Ok x E own bc nL d mc ms) {a b : Int32} {off : Int} {tgt : Nat} (hd : decode bc pc = .ok (.if_icmp .ne off, 3)) (ht : (pc : Int) + off = (tgt : Int)) (kt : ¬ a = b → cp_G x E nL cells slots cnt sh I R tgt L st) (kf : a = b → cp_G x E nL cells slots cnt sh I R (pc + 3) L st) : cp_G x E nL cells slots cnt sh I R pc L (.int b :: .int a :: st) := fun H locs ls hW hS hl => lv_icmp_ne O.1 O.2.1 hd ht (fun h => kt h H locs ls hW hS hl) (fun h => kf h H locs ls hW hS hl)
theorem cp_if_lt (O : cp_Ok x E own bc nL d mc ms) {a : Int32} {off : Int} {tgt : Nat} (hd : decode bc pc = .ok (.ifCond .lt off, 3)) (ht : (pc : Int) + off = (tgt : Int)) (kt : a < 0 → cp_G x E nL cells slots cnt sh I R tgt L st) (kf : ¬ a < 0 → cp_G x E nL cells slots cnt sh I R (pc + 3) L st) : cp_G x E nL cells slots cnt sh I R pc L (.int a :: st) := fun H locs ls hW hS hl => lv_if_lt O.1 O.2.1 hd ht (fun h => kt h H locs ls hW hS hl) (fun h => kf h H locs ls hW hS hl)
theorem cp_icmp_lt (O : cp_Ok x E own bc nL d mc ms) {a b : Int32} {off : Int} {tgt : Nat} (hd : decode bc pc = .ok (.if_icmp .lt off, 3)) (ht : (pc : Int) + off = (tgt : Int)) (kt : a < b → cp_G x E nL cells slots cnt sh I R tgt L st) (kf : ¬ a < b → cp_G x E nL cells slots cnt sh I R (pc + 3) L st) : cp_G x E nL cells slots cnt sh I R pc L (.int b :: .int a :: st) := fun H locs ls hW hS hl => lv_icmp_lt O.1 O.2.1 hd ht (fun h => kt h H locs ls hW hS hl) (fun h => kf h H locs ls hW hS hl)
theorem cp_if_ge (O : cp_Ok x E own bc nL d mc ms) {a : Int32} {off : Int} {tgt : Nat} (hd : decode bc pc = .ok (.ifCond .ge off, 3)) (ht : (pc : Int) + off = (tgt : Int)) (kt : 0 ≤ a → cp_G x E nL cells slots cnt sh I R tgt L st) (kf : ¬ 0 ≤ a → cp_G x E nL cells slots cnt sh I R (pc + 3) L st) : cp_G x E nL cells slots cnt sh I R pc L (.int a :: st) := fun H locs ls hW hS hl => lv_if_ge O.1 O.2.1 hd ht (fun h => kt h H locs ls hW hS hl) (fun h => kf h H locs ls hW hS hl)
theorem cp_icmp_ge (O : cp_Ok x E own bc nL d mc ms) {a b : Int32} {off : Int} {tgt : Nat} (hd : decode bc pc = .ok (.if_icmp .ge off, 3)) (ht : (pc : Int) + off = (tgt : Int)) (kt : b ≤ a → cp_G x E nL cells slots cnt sh I R tgt L st) (kf : ¬ b ≤ a → cp_G x E nL cells slots cnt sh I R (pc + 3) L st) : cp_G x E nL cells slots cnt sh I R pc L (.int b :: .int a :: st) := fun H locs ls hW hS hl => lv_icmp_ge O.1 O.2.1 hd ht (fun h => kt h H locs ls hW hS hl) (fun h => kf h H locs ls hW hS hl)
theorem cp_if_gt (O : cp_Ok x E own bc nL d mc ms) {a : Int32} {off : Int} {tgt : Nat} (hd : decode bc pc = .ok (.ifCond .gt off, 3)) (ht : (pc : Int) + off = (tgt : Int)) (kt : 0 < a → cp_G x E nL cells slots cnt sh I R tgt L st) (kf : ¬ 0 < a → cp_G x E nL cells slots cnt sh I R (pc + 3) L st) : cp_G x E nL cells slots cnt sh I R pc L (.int a :: st) := fun H locs ls hW hS hl => lv_if_gt O.1 O.2.1 hd ht (fun h => kt h H locs ls hW hS hl) (fun h => kf h H locs ls hW hS hl)
theorem cp_icmp_gt (O : cp_Ok x E own bc nL d mc ms) {a b : Int32} {off : Int} {tgt : Nat} (hd : decode bc pc = .ok (.if_icmp .gt off, 3)) (ht : (pc : Int) + off = (tgt : Int)) (kt : b < a → cp_G x E nL cells slots cnt sh I R tgt L st) (kf : ¬ b < a → cp_G x E nL cells slots cnt sh I R (pc + 3) L st) : cp_G x E nL cells slots cnt sh I R pc L (.int b :: .int a :: st) := fun H locs ls hW hS hl => lv_icmp_gt O.1 O.2.1 hd ht (fun h => kt h H locs ls hW hS hl) (fun h => kf h H locs ls hW hS hl)
theorem cp_if_le (O : cp_Ok x E own bc nL d mc ms) {a : Int32} {off : Int} {tgt : Nat} (hd : decode bc pc = .ok (.ifCond .le off, 3)) (ht : (pc : Int) + off = (tgt : Int)) (kt : a ≤ 0 → cp_G x E nL cells slots cnt sh I R tgt L st) (kf : ¬ a ≤ 0 → cp_G x E nL cells slots cnt sh I R (pc + 3) L st) : cp_G x E nL cells slots cnt sh I R pc L (.int a :: st) := fun H locs ls hW hS hl => lv_if_le O.1 O.2.1 hd ht (fun h => kt h H locs ls hW hS hl) (fun h => kf h H locs ls hW hS hl)
theorem cp_icmp_le (O : cp_Ok x E own bc nL d mc ms) {a b : Int32} {off : Int} {tgt : Nat} (hd : decode bc pc = .ok (.if_icmp .le off, 3)) (ht : (pc : Int) + off = (tgt : Int)) (kt : a ≤ b → cp_G x E nL cells slots cnt sh I R tgt L st) (kf : ¬ a ≤ b → cp_G x E nL cells slots cnt sh I R (pc + 3) L st) : cp_G x E nL cells slots cnt sh I R pc L (.int b :: .int a :: st) := fun H locs ls hW hS hl => lv_icmp_le O.1 O.2.1 hd ht (fun h => kt h H locs ls hW hS hl) (fun h => kf h H locs ls hW hS hl)
theorem cp_goto (O : cp_Ok x E own bc nL d mc ms) {off : Int} {tgt : Nat} (hd : decode bc pc = .ok (.goto off, 3)) (ht : (pc : Int) + off = (tgt : Int)) (k : cp_G x E nL cells slots cnt sh I R tgt L st) : cp_G x E nL cells slots cnt sh I R pc L st := fun H locs ls hW hS hl => lv_goto O.1 O.2.1 hd ht (k H locs ls hW hS hl)
theorem cp_ifnonnull (O : cp_Ok x E own bc nL d mc ms) {a : Nat} {off : Int} {tgt : Nat} (hd : decode bc pc = .ok (.ifnonnull off, 3)) (ht : (pc : Int) + off = (tgt : Int)) (k : cp_G x E nL cells slots cnt sh I R tgt L st) : cp_G x E nL cells slots cnt sh I R pc L (.ref a :: st) := fun H locs ls hW hS hl => lv_ifnonnull O.1 O.2.1 hd ht (k H locs ls hW hS hl)
theorem cp_ifnonnullN (O : cp_Ok x E own bc nL d mc ms) {off : Int} (hd : decode bc pc = .ok (.ifnonnull off, 3)) (k : cp_G x E nL cells slots cnt sh I R (pc + 3) L st) : cp_G x E nL cells slots cnt sh I R pc L (.null :: st) := fun H locs ls hW hS hl => lv_ifnonnullN O.1 O.2.1 hd (k H locs ls hW hS hl)
theorem cp_tableOut (O : cp_Ok x E own bc nL d mc ms) {dflt lo hi : Int} {offs : Array Int} {len tgt : Nat} {a : Int32} (hd : decode bc pc = .ok (.tableswitch dflt lo hi offs, len)) (h : a.toInt < lo ∨ hi < a.toInt) (ht : (pc : Int) + dflt = (tgt : Int)) (k : cp_G x E nL cells slots cnt sh I R tgt L st) : cp_G x E nL cells slots cnt sh I R pc L (.int a :: st) := fun H locs ls hW hS hl => lv_tableOut O.1 O.2.1 hd h ht (k H locs ls hW hS hl)
theorem cp_tableIn (O : cp_Ok x E own bc nL d mc ms) {dflt lo hi off : Int} {offs : Array Int} {len tgt : Nat} {a : Int32} (hd : decode bc pc = .ok (.tableswitch dflt lo hi offs, len)) (h1 : ¬ a.toInt < lo) (h2 : ¬ hi < a.toInt) (ho : offs[(a.toInt - lo).toNat]? = some off) (ht : (pc : Int) + off = (tgt : Int)) (k : cp_G x E nL cells slots cnt sh I R tgt L st) : cp_G x E nL cells slots cnt sh I R pc L (.int a :: st) := fun H locs ls hW hS hl => lv_tableIn O.1 O.2.1 hd h1 h2 ho ht (k H locs ls hW hS hl)
end CPR
end
section
/-! MEMORY: fields, arrays, tables -/
def cp_clf (ci : Nat) (C : String) (T : u_T) (N : Nat) (ty0 : Nat → FieldType) : Prop := vwCl[ci]? = some (C, T, N) ∧ (∀ w ∈ u_ws C T N, w ∈ cp_TG) ∧ (∀ k, k < N → parseFieldDescriptor (T k).2.2.1 = some (ty0 k)) ∧ (∀ a, a < N → ∀ b, b < N → a ≠ b → (T a).2.1 ≠ (T b).2.1) ∧ ci < 8 ∧ cp_nf ci = N
def cp_lk (own : String) (index : Nat) (T : u_T) (j : Nat) : Prop := Cond.fieldLink own index (T j).1 (T j).2.1 (T j).2.2.1 ∈ cp_TG
theorem cp_e_obj (cs : Nat → ClassId) (ci : Nat) (i : Nat → Int32) (r : Nat → Option Nat) (h : ci < 8) : cp_e cs (ci + 1, 0) i r = .inr (ci, cp_fs ci i r) := by
  unfold cp_e
  rw [if_pos (show (ci + 1, 0).1 ≤ 8 from h)]
  rfl
theorem cp_narb {v : Int32} (h : v = 0 ∨ v = 1) : narrow .boolean (.int v) = .int v ∧ fits .boolean (.int v) = true := by
  rcases h with rfl | rfl <;> exact ⟨rfl, rfl⟩
section CPM
variable {x : cp_Cx} {E : cp_En} {own : String} {bc : ByteArray} {nL d mc ms : Nat} {cells slots cnt : Nat} {sh : cp_Shp} {I : cp_Mem} {R : cp_Rem} {pc : Nat} {L : List (Option Value)} {st : List Value}
theorem cp_PW_in {H : Heap} (hW : cp_PW E cnt sh I R H) {a k n : Nat} (hs : sh a = (k + 1, n)) : cp_b0 E ≤ a ∧ a < cp_b0 E + cnt := (hW.1 a).mp (by rw [hs]; simp)
theorem cp_get (O : cp_Ok x E own bc nL d mc ms) {ci j index a : Nat} {C : String} {T : u_T} {N : Nat} {ty0 : Nat → FieldType} (hc : cp_clf ci C T N ty0) (hj : j < N) (hlk : cp_lk own index T j) (hs : sh a = (ci + 1, 0)) (hd : decode bc pc = .ok (.getfield index, 3))
    (k : cp_G x E nL cells slots cnt sh I R (pc + 3) L (cp_fv ci (I a) (R a) j :: st)) : cp_G x E nL cells slots cnt sh I R pc L (.ref a :: st) := by
  intro H locs ls hW hS hl
  obtain ⟨c1, c2, c3, c4, c5, c6⟩ := hc
  have ha := cp_PW_in hW hs
  have he := cp_WL_at E cnt sh I R ha
  rw [hs, cp_e_obj _ _ _ _ c5] at he
  exact va_get O.1 O.2.1 O.2.2.2.2.1 c2 O.2.2.2.1 O.2.2.2.2.2.1.1 hW.2.2 _ he c1 j hj (O.2.2.2.2.1 _ hlk) (fun _ h => h) (cp_fs_get ci _ _ (by rw [c6]; exact hj)) hd (k H locs ls hW hS hl)
theorem cp_getr (O : cp_Ok x E own bc nL d mc ms) {ci j index a y : Nat} {C : String} {T : u_T} {N : Nat} {ty0 : Nat → FieldType} (hc : cp_clf ci C T N ty0) (hj : j < N) (hlk : cp_lk own index T j) (hrf : cp_rf ci j = true) (hs : sh a = (ci + 1, 0)) (hr : R a j = some y) (hd : decode bc pc = .ok (.getfield index, 3))
    (k : cp_G x E nL cells slots cnt sh I R (pc + 3) L (.ref y :: st)) : cp_G x E nL cells slots cnt sh I R pc L (.ref a :: st) := by
  refine cp_get O hc hj hlk hs hd ?_
  rw [show cp_fv ci (I a) (R a) j = .ref y by unfold cp_fv; rw [if_pos hrf, hr]; rfl]
  exact k
/-- a number in a field -/
theorem cp_put (O : cp_Ok x E own bc nL d mc ms) {ci j index a : Nat} {v : Int32} {C : String} {T : u_T} {N : Nat} {ty0 : Nat → FieldType} (hc : cp_clf ci C T N ty0) (hj : j < N) (hlk : cp_lk own index T j) (hfin : (T j).2.2.2 = false) {ty : FieldType} (hd0 : parseFieldDescriptor (T j).2.2.1 = some ty) (hn : narrow ty (.int v) = .int v ∧ fits ty (.int v) = true) (hrf : cp_rf ci j = false) (hs : sh a = (ci + 1, 0)) (hd : decode bc pc = .ok (.putfield index, 3))
    (k : cp_G x E nL cells slots cnt sh (cp_wi I a j v) R (pc + 3) L st) : cp_G x E nL cells slots cnt sh I R pc L (.int v :: .ref a :: st) := by
  intro H locs ls hW hS hl
  obtain ⟨c1, c2, c3, c4, c5, c6⟩ := hc
  have ha := cp_PW_in hW hs
  have he := cp_WL_at E cnt sh I R ha
  rw [hs, cp_e_obj _ _ _ _ c5] at he
  have hK := O.2.2.2.2.2.1.1
  have hts := O.2.2.2.2.1
  have hD := cp_WL_D E cnt sh I R
  have hap := va_apart (own := own) hts c2 ty0 c3 c4 hK c1
  obtain ⟨r, h1, cell, q1, q2, q3, q4⟩ := hW.2.2 _ _ he
  have hr : r = (C, T, N) := Option.some.inj (h1.symm.trans c1)
  subst hr
  obtain ⟨hSl, hfc, kC, hkC, hkind⟩ := hK.1 ci _ c1
  obtain ⟨cf, kf, fi, f, hi, hsl⟩ := hSl j hj
  have hlay := hts _ (c2 _ (u_in_lay hj))
  unfold u_lay at hlay
  rw [if_neg (by rw [hfin]; decide)] at hlay
  have hst := (u_facts hfc hkC (u_lays hts c2 hj) hi).1
  have h6 := u_store hfc hkC hkind hlay hi hd0 hn.1 hn.2
  refine W.putK O.1 O.2.1 (f := f) ⟨O.2.2.2.1, O.2.2.2.2.1 _ hlk, ⟨_, _, _, hi⟩, hst⟩ (by rw [q2]; exact h6) q1 q3 (by rw [hsl]; exact k2_hasslot (q4 j hj)) rfl rfl hd fun H' e1 e2 e3 => ?_
  rw [hsl] at e1 ⊢
  have hlen : j < (cp_fs ci (I a) (R a)).length := by rw [cp_fs_len, c6]; exact hj
  have hP := hW.2.2.set (H1 := H') (e := .inr (ci, (cp_fs ci (I a) (R a)).set j (.int v))) hD he ⟨_, c1, t_OB.to (V := updV (vp_V (cp_fs ci (I a) (R a))) j (.int v)) ⟨_, e1, q2, q3, t_set q4 hap hj (.int v)⟩ (fun i _ => vp_updV_set hlen (.int v) i)⟩ e3
  rw [cp_WL_set (I' := cp_wi I a j v) (R' := R) ha (by
    rw [hs, cp_e_obj _ _ _ _ c5, cp_fs_set ci (i' := cp_wi I a j v a) (r' := R a) (by unfold cp_fv; rw [if_neg (by rw [hrf]; decide), cp_wi_s]) (fun q hq => by unfold cp_fv; simp [cp_wi, hq])]) (fun q hq => ⟨cp_wi_a I a j v hq, rfl⟩)] at hP
  exact k H' _ ls ⟨hW.1, by rw [e2]; exact hW.2.1, hP⟩ (hS.put e2 e3 ha.1) hl
/-- arrays of numbers -/
theorem cp_e_int (cs : Nat → ClassId) (n : Nat) (i : Nat → Int32) (r : Nat → Option Nat) : cp_e cs (9, n) i r = .inl (cs 9, n, .inl i) := by
  simp [cp_e]
theorem cp_e_chr (cs : Nat → ClassId) (n : Nat) (i : Nat → Int32) (r : Nat → Option Nat) : cp_e cs (10, n) i r = .inl (cs 10, n, .inl i) := by
  simp [cp_e]
theorem cp_e_ref (cs : Nat → ClassId) (k n : Nat) (i : Nat → Int32) (r : Nat → Option Nat) (h : 10 < k) : cp_e cs (k, n) i r = .inl (cs k, n, .inr (.inr (.inr (.inr r)))) := by
  simp [cp_e, show ¬ k ≤ 8 by omega, show ¬ k ≤ 10 by omega]
theorem cp_iald (O : cp_Ok x E own bc nL d mc ms) {a n j : Nat} {i : Int32} (hs : sh a = (9, n)) (hi : i = nI j) (hj : j < n) (hn : n < 2 ^ 31) (hd : decode bc pc = .ok (.iaload, 1))
    (k : cp_G x E nL cells slots cnt sh I R (pc + 1) L (.int (I a j) :: st)) : cp_G x E nL cells slots cnt sh I R pc L (.int i :: .ref a :: st) := by
  intro H locs ls hW hS hl
  have ha := cp_PW_in hW hs
  have he := cp_WL_at E cnt sh I R ha
  rw [hs, cp_e_int] at he
  subst hi
  refine va_iald O.1 O.2.1 O.2.2.2.2.2.1.1 hW.2.2 _ 0 he rfl (vp_in_nI hj hn) hd ?_
  rw [nI_clamp (Nat.lt_trans hj hn)]
  exact k H locs ls hW hS hl
theorem cp_cald (O : cp_Ok x E own bc nL d mc ms) {a n j : Nat} {i : Int32} (hs : sh a = (10, n)) (hi : i = nI j) (hj : j < n) (hn : n < 2 ^ 31) (hd : decode bc pc = .ok (.caload, 1))
    (k : cp_G x E nL cells slots cnt sh I R (pc + 1) L (.int (I a j) :: st)) : cp_G x E nL cells slots cnt sh I R pc L (.int i :: .ref a :: st) := by
  intro H locs ls hW hS hl
  have ha := cp_PW_in hW hs
  have he := cp_WL_at E cnt sh I R ha
  rw [hs, cp_e_chr] at he
  subst hi
  refine va_cald O.1 O.2.1 O.2.2.2.2.2.1.1 hW.2.2 _ 1 he rfl (vp_in_nI hj hn) hd ?_
  rw [nI_clamp (Nat.lt_trans hj hn)]
  exact k H locs ls hW hS hl
theorem cp_refT {E : cp_En} {k : Nat} {C : String} (hk : (k = 11 ∧ C = "CopyPlates$Night") ∨ (k = 12 ∧ C = "CopyPlates$Piece") ∨ (k = 13 ∧ C = "CopyPlates$Plate")) : (cp_ty E)[k - 9]? = some (cp_cs E k, .object C) := by
  rcases hk with ⟨rfl, rfl⟩ | ⟨rfl, rfl⟩ | ⟨rfl, rfl⟩ <;> rfl
theorem cp_aald (O : cp_Ok x E own bc nL d mc ms) {a k n j : Nat} {i : Int32} {C : String} (hk : (k = 11 ∧ C = "CopyPlates$Night") ∨ (k = 12 ∧ C = "CopyPlates$Piece") ∨ (k = 13 ∧ C = "CopyPlates$Plate")) (hs : sh a = (k, n)) (hi : i = nI j) (hj : j < n) (hn : n < 2 ^ 31) (hd : decode bc pc = .ok (.aaload, 1))
    (kk : cp_G x E nL cells slots cnt sh I R (pc + 1) L (va_rf (R a j) :: st)) : cp_G x E nL cells slots cnt sh I R pc L (.int i :: .ref a :: st) := by
  intro H locs ls hW hS hl
  have h10 : 10 < k := by omega
  have ha := (hW.1 a).mp (by rw [hs]; show k ≠ 0; omega)
  have he := cp_WL_at E cnt sh I R ha
  rw [hs, cp_e_ref _ _ _ _ _ h10] at he
  subst hi
  refine va_aldq O.1 O.2.1 O.2.2.2.2.2.1.1 hW.2.2 _ (k - 9) he (cp_refT hk) (vp_in_nI hj hn) hd ?_
  rw [nI_clamp (Nat.lt_trans hj hn)]
  exact kk H locs ls hW hS hl
theorem cp_aaldr (O : cp_Ok x E own bc nL d mc ms) {a k n j y : Nat} {i : Int32} {C : String} (hk : (k = 11 ∧ C = "CopyPlates$Night") ∨ (k = 12 ∧ C = "CopyPlates$Piece") ∨ (k = 13 ∧ C = "CopyPlates$Plate")) (hs : sh a = (k, n)) (hi : i = nI j) (hj : j < n) (hn : n < 2 ^ 31) (hr : R a j = some y) (hd : decode bc pc = .ok (.aaload, 1))
    (kk : cp_G x E nL cells slots cnt sh I R (pc + 1) L (.ref y :: st)) : cp_G x E nL cells slots cnt sh I R pc L (.int i :: .ref a :: st) := by
  refine cp_aald O hk hs hi hj hn hd ?_
  rw [hr]
  exact kk
theorem cp_iast (O : cp_Ok x E own bc nL d mc ms) {a n j : Nat} {i v : Int32} (hs : sh a = (9, n)) (hi : i = nI j) (hj : j < n) (hn : n < 2 ^ 31) (hd : decode bc pc = .ok (.iastore, 1))
    (k : cp_G x E nL cells slots cnt sh (cp_wi I a j v) R (pc + 1) L st) : cp_G x E nL cells slots cnt sh I R pc L (.int v :: .int i :: .ref a :: st) := by
  intro H locs ls hW hS hl
  have ha := cp_PW_in hW hs
  have he := cp_WL_at E cnt sh I R ha
  rw [hs, cp_e_int] at he
  subst hi
  refine W.iast O.1 O.2.1 (hW.2.2 _ _ he) ((O.2.2.2.2.2.1.1.2 0 _ rfl).1 n (fun q => .int (I a q))) (fun q => by cases q) (by show ¬ (nI j < 0 ∨ (arrV _ _ _).slots.size ≤ _); rw [arrV_size]; exact vp_in_nI hj hn) rfl rfl hd fun H1 e z oq => ?_
  have hc : (nI j).toNatClampNeg = j := nI_clamp (Nat.lt_trans hj hn)
  have hP := hW.2.2.set (e := .inl (cp_cs E 9, n, .inl (cp_wi I a j v a))) (cp_WL_D E cnt sh I R) he (by
    show H1[a]? = some (vp_cell _ _)
    rw [e, vp_cell_i, vp_cell_i, arrV_store]
    congr 2
    funext q
    rw [hc]
    by_cases hq : q = j
    · subst hq; simp [updV, cp_wi]
    · simp [updV, cp_wi, hq]) oq
  rw [cp_WL_set (I' := cp_wi I a j v) (R' := R) ha (by rw [hs, cp_e_int]) (fun q hq => ⟨cp_wi_a I a j v hq, rfl⟩)] at hP
  exact k H1 _ ls ⟨hW.1, by rw [z]; exact hW.2.1, hP⟩ (hS.put z oq ha.1) hl
theorem cp_cast (O : cp_Ok x E own bc nL d mc ms) {a n j q0 : Nat} {i v : Int32} (hs : sh a = (10, n)) (hi : i = nI j) (hj : j < n) (hn : n < 2 ^ 31) (hv : v = nI q0) (hq0 : q0 < 65536) (hd : decode bc pc = .ok (.castore, 1))
    (k : cp_G x E nL cells slots cnt sh (cp_wi I a j v) R (pc + 1) L st) : cp_G x E nL cells slots cnt sh I R pc L (.int v :: .int i :: .ref a :: st) := by
  intro H locs ls hW hS hl
  have ha := cp_PW_in hW hs
  have he := cp_WL_at E cnt sh I R ha
  rw [hs, cp_e_chr] at he
  subst hi
  refine W.cast O.1 O.2.1 (hW.2.2 _ _ he) ((O.2.2.2.2.2.1.1.2 1 _ rfl).1 n (fun q => .int (I a q))) (fun q => by cases q) (by show ¬ (nI j < 0 ∨ (arrV _ _ _).slots.size ≤ _); rw [arrV_size]; exact vp_in_nI hj hn) rfl rfl hd fun H1 e z oq => ?_
  have hc : (nI j).toNatClampNeg = j := nI_clamp (Nat.lt_trans hj hn)
  have hP := hW.2.2.set (e := .inl (cp_cs E 10, n, .inl (cp_wi I a j v a))) (cp_WL_D E cnt sh I R) he (by
    show H1[a]? = some (vp_cell _ _)
    rw [e, hv, (pk_charN hq0).1, vp_cell_i, vp_cell_i, arrV_store]
    congr 2
    funext q
    rw [hc]
    by_cases hq : q = j
    · subst hq; simp [updV, cp_wi]
    · simp [updV, cp_wi, hq]) oq
  rw [cp_WL_set (I' := cp_wi I a j v) (R' := R) ha (by rw [hs, cp_e_chr]) (fun q hq => ⟨cp_wi_a I a j v hq, rfl⟩)] at hP
  exact k H1 _ ls ⟨hW.1, by rw [z]; exact hW.2.1, hP⟩ (hS.put z oq ha.1) hl
/-- the tables of numbers that nobody writes -/
theorem cp_gets (O : cp_Ok x E own bc nL d mc ms) {q index : Nat} (hq : q < 3) (hlk : Cond.fieldLink own index "CopyPlates" (cp_sn q) "[I" ∈ cp_TG) (hd : decode bc pc = .ok (.getstatic index, 3))
    (k : cp_G x E nL cells slots cnt sh I R (pc + 3) L (.ref (cp_ts E q) :: st)) : cp_G x E nL cells slots cnt sh I R pc L st := fun H locs ls hW hS hl =>
  va_gets O.1 O.2.1 (O.2.2.2.2.2.2.1 q hq).1 hS O.2.2.2.1 (O.2.2.2.2.1 _ hlk) (fun _ h => h) hd (k H locs ls hW hS hl)
theorem cp_getsN (O : cp_Ok x E own bc nL d mc ms) {q index : Nat} (hq : q < 3) (hlk : (own, index, cp_sn q) ∈ cp_nF) (hd : decode bc pc = .ok (.getstatic index, 3))
    (k : cp_G x E nL cells slots cnt sh I R (pc + 3) L (.ref (cp_ts E q) :: st)) : cp_G x E nL cells slots cnt sh I R pc L st := fun H locs ls hW hS hl =>
  va_getsN O.1 O.2.1 (O.2.2.2.2.2.2.1 q hq).1 hS O.2.2.2.1 (va_Nw.use rfl (O.2.2.2.2.2.1.2.1 _ hlk)) (fun _ h => h) hd (k H locs ls hW hS hl)
theorem cp_tald (O : cp_Ok x E own bc nL d mc ms) {q j : Nat} {i : Int32} (hq : q < 3) (hi : i = nI j) (hj : j < 4) (hd : decode bc pc = .ok (.iaload, 1))
    (k : cp_G x E nL cells slots cnt sh I R (pc + 1) L (.int (cp_sv q j) :: st)) : cp_G x E nL cells slots cnt sh I R pc L (.int i :: .ref (cp_ts E q) :: st) := fun H locs ls hW hS hl => by
  subst hi
  refine va_ti O.1 O.2.1 (O.2.2.2.2.2.2.1 q hq).2 hS (vp_in_nI hj (by decide)) (v := .int (cp_sv q j)) (by rw [nI_clamp (by omega)]) hd (k H locs ls hW hS hl)
end CPM
end
section
/-! CONTRACTS AND CALLS -/
def cp_Pre (E : cp_En) (cnt : Nat) (sh : cp_Shp) (I : cp_Mem) (R : cp_Rem) (U : State) : Prop := cp_PW E cnt sh I R U.heap ∧ cp_K E U ∧ cp_Z E U U.heap
def cp_Qc (E : cp_En) (Post : Option Value → Nat → cp_Shp → cp_Mem → cp_Rem → Prop) : Array Value → State → Outcome → State → Prop := fun _ st oc t => (∃ (v : Option Value) (cnt' : Nat) (sh' : cp_Shp) (I' : cp_Mem) (R' : cp_Rem), oc = .returned v ∧ Post v cnt' sh' I' R' ∧ cp_PW E cnt' sh' I' R' t.heap) ∧ va_F (cp_A E) st t
def cp_Ct (l : Launch) (E : cp_En) (y : MethodName) (bc : ByteArray) (nL : Nat) (ret : Option FieldType) (d mc ms : Nat) (as : List Value) (cnt : Nat) (sh : cp_Shp) (I : cp_Mem) (R : cp_Rem) (Post : Option Value → Nat → cp_Shp → cp_Mem → cp_Rem → Prop) : Prop :=
  Met l y (.code y bc nL ret :: cp_TG) (cp_rm d mc ms) (va_Pc as (cp_Pre E cnt sh I R)) (cp_Qc E Post) mc ms (cp_A E)
/-- a method that makes nothing: its answer and the numbers behind it -/
def cp_Fn (l : Launch) (E : cp_En) (y : MethodName) (bc : ByteArray) (nL : Nat) (ret : Option FieldType) (d : Nat) (as : List Value) (cnt : Nat) (sh : cp_Shp) (I : cp_Mem) (R : cp_Rem) (v : Option Value) (I' : cp_Mem) : Prop :=
  cp_Ct l E y bc nL ret d 0 0 as cnt sh I R (fun v' c s i r => v' = v ∧ c = cnt ∧ s = sh ∧ i = I' ∧ r = R)
theorem cp_Ct_of {l : Launch} {E : cp_En} {y : MethodName} {bc : ByteArray} {nL : Nat} {ret : Option FieldType} {d mc ms : Nat} {as : List Value} {cnt : Nat} {sh : cp_Shp} {I : cp_Mem} {R : cp_Rem} {Post : Option Value → Nat → cp_Shp → cp_Mem → cp_Rem → Prop} {L0 : List (Option Value)}
    (hy : plainName y.cls = true) (hlen : (lg_sl as).length ≤ nL) (hL : cp_lq 0 L0 = lv_args 0 as)
    (body : ∀ x : cp_Cx, cp_xl x = l → cp_Ok x E y.cls bc nL d mc ms → (y.name = "<init>" → (cp_xk x).name = "<init>") →
      (∀ (rt : FieldType) (v : Int32) (cnt' : Nat) (sh' : cp_Shp) (I' : cp_Mem) (R' : cp_Rem) (pc : Nat) (L : List (Option Value)), ret = some rt → narrow rt (.int v) = .int v → decode bc pc = .ok (.ireturn, 1) → Post (some (.int v)) cnt' sh' I' R' → cp_G x E nL mc ms cnt' sh' I' R' pc L [.int v]) →
      (∀ (cnt' : Nat) (sh' : cp_Shp) (I' : cp_Mem) (R' : cp_Rem) (pc : Nat) (L : List (Option Value)), ret = none → decode bc pc = .ok (.return_, 1) → Post none cnt' sh' I' R' → cp_G x E nL mc ms cnt' sh' I' R' pc L []) →
      cp_G x E nL 0 0 cnt sh I R 0 L0 []) : cp_Ct l E y bc nL ret d mc ms as cnt sh I R Post := by
  refine Met.ofW (cc := bc) (maxL := nL) (ret := ret) hy rfl ?_
  intro p e s m args below meth c s₁ B hml hv
  obtain ⟨rfl, hW, hK, hZ⟩ := hv
  have hts := atoms_spec (ws := .code y bc nL ret :: cp_TG) B.pre
  have hown : s.vm.findClass y.cls = some m.cls := findClass_of_methodNamed B.named
  have hlocks := B.notSynchronized
  rw [lg_entry_eq]
  have hl := lv_entry as hlen
  generalize (lg_sl as ++ List.replicate (nL - (lg_sl as).length) Slot.unset).toArray = ls at hl ⊢
  refine body (p, l, e, (headSpec (.code y bc nL ret :: cp_TG) (cp_rm d mc ms)).room, s, m, as.toArray, below, meth, c, MQ below (cp_Qc E Post) as.toArray s mc ms (cp_A E)) rfl
    ⟨B.exec, B.bytes, hml, hown, fun w hw => hts w (List.mem_cons_of_mem _ hw), hK, hZ, by rw [hW.2.1]; exact Nat.le_add_right _ _, Nat.le_refl _, Nat.le_refl _, Nat.le_refl _, Nat.le_refl _⟩ (fun hi => (name_of_methodNamed B.named B.method).1.trans hi) ?_ ?_ s.heap [] ls hW va_S.rf (by show lv_has ls nL (cp_lq 0 L0); rw [hL]; exact hl)
  · intro rt v cnt' sh' I' R' pc L hrt hn hd hp H locs ls' hW' hS hl'
    exact W.zret (Qc := cp_Qc E Post) B.exec B.bytes (B.returns.trans hrt) hn (fun t ht hw => ⟨⟨_, _, _, _, _, rfl, hp, by rw [ht]; exact hW'⟩, hS.F ht⟩) hS.2.2 hd
  · intro cnt' sh' I' R' pc L hrt hd hp H locs ls' hW' hS hl'
    exact W.vret (Qc := cp_Qc E Post) B.exec B.bytes (B.returns.trans hrt) (fun t ht hw => ⟨⟨_, _, _, _, _, rfl, hp, by rw [ht]; exact hW'⟩, hS.F ht⟩) hS.2.2 hd
/-- the same for a method that makes nothing: an int (a boolean, a character) comes back -/
theorem cp_Fn_i {l : Launch} {E : cp_En} {y : MethodName} {bc : ByteArray} {nL : Nat} {rt : FieldType} {d : Nat} {as : List Value} {cnt : Nat} {sh : cp_Shp} {I : cp_Mem} {R : cp_Rem} {r : Int32} {I' : cp_Mem} (L0 : List (Option Value))
    (hy : plainName y.cls = true) (hlen : (lg_sl as).length ≤ nL) (hL : cp_lq 0 L0 = lv_args 0 as) (hn : narrow rt (.int r) = .int r)
    (body : ∀ x : cp_Cx, cp_xl x = l → cp_Ok x E y.cls bc nL d 0 0 →
      (∀ (v : Int32) (I1 : cp_Mem) (pc : Nat) (L : List (Option Value)), decode bc pc = .ok (.ireturn, 1) → v = r → I1 = I' → cp_G x E nL 0 0 cnt sh I1 R pc L [.int v]) →
      cp_G x E nL 0 0 cnt sh I R 0 L0 []) : cp_Fn l E y bc nL (some rt) d as cnt sh I R (some (.int r)) I' :=
  cp_Ct_of hy hlen hL fun x h1 h2 _ h4 _ => body x h1 h2 fun v I1 pc L hd hv hI => h4 rt v cnt sh I1 R pc L rfl (by rw [hv]; exact hn) hd ⟨by rw [hv], rfl, rfl, hI, rfl⟩
theorem cp_Fn_v {l : Launch} {E : cp_En} {y : MethodName} {bc : ByteArray} {nL : Nat} {d : Nat} {as : List Value} {cnt : Nat} {sh : cp_Shp} {I : cp_Mem} {R : cp_Rem} {I' : cp_Mem} (L0 : List (Option Value))
    (hy : plainName y.cls = true) (hlen : (lg_sl as).length ≤ nL) (hL : cp_lq 0 L0 = lv_args 0 as)
    (body : ∀ x : cp_Cx, cp_xl x = l → cp_Ok x E y.cls bc nL d 0 0 →
      (∀ (I1 : cp_Mem) (pc : Nat) (L : List (Option Value)), decode bc pc = .ok (.return_, 1) → I1 = I' → cp_G x E nL 0 0 cnt sh I1 R pc L []) →
      cp_G x E nL 0 0 cnt sh I R 0 L0 []) : cp_Fn l E y bc nL none d as cnt sh I R none I' :=
  cp_Ct_of hy hlen hL fun x h1 h2 _ _ h5 => body x h1 h2 fun I1 pc L hd hI => h5 cnt sh I1 R pc L rfl hd ⟨rfl, rfl, rfl, hI, rfl⟩
/-- what the words say of a method that is called: its code; of a call of it -/
def cp_me (y : MethodName) (cb : ByteArray) (nLc : Nat) (ret : Option FieldType) (n : Nat) : Prop := Cond.code y cb nLc ret ∈ cp_TG ∧ Cond.initialized y.cls ∈ cp_TG ∧ y.cls ≠ "java/lang/invoke/MethodHandle" ∧ y.cls ≠ "java/lang/invoke/VarHandle" ∧ (parseMethodDescriptor y.desc).map (fun d => d.parameters.length) = some n
def cp_mi (y : MethodName) : Prop := Cond.instanceMethod y ∈ cp_TG ∧ Cond.selects y.cls y y ∈ cp_TG
def cp_rl (d nLc dc : Nat) : Prop := dc + 1 ≤ d ∧ 8 + (nLc + 11) + (12 + 32 * dc) ≤ 12 + 32 * d
section CPC
variable {x : cp_Cx} {E : cp_En} {own : String} {bc : ByteArray} {nL d mc ms : Nat} {cells slots cnt : Nat} {sh : cp_Shp} {I : cp_Mem} {R : cp_Rem} {pc : Nat} {L : List (Option Value)} {st stk rest As : List Value} {y : MethodName} {cb : ByteArray} {nLc n index dc mcc msc b : Nat} {ret : Option FieldType} {Post : Option Value → Nat → cp_Shp → cp_Mem → cp_Rem → Prop}
theorem cp_good {w : Cond} (h : w ∈ cp_TG) : w ∈ cp_TG ∧ ((w.onTables && w.keeps) = true ∨ ∃ ty, w = .arrayClass ty) := ⟨h, good_of_word (List.mem_filter.mp h).2⟩
theorem cp_goodIn (hc : Cond.code y cb nLc ret ∈ cp_TG) : GoodIn cp_TG (.code y cb nLc ret :: cp_TG) := fun w hw => by
  rcases List.mem_cons.mp hw with h | h
  · subst h; exact cp_good hc
  · exact cp_good h
theorem cp_room (O : cp_Ok x E own bc nL d mc ms) (hr : cp_rl d nLc dc) : (cp_rm dc mcc msc).frames + 1 ≤ (cp_xR x).frames ∧ 8 + (nLc + 11) + (cp_rm dc mcc msc).locals ≤ (cp_xR x).locals :=
  ⟨Nat.le_trans hr.1 O.2.2.2.2.2.2.2.2.1, Nat.le_trans hr.2 O.2.2.2.2.2.2.2.2.2.1⟩
theorem cp_blind {as : List Value} : FrameBlind (va_Pc as (cp_Pre E cnt sh I R)) := fun a U g mk q => by
  obtain ⟨q1, q2, q3, q4⟩ := q
  exact ⟨q1, q2, ⟨va_K.moved (u := U) (U := U.calling g mk a) (Vm.Alike.refl U.vm) q3.1, cp_nw_same rfl q3.2⟩, cp_Z_moved (u := U) (U := U.calling g mk a) (Vm.Alike.refl U.vm) q4⟩
theorem cp_pre (O : cp_Ok x E own bc nL d mc ms) {H : Heap} {locs : List Loc} (hW : cp_PW E cnt sh I R H) (hS : va_S (cp_A E) (cp_xs x).heap H locs) {as : List Value} : ∀ U : State, U.heap = H → (cp_xs x).WarmedH U.vm → va_Pc as (cp_Pre E cnt sh I R) as.toArray U := fun U hU hw => by
  refine ⟨rfl, by rw [hU]; exact hW, cp_K_warm hw O.2.2.2.2.2.1, ?_⟩
  rw [hU]
  exact cp_Z_kept (fun a h1 h2 => hS.2.1 a h1 h2) (cp_Z_moved hw.alike O.2.2.2.2.2.2.1)
theorem cp_after (O : cp_Ok x E own bc nL d mc ms) {H : Heap} {locs : List Loc} {ls : Array Slot} {a : Array Value} {st0 : List Value} (hW : cp_PW E cnt sh I R H) (hS : va_S (cp_A E) (cp_xs x).heap H locs) (hl : cp_lH ls nL L)
    (hr : va_Run (cp_xp x) (cp_xl x) (cp_xe x) (cp_xR x) (cp_xs x) (cp_xm x) (cp_xa x) (cp_xb x) (cp_xk x) (cp_xc x) H locs cells slots mcc msc (F0 (cp_xm x) pc ls st0) rest (cp_Qc E Post a) (cp_A E))
    (k : ∀ v cnt' sh' I' R', Post v cnt' sh' I' R' → cp_G x E nL (cells + mcc) (slots + msc) cnt' sh' I' R' (pc + 3) L (v.toList ++ rest)) : cp_W x H locs cells slots (F0 (cp_xm x) pc ls st0) := by
  intro T hT X
  obtain ⟨v, st₀, t, T', L', h0, X', hL, e1, e2, ⟨⟨v', cnt', sh', I', R', hv, hp, hW'⟩, hz, hk⟩, stp⟩ := hr T hT X
  cases hv
  rw [h0] at hz hk
  obtain ⟨t2, a1, b1⟩ := k v cnt' sh' I' R' hp T'.heap (locs ++ L') ls (by rw [e1]; exact hW') ⟨Nat.le_trans hS.1 (by rw [e1]; exact hz), fun q h1 h2 => by rw [e1, hk q (Nat.lt_of_lt_of_le h1 hS.1) h2]; exact hS.2.1 q h1 h2, fun q hq => by
      rcases List.mem_append.mp hq with h | h
      · exact hS.2.2 q h
      · exact hL q h⟩ hl T' rfl X'
  exact ⟨t2, stp t2 a1, b1⟩
theorem cp_recv (O : cp_Ok x E own bc nL d mc ms) {H : Heap} (hW : cp_PW E cnt sh I R H) {ci : Nat} {C : String} {T : u_T} {N : Nat} {ty0 : Nat → FieldType} (hc : cp_clf ci C T N ty0) (hs : sh b = (ci + 1, 0)) : ∃ cell : Cell, H[b]? = some cell ∧ cell.vm.isStatics = false ∧ (cp_xs x).vm.findClass C = some cell.cls := by
  obtain ⟨c1, c2, c3, c4, c5, c6⟩ := hc
  have he := cp_WL_at E cnt sh I R (cp_PW_in hW hs)
  rw [hs, cp_e_obj _ _ _ _ c5] at he
  exact va_recv O.2.2.2.2.2.1.1 hW.2.2 c1 he
theorem cp_callV (O : cp_Ok x E own bc nL d mc ms) (hM : cp_me y cb nLc ret n) (hI : cp_mi y) (hlk : Cond.methodLink own index y ∈ cp_TG) {ci : Nat} {T : u_T} {N : Nat} {ty0 : Nat → FieldType} (hc : cp_clf ci y.cls T N ty0) (hs : sh b = (ci + 1, 0))
    (hC : cp_Ct (cp_xl x) E y cb nLc ret dc mcc msc (.ref b :: As) cnt sh I R Post) (hd : decode bc pc = .ok (.invokevirtual index, 3)) (hn : As.length = n) (hst : stk = As.reverse ++ .ref b :: rest) (hr : cp_rl d nLc dc) (hcs : cells + mcc ≤ mc ∧ slots + msc ≤ ms) (hrest : (rest.map fun v => v.category).sum ≤ 8)
    (k : ∀ v cnt' sh' I' R', Post v cnt' sh' I' R' → cp_G x E nL (cells + mcc) (slots + msc) cnt' sh' I' R' (pc + 3) L (v.toList ++ rest)) : cp_G x E nL cells slots cnt sh I R pc L stk := by
  intro H locs ls hW hS hl
  subst hst
  refine cp_after O (a := (Value.ref b :: As).toArray) hW hS hl (va_runV (As := As) (rest := rest) ⟨O.1, O.2.1, O.2.2.1, O.2.2.2.1, O.2.2.2.2.1⟩ hC (cwV n O.2.2.2.2.1 (fun w hw => ?_) rfl rfl rfl ⟨rfl, hM.2.2.1, hM.2.2.2.1, hM.2.2.2.2⟩ (cp_room O hr)) ⟨cp_blind, cp_recv O hW hc hs, cp_pre O hW hS⟩ rfl hn hl.1 rfl (lv_room hrest) hd ⟨Nat.le_trans hcs.1 O.2.2.2.2.2.2.2.2.2.2.1, Nat.le_trans hcs.2 O.2.2.2.2.2.2.2.2.2.2.2⟩) k
  unfold wsV at hw
  rcases List.mem_append.mp hw with h | h
  · simp only [List.mem_cons, List.not_mem_nil, or_false] at h
    rcases h with h | h | h | h <;> subst h
    · exact cp_good hlk
    · exact cp_good hI.1
    · exact cp_good hI.2
    · exact cp_good hM.2.1
  · exact cp_goodIn hM.1 w h
theorem cp_callS (O : cp_Ok x E own bc nL d mc ms) (hM : cp_me y cb nLc ret n) (hst0 : Cond.static y ∈ cp_TG) (hlk : Cond.methodLink own index y ∈ cp_TG)
    (hC : cp_Ct (cp_xl x) E y cb nLc ret dc mcc msc As cnt sh I R Post) (hd : decode bc pc = .ok (.invokestatic index, 3)) (hn : As.length = n) (hst : stk = As.reverse ++ rest) (hr : cp_rl d nLc dc) (hcs : cells + mcc ≤ mc ∧ slots + msc ≤ ms) (hrest : (rest.map fun v => v.category).sum ≤ 8)
    (k : ∀ v cnt' sh' I' R', Post v cnt' sh' I' R' → cp_G x E nL (cells + mcc) (slots + msc) cnt' sh' I' R' (pc + 3) L (v.toList ++ rest)) : cp_G x E nL cells slots cnt sh I R pc L stk := by
  intro H locs ls hW hS hl
  subst hst
  refine cp_after O (a := As.toArray) hW hS hl (va_runS (As := As) (rest := rest) ⟨O.1, O.2.1, O.2.2.1, O.2.2.2.1, O.2.2.2.2.1⟩ hC (va_cwS n O.2.2.2.2.1 (fun w hw => ?_) rfl rfl rfl ⟨hM.2.2.1, hM.2.2.2.1, hM.2.2.2.2⟩ (cp_room O hr)) ⟨cp_blind, cp_pre O hW hS⟩ rfl hn hl.1 rfl (lv_room hrest) hd ⟨Nat.le_trans hcs.1 O.2.2.2.2.2.2.2.2.2.2.1, Nat.le_trans hcs.2 O.2.2.2.2.2.2.2.2.2.2.2⟩) k
  unfold va_wsS at hw
  rcases List.mem_append.mp hw with h | h
  · simp only [List.mem_cons, List.not_mem_nil, or_false] at h
    rcases h with h | h | h <;> subst h
    · exact cp_good hlk
    · exact cp_good hst0
    · exact cp_good hM.2.1
  · exact cp_goodIn hM.1 w h
theorem cp_callSN (O : cp_Ok x E own bc nL d mc ms) (hM : cp_me y cb nLc ret n) (hst0 : Cond.static y ∈ cp_TG) (hlk : (own, index, y) ∈ cp_nM)
    (hC : cp_Ct (cp_xl x) E y cb nLc ret dc mcc msc As cnt sh I R Post) (hd : decode bc pc = .ok (.invokestatic index, 3)) (hn : As.length = n) (hst : stk = As.reverse ++ rest) (hr : cp_rl d nLc dc) (hcs : cells + mcc ≤ mc ∧ slots + msc ≤ ms) (hrest : (rest.map fun v => v.category).sum ≤ 8)
    (k : ∀ v cnt' sh' I' R', Post v cnt' sh' I' R' → cp_G x E nL (cells + mcc) (slots + msc) cnt' sh' I' R' (pc + 3) L (v.toList ++ rest)) : cp_G x E nL cells slots cnt sh I R pc L stk := by
  intro H locs ls hW hS hl
  subst hst
  exact cp_after O (a := As.toArray) hW hS hl (va_runSN (As := As) (rest := rest) ⟨O.1, O.2.1, O.2.2.1, O.2.2.2.1, O.2.2.2.2.1⟩ hC ⟨va_cnB n O.2.2.2.2.1 (cp_goodIn hM.1) rfl rfl rfl (O.2.2.2.2.2.1.2.2 _ hlk) (O.2.2.2.2.1 _ hM.2.1) ⟨hM.2.2.1, hM.2.2.2.1, hM.2.2.2.2⟩ (cp_room O hr), O.2.2.2.2.1 _ hst0, trivial⟩ ⟨cp_blind, cp_pre O hW hS⟩ rfl hn hl.1 rfl (lv_room hrest) hd ⟨Nat.le_trans hcs.1 O.2.2.2.2.2.2.2.2.2.2.1, Nat.le_trans hcs.2 O.2.2.2.2.2.2.2.2.2.2.2⟩) k
/-- calls of methods that make nothing -/
theorem cp_cVi (O : cp_Ok x E own bc nL d mc ms) {r : Int32} {I' : cp_Mem} (hM : cp_me y cb nLc ret n) (hI : cp_mi y) (hlk : Cond.methodLink own index y ∈ cp_TG) {ci : Nat} {T : u_T} {N : Nat} {ty0 : Nat → FieldType} (hc : cp_clf ci y.cls T N ty0) (hs : sh b = (ci + 1, 0))
    (hC : cp_Fn (cp_xl x) E y cb nLc ret dc (.ref b :: As) cnt sh I R (some (.int r)) I') (hd : decode bc pc = .ok (.invokevirtual index, 3)) (hn : As.length = n) (hst : stk = As.reverse ++ .ref b :: rest) (hr : cp_rl d nLc dc) (hcs : cells ≤ mc ∧ slots ≤ ms) (hrest : (rest.map fun v => v.category).sum ≤ 8)
    (k : cp_G x E nL cells slots cnt sh I' R (pc + 3) L (.int r :: rest)) : cp_G x E nL cells slots cnt sh I R pc L stk :=
  cp_callV O hM hI hlk hc hs hC hd hn hst hr hcs hrest fun v c s i r h => by
    obtain ⟨rfl, rfl, rfl, rfl, rfl⟩ := h
    exact k
theorem cp_cVv (O : cp_Ok x E own bc nL d mc ms) {I' : cp_Mem} (hM : cp_me y cb nLc ret n) (hI : cp_mi y) (hlk : Cond.methodLink own index y ∈ cp_TG) {ci : Nat} {T : u_T} {N : Nat} {ty0 : Nat → FieldType} (hc : cp_clf ci y.cls T N ty0) (hs : sh b = (ci + 1, 0))
    (hC : cp_Fn (cp_xl x) E y cb nLc ret dc (.ref b :: As) cnt sh I R none I') (hd : decode bc pc = .ok (.invokevirtual index, 3)) (hn : As.length = n) (hst : stk = As.reverse ++ .ref b :: rest) (hr : cp_rl d nLc dc) (hcs : cells ≤ mc ∧ slots ≤ ms) (hrest : (rest.map fun v => v.category).sum ≤ 8)
    (k : cp_G x E nL cells slots cnt sh I' R (pc + 3) L rest) : cp_G x E nL cells slots cnt sh I R pc L stk :=
  cp_callV O hM hI hlk hc hs hC hd hn hst hr hcs hrest fun v c s i r h => by
    obtain ⟨rfl, rfl, rfl, rfl, rfl⟩ := h
    exact k
theorem cp_cSi (O : cp_Ok x E own bc nL d mc ms) {r : Int32} {I' : cp_Mem} (hM : cp_me y cb nLc ret n) (hst0 : Cond.static y ∈ cp_TG) (hlk : Cond.methodLink own index y ∈ cp_TG)
    (hC : cp_Fn (cp_xl x) E y cb nLc ret dc As cnt sh I R (some (.int r)) I') (hd : decode bc pc = .ok (.invokestatic index, 3)) (hn : As.length = n) (hst : stk = As.reverse ++ rest) (hr : cp_rl d nLc dc) (hcs : cells ≤ mc ∧ slots ≤ ms) (hrest : (rest.map fun v => v.category).sum ≤ 8)
    (k : cp_G x E nL cells slots cnt sh I' R (pc + 3) L (.int r :: rest)) : cp_G x E nL cells slots cnt sh I R pc L stk :=
  cp_callS O hM hst0 hlk hC hd hn hst hr hcs hrest fun v c s i r h => by
    obtain ⟨rfl, rfl, rfl, rfl, rfl⟩ := h
    exact k
theorem cp_cSv (O : cp_Ok x E own bc nL d mc ms) {I' : cp_Mem} (hM : cp_me y cb nLc ret n) (hst0 : Cond.static y ∈ cp_TG) (hlk : Cond.methodLink own index y ∈ cp_TG)
    (hC : cp_Fn (cp_xl x) E y cb nLc ret dc As cnt sh I R none I') (hd : decode bc pc = .ok (.invokestatic index, 3)) (hn : As.length = n) (hst : stk = As.reverse ++ rest) (hr : cp_rl d nLc dc) (hcs : cells ≤ mc ∧ slots ≤ ms) (hrest : (rest.map fun v => v.category).sum ≤ 8)
    (k : cp_G x E nL cells slots cnt sh I' R (pc + 3) L rest) : cp_G x E nL cells slots cnt sh I R pc L stk :=
  cp_callS O hM hst0 hlk hC hd hn hst hr hcs hrest fun v c s i r h => by
    obtain ⟨rfl, rfl, rfl, rfl, rfl⟩ := h
    exact k
theorem cp_cSNi (O : cp_Ok x E own bc nL d mc ms) {r : Int32} {I' : cp_Mem} (hM : cp_me y cb nLc ret n) (hst0 : Cond.static y ∈ cp_TG) (hlk : (own, index, y) ∈ cp_nM)
    (hC : cp_Fn (cp_xl x) E y cb nLc ret dc As cnt sh I R (some (.int r)) I') (hd : decode bc pc = .ok (.invokestatic index, 3)) (hn : As.length = n) (hst : stk = As.reverse ++ rest) (hr : cp_rl d nLc dc) (hcs : cells ≤ mc ∧ slots ≤ ms) (hrest : (rest.map fun v => v.category).sum ≤ 8)
    (k : cp_G x E nL cells slots cnt sh I' R (pc + 3) L (.int r :: rest)) : cp_G x E nL cells slots cnt sh I R pc L stk :=
  cp_callSN O hM hst0 hlk hC hd hn hst hr hcs hrest fun v c s i r h => by
    obtain ⟨rfl, rfl, rfl, rfl, rfl⟩ := h
    exact k
end CPC
end
section
theorem cp_sub {big : List Cond} (ws : List Cond) (ps : List Nat) (hp : ws = ps.filterMap (fun i => big[i]?)) : ∀ w ∈ ws, w ∈ big := by
  intro w hw
  rw [hp] at hw
  obtain ⟨i, -, hi⟩ := List.mem_filterMap.mp hw
  exact List.mem_of_getElem? hi
theorem cp_inX0 : ∀ w ∈ wsX00, w ∈ cp_TG := fun w h => List.mem_filter.mpr ⟨cp_sub (big := lw_tbl) wsX00 [206, 208, 210] (by decide +kernel) w h, List.all_eq_true.mp (by decide +kernel : wsX00.all goodWord = true) w h⟩
theorem cp_cX0 : cp_clf 0 RX0 TX0 3 tyX0 := ⟨rfl, cp_inX0, tyX0_ok, nmX0, by decide, rfl⟩
theorem cp_inX1 : ∀ w ∈ wsX10, w ∈ cp_TG := fun w h => List.mem_filter.mpr ⟨cp_sub (big := lw_tbl) wsX10 [180, 182, 184, 186, 188, 190] (by decide +kernel) w h, List.all_eq_true.mp (by decide +kernel : wsX10.all goodWord = true) w h⟩
theorem cp_cX1 : cp_clf 1 RX1 TX1 6 tyX1 := ⟨rfl, cp_inX1, tyX1_ok, nmX1, by decide, rfl⟩
theorem cp_inX2 : ∀ w ∈ wsX20, w ∈ cp_TG := fun w h => List.mem_filter.mpr ⟨cp_sub (big := lw_tbl) wsX20 [247, 249, 251, 253, 255, 257, 259] (by decide +kernel) w h, List.all_eq_true.mp (by decide +kernel : wsX20.all goodWord = true) w h⟩
theorem cp_cX2 : cp_clf 2 RX2 TX2 7 tyX2 := ⟨rfl, cp_inX2, tyX2_ok, nmX2, by decide, rfl⟩
theorem cp_inX3 : ∀ w ∈ wsX30, w ∈ cp_TG := fun w h => List.mem_filter.mpr ⟨cp_sub (big := lw_tbl) wsX30 [223, 225] (by decide +kernel) w h, List.all_eq_true.mp (by decide +kernel : wsX30.all goodWord = true) w h⟩
theorem cp_cX3 : cp_clf 3 RX3 TX3 2 tyX3 := ⟨rfl, cp_inX3, tyX3_ok, nmX3, by decide, rfl⟩
theorem cp_inX4 : ∀ w ∈ wsX40, w ∈ cp_TG := fun w h => List.mem_filter.mpr ⟨cp_sub (big := lw_tbl) wsX40 [131, 133, 135, 137, 139, 141, 143, 145, 147, 149] (by decide +kernel) w h, List.all_eq_true.mp (by decide +kernel : wsX40.all goodWord = true) w h⟩
theorem cp_cX4 : cp_clf 4 RX4 TX4 10 tyX4 := ⟨rfl, cp_inX4, tyX4_ok, nmX4, by decide, rfl⟩
theorem cp_inX5 : ∀ w ∈ wsX50, w ∈ cp_TG := fun w h => List.mem_filter.mpr ⟨cp_sub (big := lw_tbl) wsX50 [166, 168, 170] (by decide +kernel) w h, List.all_eq_true.mp (by decide +kernel : wsX50.all goodWord = true) w h⟩
theorem cp_cX5 : cp_clf 5 RX5 TX5 3 tyX5 := ⟨rfl, cp_inX5, tyX5_ok, nmX5, by decide, rfl⟩
theorem cp_inX6 : ∀ w ∈ wsX60, w ∈ cp_TG := fun w h => List.mem_filter.mpr ⟨cp_sub (big := lw_tbl) wsX60 [268, 270, 272, 274, 276, 278] (by decide +kernel) w h, List.all_eq_true.mp (by decide +kernel : wsX60.all goodWord = true) w h⟩
theorem cp_cX6 : cp_clf 6 RX6 TX6 6 tyX6 := ⟨rfl, cp_inX6, tyX6_ok, nmX6, by decide, rfl⟩
theorem cp_inX7 : ∀ w ∈ wsX70, w ∈ cp_TG := fun w h => List.mem_filter.mpr ⟨cp_sub (big := lw_tbl) wsX70 [681, 683, 685, 687, 689, 691, 693, 695, 697, 699, 701, 703, 705, 707, 709] (by decide +kernel) w h, List.all_eq_true.mp (by decide +kernel : wsX70.all goodWord = true) w h⟩
theorem cp_cX7 : cp_clf 7 RX7 TX7 15 tyX7 := ⟨rfl, cp_inX7, tyX7_ok, nmX7, by decide, rfl⟩
theorem me_X0_init : cp_me yX0_init cX0_init 2 none 0 := ⟨cp_TG_in (i := 197) (by decide +kernel) (by decide +kernel), cp_TG_in (i := 75) (by decide +kernel) (by decide +kernel), by decide, by decide, by decide +kernel⟩
theorem me_X0_prepare : cp_me yX0_prepare cX0_prepare 2 none 1 := ⟨cp_TG_in (i := 288) (by decide +kernel) (by decide +kernel), cp_TG_in (i := 75) (by decide +kernel) (by decide +kernel), by decide, by decide, by decide +kernel⟩
theorem mi_X0_prepare : cp_mi yX0_prepare := ⟨cp_TG_in (i := 286) (by decide +kernel) (by decide +kernel), cp_TG_in (i := 287) (by decide +kernel) (by decide +kernel)⟩
theorem me_X0_recordUnlessError : cp_me yX0_recordUnlessError cX0_recordUnlessError 2 (some .int) 1 := ⟨cp_TG_in (i := 315) (by decide +kernel) (by decide +kernel), cp_TG_in (i := 75) (by decide +kernel) (by decide +kernel), by decide, by decide, by decide +kernel⟩
theorem mi_X0_recordUnlessError : cp_mi yX0_recordUnlessError := ⟨cp_TG_in (i := 313) (by decide +kernel) (by decide +kernel), cp_TG_in (i := 314) (by decide +kernel) (by decide +kernel)⟩
theorem me_X0_takeBack : cp_me yX0_takeBack cX0_takeBack 2 none 1 := ⟨cp_TG_in (i := 651) (by decide +kernel) (by decide +kernel), cp_TG_in (i := 75) (by decide +kernel) (by decide +kernel), by decide, by decide, by decide +kernel⟩
theorem mi_X0_takeBack : cp_mi yX0_takeBack := ⟨cp_TG_in (i := 649) (by decide +kernel) (by decide +kernel), cp_TG_in (i := 650) (by decide +kernel) (by decide +kernel)⟩
theorem me_X1_init : cp_me yX1_init cX1_init 2 none 0 := ⟨cp_TG_in (i := 93) (by decide +kernel) (by decide +kernel), cp_TG_in (i := 72) (by decide +kernel) (by decide +kernel), by decide, by decide, by decide +kernel⟩
theorem me_X1_copyFrom : cp_me yX1_copyFrom cX1_copyFrom 3 none 1 := ⟨cp_TG_in (i := 292) (by decide +kernel) (by decide +kernel), cp_TG_in (i := 72) (by decide +kernel) (by decide +kernel), by decide, by decide, by decide +kernel⟩
theorem mi_X1_copyFrom : cp_mi yX1_copyFrom := ⟨cp_TG_in (i := 290) (by decide +kernel) (by decide +kernel), cp_TG_in (i := 291) (by decide +kernel) (by decide +kernel)⟩
theorem me_X1_hasPiece : cp_me yX1_hasPiece cX1_hasPiece 2 (some .boolean) 1 := ⟨cp_TG_in (i := 362) (by decide +kernel) (by decide +kernel), cp_TG_in (i := 72) (by decide +kernel) (by decide +kernel), by decide, by decide, by decide +kernel⟩
theorem mi_X1_hasPiece : cp_mi yX1_hasPiece := ⟨cp_TG_in (i := 360) (by decide +kernel) (by decide +kernel), cp_TG_in (i := 361) (by decide +kernel) (by decide +kernel)⟩
theorem me_X1_isPiece : cp_me yX1_isPiece cX1_isPiece 3 (some .boolean) 2 := ⟨cp_TG_in (i := 547) (by decide +kernel) (by decide +kernel), cp_TG_in (i := 72) (by decide +kernel) (by decide +kernel), by decide, by decide, by decide +kernel⟩
theorem mi_X1_isPiece : cp_mi yX1_isPiece := ⟨cp_TG_in (i := 545) (by decide +kernel) (by decide +kernel), cp_TG_in (i := 546) (by decide +kernel) (by decide +kernel)⟩
theorem me_X1_changeSetting : cp_me yX1_changeSetting cX1_changeSetting 4 (some .int) 2 := ⟨cp_TG_in (i := 307) (by decide +kernel) (by decide +kernel), cp_TG_in (i := 72) (by decide +kernel) (by decide +kernel), by decide, by decide, by decide +kernel⟩
theorem mi_X1_changeSetting : cp_mi yX1_changeSetting := ⟨cp_TG_in (i := 305) (by decide +kernel) (by decide +kernel), cp_TG_in (i := 306) (by decide +kernel) (by decide +kernel)⟩
theorem me_X1_addPiece : cp_me yX1_addPiece cX1_addPiece 6 (some .int) 4 := ⟨cp_TG_in (i := 326) (by decide +kernel) (by decide +kernel), cp_TG_in (i := 72) (by decide +kernel) (by decide +kernel), by decide, by decide, by decide +kernel⟩
theorem mi_X1_addPiece : cp_mi yX1_addPiece := ⟨cp_TG_in (i := 324) (by decide +kernel) (by decide +kernel), cp_TG_in (i := 325) (by decide +kernel) (by decide +kernel)⟩
theorem me_X1_addPlate : cp_me yX1_addPlate cX1_addPlate 2 (some .int) 1 := ⟨cp_TG_in (i := 338) (by decide +kernel) (by decide +kernel), cp_TG_in (i := 72) (by decide +kernel) (by decide +kernel), by decide, by decide, by decide +kernel⟩
theorem mi_X1_addPlate : cp_mi yX1_addPlate := ⟨cp_TG_in (i := 336) (by decide +kernel) (by decide +kernel), cp_TG_in (i := 337) (by decide +kernel) (by decide +kernel)⟩
theorem me_X1_turnHold : cp_me yX1_turnHold cX1_turnHold 3 (some .int) 1 := ⟨cp_TG_in (i := 358) (by decide +kernel) (by decide +kernel), cp_TG_in (i := 72) (by decide +kernel) (by decide +kernel), by decide, by decide, by decide +kernel⟩
theorem mi_X1_turnHold : cp_mi yX1_turnHold := ⟨cp_TG_in (i := 356) (by decide +kernel) (by decide +kernel), cp_TG_in (i := 357) (by decide +kernel) (by decide +kernel)⟩
theorem me_X1_killPiece : cp_me yX1_killPiece cX1_killPiece 3 (some .int) 1 := ⟨cp_TG_in (i := 373) (by decide +kernel) (by decide +kernel), cp_TG_in (i := 72) (by decide +kernel) (by decide +kernel), by decide, by decide, by decide +kernel⟩
theorem mi_X1_killPiece : cp_mi yX1_killPiece := ⟨cp_TG_in (i := 371) (by decide +kernel) (by decide +kernel), cp_TG_in (i := 372) (by decide +kernel) (by decide +kernel)⟩
theorem me_X1_passMinutes : cp_me yX1_passMinutes cX1_passMinutes 4 (some .int) 1 := ⟨cp_TG_in (i := 404) (by decide +kernel) (by decide +kernel), cp_TG_in (i := 72) (by decide +kernel) (by decide +kernel), by decide, by decide, by decide +kernel⟩
theorem mi_X1_passMinutes : cp_mi yX1_passMinutes := ⟨cp_TG_in (i := 402) (by decide +kernel) (by decide +kernel), cp_TG_in (i := 403) (by decide +kernel) (by decide +kernel)⟩
theorem me_X1_passMinute : cp_me yX1_passMinute cX1_passMinute 2 (some .boolean) 0 := ⟨cp_TG_in (i := 408) (by decide +kernel) (by decide +kernel), cp_TG_in (i := 72) (by decide +kernel) (by decide +kernel), by decide, by decide, by decide +kernel⟩
theorem mi_X1_passMinute : cp_mi yX1_passMinute := ⟨cp_TG_in (i := 406) (by decide +kernel) (by decide +kernel), cp_TG_in (i := 407) (by decide +kernel) (by decide +kernel)⟩
theorem me_X1_editAtDesks : cp_me yX1_editAtDesks cX1_editAtDesks 4 none 0 := ⟨cp_TG_in (i := 412) (by decide +kernel) (by decide +kernel), cp_TG_in (i := 72) (by decide +kernel) (by decide +kernel), by decide, by decide, by decide +kernel⟩
theorem mi_X1_editAtDesks : cp_mi yX1_editAtDesks := ⟨cp_TG_in (i := 411) (by decide +kernel) (by decide +kernel), cp_TG_in (i := 6) (by decide +kernel) (by decide +kernel)⟩
theorem me_X1_readAtLawyer : cp_me yX1_readAtLawyer cX1_readAtLawyer 2 none 0 := ⟨cp_TG_in (i := 425) (by decide +kernel) (by decide +kernel), cp_TG_in (i := 72) (by decide +kernel) (by decide +kernel), by decide, by decide, by decide +kernel⟩
theorem mi_X1_readAtLawyer : cp_mi yX1_readAtLawyer := ⟨cp_TG_in (i := 424) (by decide +kernel) (by decide +kernel), cp_TG_in (i := 8) (by decide +kernel) (by decide +kernel)⟩
theorem me_X1_firstAtDesk : cp_me yX1_firstAtDesk cX1_firstAtDesk 3 (some .int) 1 := ⟨cp_TG_in (i := 529) (by decide +kernel) (by decide +kernel), cp_TG_in (i := 72) (by decide +kernel) (by decide +kernel), by decide, by decide, by decide +kernel⟩
theorem mi_X1_firstAtDesk : cp_mi yX1_firstAtDesk := ⟨cp_TG_in (i := 528) (by decide +kernel) (by decide +kernel), cp_TG_in (i := 21) (by decide +kernel) (by decide +kernel)⟩
theorem me_X1_firstAtLawyer : cp_me yX1_firstAtLawyer cX1_firstAtLawyer 3 (some .int) 0 := ⟨cp_TG_in (i := 429) (by decide +kernel) (by decide +kernel), cp_TG_in (i := 72) (by decide +kernel) (by decide +kernel), by decide, by decide, by decide +kernel⟩
theorem mi_X1_firstAtLawyer : cp_mi yX1_firstAtLawyer := ⟨cp_TG_in (i := 428) (by decide +kernel) (by decide +kernel), cp_TG_in (i := 9) (by decide +kernel) (by decide +kernel)⟩
theorem me_X1_placeInQueue : cp_me yX1_placeInQueue cX1_placeInQueue 2 (some .int) 1 := ⟨cp_TG_in (i := 465) (by decide +kernel) (by decide +kernel), cp_TG_in (i := 72) (by decide +kernel) (by decide +kernel), by decide, by decide, by decide +kernel⟩
theorem mi_X1_placeInQueue : cp_mi yX1_placeInQueue := ⟨cp_TG_in (i := 464) (by decide +kernel) (by decide +kernel), cp_TG_in (i := 12) (by decide +kernel) (by decide +kernel)⟩
theorem me_X1_placeAtDesk : cp_me yX1_placeAtDesk cX1_placeAtDesk 4 (some .int) 1 := ⟨cp_TG_in (i := 469) (by decide +kernel) (by decide +kernel), cp_TG_in (i := 72) (by decide +kernel) (by decide +kernel), by decide, by decide, by decide +kernel⟩
theorem mi_X1_placeAtDesk : cp_mi yX1_placeAtDesk := ⟨cp_TG_in (i := 468) (by decide +kernel) (by decide +kernel), cp_TG_in (i := 13) (by decide +kernel) (by decide +kernel)⟩
theorem me_X1_placeAtLawyer : cp_me yX1_placeAtLawyer cX1_placeAtLawyer 4 (some .int) 1 := ⟨cp_TG_in (i := 473) (by decide +kernel) (by decide +kernel), cp_TG_in (i := 72) (by decide +kernel) (by decide +kernel), by decide, by decide, by decide +kernel⟩
theorem mi_X1_placeAtLawyer : cp_mi yX1_placeAtLawyer := ⟨cp_TG_in (i := 472) (by decide +kernel) (by decide +kernel), cp_TG_in (i := 14) (by decide +kernel) (by decide +kernel)⟩
theorem me_X1_piecesForPlate : cp_me yX1_piecesForPlate cX1_piecesForPlate 3 (some .int) 0 := ⟨cp_TG_in (i := 441) (by decide +kernel) (by decide +kernel), cp_TG_in (i := 72) (by decide +kernel) (by decide +kernel), by decide, by decide, by decide +kernel⟩
theorem mi_X1_piecesForPlate : cp_mi yX1_piecesForPlate := ⟨cp_TG_in (i := 439) (by decide +kernel) (by decide +kernel), cp_TG_in (i := 440) (by decide +kernel) (by decide +kernel)⟩
theorem me_X1_linesOf : cp_me yX1_linesOf cX1_linesOf 4 (some .int) 1 := ⟨cp_TG_in (i := 489) (by decide +kernel) (by decide +kernel), cp_TG_in (i := 72) (by decide +kernel) (by decide +kernel), by decide, by decide, by decide +kernel⟩
theorem mi_X1_linesOf : cp_mi yX1_linesOf := ⟨cp_TG_in (i := 487) (by decide +kernel) (by decide +kernel), cp_TG_in (i := 488) (by decide +kernel) (by decide +kernel)⟩
theorem me_X1_takenNow : cp_me yX1_takenNow cX1_takenNow 6 (some .int) 0 := ⟨cp_TG_in (i := 437) (by decide +kernel) (by decide +kernel), cp_TG_in (i := 72) (by decide +kernel) (by decide +kernel), by decide, by decide, by decide +kernel⟩
theorem mi_X1_takenNow : cp_mi yX1_takenNow := ⟨cp_TG_in (i := 435) (by decide +kernel) (by decide +kernel), cp_TG_in (i := 436) (by decide +kernel) (by decide +kernel)⟩
theorem me_X1_firstByRank : cp_me yX1_firstByRank cX1_firstByRank 4 (some .int) 1 := ⟨cp_TG_in (i := 449) (by decide +kernel) (by decide +kernel), cp_TG_in (i := 72) (by decide +kernel) (by decide +kernel), by decide, by decide, by decide +kernel⟩
theorem mi_X1_firstByRank : cp_mi yX1_firstByRank := ⟨cp_TG_in (i := 448) (by decide +kernel) (by decide +kernel), cp_TG_in (i := 10) (by decide +kernel) (by decide +kernel)⟩
theorem me_X1_lastTakenAheadOf : cp_me yX1_lastTakenAheadOf cX1_lastTakenAheadOf 5 (some .int) 1 := ⟨cp_TG_in (i := 533) (by decide +kernel) (by decide +kernel), cp_TG_in (i := 72) (by decide +kernel) (by decide +kernel), by decide, by decide, by decide +kernel⟩
theorem mi_X1_lastTakenAheadOf : cp_mi yX1_lastTakenAheadOf := ⟨cp_TG_in (i := 532) (by decide +kernel) (by decide +kernel), cp_TG_in (i := 22) (by decide +kernel) (by decide +kernel)⟩
theorem me_X1_goesAhead : cp_me yX1_goesAhead cX1_goesAhead 5 (some .boolean) 2 := ⟨cp_TG_in (i := 453) (by decide +kernel) (by decide +kernel), cp_TG_in (i := 72) (by decide +kernel) (by decide +kernel), by decide, by decide, by decide +kernel⟩
theorem mi_X1_goesAhead : cp_mi yX1_goesAhead := ⟨cp_TG_in (i := 452) (by decide +kernel) (by decide +kernel), cp_TG_in (i := 11) (by decide +kernel) (by decide +kernel)⟩
theorem me_X1_whyNotOnPlate : cp_me yX1_whyNotOnPlate cX1_whyNotOnPlate 3 (some .int) 2 := ⟨cp_TG_in (i := 517) (by decide +kernel) (by decide +kernel), cp_TG_in (i := 72) (by decide +kernel) (by decide +kernel), by decide, by decide, by decide +kernel⟩
theorem mi_X1_whyNotOnPlate : cp_mi yX1_whyNotOnPlate := ⟨cp_TG_in (i := 515) (by decide +kernel) (by decide +kernel), cp_TG_in (i := 516) (by decide +kernel) (by decide +kernel)⟩
theorem me_X1_reasonOf : cp_me yX1_reasonOf cX1_reasonOf 3 (some .int) 1 := ⟨cp_TG_in (i := 521) (by decide +kernel) (by decide +kernel), cp_TG_in (i := 72) (by decide +kernel) (by decide +kernel), by decide, by decide, by decide +kernel⟩
theorem mi_X1_reasonOf : cp_mi yX1_reasonOf := ⟨cp_TG_in (i := 520) (by decide +kernel) (by decide +kernel), cp_TG_in (i := 19) (by decide +kernel) (by decide +kernel)⟩
theorem me_X1_causeOf : cp_me yX1_causeOf cX1_causeOf 2 (some .int) 1 := ⟨cp_TG_in (i := 525) (by decide +kernel) (by decide +kernel), cp_TG_in (i := 72) (by decide +kernel) (by decide +kernel), by decide, by decide, by decide +kernel⟩
theorem mi_X1_causeOf : cp_mi yX1_causeOf := ⟨cp_TG_in (i := 524) (by decide +kernel) (by decide +kernel), cp_TG_in (i := 20) (by decide +kernel) (by decide +kernel)⟩
theorem me_X1_isMade : cp_me yX1_isMade cX1_isMade 2 (some .boolean) 1 := ⟨cp_TG_in (i := 385) (by decide +kernel) (by decide +kernel), cp_TG_in (i := 72) (by decide +kernel) (by decide +kernel), by decide, by decide, by decide +kernel⟩
theorem mi_X1_isMade : cp_mi yX1_isMade := ⟨cp_TG_in (i := 384) (by decide +kernel) (by decide +kernel), cp_TG_in (i := 4) (by decide +kernel) (by decide +kernel)⟩
theorem me_X1_nextDue : cp_me yX1_nextDue cX1_nextDue 2 (some .int) 0 := ⟨cp_TG_in (i := 396) (by decide +kernel) (by decide +kernel), cp_TG_in (i := 72) (by decide +kernel) (by decide +kernel), by decide, by decide, by decide +kernel⟩
theorem mi_X1_nextDue : cp_mi yX1_nextDue := ⟨cp_TG_in (i := 394) (by decide +kernel) (by decide +kernel), cp_TG_in (i := 395) (by decide +kernel) (by decide +kernel)⟩
theorem me_X1_minutesToPlate : cp_me yX1_minutesToPlate cX1_minutesToPlate 2 (some .int) 1 := ⟨cp_TG_in (i := 562) (by decide +kernel) (by decide +kernel), cp_TG_in (i := 72) (by decide +kernel) (by decide +kernel), by decide, by decide, by decide +kernel⟩
theorem mi_X1_minutesToPlate : cp_mi yX1_minutesToPlate := ⟨cp_TG_in (i := 560) (by decide +kernel) (by decide +kernel), cp_TG_in (i := 561) (by decide +kernel) (by decide +kernel)⟩
theorem me_X1_madePlates : cp_me yX1_madePlates cX1_madePlates 3 (some .int) 0 := ⟨cp_TG_in (i := 381) (by decide +kernel) (by decide +kernel), cp_TG_in (i := 72) (by decide +kernel) (by decide +kernel), by decide, by decide, by decide +kernel⟩
theorem mi_X1_madePlates : cp_mi yX1_madePlates := ⟨cp_TG_in (i := 380) (by decide +kernel) (by decide +kernel), cp_TG_in (i := 3) (by decide +kernel) (by decide +kernel)⟩
theorem me_X1_plateAt : cp_me yX1_plateAt cX1_plateAt 3 (some .int) 1 := ⟨cp_TG_in (i := 342) (by decide +kernel) (by decide +kernel), cp_TG_in (i := 72) (by decide +kernel) (by decide +kernel), by decide, by decide, by decide +kernel⟩
theorem mi_X1_plateAt : cp_mi yX1_plateAt := ⟨cp_TG_in (i := 341) (by decide +kernel) (by decide +kernel), cp_TG_in (i := 0) (by decide +kernel) (by decide +kernel)⟩
theorem me_X1_isOnLatestMade : cp_me yX1_isOnLatestMade cX1_isOnLatestMade 3 (some .boolean) 1 := ⟨cp_TG_in (i := 377) (by decide +kernel) (by decide +kernel), cp_TG_in (i := 72) (by decide +kernel) (by decide +kernel), by decide, by decide, by decide +kernel⟩
theorem mi_X1_isOnLatestMade : cp_mi yX1_isOnLatestMade := ⟨cp_TG_in (i := 376) (by decide +kernel) (by decide +kernel), cp_TG_in (i := 2) (by decide +kernel) (by decide +kernel)⟩
theorem me_X1_tellReplate : cp_me yX1_tellReplate cX1_tellReplate 3 (some .boolean) 0 := ⟨cp_TG_in (i := 392) (by decide +kernel) (by decide +kernel), cp_TG_in (i := 72) (by decide +kernel) (by decide +kernel), by decide, by decide, by decide +kernel⟩
theorem mi_X1_tellReplate : cp_mi yX1_tellReplate := ⟨cp_TG_in (i := 391) (by decide +kernel) (by decide +kernel), cp_TG_in (i := 5) (by decide +kernel) (by decide +kernel)⟩
theorem me_X1_insertPlate : cp_me yX1_insertPlate cX1_insertPlate 4 (some .int) 2 := ⟨cp_TG_in (i := 346) (by decide +kernel) (by decide +kernel), cp_TG_in (i := 72) (by decide +kernel) (by decide +kernel), by decide, by decide, by decide +kernel⟩
theorem mi_X1_insertPlate : cp_mi yX1_insertPlate := ⟨cp_TG_in (i := 345) (by decide +kernel) (by decide +kernel), cp_TG_in (i := 1) (by decide +kernel) (by decide +kernel)⟩
theorem me_X1_factOfPiece : cp_me yX1_factOfPiece cX1_factOfPiece 4 (some .int) 2 := ⟨cp_TG_in (i := 461) (by decide +kernel) (by decide +kernel), cp_TG_in (i := 72) (by decide +kernel) (by decide +kernel), by decide, by decide, by decide +kernel⟩
theorem mi_X1_factOfPiece : cp_mi yX1_factOfPiece := ⟨cp_TG_in (i := 459) (by decide +kernel) (by decide +kernel), cp_TG_in (i := 460) (by decide +kernel) (by decide +kernel)⟩
theorem me_X1_platesWith : cp_me yX1_platesWith cX1_platesWith 4 (some .int) 1 := ⟨cp_TG_in (i := 477) (by decide +kernel) (by decide +kernel), cp_TG_in (i := 72) (by decide +kernel) (by decide +kernel), by decide, by decide, by decide +kernel⟩
theorem mi_X1_platesWith : cp_mi yX1_platesWith := ⟨cp_TG_in (i := 476) (by decide +kernel) (by decide +kernel), cp_TG_in (i := 15) (by decide +kernel) (by decide +kernel)⟩
theorem me_X1_factOfPlate : cp_me yX1_factOfPlate cX1_factOfPlate 3 (some .int) 2 := ⟨cp_TG_in (i := 485) (by decide +kernel) (by decide +kernel), cp_TG_in (i := 72) (by decide +kernel) (by decide +kernel), by decide, by decide, by decide +kernel⟩
theorem mi_X1_factOfPlate : cp_mi yX1_factOfPlate := ⟨cp_TG_in (i := 483) (by decide +kernel) (by decide +kernel), cp_TG_in (i := 484) (by decide +kernel) (by decide +kernel)⟩
theorem me_X1_factOfNight : cp_me yX1_factOfNight cX1_factOfNight 2 (some .int) 1 := ⟨cp_TG_in (i := 497) (by decide +kernel) (by decide +kernel), cp_TG_in (i := 72) (by decide +kernel) (by decide +kernel), by decide, by decide, by decide +kernel⟩
theorem mi_X1_factOfNight : cp_mi yX1_factOfNight := ⟨cp_TG_in (i := 495) (by decide +kernel) (by decide +kernel), cp_TG_in (i := 496) (by decide +kernel) (by decide +kernel)⟩
theorem me_X1_piecesThatAre : cp_me yX1_piecesThatAre cX1_piecesThatAre 4 (some .int) 1 := ⟨cp_TG_in (i := 501) (by decide +kernel) (by decide +kernel), cp_TG_in (i := 72) (by decide +kernel) (by decide +kernel), by decide, by decide, by decide +kernel⟩
theorem mi_X1_piecesThatAre : cp_mi yX1_piecesThatAre := ⟨cp_TG_in (i := 500) (by decide +kernel) (by decide +kernel), cp_TG_in (i := 16) (by decide +kernel) (by decide +kernel)⟩
theorem me_X1_heldPieces : cp_me yX1_heldPieces cX1_heldPieces 3 (some .int) 0 := ⟨cp_TG_in (i := 505) (by decide +kernel) (by decide +kernel), cp_TG_in (i := 72) (by decide +kernel) (by decide +kernel), by decide, by decide, by decide +kernel⟩
theorem mi_X1_heldPieces : cp_mi yX1_heldPieces := ⟨cp_TG_in (i := 504) (by decide +kernel) (by decide +kernel), cp_TG_in (i := 17) (by decide +kernel) (by decide +kernel)⟩
theorem me_X1_replates : cp_me yX1_replates cX1_replates 3 (some .int) 0 := ⟨cp_TG_in (i := 509) (by decide +kernel) (by decide +kernel), cp_TG_in (i := 72) (by decide +kernel) (by decide +kernel), by decide, by decide, by decide +kernel⟩
theorem mi_X1_replates : cp_mi yX1_replates := ⟨cp_TG_in (i := 508) (by decide +kernel) (by decide +kernel), cp_TG_in (i := 18) (by decide +kernel) (by decide +kernel)⟩
theorem me_X2_init : cp_me yX2_init cX2_init 2 none 1 := ⟨cp_TG_in (i := 233) (by decide +kernel) (by decide +kernel), cp_TG_in (i := 77) (by decide +kernel) (by decide +kernel), by decide, by decide, by decide +kernel⟩
theorem me_X2_goToStart : cp_me yX2_goToStart cX2_goToStart 1 none 0 := ⟨cp_TG_in (i := 607) (by decide +kernel) (by decide +kernel), cp_TG_in (i := 77) (by decide +kernel) (by decide +kernel), by decide, by decide, by decide +kernel⟩
theorem mi_X2_goToStart : cp_mi yX2_goToStart := ⟨cp_TG_in (i := 605) (by decide +kernel) (by decide +kernel), cp_TG_in (i := 606) (by decide +kernel) (by decide +kernel)⟩
theorem me_X2_findFault : cp_me yX2_findFault cX2_findFault 2 (some .int) 0 := ⟨cp_TG_in (i := 603) (by decide +kernel) (by decide +kernel), cp_TG_in (i := 77) (by decide +kernel) (by decide +kernel), by decide, by decide, by decide +kernel⟩
theorem mi_X2_findFault : cp_mi yX2_findFault := ⟨cp_TG_in (i := 601) (by decide +kernel) (by decide +kernel), cp_TG_in (i := 602) (by decide +kernel) (by decide +kernel)⟩
theorem me_X2_readOrder : cp_me yX2_readOrder cX2_readOrder 1 (some .boolean) 0 := ⟨cp_TG_in (i := 611) (by decide +kernel) (by decide +kernel), cp_TG_in (i := 77) (by decide +kernel) (by decide +kernel), by decide, by decide, by decide +kernel⟩
theorem mi_X2_readOrder : cp_mi yX2_readOrder := ⟨cp_TG_in (i := 609) (by decide +kernel) (by decide +kernel), cp_TG_in (i := 610) (by decide +kernel) (by decide +kernel)⟩
theorem me_X2_readPiece : cp_me yX2_readPiece cX2_readPiece 1 (some .boolean) 0 := ⟨cp_TG_in (i := 619) (by decide +kernel) (by decide +kernel), cp_TG_in (i := 77) (by decide +kernel) (by decide +kernel), by decide, by decide, by decide +kernel⟩
theorem mi_X2_readPiece : cp_mi yX2_readPiece := ⟨cp_TG_in (i := 618) (by decide +kernel) (by decide +kernel), cp_TG_in (i := 24) (by decide +kernel) (by decide +kernel)⟩
theorem me_X2_readNumber : cp_me yX2_readNumber cX2_readNumber 3 (some .boolean) 0 := ⟨cp_TG_in (i := 631) (by decide +kernel) (by decide +kernel), cp_TG_in (i := 77) (by decide +kernel) (by decide +kernel), by decide, by decide, by decide +kernel⟩
theorem mi_X2_readNumber : cp_mi yX2_readNumber := ⟨cp_TG_in (i := 630) (by decide +kernel) (by decide +kernel), cp_TG_in (i := 26) (by decide +kernel) (by decide +kernel)⟩
theorem me_X2_readSign : cp_me yX2_readSign cX2_readSign 2 (some .boolean) 1 := ⟨cp_TG_in (i := 627) (by decide +kernel) (by decide +kernel), cp_TG_in (i := 77) (by decide +kernel) (by decide +kernel), by decide, by decide, by decide +kernel⟩
theorem mi_X2_readSign : cp_mi yX2_readSign := ⟨cp_TG_in (i := 625) (by decide +kernel) (by decide +kernel), cp_TG_in (i := 626) (by decide +kernel) (by decide +kernel)⟩
theorem me_X2_digitHere : cp_me yX2_digitHere cX2_digitHere 2 (some .int) 0 := ⟨cp_TG_in (i := 623) (by decide +kernel) (by decide +kernel), cp_TG_in (i := 77) (by decide +kernel) (by decide +kernel), by decide, by decide, by decide +kernel⟩
theorem mi_X2_digitHere : cp_mi yX2_digitHere := ⟨cp_TG_in (i := 622) (by decide +kernel) (by decide +kernel), cp_TG_in (i := 25) (by decide +kernel) (by decide +kernel)⟩
theorem me_X3_init : cp_me yX3_init cX3_init 1 none 0 := ⟨cp_TG_in (i := 217) (by decide +kernel) (by decide +kernel), cp_TG_in (i := 76) (by decide +kernel) (by decide +kernel), by decide, by decide, by decide +kernel⟩
theorem me_X3_append : cp_me yX3_append cX3_append 7 (some .int) 1 := ⟨cp_TG_in (i := 581) (by decide +kernel) (by decide +kernel), cp_TG_in (i := 76) (by decide +kernel) (by decide +kernel), by decide, by decide, by decide +kernel⟩
theorem mi_X3_append : cp_mi yX3_append := ⟨cp_TG_in (i := 579) (by decide +kernel) (by decide +kernel), cp_TG_in (i := 580) (by decide +kernel) (by decide +kernel)⟩
theorem me_X3_charactersIn : cp_me yX3_charactersIn cX3_charactersIn 7 (some .int) 1 := ⟨cp_TG_in (i := 584) (by decide +kernel) (by decide +kernel), cp_TG_in (i := 76) (by decide +kernel) (by decide +kernel), by decide, by decide, by decide +kernel⟩
theorem ms_X3_charactersIn : Cond.static yX3_charactersIn ∈ cp_TG := cp_TG_in (i := 583) (by decide +kernel) (by decide +kernel)
theorem me_X3_empty : cp_me yX3_empty cX3_empty 2 (some .int) 0 := ⟨cp_TG_in (i := 595) (by decide +kernel) (by decide +kernel), cp_TG_in (i := 76) (by decide +kernel) (by decide +kernel), by decide, by decide, by decide +kernel⟩
theorem mi_X3_empty : cp_mi yX3_empty := ⟨cp_TG_in (i := 593) (by decide +kernel) (by decide +kernel), cp_TG_in (i := 594) (by decide +kernel) (by decide +kernel)⟩
theorem me_X3_characterAt : cp_me yX3_characterAt cX3_characterAt 2 (some .char) 1 := ⟨cp_TG_in (i := 615) (by decide +kernel) (by decide +kernel), cp_TG_in (i := 76) (by decide +kernel) (by decide +kernel), by decide, by decide, by decide +kernel⟩
theorem mi_X3_characterAt : cp_mi yX3_characterAt := ⟨cp_TG_in (i := 613) (by decide +kernel) (by decide +kernel), cp_TG_in (i := 614) (by decide +kernel) (by decide +kernel)⟩
theorem me_X4_init : cp_me yX4_init cX4_init 1 none 0 := ⟨cp_TG_in (i := 109) (by decide +kernel) (by decide +kernel), cp_TG_in (i := 73) (by decide +kernel) (by decide +kernel), by decide, by decide, by decide +kernel⟩
theorem me_X4_come : cp_me yX4_come cX4_come 5 none 4 := ⟨cp_TG_in (i := 330) (by decide +kernel) (by decide +kernel), cp_TG_in (i := 73) (by decide +kernel) (by decide +kernel), by decide, by decide, by decide +kernel⟩
theorem mi_X4_come : cp_mi yX4_come := ⟨cp_TG_in (i := 328) (by decide +kernel) (by decide +kernel), cp_TG_in (i := 329) (by decide +kernel) (by decide +kernel)⟩
theorem me_X4_copyFrom : cp_me yX4_copyFrom cX4_copyFrom 2 none 1 := ⟨cp_TG_in (i := 299) (by decide +kernel) (by decide +kernel), cp_TG_in (i := 73) (by decide +kernel) (by decide +kernel), by decide, by decide, by decide +kernel⟩
theorem mi_X4_copyFrom : cp_mi yX4_copyFrom := ⟨cp_TG_in (i := 297) (by decide +kernel) (by decide +kernel), cp_TG_in (i := 298) (by decide +kernel) (by decide +kernel)⟩
theorem me_X4_editFor : cp_me yX4_editFor cX4_editFor 3 none 2 := ⟨cp_TG_in (i := 416) (by decide +kernel) (by decide +kernel), cp_TG_in (i := 73) (by decide +kernel) (by decide +kernel), by decide, by decide, by decide +kernel⟩
theorem mi_X4_editFor : cp_mi yX4_editFor := ⟨cp_TG_in (i := 414) (by decide +kernel) (by decide +kernel), cp_TG_in (i := 415) (by decide +kernel) (by decide +kernel)⟩
theorem me_X4_readOneMinute : cp_me yX4_readOneMinute cX4_readOneMinute 3 none 2 := ⟨cp_TG_in (i := 433) (by decide +kernel) (by decide +kernel), cp_TG_in (i := 73) (by decide +kernel) (by decide +kernel), by decide, by decide, by decide +kernel⟩
theorem mi_X4_readOneMinute : cp_mi yX4_readOneMinute := ⟨cp_TG_in (i := 431) (by decide +kernel) (by decide +kernel), cp_TG_in (i := 432) (by decide +kernel) (by decide +kernel)⟩
theorem me_X4_becomeReady : cp_me yX4_becomeReady cX4_becomeReady 2 none 1 := ⟨cp_TG_in (i := 421) (by decide +kernel) (by decide +kernel), cp_TG_in (i := 73) (by decide +kernel) (by decide +kernel), by decide, by decide, by decide +kernel⟩
theorem mi_X4_becomeReady : cp_mi yX4_becomeReady := ⟨cp_TG_in (i := 420) (by decide +kernel) (by decide +kernel), cp_TG_in (i := 7) (by decide +kernel) (by decide +kernel)⟩
theorem me_X4_isForPlate : cp_me yX4_isForPlate cX4_isForPlate 1 (some .boolean) 0 := ⟨cp_TG_in (i := 445) (by decide +kernel) (by decide +kernel), cp_TG_in (i := 73) (by decide +kernel) (by decide +kernel), by decide, by decide, by decide +kernel⟩
theorem mi_X4_isForPlate : cp_mi yX4_isForPlate := ⟨cp_TG_in (i := 443) (by decide +kernel) (by decide +kernel), cp_TG_in (i := 444) (by decide +kernel) (by decide +kernel)⟩
theorem me_X5_init : cp_me yX5_init cX5_init 1 none 0 := ⟨cp_TG_in (i := 158) (by decide +kernel) (by decide +kernel), cp_TG_in (i := 74) (by decide +kernel) (by decide +kernel), by decide, by decide, by decide +kernel⟩
theorem me_X5_tell : cp_me yX5_tell cX5_tell 3 none 2 := ⟨cp_TG_in (i := 350) (by decide +kernel) (by decide +kernel), cp_TG_in (i := 74) (by decide +kernel) (by decide +kernel), by decide, by decide, by decide +kernel⟩
theorem mi_X5_tell : cp_mi yX5_tell := ⟨cp_TG_in (i := 348) (by decide +kernel) (by decide +kernel), cp_TG_in (i := 349) (by decide +kernel) (by decide +kernel)⟩
theorem me_X5_copyFrom : cp_me yX5_copyFrom cX5_copyFrom 2 none 1 := ⟨cp_TG_in (i := 303) (by decide +kernel) (by decide +kernel), cp_TG_in (i := 74) (by decide +kernel) (by decide +kernel), by decide, by decide, by decide +kernel⟩
theorem mi_X5_copyFrom : cp_mi yX5_copyFrom := ⟨cp_TG_in (i := 301) (by decide +kernel) (by decide +kernel), cp_TG_in (i := 302) (by decide +kernel) (by decide +kernel)⟩
theorem me_X6_init : cp_me yX6_init cX6_init 1 none 0 := ⟨cp_TG_in (i := 85) (by decide +kernel) (by decide +kernel), cp_TG_in (i := 71) (by decide +kernel) (by decide +kernel), by decide, by decide, by decide +kernel⟩
theorem me_X6_set : cp_me yX6_set cX6_set 3 (some .int) 2 := ⟨cp_TG_in (i := 284) (by decide +kernel) (by decide +kernel), cp_TG_in (i := 71) (by decide +kernel) (by decide +kernel), by decide, by decide, by decide +kernel⟩
theorem mi_X6_set : cp_mi yX6_set := ⟨cp_TG_in (i := 282) (by decide +kernel) (by decide +kernel), cp_TG_in (i := 283) (by decide +kernel) (by decide +kernel)⟩
theorem me_X6_piece : cp_me yX6_piece cX6_piece 5 (some .int) 4 := ⟨cp_TG_in (i := 322) (by decide +kernel) (by decide +kernel), cp_TG_in (i := 71) (by decide +kernel) (by decide +kernel), by decide, by decide, by decide +kernel⟩
theorem mi_X6_piece : cp_mi yX6_piece := ⟨cp_TG_in (i := 320) (by decide +kernel) (by decide +kernel), cp_TG_in (i := 321) (by decide +kernel) (by decide +kernel)⟩
theorem me_X6_plate : cp_me yX6_plate cX6_plate 2 (some .int) 1 := ⟨cp_TG_in (i := 334) (by decide +kernel) (by decide +kernel), cp_TG_in (i := 71) (by decide +kernel) (by decide +kernel), by decide, by decide, by decide +kernel⟩
theorem mi_X6_plate : cp_mi yX6_plate := ⟨cp_TG_in (i := 332) (by decide +kernel) (by decide +kernel), cp_TG_in (i := 333) (by decide +kernel) (by decide +kernel)⟩
theorem me_X6_hold : cp_me yX6_hold cX6_hold 2 (some .int) 1 := ⟨cp_TG_in (i := 354) (by decide +kernel) (by decide +kernel), cp_TG_in (i := 71) (by decide +kernel) (by decide +kernel), by decide, by decide, by decide +kernel⟩
theorem mi_X6_hold : cp_mi yX6_hold := ⟨cp_TG_in (i := 352) (by decide +kernel) (by decide +kernel), cp_TG_in (i := 353) (by decide +kernel) (by decide +kernel)⟩
theorem me_X6_kill : cp_me yX6_kill cX6_kill 2 (some .int) 1 := ⟨cp_TG_in (i := 369) (by decide +kernel) (by decide +kernel), cp_TG_in (i := 71) (by decide +kernel) (by decide +kernel), by decide, by decide, by decide +kernel⟩
theorem mi_X6_kill : cp_mi yX6_kill := ⟨cp_TG_in (i := 367) (by decide +kernel) (by decide +kernel), cp_TG_in (i := 368) (by decide +kernel) (by decide +kernel)⟩
theorem me_X6_pass : cp_me yX6_pass cX6_pass 2 (some .int) 1 := ⟨cp_TG_in (i := 400) (by decide +kernel) (by decide +kernel), cp_TG_in (i := 71) (by decide +kernel) (by decide +kernel), by decide, by decide, by decide +kernel⟩
theorem mi_X6_pass : cp_mi yX6_pass := ⟨cp_TG_in (i := 398) (by decide +kernel) (by decide +kernel), cp_TG_in (i := 399) (by decide +kernel) (by decide +kernel)⟩
theorem me_X6_ofPiece : cp_me yX6_ofPiece cX6_ofPiece 3 (some .int) 2 := ⟨cp_TG_in (i := 457) (by decide +kernel) (by decide +kernel), cp_TG_in (i := 71) (by decide +kernel) (by decide +kernel), by decide, by decide, by decide +kernel⟩
theorem mi_X6_ofPiece : cp_mi yX6_ofPiece := ⟨cp_TG_in (i := 455) (by decide +kernel) (by decide +kernel), cp_TG_in (i := 456) (by decide +kernel) (by decide +kernel)⟩
theorem me_X6_ofPlate : cp_me yX6_ofPlate cX6_ofPlate 3 (some .int) 2 := ⟨cp_TG_in (i := 481) (by decide +kernel) (by decide +kernel), cp_TG_in (i := 71) (by decide +kernel) (by decide +kernel), by decide, by decide, by decide +kernel⟩
theorem mi_X6_ofPlate : cp_mi yX6_ofPlate := ⟨cp_TG_in (i := 479) (by decide +kernel) (by decide +kernel), cp_TG_in (i := 480) (by decide +kernel) (by decide +kernel)⟩
theorem me_X6_count : cp_me yX6_count cX6_count 2 (some .int) 1 := ⟨cp_TG_in (i := 493) (by decide +kernel) (by decide +kernel), cp_TG_in (i := 71) (by decide +kernel) (by decide +kernel), by decide, by decide, by decide +kernel⟩
theorem mi_X6_count : cp_mi yX6_count := ⟨cp_TG_in (i := 491) (by decide +kernel) (by decide +kernel), cp_TG_in (i := 492) (by decide +kernel) (by decide +kernel)⟩
theorem me_X6_why : cp_me yX6_why cX6_why 3 (some .int) 2 := ⟨cp_TG_in (i := 513) (by decide +kernel) (by decide +kernel), cp_TG_in (i := 71) (by decide +kernel) (by decide +kernel), by decide, by decide, by decide +kernel⟩
theorem mi_X6_why : cp_mi yX6_why := ⟨cp_TG_in (i := 511) (by decide +kernel) (by decide +kernel), cp_TG_in (i := 512) (by decide +kernel) (by decide +kernel)⟩
theorem me_X6_plateNow : cp_me yX6_plateNow cX6_plateNow 1 (some .int) 0 := ⟨cp_TG_in (i := 537) (by decide +kernel) (by decide +kernel), cp_TG_in (i := 71) (by decide +kernel) (by decide +kernel), by decide, by decide, by decide +kernel⟩
theorem mi_X6_plateNow : cp_mi yX6_plateNow := ⟨cp_TG_in (i := 535) (by decide +kernel) (by decide +kernel), cp_TG_in (i := 536) (by decide +kernel) (by decide +kernel)⟩
theorem me_X6_readyIn : cp_me yX6_readyIn cX6_readyIn 3 (some .int) 1 := ⟨cp_TG_in (i := 542) (by decide +kernel) (by decide +kernel), cp_TG_in (i := 71) (by decide +kernel) (by decide +kernel), by decide, by decide, by decide +kernel⟩
theorem mi_X6_readyIn : cp_mi yX6_readyIn := ⟨cp_TG_in (i := 540) (by decide +kernel) (by decide +kernel), cp_TG_in (i := 541) (by decide +kernel) (by decide +kernel)⟩
theorem me_X6_leastRoom : cp_me yX6_leastRoom cX6_leastRoom 3 (some .int) 0 := ⟨cp_TG_in (i := 553) (by decide +kernel) (by decide +kernel), cp_TG_in (i := 71) (by decide +kernel) (by decide +kernel), by decide, by decide, by decide +kernel⟩
theorem mi_X6_leastRoom : cp_mi yX6_leastRoom := ⟨cp_TG_in (i := 551) (by decide +kernel) (by decide +kernel), cp_TG_in (i := 552) (by decide +kernel) (by decide +kernel)⟩
theorem me_X6_nextPlate : cp_me yX6_nextPlate cX6_nextPlate 2 (some .int) 0 := ⟨cp_TG_in (i := 573) (by decide +kernel) (by decide +kernel), cp_TG_in (i := 71) (by decide +kernel) (by decide +kernel), by decide, by decide, by decide +kernel⟩
theorem mi_X6_nextPlate : cp_mi yX6_nextPlate := ⟨cp_TG_in (i := 571) (by decide +kernel) (by decide +kernel), cp_TG_in (i := 572) (by decide +kernel) (by decide +kernel)⟩
theorem me_X6_goAheadToPlate : cp_me yX6_goAheadToPlate cX6_goAheadToPlate 2 none 1 := ⟨cp_TG_in (i := 558) (by decide +kernel) (by decide +kernel), cp_TG_in (i := 71) (by decide +kernel) (by decide +kernel), by decide, by decide, by decide +kernel⟩
theorem mi_X6_goAheadToPlate : cp_mi yX6_goAheadToPlate := ⟨cp_TG_in (i := 557) (by decide +kernel) (by decide +kernel), cp_TG_in (i := 23) (by decide +kernel) (by decide +kernel)⟩
theorem me_X6_put : cp_me yX6_put cX6_put 3 (some .int) 1 := ⟨cp_TG_in (i := 577) (by decide +kernel) (by decide +kernel), cp_TG_in (i := 71) (by decide +kernel) (by decide +kernel), by decide, by decide, by decide +kernel⟩
theorem mi_X6_put : cp_mi yX6_put := ⟨cp_TG_in (i := 575) (by decide +kernel) (by decide +kernel), cp_TG_in (i := 576) (by decide +kernel) (by decide +kernel)⟩
theorem me_X6_wipe : cp_me yX6_wipe cX6_wipe 1 (some .int) 0 := ⟨cp_TG_in (i := 591) (by decide +kernel) (by decide +kernel), cp_TG_in (i := 71) (by decide +kernel) (by decide +kernel), by decide, by decide, by decide +kernel⟩
theorem mi_X6_wipe : cp_mi yX6_wipe := ⟨cp_TG_in (i := 589) (by decide +kernel) (by decide +kernel), cp_TG_in (i := 590) (by decide +kernel) (by decide +kernel)⟩
theorem me_X6_fault : cp_me yX6_fault cX6_fault 1 (some .int) 0 := ⟨cp_TG_in (i := 599) (by decide +kernel) (by decide +kernel), cp_TG_in (i := 71) (by decide +kernel) (by decide +kernel), by decide, by decide, by decide +kernel⟩
theorem mi_X6_fault : cp_mi yX6_fault := ⟨cp_TG_in (i := 597) (by decide +kernel) (by decide +kernel), cp_TG_in (i := 598) (by decide +kernel) (by decide +kernel)⟩
theorem me_X6_carryOut : cp_me yX6_carryOut cX6_carryOut 3 (some .int) 0 := ⟨cp_TG_in (i := 636) (by decide +kernel) (by decide +kernel), cp_TG_in (i := 71) (by decide +kernel) (by decide +kernel), by decide, by decide, by decide +kernel⟩
theorem mi_X6_carryOut : cp_mi yX6_carryOut := ⟨cp_TG_in (i := 634) (by decide +kernel) (by decide +kernel), cp_TG_in (i := 635) (by decide +kernel) (by decide +kernel)⟩
theorem me_X6_carryOrderOut : cp_me yX6_carryOrderOut cX6_carryOrderOut 1 (some .int) 0 := ⟨cp_TG_in (i := 642) (by decide +kernel) (by decide +kernel), cp_TG_in (i := 71) (by decide +kernel) (by decide +kernel), by decide, by decide, by decide +kernel⟩
theorem mi_X6_carryOrderOut : cp_mi yX6_carryOrderOut := ⟨cp_TG_in (i := 641) (by decide +kernel) (by decide +kernel), cp_TG_in (i := 27) (by decide +kernel) (by decide +kernel)⟩
theorem me_X6_undo : cp_me yX6_undo cX6_undo 1 (some .int) 0 := ⟨cp_TG_in (i := 647) (by decide +kernel) (by decide +kernel), cp_TG_in (i := 71) (by decide +kernel) (by decide +kernel), by decide, by decide, by decide +kernel⟩
theorem mi_X6_undo : cp_mi yX6_undo := ⟨cp_TG_in (i := 645) (by decide +kernel) (by decide +kernel), cp_TG_in (i := 646) (by decide +kernel) (by decide +kernel)⟩
theorem me_X6_save : cp_me yX6_save cX6_save 3 (some .int) 1 := ⟨cp_TG_in (i := 655) (by decide +kernel) (by decide +kernel), cp_TG_in (i := 71) (by decide +kernel) (by decide +kernel), by decide, by decide, by decide +kernel⟩
theorem mi_X6_save : cp_mi yX6_save := ⟨cp_TG_in (i := 653) (by decide +kernel) (by decide +kernel), cp_TG_in (i := 654) (by decide +kernel) (by decide +kernel)⟩
theorem me_X6_restore : cp_me yX6_restore cX6_restore 3 (some .int) 1 := ⟨cp_TG_in (i := 659) (by decide +kernel) (by decide +kernel), cp_TG_in (i := 71) (by decide +kernel) (by decide +kernel), by decide, by decide, by decide +kernel⟩
theorem mi_X6_restore : cp_mi yX6_restore := ⟨cp_TG_in (i := 657) (by decide +kernel) (by decide +kernel), cp_TG_in (i := 658) (by decide +kernel) (by decide +kernel)⟩
theorem me_X6_isInSet : cp_me yX6_isInSet cX6_isInSet 2 (some .boolean) 2 := ⟨cp_TG_in (i := 388) (by decide +kernel) (by decide +kernel), cp_TG_in (i := 71) (by decide +kernel) (by decide +kernel), by decide, by decide, by decide +kernel⟩
theorem ms_X6_isInSet : Cond.static yX6_isInSet ∈ cp_TG := cp_TG_in (i := 387) (by decide +kernel) (by decide +kernel)
theorem me_X6_oneIf : cp_me yX6_oneIf cX6_oneIf 1 (some .int) 1 := ⟨cp_TG_in (i := 365) (by decide +kernel) (by decide +kernel), cp_TG_in (i := 71) (by decide +kernel) (by decide +kernel), by decide, by decide, by decide +kernel⟩
theorem ms_X6_oneIf : Cond.static yX6_oneIf ∈ cp_TG := cp_TG_in (i := 364) (by decide +kernel) (by decide +kernel)
theorem me_X7_init : cp_me yX7_init cX7_init 1 none 0 := ⟨cp_TG_in (i := 664) (by decide +kernel) (by decide +kernel), cp_TG_in (i := 78) (by decide +kernel) (by decide +kernel), by decide, by decide, by decide +kernel⟩
theorem me_X7_in : cp_me yX7_in cX7_in 6 (some .boolean) 3 := ⟨cp_TG_in (i := 722) (by decide +kernel) (by decide +kernel), cp_TG_in (i := 78) (by decide +kernel) (by decide +kernel), by decide, by decide, by decide +kernel⟩
theorem ms_X7_in : Cond.static yX7_in ∈ cp_TG := cp_TG_in (i := 721) (by decide +kernel) (by decide +kernel)
theorem me_X7_copy : cp_me yX7_copy cX7_copy 3 none 2 := ⟨cp_TG_in (i := 728) (by decide +kernel) (by decide +kernel), cp_TG_in (i := 78) (by decide +kernel) (by decide +kernel), by decide, by decide, by decide +kernel⟩
theorem ms_X7_copy : Cond.static yX7_copy ∈ cp_TG := cp_TG_in (i := 727) (by decide +kernel) (by decide +kernel)
theorem me_X7_ends : cp_me yX7_ends cX7_ends 3 (some .int) 1 := ⟨cp_TG_in (i := 732) (by decide +kernel) (by decide +kernel), cp_TG_in (i := 78) (by decide +kernel) (by decide +kernel), by decide, by decide, by decide +kernel⟩
theorem mi_X7_ends : cp_mi yX7_ends := ⟨cp_TG_in (i := 731) (by decide +kernel) (by decide +kernel), cp_TG_in (i := 28) (by decide +kernel) (by decide +kernel)⟩
theorem me_X7_isPiece : cp_me yX7_isPiece cX7_isPiece 2 (some .boolean) 1 := ⟨cp_TG_in (i := 784) (by decide +kernel) (by decide +kernel), cp_TG_in (i := 78) (by decide +kernel) (by decide +kernel), by decide, by decide, by decide +kernel⟩
theorem mi_X7_isPiece : cp_mi yX7_isPiece := ⟨cp_TG_in (i := 783) (by decide +kernel) (by decide +kernel), cp_TG_in (i := 37) (by decide +kernel) (by decide +kernel)⟩
theorem me_X7_of : cp_me yX7_of cX7_of 3 (some .int) 2 := ⟨cp_TG_in (i := 788) (by decide +kernel) (by decide +kernel), cp_TG_in (i := 78) (by decide +kernel) (by decide +kernel), by decide, by decide, by decide +kernel⟩
theorem mi_X7_of : cp_mi yX7_of := ⟨cp_TG_in (i := 787) (by decide +kernel) (by decide +kernel), cp_TG_in (i := 38) (by decide +kernel) (by decide +kernel)⟩
theorem me_X7_sets : cp_me yX7_sets cX7_sets 4 none 3 := ⟨cp_TG_in (i := 747) (by decide +kernel) (by decide +kernel), cp_TG_in (i := 78) (by decide +kernel) (by decide +kernel), by decide, by decide, by decide +kernel⟩
theorem mi_X7_sets : cp_mi yX7_sets := ⟨cp_TG_in (i := 746) (by decide +kernel) (by decide +kernel), cp_TG_in (i := 30) (by decide +kernel) (by decide +kernel)⟩
theorem me_X7_inQueue : cp_me yX7_inQueue cX7_inQueue 3 (some .int) 2 := ⟨cp_TG_in (i := 812) (by decide +kernel) (by decide +kernel), cp_TG_in (i := 78) (by decide +kernel) (by decide +kernel), by decide, by decide, by decide +kernel⟩
theorem mi_X7_inQueue : cp_mi yX7_inQueue := ⟨cp_TG_in (i := 811) (by decide +kernel) (by decide +kernel), cp_TG_in (i := 43) (by decide +kernel) (by decide +kernel)⟩
theorem me_X7_queueOf : cp_me yX7_queueOf cX7_queueOf 2 (some .int) 1 := ⟨cp_TG_in (i := 804) (by decide +kernel) (by decide +kernel), cp_TG_in (i := 78) (by decide +kernel) (by decide +kernel), by decide, by decide, by decide +kernel⟩
theorem mi_X7_queueOf : cp_mi yX7_queueOf := ⟨cp_TG_in (i := 803) (by decide +kernel) (by decide +kernel), cp_TG_in (i := 41) (by decide +kernel) (by decide +kernel)⟩
theorem me_X7_placeOf : cp_me yX7_placeOf cX7_placeOf 4 (some .int) 1 := ⟨cp_TG_in (i := 808) (by decide +kernel) (by decide +kernel), cp_TG_in (i := 78) (by decide +kernel) (by decide +kernel), by decide, by decide, by decide +kernel⟩
theorem mi_X7_placeOf : cp_mi yX7_placeOf := ⟨cp_TG_in (i := 807) (by decide +kernel) (by decide +kernel), cp_TG_in (i := 42) (by decide +kernel) (by decide +kernel)⟩
theorem me_X7_comesTo : cp_me yX7_comesTo cX7_comesTo 3 none 2 := ⟨cp_TG_in (i := 751) (by decide +kernel) (by decide +kernel), cp_TG_in (i := 78) (by decide +kernel) (by decide +kernel), by decide, by decide, by decide +kernel⟩
theorem mi_X7_comesTo : cp_mi yX7_comesTo := ⟨cp_TG_in (i := 750) (by decide +kernel) (by decide +kernel), cp_TG_in (i := 31) (by decide +kernel) (by decide +kernel)⟩
theorem me_X7_leaves : cp_me yX7_leaves cX7_leaves 6 none 1 := ⟨cp_TG_in (i := 800) (by decide +kernel) (by decide +kernel), cp_TG_in (i := 78) (by decide +kernel) (by decide +kernel), by decide, by decide, by decide +kernel⟩
theorem mi_X7_leaves : cp_mi yX7_leaves := ⟨cp_TG_in (i := 799) (by decide +kernel) (by decide +kernel), cp_TG_in (i := 40) (by decide +kernel) (by decide +kernel)⟩
theorem me_X7_becomesReady : cp_me yX7_becomesReady cX7_becomesReady 2 none 1 := ⟨cp_TG_in (i := 844) (by decide +kernel) (by decide +kernel), cp_TG_in (i := 78) (by decide +kernel) (by decide +kernel), by decide, by decide, by decide +kernel⟩
theorem mi_X7_becomesReady : cp_mi yX7_becomesReady := ⟨cp_TG_in (i := 843) (by decide +kernel) (by decide +kernel), cp_TG_in (i := 50) (by decide +kernel) (by decide +kernel)⟩
theorem me_X7_edits : cp_me yX7_edits cX7_edits 4 none 1 := ⟨cp_TG_in (i := 840) (by decide +kernel) (by decide +kernel), cp_TG_in (i := 78) (by decide +kernel) (by decide +kernel), by decide, by decide, by decide +kernel⟩
theorem mi_X7_edits : cp_mi yX7_edits := ⟨cp_TG_in (i := 839) (by decide +kernel) (by decide +kernel), cp_TG_in (i := 49) (by decide +kernel) (by decide +kernel)⟩
theorem me_X7_reads : cp_me yX7_reads cX7_reads 2 none 0 := ⟨cp_TG_in (i := 848) (by decide +kernel) (by decide +kernel), cp_TG_in (i := 78) (by decide +kernel) (by decide +kernel), by decide, by decide, by decide +kernel⟩
theorem mi_X7_reads : cp_mi yX7_reads := ⟨cp_TG_in (i := 847) (by decide +kernel) (by decide +kernel), cp_TG_in (i := 51) (by decide +kernel) (by decide +kernel)⟩
theorem me_X7_isFree : cp_me yX7_isFree cX7_isFree 2 (some .boolean) 1 := ⟨cp_TG_in (i := 860) (by decide +kernel) (by decide +kernel), cp_TG_in (i := 78) (by decide +kernel) (by decide +kernel), by decide, by decide, by decide +kernel⟩
theorem mi_X7_isFree : cp_mi yX7_isFree := ⟨cp_TG_in (i := 859) (by decide +kernel) (by decide +kernel), cp_TG_in (i := 54) (by decide +kernel) (by decide +kernel)⟩
theorem me_X7_isAhead : cp_me yX7_isAhead cX7_isAhead 5 (some .boolean) 2 := ⟨cp_TG_in (i := 864) (by decide +kernel) (by decide +kernel), cp_TG_in (i := 78) (by decide +kernel) (by decide +kernel), by decide, by decide, by decide +kernel⟩
theorem mi_X7_isAhead : cp_mi yX7_isAhead := ⟨cp_TG_in (i := 863) (by decide +kernel) (by decide +kernel), cp_TG_in (i := 55) (by decide +kernel) (by decide +kernel)⟩
theorem me_X7_ranked : cp_me yX7_ranked cX7_ranked 5 (some .int) 1 := ⟨cp_TG_in (i := 856) (by decide +kernel) (by decide +kernel), cp_TG_in (i := 78) (by decide +kernel) (by decide +kernel), by decide, by decide, by decide +kernel⟩
theorem mi_X7_ranked : cp_mi yX7_ranked := ⟨cp_TG_in (i := 855) (by decide +kernel) (by decide +kernel), cp_TG_in (i := 53) (by decide +kernel) (by decide +kernel)⟩
theorem me_X7_takes : cp_me yX7_takes cX7_takes 4 none 1 := ⟨cp_TG_in (i := 852) (by decide +kernel) (by decide +kernel), cp_TG_in (i := 78) (by decide +kernel) (by decide +kernel), by decide, by decide, by decide +kernel⟩
theorem mi_X7_takes : cp_mi yX7_takes := ⟨cp_TG_in (i := 851) (by decide +kernel) (by decide +kernel), cp_TG_in (i := 52) (by decide +kernel) (by decide +kernel)⟩
theorem me_X7_plateAt : cp_me yX7_plateAt cX7_plateAt 3 (some .int) 2 := ⟨cp_TG_in (i := 768) (by decide +kernel) (by decide +kernel), cp_TG_in (i := 78) (by decide +kernel) (by decide +kernel), by decide, by decide, by decide +kernel⟩
theorem mi_X7_plateAt : cp_mi yX7_plateAt := ⟨cp_TG_in (i := 767) (by decide +kernel) (by decide +kernel), cp_TG_in (i := 34) (by decide +kernel) (by decide +kernel)⟩
theorem me_X7_due : cp_me yX7_due cX7_due 3 (some .int) 1 := ⟨cp_TG_in (i := 764) (by decide +kernel) (by decide +kernel), cp_TG_in (i := 78) (by decide +kernel) (by decide +kernel), by decide, by decide, by decide +kernel⟩
theorem mi_X7_due : cp_mi yX7_due := ⟨cp_TG_in (i := 763) (by decide +kernel) (by decide +kernel), cp_TG_in (i := 33) (by decide +kernel) (by decide +kernel)⟩
theorem me_X7_works : cp_me yX7_works cX7_works 2 none 0 := ⟨cp_TG_in (i := 836) (by decide +kernel) (by decide +kernel), cp_TG_in (i := 78) (by decide +kernel) (by decide +kernel), by decide, by decide, by decide +kernel⟩
theorem mi_X7_works : cp_mi yX7_works := ⟨cp_TG_in (i := 835) (by decide +kernel) (by decide +kernel), cp_TG_in (i := 48) (by decide +kernel) (by decide +kernel)⟩
theorem me_X7_passes : cp_me yX7_passes cX7_passes 2 (some .int) 0 := ⟨cp_TG_in (i := 832) (by decide +kernel) (by decide +kernel), cp_TG_in (i := 78) (by decide +kernel) (by decide +kernel), by decide, by decide, by decide +kernel⟩
theorem mi_X7_passes : cp_mi yX7_passes := ⟨cp_TG_in (i := 831) (by decide +kernel) (by decide +kernel), cp_TG_in (i := 47) (by decide +kernel) (by decide +kernel)⟩
theorem me_X7_doPiece : cp_me yX7_doPiece cX7_doPiece 7 (some .int) 4 := ⟨cp_TG_in (i := 740) (by decide +kernel) (by decide +kernel), cp_TG_in (i := 78) (by decide +kernel) (by decide +kernel), by decide, by decide, by decide +kernel⟩
theorem mi_X7_doPiece : cp_mi yX7_doPiece := ⟨cp_TG_in (i := 739) (by decide +kernel) (by decide +kernel), cp_TG_in (i := 29) (by decide +kernel) (by decide +kernel)⟩
theorem me_X7_tells : cp_me yX7_tells cX7_tells 5 (some .int) 2 := ⟨cp_TG_in (i := 772) (by decide +kernel) (by decide +kernel), cp_TG_in (i := 78) (by decide +kernel) (by decide +kernel), by decide, by decide, by decide +kernel⟩
theorem mi_X7_tells : cp_mi yX7_tells := ⟨cp_TG_in (i := 771) (by decide +kernel) (by decide +kernel), cp_TG_in (i := 35) (by decide +kernel) (by decide +kernel)⟩
theorem me_X7_doPlate : cp_me yX7_doPlate cX7_doPlate 2 (some .int) 1 := ⟨cp_TG_in (i := 759) (by decide +kernel) (by decide +kernel), cp_TG_in (i := 78) (by decide +kernel) (by decide +kernel), by decide, by decide, by decide +kernel⟩
theorem mi_X7_doPlate : cp_mi yX7_doPlate := ⟨cp_TG_in (i := 758) (by decide +kernel) (by decide +kernel), cp_TG_in (i := 32) (by decide +kernel) (by decide +kernel)⟩
theorem me_X7_doHold : cp_me yX7_doHold cX7_doHold 2 (some .int) 1 := ⟨cp_TG_in (i := 780) (by decide +kernel) (by decide +kernel), cp_TG_in (i := 78) (by decide +kernel) (by decide +kernel), by decide, by decide, by decide +kernel⟩
theorem mi_X7_doHold : cp_mi yX7_doHold := ⟨cp_TG_in (i := 779) (by decide +kernel) (by decide +kernel), cp_TG_in (i := 36) (by decide +kernel) (by decide +kernel)⟩
theorem me_X7_isOnLatest : cp_me yX7_isOnLatest cX7_isOnLatest 2 (some .boolean) 1 := ⟨cp_TG_in (i := 816) (by decide +kernel) (by decide +kernel), cp_TG_in (i := 78) (by decide +kernel) (by decide +kernel), by decide, by decide, by decide +kernel⟩
theorem mi_X7_isOnLatest : cp_mi yX7_isOnLatest := ⟨cp_TG_in (i := 815) (by decide +kernel) (by decide +kernel), cp_TG_in (i := 44) (by decide +kernel) (by decide +kernel)⟩
theorem me_X7_isDueSoon : cp_me yX7_isDueSoon cX7_isDueSoon 3 (some .boolean) 0 := ⟨cp_TG_in (i := 820) (by decide +kernel) (by decide +kernel), cp_TG_in (i := 78) (by decide +kernel) (by decide +kernel), by decide, by decide, by decide +kernel⟩
theorem mi_X7_isDueSoon : cp_mi yX7_isDueSoon := ⟨cp_TG_in (i := 819) (by decide +kernel) (by decide +kernel), cp_TG_in (i := 45) (by decide +kernel) (by decide +kernel)⟩
theorem me_X7_doKill : cp_me yX7_doKill cX7_doKill 4 (some .int) 1 := ⟨cp_TG_in (i := 796) (by decide +kernel) (by decide +kernel), cp_TG_in (i := 78) (by decide +kernel) (by decide +kernel), by decide, by decide, by decide +kernel⟩
theorem mi_X7_doKill : cp_mi yX7_doKill := ⟨cp_TG_in (i := 795) (by decide +kernel) (by decide +kernel), cp_TG_in (i := 39) (by decide +kernel) (by decide +kernel)⟩
theorem me_X7_doPass : cp_me yX7_doPass cX7_doPass 4 (some .int) 1 := ⟨cp_TG_in (i := 828) (by decide +kernel) (by decide +kernel), cp_TG_in (i := 78) (by decide +kernel) (by decide +kernel), by decide, by decide, by decide +kernel⟩
theorem mi_X7_doPass : cp_mi yX7_doPass := ⟨cp_TG_in (i := 827) (by decide +kernel) (by decide +kernel), cp_TG_in (i := 46) (by decide +kernel) (by decide +kernel)⟩
theorem me_X7_isSetting : cp_me yX7_isSetting cX7_isSetting 2 (some .boolean) 2 := ⟨cp_TG_in (i := 718) (by decide +kernel) (by decide +kernel), cp_TG_in (i := 78) (by decide +kernel) (by decide +kernel), by decide, by decide, by decide +kernel⟩
theorem ms_X7_isSetting : Cond.static yX7_isSetting ∈ cp_TG := cp_TG_in (i := 717) (by decide +kernel) (by decide +kernel)
theorem me_X7_set : cp_me yX7_set cX7_set 4 (some .int) 2 := ⟨cp_TG_in (i := 715) (by decide +kernel) (by decide +kernel), cp_TG_in (i := 78) (by decide +kernel) (by decide +kernel), by decide, by decide, by decide +kernel⟩
theorem mi_X7_set : cp_mi yX7_set := ⟨cp_TG_in (i := 713) (by decide +kernel) (by decide +kernel), cp_TG_in (i := 714) (by decide +kernel) (by decide +kernel)⟩
theorem me_X7_piece : cp_me yX7_piece cX7_piece 5 (some .int) 4 := ⟨cp_TG_in (i := 736) (by decide +kernel) (by decide +kernel), cp_TG_in (i := 78) (by decide +kernel) (by decide +kernel), by decide, by decide, by decide +kernel⟩
theorem mi_X7_piece : cp_mi yX7_piece := ⟨cp_TG_in (i := 734) (by decide +kernel) (by decide +kernel), cp_TG_in (i := 735) (by decide +kernel) (by decide +kernel)⟩
theorem me_X7_plate : cp_me yX7_plate cX7_plate 2 (some .int) 1 := ⟨cp_TG_in (i := 755) (by decide +kernel) (by decide +kernel), cp_TG_in (i := 78) (by decide +kernel) (by decide +kernel), by decide, by decide, by decide +kernel⟩
theorem mi_X7_plate : cp_mi yX7_plate := ⟨cp_TG_in (i := 753) (by decide +kernel) (by decide +kernel), cp_TG_in (i := 754) (by decide +kernel) (by decide +kernel)⟩
theorem me_X7_hold : cp_me yX7_hold cX7_hold 2 (some .int) 1 := ⟨cp_TG_in (i := 776) (by decide +kernel) (by decide +kernel), cp_TG_in (i := 78) (by decide +kernel) (by decide +kernel), by decide, by decide, by decide +kernel⟩
theorem mi_X7_hold : cp_mi yX7_hold := ⟨cp_TG_in (i := 774) (by decide +kernel) (by decide +kernel), cp_TG_in (i := 775) (by decide +kernel) (by decide +kernel)⟩
theorem me_X7_kill : cp_me yX7_kill cX7_kill 2 (some .int) 1 := ⟨cp_TG_in (i := 792) (by decide +kernel) (by decide +kernel), cp_TG_in (i := 78) (by decide +kernel) (by decide +kernel), by decide, by decide, by decide +kernel⟩
theorem mi_X7_kill : cp_mi yX7_kill := ⟨cp_TG_in (i := 790) (by decide +kernel) (by decide +kernel), cp_TG_in (i := 791) (by decide +kernel) (by decide +kernel)⟩
theorem me_X7_pass : cp_me yX7_pass cX7_pass 2 (some .int) 1 := ⟨cp_TG_in (i := 824) (by decide +kernel) (by decide +kernel), cp_TG_in (i := 78) (by decide +kernel) (by decide +kernel), by decide, by decide, by decide +kernel⟩
theorem mi_X7_pass : cp_mi yX7_pass := ⟨cp_TG_in (i := 822) (by decide +kernel) (by decide +kernel), cp_TG_in (i := 823) (by decide +kernel) (by decide +kernel)⟩
theorem me_X7_platesWith : cp_me yX7_platesWith cX7_platesWith 4 (some .int) 1 := ⟨cp_TG_in (i := 873) (by decide +kernel) (by decide +kernel), cp_TG_in (i := 78) (by decide +kernel) (by decide +kernel), by decide, by decide, by decide +kernel⟩
theorem mi_X7_platesWith : cp_mi yX7_platesWith := ⟨cp_TG_in (i := 872) (by decide +kernel) (by decide +kernel), cp_TG_in (i := 56) (by decide +kernel) (by decide +kernel)⟩
theorem me_X7_ofPiece : cp_me yX7_ofPiece cX7_ofPiece 3 (some .int) 2 := ⟨cp_TG_in (i := 868) (by decide +kernel) (by decide +kernel), cp_TG_in (i := 78) (by decide +kernel) (by decide +kernel), by decide, by decide, by decide +kernel⟩
theorem mi_X7_ofPiece : cp_mi yX7_ofPiece := ⟨cp_TG_in (i := 866) (by decide +kernel) (by decide +kernel), cp_TG_in (i := 867) (by decide +kernel) (by decide +kernel)⟩
theorem me_X7_linesOf : cp_me yX7_linesOf cX7_linesOf 4 (some .int) 1 := ⟨cp_TG_in (i := 882) (by decide +kernel) (by decide +kernel), cp_TG_in (i := 78) (by decide +kernel) (by decide +kernel), by decide, by decide, by decide +kernel⟩
theorem mi_X7_linesOf : cp_mi yX7_linesOf := ⟨cp_TG_in (i := 881) (by decide +kernel) (by decide +kernel), cp_TG_in (i := 57) (by decide +kernel) (by decide +kernel)⟩
theorem me_X7_ofPlate : cp_me yX7_ofPlate cX7_ofPlate 3 (some .int) 2 := ⟨cp_TG_in (i := 877) (by decide +kernel) (by decide +kernel), cp_TG_in (i := 78) (by decide +kernel) (by decide +kernel), by decide, by decide, by decide +kernel⟩
theorem mi_X7_ofPlate : cp_mi yX7_ofPlate := ⟨cp_TG_in (i := 875) (by decide +kernel) (by decide +kernel), cp_TG_in (i := 876) (by decide +kernel) (by decide +kernel)⟩
theorem me_X7_manyThat : cp_me yX7_manyThat cX7_manyThat 4 (some .int) 1 := ⟨cp_TG_in (i := 890) (by decide +kernel) (by decide +kernel), cp_TG_in (i := 78) (by decide +kernel) (by decide +kernel), by decide, by decide, by decide +kernel⟩
theorem mi_X7_manyThat : cp_mi yX7_manyThat := ⟨cp_TG_in (i := 889) (by decide +kernel) (by decide +kernel), cp_TG_in (i := 58) (by decide +kernel) (by decide +kernel)⟩
theorem me_X7_manyHeld : cp_me yX7_manyHeld cX7_manyHeld 3 (some .int) 0 := ⟨cp_TG_in (i := 895) (by decide +kernel) (by decide +kernel), cp_TG_in (i := 78) (by decide +kernel) (by decide +kernel), by decide, by decide, by decide +kernel⟩
theorem mi_X7_manyHeld : cp_mi yX7_manyHeld := ⟨cp_TG_in (i := 894) (by decide +kernel) (by decide +kernel), cp_TG_in (i := 59) (by decide +kernel) (by decide +kernel)⟩
theorem me_X7_replates : cp_me yX7_replates cX7_replates 3 (some .int) 0 := ⟨cp_TG_in (i := 899) (by decide +kernel) (by decide +kernel), cp_TG_in (i := 78) (by decide +kernel) (by decide +kernel), by decide, by decide, by decide +kernel⟩
theorem mi_X7_replates : cp_mi yX7_replates := ⟨cp_TG_in (i := 898) (by decide +kernel) (by decide +kernel), cp_TG_in (i := 60) (by decide +kernel) (by decide +kernel)⟩
theorem me_X7_count : cp_me yX7_count cX7_count 2 (some .int) 1 := ⟨cp_TG_in (i := 886) (by decide +kernel) (by decide +kernel), cp_TG_in (i := 78) (by decide +kernel) (by decide +kernel), by decide, by decide, by decide +kernel⟩
theorem mi_X7_count : cp_mi yX7_count := ⟨cp_TG_in (i := 884) (by decide +kernel) (by decide +kernel), cp_TG_in (i := 885) (by decide +kernel) (by decide +kernel)⟩
theorem me_X7_lastAhead : cp_me yX7_lastAhead cX7_lastAhead 5 (some .int) 1 := ⟨cp_TG_in (i := 911) (by decide +kernel) (by decide +kernel), cp_TG_in (i := 78) (by decide +kernel) (by decide +kernel), by decide, by decide, by decide +kernel⟩
theorem mi_X7_lastAhead : cp_mi yX7_lastAhead := ⟨cp_TG_in (i := 910) (by decide +kernel) (by decide +kernel), cp_TG_in (i := 62) (by decide +kernel) (by decide +kernel)⟩
theorem me_X7_reason : cp_me yX7_reason cX7_reason 3 (some .int) 1 := ⟨cp_TG_in (i := 907) (by decide +kernel) (by decide +kernel), cp_TG_in (i := 78) (by decide +kernel) (by decide +kernel), by decide, by decide, by decide +kernel⟩
theorem mi_X7_reason : cp_mi yX7_reason := ⟨cp_TG_in (i := 906) (by decide +kernel) (by decide +kernel), cp_TG_in (i := 61) (by decide +kernel) (by decide +kernel)⟩
theorem me_X7_why : cp_me yX7_why cX7_why 4 (some .int) 2 := ⟨cp_TG_in (i := 903) (by decide +kernel) (by decide +kernel), cp_TG_in (i := 78) (by decide +kernel) (by decide +kernel), by decide, by decide, by decide +kernel⟩
theorem mi_X7_why : cp_mi yX7_why := ⟨cp_TG_in (i := 901) (by decide +kernel) (by decide +kernel), cp_TG_in (i := 902) (by decide +kernel) (by decide +kernel)⟩
theorem me_X7_plateNow : cp_me yX7_plateNow cX7_plateNow 1 (some .int) 0 := ⟨cp_TG_in (i := 915) (by decide +kernel) (by decide +kernel), cp_TG_in (i := 78) (by decide +kernel) (by decide +kernel), by decide, by decide, by decide +kernel⟩
theorem mi_X7_plateNow : cp_mi yX7_plateNow := ⟨cp_TG_in (i := 913) (by decide +kernel) (by decide +kernel), cp_TG_in (i := 914) (by decide +kernel) (by decide +kernel)⟩
theorem me_X7_readyIn : cp_me yX7_readyIn cX7_readyIn 3 (some .int) 1 := ⟨cp_TG_in (i := 919) (by decide +kernel) (by decide +kernel), cp_TG_in (i := 78) (by decide +kernel) (by decide +kernel), by decide, by decide, by decide +kernel⟩
theorem mi_X7_readyIn : cp_mi yX7_readyIn := ⟨cp_TG_in (i := 917) (by decide +kernel) (by decide +kernel), cp_TG_in (i := 918) (by decide +kernel) (by decide +kernel)⟩
theorem me_X7_comesToNext : cp_me yX7_comesToNext cX7_comesToNext 2 (some .boolean) 0 := ⟨cp_TG_in (i := 927) (by decide +kernel) (by decide +kernel), cp_TG_in (i := 78) (by decide +kernel) (by decide +kernel), by decide, by decide, by decide +kernel⟩
theorem mi_X7_comesToNext : cp_mi yX7_comesToNext := ⟨cp_TG_in (i := 926) (by decide +kernel) (by decide +kernel), cp_TG_in (i := 63) (by decide +kernel) (by decide +kernel)⟩
theorem me_X7_leastRoom : cp_me yX7_leastRoom cX7_leastRoom 4 (some .int) 0 := ⟨cp_TG_in (i := 923) (by decide +kernel) (by decide +kernel), cp_TG_in (i := 78) (by decide +kernel) (by decide +kernel), by decide, by decide, by decide +kernel⟩
theorem mi_X7_leastRoom : cp_mi yX7_leastRoom := ⟨cp_TG_in (i := 921) (by decide +kernel) (by decide +kernel), cp_TG_in (i := 922) (by decide +kernel) (by decide +kernel)⟩
theorem me_X7_nextPlate : cp_me yX7_nextPlate cX7_nextPlate 2 (some .int) 0 := ⟨cp_TG_in (i := 931) (by decide +kernel) (by decide +kernel), cp_TG_in (i := 78) (by decide +kernel) (by decide +kernel), by decide, by decide, by decide +kernel⟩
theorem mi_X7_nextPlate : cp_mi yX7_nextPlate := ⟨cp_TG_in (i := 929) (by decide +kernel) (by decide +kernel), cp_TG_in (i := 930) (by decide +kernel) (by decide +kernel)⟩
theorem me_X7_put : cp_me yX7_put cX7_put 8 (some .int) 1 := ⟨cp_TG_in (i := 935) (by decide +kernel) (by decide +kernel), cp_TG_in (i := 78) (by decide +kernel) (by decide +kernel), by decide, by decide, by decide +kernel⟩
theorem mi_X7_put : cp_mi yX7_put := ⟨cp_TG_in (i := 933) (by decide +kernel) (by decide +kernel), cp_TG_in (i := 934) (by decide +kernel) (by decide +kernel)⟩
theorem me_X7_wipe : cp_me yX7_wipe cX7_wipe 2 (some .int) 0 := ⟨cp_TG_in (i := 942) (by decide +kernel) (by decide +kernel), cp_TG_in (i := 78) (by decide +kernel) (by decide +kernel), by decide, by decide, by decide +kernel⟩
theorem mi_X7_wipe : cp_mi yX7_wipe := ⟨cp_TG_in (i := 940) (by decide +kernel) (by decide +kernel), cp_TG_in (i := 941) (by decide +kernel) (by decide +kernel)⟩
theorem me_X7_isHere : cp_me yX7_isHere cX7_isHere 3 (some .boolean) 2 := ⟨cp_TG_in (i := 958) (by decide +kernel) (by decide +kernel), cp_TG_in (i := 78) (by decide +kernel) (by decide +kernel), by decide, by decide, by decide +kernel⟩
theorem mi_X7_isHere : cp_mi yX7_isHere := ⟨cp_TG_in (i := 957) (by decide +kernel) (by decide +kernel), cp_TG_in (i := 66) (by decide +kernel) (by decide +kernel)⟩
theorem me_X7_takesOne : cp_me yX7_takesOne cX7_takesOne 3 (some .boolean) 1 := ⟨cp_TG_in (i := 954) (by decide +kernel) (by decide +kernel), cp_TG_in (i := 78) (by decide +kernel) (by decide +kernel), by decide, by decide, by decide +kernel⟩
theorem mi_X7_takesOne : cp_mi yX7_takesOne := ⟨cp_TG_in (i := 953) (by decide +kernel) (by decide +kernel), cp_TG_in (i := 65) (by decide +kernel) (by decide +kernel)⟩
theorem me_X7_readsDigit : cp_me yX7_readsDigit cX7_readsDigit 3 (some .boolean) 1 := ⟨cp_TG_in (i := 966) (by decide +kernel) (by decide +kernel), cp_TG_in (i := 78) (by decide +kernel) (by decide +kernel), by decide, by decide, by decide +kernel⟩
theorem mi_X7_readsDigit : cp_mi yX7_readsDigit := ⟨cp_TG_in (i := 965) (by decide +kernel) (by decide +kernel), cp_TG_in (i := 68) (by decide +kernel) (by decide +kernel)⟩
theorem me_X7_readsNumber : cp_me yX7_readsNumber cX7_readsNumber 1 (some .boolean) 0 := ⟨cp_TG_in (i := 970) (by decide +kernel) (by decide +kernel), cp_TG_in (i := 78) (by decide +kernel) (by decide +kernel), by decide, by decide, by decide +kernel⟩
theorem mi_X7_readsNumber : cp_mi yX7_readsNumber := ⟨cp_TG_in (i := 969) (by decide +kernel) (by decide +kernel), cp_TG_in (i := 69) (by decide +kernel) (by decide +kernel)⟩
theorem me_X7_readsPiece : cp_me yX7_readsPiece cX7_readsPiece 5 (some .boolean) 0 := ⟨cp_TG_in (i := 962) (by decide +kernel) (by decide +kernel), cp_TG_in (i := 78) (by decide +kernel) (by decide +kernel), by decide, by decide, by decide +kernel⟩
theorem mi_X7_readsPiece : cp_mi yX7_readsPiece := ⟨cp_TG_in (i := 961) (by decide +kernel) (by decide +kernel), cp_TG_in (i := 67) (by decide +kernel) (by decide +kernel)⟩
theorem me_X7_readsOrder : cp_me yX7_readsOrder cX7_readsOrder 2 (some .boolean) 0 := ⟨cp_TG_in (i := 950) (by decide +kernel) (by decide +kernel), cp_TG_in (i := 78) (by decide +kernel) (by decide +kernel), by decide, by decide, by decide +kernel⟩
theorem mi_X7_readsOrder : cp_mi yX7_readsOrder := ⟨cp_TG_in (i := 949) (by decide +kernel) (by decide +kernel), cp_TG_in (i := 64) (by decide +kernel) (by decide +kernel)⟩
theorem me_X7_fault : cp_me yX7_fault cX7_fault 2 (some .int) 0 := ⟨cp_TG_in (i := 946) (by decide +kernel) (by decide +kernel), cp_TG_in (i := 78) (by decide +kernel) (by decide +kernel), by decide, by decide, by decide +kernel⟩
theorem mi_X7_fault : cp_mi yX7_fault := ⟨cp_TG_in (i := 944) (by decide +kernel) (by decide +kernel), cp_TG_in (i := 945) (by decide +kernel) (by decide +kernel)⟩
theorem me_X7_carryOut : cp_me yX7_carryOut cX7_carryOut 4 (some .int) 0 := ⟨cp_TG_in (i := 974) (by decide +kernel) (by decide +kernel), cp_TG_in (i := 78) (by decide +kernel) (by decide +kernel), by decide, by decide, by decide +kernel⟩
theorem mi_X7_carryOut : cp_mi yX7_carryOut := ⟨cp_TG_in (i := 972) (by decide +kernel) (by decide +kernel), cp_TG_in (i := 973) (by decide +kernel) (by decide +kernel)⟩
theorem me_X7_undo : cp_me yX7_undo cX7_undo 2 (some .int) 0 := ⟨cp_TG_in (i := 979) (by decide +kernel) (by decide +kernel), cp_TG_in (i := 78) (by decide +kernel) (by decide +kernel), by decide, by decide, by decide +kernel⟩
theorem mi_X7_undo : cp_mi yX7_undo := ⟨cp_TG_in (i := 977) (by decide +kernel) (by decide +kernel), cp_TG_in (i := 978) (by decide +kernel) (by decide +kernel)⟩
theorem me_X7_save : cp_me yX7_save cX7_save 3 (some .int) 1 := ⟨cp_TG_in (i := 983) (by decide +kernel) (by decide +kernel), cp_TG_in (i := 78) (by decide +kernel) (by decide +kernel), by decide, by decide, by decide +kernel⟩
theorem mi_X7_save : cp_mi yX7_save := ⟨cp_TG_in (i := 981) (by decide +kernel) (by decide +kernel), cp_TG_in (i := 982) (by decide +kernel) (by decide +kernel)⟩
theorem me_X7_restore : cp_me yX7_restore cX7_restore 3 (some .int) 1 := ⟨cp_TG_in (i := 987) (by decide +kernel) (by decide +kernel), cp_TG_in (i := 78) (by decide +kernel) (by decide +kernel), by decide, by decide, by decide +kernel⟩
theorem mi_X7_restore : cp_mi yX7_restore := ⟨cp_TG_in (i := 985) (by decide +kernel) (by decide +kernel), cp_TG_in (i := 986) (by decide +kernel) (by decide +kernel)⟩
theorem ml_L_9 : Cond.methodLink RL 9 yX6_init ∈ cp_TG := cp_TG_in (i := 83) (by decide +kernel) (by decide +kernel)
theorem ml_X6_9 : Cond.methodLink RX6 9 yX1_init ∈ cp_TG := cp_TG_in (i := 91) (by decide +kernel) (by decide +kernel)
theorem ml_X1_33 : (RX1, 33, yX4_init) ∈ cp_nM := by decide +kernel
theorem ml_X1_43 : (RX1, 43, yX5_init) ∈ cp_nM := by decide +kernel
theorem ml_X6_21 : Cond.methodLink RX6 21 yX0_init ∈ cp_TG := cp_TG_in (i := 195) (by decide +kernel) (by decide +kernel)
theorem ml_X0_17 : Cond.methodLink RX0 17 yX1_init ∈ cp_TG := cp_TG_in (i := 201) (by decide +kernel) (by decide +kernel)
theorem ml_X6_32 : Cond.methodLink RX6 32 yX3_init ∈ cp_TG := cp_TG_in (i := 215) (by decide +kernel) (by decide +kernel)
theorem ml_X6_39 : Cond.methodLink RX6 39 yX2_init ∈ cp_TG := cp_TG_in (i := 231) (by decide +kernel) (by decide +kernel)
theorem ml_L_13 : Cond.methodLink RL 13 yX6_set ∈ cp_TG := cp_TG_in (i := 281) (by decide +kernel) (by decide +kernel)
theorem ml_X6_46 : Cond.methodLink RX6 46 yX0_prepare ∈ cp_TG := cp_TG_in (i := 285) (by decide +kernel) (by decide +kernel)
theorem ml_X0_25 : Cond.methodLink RX0 25 yX1_copyFrom ∈ cp_TG := cp_TG_in (i := 289) (by decide +kernel) (by decide +kernel)
theorem ml_X1_53 : Cond.methodLink RX1 53 yX4_copyFrom ∈ cp_TG := cp_TG_in (i := 296) (by decide +kernel) (by decide +kernel)
theorem ml_X1_57 : Cond.methodLink RX1 57 yX5_copyFrom ∈ cp_TG := cp_TG_in (i := 300) (by decide +kernel) (by decide +kernel)
theorem ml_X6_50 : Cond.methodLink RX6 50 yX1_changeSetting ∈ cp_TG := cp_TG_in (i := 304) (by decide +kernel) (by decide +kernel)
theorem ml_X6_54 : Cond.methodLink RX6 54 yX0_recordUnlessError ∈ cp_TG := cp_TG_in (i := 312) (by decide +kernel) (by decide +kernel)
theorem ml_L_18 : Cond.methodLink RL 18 yX6_piece ∈ cp_TG := cp_TG_in (i := 319) (by decide +kernel) (by decide +kernel)
theorem ml_X6_58 : Cond.methodLink RX6 58 yX1_addPiece ∈ cp_TG := cp_TG_in (i := 323) (by decide +kernel) (by decide +kernel)
theorem ml_X1_73 : Cond.methodLink RX1 73 yX4_come ∈ cp_TG := cp_TG_in (i := 327) (by decide +kernel) (by decide +kernel)
theorem ml_L_23 : Cond.methodLink RL 23 yX6_plate ∈ cp_TG := cp_TG_in (i := 331) (by decide +kernel) (by decide +kernel)
theorem ml_X6_62 : Cond.methodLink RX6 62 yX1_addPlate ∈ cp_TG := cp_TG_in (i := 335) (by decide +kernel) (by decide +kernel)
theorem ml_X1_77 : Cond.methodLink RX1 77 yX1_plateAt ∈ cp_TG := cp_TG_in (i := 339) (by decide +kernel) (by decide +kernel)
theorem ml_X1_81 : Cond.methodLink RX1 81 yX1_insertPlate ∈ cp_TG := cp_TG_in (i := 343) (by decide +kernel) (by decide +kernel)
theorem ml_X1_184 : Cond.methodLink RX1 184 yX5_tell ∈ cp_TG := cp_TG_in (i := 347) (by decide +kernel) (by decide +kernel)
theorem ml_L_28 : Cond.methodLink RL 28 yX6_hold ∈ cp_TG := cp_TG_in (i := 351) (by decide +kernel) (by decide +kernel)
theorem ml_X6_65 : Cond.methodLink RX6 65 yX1_turnHold ∈ cp_TG := cp_TG_in (i := 355) (by decide +kernel) (by decide +kernel)
theorem ml_X1_60 : Cond.methodLink RX1 60 yX1_hasPiece ∈ cp_TG := cp_TG_in (i := 359) (by decide +kernel) (by decide +kernel)
theorem ml_X1_89 : (RX1, 89, yX6_oneIf) ∈ cp_nM := by decide +kernel
theorem ml_L_32 : Cond.methodLink RL 32 yX6_kill ∈ cp_TG := cp_TG_in (i := 366) (by decide +kernel) (by decide +kernel)
theorem ml_X6_68 : Cond.methodLink RX6 68 yX1_killPiece ∈ cp_TG := cp_TG_in (i := 370) (by decide +kernel) (by decide +kernel)
theorem ml_X1_93 : Cond.methodLink RX1 93 yX1_isOnLatestMade ∈ cp_TG := cp_TG_in (i := 374) (by decide +kernel) (by decide +kernel)
theorem ml_X1_175 : Cond.methodLink RX1 175 yX1_madePlates ∈ cp_TG := cp_TG_in (i := 378) (by decide +kernel) (by decide +kernel)
theorem ml_X1_178 : Cond.methodLink RX1 178 yX1_isMade ∈ cp_TG := cp_TG_in (i := 382) (by decide +kernel) (by decide +kernel)
theorem ml_X1_118 : (RX1, 118, yX6_isInSet) ∈ cp_nM := by decide +kernel
theorem ml_X1_96 : Cond.methodLink RX1 96 yX1_tellReplate ∈ cp_TG := cp_TG_in (i := 389) (by decide +kernel) (by decide +kernel)
theorem ml_X1_181 : Cond.methodLink RX1 181 yX1_nextDue ∈ cp_TG := cp_TG_in (i := 393) (by decide +kernel) (by decide +kernel)
theorem ml_L_36 : Cond.methodLink RL 36 yX6_pass ∈ cp_TG := cp_TG_in (i := 397) (by decide +kernel) (by decide +kernel)
theorem ml_X6_71 : Cond.methodLink RX6 71 yX1_passMinutes ∈ cp_TG := cp_TG_in (i := 401) (by decide +kernel) (by decide +kernel)
theorem ml_X1_100 : Cond.methodLink RX1 100 yX1_passMinute ∈ cp_TG := cp_TG_in (i := 405) (by decide +kernel) (by decide +kernel)
theorem ml_X1_103 : Cond.methodLink RX1 103 yX1_editAtDesks ∈ cp_TG := cp_TG_in (i := 409) (by decide +kernel) (by decide +kernel)
theorem ml_X1_122 : Cond.methodLink RX1 122 yX4_editFor ∈ cp_TG := cp_TG_in (i := 413) (by decide +kernel) (by decide +kernel)
theorem ml_X4_49 : Cond.methodLink RX4 49 yX4_becomeReady ∈ cp_TG := cp_TG_in (i := 418) (by decide +kernel) (by decide +kernel)
theorem ml_X1_106 : Cond.methodLink RX1 106 yX1_readAtLawyer ∈ cp_TG := cp_TG_in (i := 422) (by decide +kernel) (by decide +kernel)
theorem ml_X1_126 : Cond.methodLink RX1 126 yX1_firstAtLawyer ∈ cp_TG := cp_TG_in (i := 426) (by decide +kernel) (by decide +kernel)
theorem ml_X1_129 : Cond.methodLink RX1 129 yX4_readOneMinute ∈ cp_TG := cp_TG_in (i := 430) (by decide +kernel) (by decide +kernel)
theorem ml_X1_109 : Cond.methodLink RX1 109 yX1_takenNow ∈ cp_TG := cp_TG_in (i := 434) (by decide +kernel) (by decide +kernel)
theorem ml_X1_147 : Cond.methodLink RX1 147 yX1_piecesForPlate ∈ cp_TG := cp_TG_in (i := 438) (by decide +kernel) (by decide +kernel)
theorem ml_X1_141 : Cond.methodLink RX1 141 yX4_isForPlate ∈ cp_TG := cp_TG_in (i := 442) (by decide +kernel) (by decide +kernel)
theorem ml_X1_150 : Cond.methodLink RX1 150 yX1_firstByRank ∈ cp_TG := cp_TG_in (i := 446) (by decide +kernel) (by decide +kernel)
theorem ml_X1_153 : Cond.methodLink RX1 153 yX1_goesAhead ∈ cp_TG := cp_TG_in (i := 450) (by decide +kernel) (by decide +kernel)
theorem ml_L_40 : Cond.methodLink RL 40 yX6_ofPiece ∈ cp_TG := cp_TG_in (i := 454) (by decide +kernel) (by decide +kernel)
theorem ml_X6_74 : Cond.methodLink RX6 74 yX1_factOfPiece ∈ cp_TG := cp_TG_in (i := 458) (by decide +kernel) (by decide +kernel)
theorem ml_X1_197 : Cond.methodLink RX1 197 yX1_placeInQueue ∈ cp_TG := cp_TG_in (i := 462) (by decide +kernel) (by decide +kernel)
theorem ml_X1_135 : Cond.methodLink RX1 135 yX1_placeAtDesk ∈ cp_TG := cp_TG_in (i := 466) (by decide +kernel) (by decide +kernel)
theorem ml_X1_138 : Cond.methodLink RX1 138 yX1_placeAtLawyer ∈ cp_TG := cp_TG_in (i := 470) (by decide +kernel) (by decide +kernel)
theorem ml_X1_200 : Cond.methodLink RX1 200 yX1_platesWith ∈ cp_TG := cp_TG_in (i := 474) (by decide +kernel) (by decide +kernel)
theorem ml_L_44 : Cond.methodLink RL 44 yX6_ofPlate ∈ cp_TG := cp_TG_in (i := 478) (by decide +kernel) (by decide +kernel)
theorem ml_X6_77 : Cond.methodLink RX6 77 yX1_factOfPlate ∈ cp_TG := cp_TG_in (i := 482) (by decide +kernel) (by decide +kernel)
theorem ml_X1_206 : Cond.methodLink RX1 206 yX1_linesOf ∈ cp_TG := cp_TG_in (i := 486) (by decide +kernel) (by decide +kernel)
theorem ml_L_48 : Cond.methodLink RL 48 yX6_count ∈ cp_TG := cp_TG_in (i := 490) (by decide +kernel) (by decide +kernel)
theorem ml_X6_87 : Cond.methodLink RX6 87 yX1_factOfNight ∈ cp_TG := cp_TG_in (i := 494) (by decide +kernel) (by decide +kernel)
theorem ml_X1_209 : Cond.methodLink RX1 209 yX1_piecesThatAre ∈ cp_TG := cp_TG_in (i := 498) (by decide +kernel) (by decide +kernel)
theorem ml_X1_212 : Cond.methodLink RX1 212 yX1_heldPieces ∈ cp_TG := cp_TG_in (i := 502) (by decide +kernel) (by decide +kernel)
theorem ml_X1_215 : Cond.methodLink RX1 215 yX1_replates ∈ cp_TG := cp_TG_in (i := 506) (by decide +kernel) (by decide +kernel)
theorem ml_L_52 : Cond.methodLink RL 52 yX6_why ∈ cp_TG := cp_TG_in (i := 510) (by decide +kernel) (by decide +kernel)
theorem ml_X6_90 : Cond.methodLink RX6 90 yX1_whyNotOnPlate ∈ cp_TG := cp_TG_in (i := 514) (by decide +kernel) (by decide +kernel)
theorem ml_X1_162 : Cond.methodLink RX1 162 yX1_reasonOf ∈ cp_TG := cp_TG_in (i := 518) (by decide +kernel) (by decide +kernel)
theorem ml_X1_165 : Cond.methodLink RX1 165 yX1_causeOf ∈ cp_TG := cp_TG_in (i := 522) (by decide +kernel) (by decide +kernel)
theorem ml_X1_168 : Cond.methodLink RX1 168 yX1_firstAtDesk ∈ cp_TG := cp_TG_in (i := 526) (by decide +kernel) (by decide +kernel)
theorem ml_X1_171 : Cond.methodLink RX1 171 yX1_lastTakenAheadOf ∈ cp_TG := cp_TG_in (i := 530) (by decide +kernel) (by decide +kernel)
theorem ml_L_56 : Cond.methodLink RL 56 yX6_plateNow ∈ cp_TG := cp_TG_in (i := 534) (by decide +kernel) (by decide +kernel)
theorem ml_X6_93 : Cond.methodLink RX6 93 yX1_takenNow ∈ cp_TG := cp_TG_in (i := 538) (by decide +kernel) (by decide +kernel)
theorem ml_L_61 : Cond.methodLink RL 61 yX6_readyIn ∈ cp_TG := cp_TG_in (i := 539) (by decide +kernel) (by decide +kernel)
theorem ml_X6_97 : Cond.methodLink RX6 97 yX1_hasPiece ∈ cp_TG := cp_TG_in (i := 543) (by decide +kernel) (by decide +kernel)
theorem ml_X6_101 : Cond.methodLink RX6 101 yX1_isPiece ∈ cp_TG := cp_TG_in (i := 544) (by decide +kernel) (by decide +kernel)
theorem ml_X6_105 : Cond.methodLink RX6 105 yX1_copyFrom ∈ cp_TG := cp_TG_in (i := 548) (by decide +kernel) (by decide +kernel)
theorem ml_X6_108 : Cond.methodLink RX6 108 yX1_passMinute ∈ cp_TG := cp_TG_in (i := 549) (by decide +kernel) (by decide +kernel)
theorem ml_L_65 : Cond.methodLink RL 65 yX6_leastRoom ∈ cp_TG := cp_TG_in (i := 550) (by decide +kernel) (by decide +kernel)
theorem ml_X6_112 : Cond.methodLink RX6 112 yX1_nextDue ∈ cp_TG := cp_TG_in (i := 554) (by decide +kernel) (by decide +kernel)
theorem ml_X6_115 : Cond.methodLink RX6 115 yX6_goAheadToPlate ∈ cp_TG := cp_TG_in (i := 555) (by decide +kernel) (by decide +kernel)
theorem ml_X6_137 : Cond.methodLink RX6 137 yX1_minutesToPlate ∈ cp_TG := cp_TG_in (i := 559) (by decide +kernel) (by decide +kernel)
theorem ml_X6_119 : Cond.methodLink RX6 119 yX1_piecesForPlate ∈ cp_TG := cp_TG_in (i := 563) (by decide +kernel) (by decide +kernel)
theorem ml_X6_122 : Cond.methodLink RX6 122 yX1_linesOf ∈ cp_TG := cp_TG_in (i := 564) (by decide +kernel) (by decide +kernel)
theorem ml_L_69 : Cond.methodLink RL 69 yX6_nextPlate ∈ cp_TG := cp_TG_in (i := 570) (by decide +kernel) (by decide +kernel)
theorem ml_L_75 : Cond.methodLink RL 75 yX6_put ∈ cp_TG := cp_TG_in (i := 574) (by decide +kernel) (by decide +kernel)
theorem ml_X6_140 : Cond.methodLink RX6 140 yX3_append ∈ cp_TG := cp_TG_in (i := 578) (by decide +kernel) (by decide +kernel)
theorem ml_X3_19 : Cond.methodLink RX3 19 yX3_charactersIn ∈ cp_TG := cp_TG_in (i := 582) (by decide +kernel) (by decide +kernel)
theorem ml_L_80 : Cond.methodLink RL 80 yX6_wipe ∈ cp_TG := cp_TG_in (i := 588) (by decide +kernel) (by decide +kernel)
theorem ml_X6_144 : Cond.methodLink RX6 144 yX3_empty ∈ cp_TG := cp_TG_in (i := 592) (by decide +kernel) (by decide +kernel)
theorem ml_L_84 : Cond.methodLink RL 84 yX6_fault ∈ cp_TG := cp_TG_in (i := 596) (by decide +kernel) (by decide +kernel)
theorem ml_X6_147 : Cond.methodLink RX6 147 yX2_findFault ∈ cp_TG := cp_TG_in (i := 600) (by decide +kernel) (by decide +kernel)
theorem ml_X2_19 : Cond.methodLink RX2 19 yX2_goToStart ∈ cp_TG := cp_TG_in (i := 604) (by decide +kernel) (by decide +kernel)
theorem ml_X2_22 : Cond.methodLink RX2 22 yX2_readOrder ∈ cp_TG := cp_TG_in (i := 608) (by decide +kernel) (by decide +kernel)
theorem ml_X2_35 : Cond.methodLink RX2 35 yX3_characterAt ∈ cp_TG := cp_TG_in (i := 612) (by decide +kernel) (by decide +kernel)
theorem ml_X2_43 : Cond.methodLink RX2 43 yX2_readPiece ∈ cp_TG := cp_TG_in (i := 616) (by decide +kernel) (by decide +kernel)
theorem ml_X2_49 : Cond.methodLink RX2 49 yX2_digitHere ∈ cp_TG := cp_TG_in (i := 620) (by decide +kernel) (by decide +kernel)
theorem ml_X2_31 : Cond.methodLink RX2 31 yX2_readSign ∈ cp_TG := cp_TG_in (i := 624) (by decide +kernel) (by decide +kernel)
theorem ml_X2_46 : Cond.methodLink RX2 46 yX2_readNumber ∈ cp_TG := cp_TG_in (i := 628) (by decide +kernel) (by decide +kernel)
theorem ml_X2_59 : (RX2, 59, yX6_oneIf) ∈ cp_nM := by decide +kernel
theorem ml_L_88 : Cond.methodLink RL 88 yX6_carryOut ∈ cp_TG := cp_TG_in (i := 633) (by decide +kernel) (by decide +kernel)
theorem ml_X6_150 : Cond.methodLink RX6 150 yX2_goToStart ∈ cp_TG := cp_TG_in (i := 637) (by decide +kernel) (by decide +kernel)
theorem ml_X6_153 : Cond.methodLink RX6 153 yX2_readOrder ∈ cp_TG := cp_TG_in (i := 638) (by decide +kernel) (by decide +kernel)
theorem ml_X6_156 : Cond.methodLink RX6 156 yX6_carryOrderOut ∈ cp_TG := cp_TG_in (i := 639) (by decide +kernel) (by decide +kernel)
theorem ml_X6_159 : Cond.methodLink RX6 159 yX2_readSign ∈ cp_TG := cp_TG_in (i := 643) (by decide +kernel) (by decide +kernel)
theorem ml_L_92 : Cond.methodLink RL 92 yX6_undo ∈ cp_TG := cp_TG_in (i := 644) (by decide +kernel) (by decide +kernel)
theorem ml_X6_179 : Cond.methodLink RX6 179 yX0_takeBack ∈ cp_TG := cp_TG_in (i := 648) (by decide +kernel) (by decide +kernel)
theorem ml_L_96 : Cond.methodLink RL 96 yX6_save ∈ cp_TG := cp_TG_in (i := 652) (by decide +kernel) (by decide +kernel)
theorem ml_L_100 : Cond.methodLink RL 100 yX6_restore ∈ cp_TG := cp_TG_in (i := 656) (by decide +kernel) (by decide +kernel)
theorem ml_L_12 : Cond.methodLink RL 12 yX7_init ∈ cp_TG := cp_TG_in (i := 662) (by decide +kernel) (by decide +kernel)
theorem ml_L_17 : Cond.methodLink RL 17 yX7_set ∈ cp_TG := cp_TG_in (i := 712) (by decide +kernel) (by decide +kernel)
theorem ml_X7_136 : Cond.methodLink RX7 136 yX7_isSetting ∈ cp_TG := cp_TG_in (i := 716) (by decide +kernel) (by decide +kernel)
theorem ml_X7_35 : Cond.methodLink RX7 35 yX7_in ∈ cp_TG := cp_TG_in (i := 720) (by decide +kernel) (by decide +kernel)
theorem ml_X7_139 : Cond.methodLink RX7 139 yX7_copy ∈ cp_TG := cp_TG_in (i := 726) (by decide +kernel) (by decide +kernel)
theorem ml_X7_143 : Cond.methodLink RX7 143 yX7_ends ∈ cp_TG := cp_TG_in (i := 729) (by decide +kernel) (by decide +kernel)
theorem ml_L_22 : Cond.methodLink RL 22 yX7_piece ∈ cp_TG := cp_TG_in (i := 733) (by decide +kernel) (by decide +kernel)
theorem ml_X7_146 : Cond.methodLink RX7 146 yX7_doPiece ∈ cp_TG := cp_TG_in (i := 737) (by decide +kernel) (by decide +kernel)
theorem ml_X7_53 : Cond.methodLink RX7 53 yX7_sets ∈ cp_TG := cp_TG_in (i := 744) (by decide +kernel) (by decide +kernel)
theorem ml_X7_61 : Cond.methodLink RX7 61 yX7_comesTo ∈ cp_TG := cp_TG_in (i := 748) (by decide +kernel) (by decide +kernel)
theorem ml_L_27 : Cond.methodLink RL 27 yX7_plate ∈ cp_TG := cp_TG_in (i := 752) (by decide +kernel) (by decide +kernel)
theorem ml_X7_150 : Cond.methodLink RX7 150 yX7_doPlate ∈ cp_TG := cp_TG_in (i := 756) (by decide +kernel) (by decide +kernel)
theorem ml_X7_97 : Cond.methodLink RX7 97 yX7_due ∈ cp_TG := cp_TG_in (i := 761) (by decide +kernel) (by decide +kernel)
theorem ml_X7_85 : Cond.methodLink RX7 85 yX7_plateAt ∈ cp_TG := cp_TG_in (i := 765) (by decide +kernel) (by decide +kernel)
theorem ml_X7_111 : Cond.methodLink RX7 111 yX7_tells ∈ cp_TG := cp_TG_in (i := 769) (by decide +kernel) (by decide +kernel)
theorem ml_L_31 : Cond.methodLink RL 31 yX7_hold ∈ cp_TG := cp_TG_in (i := 773) (by decide +kernel) (by decide +kernel)
theorem ml_X7_153 : Cond.methodLink RX7 153 yX7_doHold ∈ cp_TG := cp_TG_in (i := 777) (by decide +kernel) (by decide +kernel)
theorem ml_X7_114 : Cond.methodLink RX7 114 yX7_isPiece ∈ cp_TG := cp_TG_in (i := 781) (by decide +kernel) (by decide +kernel)
theorem ml_X7_39 : Cond.methodLink RX7 39 yX7_of ∈ cp_TG := cp_TG_in (i := 785) (by decide +kernel) (by decide +kernel)
theorem ml_L_35 : Cond.methodLink RL 35 yX7_kill ∈ cp_TG := cp_TG_in (i := 789) (by decide +kernel) (by decide +kernel)
theorem ml_X7_156 : Cond.methodLink RX7 156 yX7_doKill ∈ cp_TG := cp_TG_in (i := 793) (by decide +kernel) (by decide +kernel)
theorem ml_X7_57 : Cond.methodLink RX7 57 yX7_leaves ∈ cp_TG := cp_TG_in (i := 797) (by decide +kernel) (by decide +kernel)
theorem ml_X7_43 : Cond.methodLink RX7 43 yX7_queueOf ∈ cp_TG := cp_TG_in (i := 801) (by decide +kernel) (by decide +kernel)
theorem ml_X7_50 : Cond.methodLink RX7 50 yX7_placeOf ∈ cp_TG := cp_TG_in (i := 805) (by decide +kernel) (by decide +kernel)
theorem ml_X7_47 : Cond.methodLink RX7 47 yX7_inQueue ∈ cp_TG := cp_TG_in (i := 809) (by decide +kernel) (by decide +kernel)
theorem ml_X7_117 : Cond.methodLink RX7 117 yX7_isOnLatest ∈ cp_TG := cp_TG_in (i := 813) (by decide +kernel) (by decide +kernel)
theorem ml_X7_120 : Cond.methodLink RX7 120 yX7_isDueSoon ∈ cp_TG := cp_TG_in (i := 817) (by decide +kernel) (by decide +kernel)
theorem ml_L_39 : Cond.methodLink RL 39 yX7_pass ∈ cp_TG := cp_TG_in (i := 821) (by decide +kernel) (by decide +kernel)
theorem ml_X7_159 : Cond.methodLink RX7 159 yX7_doPass ∈ cp_TG := cp_TG_in (i := 825) (by decide +kernel) (by decide +kernel)
theorem ml_X7_124 : Cond.methodLink RX7 124 yX7_passes ∈ cp_TG := cp_TG_in (i := 829) (by decide +kernel) (by decide +kernel)
theorem ml_X7_94 : Cond.methodLink RX7 94 yX7_works ∈ cp_TG := cp_TG_in (i := 833) (by decide +kernel) (by decide +kernel)
theorem ml_X7_88 : Cond.methodLink RX7 88 yX7_edits ∈ cp_TG := cp_TG_in (i := 837) (by decide +kernel) (by decide +kernel)
theorem ml_X7_65 : Cond.methodLink RX7 65 yX7_becomesReady ∈ cp_TG := cp_TG_in (i := 841) (by decide +kernel) (by decide +kernel)
theorem ml_X7_91 : Cond.methodLink RX7 91 yX7_reads ∈ cp_TG := cp_TG_in (i := 845) (by decide +kernel) (by decide +kernel)
theorem ml_X7_100 : Cond.methodLink RX7 100 yX7_takes ∈ cp_TG := cp_TG_in (i := 849) (by decide +kernel) (by decide +kernel)
theorem ml_X7_82 : Cond.methodLink RX7 82 yX7_ranked ∈ cp_TG := cp_TG_in (i := 853) (by decide +kernel) (by decide +kernel)
theorem ml_X7_68 : Cond.methodLink RX7 68 yX7_isFree ∈ cp_TG := cp_TG_in (i := 857) (by decide +kernel) (by decide +kernel)
theorem ml_X7_72 : Cond.methodLink RX7 72 yX7_isAhead ∈ cp_TG := cp_TG_in (i := 861) (by decide +kernel) (by decide +kernel)
theorem ml_L_43 : Cond.methodLink RL 43 yX7_ofPiece ∈ cp_TG := cp_TG_in (i := 865) (by decide +kernel) (by decide +kernel)
theorem ml_X7_164 : Cond.methodLink RX7 164 yX7_platesWith ∈ cp_TG := cp_TG_in (i := 870) (by decide +kernel) (by decide +kernel)
theorem ml_L_47 : Cond.methodLink RL 47 yX7_ofPlate ∈ cp_TG := cp_TG_in (i := 874) (by decide +kernel) (by decide +kernel)
theorem ml_X7_169 : Cond.methodLink RX7 169 yX7_linesOf ∈ cp_TG := cp_TG_in (i := 879) (by decide +kernel) (by decide +kernel)
theorem ml_L_51 : Cond.methodLink RL 51 yX7_count ∈ cp_TG := cp_TG_in (i := 883) (by decide +kernel) (by decide +kernel)
theorem ml_X7_172 : Cond.methodLink RX7 172 yX7_manyThat ∈ cp_TG := cp_TG_in (i := 887) (by decide +kernel) (by decide +kernel)
theorem ml_X7_177 : Cond.methodLink RX7 177 yX7_manyHeld ∈ cp_TG := cp_TG_in (i := 892) (by decide +kernel) (by decide +kernel)
theorem ml_X7_180 : Cond.methodLink RX7 180 yX7_replates ∈ cp_TG := cp_TG_in (i := 896) (by decide +kernel) (by decide +kernel)
theorem ml_L_55 : Cond.methodLink RL 55 yX7_why ∈ cp_TG := cp_TG_in (i := 900) (by decide +kernel) (by decide +kernel)
theorem ml_X7_186 : Cond.methodLink RX7 186 yX7_reason ∈ cp_TG := cp_TG_in (i := 904) (by decide +kernel) (by decide +kernel)
theorem ml_X7_189 : Cond.methodLink RX7 189 yX7_lastAhead ∈ cp_TG := cp_TG_in (i := 908) (by decide +kernel) (by decide +kernel)
theorem ml_L_60 : Cond.methodLink RL 60 yX7_plateNow ∈ cp_TG := cp_TG_in (i := 912) (by decide +kernel) (by decide +kernel)
theorem ml_L_64 : Cond.methodLink RL 64 yX7_readyIn ∈ cp_TG := cp_TG_in (i := 916) (by decide +kernel) (by decide +kernel)
theorem ml_L_68 : Cond.methodLink RL 68 yX7_leastRoom ∈ cp_TG := cp_TG_in (i := 920) (by decide +kernel) (by decide +kernel)
theorem ml_X7_192 : Cond.methodLink RX7 192 yX7_comesToNext ∈ cp_TG := cp_TG_in (i := 924) (by decide +kernel) (by decide +kernel)
theorem ml_L_72 : Cond.methodLink RL 72 yX7_nextPlate ∈ cp_TG := cp_TG_in (i := 928) (by decide +kernel) (by decide +kernel)
theorem ml_L_79 : Cond.methodLink RL 79 yX7_put ∈ cp_TG := cp_TG_in (i := 932) (by decide +kernel) (by decide +kernel)
theorem ml_L_83 : Cond.methodLink RL 83 yX7_wipe ∈ cp_TG := cp_TG_in (i := 939) (by decide +kernel) (by decide +kernel)
theorem ml_L_87 : Cond.methodLink RL 87 yX7_fault ∈ cp_TG := cp_TG_in (i := 943) (by decide +kernel) (by decide +kernel)
theorem ml_X7_229 : Cond.methodLink RX7 229 yX7_readsOrder ∈ cp_TG := cp_TG_in (i := 947) (by decide +kernel) (by decide +kernel)
theorem ml_X7_213 : Cond.methodLink RX7 213 yX7_takesOne ∈ cp_TG := cp_TG_in (i := 951) (by decide +kernel) (by decide +kernel)
theorem ml_X7_204 : Cond.methodLink RX7 204 yX7_isHere ∈ cp_TG := cp_TG_in (i := 955) (by decide +kernel) (by decide +kernel)
theorem ml_X7_226 : Cond.methodLink RX7 226 yX7_readsPiece ∈ cp_TG := cp_TG_in (i := 959) (by decide +kernel) (by decide +kernel)
theorem ml_X7_210 : Cond.methodLink RX7 210 yX7_readsDigit ∈ cp_TG := cp_TG_in (i := 963) (by decide +kernel) (by decide +kernel)
theorem ml_X7_216 : Cond.methodLink RX7 216 yX7_readsNumber ∈ cp_TG := cp_TG_in (i := 967) (by decide +kernel) (by decide +kernel)
theorem ml_L_91 : Cond.methodLink RL 91 yX7_carryOut ∈ cp_TG := cp_TG_in (i := 971) (by decide +kernel) (by decide +kernel)
theorem ml_X7_232 : Cond.methodLink RX7 232 yX7_fault ∈ cp_TG := cp_TG_in (i := 975) (by decide +kernel) (by decide +kernel)
theorem ml_L_95 : Cond.methodLink RL 95 yX7_undo ∈ cp_TG := cp_TG_in (i := 976) (by decide +kernel) (by decide +kernel)
theorem ml_L_99 : Cond.methodLink RL 99 yX7_save ∈ cp_TG := cp_TG_in (i := 980) (by decide +kernel) (by decide +kernel)
theorem ml_L_103 : Cond.methodLink RL 103 yX7_restore ∈ cp_TG := cp_TG_in (i := 984) (by decide +kernel) (by decide +kernel)
theorem cl_X3_23 : Cond.constantLong RX3 23 (255 : Int64) ∈ cp_TG := cp_TG_in (i := 585) (by decide +kernel) (by decide +kernel)
theorem cl_X3_25 : Cond.constantLong RX3 25 (33 : Int64) ∈ cp_TG := cp_TG_in (i := 586) (by decide +kernel) (by decide +kernel)
theorem cl_X3_27 : Cond.constantLong RX3 27 (126 : Int64) ∈ cp_TG := cp_TG_in (i := 587) (by decide +kernel) (by decide +kernel)
theorem cl_X7_128 : Cond.constantLong RX7 128 (20 : Int64) ∈ cp_TG := cp_TG_in (i := 719) (by decide +kernel) (by decide +kernel)
theorem cl_X7_130 : Cond.constantLong RX7 130 (60 : Int64) ∈ cp_TG := cp_TG_in (i := 723) (by decide +kernel) (by decide +kernel)
theorem cl_X7_132 : Cond.constantLong RX7 132 (10 : Int64) ∈ cp_TG := cp_TG_in (i := 724) (by decide +kernel) (by decide +kernel)
theorem cl_X7_134 : Cond.constantLong RX7 134 (400 : Int64) ∈ cp_TG := cp_TG_in (i := 725) (by decide +kernel) (by decide +kernel)
theorem cl_X7_103 : Cond.constantLong RX7 103 (4 : Int64) ∈ cp_TG := cp_TG_in (i := 741) (by decide +kernel) (by decide +kernel)
theorem cl_X7_105 : Cond.constantLong RX7 105 (99 : Int64) ∈ cp_TG := cp_TG_in (i := 742) (by decide +kernel) (by decide +kernel)
theorem cl_X7_107 : Cond.constantLong RX7 107 (9 : Int64) ∈ cp_TG := cp_TG_in (i := 743) (by decide +kernel) (by decide +kernel)
theorem cl_X7_109 : Cond.constantLong RX7 109 (599 : Int64) ∈ cp_TG := cp_TG_in (i := 760) (by decide +kernel) (by decide +kernel)
theorem cl_X7_162 : Cond.constantLong RX7 162 (7 : Int64) ∈ cp_TG := cp_TG_in (i := 869) (by decide +kernel) (by decide +kernel)
theorem cl_X7_167 : Cond.constantLong RX7 167 (3 : Int64) ∈ cp_TG := cp_TG_in (i := 878) (by decide +kernel) (by decide +kernel)
theorem cl_X7_175 : Cond.constantLong RX7 175 (13 : Int64) ∈ cp_TG := cp_TG_in (i := 891) (by decide +kernel) (by decide +kernel)
theorem cl_X7_195 : Cond.constantLong RX7 195 (255 : Int64) ∈ cp_TG := cp_TG_in (i := 936) (by decide +kernel) (by decide +kernel)
theorem cl_X7_197 : Cond.constantLong RX7 197 (33 : Int64) ∈ cp_TG := cp_TG_in (i := 937) (by decide +kernel) (by decide +kernel)
theorem cl_X7_199 : Cond.constantLong RX7 199 (126 : Int64) ∈ cp_TG := cp_TG_in (i := 938) (by decide +kernel) (by decide +kernel)
theorem cl_L_73 : Cond.constantLong RL 73 (4294967295 : Int64) ∈ cp_TG := cp_TG_in (i := 988) (by decide +kernel) (by decide +kernel)
section CPF
variable {x : cp_Cx} {E : cp_En} {bc : ByteArray} {nL d mc ms cells slots cnt : Nat} {sh : cp_Shp} {I : cp_Mem} {R : cp_Rem} {pc : Nat} {L : List (Option Value)} {st : List Value}
theorem fs_X1_9 (O : cp_Ok x E RX1 bc nL d mc ms) (hd : decode bc pc = .ok (.getstatic 9, 3)) (k : cp_G x E nL cells slots cnt sh I R (pc + 3) L (.ref (cp_ts E 0) :: st)) : cp_G x E nL cells slots cnt sh I R pc L st := cp_getsN O (by decide) (by decide +kernel) hd k
theorem fl_X4_9 : cp_lk RX4 9 TX4 0 := cp_TG_in (i := 111) (by decide +kernel) (by decide +kernel)
theorem fg_X4_9 (O : cp_Ok x E RX4 bc nL d mc ms) {a : Nat} (hs : sh a = (5, 0)) (hd : decode bc pc = .ok (.getfield 9, 3)) (k : cp_G x E nL cells slots cnt sh I R (pc + 3) L (.int (I a 0) :: st)) : cp_G x E nL cells slots cnt sh I R pc L (.ref a :: st) := cp_get O cp_cX4 (j := 0) (by decide) fl_X4_9 hs hd k
theorem fp_X4_9 (O : cp_Ok x E RX4 bc nL d mc ms) {a : Nat} {v : Int32} (hs : sh a = (5, 0)) (hd : decode bc pc = .ok (.putfield 9, 3)) (k : cp_G x E nL cells slots cnt sh (cp_wi I a 0 v) R (pc + 3) L st) : cp_G x E nL cells slots cnt sh I R pc L (.int v :: .ref a :: st) := cp_put O cp_cX4 (j := 0) (by decide) fl_X4_9 rfl (ty := .int) (by decide +kernel) ⟨rfl, rfl⟩ rfl hs hd k
theorem fl_X1_115 : cp_lk RX1 115 TX4 0 := cp_TG_in (i := 112) (by decide +kernel) (by decide +kernel)
theorem fg_X1_115 (O : cp_Ok x E RX1 bc nL d mc ms) {a : Nat} (hs : sh a = (5, 0)) (hd : decode bc pc = .ok (.getfield 115, 3)) (k : cp_G x E nL cells slots cnt sh I R (pc + 3) L (.int (I a 0) :: st)) : cp_G x E nL cells slots cnt sh I R pc L (.ref a :: st) := cp_get O cp_cX4 (j := 0) (by decide) fl_X1_115 hs hd k
theorem fp_X1_115 (O : cp_Ok x E RX1 bc nL d mc ms) {a : Nat} {v : Int32} (hs : sh a = (5, 0)) (hd : decode bc pc = .ok (.putfield 115, 3)) (k : cp_G x E nL cells slots cnt sh (cp_wi I a 0 v) R (pc + 3) L st) : cp_G x E nL cells slots cnt sh I R pc L (.int v :: .ref a :: st) := cp_put O cp_cX4 (j := 0) (by decide) fl_X1_115 rfl (ty := .int) (by decide +kernel) ⟨rfl, rfl⟩ rfl hs hd k
theorem fl_X4_15 : cp_lk RX4 15 TX4 1 := cp_TG_in (i := 113) (by decide +kernel) (by decide +kernel)
theorem fg_X4_15 (O : cp_Ok x E RX4 bc nL d mc ms) {a : Nat} (hs : sh a = (5, 0)) (hd : decode bc pc = .ok (.getfield 15, 3)) (k : cp_G x E nL cells slots cnt sh I R (pc + 3) L (.int (I a 1) :: st)) : cp_G x E nL cells slots cnt sh I R pc L (.ref a :: st) := cp_get O cp_cX4 (j := 1) (by decide) fl_X4_15 hs hd k
theorem fp_X4_15 (O : cp_Ok x E RX4 bc nL d mc ms) {a : Nat} {v : Int32} (hs : sh a = (5, 0)) (hd : decode bc pc = .ok (.putfield 15, 3)) (k : cp_G x E nL cells slots cnt sh (cp_wi I a 1 v) R (pc + 3) L st) : cp_G x E nL cells slots cnt sh I R pc L (.int v :: .ref a :: st) := cp_put O cp_cX4 (j := 1) (by decide) fl_X4_15 rfl (ty := .int) (by decide +kernel) ⟨rfl, rfl⟩ rfl hs hd k
theorem fl_X1_144 : cp_lk RX1 144 TX4 1 := cp_TG_in (i := 114) (by decide +kernel) (by decide +kernel)
theorem fg_X1_144 (O : cp_Ok x E RX1 bc nL d mc ms) {a : Nat} (hs : sh a = (5, 0)) (hd : decode bc pc = .ok (.getfield 144, 3)) (k : cp_G x E nL cells slots cnt sh I R (pc + 3) L (.int (I a 1) :: st)) : cp_G x E nL cells slots cnt sh I R pc L (.ref a :: st) := cp_get O cp_cX4 (j := 1) (by decide) fl_X1_144 hs hd k
theorem fp_X1_144 (O : cp_Ok x E RX1 bc nL d mc ms) {a : Nat} {v : Int32} (hs : sh a = (5, 0)) (hd : decode bc pc = .ok (.putfield 144, 3)) (k : cp_G x E nL cells slots cnt sh (cp_wi I a 1 v) R (pc + 3) L st) : cp_G x E nL cells slots cnt sh I R pc L (.int v :: .ref a :: st) := cp_put O cp_cX4 (j := 1) (by decide) fl_X1_144 rfl (ty := .int) (by decide +kernel) ⟨rfl, rfl⟩ rfl hs hd k
theorem fl_X4_18 : cp_lk RX4 18 TX4 2 := cp_TG_in (i := 115) (by decide +kernel) (by decide +kernel)
theorem fg_X4_18 (O : cp_Ok x E RX4 bc nL d mc ms) {a : Nat} (hs : sh a = (5, 0)) (hd : decode bc pc = .ok (.getfield 18, 3)) (k : cp_G x E nL cells slots cnt sh I R (pc + 3) L (.int (I a 2) :: st)) : cp_G x E nL cells slots cnt sh I R pc L (.ref a :: st) := cp_get O cp_cX4 (j := 2) (by decide) fl_X4_18 hs hd k
theorem fp_X4_18 (O : cp_Ok x E RX4 bc nL d mc ms) {a : Nat} {v : Int32} (hs : sh a = (5, 0)) (hd : decode bc pc = .ok (.putfield 18, 3)) (k : cp_G x E nL cells slots cnt sh (cp_wi I a 2 v) R (pc + 3) L st) : cp_G x E nL cells slots cnt sh I R pc L (.int v :: .ref a :: st) := cp_put O cp_cX4 (j := 2) (by decide) fl_X4_18 rfl (ty := .int) (by decide +kernel) ⟨rfl, rfl⟩ rfl hs hd k
theorem fl_X1_156 : cp_lk RX1 156 TX4 2 := cp_TG_in (i := 116) (by decide +kernel) (by decide +kernel)
theorem fg_X1_156 (O : cp_Ok x E RX1 bc nL d mc ms) {a : Nat} (hs : sh a = (5, 0)) (hd : decode bc pc = .ok (.getfield 156, 3)) (k : cp_G x E nL cells slots cnt sh I R (pc + 3) L (.int (I a 2) :: st)) : cp_G x E nL cells slots cnt sh I R pc L (.ref a :: st) := cp_get O cp_cX4 (j := 2) (by decide) fl_X1_156 hs hd k
theorem fp_X1_156 (O : cp_Ok x E RX1 bc nL d mc ms) {a : Nat} {v : Int32} (hs : sh a = (5, 0)) (hd : decode bc pc = .ok (.putfield 156, 3)) (k : cp_G x E nL cells slots cnt sh (cp_wi I a 2 v) R (pc + 3) L st) : cp_G x E nL cells slots cnt sh I R pc L (.int v :: .ref a :: st) := cp_put O cp_cX4 (j := 2) (by decide) fl_X1_156 rfl (ty := .int) (by decide +kernel) ⟨rfl, rfl⟩ rfl hs hd k
theorem fl_X4_21 : cp_lk RX4 21 TX4 3 := cp_TG_in (i := 117) (by decide +kernel) (by decide +kernel)
theorem fg_X4_21 (O : cp_Ok x E RX4 bc nL d mc ms) {a : Nat} (hs : sh a = (5, 0)) (hd : decode bc pc = .ok (.getfield 21, 3)) (k : cp_G x E nL cells slots cnt sh I R (pc + 3) L (.int (I a 3) :: st)) : cp_G x E nL cells slots cnt sh I R pc L (.ref a :: st) := cp_get O cp_cX4 (j := 3) (by decide) fl_X4_21 hs hd k
theorem fp_X4_21 (O : cp_Ok x E RX4 bc nL d mc ms) {a : Nat} {v : Int32} (hs : sh a = (5, 0)) (hv : v = 0 ∨ v = 1) (hd : decode bc pc = .ok (.putfield 21, 3)) (k : cp_G x E nL cells slots cnt sh (cp_wi I a 3 v) R (pc + 3) L st) : cp_G x E nL cells slots cnt sh I R pc L (.int v :: .ref a :: st) := cp_put O cp_cX4 (j := 3) (by decide) fl_X4_21 rfl (ty := .boolean) (by decide +kernel) (cp_narb hv) rfl hs hd k
theorem fl_X1_188 : cp_lk RX1 188 TX4 3 := cp_TG_in (i := 118) (by decide +kernel) (by decide +kernel)
theorem fg_X1_188 (O : cp_Ok x E RX1 bc nL d mc ms) {a : Nat} (hs : sh a = (5, 0)) (hd : decode bc pc = .ok (.getfield 188, 3)) (k : cp_G x E nL cells slots cnt sh I R (pc + 3) L (.int (I a 3) :: st)) : cp_G x E nL cells slots cnt sh I R pc L (.ref a :: st) := cp_get O cp_cX4 (j := 3) (by decide) fl_X1_188 hs hd k
theorem fp_X1_188 (O : cp_Ok x E RX1 bc nL d mc ms) {a : Nat} {v : Int32} (hs : sh a = (5, 0)) (hv : v = 0 ∨ v = 1) (hd : decode bc pc = .ok (.putfield 188, 3)) (k : cp_G x E nL cells slots cnt sh (cp_wi I a 3 v) R (pc + 3) L st) : cp_G x E nL cells slots cnt sh I R pc L (.int v :: .ref a :: st) := cp_put O cp_cX4 (j := 3) (by decide) fl_X1_188 rfl (ty := .boolean) (by decide +kernel) (cp_narb hv) rfl hs hd k
theorem fl_X4_25 : cp_lk RX4 25 TX4 4 := cp_TG_in (i := 119) (by decide +kernel) (by decide +kernel)
theorem fg_X4_25 (O : cp_Ok x E RX4 bc nL d mc ms) {a : Nat} (hs : sh a = (5, 0)) (hd : decode bc pc = .ok (.getfield 25, 3)) (k : cp_G x E nL cells slots cnt sh I R (pc + 3) L (.int (I a 4) :: st)) : cp_G x E nL cells slots cnt sh I R pc L (.ref a :: st) := cp_get O cp_cX4 (j := 4) (by decide) fl_X4_25 hs hd k
theorem fp_X4_25 (O : cp_Ok x E RX4 bc nL d mc ms) {a : Nat} {v : Int32} (hs : sh a = (5, 0)) (hd : decode bc pc = .ok (.putfield 25, 3)) (k : cp_G x E nL cells slots cnt sh (cp_wi I a 4 v) R (pc + 3) L st) : cp_G x E nL cells slots cnt sh I R pc L (.int v :: .ref a :: st) := cp_put O cp_cX4 (j := 4) (by decide) fl_X4_25 rfl (ty := .int) (by decide +kernel) ⟨rfl, rfl⟩ rfl hs hd k
theorem fl_X1_64 : cp_lk RX1 64 TX4 4 := cp_TG_in (i := 120) (by decide +kernel) (by decide +kernel)
theorem fg_X1_64 (O : cp_Ok x E RX1 bc nL d mc ms) {a : Nat} (hs : sh a = (5, 0)) (hd : decode bc pc = .ok (.getfield 64, 3)) (k : cp_G x E nL cells slots cnt sh I R (pc + 3) L (.int (I a 4) :: st)) : cp_G x E nL cells slots cnt sh I R pc L (.ref a :: st) := cp_get O cp_cX4 (j := 4) (by decide) fl_X1_64 hs hd k
theorem fp_X1_64 (O : cp_Ok x E RX1 bc nL d mc ms) {a : Nat} {v : Int32} (hs : sh a = (5, 0)) (hd : decode bc pc = .ok (.putfield 64, 3)) (k : cp_G x E nL cells slots cnt sh (cp_wi I a 4 v) R (pc + 3) L st) : cp_G x E nL cells slots cnt sh I R pc L (.int v :: .ref a :: st) := cp_put O cp_cX4 (j := 4) (by decide) fl_X1_64 rfl (ty := .int) (by decide +kernel) ⟨rfl, rfl⟩ rfl hs hd k
theorem fl_X4_28 : cp_lk RX4 28 TX4 5 := cp_TG_in (i := 121) (by decide +kernel) (by decide +kernel)
theorem fg_X4_28 (O : cp_Ok x E RX4 bc nL d mc ms) {a : Nat} (hs : sh a = (5, 0)) (hd : decode bc pc = .ok (.getfield 28, 3)) (k : cp_G x E nL cells slots cnt sh I R (pc + 3) L (.int (I a 5) :: st)) : cp_G x E nL cells slots cnt sh I R pc L (.ref a :: st) := cp_get O cp_cX4 (j := 5) (by decide) fl_X4_28 hs hd k
theorem fp_X4_28 (O : cp_Ok x E RX4 bc nL d mc ms) {a : Nat} {v : Int32} (hs : sh a = (5, 0)) (hv : v = 0 ∨ v = 1) (hd : decode bc pc = .ok (.putfield 28, 3)) (k : cp_G x E nL cells slots cnt sh (cp_wi I a 5 v) R (pc + 3) L st) : cp_G x E nL cells slots cnt sh I R pc L (.int v :: .ref a :: st) := cp_put O cp_cX4 (j := 5) (by decide) fl_X4_28 rfl (ty := .boolean) (by decide +kernel) (cp_narb hv) rfl hs hd k
theorem fl_X1_85 : cp_lk RX1 85 TX4 5 := cp_TG_in (i := 122) (by decide +kernel) (by decide +kernel)
theorem fg_X1_85 (O : cp_Ok x E RX1 bc nL d mc ms) {a : Nat} (hs : sh a = (5, 0)) (hd : decode bc pc = .ok (.getfield 85, 3)) (k : cp_G x E nL cells slots cnt sh I R (pc + 3) L (.int (I a 5) :: st)) : cp_G x E nL cells slots cnt sh I R pc L (.ref a :: st) := cp_get O cp_cX4 (j := 5) (by decide) fl_X1_85 hs hd k
theorem fp_X1_85 (O : cp_Ok x E RX1 bc nL d mc ms) {a : Nat} {v : Int32} (hs : sh a = (5, 0)) (hv : v = 0 ∨ v = 1) (hd : decode bc pc = .ok (.putfield 85, 3)) (k : cp_G x E nL cells slots cnt sh (cp_wi I a 5 v) R (pc + 3) L st) : cp_G x E nL cells slots cnt sh I R pc L (.int v :: .ref a :: st) := cp_put O cp_cX4 (j := 5) (by decide) fl_X1_85 rfl (ty := .boolean) (by decide +kernel) (cp_narb hv) rfl hs hd k
theorem fl_X4_31 : cp_lk RX4 31 TX4 6 := cp_TG_in (i := 123) (by decide +kernel) (by decide +kernel)
theorem fg_X4_31 (O : cp_Ok x E RX4 bc nL d mc ms) {a : Nat} (hs : sh a = (5, 0)) (hd : decode bc pc = .ok (.getfield 31, 3)) (k : cp_G x E nL cells slots cnt sh I R (pc + 3) L (.int (I a 6) :: st)) : cp_G x E nL cells slots cnt sh I R pc L (.ref a :: st) := cp_get O cp_cX4 (j := 6) (by decide) fl_X4_31 hs hd k
theorem fp_X4_31 (O : cp_Ok x E RX4 bc nL d mc ms) {a : Nat} {v : Int32} (hs : sh a = (5, 0)) (hd : decode bc pc = .ok (.putfield 31, 3)) (k : cp_G x E nL cells slots cnt sh (cp_wi I a 6 v) R (pc + 3) L st) : cp_G x E nL cells slots cnt sh I R pc L (.int v :: .ref a :: st) := cp_put O cp_cX4 (j := 6) (by decide) fl_X4_31 rfl (ty := .int) (by decide +kernel) ⟨rfl, rfl⟩ rfl hs hd k
theorem fl_X1_191 : cp_lk RX1 191 TX4 6 := cp_TG_in (i := 124) (by decide +kernel) (by decide +kernel)
theorem fg_X1_191 (O : cp_Ok x E RX1 bc nL d mc ms) {a : Nat} (hs : sh a = (5, 0)) (hd : decode bc pc = .ok (.getfield 191, 3)) (k : cp_G x E nL cells slots cnt sh I R (pc + 3) L (.int (I a 6) :: st)) : cp_G x E nL cells slots cnt sh I R pc L (.ref a :: st) := cp_get O cp_cX4 (j := 6) (by decide) fl_X1_191 hs hd k
theorem fp_X1_191 (O : cp_Ok x E RX1 bc nL d mc ms) {a : Nat} {v : Int32} (hs : sh a = (5, 0)) (hd : decode bc pc = .ok (.putfield 191, 3)) (k : cp_G x E nL cells slots cnt sh (cp_wi I a 6 v) R (pc + 3) L st) : cp_G x E nL cells slots cnt sh I R pc L (.int v :: .ref a :: st) := cp_put O cp_cX4 (j := 6) (by decide) fl_X1_191 rfl (ty := .int) (by decide +kernel) ⟨rfl, rfl⟩ rfl hs hd k
theorem fl_X4_34 : cp_lk RX4 34 TX4 7 := cp_TG_in (i := 125) (by decide +kernel) (by decide +kernel)
theorem fg_X4_34 (O : cp_Ok x E RX4 bc nL d mc ms) {a : Nat} (hs : sh a = (5, 0)) (hd : decode bc pc = .ok (.getfield 34, 3)) (k : cp_G x E nL cells slots cnt sh I R (pc + 3) L (.int (I a 7) :: st)) : cp_G x E nL cells slots cnt sh I R pc L (.ref a :: st) := cp_get O cp_cX4 (j := 7) (by decide) fl_X4_34 hs hd k
theorem fp_X4_34 (O : cp_Ok x E RX4 bc nL d mc ms) {a : Nat} {v : Int32} (hs : sh a = (5, 0)) (hd : decode bc pc = .ok (.putfield 34, 3)) (k : cp_G x E nL cells slots cnt sh (cp_wi I a 7 v) R (pc + 3) L st) : cp_G x E nL cells slots cnt sh I R pc L (.int v :: .ref a :: st) := cp_put O cp_cX4 (j := 7) (by decide) fl_X4_34 rfl (ty := .int) (by decide +kernel) ⟨rfl, rfl⟩ rfl hs hd k
theorem fl_X1_194 : cp_lk RX1 194 TX4 7 := cp_TG_in (i := 126) (by decide +kernel) (by decide +kernel)
theorem fg_X1_194 (O : cp_Ok x E RX1 bc nL d mc ms) {a : Nat} (hs : sh a = (5, 0)) (hd : decode bc pc = .ok (.getfield 194, 3)) (k : cp_G x E nL cells slots cnt sh I R (pc + 3) L (.int (I a 7) :: st)) : cp_G x E nL cells slots cnt sh I R pc L (.ref a :: st) := cp_get O cp_cX4 (j := 7) (by decide) fl_X1_194 hs hd k
theorem fp_X1_194 (O : cp_Ok x E RX1 bc nL d mc ms) {a : Nat} {v : Int32} (hs : sh a = (5, 0)) (hd : decode bc pc = .ok (.putfield 194, 3)) (k : cp_G x E nL cells slots cnt sh (cp_wi I a 7 v) R (pc + 3) L st) : cp_G x E nL cells slots cnt sh I R pc L (.int v :: .ref a :: st) := cp_put O cp_cX4 (j := 7) (by decide) fl_X1_194 rfl (ty := .int) (by decide +kernel) ⟨rfl, rfl⟩ rfl hs hd k
theorem fl_X4_37 : cp_lk RX4 37 TX4 8 := cp_TG_in (i := 127) (by decide +kernel) (by decide +kernel)
theorem fg_X4_37 (O : cp_Ok x E RX4 bc nL d mc ms) {a : Nat} (hs : sh a = (5, 0)) (hd : decode bc pc = .ok (.getfield 37, 3)) (k : cp_G x E nL cells slots cnt sh I R (pc + 3) L (.int (I a 8) :: st)) : cp_G x E nL cells slots cnt sh I R pc L (.ref a :: st) := cp_get O cp_cX4 (j := 8) (by decide) fl_X4_37 hs hd k
theorem fp_X4_37 (O : cp_Ok x E RX4 bc nL d mc ms) {a : Nat} {v : Int32} (hs : sh a = (5, 0)) (hd : decode bc pc = .ok (.putfield 37, 3)) (k : cp_G x E nL cells slots cnt sh (cp_wi I a 8 v) R (pc + 3) L st) : cp_G x E nL cells slots cnt sh I R pc L (.int v :: .ref a :: st) := cp_put O cp_cX4 (j := 8) (by decide) fl_X4_37 rfl (ty := .int) (by decide +kernel) ⟨rfl, rfl⟩ rfl hs hd k
theorem fl_X1_159 : cp_lk RX1 159 TX4 8 := cp_TG_in (i := 128) (by decide +kernel) (by decide +kernel)
theorem fg_X1_159 (O : cp_Ok x E RX1 bc nL d mc ms) {a : Nat} (hs : sh a = (5, 0)) (hd : decode bc pc = .ok (.getfield 159, 3)) (k : cp_G x E nL cells slots cnt sh I R (pc + 3) L (.int (I a 8) :: st)) : cp_G x E nL cells slots cnt sh I R pc L (.ref a :: st) := cp_get O cp_cX4 (j := 8) (by decide) fl_X1_159 hs hd k
theorem fp_X1_159 (O : cp_Ok x E RX1 bc nL d mc ms) {a : Nat} {v : Int32} (hs : sh a = (5, 0)) (hd : decode bc pc = .ok (.putfield 159, 3)) (k : cp_G x E nL cells slots cnt sh (cp_wi I a 8 v) R (pc + 3) L st) : cp_G x E nL cells slots cnt sh I R pc L (.int v :: .ref a :: st) := cp_put O cp_cX4 (j := 8) (by decide) fl_X1_159 rfl (ty := .int) (by decide +kernel) ⟨rfl, rfl⟩ rfl hs hd k
theorem fl_X4_40 : cp_lk RX4 40 TX4 9 := cp_TG_in (i := 129) (by decide +kernel) (by decide +kernel)
theorem fg_X4_40 (O : cp_Ok x E RX4 bc nL d mc ms) {a : Nat} (hs : sh a = (5, 0)) (hd : decode bc pc = .ok (.getfield 40, 3)) (k : cp_G x E nL cells slots cnt sh I R (pc + 3) L (.int (I a 9) :: st)) : cp_G x E nL cells slots cnt sh I R pc L (.ref a :: st) := cp_get O cp_cX4 (j := 9) (by decide) fl_X4_40 hs hd k
theorem fp_X4_40 (O : cp_Ok x E RX4 bc nL d mc ms) {a : Nat} {v : Int32} (hs : sh a = (5, 0)) (hd : decode bc pc = .ok (.putfield 40, 3)) (k : cp_G x E nL cells slots cnt sh (cp_wi I a 9 v) R (pc + 3) L st) : cp_G x E nL cells slots cnt sh I R pc L (.int v :: .ref a :: st) := cp_put O cp_cX4 (j := 9) (by decide) fl_X4_40 rfl (ty := .int) (by decide +kernel) ⟨rfl, rfl⟩ rfl hs hd k
theorem fl_X1_132 : cp_lk RX1 132 TX4 9 := cp_TG_in (i := 130) (by decide +kernel) (by decide +kernel)
theorem fg_X1_132 (O : cp_Ok x E RX1 bc nL d mc ms) {a : Nat} (hs : sh a = (5, 0)) (hd : decode bc pc = .ok (.getfield 132, 3)) (k : cp_G x E nL cells slots cnt sh I R (pc + 3) L (.int (I a 9) :: st)) : cp_G x E nL cells slots cnt sh I R pc L (.ref a :: st) := cp_get O cp_cX4 (j := 9) (by decide) fl_X1_132 hs hd k
theorem fp_X1_132 (O : cp_Ok x E RX1 bc nL d mc ms) {a : Nat} {v : Int32} (hs : sh a = (5, 0)) (hd : decode bc pc = .ok (.putfield 132, 3)) (k : cp_G x E nL cells slots cnt sh (cp_wi I a 9 v) R (pc + 3) L st) : cp_G x E nL cells slots cnt sh I R pc L (.int v :: .ref a :: st) := cp_put O cp_cX4 (j := 9) (by decide) fl_X1_132 rfl (ty := .int) (by decide +kernel) ⟨rfl, rfl⟩ rfl hs hd k
theorem fl_X5_7 : cp_lk RX5 7 TX5 0 := cp_TG_in (i := 160) (by decide +kernel) (by decide +kernel)
theorem fg_X5_7 (O : cp_Ok x E RX5 bc nL d mc ms) {a : Nat} (hs : sh a = (6, 0)) (hd : decode bc pc = .ok (.getfield 7, 3)) (k : cp_G x E nL cells slots cnt sh I R (pc + 3) L (.int (I a 0) :: st)) : cp_G x E nL cells slots cnt sh I R pc L (.ref a :: st) := cp_get O cp_cX5 (j := 0) (by decide) fl_X5_7 hs hd k
theorem fp_X5_7 (O : cp_Ok x E RX5 bc nL d mc ms) {a : Nat} {v : Int32} (hs : sh a = (6, 0)) (hd : decode bc pc = .ok (.putfield 7, 3)) (k : cp_G x E nL cells slots cnt sh (cp_wi I a 0 v) R (pc + 3) L st) : cp_G x E nL cells slots cnt sh I R pc L (.int v :: .ref a :: st) := cp_put O cp_cX5 (j := 0) (by decide) fl_X5_7 rfl (ty := .int) (by decide +kernel) ⟨rfl, rfl⟩ rfl hs hd k
theorem fl_X1_174 : cp_lk RX1 174 TX5 0 := cp_TG_in (i := 161) (by decide +kernel) (by decide +kernel)
theorem fg_X1_174 (O : cp_Ok x E RX1 bc nL d mc ms) {a : Nat} (hs : sh a = (6, 0)) (hd : decode bc pc = .ok (.getfield 174, 3)) (k : cp_G x E nL cells slots cnt sh I R (pc + 3) L (.int (I a 0) :: st)) : cp_G x E nL cells slots cnt sh I R pc L (.ref a :: st) := cp_get O cp_cX5 (j := 0) (by decide) fl_X1_174 hs hd k
theorem fp_X1_174 (O : cp_Ok x E RX1 bc nL d mc ms) {a : Nat} {v : Int32} (hs : sh a = (6, 0)) (hd : decode bc pc = .ok (.putfield 174, 3)) (k : cp_G x E nL cells slots cnt sh (cp_wi I a 0 v) R (pc + 3) L st) : cp_G x E nL cells slots cnt sh I R pc L (.int v :: .ref a :: st) := cp_put O cp_cX5 (j := 0) (by decide) fl_X1_174 rfl (ty := .int) (by decide +kernel) ⟨rfl, rfl⟩ rfl hs hd k
theorem fl_X5_13 : cp_lk RX5 13 TX5 1 := cp_TG_in (i := 162) (by decide +kernel) (by decide +kernel)
theorem fg_X5_13 (O : cp_Ok x E RX5 bc nL d mc ms) {a : Nat} (hs : sh a = (6, 0)) (hd : decode bc pc = .ok (.getfield 13, 3)) (k : cp_G x E nL cells slots cnt sh I R (pc + 3) L (.int (I a 1) :: st)) : cp_G x E nL cells slots cnt sh I R pc L (.ref a :: st) := cp_get O cp_cX5 (j := 1) (by decide) fl_X5_13 hs hd k
theorem fp_X5_13 (O : cp_Ok x E RX5 bc nL d mc ms) {a : Nat} {v : Int32} (hs : sh a = (6, 0)) (hv : v = 0 ∨ v = 1) (hd : decode bc pc = .ok (.putfield 13, 3)) (k : cp_G x E nL cells slots cnt sh (cp_wi I a 1 v) R (pc + 3) L st) : cp_G x E nL cells slots cnt sh I R pc L (.int v :: .ref a :: st) := cp_put O cp_cX5 (j := 1) (by decide) fl_X5_13 rfl (ty := .boolean) (by decide +kernel) (cp_narb hv) rfl hs hd k
theorem fl_X1_203 : cp_lk RX1 203 TX5 1 := cp_TG_in (i := 163) (by decide +kernel) (by decide +kernel)
theorem fg_X1_203 (O : cp_Ok x E RX1 bc nL d mc ms) {a : Nat} (hs : sh a = (6, 0)) (hd : decode bc pc = .ok (.getfield 203, 3)) (k : cp_G x E nL cells slots cnt sh I R (pc + 3) L (.int (I a 1) :: st)) : cp_G x E nL cells slots cnt sh I R pc L (.ref a :: st) := cp_get O cp_cX5 (j := 1) (by decide) fl_X1_203 hs hd k
theorem fp_X1_203 (O : cp_Ok x E RX1 bc nL d mc ms) {a : Nat} {v : Int32} (hs : sh a = (6, 0)) (hv : v = 0 ∨ v = 1) (hd : decode bc pc = .ok (.putfield 203, 3)) (k : cp_G x E nL cells slots cnt sh (cp_wi I a 1 v) R (pc + 3) L st) : cp_G x E nL cells slots cnt sh I R pc L (.int v :: .ref a :: st) := cp_put O cp_cX5 (j := 1) (by decide) fl_X1_203 rfl (ty := .boolean) (by decide +kernel) (cp_narb hv) rfl hs hd k
theorem fl_X5_17 : cp_lk RX5 17 TX5 2 := cp_TG_in (i := 164) (by decide +kernel) (by decide +kernel)
theorem fg_X5_17 (O : cp_Ok x E RX5 bc nL d mc ms) {a : Nat} (hs : sh a = (6, 0)) (hd : decode bc pc = .ok (.getfield 17, 3)) (k : cp_G x E nL cells slots cnt sh I R (pc + 3) L (.int (I a 2) :: st)) : cp_G x E nL cells slots cnt sh I R pc L (.ref a :: st) := cp_get O cp_cX5 (j := 2) (by decide) fl_X5_17 hs hd k
theorem fp_X5_17 (O : cp_Ok x E RX5 bc nL d mc ms) {a : Nat} {v : Int32} (hs : sh a = (6, 0)) (hd : decode bc pc = .ok (.putfield 17, 3)) (k : cp_G x E nL cells slots cnt sh (cp_wi I a 2 v) R (pc + 3) L st) : cp_G x E nL cells slots cnt sh I R pc L (.int v :: .ref a :: st) := cp_put O cp_cX5 (j := 2) (by decide) fl_X5_17 rfl (ty := .int) (by decide +kernel) ⟨rfl, rfl⟩ rfl hs hd k
theorem fl_X1_113 : cp_lk RX1 113 TX5 2 := cp_TG_in (i := 165) (by decide +kernel) (by decide +kernel)
theorem fg_X1_113 (O : cp_Ok x E RX1 bc nL d mc ms) {a : Nat} (hs : sh a = (6, 0)) (hd : decode bc pc = .ok (.getfield 113, 3)) (k : cp_G x E nL cells slots cnt sh I R (pc + 3) L (.int (I a 2) :: st)) : cp_G x E nL cells slots cnt sh I R pc L (.ref a :: st) := cp_get O cp_cX5 (j := 2) (by decide) fl_X1_113 hs hd k
theorem fp_X1_113 (O : cp_Ok x E RX1 bc nL d mc ms) {a : Nat} {v : Int32} (hs : sh a = (6, 0)) (hd : decode bc pc = .ok (.putfield 113, 3)) (k : cp_G x E nL cells slots cnt sh (cp_wi I a 2 v) R (pc + 3) L st) : cp_G x E nL cells slots cnt sh I R pc L (.int v :: .ref a :: st) := cp_put O cp_cX5 (j := 2) (by decide) fl_X1_113 rfl (ty := .int) (by decide +kernel) ⟨rfl, rfl⟩ rfl hs hd k
theorem fl_X1_18 : cp_lk RX1 18 TX1 0 := cp_TG_in (i := 173) (by decide +kernel) (by decide +kernel)
theorem fg_X1_18 (O : cp_Ok x E RX1 bc nL d mc ms) {a y : Nat} (hs : sh a = (2, 0)) (hr : R a 0 = some y) (hd : decode bc pc = .ok (.getfield 18, 3)) (k : cp_G x E nL cells slots cnt sh I R (pc + 3) L (.ref y :: st)) : cp_G x E nL cells slots cnt sh I R pc L (.ref a :: st) := cp_getr O cp_cX1 (j := 0) (by decide) fl_X1_18 rfl hs hr hd k
theorem fl_X1_23 : cp_lk RX1 23 TX1 1 := cp_TG_in (i := 174) (by decide +kernel) (by decide +kernel)
theorem fg_X1_23 (O : cp_Ok x E RX1 bc nL d mc ms) {a : Nat} (hs : sh a = (2, 0)) (hd : decode bc pc = .ok (.getfield 23, 3)) (k : cp_G x E nL cells slots cnt sh I R (pc + 3) L (.int (I a 1) :: st)) : cp_G x E nL cells slots cnt sh I R pc L (.ref a :: st) := cp_get O cp_cX1 (j := 1) (by decide) fl_X1_23 hs hd k
theorem fp_X1_23 (O : cp_Ok x E RX1 bc nL d mc ms) {a : Nat} {v : Int32} (hs : sh a = (2, 0)) (hd : decode bc pc = .ok (.putfield 23, 3)) (k : cp_G x E nL cells slots cnt sh (cp_wi I a 1 v) R (pc + 3) L st) : cp_G x E nL cells slots cnt sh I R pc L (.int v :: .ref a :: st) := cp_put O cp_cX1 (j := 1) (by decide) fl_X1_23 rfl (ty := .int) (by decide +kernel) ⟨rfl, rfl⟩ rfl hs hd k
theorem fl_X1_29 : cp_lk RX1 29 TX1 2 := cp_TG_in (i := 175) (by decide +kernel) (by decide +kernel)
theorem fg_X1_29 (O : cp_Ok x E RX1 bc nL d mc ms) {a y : Nat} (hs : sh a = (2, 0)) (hr : R a 2 = some y) (hd : decode bc pc = .ok (.getfield 29, 3)) (k : cp_G x E nL cells slots cnt sh I R (pc + 3) L (.ref y :: st)) : cp_G x E nL cells slots cnt sh I R pc L (.ref a :: st) := cp_getr O cp_cX1 (j := 2) (by decide) fl_X1_29 rfl hs hr hd k
theorem fl_X1_34 : cp_lk RX1 34 TX1 3 := cp_TG_in (i := 176) (by decide +kernel) (by decide +kernel)
theorem fg_X1_34 (O : cp_Ok x E RX1 bc nL d mc ms) {a : Nat} (hs : sh a = (2, 0)) (hd : decode bc pc = .ok (.getfield 34, 3)) (k : cp_G x E nL cells slots cnt sh I R (pc + 3) L (.int (I a 3) :: st)) : cp_G x E nL cells slots cnt sh I R pc L (.ref a :: st) := cp_get O cp_cX1 (j := 3) (by decide) fl_X1_34 hs hd k
theorem fp_X1_34 (O : cp_Ok x E RX1 bc nL d mc ms) {a : Nat} {v : Int32} (hs : sh a = (2, 0)) (hd : decode bc pc = .ok (.putfield 34, 3)) (k : cp_G x E nL cells slots cnt sh (cp_wi I a 3 v) R (pc + 3) L st) : cp_G x E nL cells slots cnt sh I R pc L (.int v :: .ref a :: st) := cp_put O cp_cX1 (j := 3) (by decide) fl_X1_34 rfl (ty := .int) (by decide +kernel) ⟨rfl, rfl⟩ rfl hs hd k
theorem fl_X6_182 : cp_lk RX6 182 TX1 3 := cp_TG_in (i := 177) (by decide +kernel) (by decide +kernel)
theorem fg_X6_182 (O : cp_Ok x E RX6 bc nL d mc ms) {a : Nat} (hs : sh a = (2, 0)) (hd : decode bc pc = .ok (.getfield 182, 3)) (k : cp_G x E nL cells slots cnt sh I R (pc + 3) L (.int (I a 3) :: st)) : cp_G x E nL cells slots cnt sh I R pc L (.ref a :: st) := cp_get O cp_cX1 (j := 3) (by decide) fl_X6_182 hs hd k
theorem fp_X6_182 (O : cp_Ok x E RX6 bc nL d mc ms) {a : Nat} {v : Int32} (hs : sh a = (2, 0)) (hd : decode bc pc = .ok (.putfield 182, 3)) (k : cp_G x E nL cells slots cnt sh (cp_wi I a 3 v) R (pc + 3) L st) : cp_G x E nL cells slots cnt sh I R pc L (.int v :: .ref a :: st) := cp_put O cp_cX1 (j := 3) (by decide) fl_X6_182 rfl (ty := .int) (by decide +kernel) ⟨rfl, rfl⟩ rfl hs hd k
theorem fl_X1_39 : cp_lk RX1 39 TX1 4 := cp_TG_in (i := 178) (by decide +kernel) (by decide +kernel)
theorem fg_X1_39 (O : cp_Ok x E RX1 bc nL d mc ms) {a y : Nat} (hs : sh a = (2, 0)) (hr : R a 4 = some y) (hd : decode bc pc = .ok (.getfield 39, 3)) (k : cp_G x E nL cells slots cnt sh I R (pc + 3) L (.ref y :: st)) : cp_G x E nL cells slots cnt sh I R pc L (.ref a :: st) := cp_getr O cp_cX1 (j := 4) (by decide) fl_X1_39 rfl hs hr hd k
theorem fl_X1_44 : cp_lk RX1 44 TX1 5 := cp_TG_in (i := 179) (by decide +kernel) (by decide +kernel)
theorem fg_X1_44 (O : cp_Ok x E RX1 bc nL d mc ms) {a : Nat} (hs : sh a = (2, 0)) (hd : decode bc pc = .ok (.getfield 44, 3)) (k : cp_G x E nL cells slots cnt sh I R (pc + 3) L (.int (I a 5) :: st)) : cp_G x E nL cells slots cnt sh I R pc L (.ref a :: st) := cp_get O cp_cX1 (j := 5) (by decide) fl_X1_44 hs hd k
theorem fp_X1_44 (O : cp_Ok x E RX1 bc nL d mc ms) {a : Nat} {v : Int32} (hs : sh a = (2, 0)) (hd : decode bc pc = .ok (.putfield 44, 3)) (k : cp_G x E nL cells slots cnt sh (cp_wi I a 5 v) R (pc + 3) L st) : cp_G x E nL cells slots cnt sh I R pc L (.int v :: .ref a :: st) := cp_put O cp_cX1 (j := 5) (by decide) fl_X1_44 rfl (ty := .int) (by decide +kernel) ⟨rfl, rfl⟩ rfl hs hd k
theorem fl_X0_11 : cp_lk RX0 11 TX0 0 := cp_TG_in (i := 202) (by decide +kernel) (by decide +kernel)
theorem fg_X0_11 (O : cp_Ok x E RX0 bc nL d mc ms) {a y : Nat} (hs : sh a = (1, 0)) (hr : R a 0 = some y) (hd : decode bc pc = .ok (.getfield 11, 3)) (k : cp_G x E nL cells slots cnt sh I R (pc + 3) L (.ref y :: st)) : cp_G x E nL cells slots cnt sh I R pc L (.ref a :: st) := cp_getr O cp_cX0 (j := 0) (by decide) fl_X0_11 rfl hs hr hd k
theorem fl_X0_18 : cp_lk RX0 18 TX0 1 := cp_TG_in (i := 203) (by decide +kernel) (by decide +kernel)
theorem fg_X0_18 (O : cp_Ok x E RX0 bc nL d mc ms) {a : Nat} (hs : sh a = (1, 0)) (hd : decode bc pc = .ok (.getfield 18, 3)) (k : cp_G x E nL cells slots cnt sh I R (pc + 3) L (.int (I a 1) :: st)) : cp_G x E nL cells slots cnt sh I R pc L (.ref a :: st) := cp_get O cp_cX0 (j := 1) (by decide) fl_X0_18 hs hd k
theorem fp_X0_18 (O : cp_Ok x E RX0 bc nL d mc ms) {a : Nat} {v : Int32} (hs : sh a = (1, 0)) (hd : decode bc pc = .ok (.putfield 18, 3)) (k : cp_G x E nL cells slots cnt sh (cp_wi I a 1 v) R (pc + 3) L st) : cp_G x E nL cells slots cnt sh I R pc L (.int v :: .ref a :: st) := cp_put O cp_cX0 (j := 1) (by decide) fl_X0_18 rfl (ty := .int) (by decide +kernel) ⟨rfl, rfl⟩ rfl hs hd k
theorem fl_X0_22 : cp_lk RX0 22 TX0 2 := cp_TG_in (i := 204) (by decide +kernel) (by decide +kernel)
theorem fg_X0_22 (O : cp_Ok x E RX0 bc nL d mc ms) {a : Nat} (hs : sh a = (1, 0)) (hd : decode bc pc = .ok (.getfield 22, 3)) (k : cp_G x E nL cells slots cnt sh I R (pc + 3) L (.int (I a 2) :: st)) : cp_G x E nL cells slots cnt sh I R pc L (.ref a :: st) := cp_get O cp_cX0 (j := 2) (by decide) fl_X0_22 hs hd k
theorem fp_X0_22 (O : cp_Ok x E RX0 bc nL d mc ms) {a : Nat} {v : Int32} (hs : sh a = (1, 0)) (hd : decode bc pc = .ok (.putfield 22, 3)) (k : cp_G x E nL cells slots cnt sh (cp_wi I a 2 v) R (pc + 3) L st) : cp_G x E nL cells slots cnt sh I R pc L (.int v :: .ref a :: st) := cp_put O cp_cX0 (j := 2) (by decide) fl_X0_22 rfl (ty := .int) (by decide +kernel) ⟨rfl, rfl⟩ rfl hs hd k
theorem fl_X6_84 : cp_lk RX6 84 TX0 2 := cp_TG_in (i := 205) (by decide +kernel) (by decide +kernel)
theorem fg_X6_84 (O : cp_Ok x E RX6 bc nL d mc ms) {a : Nat} (hs : sh a = (1, 0)) (hd : decode bc pc = .ok (.getfield 84, 3)) (k : cp_G x E nL cells slots cnt sh I R (pc + 3) L (.int (I a 2) :: st)) : cp_G x E nL cells slots cnt sh I R pc L (.ref a :: st) := cp_get O cp_cX0 (j := 2) (by decide) fl_X6_84 hs hd k
theorem fp_X6_84 (O : cp_Ok x E RX6 bc nL d mc ms) {a : Nat} {v : Int32} (hs : sh a = (1, 0)) (hd : decode bc pc = .ok (.putfield 84, 3)) (k : cp_G x E nL cells slots cnt sh (cp_wi I a 2 v) R (pc + 3) L st) : cp_G x E nL cells slots cnt sh I R pc L (.int v :: .ref a :: st) := cp_put O cp_cX0 (j := 2) (by decide) fl_X6_84 rfl (ty := .int) (by decide +kernel) ⟨rfl, rfl⟩ rfl hs hd k
theorem fl_X3_9 : cp_lk RX3 9 TX3 0 := cp_TG_in (i := 219) (by decide +kernel) (by decide +kernel)
theorem fg_X3_9 (O : cp_Ok x E RX3 bc nL d mc ms) {a y : Nat} (hs : sh a = (4, 0)) (hr : R a 0 = some y) (hd : decode bc pc = .ok (.getfield 9, 3)) (k : cp_G x E nL cells slots cnt sh I R (pc + 3) L (.ref y :: st)) : cp_G x E nL cells slots cnt sh I R pc L (.ref a :: st) := cp_getr O cp_cX3 (j := 0) (by decide) fl_X3_9 rfl hs hr hd k
theorem fl_X3_15 : cp_lk RX3 15 TX3 1 := cp_TG_in (i := 220) (by decide +kernel) (by decide +kernel)
theorem fg_X3_15 (O : cp_Ok x E RX3 bc nL d mc ms) {a : Nat} (hs : sh a = (4, 0)) (hd : decode bc pc = .ok (.getfield 15, 3)) (k : cp_G x E nL cells slots cnt sh I R (pc + 3) L (.int (I a 1) :: st)) : cp_G x E nL cells slots cnt sh I R pc L (.ref a :: st) := cp_get O cp_cX3 (j := 1) (by decide) fl_X3_15 hs hd k
theorem fp_X3_15 (O : cp_Ok x E RX3 bc nL d mc ms) {a : Nat} {v : Int32} (hs : sh a = (4, 0)) (hd : decode bc pc = .ok (.putfield 15, 3)) (k : cp_G x E nL cells slots cnt sh (cp_wi I a 1 v) R (pc + 3) L st) : cp_G x E nL cells slots cnt sh I R pc L (.int v :: .ref a :: st) := cp_put O cp_cX3 (j := 1) (by decide) fl_X3_15 rfl (ty := .int) (by decide +kernel) ⟨rfl, rfl⟩ rfl hs hd k
theorem fl_X2_26 : cp_lk RX2 26 TX3 1 := cp_TG_in (i := 221) (by decide +kernel) (by decide +kernel)
theorem fg_X2_26 (O : cp_Ok x E RX2 bc nL d mc ms) {a : Nat} (hs : sh a = (4, 0)) (hd : decode bc pc = .ok (.getfield 26, 3)) (k : cp_G x E nL cells slots cnt sh I R (pc + 3) L (.int (I a 1) :: st)) : cp_G x E nL cells slots cnt sh I R pc L (.ref a :: st) := cp_get O cp_cX3 (j := 1) (by decide) fl_X2_26 hs hd k
theorem fp_X2_26 (O : cp_Ok x E RX2 bc nL d mc ms) {a : Nat} {v : Int32} (hs : sh a = (4, 0)) (hd : decode bc pc = .ok (.putfield 26, 3)) (k : cp_G x E nL cells slots cnt sh (cp_wi I a 1 v) R (pc + 3) L st) : cp_G x E nL cells slots cnt sh I R pc L (.int v :: .ref a :: st) := cp_put O cp_cX3 (j := 1) (by decide) fl_X2_26 rfl (ty := .int) (by decide +kernel) ⟨rfl, rfl⟩ rfl hs hd k
theorem fl_X6_80 : cp_lk RX6 80 TX3 1 := cp_TG_in (i := 222) (by decide +kernel) (by decide +kernel)
theorem fg_X6_80 (O : cp_Ok x E RX6 bc nL d mc ms) {a : Nat} (hs : sh a = (4, 0)) (hd : decode bc pc = .ok (.getfield 80, 3)) (k : cp_G x E nL cells slots cnt sh I R (pc + 3) L (.int (I a 1) :: st)) : cp_G x E nL cells slots cnt sh I R pc L (.ref a :: st) := cp_get O cp_cX3 (j := 1) (by decide) fl_X6_80 hs hd k
theorem fp_X6_80 (O : cp_Ok x E RX6 bc nL d mc ms) {a : Nat} {v : Int32} (hs : sh a = (4, 0)) (hd : decode bc pc = .ok (.putfield 80, 3)) (k : cp_G x E nL cells slots cnt sh (cp_wi I a 1 v) R (pc + 3) L st) : cp_G x E nL cells slots cnt sh I R pc L (.int v :: .ref a :: st) := cp_put O cp_cX3 (j := 1) (by decide) fl_X6_80 rfl (ty := .int) (by decide +kernel) ⟨rfl, rfl⟩ rfl hs hd k
theorem fl_X2_9 : cp_lk RX2 9 TX2 0 := cp_TG_in (i := 235) (by decide +kernel) (by decide +kernel)
theorem fg_X2_9 (O : cp_Ok x E RX2 bc nL d mc ms) {a y : Nat} (hs : sh a = (3, 0)) (hr : R a 0 = some y) (hd : decode bc pc = .ok (.getfield 9, 3)) (k : cp_G x E nL cells slots cnt sh I R (pc + 3) L (.ref y :: st)) : cp_G x E nL cells slots cnt sh I R pc L (.ref a :: st) := cp_getr O cp_cX2 (j := 0) (by decide) fl_X2_9 rfl hs hr hd k
theorem fl_X2_15 : cp_lk RX2 15 TX2 1 := cp_TG_in (i := 236) (by decide +kernel) (by decide +kernel)
theorem fg_X2_15 (O : cp_Ok x E RX2 bc nL d mc ms) {a : Nat} (hs : sh a = (3, 0)) (hd : decode bc pc = .ok (.getfield 15, 3)) (k : cp_G x E nL cells slots cnt sh I R (pc + 3) L (.int (I a 1) :: st)) : cp_G x E nL cells slots cnt sh I R pc L (.ref a :: st) := cp_get O cp_cX2 (j := 1) (by decide) fl_X2_15 hs hd k
theorem fp_X2_15 (O : cp_Ok x E RX2 bc nL d mc ms) {a : Nat} {v : Int32} (hs : sh a = (3, 0)) (hd : decode bc pc = .ok (.putfield 15, 3)) (k : cp_G x E nL cells slots cnt sh (cp_wi I a 1 v) R (pc + 3) L st) : cp_G x E nL cells slots cnt sh I R pc L (.int v :: .ref a :: st) := cp_put O cp_cX2 (j := 1) (by decide) fl_X2_15 rfl (ty := .int) (by decide +kernel) ⟨rfl, rfl⟩ rfl hs hd k
theorem fl_X2_39 : cp_lk RX2 39 TX2 2 := cp_TG_in (i := 237) (by decide +kernel) (by decide +kernel)
theorem fg_X2_39 (O : cp_Ok x E RX2 bc nL d mc ms) {a : Nat} (hs : sh a = (3, 0)) (hd : decode bc pc = .ok (.getfield 39, 3)) (k : cp_G x E nL cells slots cnt sh I R (pc + 3) L (.int (I a 2) :: st)) : cp_G x E nL cells slots cnt sh I R pc L (.ref a :: st) := cp_get O cp_cX2 (j := 2) (by decide) fl_X2_39 hs hd k
theorem fp_X2_39 (O : cp_Ok x E RX2 bc nL d mc ms) {a : Nat} {v : Int32} (hs : sh a = (3, 0)) {q0 : Nat} (hv : v = nI q0) (hq0 : q0 < 65536) (hd : decode bc pc = .ok (.putfield 39, 3)) (k : cp_G x E nL cells slots cnt sh (cp_wi I a 2 v) R (pc + 3) L st) : cp_G x E nL cells slots cnt sh I R pc L (.int v :: .ref a :: st) := cp_put O cp_cX2 (j := 2) (by decide) fl_X2_39 rfl (ty := .char) (by decide +kernel) (by rw [hv]; exact pk_charN hq0) rfl hs hd k
theorem fl_X6_163 : cp_lk RX6 163 TX2 2 := cp_TG_in (i := 238) (by decide +kernel) (by decide +kernel)
theorem fg_X6_163 (O : cp_Ok x E RX6 bc nL d mc ms) {a : Nat} (hs : sh a = (3, 0)) (hd : decode bc pc = .ok (.getfield 163, 3)) (k : cp_G x E nL cells slots cnt sh I R (pc + 3) L (.int (I a 2) :: st)) : cp_G x E nL cells slots cnt sh I R pc L (.ref a :: st) := cp_get O cp_cX2 (j := 2) (by decide) fl_X6_163 hs hd k
theorem fp_X6_163 (O : cp_Ok x E RX6 bc nL d mc ms) {a : Nat} {v : Int32} (hs : sh a = (3, 0)) {q0 : Nat} (hv : v = nI q0) (hq0 : q0 < 65536) (hd : decode bc pc = .ok (.putfield 163, 3)) (k : cp_G x E nL cells slots cnt sh (cp_wi I a 2 v) R (pc + 3) L st) : cp_G x E nL cells slots cnt sh I R pc L (.int v :: .ref a :: st) := cp_put O cp_cX2 (j := 2) (by decide) fl_X6_163 rfl (ty := .char) (by decide +kernel) (by rw [hv]; exact pk_charN hq0) rfl hs hd k
theorem fl_X2_66 : cp_lk RX2 66 TX2 3 := cp_TG_in (i := 239) (by decide +kernel) (by decide +kernel)
theorem fg_X2_66 (O : cp_Ok x E RX2 bc nL d mc ms) {a : Nat} (hs : sh a = (3, 0)) (hd : decode bc pc = .ok (.getfield 66, 3)) (k : cp_G x E nL cells slots cnt sh I R (pc + 3) L (.int (I a 3) :: st)) : cp_G x E nL cells slots cnt sh I R pc L (.ref a :: st) := cp_get O cp_cX2 (j := 3) (by decide) fl_X2_66 hs hd k
theorem fp_X2_66 (O : cp_Ok x E RX2 bc nL d mc ms) {a : Nat} {v : Int32} (hs : sh a = (3, 0)) (hd : decode bc pc = .ok (.putfield 66, 3)) (k : cp_G x E nL cells slots cnt sh (cp_wi I a 3 v) R (pc + 3) L st) : cp_G x E nL cells slots cnt sh I R pc L (.int v :: .ref a :: st) := cp_put O cp_cX2 (j := 3) (by decide) fl_X2_66 rfl (ty := .int) (by decide +kernel) ⟨rfl, rfl⟩ rfl hs hd k
theorem fl_X6_170 : cp_lk RX6 170 TX2 3 := cp_TG_in (i := 240) (by decide +kernel) (by decide +kernel)
theorem fg_X6_170 (O : cp_Ok x E RX6 bc nL d mc ms) {a : Nat} (hs : sh a = (3, 0)) (hd : decode bc pc = .ok (.getfield 170, 3)) (k : cp_G x E nL cells slots cnt sh I R (pc + 3) L (.int (I a 3) :: st)) : cp_G x E nL cells slots cnt sh I R pc L (.ref a :: st) := cp_get O cp_cX2 (j := 3) (by decide) fl_X6_170 hs hd k
theorem fp_X6_170 (O : cp_Ok x E RX6 bc nL d mc ms) {a : Nat} {v : Int32} (hs : sh a = (3, 0)) (hd : decode bc pc = .ok (.putfield 170, 3)) (k : cp_G x E nL cells slots cnt sh (cp_wi I a 3 v) R (pc + 3) L st) : cp_G x E nL cells slots cnt sh I R pc L (.int v :: .ref a :: st) := cp_put O cp_cX2 (j := 3) (by decide) fl_X6_170 rfl (ty := .int) (by decide +kernel) ⟨rfl, rfl⟩ rfl hs hd k
theorem fl_X2_53 : cp_lk RX2 53 TX2 4 := cp_TG_in (i := 241) (by decide +kernel) (by decide +kernel)
theorem fg_X2_53 (O : cp_Ok x E RX2 bc nL d mc ms) {a : Nat} (hs : sh a = (3, 0)) (hd : decode bc pc = .ok (.getfield 53, 3)) (k : cp_G x E nL cells slots cnt sh I R (pc + 3) L (.int (I a 4) :: st)) : cp_G x E nL cells slots cnt sh I R pc L (.ref a :: st) := cp_get O cp_cX2 (j := 4) (by decide) fl_X2_53 hs hd k
theorem fp_X2_53 (O : cp_Ok x E RX2 bc nL d mc ms) {a : Nat} {v : Int32} (hs : sh a = (3, 0)) (hd : decode bc pc = .ok (.putfield 53, 3)) (k : cp_G x E nL cells slots cnt sh (cp_wi I a 4 v) R (pc + 3) L st) : cp_G x E nL cells slots cnt sh I R pc L (.int v :: .ref a :: st) := cp_put O cp_cX2 (j := 4) (by decide) fl_X2_53 rfl (ty := .int) (by decide +kernel) ⟨rfl, rfl⟩ rfl hs hd k
theorem fl_X6_167 : cp_lk RX6 167 TX2 4 := cp_TG_in (i := 242) (by decide +kernel) (by decide +kernel)
theorem fg_X6_167 (O : cp_Ok x E RX6 bc nL d mc ms) {a : Nat} (hs : sh a = (3, 0)) (hd : decode bc pc = .ok (.getfield 167, 3)) (k : cp_G x E nL cells slots cnt sh I R (pc + 3) L (.int (I a 4) :: st)) : cp_G x E nL cells slots cnt sh I R pc L (.ref a :: st) := cp_get O cp_cX2 (j := 4) (by decide) fl_X6_167 hs hd k
theorem fp_X6_167 (O : cp_Ok x E RX6 bc nL d mc ms) {a : Nat} {v : Int32} (hs : sh a = (3, 0)) (hd : decode bc pc = .ok (.putfield 167, 3)) (k : cp_G x E nL cells slots cnt sh (cp_wi I a 4 v) R (pc + 3) L st) : cp_G x E nL cells slots cnt sh I R pc L (.int v :: .ref a :: st) := cp_put O cp_cX2 (j := 4) (by decide) fl_X6_167 rfl (ty := .int) (by decide +kernel) ⟨rfl, rfl⟩ rfl hs hd k
theorem fl_X2_56 : cp_lk RX2 56 TX2 5 := cp_TG_in (i := 243) (by decide +kernel) (by decide +kernel)
theorem fg_X2_56 (O : cp_Ok x E RX2 bc nL d mc ms) {a : Nat} (hs : sh a = (3, 0)) (hd : decode bc pc = .ok (.getfield 56, 3)) (k : cp_G x E nL cells slots cnt sh I R (pc + 3) L (.int (I a 5) :: st)) : cp_G x E nL cells slots cnt sh I R pc L (.ref a :: st) := cp_get O cp_cX2 (j := 5) (by decide) fl_X2_56 hs hd k
theorem fp_X2_56 (O : cp_Ok x E RX2 bc nL d mc ms) {a : Nat} {v : Int32} (hs : sh a = (3, 0)) (hd : decode bc pc = .ok (.putfield 56, 3)) (k : cp_G x E nL cells slots cnt sh (cp_wi I a 5 v) R (pc + 3) L st) : cp_G x E nL cells slots cnt sh I R pc L (.int v :: .ref a :: st) := cp_put O cp_cX2 (j := 5) (by decide) fl_X2_56 rfl (ty := .int) (by decide +kernel) ⟨rfl, rfl⟩ rfl hs hd k
theorem fl_X6_173 : cp_lk RX6 173 TX2 5 := cp_TG_in (i := 244) (by decide +kernel) (by decide +kernel)
theorem fg_X6_173 (O : cp_Ok x E RX6 bc nL d mc ms) {a : Nat} (hs : sh a = (3, 0)) (hd : decode bc pc = .ok (.getfield 173, 3)) (k : cp_G x E nL cells slots cnt sh I R (pc + 3) L (.int (I a 5) :: st)) : cp_G x E nL cells slots cnt sh I R pc L (.ref a :: st) := cp_get O cp_cX2 (j := 5) (by decide) fl_X6_173 hs hd k
theorem fp_X6_173 (O : cp_Ok x E RX6 bc nL d mc ms) {a : Nat} {v : Int32} (hs : sh a = (3, 0)) (hd : decode bc pc = .ok (.putfield 173, 3)) (k : cp_G x E nL cells slots cnt sh (cp_wi I a 5 v) R (pc + 3) L st) : cp_G x E nL cells slots cnt sh I R pc L (.int v :: .ref a :: st) := cp_put O cp_cX2 (j := 5) (by decide) fl_X6_173 rfl (ty := .int) (by decide +kernel) ⟨rfl, rfl⟩ rfl hs hd k
theorem fl_X2_63 : cp_lk RX2 63 TX2 6 := cp_TG_in (i := 245) (by decide +kernel) (by decide +kernel)
theorem fg_X2_63 (O : cp_Ok x E RX2 bc nL d mc ms) {a : Nat} (hs : sh a = (3, 0)) (hd : decode bc pc = .ok (.getfield 63, 3)) (k : cp_G x E nL cells slots cnt sh I R (pc + 3) L (.int (I a 6) :: st)) : cp_G x E nL cells slots cnt sh I R pc L (.ref a :: st) := cp_get O cp_cX2 (j := 6) (by decide) fl_X2_63 hs hd k
theorem fp_X2_63 (O : cp_Ok x E RX2 bc nL d mc ms) {a : Nat} {v : Int32} (hs : sh a = (3, 0)) (hd : decode bc pc = .ok (.putfield 63, 3)) (k : cp_G x E nL cells slots cnt sh (cp_wi I a 6 v) R (pc + 3) L st) : cp_G x E nL cells slots cnt sh I R pc L (.int v :: .ref a :: st) := cp_put O cp_cX2 (j := 6) (by decide) fl_X2_63 rfl (ty := .int) (by decide +kernel) ⟨rfl, rfl⟩ rfl hs hd k
theorem fl_X6_176 : cp_lk RX6 176 TX2 6 := cp_TG_in (i := 246) (by decide +kernel) (by decide +kernel)
theorem fg_X6_176 (O : cp_Ok x E RX6 bc nL d mc ms) {a : Nat} (hs : sh a = (3, 0)) (hd : decode bc pc = .ok (.getfield 176, 3)) (k : cp_G x E nL cells slots cnt sh I R (pc + 3) L (.int (I a 6) :: st)) : cp_G x E nL cells slots cnt sh I R pc L (.ref a :: st) := cp_get O cp_cX2 (j := 6) (by decide) fl_X6_176 hs hd k
theorem fp_X6_176 (O : cp_Ok x E RX6 bc nL d mc ms) {a : Nat} {v : Int32} (hs : sh a = (3, 0)) (hd : decode bc pc = .ok (.putfield 176, 3)) (k : cp_G x E nL cells slots cnt sh (cp_wi I a 6 v) R (pc + 3) L st) : cp_G x E nL cells slots cnt sh I R pc L (.int v :: .ref a :: st) := cp_put O cp_cX2 (j := 6) (by decide) fl_X6_176 rfl (ty := .int) (by decide +kernel) ⟨rfl, rfl⟩ rfl hs hd k
theorem fl_X6_10 : cp_lk RX6 10 TX6 0 := cp_TG_in (i := 262) (by decide +kernel) (by decide +kernel)
theorem fg_X6_10 (O : cp_Ok x E RX6 bc nL d mc ms) {a y : Nat} (hs : sh a = (7, 0)) (hr : R a 0 = some y) (hd : decode bc pc = .ok (.getfield 10, 3)) (k : cp_G x E nL cells slots cnt sh I R (pc + 3) L (.ref y :: st)) : cp_G x E nL cells slots cnt sh I R pc L (.ref a :: st) := cp_getr O cp_cX6 (j := 0) (by decide) fl_X6_10 rfl hs hr hd k
theorem fl_X6_16 : cp_lk RX6 16 TX6 1 := cp_TG_in (i := 263) (by decide +kernel) (by decide +kernel)
theorem fg_X6_16 (O : cp_Ok x E RX6 bc nL d mc ms) {a y : Nat} (hs : sh a = (7, 0)) (hr : R a 1 = some y) (hd : decode bc pc = .ok (.getfield 16, 3)) (k : cp_G x E nL cells slots cnt sh I R (pc + 3) L (.ref y :: st)) : cp_G x E nL cells slots cnt sh I R pc L (.ref a :: st) := cp_getr O cp_cX6 (j := 1) (by decide) fl_X6_16 rfl hs hr hd k
theorem fl_X6_22 : cp_lk RX6 22 TX6 2 := cp_TG_in (i := 264) (by decide +kernel) (by decide +kernel)
theorem fg_X6_22 (O : cp_Ok x E RX6 bc nL d mc ms) {a y : Nat} (hs : sh a = (7, 0)) (hr : R a 2 = some y) (hd : decode bc pc = .ok (.getfield 22, 3)) (k : cp_G x E nL cells slots cnt sh I R (pc + 3) L (.ref y :: st)) : cp_G x E nL cells slots cnt sh I R pc L (.ref a :: st) := cp_getr O cp_cX6 (j := 2) (by decide) fl_X6_22 rfl hs hr hd k
theorem fl_X6_26 : cp_lk RX6 26 TX6 3 := cp_TG_in (i := 265) (by decide +kernel) (by decide +kernel)
theorem fg_X6_26 (O : cp_Ok x E RX6 bc nL d mc ms) {a y : Nat} (hs : sh a = (7, 0)) (hr : R a 3 = some y) (hd : decode bc pc = .ok (.getfield 26, 3)) (k : cp_G x E nL cells slots cnt sh I R (pc + 3) L (.ref y :: st)) : cp_G x E nL cells slots cnt sh I R pc L (.ref a :: st) := cp_getr O cp_cX6 (j := 3) (by decide) fl_X6_26 rfl hs hr hd k
theorem fl_X6_33 : cp_lk RX6 33 TX6 4 := cp_TG_in (i := 266) (by decide +kernel) (by decide +kernel)
theorem fg_X6_33 (O : cp_Ok x E RX6 bc nL d mc ms) {a y : Nat} (hs : sh a = (7, 0)) (hr : R a 4 = some y) (hd : decode bc pc = .ok (.getfield 33, 3)) (k : cp_G x E nL cells slots cnt sh I R (pc + 3) L (.ref y :: st)) : cp_G x E nL cells slots cnt sh I R pc L (.ref a :: st) := cp_getr O cp_cX6 (j := 4) (by decide) fl_X6_33 rfl hs hr hd k
theorem fl_X6_42 : cp_lk RX6 42 TX6 5 := cp_TG_in (i := 267) (by decide +kernel) (by decide +kernel)
theorem fg_X6_42 (O : cp_Ok x E RX6 bc nL d mc ms) {a y : Nat} (hs : sh a = (7, 0)) (hr : R a 5 = some y) (hd : decode bc pc = .ok (.getfield 42, 3)) (k : cp_G x E nL cells slots cnt sh I R (pc + 3) L (.ref y :: st)) : cp_G x E nL cells slots cnt sh I R pc L (.ref a :: st) := cp_getr O cp_cX6 (j := 5) (by decide) fl_X6_42 rfl hs hr hd k
theorem fs_X1_67 (O : cp_Ok x E RX1 bc nL d mc ms) (hd : decode bc pc = .ok (.getstatic 67, 3)) (k : cp_G x E nL cells slots cnt sh I R (pc + 3) L (.ref (cp_ts E 1) :: st)) : cp_G x E nL cells slots cnt sh I R pc L st := cp_getsN O (by decide) (by decide +kernel) hd k
theorem fs_X1_70 (O : cp_Ok x E RX1 bc nL d mc ms) (hd : decode bc pc = .ok (.getstatic 70, 3)) (k : cp_G x E nL cells slots cnt sh I R (pc + 3) L (.ref (cp_ts E 2) :: st)) : cp_G x E nL cells slots cnt sh I R pc L st := cp_getsN O (by decide) (by decide +kernel) hd k
theorem fs_X6_125 (O : cp_Ok x E RX6 bc nL d mc ms) (hd : decode bc pc = .ok (.getstatic 125, 3)) (k : cp_G x E nL cells slots cnt sh I R (pc + 3) L (.ref (cp_ts E 2) :: st)) : cp_G x E nL cells slots cnt sh I R pc L st := cp_gets (q := 2) O (by decide) (cp_TG_in (i := 565) (by decide +kernel) (by decide +kernel)) hd k
theorem fs_X6_129 (O : cp_Ok x E RX6 bc nL d mc ms) (hd : decode bc pc = .ok (.getstatic 129, 3)) (k : cp_G x E nL cells slots cnt sh I R (pc + 3) L (.ref (cp_ts E 1) :: st)) : cp_G x E nL cells slots cnt sh I R pc L st := cp_gets (q := 1) O (by decide) (cp_TG_in (i := 566) (by decide +kernel) (by decide +kernel)) hd k
theorem fl_X7_7 : cp_lk RX7 7 TX7 0 := cp_TG_in (i := 666) (by decide +kernel) (by decide +kernel)
theorem fg_X7_7 (O : cp_Ok x E RX7 bc nL d mc ms) {a y : Nat} (hs : sh a = (8, 0)) (hr : R a 0 = some y) (hd : decode bc pc = .ok (.getfield 7, 3)) (k : cp_G x E nL cells slots cnt sh I R (pc + 3) L (.ref y :: st)) : cp_G x E nL cells slots cnt sh I R pc L (.ref a :: st) := cp_getr O cp_cX7 (j := 0) (by decide) fl_X7_7 rfl hs hr hd k
theorem fl_X7_13 : cp_lk RX7 13 TX7 1 := cp_TG_in (i := 667) (by decide +kernel) (by decide +kernel)
theorem fg_X7_13 (O : cp_Ok x E RX7 bc nL d mc ms) {a y : Nat} (hs : sh a = (8, 0)) (hr : R a 1 = some y) (hd : decode bc pc = .ok (.getfield 13, 3)) (k : cp_G x E nL cells slots cnt sh I R (pc + 3) L (.ref y :: st)) : cp_G x E nL cells slots cnt sh I R pc L (.ref a :: st) := cp_getr O cp_cX7 (j := 1) (by decide) fl_X7_13 rfl hs hr hd k
theorem fl_X7_16 : cp_lk RX7 16 TX7 2 := cp_TG_in (i := 668) (by decide +kernel) (by decide +kernel)
theorem fg_X7_16 (O : cp_Ok x E RX7 bc nL d mc ms) {a y : Nat} (hs : sh a = (8, 0)) (hr : R a 2 = some y) (hd : decode bc pc = .ok (.getfield 16, 3)) (k : cp_G x E nL cells slots cnt sh I R (pc + 3) L (.ref y :: st)) : cp_G x E nL cells slots cnt sh I R pc L (.ref a :: st) := cp_getr O cp_cX7 (j := 2) (by decide) fl_X7_16 rfl hs hr hd k
theorem fl_X7_19 : cp_lk RX7 19 TX7 3 := cp_TG_in (i := 669) (by decide +kernel) (by decide +kernel)
theorem fg_X7_19 (O : cp_Ok x E RX7 bc nL d mc ms) {a y : Nat} (hs : sh a = (8, 0)) (hr : R a 3 = some y) (hd : decode bc pc = .ok (.getfield 19, 3)) (k : cp_G x E nL cells slots cnt sh I R (pc + 3) L (.ref y :: st)) : cp_G x E nL cells slots cnt sh I R pc L (.ref a :: st) := cp_getr O cp_cX7 (j := 3) (by decide) fl_X7_19 rfl hs hr hd k
theorem fl_X7_31 : cp_lk RX7 31 TX7 4 := cp_TG_in (i := 670) (by decide +kernel) (by decide +kernel)
theorem fg_X7_31 (O : cp_Ok x E RX7 bc nL d mc ms) {a : Nat} (hs : sh a = (8, 0)) (hd : decode bc pc = .ok (.getfield 31, 3)) (k : cp_G x E nL cells slots cnt sh I R (pc + 3) L (.int (I a 4) :: st)) : cp_G x E nL cells slots cnt sh I R pc L (.ref a :: st) := cp_get O cp_cX7 (j := 4) (by decide) fl_X7_31 hs hd k
theorem fp_X7_31 (O : cp_Ok x E RX7 bc nL d mc ms) {a : Nat} {v : Int32} (hs : sh a = (8, 0)) (hd : decode bc pc = .ok (.putfield 31, 3)) (k : cp_G x E nL cells slots cnt sh (cp_wi I a 4 v) R (pc + 3) L st) : cp_G x E nL cells slots cnt sh I R pc L (.int v :: .ref a :: st) := cp_put O cp_cX7 (j := 4) (by decide) fl_X7_31 rfl (ty := .int) (by decide +kernel) ⟨rfl, rfl⟩ rfl hs hd k
theorem fl_X7_22 : cp_lk RX7 22 TX7 5 := cp_TG_in (i := 671) (by decide +kernel) (by decide +kernel)
theorem fg_X7_22 (O : cp_Ok x E RX7 bc nL d mc ms) {a y : Nat} (hs : sh a = (8, 0)) (hr : R a 5 = some y) (hd : decode bc pc = .ok (.getfield 22, 3)) (k : cp_G x E nL cells slots cnt sh I R (pc + 3) L (.ref y :: st)) : cp_G x E nL cells slots cnt sh I R pc L (.ref a :: st) := cp_getr O cp_cX7 (j := 5) (by decide) fl_X7_22 rfl hs hr hd k
theorem fl_X7_25 : cp_lk RX7 25 TX7 6 := cp_TG_in (i := 672) (by decide +kernel) (by decide +kernel)
theorem fg_X7_25 (O : cp_Ok x E RX7 bc nL d mc ms) {a y : Nat} (hs : sh a = (8, 0)) (hr : R a 6 = some y) (hd : decode bc pc = .ok (.getfield 25, 3)) (k : cp_G x E nL cells slots cnt sh I R (pc + 3) L (.ref y :: st)) : cp_G x E nL cells slots cnt sh I R pc L (.ref a :: st) := cp_getr O cp_cX7 (j := 6) (by decide) fl_X7_25 rfl hs hr hd k
theorem fl_X7_76 : cp_lk RX7 76 TX7 7 := cp_TG_in (i := 673) (by decide +kernel) (by decide +kernel)
theorem fg_X7_76 (O : cp_Ok x E RX7 bc nL d mc ms) {a : Nat} (hs : sh a = (8, 0)) (hd : decode bc pc = .ok (.getfield 76, 3)) (k : cp_G x E nL cells slots cnt sh I R (pc + 3) L (.int (I a 7) :: st)) : cp_G x E nL cells slots cnt sh I R pc L (.ref a :: st) := cp_get O cp_cX7 (j := 7) (by decide) fl_X7_76 hs hd k
theorem fp_X7_76 (O : cp_Ok x E RX7 bc nL d mc ms) {a : Nat} {v : Int32} (hs : sh a = (8, 0)) (hd : decode bc pc = .ok (.putfield 76, 3)) (k : cp_G x E nL cells slots cnt sh (cp_wi I a 7 v) R (pc + 3) L st) : cp_G x E nL cells slots cnt sh I R pc L (.int v :: .ref a :: st) := cp_put O cp_cX7 (j := 7) (by decide) fl_X7_76 rfl (ty := .int) (by decide +kernel) ⟨rfl, rfl⟩ rfl hs hd k
theorem fl_X7_79 : cp_lk RX7 79 TX7 8 := cp_TG_in (i := 674) (by decide +kernel) (by decide +kernel)
theorem fg_X7_79 (O : cp_Ok x E RX7 bc nL d mc ms) {a : Nat} (hs : sh a = (8, 0)) (hd : decode bc pc = .ok (.getfield 79, 3)) (k : cp_G x E nL cells slots cnt sh I R (pc + 3) L (.int (I a 8) :: st)) : cp_G x E nL cells slots cnt sh I R pc L (.ref a :: st) := cp_get O cp_cX7 (j := 8) (by decide) fl_X7_79 hs hd k
theorem fp_X7_79 (O : cp_Ok x E RX7 bc nL d mc ms) {a : Nat} {v : Int32} (hs : sh a = (8, 0)) (hd : decode bc pc = .ok (.putfield 79, 3)) (k : cp_G x E nL cells slots cnt sh (cp_wi I a 8 v) R (pc + 3) L st) : cp_G x E nL cells slots cnt sh I R pc L (.int v :: .ref a :: st) := cp_put O cp_cX7 (j := 8) (by decide) fl_X7_79 rfl (ty := .int) (by decide +kernel) ⟨rfl, rfl⟩ rfl hs hd k
theorem fl_X7_28 : cp_lk RX7 28 TX7 9 := cp_TG_in (i := 675) (by decide +kernel) (by decide +kernel)
theorem fg_X7_28 (O : cp_Ok x E RX7 bc nL d mc ms) {a y : Nat} (hs : sh a = (8, 0)) (hr : R a 9 = some y) (hd : decode bc pc = .ok (.getfield 28, 3)) (k : cp_G x E nL cells slots cnt sh I R (pc + 3) L (.ref y :: st)) : cp_G x E nL cells slots cnt sh I R pc L (.ref a :: st) := cp_getr O cp_cX7 (j := 9) (by decide) fl_X7_28 rfl hs hr hd k
theorem fl_X7_183 : cp_lk RX7 183 TX7 10 := cp_TG_in (i := 676) (by decide +kernel) (by decide +kernel)
theorem fg_X7_183 (O : cp_Ok x E RX7 bc nL d mc ms) {a : Nat} (hs : sh a = (8, 0)) (hd : decode bc pc = .ok (.getfield 183, 3)) (k : cp_G x E nL cells slots cnt sh I R (pc + 3) L (.int (I a 10) :: st)) : cp_G x E nL cells slots cnt sh I R pc L (.ref a :: st) := cp_get O cp_cX7 (j := 10) (by decide) fl_X7_183 hs hd k
theorem fp_X7_183 (O : cp_Ok x E RX7 bc nL d mc ms) {a : Nat} {v : Int32} (hs : sh a = (8, 0)) (hd : decode bc pc = .ok (.putfield 183, 3)) (k : cp_G x E nL cells slots cnt sh (cp_wi I a 10 v) R (pc + 3) L st) : cp_G x E nL cells slots cnt sh I R pc L (.int v :: .ref a :: st) := cp_put O cp_cX7 (j := 10) (by decide) fl_X7_183 rfl (ty := .int) (by decide +kernel) ⟨rfl, rfl⟩ rfl hs hd k
theorem fl_X7_201 : cp_lk RX7 201 TX7 11 := cp_TG_in (i := 677) (by decide +kernel) (by decide +kernel)
theorem fg_X7_201 (O : cp_Ok x E RX7 bc nL d mc ms) {a : Nat} (hs : sh a = (8, 0)) (hd : decode bc pc = .ok (.getfield 201, 3)) (k : cp_G x E nL cells slots cnt sh I R (pc + 3) L (.int (I a 11) :: st)) : cp_G x E nL cells slots cnt sh I R pc L (.ref a :: st) := cp_get O cp_cX7 (j := 11) (by decide) fl_X7_201 hs hd k
theorem fp_X7_201 (O : cp_Ok x E RX7 bc nL d mc ms) {a : Nat} {v : Int32} (hs : sh a = (8, 0)) (hd : decode bc pc = .ok (.putfield 201, 3)) (k : cp_G x E nL cells slots cnt sh (cp_wi I a 11 v) R (pc + 3) L st) : cp_G x E nL cells slots cnt sh I R pc L (.int v :: .ref a :: st) := cp_put O cp_cX7 (j := 11) (by decide) fl_X7_201 rfl (ty := .int) (by decide +kernel) ⟨rfl, rfl⟩ rfl hs hd k
theorem fl_X7_219 : cp_lk RX7 219 TX7 12 := cp_TG_in (i := 678) (by decide +kernel) (by decide +kernel)
theorem fg_X7_219 (O : cp_Ok x E RX7 bc nL d mc ms) {a : Nat} (hs : sh a = (8, 0)) (hd : decode bc pc = .ok (.getfield 219, 3)) (k : cp_G x E nL cells slots cnt sh I R (pc + 3) L (.int (I a 12) :: st)) : cp_G x E nL cells slots cnt sh I R pc L (.ref a :: st) := cp_get O cp_cX7 (j := 12) (by decide) fl_X7_219 hs hd k
theorem fp_X7_219 (O : cp_Ok x E RX7 bc nL d mc ms) {a : Nat} {v : Int32} (hs : sh a = (8, 0)) (hv : v = 0 ∨ v = 1) (hd : decode bc pc = .ok (.putfield 219, 3)) (k : cp_G x E nL cells slots cnt sh (cp_wi I a 12 v) R (pc + 3) L st) : cp_G x E nL cells slots cnt sh I R pc L (.int v :: .ref a :: st) := cp_put O cp_cX7 (j := 12) (by decide) fl_X7_219 rfl (ty := .boolean) (by decide +kernel) (cp_narb hv) rfl hs hd k
theorem fl_X7_223 : cp_lk RX7 223 TX7 13 := cp_TG_in (i := 679) (by decide +kernel) (by decide +kernel)
theorem fg_X7_223 (O : cp_Ok x E RX7 bc nL d mc ms) {a : Nat} (hs : sh a = (8, 0)) (hd : decode bc pc = .ok (.getfield 223, 3)) (k : cp_G x E nL cells slots cnt sh I R (pc + 3) L (.int (I a 13) :: st)) : cp_G x E nL cells slots cnt sh I R pc L (.ref a :: st) := cp_get O cp_cX7 (j := 13) (by decide) fl_X7_223 hs hd k
theorem fp_X7_223 (O : cp_Ok x E RX7 bc nL d mc ms) {a : Nat} {v : Int32} (hs : sh a = (8, 0)) (hd : decode bc pc = .ok (.putfield 223, 3)) (k : cp_G x E nL cells slots cnt sh (cp_wi I a 13 v) R (pc + 3) L st) : cp_G x E nL cells slots cnt sh I R pc L (.int v :: .ref a :: st) := cp_put O cp_cX7 (j := 13) (by decide) fl_X7_223 rfl (ty := .int) (by decide +kernel) ⟨rfl, rfl⟩ rfl hs hd k
theorem fl_X7_207 : cp_lk RX7 207 TX7 14 := cp_TG_in (i := 680) (by decide +kernel) (by decide +kernel)
theorem fg_X7_207 (O : cp_Ok x E RX7 bc nL d mc ms) {a : Nat} (hs : sh a = (8, 0)) (hd : decode bc pc = .ok (.getfield 207, 3)) (k : cp_G x E nL cells slots cnt sh I R (pc + 3) L (.int (I a 14) :: st)) : cp_G x E nL cells slots cnt sh I R pc L (.ref a :: st) := cp_get O cp_cX7 (j := 14) (by decide) fl_X7_207 hs hd k
theorem fp_X7_207 (O : cp_Ok x E RX7 bc nL d mc ms) {a : Nat} {v : Int32} (hs : sh a = (8, 0)) (hd : decode bc pc = .ok (.putfield 207, 3)) (k : cp_G x E nL cells slots cnt sh (cp_wi I a 14 v) R (pc + 3) L st) : cp_G x E nL cells slots cnt sh I R pc L (.int v :: .ref a :: st) := cp_put O cp_cX7 (j := 14) (by decide) fl_X7_207 rfl (ty := .int) (by decide +kernel) ⟨rfl, rfl⟩ rfl hs hd k
end CPF
end
section
theorem dX0_init_0 : decode cX0_init 0 = .ok (.aload_n 0, 1) := by decide +kernel
theorem dX0_init_1 : decode cX0_init 1 = .ok (.invokespecial 3, 3) := by decide +kernel
theorem dX0_init_4 : decode cX0_init 4 = .ok (.aload_n 0, 1) := by decide +kernel
theorem dX0_init_5 : decode cX0_init 5 = .ok (.bipush 7, 2) := by decide +kernel
theorem dX0_init_7 : decode cX0_init 7 = .ok (.anewarray 9, 3) := by decide +kernel
theorem dX0_init_10 : decode cX0_init 10 = .ok (.putfield 11, 3) := by decide +kernel
theorem dX0_init_13 : decode cX0_init 13 = .ok (.iconst 0, 1) := by decide +kernel
theorem dX0_init_14 : decode cX0_init 14 = .ok (.istore_n 1, 1) := by decide +kernel
theorem dX0_init_15 : decode cX0_init 15 = .ok (.iload_n 1, 1) := by decide +kernel
theorem dX0_init_16 : decode cX0_init 16 = .ok (.bipush 6, 2) := by decide +kernel
theorem dX0_init_18 : decode cX0_init 18 = .ok (.if_icmp .gt 22, 3) := by decide +kernel
theorem dX0_init_21 : decode cX0_init 21 = .ok (.aload_n 0, 1) := by decide +kernel
theorem dX0_init_22 : decode cX0_init 22 = .ok (.getfield 11, 3) := by decide +kernel
theorem dX0_init_25 : decode cX0_init 25 = .ok (.iload_n 1, 1) := by decide +kernel
theorem dX0_init_26 : decode cX0_init 26 = .ok (.new 9, 3) := by decide +kernel
theorem dX0_init_29 : decode cX0_init 29 = .ok (.dup, 1) := by decide +kernel
theorem dX0_init_30 : decode cX0_init 30 = .ok (.invokespecial 17, 3) := by decide +kernel
theorem dX0_init_33 : decode cX0_init 33 = .ok (.aastore, 1) := by decide +kernel
theorem dX0_init_34 : decode cX0_init 34 = .ok (.iinc 1 1, 3) := by decide +kernel
theorem dX0_init_37 : decode cX0_init 37 = .ok (.goto (-22), 3) := by decide +kernel
theorem dX0_init_40 : decode cX0_init 40 = .ok (.aload_n 0, 1) := by decide +kernel
theorem dX0_init_41 : decode cX0_init 41 = .ok (.iconst 0, 1) := by decide +kernel
theorem dX0_init_42 : decode cX0_init 42 = .ok (.putfield 18, 3) := by decide +kernel
theorem dX0_init_45 : decode cX0_init 45 = .ok (.aload_n 0, 1) := by decide +kernel
theorem dX0_init_46 : decode cX0_init 46 = .ok (.iconst 0, 1) := by decide +kernel
theorem dX0_init_47 : decode cX0_init 47 = .ok (.putfield 22, 3) := by decide +kernel
theorem dX0_init_50 : decode cX0_init 50 = .ok (.return_, 1) := by decide +kernel
theorem dX0_prepare_0 : decode cX0_prepare 0 = .ok (.aload_n 0, 1) := by decide +kernel
theorem dX0_prepare_1 : decode cX0_prepare 1 = .ok (.getfield 11, 3) := by decide +kernel
theorem dX0_prepare_4 : decode cX0_prepare 4 = .ok (.aload_n 0, 1) := by decide +kernel
theorem dX0_prepare_5 : decode cX0_prepare 5 = .ok (.getfield 18, 3) := by decide +kernel
theorem dX0_prepare_8 : decode cX0_prepare 8 = .ok (.aaload, 1) := by decide +kernel
theorem dX0_prepare_9 : decode cX0_prepare 9 = .ok (.aload_n 1, 1) := by decide +kernel
theorem dX0_prepare_10 : decode cX0_prepare 10 = .ok (.invokevirtual 25, 3) := by decide +kernel
theorem dX0_prepare_13 : decode cX0_prepare 13 = .ok (.return_, 1) := by decide +kernel
theorem dX0_recordUnlessError_0 : decode cX0_recordUnlessError 0 = .ok (.iload_n 1, 1) := by decide +kernel
theorem dX0_recordUnlessError_1 : decode cX0_recordUnlessError 1 = .ok (.ifCond .lt 41, 3) := by decide +kernel
theorem dX0_recordUnlessError_4 : decode cX0_recordUnlessError 4 = .ok (.aload_n 0, 1) := by decide +kernel
theorem dX0_recordUnlessError_5 : decode cX0_recordUnlessError 5 = .ok (.aload_n 0, 1) := by decide +kernel
theorem dX0_recordUnlessError_6 : decode cX0_recordUnlessError 6 = .ok (.getfield 18, 3) := by decide +kernel
theorem dX0_recordUnlessError_9 : decode cX0_recordUnlessError 9 = .ok (.bipush 6, 2) := by decide +kernel
theorem dX0_recordUnlessError_11 : decode cX0_recordUnlessError 11 = .ok (.if_icmp .ne 7, 3) := by decide +kernel
theorem dX0_recordUnlessError_14 : decode cX0_recordUnlessError 14 = .ok (.iconst 0, 1) := by decide +kernel
theorem dX0_recordUnlessError_15 : decode cX0_recordUnlessError 15 = .ok (.goto 9, 3) := by decide +kernel
theorem dX0_recordUnlessError_18 : decode cX0_recordUnlessError 18 = .ok (.aload_n 0, 1) := by decide +kernel
theorem dX0_recordUnlessError_19 : decode cX0_recordUnlessError 19 = .ok (.getfield 18, 3) := by decide +kernel
theorem dX0_recordUnlessError_22 : decode cX0_recordUnlessError 22 = .ok (.iconst 1, 1) := by decide +kernel
theorem dX0_recordUnlessError_23 : decode cX0_recordUnlessError 23 = .ok (.iadd, 1) := by decide +kernel
theorem dX0_recordUnlessError_24 : decode cX0_recordUnlessError 24 = .ok (.putfield 18, 3) := by decide +kernel
theorem dX0_recordUnlessError_27 : decode cX0_recordUnlessError 27 = .ok (.aload_n 0, 1) := by decide +kernel
theorem dX0_recordUnlessError_28 : decode cX0_recordUnlessError 28 = .ok (.aload_n 0, 1) := by decide +kernel
theorem dX0_recordUnlessError_29 : decode cX0_recordUnlessError 29 = .ok (.getfield 22, 3) := by decide +kernel
theorem dX0_recordUnlessError_32 : decode cX0_recordUnlessError 32 = .ok (.iconst 1, 1) := by decide +kernel
theorem dX0_recordUnlessError_33 : decode cX0_recordUnlessError 33 = .ok (.iadd, 1) := by decide +kernel
theorem dX0_recordUnlessError_34 : decode cX0_recordUnlessError 34 = .ok (.bipush 6, 2) := by decide +kernel
theorem dX0_recordUnlessError_36 : decode cX0_recordUnlessError 36 = .ok (.invokestatic 29, 3) := by decide +kernel
theorem dX0_recordUnlessError_39 : decode cX0_recordUnlessError 39 = .ok (.putfield 22, 3) := by decide +kernel
theorem dX0_recordUnlessError_42 : decode cX0_recordUnlessError 42 = .ok (.iload_n 1, 1) := by decide +kernel
theorem dX0_recordUnlessError_43 : decode cX0_recordUnlessError 43 = .ok (.ireturn, 1) := by decide +kernel
theorem dX0_takeBack_0 : decode cX0_takeBack 0 = .ok (.aload_n 0, 1) := by decide +kernel
theorem dX0_takeBack_1 : decode cX0_takeBack 1 = .ok (.getfield 22, 3) := by decide +kernel
theorem dX0_takeBack_4 : decode cX0_takeBack 4 = .ok (.ifCond .ne 4, 3) := by decide +kernel
theorem dX0_takeBack_7 : decode cX0_takeBack 7 = .ok (.return_, 1) := by decide +kernel
theorem dX0_takeBack_8 : decode cX0_takeBack 8 = .ok (.aload_n 0, 1) := by decide +kernel
theorem dX0_takeBack_9 : decode cX0_takeBack 9 = .ok (.aload_n 0, 1) := by decide +kernel
theorem dX0_takeBack_10 : decode cX0_takeBack 10 = .ok (.getfield 18, 3) := by decide +kernel
theorem dX0_takeBack_13 : decode cX0_takeBack 13 = .ok (.ifCond .ne 8, 3) := by decide +kernel
theorem dX0_takeBack_16 : decode cX0_takeBack 16 = .ok (.bipush 6, 2) := by decide +kernel
theorem dX0_takeBack_18 : decode cX0_takeBack 18 = .ok (.goto 9, 3) := by decide +kernel
theorem dX0_takeBack_21 : decode cX0_takeBack 21 = .ok (.aload_n 0, 1) := by decide +kernel
theorem dX0_takeBack_22 : decode cX0_takeBack 22 = .ok (.getfield 18, 3) := by decide +kernel
theorem dX0_takeBack_25 : decode cX0_takeBack 25 = .ok (.iconst 1, 1) := by decide +kernel
theorem dX0_takeBack_26 : decode cX0_takeBack 26 = .ok (.isub, 1) := by decide +kernel
theorem dX0_takeBack_27 : decode cX0_takeBack 27 = .ok (.putfield 18, 3) := by decide +kernel
theorem dX0_takeBack_30 : decode cX0_takeBack 30 = .ok (.aload_n 0, 1) := by decide +kernel
theorem dX0_takeBack_31 : decode cX0_takeBack 31 = .ok (.dup, 1) := by decide +kernel
theorem dX0_takeBack_32 : decode cX0_takeBack 32 = .ok (.getfield 22, 3) := by decide +kernel
theorem dX0_takeBack_35 : decode cX0_takeBack 35 = .ok (.iconst 1, 1) := by decide +kernel
theorem dX0_takeBack_36 : decode cX0_takeBack 36 = .ok (.isub, 1) := by decide +kernel
theorem dX0_takeBack_37 : decode cX0_takeBack 37 = .ok (.putfield 22, 3) := by decide +kernel
theorem dX0_takeBack_40 : decode cX0_takeBack 40 = .ok (.aload_n 1, 1) := by decide +kernel
theorem dX0_takeBack_41 : decode cX0_takeBack 41 = .ok (.aload_n 0, 1) := by decide +kernel
theorem dX0_takeBack_42 : decode cX0_takeBack 42 = .ok (.getfield 11, 3) := by decide +kernel
theorem dX0_takeBack_45 : decode cX0_takeBack 45 = .ok (.aload_n 0, 1) := by decide +kernel
theorem dX0_takeBack_46 : decode cX0_takeBack 46 = .ok (.getfield 18, 3) := by decide +kernel
theorem dX0_takeBack_49 : decode cX0_takeBack 49 = .ok (.aaload, 1) := by decide +kernel
theorem dX0_takeBack_50 : decode cX0_takeBack 50 = .ok (.invokevirtual 25, 3) := by decide +kernel
theorem dX0_takeBack_53 : decode cX0_takeBack 53 = .ok (.return_, 1) := by decide +kernel
theorem dX2_init_0 : decode cX2_init 0 = .ok (.aload_n 0, 1) := by decide +kernel
theorem dX2_init_1 : decode cX2_init 1 = .ok (.invokespecial 3, 3) := by decide +kernel
theorem dX2_init_4 : decode cX2_init 4 = .ok (.aload_n 0, 1) := by decide +kernel
theorem dX2_init_5 : decode cX2_init 5 = .ok (.aload_n 1, 1) := by decide +kernel
theorem dX2_init_6 : decode cX2_init 6 = .ok (.putfield 9, 3) := by decide +kernel
theorem dX2_init_9 : decode cX2_init 9 = .ok (.return_, 1) := by decide +kernel
theorem dX2_goToStart_0 : decode cX2_goToStart 0 = .ok (.aload_n 0, 1) := by decide +kernel
theorem dX2_goToStart_1 : decode cX2_goToStart 1 = .ok (.iconst 0, 1) := by decide +kernel
theorem dX2_goToStart_2 : decode cX2_goToStart 2 = .ok (.putfield 15, 3) := by decide +kernel
theorem dX2_goToStart_5 : decode cX2_goToStart 5 = .ok (.return_, 1) := by decide +kernel
theorem dX2_findFault_0 : decode cX2_findFault 0 = .ok (.aload_n 0, 1) := by decide +kernel
theorem dX2_findFault_1 : decode cX2_findFault 1 = .ok (.invokevirtual 19, 3) := by decide +kernel
theorem dX2_findFault_4 : decode cX2_findFault 4 = .ok (.iconst 0, 1) := by decide +kernel
theorem dX2_findFault_5 : decode cX2_findFault 5 = .ok (.istore_n 1, 1) := by decide +kernel
theorem dX2_findFault_6 : decode cX2_findFault 6 = .ok (.iload_n 1, 1) := by decide +kernel
theorem dX2_findFault_7 : decode cX2_findFault 7 = .ok (.bipush 80, 2) := by decide +kernel
theorem dX2_findFault_9 : decode cX2_findFault 9 = .ok (.if_icmp .ge 52, 3) := by decide +kernel
theorem dX2_findFault_12 : decode cX2_findFault 12 = .ok (.aload_n 0, 1) := by decide +kernel
theorem dX2_findFault_13 : decode cX2_findFault 13 = .ok (.invokevirtual 22, 3) := by decide +kernel
theorem dX2_findFault_16 : decode cX2_findFault 16 = .ok (.ifCond .ne 8, 3) := by decide +kernel
theorem dX2_findFault_19 : decode cX2_findFault 19 = .ok (.aload_n 0, 1) := by decide +kernel
theorem dX2_findFault_20 : decode cX2_findFault 20 = .ok (.getfield 15, 3) := by decide +kernel
theorem dX2_findFault_23 : decode cX2_findFault 23 = .ok (.ireturn, 1) := by decide +kernel
theorem dX2_findFault_24 : decode cX2_findFault 24 = .ok (.aload_n 0, 1) := by decide +kernel
theorem dX2_findFault_25 : decode cX2_findFault 25 = .ok (.getfield 15, 3) := by decide +kernel
theorem dX2_findFault_28 : decode cX2_findFault 28 = .ok (.aload_n 0, 1) := by decide +kernel
theorem dX2_findFault_29 : decode cX2_findFault 29 = .ok (.getfield 9, 3) := by decide +kernel
theorem dX2_findFault_32 : decode cX2_findFault 32 = .ok (.getfield 26, 3) := by decide +kernel
theorem dX2_findFault_35 : decode cX2_findFault 35 = .ok (.if_icmp .lt 6, 3) := by decide +kernel
theorem dX2_findFault_38 : decode cX2_findFault 38 = .ok (.bipush (-6), 2) := by decide +kernel
theorem dX2_findFault_40 : decode cX2_findFault 40 = .ok (.ireturn, 1) := by decide +kernel
theorem dX2_findFault_41 : decode cX2_findFault 41 = .ok (.aload_n 0, 1) := by decide +kernel
theorem dX2_findFault_42 : decode cX2_findFault 42 = .ok (.bipush 59, 2) := by decide +kernel
theorem dX2_findFault_44 : decode cX2_findFault 44 = .ok (.invokevirtual 31, 3) := by decide +kernel
theorem dX2_findFault_47 : decode cX2_findFault 47 = .ok (.ifCond .ne 8, 3) := by decide +kernel
theorem dX2_findFault_50 : decode cX2_findFault 50 = .ok (.aload_n 0, 1) := by decide +kernel
theorem dX2_findFault_51 : decode cX2_findFault 51 = .ok (.getfield 15, 3) := by decide +kernel
theorem dX2_findFault_54 : decode cX2_findFault 54 = .ok (.ireturn, 1) := by decide +kernel
theorem dX2_findFault_55 : decode cX2_findFault 55 = .ok (.iinc 1 1, 3) := by decide +kernel
theorem dX2_findFault_58 : decode cX2_findFault 58 = .ok (.goto (-52), 3) := by decide +kernel
theorem dX2_findFault_61 : decode cX2_findFault 61 = .ok (.aload_n 0, 1) := by decide +kernel
theorem dX2_findFault_62 : decode cX2_findFault 62 = .ok (.getfield 15, 3) := by decide +kernel
theorem dX2_findFault_65 : decode cX2_findFault 65 = .ok (.ireturn, 1) := by decide +kernel
theorem dX2_readOrder_0 : decode cX2_readOrder 0 = .ok (.aload_n 0, 1) := by decide +kernel
theorem dX2_readOrder_1 : decode cX2_readOrder 1 = .ok (.aload_n 0, 1) := by decide +kernel
theorem dX2_readOrder_2 : decode cX2_readOrder 2 = .ok (.getfield 9, 3) := by decide +kernel
theorem dX2_readOrder_5 : decode cX2_readOrder 5 = .ok (.aload_n 0, 1) := by decide +kernel
theorem dX2_readOrder_6 : decode cX2_readOrder 6 = .ok (.getfield 15, 3) := by decide +kernel
theorem dX2_readOrder_9 : decode cX2_readOrder 9 = .ok (.invokevirtual 35, 3) := by decide +kernel
theorem dX2_readOrder_12 : decode cX2_readOrder 12 = .ok (.putfield 39, 3) := by decide +kernel
theorem dX2_readOrder_15 : decode cX2_readOrder 15 = .ok (.aload_n 0, 1) := by decide +kernel
theorem dX2_readOrder_16 : decode cX2_readOrder 16 = .ok (.getfield 39, 3) := by decide +kernel
theorem dX2_readOrder_19 : decode cX2_readOrder 19 = .ok (.bipush 43, 2) := by decide +kernel
theorem dX2_readOrder_21 : decode cX2_readOrder 21 = .ok (.if_icmp .ne 18, 3) := by decide +kernel
theorem dX2_readOrder_24 : decode cX2_readOrder 24 = .ok (.aload_n 0, 1) := by decide +kernel
theorem dX2_readOrder_25 : decode cX2_readOrder 25 = .ok (.dup, 1) := by decide +kernel
theorem dX2_readOrder_26 : decode cX2_readOrder 26 = .ok (.getfield 15, 3) := by decide +kernel
theorem dX2_readOrder_29 : decode cX2_readOrder 29 = .ok (.iconst 1, 1) := by decide +kernel
theorem dX2_readOrder_30 : decode cX2_readOrder 30 = .ok (.iadd, 1) := by decide +kernel
theorem dX2_readOrder_31 : decode cX2_readOrder 31 = .ok (.putfield 15, 3) := by decide +kernel
theorem dX2_readOrder_34 : decode cX2_readOrder 34 = .ok (.aload_n 0, 1) := by decide +kernel
theorem dX2_readOrder_35 : decode cX2_readOrder 35 = .ok (.invokevirtual 43, 3) := by decide +kernel
theorem dX2_readOrder_38 : decode cX2_readOrder 38 = .ok (.ireturn, 1) := by decide +kernel
theorem dX2_readOrder_39 : decode cX2_readOrder 39 = .ok (.aload_n 0, 1) := by decide +kernel
theorem dX2_readOrder_40 : decode cX2_readOrder 40 = .ok (.getfield 39, 3) := by decide +kernel
theorem dX2_readOrder_43 : decode cX2_readOrder 43 = .ok (.bipush 112, 2) := by decide +kernel
theorem dX2_readOrder_45 : decode cX2_readOrder 45 = .ok (.if_icmp .eq 30, 3) := by decide +kernel
theorem dX2_readOrder_48 : decode cX2_readOrder 48 = .ok (.aload_n 0, 1) := by decide +kernel
theorem dX2_readOrder_49 : decode cX2_readOrder 49 = .ok (.getfield 39, 3) := by decide +kernel
theorem dX2_readOrder_52 : decode cX2_readOrder 52 = .ok (.bipush 104, 2) := by decide +kernel
theorem dX2_readOrder_54 : decode cX2_readOrder 54 = .ok (.if_icmp .eq 21, 3) := by decide +kernel
theorem dX2_readOrder_57 : decode cX2_readOrder 57 = .ok (.aload_n 0, 1) := by decide +kernel
theorem dX2_readOrder_58 : decode cX2_readOrder 58 = .ok (.getfield 39, 3) := by decide +kernel
theorem dX2_readOrder_61 : decode cX2_readOrder 61 = .ok (.bipush 107, 2) := by decide +kernel
theorem dX2_readOrder_63 : decode cX2_readOrder 63 = .ok (.if_icmp .eq 12, 3) := by decide +kernel
theorem dX2_readOrder_66 : decode cX2_readOrder 66 = .ok (.aload_n 0, 1) := by decide +kernel
theorem dX2_readOrder_67 : decode cX2_readOrder 67 = .ok (.getfield 39, 3) := by decide +kernel
theorem dX2_readOrder_70 : decode cX2_readOrder 70 = .ok (.bipush 116, 2) := by decide +kernel
theorem dX2_readOrder_72 : decode cX2_readOrder 72 = .ok (.if_icmp .ne 18, 3) := by decide +kernel
theorem dX2_readOrder_75 : decode cX2_readOrder 75 = .ok (.aload_n 0, 1) := by decide +kernel
theorem dX2_readOrder_76 : decode cX2_readOrder 76 = .ok (.dup, 1) := by decide +kernel
theorem dX2_readOrder_77 : decode cX2_readOrder 77 = .ok (.getfield 15, 3) := by decide +kernel
theorem dX2_readOrder_80 : decode cX2_readOrder 80 = .ok (.iconst 1, 1) := by decide +kernel
theorem dX2_readOrder_81 : decode cX2_readOrder 81 = .ok (.iadd, 1) := by decide +kernel
theorem dX2_readOrder_82 : decode cX2_readOrder 82 = .ok (.putfield 15, 3) := by decide +kernel
theorem dX2_readOrder_85 : decode cX2_readOrder 85 = .ok (.aload_n 0, 1) := by decide +kernel
theorem dX2_readOrder_86 : decode cX2_readOrder 86 = .ok (.invokevirtual 46, 3) := by decide +kernel
theorem dX2_readOrder_89 : decode cX2_readOrder 89 = .ok (.ireturn, 1) := by decide +kernel
theorem dX2_readOrder_90 : decode cX2_readOrder 90 = .ok (.iconst 0, 1) := by decide +kernel
theorem dX2_readOrder_91 : decode cX2_readOrder 91 = .ok (.ireturn, 1) := by decide +kernel
theorem dX2_readPiece_0 : decode cX2_readPiece 0 = .ok (.aload_n 0, 1) := by decide +kernel
theorem dX2_readPiece_1 : decode cX2_readPiece 1 = .ok (.aload_n 0, 1) := by decide +kernel
theorem dX2_readPiece_2 : decode cX2_readPiece 2 = .ok (.invokevirtual 49, 3) := by decide +kernel
theorem dX2_readPiece_5 : decode cX2_readPiece 5 = .ok (.putfield 53, 3) := by decide +kernel
theorem dX2_readPiece_8 : decode cX2_readPiece 8 = .ok (.aload_n 0, 1) := by decide +kernel
theorem dX2_readPiece_9 : decode cX2_readPiece 9 = .ok (.getfield 53, 3) := by decide +kernel
theorem dX2_readPiece_12 : decode cX2_readPiece 12 = .ok (.ifCond .lt 11, 3) := by decide +kernel
theorem dX2_readPiece_15 : decode cX2_readPiece 15 = .ok (.aload_n 0, 1) := by decide +kernel
theorem dX2_readPiece_16 : decode cX2_readPiece 16 = .ok (.getfield 53, 3) := by decide +kernel
theorem dX2_readPiece_19 : decode cX2_readPiece 19 = .ok (.iconst 5, 1) := by decide +kernel
theorem dX2_readPiece_20 : decode cX2_readPiece 20 = .ok (.if_icmp .lt 5, 3) := by decide +kernel
theorem dX2_readPiece_23 : decode cX2_readPiece 23 = .ok (.iconst 0, 1) := by decide +kernel
theorem dX2_readPiece_24 : decode cX2_readPiece 24 = .ok (.ireturn, 1) := by decide +kernel
theorem dX2_readPiece_25 : decode cX2_readPiece 25 = .ok (.aload_n 0, 1) := by decide +kernel
theorem dX2_readPiece_26 : decode cX2_readPiece 26 = .ok (.dup, 1) := by decide +kernel
theorem dX2_readPiece_27 : decode cX2_readPiece 27 = .ok (.getfield 15, 3) := by decide +kernel
theorem dX2_readPiece_30 : decode cX2_readPiece 30 = .ok (.iconst 1, 1) := by decide +kernel
theorem dX2_readPiece_31 : decode cX2_readPiece 31 = .ok (.iadd, 1) := by decide +kernel
theorem dX2_readPiece_32 : decode cX2_readPiece 32 = .ok (.putfield 15, 3) := by decide +kernel
theorem dX2_readPiece_35 : decode cX2_readPiece 35 = .ok (.aload_n 0, 1) := by decide +kernel
theorem dX2_readPiece_36 : decode cX2_readPiece 36 = .ok (.bipush 58, 2) := by decide +kernel
theorem dX2_readPiece_38 : decode cX2_readPiece 38 = .ok (.invokevirtual 31, 3) := by decide +kernel
theorem dX2_readPiece_41 : decode cX2_readPiece 41 = .ok (.ifCond .eq 19, 3) := by decide +kernel
theorem dX2_readPiece_44 : decode cX2_readPiece 44 = .ok (.aload_n 0, 1) := by decide +kernel
theorem dX2_readPiece_45 : decode cX2_readPiece 45 = .ok (.invokevirtual 46, 3) := by decide +kernel
theorem dX2_readPiece_48 : decode cX2_readPiece 48 = .ok (.ifCond .eq 12, 3) := by decide +kernel
theorem dX2_readPiece_51 : decode cX2_readPiece 51 = .ok (.aload_n 0, 1) := by decide +kernel
theorem dX2_readPiece_52 : decode cX2_readPiece 52 = .ok (.bipush 33, 2) := by decide +kernel
theorem dX2_readPiece_54 : decode cX2_readPiece 54 = .ok (.invokevirtual 31, 3) := by decide +kernel
theorem dX2_readPiece_57 : decode cX2_readPiece 57 = .ok (.ifCond .ne 5, 3) := by decide +kernel
theorem dX2_readPiece_60 : decode cX2_readPiece 60 = .ok (.iconst 0, 1) := by decide +kernel
theorem dX2_readPiece_61 : decode cX2_readPiece 61 = .ok (.ireturn, 1) := by decide +kernel
theorem dX2_readPiece_62 : decode cX2_readPiece 62 = .ok (.aload_n 0, 1) := by decide +kernel
theorem dX2_readPiece_63 : decode cX2_readPiece 63 = .ok (.aload_n 0, 1) := by decide +kernel
theorem dX2_readPiece_64 : decode cX2_readPiece 64 = .ok (.invokevirtual 49, 3) := by decide +kernel
theorem dX2_readPiece_67 : decode cX2_readPiece 67 = .ok (.putfield 56, 3) := by decide +kernel
theorem dX2_readPiece_70 : decode cX2_readPiece 70 = .ok (.aload_n 0, 1) := by decide +kernel
theorem dX2_readPiece_71 : decode cX2_readPiece 71 = .ok (.getfield 56, 3) := by decide +kernel
theorem dX2_readPiece_74 : decode cX2_readPiece 74 = .ok (.ifCond .ge 5, 3) := by decide +kernel
theorem dX2_readPiece_77 : decode cX2_readPiece 77 = .ok (.iconst 0, 1) := by decide +kernel
theorem dX2_readPiece_78 : decode cX2_readPiece 78 = .ok (.ireturn, 1) := by decide +kernel
theorem dX2_readPiece_79 : decode cX2_readPiece 79 = .ok (.aload_n 0, 1) := by decide +kernel
theorem dX2_readPiece_80 : decode cX2_readPiece 80 = .ok (.dup, 1) := by decide +kernel
theorem dX2_readPiece_81 : decode cX2_readPiece 81 = .ok (.getfield 15, 3) := by decide +kernel
theorem dX2_readPiece_84 : decode cX2_readPiece 84 = .ok (.iconst 1, 1) := by decide +kernel
theorem dX2_readPiece_85 : decode cX2_readPiece 85 = .ok (.iadd, 1) := by decide +kernel
theorem dX2_readPiece_86 : decode cX2_readPiece 86 = .ok (.putfield 15, 3) := by decide +kernel
theorem dX2_readPiece_89 : decode cX2_readPiece 89 = .ok (.aload_n 0, 1) := by decide +kernel
theorem dX2_readPiece_90 : decode cX2_readPiece 90 = .ok (.aload_n 0, 1) := by decide +kernel
theorem dX2_readPiece_91 : decode cX2_readPiece 91 = .ok (.bipush 76, 2) := by decide +kernel
theorem dX2_readPiece_93 : decode cX2_readPiece 93 = .ok (.invokevirtual 31, 3) := by decide +kernel
theorem dX2_readPiece_96 : decode cX2_readPiece 96 = .ok (.invokestatic 59, 3) := by decide +kernel
theorem dX2_readPiece_99 : decode cX2_readPiece 99 = .ok (.putfield 63, 3) := by decide +kernel
theorem dX2_readPiece_102 : decode cX2_readPiece 102 = .ok (.iconst 1, 1) := by decide +kernel
theorem dX2_readPiece_103 : decode cX2_readPiece 103 = .ok (.ireturn, 1) := by decide +kernel
theorem dX2_readNumber_0 : decode cX2_readNumber 0 = .ok (.aload_n 0, 1) := by decide +kernel
theorem dX2_readNumber_1 : decode cX2_readNumber 1 = .ok (.aload_n 0, 1) := by decide +kernel
theorem dX2_readNumber_2 : decode cX2_readNumber 2 = .ok (.invokevirtual 49, 3) := by decide +kernel
theorem dX2_readNumber_5 : decode cX2_readNumber 5 = .ok (.putfield 66, 3) := by decide +kernel
theorem dX2_readNumber_8 : decode cX2_readNumber 8 = .ok (.aload_n 0, 1) := by decide +kernel
theorem dX2_readNumber_9 : decode cX2_readNumber 9 = .ok (.getfield 66, 3) := by decide +kernel
theorem dX2_readNumber_12 : decode cX2_readNumber 12 = .ok (.ifCond .ge 5, 3) := by decide +kernel
theorem dX2_readNumber_15 : decode cX2_readNumber 15 = .ok (.iconst 0, 1) := by decide +kernel
theorem dX2_readNumber_16 : decode cX2_readNumber 16 = .ok (.ireturn, 1) := by decide +kernel
theorem dX2_readNumber_17 : decode cX2_readNumber 17 = .ok (.aload_n 0, 1) := by decide +kernel
theorem dX2_readNumber_18 : decode cX2_readNumber 18 = .ok (.dup, 1) := by decide +kernel
theorem dX2_readNumber_19 : decode cX2_readNumber 19 = .ok (.getfield 15, 3) := by decide +kernel
theorem dX2_readNumber_22 : decode cX2_readNumber 22 = .ok (.iconst 1, 1) := by decide +kernel
theorem dX2_readNumber_23 : decode cX2_readNumber 23 = .ok (.iadd, 1) := by decide +kernel
theorem dX2_readNumber_24 : decode cX2_readNumber 24 = .ok (.putfield 15, 3) := by decide +kernel
theorem dX2_readNumber_27 : decode cX2_readNumber 27 = .ok (.iconst 1, 1) := by decide +kernel
theorem dX2_readNumber_28 : decode cX2_readNumber 28 = .ok (.istore_n 1, 1) := by decide +kernel
theorem dX2_readNumber_29 : decode cX2_readNumber 29 = .ok (.iload_n 1, 1) := by decide +kernel
theorem dX2_readNumber_30 : decode cX2_readNumber 30 = .ok (.iconst 3, 1) := by decide +kernel
theorem dX2_readNumber_31 : decode cX2_readNumber 31 = .ok (.if_icmp .ge 50, 3) := by decide +kernel
theorem dX2_readNumber_34 : decode cX2_readNumber 34 = .ok (.aload_n 0, 1) := by decide +kernel
theorem dX2_readNumber_35 : decode cX2_readNumber 35 = .ok (.getfield 66, 3) := by decide +kernel
theorem dX2_readNumber_38 : decode cX2_readNumber 38 = .ok (.ifCond .le 43, 3) := by decide +kernel
theorem dX2_readNumber_41 : decode cX2_readNumber 41 = .ok (.aload_n 0, 1) := by decide +kernel
theorem dX2_readNumber_42 : decode cX2_readNumber 42 = .ok (.invokevirtual 49, 3) := by decide +kernel
theorem dX2_readNumber_45 : decode cX2_readNumber 45 = .ok (.istore_n 2, 1) := by decide +kernel
theorem dX2_readNumber_46 : decode cX2_readNumber 46 = .ok (.iload_n 2, 1) := by decide +kernel
theorem dX2_readNumber_47 : decode cX2_readNumber 47 = .ok (.ifCond .ge 5, 3) := by decide +kernel
theorem dX2_readNumber_50 : decode cX2_readNumber 50 = .ok (.iconst 1, 1) := by decide +kernel
theorem dX2_readNumber_51 : decode cX2_readNumber 51 = .ok (.ireturn, 1) := by decide +kernel
theorem dX2_readNumber_52 : decode cX2_readNumber 52 = .ok (.aload_n 0, 1) := by decide +kernel
theorem dX2_readNumber_53 : decode cX2_readNumber 53 = .ok (.aload_n 0, 1) := by decide +kernel
theorem dX2_readNumber_54 : decode cX2_readNumber 54 = .ok (.getfield 66, 3) := by decide +kernel
theorem dX2_readNumber_57 : decode cX2_readNumber 57 = .ok (.bipush 10, 2) := by decide +kernel
theorem dX2_readNumber_59 : decode cX2_readNumber 59 = .ok (.imul, 1) := by decide +kernel
theorem dX2_readNumber_60 : decode cX2_readNumber 60 = .ok (.iload_n 2, 1) := by decide +kernel
theorem dX2_readNumber_61 : decode cX2_readNumber 61 = .ok (.iadd, 1) := by decide +kernel
theorem dX2_readNumber_62 : decode cX2_readNumber 62 = .ok (.putfield 66, 3) := by decide +kernel
theorem dX2_readNumber_65 : decode cX2_readNumber 65 = .ok (.aload_n 0, 1) := by decide +kernel
theorem dX2_readNumber_66 : decode cX2_readNumber 66 = .ok (.dup, 1) := by decide +kernel
theorem dX2_readNumber_67 : decode cX2_readNumber 67 = .ok (.getfield 15, 3) := by decide +kernel
theorem dX2_readNumber_70 : decode cX2_readNumber 70 = .ok (.iconst 1, 1) := by decide +kernel
theorem dX2_readNumber_71 : decode cX2_readNumber 71 = .ok (.iadd, 1) := by decide +kernel
theorem dX2_readNumber_72 : decode cX2_readNumber 72 = .ok (.putfield 15, 3) := by decide +kernel
theorem dX2_readNumber_75 : decode cX2_readNumber 75 = .ok (.iinc 1 1, 3) := by decide +kernel
theorem dX2_readNumber_78 : decode cX2_readNumber 78 = .ok (.goto (-49), 3) := by decide +kernel
theorem dX2_readNumber_81 : decode cX2_readNumber 81 = .ok (.iconst 1, 1) := by decide +kernel
theorem dX2_readNumber_82 : decode cX2_readNumber 82 = .ok (.ireturn, 1) := by decide +kernel
theorem dX2_readSign_0 : decode cX2_readSign 0 = .ok (.aload_n 0, 1) := by decide +kernel
theorem dX2_readSign_1 : decode cX2_readSign 1 = .ok (.getfield 9, 3) := by decide +kernel
theorem dX2_readSign_4 : decode cX2_readSign 4 = .ok (.aload_n 0, 1) := by decide +kernel
theorem dX2_readSign_5 : decode cX2_readSign 5 = .ok (.getfield 15, 3) := by decide +kernel
theorem dX2_readSign_8 : decode cX2_readSign 8 = .ok (.invokevirtual 35, 3) := by decide +kernel
theorem dX2_readSign_11 : decode cX2_readSign 11 = .ok (.iload_n 1, 1) := by decide +kernel
theorem dX2_readSign_12 : decode cX2_readSign 12 = .ok (.if_icmp .eq 5, 3) := by decide +kernel
theorem dX2_readSign_15 : decode cX2_readSign 15 = .ok (.iconst 0, 1) := by decide +kernel
theorem dX2_readSign_16 : decode cX2_readSign 16 = .ok (.ireturn, 1) := by decide +kernel
theorem dX2_readSign_17 : decode cX2_readSign 17 = .ok (.aload_n 0, 1) := by decide +kernel
theorem dX2_readSign_18 : decode cX2_readSign 18 = .ok (.dup, 1) := by decide +kernel
theorem dX2_readSign_19 : decode cX2_readSign 19 = .ok (.getfield 15, 3) := by decide +kernel
theorem dX2_readSign_22 : decode cX2_readSign 22 = .ok (.iconst 1, 1) := by decide +kernel
theorem dX2_readSign_23 : decode cX2_readSign 23 = .ok (.iadd, 1) := by decide +kernel
theorem dX2_readSign_24 : decode cX2_readSign 24 = .ok (.putfield 15, 3) := by decide +kernel
theorem dX2_readSign_27 : decode cX2_readSign 27 = .ok (.iconst 1, 1) := by decide +kernel
theorem dX2_readSign_28 : decode cX2_readSign 28 = .ok (.ireturn, 1) := by decide +kernel
theorem dX2_digitHere_0 : decode cX2_digitHere 0 = .ok (.aload_n 0, 1) := by decide +kernel
theorem dX2_digitHere_1 : decode cX2_digitHere 1 = .ok (.getfield 9, 3) := by decide +kernel
theorem dX2_digitHere_4 : decode cX2_digitHere 4 = .ok (.aload_n 0, 1) := by decide +kernel
theorem dX2_digitHere_5 : decode cX2_digitHere 5 = .ok (.getfield 15, 3) := by decide +kernel
theorem dX2_digitHere_8 : decode cX2_digitHere 8 = .ok (.invokevirtual 35, 3) := by decide +kernel
theorem dX2_digitHere_11 : decode cX2_digitHere 11 = .ok (.istore_n 1, 1) := by decide +kernel
theorem dX2_digitHere_12 : decode cX2_digitHere 12 = .ok (.iload_n 1, 1) := by decide +kernel
theorem dX2_digitHere_13 : decode cX2_digitHere 13 = .ok (.bipush 48, 2) := by decide +kernel
theorem dX2_digitHere_15 : decode cX2_digitHere 15 = .ok (.if_icmp .lt 16, 3) := by decide +kernel
theorem dX2_digitHere_18 : decode cX2_digitHere 18 = .ok (.iload_n 1, 1) := by decide +kernel
theorem dX2_digitHere_19 : decode cX2_digitHere 19 = .ok (.bipush 57, 2) := by decide +kernel
theorem dX2_digitHere_21 : decode cX2_digitHere 21 = .ok (.if_icmp .gt 10, 3) := by decide +kernel
theorem dX2_digitHere_24 : decode cX2_digitHere 24 = .ok (.iload_n 1, 1) := by decide +kernel
theorem dX2_digitHere_25 : decode cX2_digitHere 25 = .ok (.bipush 48, 2) := by decide +kernel
theorem dX2_digitHere_27 : decode cX2_digitHere 27 = .ok (.isub, 1) := by decide +kernel
theorem dX2_digitHere_28 : decode cX2_digitHere 28 = .ok (.goto 5, 3) := by decide +kernel
theorem dX2_digitHere_31 : decode cX2_digitHere 31 = .ok (.bipush (-6), 2) := by decide +kernel
theorem dX2_digitHere_33 : decode cX2_digitHere 33 = .ok (.ireturn, 1) := by decide +kernel
theorem dX3_init_0 : decode cX3_init 0 = .ok (.aload_n 0, 1) := by decide +kernel
theorem dX3_init_1 : decode cX3_init 1 = .ok (.invokespecial 3, 3) := by decide +kernel
theorem dX3_init_4 : decode cX3_init 4 = .ok (.aload_n 0, 1) := by decide +kernel
theorem dX3_init_5 : decode cX3_init 5 = .ok (.bipush 80, 2) := by decide +kernel
theorem dX3_init_7 : decode cX3_init 7 = .ok (.newarray .char, 2) := by decide +kernel
theorem dX3_init_9 : decode cX3_init 9 = .ok (.putfield 9, 3) := by decide +kernel
theorem dX3_init_12 : decode cX3_init 12 = .ok (.aload_n 0, 1) := by decide +kernel
theorem dX3_init_13 : decode cX3_init 13 = .ok (.iconst 0, 1) := by decide +kernel
theorem dX3_init_14 : decode cX3_init 14 = .ok (.putfield 15, 3) := by decide +kernel
theorem dX3_init_17 : decode cX3_init 17 = .ok (.return_, 1) := by decide +kernel
theorem dX3_append_0 : decode cX3_append 0 = .ok (.lload_n 1, 1) := by decide +kernel
theorem dX3_append_1 : decode cX3_append 1 = .ok (.invokestatic 19, 3) := by decide +kernel
theorem dX3_append_4 : decode cX3_append 4 = .ok (.istore_n 3, 1) := by decide +kernel
theorem dX3_append_5 : decode cX3_append 5 = .ok (.iload_n 3, 1) := by decide +kernel
theorem dX3_append_6 : decode cX3_append 6 = .ok (.ifCond .ne 6, 3) := by decide +kernel
theorem dX3_append_9 : decode cX3_append 9 = .ok (.bipush (-2), 2) := by decide +kernel
theorem dX3_append_11 : decode cX3_append 11 = .ok (.ireturn, 1) := by decide +kernel
theorem dX3_append_12 : decode cX3_append 12 = .ok (.aload_n 0, 1) := by decide +kernel
theorem dX3_append_13 : decode cX3_append 13 = .ok (.getfield 15, 3) := by decide +kernel
theorem dX3_append_16 : decode cX3_append 16 = .ok (.iload_n 3, 1) := by decide +kernel
theorem dX3_append_17 : decode cX3_append 17 = .ok (.iadd, 1) := by decide +kernel
theorem dX3_append_18 : decode cX3_append 18 = .ok (.bipush 80, 2) := by decide +kernel
theorem dX3_append_20 : decode cX3_append 20 = .ok (.if_icmp .le 6, 3) := by decide +kernel
theorem dX3_append_23 : decode cX3_append 23 = .ok (.bipush (-4), 2) := by decide +kernel
theorem dX3_append_25 : decode cX3_append 25 = .ok (.ireturn, 1) := by decide +kernel
theorem dX3_append_26 : decode cX3_append 26 = .ok (.lload_n 1, 1) := by decide +kernel
theorem dX3_append_27 : decode cX3_append 27 = .ok (.lstore 4, 2) := by decide +kernel
theorem dX3_append_29 : decode cX3_append 29 = .ok (.aload_n 0, 1) := by decide +kernel
theorem dX3_append_30 : decode cX3_append 30 = .ok (.getfield 15, 3) := by decide +kernel
theorem dX3_append_33 : decode cX3_append 33 = .ok (.iload_n 3, 1) := by decide +kernel
theorem dX3_append_34 : decode cX3_append 34 = .ok (.iadd, 1) := by decide +kernel
theorem dX3_append_35 : decode cX3_append 35 = .ok (.iconst 1, 1) := by decide +kernel
theorem dX3_append_36 : decode cX3_append 36 = .ok (.isub, 1) := by decide +kernel
theorem dX3_append_37 : decode cX3_append 37 = .ok (.istore 6, 2) := by decide +kernel
theorem dX3_append_39 : decode cX3_append 39 = .ok (.iload 6, 2) := by decide +kernel
theorem dX3_append_41 : decode cX3_append 41 = .ok (.aload_n 0, 1) := by decide +kernel
theorem dX3_append_42 : decode cX3_append 42 = .ok (.getfield 15, 3) := by decide +kernel
theorem dX3_append_45 : decode cX3_append 45 = .ok (.if_icmp .lt 31, 3) := by decide +kernel
theorem dX3_append_48 : decode cX3_append 48 = .ok (.aload_n 0, 1) := by decide +kernel
theorem dX3_append_49 : decode cX3_append 49 = .ok (.getfield 9, 3) := by decide +kernel
theorem dX3_append_52 : decode cX3_append 52 = .ok (.iload 6, 2) := by decide +kernel
theorem dX3_append_54 : decode cX3_append 54 = .ok (.lload 4, 2) := by decide +kernel
theorem dX3_append_56 : decode cX3_append 56 = .ok (.ldc2_w 23, 3) := by decide +kernel
theorem dX3_append_59 : decode cX3_append 59 = .ok (.land, 1) := by decide +kernel
theorem dX3_append_60 : decode cX3_append 60 = .ok (.l2i, 1) := by decide +kernel
theorem dX3_append_61 : decode cX3_append 61 = .ok (.i2c, 1) := by decide +kernel
theorem dX3_append_62 : decode cX3_append 62 = .ok (.castore, 1) := by decide +kernel
theorem dX3_append_63 : decode cX3_append 63 = .ok (.lload 4, 2) := by decide +kernel
theorem dX3_append_65 : decode cX3_append 65 = .ok (.bipush 8, 2) := by decide +kernel
theorem dX3_append_67 : decode cX3_append 67 = .ok (.lushr, 1) := by decide +kernel
theorem dX3_append_68 : decode cX3_append 68 = .ok (.lstore 4, 2) := by decide +kernel
theorem dX3_append_70 : decode cX3_append 70 = .ok (.iinc 6 (-1), 3) := by decide +kernel
theorem dX3_append_73 : decode cX3_append 73 = .ok (.goto (-34), 3) := by decide +kernel
theorem dX3_append_76 : decode cX3_append 76 = .ok (.aload_n 0, 1) := by decide +kernel
theorem dX3_append_77 : decode cX3_append 77 = .ok (.dup, 1) := by decide +kernel
theorem dX3_append_78 : decode cX3_append 78 = .ok (.getfield 15, 3) := by decide +kernel
theorem dX3_append_81 : decode cX3_append 81 = .ok (.iload_n 3, 1) := by decide +kernel
theorem dX3_append_82 : decode cX3_append 82 = .ok (.iadd, 1) := by decide +kernel
theorem dX3_append_83 : decode cX3_append 83 = .ok (.putfield 15, 3) := by decide +kernel
theorem dX3_append_86 : decode cX3_append 86 = .ok (.aload_n 0, 1) := by decide +kernel
theorem dX3_append_87 : decode cX3_append 87 = .ok (.getfield 15, 3) := by decide +kernel
theorem dX3_append_90 : decode cX3_append 90 = .ok (.ireturn, 1) := by decide +kernel
theorem dX3_charactersIn_0 : decode cX3_charactersIn 0 = .ok (.iconst 0, 1) := by decide +kernel
theorem dX3_charactersIn_1 : decode cX3_charactersIn 1 = .ok (.istore_n 2, 1) := by decide +kernel
theorem dX3_charactersIn_2 : decode cX3_charactersIn 2 = .ok (.lload_n 0, 1) := by decide +kernel
theorem dX3_charactersIn_3 : decode cX3_charactersIn 3 = .ok (.lstore_n 3, 1) := by decide +kernel
theorem dX3_charactersIn_4 : decode cX3_charactersIn 4 = .ok (.lload_n 3, 1) := by decide +kernel
theorem dX3_charactersIn_5 : decode cX3_charactersIn 5 = .ok (.lconst 0, 1) := by decide +kernel
theorem dX3_charactersIn_6 : decode cX3_charactersIn 6 = .ok (.lcmp, 1) := by decide +kernel
theorem dX3_charactersIn_7 : decode cX3_charactersIn 7 = .ok (.ifCond .eq 47, 3) := by decide +kernel
theorem dX3_charactersIn_10 : decode cX3_charactersIn 10 = .ok (.iload_n 2, 1) := by decide +kernel
theorem dX3_charactersIn_11 : decode cX3_charactersIn 11 = .ok (.bipush 8, 2) := by decide +kernel
theorem dX3_charactersIn_13 : decode cX3_charactersIn 13 = .ok (.if_icmp .ge 41, 3) := by decide +kernel
theorem dX3_charactersIn_16 : decode cX3_charactersIn 16 = .ok (.lload_n 3, 1) := by decide +kernel
theorem dX3_charactersIn_17 : decode cX3_charactersIn 17 = .ok (.ldc2_w 23, 3) := by decide +kernel
theorem dX3_charactersIn_20 : decode cX3_charactersIn 20 = .ok (.land, 1) := by decide +kernel
theorem dX3_charactersIn_21 : decode cX3_charactersIn 21 = .ok (.lstore 5, 2) := by decide +kernel
theorem dX3_charactersIn_23 : decode cX3_charactersIn 23 = .ok (.lload 5, 2) := by decide +kernel
theorem dX3_charactersIn_25 : decode cX3_charactersIn 25 = .ok (.ldc2_w 25, 3) := by decide +kernel
theorem dX3_charactersIn_28 : decode cX3_charactersIn 28 = .ok (.lcmp, 1) := by decide +kernel
theorem dX3_charactersIn_29 : decode cX3_charactersIn 29 = .ok (.ifCond .lt 12, 3) := by decide +kernel
theorem dX3_charactersIn_32 : decode cX3_charactersIn 32 = .ok (.lload 5, 2) := by decide +kernel
theorem dX3_charactersIn_34 : decode cX3_charactersIn 34 = .ok (.ldc2_w 27, 3) := by decide +kernel
theorem dX3_charactersIn_37 : decode cX3_charactersIn 37 = .ok (.lcmp, 1) := by decide +kernel
theorem dX3_charactersIn_38 : decode cX3_charactersIn 38 = .ok (.ifCond .le 5, 3) := by decide +kernel
theorem dX3_charactersIn_41 : decode cX3_charactersIn 41 = .ok (.iconst 0, 1) := by decide +kernel
theorem dX3_charactersIn_42 : decode cX3_charactersIn 42 = .ok (.ireturn, 1) := by decide +kernel
theorem dX3_charactersIn_43 : decode cX3_charactersIn 43 = .ok (.iinc 2 1, 3) := by decide +kernel
theorem dX3_charactersIn_46 : decode cX3_charactersIn 46 = .ok (.lload_n 3, 1) := by decide +kernel
theorem dX3_charactersIn_47 : decode cX3_charactersIn 47 = .ok (.bipush 8, 2) := by decide +kernel
theorem dX3_charactersIn_49 : decode cX3_charactersIn 49 = .ok (.lushr, 1) := by decide +kernel
theorem dX3_charactersIn_50 : decode cX3_charactersIn 50 = .ok (.lstore_n 3, 1) := by decide +kernel
theorem dX3_charactersIn_51 : decode cX3_charactersIn 51 = .ok (.goto (-47), 3) := by decide +kernel
theorem dX3_charactersIn_54 : decode cX3_charactersIn 54 = .ok (.iload_n 2, 1) := by decide +kernel
theorem dX3_charactersIn_55 : decode cX3_charactersIn 55 = .ok (.ireturn, 1) := by decide +kernel
theorem dX3_empty_0 : decode cX3_empty 0 = .ok (.aload_n 0, 1) := by decide +kernel
theorem dX3_empty_1 : decode cX3_empty 1 = .ok (.getfield 15, 3) := by decide +kernel
theorem dX3_empty_4 : decode cX3_empty 4 = .ok (.istore_n 1, 1) := by decide +kernel
theorem dX3_empty_5 : decode cX3_empty 5 = .ok (.aload_n 0, 1) := by decide +kernel
theorem dX3_empty_6 : decode cX3_empty 6 = .ok (.iconst 0, 1) := by decide +kernel
theorem dX3_empty_7 : decode cX3_empty 7 = .ok (.putfield 15, 3) := by decide +kernel
theorem dX3_empty_10 : decode cX3_empty 10 = .ok (.iload_n 1, 1) := by decide +kernel
theorem dX3_empty_11 : decode cX3_empty 11 = .ok (.ireturn, 1) := by decide +kernel
theorem dX3_characterAt_0 : decode cX3_characterAt 0 = .ok (.iload_n 1, 1) := by decide +kernel
theorem dX3_characterAt_1 : decode cX3_characterAt 1 = .ok (.ifCond .lt 20, 3) := by decide +kernel
theorem dX3_characterAt_4 : decode cX3_characterAt 4 = .ok (.iload_n 1, 1) := by decide +kernel
theorem dX3_characterAt_5 : decode cX3_characterAt 5 = .ok (.aload_n 0, 1) := by decide +kernel
theorem dX3_characterAt_6 : decode cX3_characterAt 6 = .ok (.getfield 15, 3) := by decide +kernel
theorem dX3_characterAt_9 : decode cX3_characterAt 9 = .ok (.if_icmp .ge 12, 3) := by decide +kernel
theorem dX3_characterAt_12 : decode cX3_characterAt 12 = .ok (.aload_n 0, 1) := by decide +kernel
theorem dX3_characterAt_13 : decode cX3_characterAt 13 = .ok (.getfield 9, 3) := by decide +kernel
theorem dX3_characterAt_16 : decode cX3_characterAt 16 = .ok (.iload_n 1, 1) := by decide +kernel
theorem dX3_characterAt_17 : decode cX3_characterAt 17 = .ok (.caload, 1) := by decide +kernel
theorem dX3_characterAt_18 : decode cX3_characterAt 18 = .ok (.goto 4, 3) := by decide +kernel
theorem dX3_characterAt_21 : decode cX3_characterAt 21 = .ok (.iconst 0, 1) := by decide +kernel
theorem dX3_characterAt_22 : decode cX3_characterAt 22 = .ok (.ireturn, 1) := by decide +kernel
theorem dX4_init_0 : decode cX4_init 0 = .ok (.aload_n 0, 1) := by decide +kernel
theorem dX4_init_1 : decode cX4_init 1 = .ok (.invokespecial 3, 3) := by decide +kernel
theorem dX4_init_4 : decode cX4_init 4 = .ok (.return_, 1) := by decide +kernel
theorem dX4_come_0 : decode cX4_come 0 = .ok (.aload_n 0, 1) := by decide +kernel
theorem dX4_come_1 : decode cX4_come 1 = .ok (.iload_n 1, 1) := by decide +kernel
theorem dX4_come_2 : decode cX4_come 2 = .ok (.putfield 9, 3) := by decide +kernel
theorem dX4_come_5 : decode cX4_come 5 = .ok (.aload_n 0, 1) := by decide +kernel
theorem dX4_come_6 : decode cX4_come 6 = .ok (.iload_n 2, 1) := by decide +kernel
theorem dX4_come_7 : decode cX4_come 7 = .ok (.putfield 15, 3) := by decide +kernel
theorem dX4_come_10 : decode cX4_come 10 = .ok (.aload_n 0, 1) := by decide +kernel
theorem dX4_come_11 : decode cX4_come 11 = .ok (.iload_n 3, 1) := by decide +kernel
theorem dX4_come_12 : decode cX4_come 12 = .ok (.putfield 18, 3) := by decide +kernel
theorem dX4_come_15 : decode cX4_come 15 = .ok (.aload_n 0, 1) := by decide +kernel
theorem dX4_come_16 : decode cX4_come 16 = .ok (.iload 4, 2) := by decide +kernel
theorem dX4_come_18 : decode cX4_come 18 = .ok (.putfield 21, 3) := by decide +kernel
theorem dX4_come_21 : decode cX4_come 21 = .ok (.aload_n 0, 1) := by decide +kernel
theorem dX4_come_22 : decode cX4_come 22 = .ok (.iconst 0, 1) := by decide +kernel
theorem dX4_come_23 : decode cX4_come 23 = .ok (.putfield 25, 3) := by decide +kernel
theorem dX4_come_26 : decode cX4_come 26 = .ok (.aload_n 0, 1) := by decide +kernel
theorem dX4_come_27 : decode cX4_come 27 = .ok (.iconst 0, 1) := by decide +kernel
theorem dX4_come_28 : decode cX4_come 28 = .ok (.putfield 28, 3) := by decide +kernel
theorem dX4_come_31 : decode cX4_come 31 = .ok (.aload_n 0, 1) := by decide +kernel
theorem dX4_come_32 : decode cX4_come 32 = .ok (.iconst 0, 1) := by decide +kernel
theorem dX4_come_33 : decode cX4_come 33 = .ok (.putfield 31, 3) := by decide +kernel
theorem dX4_come_36 : decode cX4_come 36 = .ok (.aload_n 0, 1) := by decide +kernel
theorem dX4_come_37 : decode cX4_come 37 = .ok (.iconst 0, 1) := by decide +kernel
theorem dX4_come_38 : decode cX4_come 38 = .ok (.putfield 34, 3) := by decide +kernel
theorem dX4_come_41 : decode cX4_come 41 = .ok (.aload_n 0, 1) := by decide +kernel
theorem dX4_come_42 : decode cX4_come 42 = .ok (.bipush (-6), 2) := by decide +kernel
theorem dX4_come_44 : decode cX4_come 44 = .ok (.putfield 37, 3) := by decide +kernel
theorem dX4_come_47 : decode cX4_come 47 = .ok (.aload_n 0, 1) := by decide +kernel
theorem dX4_come_48 : decode cX4_come 48 = .ok (.iconst 0, 1) := by decide +kernel
theorem dX4_come_49 : decode cX4_come 49 = .ok (.putfield 40, 3) := by decide +kernel
theorem dX4_come_52 : decode cX4_come 52 = .ok (.return_, 1) := by decide +kernel
theorem dX4_copyFrom_0 : decode cX4_copyFrom 0 = .ok (.aload_n 0, 1) := by decide +kernel
theorem dX4_copyFrom_1 : decode cX4_copyFrom 1 = .ok (.aload_n 1, 1) := by decide +kernel
theorem dX4_copyFrom_2 : decode cX4_copyFrom 2 = .ok (.getfield 9, 3) := by decide +kernel
theorem dX4_copyFrom_5 : decode cX4_copyFrom 5 = .ok (.putfield 9, 3) := by decide +kernel
theorem dX4_copyFrom_8 : decode cX4_copyFrom 8 = .ok (.aload_n 0, 1) := by decide +kernel
theorem dX4_copyFrom_9 : decode cX4_copyFrom 9 = .ok (.aload_n 1, 1) := by decide +kernel
theorem dX4_copyFrom_10 : decode cX4_copyFrom 10 = .ok (.getfield 15, 3) := by decide +kernel
theorem dX4_copyFrom_13 : decode cX4_copyFrom 13 = .ok (.putfield 15, 3) := by decide +kernel
theorem dX4_copyFrom_16 : decode cX4_copyFrom 16 = .ok (.aload_n 0, 1) := by decide +kernel
theorem dX4_copyFrom_17 : decode cX4_copyFrom 17 = .ok (.aload_n 1, 1) := by decide +kernel
theorem dX4_copyFrom_18 : decode cX4_copyFrom 18 = .ok (.getfield 18, 3) := by decide +kernel
theorem dX4_copyFrom_21 : decode cX4_copyFrom 21 = .ok (.putfield 18, 3) := by decide +kernel
theorem dX4_copyFrom_24 : decode cX4_copyFrom 24 = .ok (.aload_n 0, 1) := by decide +kernel
theorem dX4_copyFrom_25 : decode cX4_copyFrom 25 = .ok (.aload_n 1, 1) := by decide +kernel
theorem dX4_copyFrom_26 : decode cX4_copyFrom 26 = .ok (.getfield 21, 3) := by decide +kernel
theorem dX4_copyFrom_29 : decode cX4_copyFrom 29 = .ok (.putfield 21, 3) := by decide +kernel
theorem dX4_copyFrom_32 : decode cX4_copyFrom 32 = .ok (.aload_n 0, 1) := by decide +kernel
theorem dX4_copyFrom_33 : decode cX4_copyFrom 33 = .ok (.aload_n 1, 1) := by decide +kernel
theorem dX4_copyFrom_34 : decode cX4_copyFrom 34 = .ok (.getfield 25, 3) := by decide +kernel
theorem dX4_copyFrom_37 : decode cX4_copyFrom 37 = .ok (.putfield 25, 3) := by decide +kernel
theorem dX4_copyFrom_40 : decode cX4_copyFrom 40 = .ok (.aload_n 0, 1) := by decide +kernel
theorem dX4_copyFrom_41 : decode cX4_copyFrom 41 = .ok (.aload_n 1, 1) := by decide +kernel
theorem dX4_copyFrom_42 : decode cX4_copyFrom 42 = .ok (.getfield 28, 3) := by decide +kernel
theorem dX4_copyFrom_45 : decode cX4_copyFrom 45 = .ok (.putfield 28, 3) := by decide +kernel
theorem dX4_copyFrom_48 : decode cX4_copyFrom 48 = .ok (.aload_n 0, 1) := by decide +kernel
theorem dX4_copyFrom_49 : decode cX4_copyFrom 49 = .ok (.aload_n 1, 1) := by decide +kernel
theorem dX4_copyFrom_50 : decode cX4_copyFrom 50 = .ok (.getfield 31, 3) := by decide +kernel
theorem dX4_copyFrom_53 : decode cX4_copyFrom 53 = .ok (.putfield 31, 3) := by decide +kernel
theorem dX4_copyFrom_56 : decode cX4_copyFrom 56 = .ok (.aload_n 0, 1) := by decide +kernel
theorem dX4_copyFrom_57 : decode cX4_copyFrom 57 = .ok (.aload_n 1, 1) := by decide +kernel
theorem dX4_copyFrom_58 : decode cX4_copyFrom 58 = .ok (.getfield 34, 3) := by decide +kernel
theorem dX4_copyFrom_61 : decode cX4_copyFrom 61 = .ok (.putfield 34, 3) := by decide +kernel
theorem dX4_copyFrom_64 : decode cX4_copyFrom 64 = .ok (.aload_n 0, 1) := by decide +kernel
theorem dX4_copyFrom_65 : decode cX4_copyFrom 65 = .ok (.aload_n 1, 1) := by decide +kernel
theorem dX4_copyFrom_66 : decode cX4_copyFrom 66 = .ok (.getfield 37, 3) := by decide +kernel
theorem dX4_copyFrom_69 : decode cX4_copyFrom 69 = .ok (.putfield 37, 3) := by decide +kernel
theorem dX4_copyFrom_72 : decode cX4_copyFrom 72 = .ok (.aload_n 0, 1) := by decide +kernel
theorem dX4_copyFrom_73 : decode cX4_copyFrom 73 = .ok (.aload_n 1, 1) := by decide +kernel
theorem dX4_copyFrom_74 : decode cX4_copyFrom 74 = .ok (.getfield 40, 3) := by decide +kernel
theorem dX4_copyFrom_77 : decode cX4_copyFrom 77 = .ok (.putfield 40, 3) := by decide +kernel
theorem dX4_copyFrom_80 : decode cX4_copyFrom 80 = .ok (.return_, 1) := by decide +kernel
theorem dX4_editFor_0 : decode cX4_editFor 0 = .ok (.aload_n 0, 1) := by decide +kernel
theorem dX4_editFor_1 : decode cX4_editFor 1 = .ok (.dup, 1) := by decide +kernel
theorem dX4_editFor_2 : decode cX4_editFor 2 = .ok (.getfield 31, 3) := by decide +kernel
theorem dX4_editFor_5 : decode cX4_editFor 5 = .ok (.iload_n 1, 1) := by decide +kernel
theorem dX4_editFor_6 : decode cX4_editFor 6 = .ok (.aload_n 0, 1) := by decide +kernel
theorem dX4_editFor_7 : decode cX4_editFor 7 = .ok (.getfield 15, 3) := by decide +kernel
theorem dX4_editFor_10 : decode cX4_editFor 10 = .ok (.aload_n 0, 1) := by decide +kernel
theorem dX4_editFor_11 : decode cX4_editFor 11 = .ok (.getfield 31, 3) := by decide +kernel
theorem dX4_editFor_14 : decode cX4_editFor 14 = .ok (.isub, 1) := by decide +kernel
theorem dX4_editFor_15 : decode cX4_editFor 15 = .ok (.invokestatic 43, 3) := by decide +kernel
theorem dX4_editFor_18 : decode cX4_editFor 18 = .ok (.iadd, 1) := by decide +kernel
theorem dX4_editFor_19 : decode cX4_editFor 19 = .ok (.putfield 31, 3) := by decide +kernel
theorem dX4_editFor_22 : decode cX4_editFor 22 = .ok (.aload_n 0, 1) := by decide +kernel
theorem dX4_editFor_23 : decode cX4_editFor 23 = .ok (.getfield 31, 3) := by decide +kernel
theorem dX4_editFor_26 : decode cX4_editFor 26 = .ok (.aload_n 0, 1) := by decide +kernel
theorem dX4_editFor_27 : decode cX4_editFor 27 = .ok (.getfield 15, 3) := by decide +kernel
theorem dX4_editFor_30 : decode cX4_editFor 30 = .ok (.if_icmp .ge 4, 3) := by decide +kernel
theorem dX4_editFor_33 : decode cX4_editFor 33 = .ok (.return_, 1) := by decide +kernel
theorem dX4_editFor_34 : decode cX4_editFor 34 = .ok (.aload_n 0, 1) := by decide +kernel
theorem dX4_editFor_35 : decode cX4_editFor 35 = .ok (.getfield 21, 3) := by decide +kernel
theorem dX4_editFor_38 : decode cX4_editFor 38 = .ok (.ifCond .ne 9, 3) := by decide +kernel
theorem dX4_editFor_41 : decode cX4_editFor 41 = .ok (.aload_n 0, 1) := by decide +kernel
theorem dX4_editFor_42 : decode cX4_editFor 42 = .ok (.iload_n 2, 1) := by decide +kernel
theorem dX4_editFor_43 : decode cX4_editFor 43 = .ok (.invokevirtual 49, 3) := by decide +kernel
theorem dX4_editFor_46 : decode cX4_editFor 46 = .ok (.return_, 1) := by decide +kernel
theorem dX4_editFor_47 : decode cX4_editFor 47 = .ok (.aload_n 0, 1) := by decide +kernel
theorem dX4_editFor_48 : decode cX4_editFor 48 = .ok (.iconst 1, 1) := by decide +kernel
theorem dX4_editFor_49 : decode cX4_editFor 49 = .ok (.putfield 25, 3) := by decide +kernel
theorem dX4_editFor_52 : decode cX4_editFor 52 = .ok (.aload_n 0, 1) := by decide +kernel
theorem dX4_editFor_53 : decode cX4_editFor 53 = .ok (.iload_n 2, 1) := by decide +kernel
theorem dX4_editFor_54 : decode cX4_editFor 54 = .ok (.iconst 5, 1) := by decide +kernel
theorem dX4_editFor_55 : decode cX4_editFor 55 = .ok (.imul, 1) := by decide +kernel
theorem dX4_editFor_56 : decode cX4_editFor 56 = .ok (.aload_n 0, 1) := by decide +kernel
theorem dX4_editFor_57 : decode cX4_editFor 57 = .ok (.getfield 9, 3) := by decide +kernel
theorem dX4_editFor_60 : decode cX4_editFor 60 = .ok (.iadd, 1) := by decide +kernel
theorem dX4_editFor_61 : decode cX4_editFor 61 = .ok (.putfield 40, 3) := by decide +kernel
theorem dX4_editFor_64 : decode cX4_editFor 64 = .ok (.return_, 1) := by decide +kernel
theorem dX4_readOneMinute_0 : decode cX4_readOneMinute 0 = .ok (.aload_n 0, 1) := by decide +kernel
theorem dX4_readOneMinute_1 : decode cX4_readOneMinute 1 = .ok (.dup, 1) := by decide +kernel
theorem dX4_readOneMinute_2 : decode cX4_readOneMinute 2 = .ok (.getfield 34, 3) := by decide +kernel
theorem dX4_readOneMinute_5 : decode cX4_readOneMinute 5 = .ok (.iconst 1, 1) := by decide +kernel
theorem dX4_readOneMinute_6 : decode cX4_readOneMinute 6 = .ok (.iadd, 1) := by decide +kernel
theorem dX4_readOneMinute_7 : decode cX4_readOneMinute 7 = .ok (.putfield 34, 3) := by decide +kernel
theorem dX4_readOneMinute_10 : decode cX4_readOneMinute 10 = .ok (.aload_n 0, 1) := by decide +kernel
theorem dX4_readOneMinute_11 : decode cX4_readOneMinute 11 = .ok (.getfield 34, 3) := by decide +kernel
theorem dX4_readOneMinute_14 : decode cX4_readOneMinute 14 = .ok (.iload_n 1, 1) := by decide +kernel
theorem dX4_readOneMinute_15 : decode cX4_readOneMinute 15 = .ok (.if_icmp .lt 8, 3) := by decide +kernel
theorem dX4_readOneMinute_18 : decode cX4_readOneMinute 18 = .ok (.aload_n 0, 1) := by decide +kernel
theorem dX4_readOneMinute_19 : decode cX4_readOneMinute 19 = .ok (.iload_n 2, 1) := by decide +kernel
theorem dX4_readOneMinute_20 : decode cX4_readOneMinute 20 = .ok (.invokevirtual 49, 3) := by decide +kernel
theorem dX4_readOneMinute_23 : decode cX4_readOneMinute 23 = .ok (.return_, 1) := by decide +kernel
theorem dX4_becomeReady_0 : decode cX4_becomeReady 0 = .ok (.aload_n 0, 1) := by decide +kernel
theorem dX4_becomeReady_1 : decode cX4_becomeReady 1 = .ok (.iconst 2, 1) := by decide +kernel
theorem dX4_becomeReady_2 : decode cX4_becomeReady 2 = .ok (.putfield 25, 3) := by decide +kernel
theorem dX4_becomeReady_5 : decode cX4_becomeReady 5 = .ok (.aload_n 0, 1) := by decide +kernel
theorem dX4_becomeReady_6 : decode cX4_becomeReady 6 = .ok (.iload_n 1, 1) := by decide +kernel
theorem dX4_becomeReady_7 : decode cX4_becomeReady 7 = .ok (.putfield 37, 3) := by decide +kernel
theorem dX4_becomeReady_10 : decode cX4_becomeReady 10 = .ok (.return_, 1) := by decide +kernel
theorem dX4_isForPlate_0 : decode cX4_isForPlate 0 = .ok (.aload_n 0, 1) := by decide +kernel
theorem dX4_isForPlate_1 : decode cX4_isForPlate 1 = .ok (.getfield 25, 3) := by decide +kernel
theorem dX4_isForPlate_4 : decode cX4_isForPlate 4 = .ok (.iconst 2, 1) := by decide +kernel
theorem dX4_isForPlate_5 : decode cX4_isForPlate 5 = .ok (.if_icmp .ne 14, 3) := by decide +kernel
theorem dX4_isForPlate_8 : decode cX4_isForPlate 8 = .ok (.aload_n 0, 1) := by decide +kernel
theorem dX4_isForPlate_9 : decode cX4_isForPlate 9 = .ok (.getfield 28, 3) := by decide +kernel
theorem dX4_isForPlate_12 : decode cX4_isForPlate 12 = .ok (.ifCond .ne 7, 3) := by decide +kernel
theorem dX4_isForPlate_15 : decode cX4_isForPlate 15 = .ok (.iconst 1, 1) := by decide +kernel
theorem dX4_isForPlate_16 : decode cX4_isForPlate 16 = .ok (.goto 4, 3) := by decide +kernel
theorem dX4_isForPlate_19 : decode cX4_isForPlate 19 = .ok (.iconst 0, 1) := by decide +kernel
theorem dX4_isForPlate_20 : decode cX4_isForPlate 20 = .ok (.ireturn, 1) := by decide +kernel
theorem dX5_init_0 : decode cX5_init 0 = .ok (.aload_n 0, 1) := by decide +kernel
theorem dX5_init_1 : decode cX5_init 1 = .ok (.invokespecial 1, 3) := by decide +kernel
theorem dX5_init_4 : decode cX5_init 4 = .ok (.return_, 1) := by decide +kernel
theorem dX5_tell_0 : decode cX5_tell 0 = .ok (.aload_n 0, 1) := by decide +kernel
theorem dX5_tell_1 : decode cX5_tell 1 = .ok (.iload_n 1, 1) := by decide +kernel
theorem dX5_tell_2 : decode cX5_tell 2 = .ok (.putfield 7, 3) := by decide +kernel
theorem dX5_tell_5 : decode cX5_tell 5 = .ok (.aload_n 0, 1) := by decide +kernel
theorem dX5_tell_6 : decode cX5_tell 6 = .ok (.iload_n 2, 1) := by decide +kernel
theorem dX5_tell_7 : decode cX5_tell 7 = .ok (.putfield 13, 3) := by decide +kernel
theorem dX5_tell_10 : decode cX5_tell 10 = .ok (.aload_n 0, 1) := by decide +kernel
theorem dX5_tell_11 : decode cX5_tell 11 = .ok (.iconst 0, 1) := by decide +kernel
theorem dX5_tell_12 : decode cX5_tell 12 = .ok (.putfield 17, 3) := by decide +kernel
theorem dX5_tell_15 : decode cX5_tell 15 = .ok (.return_, 1) := by decide +kernel
theorem dX5_copyFrom_0 : decode cX5_copyFrom 0 = .ok (.aload_n 0, 1) := by decide +kernel
theorem dX5_copyFrom_1 : decode cX5_copyFrom 1 = .ok (.aload_n 1, 1) := by decide +kernel
theorem dX5_copyFrom_2 : decode cX5_copyFrom 2 = .ok (.getfield 7, 3) := by decide +kernel
theorem dX5_copyFrom_5 : decode cX5_copyFrom 5 = .ok (.putfield 7, 3) := by decide +kernel
theorem dX5_copyFrom_8 : decode cX5_copyFrom 8 = .ok (.aload_n 0, 1) := by decide +kernel
theorem dX5_copyFrom_9 : decode cX5_copyFrom 9 = .ok (.aload_n 1, 1) := by decide +kernel
theorem dX5_copyFrom_10 : decode cX5_copyFrom 10 = .ok (.getfield 13, 3) := by decide +kernel
theorem dX5_copyFrom_13 : decode cX5_copyFrom 13 = .ok (.putfield 13, 3) := by decide +kernel
theorem dX5_copyFrom_16 : decode cX5_copyFrom 16 = .ok (.aload_n 0, 1) := by decide +kernel
theorem dX5_copyFrom_17 : decode cX5_copyFrom 17 = .ok (.aload_n 1, 1) := by decide +kernel
theorem dX5_copyFrom_18 : decode cX5_copyFrom 18 = .ok (.getfield 17, 3) := by decide +kernel
theorem dX5_copyFrom_21 : decode cX5_copyFrom 21 = .ok (.putfield 17, 3) := by decide +kernel
theorem dX5_copyFrom_24 : decode cX5_copyFrom 24 = .ok (.return_, 1) := by decide +kernel
theorem dX6_init_0 : decode cX6_init 0 = .ok (.aload_n 0, 1) := by decide +kernel
theorem dX6_init_1 : decode cX6_init 1 = .ok (.invokespecial 1, 3) := by decide +kernel
theorem dX6_init_4 : decode cX6_init 4 = .ok (.aload_n 0, 1) := by decide +kernel
theorem dX6_init_5 : decode cX6_init 5 = .ok (.new 7, 3) := by decide +kernel
theorem dX6_init_8 : decode cX6_init 8 = .ok (.dup, 1) := by decide +kernel
theorem dX6_init_9 : decode cX6_init 9 = .ok (.invokespecial 9, 3) := by decide +kernel
theorem dX6_init_12 : decode cX6_init 12 = .ok (.putfield 10, 3) := by decide +kernel
theorem dX6_init_15 : decode cX6_init 15 = .ok (.aload_n 0, 1) := by decide +kernel
theorem dX6_init_16 : decode cX6_init 16 = .ok (.new 7, 3) := by decide +kernel
theorem dX6_init_19 : decode cX6_init 19 = .ok (.dup, 1) := by decide +kernel
theorem dX6_init_20 : decode cX6_init 20 = .ok (.invokespecial 9, 3) := by decide +kernel
theorem dX6_init_23 : decode cX6_init 23 = .ok (.putfield 16, 3) := by decide +kernel
theorem dX6_init_26 : decode cX6_init 26 = .ok (.aload_n 0, 1) := by decide +kernel
theorem dX6_init_27 : decode cX6_init 27 = .ok (.new 19, 3) := by decide +kernel
theorem dX6_init_30 : decode cX6_init 30 = .ok (.dup, 1) := by decide +kernel
theorem dX6_init_31 : decode cX6_init 31 = .ok (.invokespecial 21, 3) := by decide +kernel
theorem dX6_init_34 : decode cX6_init 34 = .ok (.putfield 22, 3) := by decide +kernel
theorem dX6_init_37 : decode cX6_init 37 = .ok (.aload_n 0, 1) := by decide +kernel
theorem dX6_init_38 : decode cX6_init 38 = .ok (.iconst 2, 1) := by decide +kernel
theorem dX6_init_39 : decode cX6_init 39 = .ok (.anewarray 7, 3) := by decide +kernel
theorem dX6_init_42 : decode cX6_init 42 = .ok (.putfield 26, 3) := by decide +kernel
theorem dX6_init_45 : decode cX6_init 45 = .ok (.aload_n 0, 1) := by decide +kernel
theorem dX6_init_46 : decode cX6_init 46 = .ok (.new 30, 3) := by decide +kernel
theorem dX6_init_49 : decode cX6_init 49 = .ok (.dup, 1) := by decide +kernel
theorem dX6_init_50 : decode cX6_init 50 = .ok (.invokespecial 32, 3) := by decide +kernel
theorem dX6_init_53 : decode cX6_init 53 = .ok (.putfield 33, 3) := by decide +kernel
theorem dX6_init_56 : decode cX6_init 56 = .ok (.aload_n 0, 1) := by decide +kernel
theorem dX6_init_57 : decode cX6_init 57 = .ok (.new 37, 3) := by decide +kernel
theorem dX6_init_60 : decode cX6_init 60 = .ok (.dup, 1) := by decide +kernel
theorem dX6_init_61 : decode cX6_init 61 = .ok (.aload_n 0, 1) := by decide +kernel
theorem dX6_init_62 : decode cX6_init 62 = .ok (.getfield 33, 3) := by decide +kernel
theorem dX6_init_65 : decode cX6_init 65 = .ok (.invokespecial 39, 3) := by decide +kernel
theorem dX6_init_68 : decode cX6_init 68 = .ok (.putfield 42, 3) := by decide +kernel
theorem dX6_init_71 : decode cX6_init 71 = .ok (.return_, 1) := by decide +kernel
theorem dX6_set_0 : decode cX6_set 0 = .ok (.aload_n 0, 1) := by decide +kernel
theorem dX6_set_1 : decode cX6_set 1 = .ok (.getfield 22, 3) := by decide +kernel
theorem dX6_set_4 : decode cX6_set 4 = .ok (.aload_n 0, 1) := by decide +kernel
theorem dX6_set_5 : decode cX6_set 5 = .ok (.getfield 10, 3) := by decide +kernel
theorem dX6_set_8 : decode cX6_set 8 = .ok (.invokevirtual 46, 3) := by decide +kernel
theorem dX6_set_11 : decode cX6_set 11 = .ok (.aload_n 0, 1) := by decide +kernel
theorem dX6_set_12 : decode cX6_set 12 = .ok (.getfield 22, 3) := by decide +kernel
theorem dX6_set_15 : decode cX6_set 15 = .ok (.aload_n 0, 1) := by decide +kernel
theorem dX6_set_16 : decode cX6_set 16 = .ok (.getfield 10, 3) := by decide +kernel
theorem dX6_set_19 : decode cX6_set 19 = .ok (.iload_n 1, 1) := by decide +kernel
theorem dX6_set_20 : decode cX6_set 20 = .ok (.iload_n 2, 1) := by decide +kernel
theorem dX6_set_21 : decode cX6_set 21 = .ok (.invokevirtual 50, 3) := by decide +kernel
theorem dX6_set_24 : decode cX6_set 24 = .ok (.invokevirtual 54, 3) := by decide +kernel
theorem dX6_set_27 : decode cX6_set 27 = .ok (.ireturn, 1) := by decide +kernel
theorem dX6_piece_0 : decode cX6_piece 0 = .ok (.aload_n 0, 1) := by decide +kernel
theorem dX6_piece_1 : decode cX6_piece 1 = .ok (.getfield 22, 3) := by decide +kernel
theorem dX6_piece_4 : decode cX6_piece 4 = .ok (.aload_n 0, 1) := by decide +kernel
theorem dX6_piece_5 : decode cX6_piece 5 = .ok (.getfield 10, 3) := by decide +kernel
theorem dX6_piece_8 : decode cX6_piece 8 = .ok (.invokevirtual 46, 3) := by decide +kernel
theorem dX6_piece_11 : decode cX6_piece 11 = .ok (.aload_n 0, 1) := by decide +kernel
theorem dX6_piece_12 : decode cX6_piece 12 = .ok (.getfield 22, 3) := by decide +kernel
theorem dX6_piece_15 : decode cX6_piece 15 = .ok (.aload_n 0, 1) := by decide +kernel
theorem dX6_piece_16 : decode cX6_piece 16 = .ok (.getfield 10, 3) := by decide +kernel
theorem dX6_piece_19 : decode cX6_piece 19 = .ok (.iload_n 1, 1) := by decide +kernel
theorem dX6_piece_20 : decode cX6_piece 20 = .ok (.iload_n 2, 1) := by decide +kernel
theorem dX6_piece_21 : decode cX6_piece 21 = .ok (.iload_n 3, 1) := by decide +kernel
theorem dX6_piece_22 : decode cX6_piece 22 = .ok (.iload 4, 2) := by decide +kernel
theorem dX6_piece_24 : decode cX6_piece 24 = .ok (.invokevirtual 58, 3) := by decide +kernel
theorem dX6_piece_27 : decode cX6_piece 27 = .ok (.invokevirtual 54, 3) := by decide +kernel
theorem dX6_piece_30 : decode cX6_piece 30 = .ok (.ireturn, 1) := by decide +kernel
theorem dX6_plate_0 : decode cX6_plate 0 = .ok (.aload_n 0, 1) := by decide +kernel
theorem dX6_plate_1 : decode cX6_plate 1 = .ok (.getfield 22, 3) := by decide +kernel
theorem dX6_plate_4 : decode cX6_plate 4 = .ok (.aload_n 0, 1) := by decide +kernel
theorem dX6_plate_5 : decode cX6_plate 5 = .ok (.getfield 10, 3) := by decide +kernel
theorem dX6_plate_8 : decode cX6_plate 8 = .ok (.invokevirtual 46, 3) := by decide +kernel
theorem dX6_plate_11 : decode cX6_plate 11 = .ok (.aload_n 0, 1) := by decide +kernel
theorem dX6_plate_12 : decode cX6_plate 12 = .ok (.getfield 22, 3) := by decide +kernel
theorem dX6_plate_15 : decode cX6_plate 15 = .ok (.aload_n 0, 1) := by decide +kernel
theorem dX6_plate_16 : decode cX6_plate 16 = .ok (.getfield 10, 3) := by decide +kernel
theorem dX6_plate_19 : decode cX6_plate 19 = .ok (.iload_n 1, 1) := by decide +kernel
theorem dX6_plate_20 : decode cX6_plate 20 = .ok (.invokevirtual 62, 3) := by decide +kernel
theorem dX6_plate_23 : decode cX6_plate 23 = .ok (.invokevirtual 54, 3) := by decide +kernel
theorem dX6_plate_26 : decode cX6_plate 26 = .ok (.ireturn, 1) := by decide +kernel
theorem dX6_hold_0 : decode cX6_hold 0 = .ok (.aload_n 0, 1) := by decide +kernel
theorem dX6_hold_1 : decode cX6_hold 1 = .ok (.getfield 22, 3) := by decide +kernel
theorem dX6_hold_4 : decode cX6_hold 4 = .ok (.aload_n 0, 1) := by decide +kernel
theorem dX6_hold_5 : decode cX6_hold 5 = .ok (.getfield 10, 3) := by decide +kernel
theorem dX6_hold_8 : decode cX6_hold 8 = .ok (.invokevirtual 46, 3) := by decide +kernel
theorem dX6_hold_11 : decode cX6_hold 11 = .ok (.aload_n 0, 1) := by decide +kernel
theorem dX6_hold_12 : decode cX6_hold 12 = .ok (.getfield 22, 3) := by decide +kernel
theorem dX6_hold_15 : decode cX6_hold 15 = .ok (.aload_n 0, 1) := by decide +kernel
theorem dX6_hold_16 : decode cX6_hold 16 = .ok (.getfield 10, 3) := by decide +kernel
theorem dX6_hold_19 : decode cX6_hold 19 = .ok (.iload_n 1, 1) := by decide +kernel
theorem dX6_hold_20 : decode cX6_hold 20 = .ok (.invokevirtual 65, 3) := by decide +kernel
theorem dX6_hold_23 : decode cX6_hold 23 = .ok (.invokevirtual 54, 3) := by decide +kernel
theorem dX6_hold_26 : decode cX6_hold 26 = .ok (.ireturn, 1) := by decide +kernel
theorem dX6_kill_0 : decode cX6_kill 0 = .ok (.aload_n 0, 1) := by decide +kernel
theorem dX6_kill_1 : decode cX6_kill 1 = .ok (.getfield 22, 3) := by decide +kernel
theorem dX6_kill_4 : decode cX6_kill 4 = .ok (.aload_n 0, 1) := by decide +kernel
theorem dX6_kill_5 : decode cX6_kill 5 = .ok (.getfield 10, 3) := by decide +kernel
theorem dX6_kill_8 : decode cX6_kill 8 = .ok (.invokevirtual 46, 3) := by decide +kernel
theorem dX6_kill_11 : decode cX6_kill 11 = .ok (.aload_n 0, 1) := by decide +kernel
theorem dX6_kill_12 : decode cX6_kill 12 = .ok (.getfield 22, 3) := by decide +kernel
theorem dX6_kill_15 : decode cX6_kill 15 = .ok (.aload_n 0, 1) := by decide +kernel
theorem dX6_kill_16 : decode cX6_kill 16 = .ok (.getfield 10, 3) := by decide +kernel
theorem dX6_kill_19 : decode cX6_kill 19 = .ok (.iload_n 1, 1) := by decide +kernel
theorem dX6_kill_20 : decode cX6_kill 20 = .ok (.invokevirtual 68, 3) := by decide +kernel
theorem dX6_kill_23 : decode cX6_kill 23 = .ok (.invokevirtual 54, 3) := by decide +kernel
theorem dX6_kill_26 : decode cX6_kill 26 = .ok (.ireturn, 1) := by decide +kernel
theorem dX6_pass_0 : decode cX6_pass 0 = .ok (.aload_n 0, 1) := by decide +kernel
theorem dX6_pass_1 : decode cX6_pass 1 = .ok (.getfield 22, 3) := by decide +kernel
theorem dX6_pass_4 : decode cX6_pass 4 = .ok (.aload_n 0, 1) := by decide +kernel
theorem dX6_pass_5 : decode cX6_pass 5 = .ok (.getfield 10, 3) := by decide +kernel
theorem dX6_pass_8 : decode cX6_pass 8 = .ok (.invokevirtual 46, 3) := by decide +kernel
theorem dX6_pass_11 : decode cX6_pass 11 = .ok (.aload_n 0, 1) := by decide +kernel
theorem dX6_pass_12 : decode cX6_pass 12 = .ok (.getfield 22, 3) := by decide +kernel
theorem dX6_pass_15 : decode cX6_pass 15 = .ok (.aload_n 0, 1) := by decide +kernel
theorem dX6_pass_16 : decode cX6_pass 16 = .ok (.getfield 10, 3) := by decide +kernel
theorem dX6_pass_19 : decode cX6_pass 19 = .ok (.iload_n 1, 1) := by decide +kernel
theorem dX6_pass_20 : decode cX6_pass 20 = .ok (.invokevirtual 71, 3) := by decide +kernel
theorem dX6_pass_23 : decode cX6_pass 23 = .ok (.invokevirtual 54, 3) := by decide +kernel
theorem dX6_pass_26 : decode cX6_pass 26 = .ok (.ireturn, 1) := by decide +kernel
theorem dX6_ofPiece_0 : decode cX6_ofPiece 0 = .ok (.aload_n 0, 1) := by decide +kernel
theorem dX6_ofPiece_1 : decode cX6_ofPiece 1 = .ok (.getfield 10, 3) := by decide +kernel
theorem dX6_ofPiece_4 : decode cX6_ofPiece 4 = .ok (.iload_n 1, 1) := by decide +kernel
theorem dX6_ofPiece_5 : decode cX6_ofPiece 5 = .ok (.iload_n 2, 1) := by decide +kernel
theorem dX6_ofPiece_6 : decode cX6_ofPiece 6 = .ok (.invokevirtual 74, 3) := by decide +kernel
theorem dX6_ofPiece_9 : decode cX6_ofPiece 9 = .ok (.ireturn, 1) := by decide +kernel
theorem dX6_ofPlate_0 : decode cX6_ofPlate 0 = .ok (.aload_n 0, 1) := by decide +kernel
theorem dX6_ofPlate_1 : decode cX6_ofPlate 1 = .ok (.getfield 10, 3) := by decide +kernel
theorem dX6_ofPlate_4 : decode cX6_ofPlate 4 = .ok (.iload_n 1, 1) := by decide +kernel
theorem dX6_ofPlate_5 : decode cX6_ofPlate 5 = .ok (.iload_n 2, 1) := by decide +kernel
theorem dX6_ofPlate_6 : decode cX6_ofPlate 6 = .ok (.invokevirtual 77, 3) := by decide +kernel
theorem dX6_ofPlate_9 : decode cX6_ofPlate 9 = .ok (.ireturn, 1) := by decide +kernel
theorem dX6_count_0 : decode cX6_count 0 = .ok (.iload_n 1, 1) := by decide +kernel
theorem dX6_count_1 : decode cX6_count 1 = .ok (.bipush 14, 2) := by decide +kernel
theorem dX6_count_3 : decode cX6_count 3 = .ok (.if_icmp .ne 11, 3) := by decide +kernel
theorem dX6_count_6 : decode cX6_count 6 = .ok (.aload_n 0, 1) := by decide +kernel
theorem dX6_count_7 : decode cX6_count 7 = .ok (.getfield 33, 3) := by decide +kernel
theorem dX6_count_10 : decode cX6_count 10 = .ok (.getfield 80, 3) := by decide +kernel
theorem dX6_count_13 : decode cX6_count 13 = .ok (.ireturn, 1) := by decide +kernel
theorem dX6_count_14 : decode cX6_count 14 = .ok (.iload_n 1, 1) := by decide +kernel
theorem dX6_count_15 : decode cX6_count 15 = .ok (.bipush 15, 2) := by decide +kernel
theorem dX6_count_17 : decode cX6_count 17 = .ok (.if_icmp .ne 11, 3) := by decide +kernel
theorem dX6_count_20 : decode cX6_count 20 = .ok (.aload_n 0, 1) := by decide +kernel
theorem dX6_count_21 : decode cX6_count 21 = .ok (.getfield 22, 3) := by decide +kernel
theorem dX6_count_24 : decode cX6_count 24 = .ok (.getfield 84, 3) := by decide +kernel
theorem dX6_count_27 : decode cX6_count 27 = .ok (.ireturn, 1) := by decide +kernel
theorem dX6_count_28 : decode cX6_count 28 = .ok (.aload_n 0, 1) := by decide +kernel
theorem dX6_count_29 : decode cX6_count 29 = .ok (.getfield 10, 3) := by decide +kernel
theorem dX6_count_32 : decode cX6_count 32 = .ok (.iload_n 1, 1) := by decide +kernel
theorem dX6_count_33 : decode cX6_count 33 = .ok (.invokevirtual 87, 3) := by decide +kernel
theorem dX6_count_36 : decode cX6_count 36 = .ok (.ireturn, 1) := by decide +kernel
theorem dX6_why_0 : decode cX6_why 0 = .ok (.aload_n 0, 1) := by decide +kernel
theorem dX6_why_1 : decode cX6_why 1 = .ok (.getfield 10, 3) := by decide +kernel
theorem dX6_why_4 : decode cX6_why 4 = .ok (.iload_n 1, 1) := by decide +kernel
theorem dX6_why_5 : decode cX6_why 5 = .ok (.iload_n 2, 1) := by decide +kernel
theorem dX6_why_6 : decode cX6_why 6 = .ok (.invokevirtual 90, 3) := by decide +kernel
theorem dX6_why_9 : decode cX6_why 9 = .ok (.ireturn, 1) := by decide +kernel
theorem dX6_plateNow_0 : decode cX6_plateNow 0 = .ok (.aload_n 0, 1) := by decide +kernel
theorem dX6_plateNow_1 : decode cX6_plateNow 1 = .ok (.getfield 10, 3) := by decide +kernel
theorem dX6_plateNow_4 : decode cX6_plateNow 4 = .ok (.invokevirtual 93, 3) := by decide +kernel
theorem dX6_plateNow_7 : decode cX6_plateNow 7 = .ok (.ireturn, 1) := by decide +kernel
theorem dX6_readyIn_0 : decode cX6_readyIn 0 = .ok (.aload_n 0, 1) := by decide +kernel
theorem dX6_readyIn_1 : decode cX6_readyIn 1 = .ok (.getfield 10, 3) := by decide +kernel
theorem dX6_readyIn_4 : decode cX6_readyIn 4 = .ok (.iload_n 1, 1) := by decide +kernel
theorem dX6_readyIn_5 : decode cX6_readyIn 5 = .ok (.invokevirtual 97, 3) := by decide +kernel
theorem dX6_readyIn_8 : decode cX6_readyIn 8 = .ok (.ifCond .ne 5, 3) := by decide +kernel
theorem dX6_readyIn_11 : decode cX6_readyIn 11 = .ok (.iconst (-1), 1) := by decide +kernel
theorem dX6_readyIn_12 : decode cX6_readyIn 12 = .ok (.ireturn, 1) := by decide +kernel
theorem dX6_readyIn_13 : decode cX6_readyIn 13 = .ok (.aload_n 0, 1) := by decide +kernel
theorem dX6_readyIn_14 : decode cX6_readyIn 14 = .ok (.getfield 10, 3) := by decide +kernel
theorem dX6_readyIn_17 : decode cX6_readyIn 17 = .ok (.iload_n 1, 1) := by decide +kernel
theorem dX6_readyIn_18 : decode cX6_readyIn 18 = .ok (.iconst 3, 1) := by decide +kernel
theorem dX6_readyIn_19 : decode cX6_readyIn 19 = .ok (.invokevirtual 101, 3) := by decide +kernel
theorem dX6_readyIn_22 : decode cX6_readyIn 22 = .ok (.ifCond .eq 6, 3) := by decide +kernel
theorem dX6_readyIn_25 : decode cX6_readyIn 25 = .ok (.bipush (-5), 2) := by decide +kernel
theorem dX6_readyIn_27 : decode cX6_readyIn 27 = .ok (.ireturn, 1) := by decide +kernel
theorem dX6_readyIn_28 : decode cX6_readyIn 28 = .ok (.aload_n 0, 1) := by decide +kernel
theorem dX6_readyIn_29 : decode cX6_readyIn 29 = .ok (.getfield 16, 3) := by decide +kernel
theorem dX6_readyIn_32 : decode cX6_readyIn 32 = .ok (.aload_n 0, 1) := by decide +kernel
theorem dX6_readyIn_33 : decode cX6_readyIn 33 = .ok (.getfield 10, 3) := by decide +kernel
theorem dX6_readyIn_36 : decode cX6_readyIn 36 = .ok (.invokevirtual 105, 3) := by decide +kernel
theorem dX6_readyIn_39 : decode cX6_readyIn 39 = .ok (.iconst 0, 1) := by decide +kernel
theorem dX6_readyIn_40 : decode cX6_readyIn 40 = .ok (.istore_n 2, 1) := by decide +kernel
theorem dX6_readyIn_41 : decode cX6_readyIn 41 = .ok (.iload_n 2, 1) := by decide +kernel
theorem dX6_readyIn_42 : decode cX6_readyIn 42 = .ok (.sipush 2000, 3) := by decide +kernel
theorem dX6_readyIn_45 : decode cX6_readyIn 45 = .ok (.if_icmp .gt 31, 3) := by decide +kernel
theorem dX6_readyIn_48 : decode cX6_readyIn 48 = .ok (.aload_n 0, 1) := by decide +kernel
theorem dX6_readyIn_49 : decode cX6_readyIn 49 = .ok (.getfield 16, 3) := by decide +kernel
theorem dX6_readyIn_52 : decode cX6_readyIn 52 = .ok (.iload_n 1, 1) := by decide +kernel
theorem dX6_readyIn_53 : decode cX6_readyIn 53 = .ok (.iconst 2, 1) := by decide +kernel
theorem dX6_readyIn_54 : decode cX6_readyIn 54 = .ok (.invokevirtual 101, 3) := by decide +kernel
theorem dX6_readyIn_57 : decode cX6_readyIn 57 = .ok (.ifCond .eq 5, 3) := by decide +kernel
theorem dX6_readyIn_60 : decode cX6_readyIn 60 = .ok (.iload_n 2, 1) := by decide +kernel
theorem dX6_readyIn_61 : decode cX6_readyIn 61 = .ok (.ireturn, 1) := by decide +kernel
theorem dX6_readyIn_62 : decode cX6_readyIn 62 = .ok (.aload_n 0, 1) := by decide +kernel
theorem dX6_readyIn_63 : decode cX6_readyIn 63 = .ok (.getfield 16, 3) := by decide +kernel
theorem dX6_readyIn_66 : decode cX6_readyIn 66 = .ok (.invokevirtual 108, 3) := by decide +kernel
theorem dX6_readyIn_69 : decode cX6_readyIn 69 = .ok (.pop, 1) := by decide +kernel
theorem dX6_readyIn_70 : decode cX6_readyIn 70 = .ok (.iinc 2 1, 3) := by decide +kernel
theorem dX6_readyIn_73 : decode cX6_readyIn 73 = .ok (.goto (-32), 3) := by decide +kernel
theorem dX6_readyIn_76 : decode cX6_readyIn 76 = .ok (.bipush (-6), 2) := by decide +kernel
theorem dX6_readyIn_78 : decode cX6_readyIn 78 = .ok (.ireturn, 1) := by decide +kernel
theorem dX6_leastRoom_0 : decode cX6_leastRoom 0 = .ok (.aload_n 0, 1) := by decide +kernel
theorem dX6_leastRoom_1 : decode cX6_leastRoom 1 = .ok (.getfield 10, 3) := by decide +kernel
theorem dX6_leastRoom_4 : decode cX6_leastRoom 4 = .ok (.invokevirtual 112, 3) := by decide +kernel
theorem dX6_leastRoom_7 : decode cX6_leastRoom 7 = .ok (.istore_n 1, 1) := by decide +kernel
theorem dX6_leastRoom_8 : decode cX6_leastRoom 8 = .ok (.iload_n 1, 1) := by decide +kernel
theorem dX6_leastRoom_9 : decode cX6_leastRoom 9 = .ok (.ifCond .ge 6, 3) := by decide +kernel
theorem dX6_leastRoom_12 : decode cX6_leastRoom 12 = .ok (.bipush (-5), 2) := by decide +kernel
theorem dX6_leastRoom_14 : decode cX6_leastRoom 14 = .ok (.ireturn, 1) := by decide +kernel
theorem dX6_leastRoom_15 : decode cX6_leastRoom 15 = .ok (.aload_n 0, 1) := by decide +kernel
theorem dX6_leastRoom_16 : decode cX6_leastRoom 16 = .ok (.iload_n 1, 1) := by decide +kernel
theorem dX6_leastRoom_17 : decode cX6_leastRoom 17 = .ok (.invokevirtual 115, 3) := by decide +kernel
theorem dX6_leastRoom_20 : decode cX6_leastRoom 20 = .ok (.aload_n 0, 1) := by decide +kernel
theorem dX6_leastRoom_21 : decode cX6_leastRoom 21 = .ok (.getfield 16, 3) := by decide +kernel
theorem dX6_leastRoom_24 : decode cX6_leastRoom 24 = .ok (.aload_n 0, 1) := by decide +kernel
theorem dX6_leastRoom_25 : decode cX6_leastRoom 25 = .ok (.getfield 16, 3) := by decide +kernel
theorem dX6_leastRoom_28 : decode cX6_leastRoom 28 = .ok (.invokevirtual 119, 3) := by decide +kernel
theorem dX6_leastRoom_31 : decode cX6_leastRoom 31 = .ok (.invokevirtual 122, 3) := by decide +kernel
theorem dX6_leastRoom_34 : decode cX6_leastRoom 34 = .ok (.istore_n 2, 1) := by decide +kernel
theorem dX6_leastRoom_35 : decode cX6_leastRoom 35 = .ok (.iload_n 2, 1) := by decide +kernel
theorem dX6_leastRoom_36 : decode cX6_leastRoom 36 = .ok (.getstatic 125, 3) := by decide +kernel
theorem dX6_leastRoom_39 : decode cX6_leastRoom 39 = .ok (.iconst 2, 1) := by decide +kernel
theorem dX6_leastRoom_40 : decode cX6_leastRoom 40 = .ok (.iaload, 1) := by decide +kernel
theorem dX6_leastRoom_41 : decode cX6_leastRoom 41 = .ok (.if_icmp .le 6, 3) := by decide +kernel
theorem dX6_leastRoom_44 : decode cX6_leastRoom 44 = .ok (.bipush (-6), 2) := by decide +kernel
theorem dX6_leastRoom_46 : decode cX6_leastRoom 46 = .ok (.ireturn, 1) := by decide +kernel
theorem dX6_leastRoom_47 : decode cX6_leastRoom 47 = .ok (.iload_n 2, 1) := by decide +kernel
theorem dX6_leastRoom_48 : decode cX6_leastRoom 48 = .ok (.getstatic 129, 3) := by decide +kernel
theorem dX6_leastRoom_51 : decode cX6_leastRoom 51 = .ok (.iconst 2, 1) := by decide +kernel
theorem dX6_leastRoom_52 : decode cX6_leastRoom 52 = .ok (.iaload, 1) := by decide +kernel
theorem dX6_leastRoom_53 : decode cX6_leastRoom 53 = .ok (.invokestatic 132, 3) := by decide +kernel
theorem dX6_leastRoom_56 : decode cX6_leastRoom 56 = .ok (.ireturn, 1) := by decide +kernel
theorem dX6_nextPlate_0 : decode cX6_nextPlate 0 = .ok (.aload_n 0, 1) := by decide +kernel
theorem dX6_nextPlate_1 : decode cX6_nextPlate 1 = .ok (.getfield 10, 3) := by decide +kernel
theorem dX6_nextPlate_4 : decode cX6_nextPlate 4 = .ok (.invokevirtual 112, 3) := by decide +kernel
theorem dX6_nextPlate_7 : decode cX6_nextPlate 7 = .ok (.istore_n 1, 1) := by decide +kernel
theorem dX6_nextPlate_8 : decode cX6_nextPlate 8 = .ok (.iload_n 1, 1) := by decide +kernel
theorem dX6_nextPlate_9 : decode cX6_nextPlate 9 = .ok (.ifCond .ge 6, 3) := by decide +kernel
theorem dX6_nextPlate_12 : decode cX6_nextPlate 12 = .ok (.bipush (-5), 2) := by decide +kernel
theorem dX6_nextPlate_14 : decode cX6_nextPlate 14 = .ok (.ireturn, 1) := by decide +kernel
theorem dX6_nextPlate_15 : decode cX6_nextPlate 15 = .ok (.aload_n 0, 1) := by decide +kernel
theorem dX6_nextPlate_16 : decode cX6_nextPlate 16 = .ok (.iload_n 1, 1) := by decide +kernel
theorem dX6_nextPlate_17 : decode cX6_nextPlate 17 = .ok (.invokevirtual 115, 3) := by decide +kernel
theorem dX6_nextPlate_20 : decode cX6_nextPlate 20 = .ok (.aload_n 0, 1) := by decide +kernel
theorem dX6_nextPlate_21 : decode cX6_nextPlate 21 = .ok (.getfield 16, 3) := by decide +kernel
theorem dX6_nextPlate_24 : decode cX6_nextPlate 24 = .ok (.iload_n 1, 1) := by decide +kernel
theorem dX6_nextPlate_25 : decode cX6_nextPlate 25 = .ok (.iconst 3, 1) := by decide +kernel
theorem dX6_nextPlate_26 : decode cX6_nextPlate 26 = .ok (.invokevirtual 77, 3) := by decide +kernel
theorem dX6_nextPlate_29 : decode cX6_nextPlate 29 = .ok (.ireturn, 1) := by decide +kernel
theorem dX6_goAheadToPlate_0 : decode cX6_goAheadToPlate 0 = .ok (.aload_n 0, 1) := by decide +kernel
theorem dX6_goAheadToPlate_1 : decode cX6_goAheadToPlate 1 = .ok (.getfield 16, 3) := by decide +kernel
theorem dX6_goAheadToPlate_4 : decode cX6_goAheadToPlate 4 = .ok (.aload_n 0, 1) := by decide +kernel
theorem dX6_goAheadToPlate_5 : decode cX6_goAheadToPlate 5 = .ok (.getfield 10, 3) := by decide +kernel
theorem dX6_goAheadToPlate_8 : decode cX6_goAheadToPlate 8 = .ok (.invokevirtual 105, 3) := by decide +kernel
theorem dX6_goAheadToPlate_11 : decode cX6_goAheadToPlate 11 = .ok (.aload_n 0, 1) := by decide +kernel
theorem dX6_goAheadToPlate_12 : decode cX6_goAheadToPlate 12 = .ok (.getfield 16, 3) := by decide +kernel
theorem dX6_goAheadToPlate_15 : decode cX6_goAheadToPlate 15 = .ok (.aload_n 0, 1) := by decide +kernel
theorem dX6_goAheadToPlate_16 : decode cX6_goAheadToPlate 16 = .ok (.getfield 10, 3) := by decide +kernel
theorem dX6_goAheadToPlate_19 : decode cX6_goAheadToPlate 19 = .ok (.iload_n 1, 1) := by decide +kernel
theorem dX6_goAheadToPlate_20 : decode cX6_goAheadToPlate 20 = .ok (.invokevirtual 137, 3) := by decide +kernel
theorem dX6_goAheadToPlate_23 : decode cX6_goAheadToPlate 23 = .ok (.invokevirtual 71, 3) := by decide +kernel
theorem dX6_goAheadToPlate_26 : decode cX6_goAheadToPlate 26 = .ok (.pop, 1) := by decide +kernel
theorem dX6_goAheadToPlate_27 : decode cX6_goAheadToPlate 27 = .ok (.return_, 1) := by decide +kernel
theorem dX6_put_0 : decode cX6_put 0 = .ok (.aload_n 0, 1) := by decide +kernel
theorem dX6_put_1 : decode cX6_put 1 = .ok (.getfield 33, 3) := by decide +kernel
theorem dX6_put_4 : decode cX6_put 4 = .ok (.lload_n 1, 1) := by decide +kernel
theorem dX6_put_5 : decode cX6_put 5 = .ok (.invokevirtual 140, 3) := by decide +kernel
theorem dX6_put_8 : decode cX6_put 8 = .ok (.ireturn, 1) := by decide +kernel
theorem dX6_wipe_0 : decode cX6_wipe 0 = .ok (.aload_n 0, 1) := by decide +kernel
theorem dX6_wipe_1 : decode cX6_wipe 1 = .ok (.getfield 33, 3) := by decide +kernel
theorem dX6_wipe_4 : decode cX6_wipe 4 = .ok (.invokevirtual 144, 3) := by decide +kernel
theorem dX6_wipe_7 : decode cX6_wipe 7 = .ok (.ireturn, 1) := by decide +kernel
theorem dX6_fault_0 : decode cX6_fault 0 = .ok (.aload_n 0, 1) := by decide +kernel
theorem dX6_fault_1 : decode cX6_fault 1 = .ok (.getfield 42, 3) := by decide +kernel
theorem dX6_fault_4 : decode cX6_fault 4 = .ok (.invokevirtual 147, 3) := by decide +kernel
theorem dX6_fault_7 : decode cX6_fault 7 = .ok (.ireturn, 1) := by decide +kernel
theorem dX6_carryOut_0 : decode cX6_carryOut 0 = .ok (.aload_n 0, 1) := by decide +kernel
theorem dX6_carryOut_1 : decode cX6_carryOut 1 = .ok (.getfield 42, 3) := by decide +kernel
theorem dX6_carryOut_4 : decode cX6_carryOut 4 = .ok (.invokevirtual 147, 3) := by decide +kernel
theorem dX6_carryOut_7 : decode cX6_carryOut 7 = .ok (.bipush (-6), 2) := by decide +kernel
theorem dX6_carryOut_9 : decode cX6_carryOut 9 = .ok (.if_icmp .eq 6, 3) := by decide +kernel
theorem dX6_carryOut_12 : decode cX6_carryOut 12 = .ok (.bipush (-3), 2) := by decide +kernel
theorem dX6_carryOut_14 : decode cX6_carryOut 14 = .ok (.ireturn, 1) := by decide +kernel
theorem dX6_carryOut_15 : decode cX6_carryOut 15 = .ok (.aload_n 0, 1) := by decide +kernel
theorem dX6_carryOut_16 : decode cX6_carryOut 16 = .ok (.getfield 22, 3) := by decide +kernel
theorem dX6_carryOut_19 : decode cX6_carryOut 19 = .ok (.aload_n 0, 1) := by decide +kernel
theorem dX6_carryOut_20 : decode cX6_carryOut 20 = .ok (.getfield 10, 3) := by decide +kernel
theorem dX6_carryOut_23 : decode cX6_carryOut 23 = .ok (.invokevirtual 46, 3) := by decide +kernel
theorem dX6_carryOut_26 : decode cX6_carryOut 26 = .ok (.aload_n 0, 1) := by decide +kernel
theorem dX6_carryOut_27 : decode cX6_carryOut 27 = .ok (.getfield 42, 3) := by decide +kernel
theorem dX6_carryOut_30 : decode cX6_carryOut 30 = .ok (.invokevirtual 150, 3) := by decide +kernel
theorem dX6_carryOut_33 : decode cX6_carryOut 33 = .ok (.iconst 0, 1) := by decide +kernel
theorem dX6_carryOut_34 : decode cX6_carryOut 34 = .ok (.istore_n 1, 1) := by decide +kernel
theorem dX6_carryOut_35 : decode cX6_carryOut 35 = .ok (.iconst 0, 1) := by decide +kernel
theorem dX6_carryOut_36 : decode cX6_carryOut 36 = .ok (.istore_n 2, 1) := by decide +kernel
theorem dX6_carryOut_37 : decode cX6_carryOut 37 = .ok (.iload_n 2, 1) := by decide +kernel
theorem dX6_carryOut_38 : decode cX6_carryOut 38 = .ok (.bipush 80, 2) := by decide +kernel
theorem dX6_carryOut_40 : decode cX6_carryOut 40 = .ok (.if_icmp .ge 47, 3) := by decide +kernel
theorem dX6_carryOut_43 : decode cX6_carryOut 43 = .ok (.aload_n 0, 1) := by decide +kernel
theorem dX6_carryOut_44 : decode cX6_carryOut 44 = .ok (.getfield 42, 3) := by decide +kernel
theorem dX6_carryOut_47 : decode cX6_carryOut 47 = .ok (.invokevirtual 153, 3) := by decide +kernel
theorem dX6_carryOut_50 : decode cX6_carryOut 50 = .ok (.ifCond .eq 37, 3) := by decide +kernel
theorem dX6_carryOut_53 : decode cX6_carryOut 53 = .ok (.aload_n 0, 1) := by decide +kernel
theorem dX6_carryOut_54 : decode cX6_carryOut 54 = .ok (.invokevirtual 156, 3) := by decide +kernel
theorem dX6_carryOut_57 : decode cX6_carryOut 57 = .ok (.ifCond .ge 6, 3) := by decide +kernel
theorem dX6_carryOut_60 : decode cX6_carryOut 60 = .ok (.goto 27, 3) := by decide +kernel
theorem dX6_carryOut_63 : decode cX6_carryOut 63 = .ok (.iinc 1 1, 3) := by decide +kernel
theorem dX6_carryOut_66 : decode cX6_carryOut 66 = .ok (.aload_n 0, 1) := by decide +kernel
theorem dX6_carryOut_67 : decode cX6_carryOut 67 = .ok (.getfield 42, 3) := by decide +kernel
theorem dX6_carryOut_70 : decode cX6_carryOut 70 = .ok (.bipush 59, 2) := by decide +kernel
theorem dX6_carryOut_72 : decode cX6_carryOut 72 = .ok (.invokevirtual 159, 3) := by decide +kernel
theorem dX6_carryOut_75 : decode cX6_carryOut 75 = .ok (.ifCond .ne 6, 3) := by decide +kernel
theorem dX6_carryOut_78 : decode cX6_carryOut 78 = .ok (.goto 9, 3) := by decide +kernel
theorem dX6_carryOut_81 : decode cX6_carryOut 81 = .ok (.iinc 2 1, 3) := by decide +kernel
theorem dX6_carryOut_84 : decode cX6_carryOut 84 = .ok (.goto (-47), 3) := by decide +kernel
theorem dX6_carryOut_87 : decode cX6_carryOut 87 = .ok (.aload_n 0, 1) := by decide +kernel
theorem dX6_carryOut_88 : decode cX6_carryOut 88 = .ok (.getfield 33, 3) := by decide +kernel
theorem dX6_carryOut_91 : decode cX6_carryOut 91 = .ok (.invokevirtual 144, 3) := by decide +kernel
theorem dX6_carryOut_94 : decode cX6_carryOut 94 = .ok (.pop, 1) := by decide +kernel
theorem dX6_carryOut_95 : decode cX6_carryOut 95 = .ok (.aload_n 0, 1) := by decide +kernel
theorem dX6_carryOut_96 : decode cX6_carryOut 96 = .ok (.getfield 22, 3) := by decide +kernel
theorem dX6_carryOut_99 : decode cX6_carryOut 99 = .ok (.iload_n 1, 1) := by decide +kernel
theorem dX6_carryOut_100 : decode cX6_carryOut 100 = .ok (.invokevirtual 54, 3) := by decide +kernel
theorem dX6_carryOut_103 : decode cX6_carryOut 103 = .ok (.ireturn, 1) := by decide +kernel
theorem dX6_carryOrderOut_0 : decode cX6_carryOrderOut 0 = .ok (.aload_n 0, 1) := by decide +kernel
theorem dX6_carryOrderOut_1 : decode cX6_carryOrderOut 1 = .ok (.getfield 42, 3) := by decide +kernel
theorem dX6_carryOrderOut_4 : decode cX6_carryOrderOut 4 = .ok (.getfield 163, 3) := by decide +kernel
theorem dX6_carryOrderOut_7 : decode cX6_carryOrderOut 7 = .ok (.bipush 43, 2) := by decide +kernel
theorem dX6_carryOrderOut_9 : decode cX6_carryOrderOut 9 = .ok (.if_icmp .ne 39, 3) := by decide +kernel
theorem dX6_carryOrderOut_12 : decode cX6_carryOrderOut 12 = .ok (.aload_n 0, 1) := by decide +kernel
theorem dX6_carryOrderOut_13 : decode cX6_carryOrderOut 13 = .ok (.getfield 10, 3) := by decide +kernel
theorem dX6_carryOrderOut_16 : decode cX6_carryOrderOut 16 = .ok (.aload_n 0, 1) := by decide +kernel
theorem dX6_carryOrderOut_17 : decode cX6_carryOrderOut 17 = .ok (.getfield 42, 3) := by decide +kernel
theorem dX6_carryOrderOut_20 : decode cX6_carryOrderOut 20 = .ok (.getfield 167, 3) := by decide +kernel
theorem dX6_carryOrderOut_23 : decode cX6_carryOrderOut 23 = .ok (.aload_n 0, 1) := by decide +kernel
theorem dX6_carryOrderOut_24 : decode cX6_carryOrderOut 24 = .ok (.getfield 42, 3) := by decide +kernel
theorem dX6_carryOrderOut_27 : decode cX6_carryOrderOut 27 = .ok (.getfield 170, 3) := by decide +kernel
theorem dX6_carryOrderOut_30 : decode cX6_carryOrderOut 30 = .ok (.aload_n 0, 1) := by decide +kernel
theorem dX6_carryOrderOut_31 : decode cX6_carryOrderOut 31 = .ok (.getfield 42, 3) := by decide +kernel
theorem dX6_carryOrderOut_34 : decode cX6_carryOrderOut 34 = .ok (.getfield 173, 3) := by decide +kernel
theorem dX6_carryOrderOut_37 : decode cX6_carryOrderOut 37 = .ok (.aload_n 0, 1) := by decide +kernel
theorem dX6_carryOrderOut_38 : decode cX6_carryOrderOut 38 = .ok (.getfield 42, 3) := by decide +kernel
theorem dX6_carryOrderOut_41 : decode cX6_carryOrderOut 41 = .ok (.getfield 176, 3) := by decide +kernel
theorem dX6_carryOrderOut_44 : decode cX6_carryOrderOut 44 = .ok (.invokevirtual 58, 3) := by decide +kernel
theorem dX6_carryOrderOut_47 : decode cX6_carryOrderOut 47 = .ok (.ireturn, 1) := by decide +kernel
theorem dX6_carryOrderOut_48 : decode cX6_carryOrderOut 48 = .ok (.aload_n 0, 1) := by decide +kernel
theorem dX6_carryOrderOut_49 : decode cX6_carryOrderOut 49 = .ok (.getfield 42, 3) := by decide +kernel
theorem dX6_carryOrderOut_52 : decode cX6_carryOrderOut 52 = .ok (.getfield 163, 3) := by decide +kernel
theorem dX6_carryOrderOut_55 : decode cX6_carryOrderOut 55 = .ok (.bipush 112, 2) := by decide +kernel
theorem dX6_carryOrderOut_57 : decode cX6_carryOrderOut 57 = .ok (.if_icmp .ne 18, 3) := by decide +kernel
theorem dX6_carryOrderOut_60 : decode cX6_carryOrderOut 60 = .ok (.aload_n 0, 1) := by decide +kernel
theorem dX6_carryOrderOut_61 : decode cX6_carryOrderOut 61 = .ok (.getfield 10, 3) := by decide +kernel
theorem dX6_carryOrderOut_64 : decode cX6_carryOrderOut 64 = .ok (.aload_n 0, 1) := by decide +kernel
theorem dX6_carryOrderOut_65 : decode cX6_carryOrderOut 65 = .ok (.getfield 42, 3) := by decide +kernel
theorem dX6_carryOrderOut_68 : decode cX6_carryOrderOut 68 = .ok (.getfield 170, 3) := by decide +kernel
theorem dX6_carryOrderOut_71 : decode cX6_carryOrderOut 71 = .ok (.invokevirtual 62, 3) := by decide +kernel
theorem dX6_carryOrderOut_74 : decode cX6_carryOrderOut 74 = .ok (.ireturn, 1) := by decide +kernel
theorem dX6_carryOrderOut_75 : decode cX6_carryOrderOut 75 = .ok (.aload_n 0, 1) := by decide +kernel
theorem dX6_carryOrderOut_76 : decode cX6_carryOrderOut 76 = .ok (.getfield 42, 3) := by decide +kernel
theorem dX6_carryOrderOut_79 : decode cX6_carryOrderOut 79 = .ok (.getfield 163, 3) := by decide +kernel
theorem dX6_carryOrderOut_82 : decode cX6_carryOrderOut 82 = .ok (.bipush 104, 2) := by decide +kernel
theorem dX6_carryOrderOut_84 : decode cX6_carryOrderOut 84 = .ok (.if_icmp .ne 18, 3) := by decide +kernel
theorem dX6_carryOrderOut_87 : decode cX6_carryOrderOut 87 = .ok (.aload_n 0, 1) := by decide +kernel
theorem dX6_carryOrderOut_88 : decode cX6_carryOrderOut 88 = .ok (.getfield 10, 3) := by decide +kernel
theorem dX6_carryOrderOut_91 : decode cX6_carryOrderOut 91 = .ok (.aload_n 0, 1) := by decide +kernel
theorem dX6_carryOrderOut_92 : decode cX6_carryOrderOut 92 = .ok (.getfield 42, 3) := by decide +kernel
theorem dX6_carryOrderOut_95 : decode cX6_carryOrderOut 95 = .ok (.getfield 170, 3) := by decide +kernel
theorem dX6_carryOrderOut_98 : decode cX6_carryOrderOut 98 = .ok (.invokevirtual 65, 3) := by decide +kernel
theorem dX6_carryOrderOut_101 : decode cX6_carryOrderOut 101 = .ok (.ireturn, 1) := by decide +kernel
theorem dX6_carryOrderOut_102 : decode cX6_carryOrderOut 102 = .ok (.aload_n 0, 1) := by decide +kernel
theorem dX6_carryOrderOut_103 : decode cX6_carryOrderOut 103 = .ok (.getfield 42, 3) := by decide +kernel
theorem dX6_carryOrderOut_106 : decode cX6_carryOrderOut 106 = .ok (.getfield 163, 3) := by decide +kernel
theorem dX6_carryOrderOut_109 : decode cX6_carryOrderOut 109 = .ok (.bipush 107, 2) := by decide +kernel
theorem dX6_carryOrderOut_111 : decode cX6_carryOrderOut 111 = .ok (.if_icmp .ne 18, 3) := by decide +kernel
theorem dX6_carryOrderOut_114 : decode cX6_carryOrderOut 114 = .ok (.aload_n 0, 1) := by decide +kernel
theorem dX6_carryOrderOut_115 : decode cX6_carryOrderOut 115 = .ok (.getfield 10, 3) := by decide +kernel
theorem dX6_carryOrderOut_118 : decode cX6_carryOrderOut 118 = .ok (.aload_n 0, 1) := by decide +kernel
theorem dX6_carryOrderOut_119 : decode cX6_carryOrderOut 119 = .ok (.getfield 42, 3) := by decide +kernel
theorem dX6_carryOrderOut_122 : decode cX6_carryOrderOut 122 = .ok (.getfield 170, 3) := by decide +kernel
theorem dX6_carryOrderOut_125 : decode cX6_carryOrderOut 125 = .ok (.invokevirtual 68, 3) := by decide +kernel
theorem dX6_carryOrderOut_128 : decode cX6_carryOrderOut 128 = .ok (.ireturn, 1) := by decide +kernel
theorem dX6_carryOrderOut_129 : decode cX6_carryOrderOut 129 = .ok (.aload_n 0, 1) := by decide +kernel
theorem dX6_carryOrderOut_130 : decode cX6_carryOrderOut 130 = .ok (.getfield 10, 3) := by decide +kernel
theorem dX6_carryOrderOut_133 : decode cX6_carryOrderOut 133 = .ok (.aload_n 0, 1) := by decide +kernel
theorem dX6_carryOrderOut_134 : decode cX6_carryOrderOut 134 = .ok (.getfield 42, 3) := by decide +kernel
theorem dX6_carryOrderOut_137 : decode cX6_carryOrderOut 137 = .ok (.getfield 170, 3) := by decide +kernel
theorem dX6_carryOrderOut_140 : decode cX6_carryOrderOut 140 = .ok (.invokevirtual 71, 3) := by decide +kernel
theorem dX6_carryOrderOut_143 : decode cX6_carryOrderOut 143 = .ok (.ireturn, 1) := by decide +kernel
theorem dX6_undo_0 : decode cX6_undo 0 = .ok (.aload_n 0, 1) := by decide +kernel
theorem dX6_undo_1 : decode cX6_undo 1 = .ok (.getfield 22, 3) := by decide +kernel
theorem dX6_undo_4 : decode cX6_undo 4 = .ok (.getfield 84, 3) := by decide +kernel
theorem dX6_undo_7 : decode cX6_undo 7 = .ok (.ifCond .ne 6, 3) := by decide +kernel
theorem dX6_undo_10 : decode cX6_undo 10 = .ok (.bipush (-5), 2) := by decide +kernel
theorem dX6_undo_12 : decode cX6_undo 12 = .ok (.ireturn, 1) := by decide +kernel
theorem dX6_undo_13 : decode cX6_undo 13 = .ok (.aload_n 0, 1) := by decide +kernel
theorem dX6_undo_14 : decode cX6_undo 14 = .ok (.getfield 22, 3) := by decide +kernel
theorem dX6_undo_17 : decode cX6_undo 17 = .ok (.aload_n 0, 1) := by decide +kernel
theorem dX6_undo_18 : decode cX6_undo 18 = .ok (.getfield 10, 3) := by decide +kernel
theorem dX6_undo_21 : decode cX6_undo 21 = .ok (.invokevirtual 179, 3) := by decide +kernel
theorem dX6_undo_24 : decode cX6_undo 24 = .ok (.aload_n 0, 1) := by decide +kernel
theorem dX6_undo_25 : decode cX6_undo 25 = .ok (.getfield 22, 3) := by decide +kernel
theorem dX6_undo_28 : decode cX6_undo 28 = .ok (.getfield 84, 3) := by decide +kernel
theorem dX6_undo_31 : decode cX6_undo 31 = .ok (.ireturn, 1) := by decide +kernel
theorem dX6_save_0 : decode cX6_save 0 = .ok (.iload_n 1, 1) := by decide +kernel
theorem dX6_save_1 : decode cX6_save 1 = .ok (.ifCond .lt 8, 3) := by decide +kernel
theorem dX6_save_4 : decode cX6_save 4 = .ok (.iload_n 1, 1) := by decide +kernel
theorem dX6_save_5 : decode cX6_save 5 = .ok (.iconst 2, 1) := by decide +kernel
theorem dX6_save_6 : decode cX6_save 6 = .ok (.if_icmp .lt 6, 3) := by decide +kernel
theorem dX6_save_9 : decode cX6_save 9 = .ok (.bipush (-2), 2) := by decide +kernel
theorem dX6_save_11 : decode cX6_save 11 = .ok (.ireturn, 1) := by decide +kernel
theorem dX6_save_12 : decode cX6_save 12 = .ok (.aload_n 0, 1) := by decide +kernel
theorem dX6_save_13 : decode cX6_save 13 = .ok (.getfield 26, 3) := by decide +kernel
theorem dX6_save_16 : decode cX6_save 16 = .ok (.iload_n 1, 1) := by decide +kernel
theorem dX6_save_17 : decode cX6_save 17 = .ok (.aaload, 1) := by decide +kernel
theorem dX6_save_18 : decode cX6_save 18 = .ok (.astore_n 2, 1) := by decide +kernel
theorem dX6_save_19 : decode cX6_save 19 = .ok (.aload_n 2, 1) := by decide +kernel
theorem dX6_save_20 : decode cX6_save 20 = .ok (.ifnonnull 18, 3) := by decide +kernel
theorem dX6_save_23 : decode cX6_save 23 = .ok (.new 7, 3) := by decide +kernel
theorem dX6_save_26 : decode cX6_save 26 = .ok (.dup, 1) := by decide +kernel
theorem dX6_save_27 : decode cX6_save 27 = .ok (.invokespecial 9, 3) := by decide +kernel
theorem dX6_save_30 : decode cX6_save 30 = .ok (.astore_n 2, 1) := by decide +kernel
theorem dX6_save_31 : decode cX6_save 31 = .ok (.aload_n 0, 1) := by decide +kernel
theorem dX6_save_32 : decode cX6_save 32 = .ok (.getfield 26, 3) := by decide +kernel
theorem dX6_save_35 : decode cX6_save 35 = .ok (.iload_n 1, 1) := by decide +kernel
theorem dX6_save_36 : decode cX6_save 36 = .ok (.aload_n 2, 1) := by decide +kernel
theorem dX6_save_37 : decode cX6_save 37 = .ok (.aastore, 1) := by decide +kernel
theorem dX6_save_38 : decode cX6_save 38 = .ok (.aload_n 2, 1) := by decide +kernel
theorem dX6_save_39 : decode cX6_save 39 = .ok (.aload_n 0, 1) := by decide +kernel
theorem dX6_save_40 : decode cX6_save 40 = .ok (.getfield 10, 3) := by decide +kernel
theorem dX6_save_43 : decode cX6_save 43 = .ok (.invokevirtual 105, 3) := by decide +kernel
theorem dX6_save_46 : decode cX6_save 46 = .ok (.aload_n 0, 1) := by decide +kernel
theorem dX6_save_47 : decode cX6_save 47 = .ok (.getfield 10, 3) := by decide +kernel
theorem dX6_save_50 : decode cX6_save 50 = .ok (.getfield 182, 3) := by decide +kernel
theorem dX6_save_53 : decode cX6_save 53 = .ok (.ireturn, 1) := by decide +kernel
theorem dX6_restore_0 : decode cX6_restore 0 = .ok (.iload_n 1, 1) := by decide +kernel
theorem dX6_restore_1 : decode cX6_restore 1 = .ok (.ifCond .lt 8, 3) := by decide +kernel
theorem dX6_restore_4 : decode cX6_restore 4 = .ok (.iload_n 1, 1) := by decide +kernel
theorem dX6_restore_5 : decode cX6_restore 5 = .ok (.iconst 2, 1) := by decide +kernel
theorem dX6_restore_6 : decode cX6_restore 6 = .ok (.if_icmp .lt 6, 3) := by decide +kernel
theorem dX6_restore_9 : decode cX6_restore 9 = .ok (.bipush (-2), 2) := by decide +kernel
theorem dX6_restore_11 : decode cX6_restore 11 = .ok (.ireturn, 1) := by decide +kernel
theorem dX6_restore_12 : decode cX6_restore 12 = .ok (.aload_n 0, 1) := by decide +kernel
theorem dX6_restore_13 : decode cX6_restore 13 = .ok (.getfield 26, 3) := by decide +kernel
theorem dX6_restore_16 : decode cX6_restore 16 = .ok (.iload_n 1, 1) := by decide +kernel
theorem dX6_restore_17 : decode cX6_restore 17 = .ok (.aaload, 1) := by decide +kernel
theorem dX6_restore_18 : decode cX6_restore 18 = .ok (.astore_n 2, 1) := by decide +kernel
theorem dX6_restore_19 : decode cX6_restore 19 = .ok (.aload_n 2, 1) := by decide +kernel
theorem dX6_restore_20 : decode cX6_restore 20 = .ok (.ifnonnull 6, 3) := by decide +kernel
theorem dX6_restore_23 : decode cX6_restore 23 = .ok (.bipush (-5), 2) := by decide +kernel
theorem dX6_restore_25 : decode cX6_restore 25 = .ok (.ireturn, 1) := by decide +kernel
theorem dX6_restore_26 : decode cX6_restore 26 = .ok (.aload_n 0, 1) := by decide +kernel
theorem dX6_restore_27 : decode cX6_restore 27 = .ok (.getfield 22, 3) := by decide +kernel
theorem dX6_restore_30 : decode cX6_restore 30 = .ok (.aload_n 0, 1) := by decide +kernel
theorem dX6_restore_31 : decode cX6_restore 31 = .ok (.getfield 10, 3) := by decide +kernel
theorem dX6_restore_34 : decode cX6_restore 34 = .ok (.invokevirtual 46, 3) := by decide +kernel
theorem dX6_restore_37 : decode cX6_restore 37 = .ok (.aload_n 0, 1) := by decide +kernel
theorem dX6_restore_38 : decode cX6_restore 38 = .ok (.getfield 10, 3) := by decide +kernel
theorem dX6_restore_41 : decode cX6_restore 41 = .ok (.aload_n 2, 1) := by decide +kernel
theorem dX6_restore_42 : decode cX6_restore 42 = .ok (.invokevirtual 105, 3) := by decide +kernel
theorem dX6_restore_45 : decode cX6_restore 45 = .ok (.aload_n 0, 1) := by decide +kernel
theorem dX6_restore_46 : decode cX6_restore 46 = .ok (.getfield 22, 3) := by decide +kernel
theorem dX6_restore_49 : decode cX6_restore 49 = .ok (.aload_n 0, 1) := by decide +kernel
theorem dX6_restore_50 : decode cX6_restore 50 = .ok (.getfield 10, 3) := by decide +kernel
theorem dX6_restore_53 : decode cX6_restore 53 = .ok (.getfield 182, 3) := by decide +kernel
theorem dX6_restore_56 : decode cX6_restore 56 = .ok (.invokevirtual 54, 3) := by decide +kernel
theorem dX6_restore_59 : decode cX6_restore 59 = .ok (.ireturn, 1) := by decide +kernel
theorem dX6_isInSet_0 : decode cX6_isInSet 0 = .ok (.iload_n 1, 1) := by decide +kernel
theorem dX6_isInSet_1 : decode cX6_isInSet 1 = .ok (.iload_n 0, 1) := by decide +kernel
theorem dX6_isInSet_2 : decode cX6_isInSet 2 = .ok (.ishr, 1) := by decide +kernel
theorem dX6_isInSet_3 : decode cX6_isInSet 3 = .ok (.iconst 1, 1) := by decide +kernel
theorem dX6_isInSet_4 : decode cX6_isInSet 4 = .ok (.iand, 1) := by decide +kernel
theorem dX6_isInSet_5 : decode cX6_isInSet 5 = .ok (.iconst 1, 1) := by decide +kernel
theorem dX6_isInSet_6 : decode cX6_isInSet 6 = .ok (.if_icmp .ne 7, 3) := by decide +kernel
theorem dX6_isInSet_9 : decode cX6_isInSet 9 = .ok (.iconst 1, 1) := by decide +kernel
theorem dX6_isInSet_10 : decode cX6_isInSet 10 = .ok (.goto 4, 3) := by decide +kernel
theorem dX6_isInSet_13 : decode cX6_isInSet 13 = .ok (.iconst 0, 1) := by decide +kernel
theorem dX6_isInSet_14 : decode cX6_isInSet 14 = .ok (.ireturn, 1) := by decide +kernel
theorem dX6_oneIf_0 : decode cX6_oneIf 0 = .ok (.iload_n 0, 1) := by decide +kernel
theorem dX6_oneIf_1 : decode cX6_oneIf 1 = .ok (.ifCond .eq 7, 3) := by decide +kernel
theorem dX6_oneIf_4 : decode cX6_oneIf 4 = .ok (.iconst 1, 1) := by decide +kernel
theorem dX6_oneIf_5 : decode cX6_oneIf 5 = .ok (.goto 4, 3) := by decide +kernel
theorem dX6_oneIf_8 : decode cX6_oneIf 8 = .ok (.iconst 0, 1) := by decide +kernel
theorem dX6_oneIf_9 : decode cX6_oneIf 9 = .ok (.ireturn, 1) := by decide +kernel
end
section
theorem dX1_init_0 : decode cX1_init 0 = .ok (.aload_n 0, 1) := by decide +kernel
theorem dX1_init_1 : decode cX1_init 1 = .ok (.invokespecial 3, 3) := by decide +kernel
theorem dX1_init_4 : decode cX1_init 4 = .ok (.aload_n 0, 1) := by decide +kernel
theorem dX1_init_5 : decode cX1_init 5 = .ok (.getstatic 9, 3) := by decide +kernel
theorem dX1_init_8 : decode cX1_init 8 = .ok (.invokevirtual 13, 3) := by decide +kernel
theorem dX1_init_11 : decode cX1_init 11 = .ok (.checkcast 14, 3) := by decide +kernel
theorem dX1_init_14 : decode cX1_init 14 = .ok (.putfield 18, 3) := by decide +kernel
theorem dX1_init_17 : decode cX1_init 17 = .ok (.aload_n 0, 1) := by decide +kernel
theorem dX1_init_18 : decode cX1_init 18 = .ok (.iconst 0, 1) := by decide +kernel
theorem dX1_init_19 : decode cX1_init 19 = .ok (.putfield 23, 3) := by decide +kernel
theorem dX1_init_22 : decode cX1_init 22 = .ok (.aload_n 0, 1) := by decide +kernel
theorem dX1_init_23 : decode cX1_init 23 = .ok (.bipush 24, 2) := by decide +kernel
theorem dX1_init_25 : decode cX1_init 25 = .ok (.anewarray 27, 3) := by decide +kernel
theorem dX1_init_28 : decode cX1_init 28 = .ok (.putfield 29, 3) := by decide +kernel
theorem dX1_init_31 : decode cX1_init 31 = .ok (.iconst 0, 1) := by decide +kernel
theorem dX1_init_32 : decode cX1_init 32 = .ok (.istore_n 1, 1) := by decide +kernel
theorem dX1_init_33 : decode cX1_init 33 = .ok (.iload_n 1, 1) := by decide +kernel
theorem dX1_init_34 : decode cX1_init 34 = .ok (.bipush 24, 2) := by decide +kernel
theorem dX1_init_36 : decode cX1_init 36 = .ok (.if_icmp .ge 22, 3) := by decide +kernel
theorem dX1_init_39 : decode cX1_init 39 = .ok (.aload_n 0, 1) := by decide +kernel
theorem dX1_init_40 : decode cX1_init 40 = .ok (.getfield 29, 3) := by decide +kernel
theorem dX1_init_43 : decode cX1_init 43 = .ok (.iload_n 1, 1) := by decide +kernel
theorem dX1_init_44 : decode cX1_init 44 = .ok (.new 27, 3) := by decide +kernel
theorem dX1_init_47 : decode cX1_init 47 = .ok (.dup, 1) := by decide +kernel
theorem dX1_init_48 : decode cX1_init 48 = .ok (.invokespecial 33, 3) := by decide +kernel
theorem dX1_init_51 : decode cX1_init 51 = .ok (.aastore, 1) := by decide +kernel
theorem dX1_init_52 : decode cX1_init 52 = .ok (.iinc 1 1, 3) := by decide +kernel
theorem dX1_init_55 : decode cX1_init 55 = .ok (.goto (-22), 3) := by decide +kernel
theorem dX1_init_58 : decode cX1_init 58 = .ok (.aload_n 0, 1) := by decide +kernel
theorem dX1_init_59 : decode cX1_init 59 = .ok (.iconst 0, 1) := by decide +kernel
theorem dX1_init_60 : decode cX1_init 60 = .ok (.putfield 34, 3) := by decide +kernel
theorem dX1_init_63 : decode cX1_init 63 = .ok (.aload_n 0, 1) := by decide +kernel
theorem dX1_init_64 : decode cX1_init 64 = .ok (.bipush 8, 2) := by decide +kernel
theorem dX1_init_66 : decode cX1_init 66 = .ok (.anewarray 37, 3) := by decide +kernel
theorem dX1_init_69 : decode cX1_init 69 = .ok (.putfield 39, 3) := by decide +kernel
theorem dX1_init_72 : decode cX1_init 72 = .ok (.iconst 0, 1) := by decide +kernel
theorem dX1_init_73 : decode cX1_init 73 = .ok (.istore_n 1, 1) := by decide +kernel
theorem dX1_init_74 : decode cX1_init 74 = .ok (.iload_n 1, 1) := by decide +kernel
theorem dX1_init_75 : decode cX1_init 75 = .ok (.bipush 8, 2) := by decide +kernel
theorem dX1_init_77 : decode cX1_init 77 = .ok (.if_icmp .ge 22, 3) := by decide +kernel
theorem dX1_init_80 : decode cX1_init 80 = .ok (.aload_n 0, 1) := by decide +kernel
theorem dX1_init_81 : decode cX1_init 81 = .ok (.getfield 39, 3) := by decide +kernel
theorem dX1_init_84 : decode cX1_init 84 = .ok (.iload_n 1, 1) := by decide +kernel
theorem dX1_init_85 : decode cX1_init 85 = .ok (.new 37, 3) := by decide +kernel
theorem dX1_init_88 : decode cX1_init 88 = .ok (.dup, 1) := by decide +kernel
theorem dX1_init_89 : decode cX1_init 89 = .ok (.invokespecial 43, 3) := by decide +kernel
theorem dX1_init_92 : decode cX1_init 92 = .ok (.aastore, 1) := by decide +kernel
theorem dX1_init_93 : decode cX1_init 93 = .ok (.iinc 1 1, 3) := by decide +kernel
theorem dX1_init_96 : decode cX1_init 96 = .ok (.goto (-22), 3) := by decide +kernel
theorem dX1_init_99 : decode cX1_init 99 = .ok (.aload_n 0, 1) := by decide +kernel
theorem dX1_init_100 : decode cX1_init 100 = .ok (.iconst 0, 1) := by decide +kernel
theorem dX1_init_101 : decode cX1_init 101 = .ok (.putfield 44, 3) := by decide +kernel
theorem dX1_init_104 : decode cX1_init 104 = .ok (.return_, 1) := by decide +kernel
theorem dX1_copyFrom_0 : decode cX1_copyFrom 0 = .ok (.aload_n 1, 1) := by decide +kernel
theorem dX1_copyFrom_1 : decode cX1_copyFrom 1 = .ok (.getfield 18, 3) := by decide +kernel
theorem dX1_copyFrom_4 : decode cX1_copyFrom 4 = .ok (.iconst 0, 1) := by decide +kernel
theorem dX1_copyFrom_5 : decode cX1_copyFrom 5 = .ok (.aload_n 0, 1) := by decide +kernel
theorem dX1_copyFrom_6 : decode cX1_copyFrom 6 = .ok (.getfield 18, 3) := by decide +kernel
theorem dX1_copyFrom_9 : decode cX1_copyFrom 9 = .ok (.iconst 0, 1) := by decide +kernel
theorem dX1_copyFrom_10 : decode cX1_copyFrom 10 = .ok (.iconst 4, 1) := by decide +kernel
theorem dX1_copyFrom_11 : decode cX1_copyFrom 11 = .ok (.invokestatic 47, 3) := by decide +kernel
theorem dX1_copyFrom_14 : decode cX1_copyFrom 14 = .ok (.aload_n 0, 1) := by decide +kernel
theorem dX1_copyFrom_15 : decode cX1_copyFrom 15 = .ok (.aload_n 1, 1) := by decide +kernel
theorem dX1_copyFrom_16 : decode cX1_copyFrom 16 = .ok (.getfield 23, 3) := by decide +kernel
theorem dX1_copyFrom_19 : decode cX1_copyFrom 19 = .ok (.putfield 23, 3) := by decide +kernel
theorem dX1_copyFrom_22 : decode cX1_copyFrom 22 = .ok (.aload_n 0, 1) := by decide +kernel
theorem dX1_copyFrom_23 : decode cX1_copyFrom 23 = .ok (.aload_n 1, 1) := by decide +kernel
theorem dX1_copyFrom_24 : decode cX1_copyFrom 24 = .ok (.getfield 34, 3) := by decide +kernel
theorem dX1_copyFrom_27 : decode cX1_copyFrom 27 = .ok (.putfield 34, 3) := by decide +kernel
theorem dX1_copyFrom_30 : decode cX1_copyFrom 30 = .ok (.iconst 0, 1) := by decide +kernel
theorem dX1_copyFrom_31 : decode cX1_copyFrom 31 = .ok (.istore_n 2, 1) := by decide +kernel
theorem dX1_copyFrom_32 : decode cX1_copyFrom 32 = .ok (.iload_n 2, 1) := by decide +kernel
theorem dX1_copyFrom_33 : decode cX1_copyFrom 33 = .ok (.aload_n 0, 1) := by decide +kernel
theorem dX1_copyFrom_34 : decode cX1_copyFrom 34 = .ok (.getfield 34, 3) := by decide +kernel
theorem dX1_copyFrom_37 : decode cX1_copyFrom 37 = .ok (.if_icmp .ge 24, 3) := by decide +kernel
theorem dX1_copyFrom_40 : decode cX1_copyFrom 40 = .ok (.aload_n 0, 1) := by decide +kernel
theorem dX1_copyFrom_41 : decode cX1_copyFrom 41 = .ok (.getfield 29, 3) := by decide +kernel
theorem dX1_copyFrom_44 : decode cX1_copyFrom 44 = .ok (.iload_n 2, 1) := by decide +kernel
theorem dX1_copyFrom_45 : decode cX1_copyFrom 45 = .ok (.aaload, 1) := by decide +kernel
theorem dX1_copyFrom_46 : decode cX1_copyFrom 46 = .ok (.aload_n 1, 1) := by decide +kernel
theorem dX1_copyFrom_47 : decode cX1_copyFrom 47 = .ok (.getfield 29, 3) := by decide +kernel
theorem dX1_copyFrom_50 : decode cX1_copyFrom 50 = .ok (.iload_n 2, 1) := by decide +kernel
theorem dX1_copyFrom_51 : decode cX1_copyFrom 51 = .ok (.aaload, 1) := by decide +kernel
theorem dX1_copyFrom_52 : decode cX1_copyFrom 52 = .ok (.invokevirtual 53, 3) := by decide +kernel
theorem dX1_copyFrom_55 : decode cX1_copyFrom 55 = .ok (.iinc 2 1, 3) := by decide +kernel
theorem dX1_copyFrom_58 : decode cX1_copyFrom 58 = .ok (.goto (-26), 3) := by decide +kernel
theorem dX1_copyFrom_61 : decode cX1_copyFrom 61 = .ok (.aload_n 0, 1) := by decide +kernel
theorem dX1_copyFrom_62 : decode cX1_copyFrom 62 = .ok (.aload_n 1, 1) := by decide +kernel
theorem dX1_copyFrom_63 : decode cX1_copyFrom 63 = .ok (.getfield 44, 3) := by decide +kernel
theorem dX1_copyFrom_66 : decode cX1_copyFrom 66 = .ok (.putfield 44, 3) := by decide +kernel
theorem dX1_copyFrom_69 : decode cX1_copyFrom 69 = .ok (.iconst 0, 1) := by decide +kernel
theorem dX1_copyFrom_70 : decode cX1_copyFrom 70 = .ok (.istore_n 2, 1) := by decide +kernel
theorem dX1_copyFrom_71 : decode cX1_copyFrom 71 = .ok (.iload_n 2, 1) := by decide +kernel
theorem dX1_copyFrom_72 : decode cX1_copyFrom 72 = .ok (.aload_n 0, 1) := by decide +kernel
theorem dX1_copyFrom_73 : decode cX1_copyFrom 73 = .ok (.getfield 44, 3) := by decide +kernel
theorem dX1_copyFrom_76 : decode cX1_copyFrom 76 = .ok (.if_icmp .ge 24, 3) := by decide +kernel
theorem dX1_copyFrom_79 : decode cX1_copyFrom 79 = .ok (.aload_n 0, 1) := by decide +kernel
theorem dX1_copyFrom_80 : decode cX1_copyFrom 80 = .ok (.getfield 39, 3) := by decide +kernel
theorem dX1_copyFrom_83 : decode cX1_copyFrom 83 = .ok (.iload_n 2, 1) := by decide +kernel
theorem dX1_copyFrom_84 : decode cX1_copyFrom 84 = .ok (.aaload, 1) := by decide +kernel
theorem dX1_copyFrom_85 : decode cX1_copyFrom 85 = .ok (.aload_n 1, 1) := by decide +kernel
theorem dX1_copyFrom_86 : decode cX1_copyFrom 86 = .ok (.getfield 39, 3) := by decide +kernel
theorem dX1_copyFrom_89 : decode cX1_copyFrom 89 = .ok (.iload_n 2, 1) := by decide +kernel
theorem dX1_copyFrom_90 : decode cX1_copyFrom 90 = .ok (.aaload, 1) := by decide +kernel
theorem dX1_copyFrom_91 : decode cX1_copyFrom 91 = .ok (.invokevirtual 57, 3) := by decide +kernel
theorem dX1_copyFrom_94 : decode cX1_copyFrom 94 = .ok (.iinc 2 1, 3) := by decide +kernel
theorem dX1_copyFrom_97 : decode cX1_copyFrom 97 = .ok (.goto (-26), 3) := by decide +kernel
theorem dX1_copyFrom_100 : decode cX1_copyFrom 100 = .ok (.return_, 1) := by decide +kernel
theorem dX1_hasPiece_0 : decode cX1_hasPiece 0 = .ok (.iload_n 1, 1) := by decide +kernel
theorem dX1_hasPiece_1 : decode cX1_hasPiece 1 = .ok (.ifCond .lt 15, 3) := by decide +kernel
theorem dX1_hasPiece_4 : decode cX1_hasPiece 4 = .ok (.iload_n 1, 1) := by decide +kernel
theorem dX1_hasPiece_5 : decode cX1_hasPiece 5 = .ok (.aload_n 0, 1) := by decide +kernel
theorem dX1_hasPiece_6 : decode cX1_hasPiece 6 = .ok (.getfield 34, 3) := by decide +kernel
theorem dX1_hasPiece_9 : decode cX1_hasPiece 9 = .ok (.if_icmp .ge 7, 3) := by decide +kernel
theorem dX1_hasPiece_12 : decode cX1_hasPiece 12 = .ok (.iconst 1, 1) := by decide +kernel
theorem dX1_hasPiece_13 : decode cX1_hasPiece 13 = .ok (.goto 4, 3) := by decide +kernel
theorem dX1_hasPiece_16 : decode cX1_hasPiece 16 = .ok (.iconst 0, 1) := by decide +kernel
theorem dX1_hasPiece_17 : decode cX1_hasPiece 17 = .ok (.ireturn, 1) := by decide +kernel
theorem dX1_isPiece_0 : decode cX1_isPiece 0 = .ok (.aload_n 0, 1) := by decide +kernel
theorem dX1_isPiece_1 : decode cX1_isPiece 1 = .ok (.iload_n 1, 1) := by decide +kernel
theorem dX1_isPiece_2 : decode cX1_isPiece 2 = .ok (.invokevirtual 60, 3) := by decide +kernel
theorem dX1_isPiece_5 : decode cX1_isPiece 5 = .ok (.ifCond .eq 20, 3) := by decide +kernel
theorem dX1_isPiece_8 : decode cX1_isPiece 8 = .ok (.aload_n 0, 1) := by decide +kernel
theorem dX1_isPiece_9 : decode cX1_isPiece 9 = .ok (.getfield 29, 3) := by decide +kernel
theorem dX1_isPiece_12 : decode cX1_isPiece 12 = .ok (.iload_n 1, 1) := by decide +kernel
theorem dX1_isPiece_13 : decode cX1_isPiece 13 = .ok (.aaload, 1) := by decide +kernel
theorem dX1_isPiece_14 : decode cX1_isPiece 14 = .ok (.getfield 64, 3) := by decide +kernel
theorem dX1_isPiece_17 : decode cX1_isPiece 17 = .ok (.iload_n 2, 1) := by decide +kernel
theorem dX1_isPiece_18 : decode cX1_isPiece 18 = .ok (.if_icmp .ne 7, 3) := by decide +kernel
theorem dX1_isPiece_21 : decode cX1_isPiece 21 = .ok (.iconst 1, 1) := by decide +kernel
theorem dX1_isPiece_22 : decode cX1_isPiece 22 = .ok (.goto 4, 3) := by decide +kernel
theorem dX1_isPiece_25 : decode cX1_isPiece 25 = .ok (.iconst 0, 1) := by decide +kernel
theorem dX1_isPiece_26 : decode cX1_isPiece 26 = .ok (.ireturn, 1) := by decide +kernel
theorem dX1_changeSetting_0 : decode cX1_changeSetting 0 = .ok (.iload_n 1, 1) := by decide +kernel
theorem dX1_changeSetting_1 : decode cX1_changeSetting 1 = .ok (.ifCond .lt 8, 3) := by decide +kernel
theorem dX1_changeSetting_4 : decode cX1_changeSetting 4 = .ok (.iload_n 1, 1) := by decide +kernel
theorem dX1_changeSetting_5 : decode cX1_changeSetting 5 = .ok (.iconst 4, 1) := by decide +kernel
theorem dX1_changeSetting_6 : decode cX1_changeSetting 6 = .ok (.if_icmp .lt 6, 3) := by decide +kernel
theorem dX1_changeSetting_9 : decode cX1_changeSetting 9 = .ok (.bipush (-2), 2) := by decide +kernel
theorem dX1_changeSetting_11 : decode cX1_changeSetting 11 = .ok (.ireturn, 1) := by decide +kernel
theorem dX1_changeSetting_12 : decode cX1_changeSetting 12 = .ok (.iload_n 2, 1) := by decide +kernel
theorem dX1_changeSetting_13 : decode cX1_changeSetting 13 = .ok (.getstatic 67, 3) := by decide +kernel
theorem dX1_changeSetting_16 : decode cX1_changeSetting 16 = .ok (.iload_n 1, 1) := by decide +kernel
theorem dX1_changeSetting_17 : decode cX1_changeSetting 17 = .ok (.iaload, 1) := by decide +kernel
theorem dX1_changeSetting_18 : decode cX1_changeSetting 18 = .ok (.if_icmp .lt 12, 3) := by decide +kernel
theorem dX1_changeSetting_21 : decode cX1_changeSetting 21 = .ok (.iload_n 2, 1) := by decide +kernel
theorem dX1_changeSetting_22 : decode cX1_changeSetting 22 = .ok (.getstatic 70, 3) := by decide +kernel
theorem dX1_changeSetting_25 : decode cX1_changeSetting 25 = .ok (.iload_n 1, 1) := by decide +kernel
theorem dX1_changeSetting_26 : decode cX1_changeSetting 26 = .ok (.iaload, 1) := by decide +kernel
theorem dX1_changeSetting_27 : decode cX1_changeSetting 27 = .ok (.if_icmp .le 6, 3) := by decide +kernel
theorem dX1_changeSetting_30 : decode cX1_changeSetting 30 = .ok (.bipush (-2), 2) := by decide +kernel
theorem dX1_changeSetting_32 : decode cX1_changeSetting 32 = .ok (.ireturn, 1) := by decide +kernel
theorem dX1_changeSetting_33 : decode cX1_changeSetting 33 = .ok (.aload_n 0, 1) := by decide +kernel
theorem dX1_changeSetting_34 : decode cX1_changeSetting 34 = .ok (.getfield 18, 3) := by decide +kernel
theorem dX1_changeSetting_37 : decode cX1_changeSetting 37 = .ok (.iload_n 1, 1) := by decide +kernel
theorem dX1_changeSetting_38 : decode cX1_changeSetting 38 = .ok (.iaload, 1) := by decide +kernel
theorem dX1_changeSetting_39 : decode cX1_changeSetting 39 = .ok (.istore_n 3, 1) := by decide +kernel
theorem dX1_changeSetting_40 : decode cX1_changeSetting 40 = .ok (.aload_n 0, 1) := by decide +kernel
theorem dX1_changeSetting_41 : decode cX1_changeSetting 41 = .ok (.getfield 18, 3) := by decide +kernel
theorem dX1_changeSetting_44 : decode cX1_changeSetting 44 = .ok (.iload_n 1, 1) := by decide +kernel
theorem dX1_changeSetting_45 : decode cX1_changeSetting 45 = .ok (.iload_n 2, 1) := by decide +kernel
theorem dX1_changeSetting_46 : decode cX1_changeSetting 46 = .ok (.iastore, 1) := by decide +kernel
theorem dX1_changeSetting_47 : decode cX1_changeSetting 47 = .ok (.iload_n 3, 1) := by decide +kernel
theorem dX1_changeSetting_48 : decode cX1_changeSetting 48 = .ok (.ireturn, 1) := by decide +kernel
theorem dX1_addPiece_0 : decode cX1_addPiece 0 = .ok (.iload_n 1, 1) := by decide +kernel
theorem dX1_addPiece_1 : decode cX1_addPiece 1 = .ok (.ifCond .lt 8, 3) := by decide +kernel
theorem dX1_addPiece_4 : decode cX1_addPiece 4 = .ok (.iload_n 1, 1) := by decide +kernel
theorem dX1_addPiece_5 : decode cX1_addPiece 5 = .ok (.iconst 5, 1) := by decide +kernel
theorem dX1_addPiece_6 : decode cX1_addPiece 6 = .ok (.if_icmp .lt 5, 3) := by decide +kernel
theorem dX1_addPiece_9 : decode cX1_addPiece 9 = .ok (.iconst (-1), 1) := by decide +kernel
theorem dX1_addPiece_10 : decode cX1_addPiece 10 = .ok (.ireturn, 1) := by decide +kernel
theorem dX1_addPiece_11 : decode cX1_addPiece 11 = .ok (.iload_n 2, 1) := by decide +kernel
theorem dX1_addPiece_12 : decode cX1_addPiece 12 = .ok (.iconst 1, 1) := by decide +kernel
theorem dX1_addPiece_13 : decode cX1_addPiece 13 = .ok (.if_icmp .lt 30, 3) := by decide +kernel
theorem dX1_addPiece_16 : decode cX1_addPiece 16 = .ok (.iload_n 2, 1) := by decide +kernel
theorem dX1_addPiece_17 : decode cX1_addPiece 17 = .ok (.bipush 99, 2) := by decide +kernel
theorem dX1_addPiece_19 : decode cX1_addPiece 19 = .ok (.if_icmp .gt 24, 3) := by decide +kernel
theorem dX1_addPiece_22 : decode cX1_addPiece 22 = .ok (.iload_n 3, 1) := by decide +kernel
theorem dX1_addPiece_23 : decode cX1_addPiece 23 = .ok (.ifCond .lt 20, 3) := by decide +kernel
theorem dX1_addPiece_26 : decode cX1_addPiece 26 = .ok (.iload_n 3, 1) := by decide +kernel
theorem dX1_addPiece_27 : decode cX1_addPiece 27 = .ok (.bipush 9, 2) := by decide +kernel
theorem dX1_addPiece_29 : decode cX1_addPiece 29 = .ok (.if_icmp .gt 14, 3) := by decide +kernel
theorem dX1_addPiece_32 : decode cX1_addPiece 32 = .ok (.iload 4, 2) := by decide +kernel
theorem dX1_addPiece_34 : decode cX1_addPiece 34 = .ok (.ifCond .lt 9, 3) := by decide +kernel
theorem dX1_addPiece_37 : decode cX1_addPiece 37 = .ok (.iload 4, 2) := by decide +kernel
theorem dX1_addPiece_39 : decode cX1_addPiece 39 = .ok (.iconst 1, 1) := by decide +kernel
theorem dX1_addPiece_40 : decode cX1_addPiece 40 = .ok (.if_icmp .le 6, 3) := by decide +kernel
theorem dX1_addPiece_43 : decode cX1_addPiece 43 = .ok (.bipush (-2), 2) := by decide +kernel
theorem dX1_addPiece_45 : decode cX1_addPiece 45 = .ok (.ireturn, 1) := by decide +kernel
theorem dX1_addPiece_46 : decode cX1_addPiece 46 = .ok (.aload_n 0, 1) := by decide +kernel
theorem dX1_addPiece_47 : decode cX1_addPiece 47 = .ok (.getfield 34, 3) := by decide +kernel
theorem dX1_addPiece_50 : decode cX1_addPiece 50 = .ok (.bipush 24, 2) := by decide +kernel
theorem dX1_addPiece_52 : decode cX1_addPiece 52 = .ok (.if_icmp .lt 6, 3) := by decide +kernel
theorem dX1_addPiece_55 : decode cX1_addPiece 55 = .ok (.bipush (-4), 2) := by decide +kernel
theorem dX1_addPiece_57 : decode cX1_addPiece 57 = .ok (.ireturn, 1) := by decide +kernel
theorem dX1_addPiece_58 : decode cX1_addPiece 58 = .ok (.aload_n 0, 1) := by decide +kernel
theorem dX1_addPiece_59 : decode cX1_addPiece 59 = .ok (.getfield 34, 3) := by decide +kernel
theorem dX1_addPiece_62 : decode cX1_addPiece 62 = .ok (.istore 5, 2) := by decide +kernel
theorem dX1_addPiece_64 : decode cX1_addPiece 64 = .ok (.aload_n 0, 1) := by decide +kernel
theorem dX1_addPiece_65 : decode cX1_addPiece 65 = .ok (.getfield 29, 3) := by decide +kernel
theorem dX1_addPiece_68 : decode cX1_addPiece 68 = .ok (.iload 5, 2) := by decide +kernel
theorem dX1_addPiece_70 : decode cX1_addPiece 70 = .ok (.aaload, 1) := by decide +kernel
theorem dX1_addPiece_71 : decode cX1_addPiece 71 = .ok (.iload_n 1, 1) := by decide +kernel
theorem dX1_addPiece_72 : decode cX1_addPiece 72 = .ok (.iload_n 2, 1) := by decide +kernel
theorem dX1_addPiece_73 : decode cX1_addPiece 73 = .ok (.iload_n 3, 1) := by decide +kernel
theorem dX1_addPiece_74 : decode cX1_addPiece 74 = .ok (.iload 4, 2) := by decide +kernel
theorem dX1_addPiece_76 : decode cX1_addPiece 76 = .ok (.iconst 1, 1) := by decide +kernel
theorem dX1_addPiece_77 : decode cX1_addPiece 77 = .ok (.if_icmp .ne 7, 3) := by decide +kernel
theorem dX1_addPiece_80 : decode cX1_addPiece 80 = .ok (.iconst 1, 1) := by decide +kernel
theorem dX1_addPiece_81 : decode cX1_addPiece 81 = .ok (.goto 4, 3) := by decide +kernel
theorem dX1_addPiece_84 : decode cX1_addPiece 84 = .ok (.iconst 0, 1) := by decide +kernel
theorem dX1_addPiece_85 : decode cX1_addPiece 85 = .ok (.invokevirtual 73, 3) := by decide +kernel
theorem dX1_addPiece_88 : decode cX1_addPiece 88 = .ok (.aload_n 0, 1) := by decide +kernel
theorem dX1_addPiece_89 : decode cX1_addPiece 89 = .ok (.dup, 1) := by decide +kernel
theorem dX1_addPiece_90 : decode cX1_addPiece 90 = .ok (.getfield 34, 3) := by decide +kernel
theorem dX1_addPiece_93 : decode cX1_addPiece 93 = .ok (.iconst 1, 1) := by decide +kernel
theorem dX1_addPiece_94 : decode cX1_addPiece 94 = .ok (.iadd, 1) := by decide +kernel
theorem dX1_addPiece_95 : decode cX1_addPiece 95 = .ok (.putfield 34, 3) := by decide +kernel
theorem dX1_addPiece_98 : decode cX1_addPiece 98 = .ok (.iload 5, 2) := by decide +kernel
theorem dX1_addPiece_100 : decode cX1_addPiece 100 = .ok (.ireturn, 1) := by decide +kernel
theorem dX1_addPlate_0 : decode cX1_addPlate 0 = .ok (.iload_n 1, 1) := by decide +kernel
theorem dX1_addPlate_1 : decode cX1_addPlate 1 = .ok (.aload_n 0, 1) := by decide +kernel
theorem dX1_addPlate_2 : decode cX1_addPlate 2 = .ok (.getfield 23, 3) := by decide +kernel
theorem dX1_addPlate_5 : decode cX1_addPlate 5 = .ok (.if_icmp .lt 10, 3) := by decide +kernel
theorem dX1_addPlate_8 : decode cX1_addPlate 8 = .ok (.iload_n 1, 1) := by decide +kernel
theorem dX1_addPlate_9 : decode cX1_addPlate 9 = .ok (.sipush 600, 3) := by decide +kernel
theorem dX1_addPlate_12 : decode cX1_addPlate 12 = .ok (.if_icmp .lt 6, 3) := by decide +kernel
theorem dX1_addPlate_15 : decode cX1_addPlate 15 = .ok (.bipush (-2), 2) := by decide +kernel
theorem dX1_addPlate_17 : decode cX1_addPlate 17 = .ok (.ireturn, 1) := by decide +kernel
theorem dX1_addPlate_18 : decode cX1_addPlate 18 = .ok (.aload_n 0, 1) := by decide +kernel
theorem dX1_addPlate_19 : decode cX1_addPlate 19 = .ok (.getfield 44, 3) := by decide +kernel
theorem dX1_addPlate_22 : decode cX1_addPlate 22 = .ok (.bipush 8, 2) := by decide +kernel
theorem dX1_addPlate_24 : decode cX1_addPlate 24 = .ok (.if_icmp .lt 6, 3) := by decide +kernel
theorem dX1_addPlate_27 : decode cX1_addPlate 27 = .ok (.bipush (-4), 2) := by decide +kernel
theorem dX1_addPlate_29 : decode cX1_addPlate 29 = .ok (.ireturn, 1) := by decide +kernel
theorem dX1_addPlate_30 : decode cX1_addPlate 30 = .ok (.aload_n 0, 1) := by decide +kernel
theorem dX1_addPlate_31 : decode cX1_addPlate 31 = .ok (.iload_n 1, 1) := by decide +kernel
theorem dX1_addPlate_32 : decode cX1_addPlate 32 = .ok (.invokevirtual 77, 3) := by decide +kernel
theorem dX1_addPlate_35 : decode cX1_addPlate 35 = .ok (.ifCond .lt 6, 3) := by decide +kernel
theorem dX1_addPlate_38 : decode cX1_addPlate 38 = .ok (.bipush (-5), 2) := by decide +kernel
theorem dX1_addPlate_40 : decode cX1_addPlate 40 = .ok (.ireturn, 1) := by decide +kernel
theorem dX1_addPlate_41 : decode cX1_addPlate 41 = .ok (.aload_n 0, 1) := by decide +kernel
theorem dX1_addPlate_42 : decode cX1_addPlate 42 = .ok (.iload_n 1, 1) := by decide +kernel
theorem dX1_addPlate_43 : decode cX1_addPlate 43 = .ok (.iconst 0, 1) := by decide +kernel
theorem dX1_addPlate_44 : decode cX1_addPlate 44 = .ok (.invokevirtual 81, 3) := by decide +kernel
theorem dX1_addPlate_47 : decode cX1_addPlate 47 = .ok (.ireturn, 1) := by decide +kernel
theorem dX1_turnHold_0 : decode cX1_turnHold 0 = .ok (.aload_n 0, 1) := by decide +kernel
theorem dX1_turnHold_1 : decode cX1_turnHold 1 = .ok (.iload_n 1, 1) := by decide +kernel
theorem dX1_turnHold_2 : decode cX1_turnHold 2 = .ok (.invokevirtual 60, 3) := by decide +kernel
theorem dX1_turnHold_5 : decode cX1_turnHold 5 = .ok (.ifCond .ne 5, 3) := by decide +kernel
theorem dX1_turnHold_8 : decode cX1_turnHold 8 = .ok (.iconst (-1), 1) := by decide +kernel
theorem dX1_turnHold_9 : decode cX1_turnHold 9 = .ok (.ireturn, 1) := by decide +kernel
theorem dX1_turnHold_10 : decode cX1_turnHold 10 = .ok (.aload_n 0, 1) := by decide +kernel
theorem dX1_turnHold_11 : decode cX1_turnHold 11 = .ok (.getfield 29, 3) := by decide +kernel
theorem dX1_turnHold_14 : decode cX1_turnHold 14 = .ok (.iload_n 1, 1) := by decide +kernel
theorem dX1_turnHold_15 : decode cX1_turnHold 15 = .ok (.aaload, 1) := by decide +kernel
theorem dX1_turnHold_16 : decode cX1_turnHold 16 = .ok (.astore_n 2, 1) := by decide +kernel
theorem dX1_turnHold_17 : decode cX1_turnHold 17 = .ok (.aload_n 2, 1) := by decide +kernel
theorem dX1_turnHold_18 : decode cX1_turnHold 18 = .ok (.getfield 64, 3) := by decide +kernel
theorem dX1_turnHold_21 : decode cX1_turnHold 21 = .ok (.iconst 3, 1) := by decide +kernel
theorem dX1_turnHold_22 : decode cX1_turnHold 22 = .ok (.if_icmp .ne 6, 3) := by decide +kernel
theorem dX1_turnHold_25 : decode cX1_turnHold 25 = .ok (.bipush (-5), 2) := by decide +kernel
theorem dX1_turnHold_27 : decode cX1_turnHold 27 = .ok (.ireturn, 1) := by decide +kernel
theorem dX1_turnHold_28 : decode cX1_turnHold 28 = .ok (.aload_n 2, 1) := by decide +kernel
theorem dX1_turnHold_29 : decode cX1_turnHold 29 = .ok (.aload_n 2, 1) := by decide +kernel
theorem dX1_turnHold_30 : decode cX1_turnHold 30 = .ok (.getfield 85, 3) := by decide +kernel
theorem dX1_turnHold_33 : decode cX1_turnHold 33 = .ok (.ifCond .ne 7, 3) := by decide +kernel
theorem dX1_turnHold_36 : decode cX1_turnHold 36 = .ok (.iconst 1, 1) := by decide +kernel
theorem dX1_turnHold_37 : decode cX1_turnHold 37 = .ok (.goto 4, 3) := by decide +kernel
theorem dX1_turnHold_40 : decode cX1_turnHold 40 = .ok (.iconst 0, 1) := by decide +kernel
theorem dX1_turnHold_41 : decode cX1_turnHold 41 = .ok (.putfield 85, 3) := by decide +kernel
theorem dX1_turnHold_44 : decode cX1_turnHold 44 = .ok (.aload_n 2, 1) := by decide +kernel
theorem dX1_turnHold_45 : decode cX1_turnHold 45 = .ok (.getfield 85, 3) := by decide +kernel
theorem dX1_turnHold_48 : decode cX1_turnHold 48 = .ok (.invokestatic 89, 3) := by decide +kernel
theorem dX1_turnHold_51 : decode cX1_turnHold 51 = .ok (.ireturn, 1) := by decide +kernel
theorem dX1_killPiece_0 : decode cX1_killPiece 0 = .ok (.aload_n 0, 1) := by decide +kernel
theorem dX1_killPiece_1 : decode cX1_killPiece 1 = .ok (.iload_n 1, 1) := by decide +kernel
theorem dX1_killPiece_2 : decode cX1_killPiece 2 = .ok (.invokevirtual 60, 3) := by decide +kernel
theorem dX1_killPiece_5 : decode cX1_killPiece 5 = .ok (.ifCond .ne 5, 3) := by decide +kernel
theorem dX1_killPiece_8 : decode cX1_killPiece 8 = .ok (.iconst (-1), 1) := by decide +kernel
theorem dX1_killPiece_9 : decode cX1_killPiece 9 = .ok (.ireturn, 1) := by decide +kernel
theorem dX1_killPiece_10 : decode cX1_killPiece 10 = .ok (.aload_n 0, 1) := by decide +kernel
theorem dX1_killPiece_11 : decode cX1_killPiece 11 = .ok (.getfield 29, 3) := by decide +kernel
theorem dX1_killPiece_14 : decode cX1_killPiece 14 = .ok (.iload_n 1, 1) := by decide +kernel
theorem dX1_killPiece_15 : decode cX1_killPiece 15 = .ok (.aaload, 1) := by decide +kernel
theorem dX1_killPiece_16 : decode cX1_killPiece 16 = .ok (.astore_n 2, 1) := by decide +kernel
theorem dX1_killPiece_17 : decode cX1_killPiece 17 = .ok (.aload_n 2, 1) := by decide +kernel
theorem dX1_killPiece_18 : decode cX1_killPiece 18 = .ok (.getfield 64, 3) := by decide +kernel
theorem dX1_killPiece_21 : decode cX1_killPiece 21 = .ok (.iconst 3, 1) := by decide +kernel
theorem dX1_killPiece_22 : decode cX1_killPiece 22 = .ok (.if_icmp .ne 6, 3) := by decide +kernel
theorem dX1_killPiece_25 : decode cX1_killPiece 25 = .ok (.bipush (-5), 2) := by decide +kernel
theorem dX1_killPiece_27 : decode cX1_killPiece 27 = .ok (.ireturn, 1) := by decide +kernel
theorem dX1_killPiece_28 : decode cX1_killPiece 28 = .ok (.aload_n 2, 1) := by decide +kernel
theorem dX1_killPiece_29 : decode cX1_killPiece 29 = .ok (.iconst 3, 1) := by decide +kernel
theorem dX1_killPiece_30 : decode cX1_killPiece 30 = .ok (.putfield 64, 3) := by decide +kernel
theorem dX1_killPiece_33 : decode cX1_killPiece 33 = .ok (.aload_n 0, 1) := by decide +kernel
theorem dX1_killPiece_34 : decode cX1_killPiece 34 = .ok (.iload_n 1, 1) := by decide +kernel
theorem dX1_killPiece_35 : decode cX1_killPiece 35 = .ok (.invokevirtual 93, 3) := by decide +kernel
theorem dX1_killPiece_38 : decode cX1_killPiece 38 = .ok (.ifCond .eq 14, 3) := by decide +kernel
theorem dX1_killPiece_41 : decode cX1_killPiece 41 = .ok (.aload_n 0, 1) := by decide +kernel
theorem dX1_killPiece_42 : decode cX1_killPiece 42 = .ok (.invokevirtual 96, 3) := by decide +kernel
theorem dX1_killPiece_45 : decode cX1_killPiece 45 = .ok (.ifCond .eq 7, 3) := by decide +kernel
theorem dX1_killPiece_48 : decode cX1_killPiece 48 = .ok (.iconst 1, 1) := by decide +kernel
theorem dX1_killPiece_49 : decode cX1_killPiece 49 = .ok (.goto 4, 3) := by decide +kernel
theorem dX1_killPiece_52 : decode cX1_killPiece 52 = .ok (.iconst 0, 1) := by decide +kernel
theorem dX1_killPiece_53 : decode cX1_killPiece 53 = .ok (.invokestatic 89, 3) := by decide +kernel
theorem dX1_killPiece_56 : decode cX1_killPiece 56 = .ok (.ireturn, 1) := by decide +kernel
theorem dX1_passMinutes_0 : decode cX1_passMinutes 0 = .ok (.iload_n 1, 1) := by decide +kernel
theorem dX1_passMinutes_1 : decode cX1_passMinutes 1 = .ok (.iconst 1, 1) := by decide +kernel
theorem dX1_passMinutes_2 : decode cX1_passMinutes 2 = .ok (.if_icmp .ge 6, 3) := by decide +kernel
theorem dX1_passMinutes_5 : decode cX1_passMinutes 5 = .ok (.bipush (-2), 2) := by decide +kernel
theorem dX1_passMinutes_7 : decode cX1_passMinutes 7 = .ok (.ireturn, 1) := by decide +kernel
theorem dX1_passMinutes_8 : decode cX1_passMinutes 8 = .ok (.iload_n 1, 1) := by decide +kernel
theorem dX1_passMinutes_9 : decode cX1_passMinutes 9 = .ok (.sipush 600, 3) := by decide +kernel
theorem dX1_passMinutes_12 : decode cX1_passMinutes 12 = .ok (.aload_n 0, 1) := by decide +kernel
theorem dX1_passMinutes_13 : decode cX1_passMinutes 13 = .ok (.getfield 23, 3) := by decide +kernel
theorem dX1_passMinutes_16 : decode cX1_passMinutes 16 = .ok (.isub, 1) := by decide +kernel
theorem dX1_passMinutes_17 : decode cX1_passMinutes 17 = .ok (.if_icmp .le 6, 3) := by decide +kernel
theorem dX1_passMinutes_20 : decode cX1_passMinutes 20 = .ok (.bipush (-5), 2) := by decide +kernel
theorem dX1_passMinutes_22 : decode cX1_passMinutes 22 = .ok (.ireturn, 1) := by decide +kernel
theorem dX1_passMinutes_23 : decode cX1_passMinutes 23 = .ok (.iconst 0, 1) := by decide +kernel
theorem dX1_passMinutes_24 : decode cX1_passMinutes 24 = .ok (.istore_n 2, 1) := by decide +kernel
theorem dX1_passMinutes_25 : decode cX1_passMinutes 25 = .ok (.iconst 0, 1) := by decide +kernel
theorem dX1_passMinutes_26 : decode cX1_passMinutes 26 = .ok (.istore_n 3, 1) := by decide +kernel
theorem dX1_passMinutes_27 : decode cX1_passMinutes 27 = .ok (.iload_n 3, 1) := by decide +kernel
theorem dX1_passMinutes_28 : decode cX1_passMinutes 28 = .ok (.iload_n 1, 1) := by decide +kernel
theorem dX1_passMinutes_29 : decode cX1_passMinutes 29 = .ok (.if_icmp .ge 19, 3) := by decide +kernel
theorem dX1_passMinutes_32 : decode cX1_passMinutes 32 = .ok (.iload_n 2, 1) := by decide +kernel
theorem dX1_passMinutes_33 : decode cX1_passMinutes 33 = .ok (.aload_n 0, 1) := by decide +kernel
theorem dX1_passMinutes_34 : decode cX1_passMinutes 34 = .ok (.invokevirtual 100, 3) := by decide +kernel
theorem dX1_passMinutes_37 : decode cX1_passMinutes 37 = .ok (.invokestatic 89, 3) := by decide +kernel
theorem dX1_passMinutes_40 : decode cX1_passMinutes 40 = .ok (.iadd, 1) := by decide +kernel
theorem dX1_passMinutes_41 : decode cX1_passMinutes 41 = .ok (.istore_n 2, 1) := by decide +kernel
theorem dX1_passMinutes_42 : decode cX1_passMinutes 42 = .ok (.iinc 3 1, 3) := by decide +kernel
theorem dX1_passMinutes_45 : decode cX1_passMinutes 45 = .ok (.goto (-18), 3) := by decide +kernel
theorem dX1_passMinutes_48 : decode cX1_passMinutes 48 = .ok (.iload_n 2, 1) := by decide +kernel
theorem dX1_passMinutes_49 : decode cX1_passMinutes 49 = .ok (.ireturn, 1) := by decide +kernel
theorem dX1_passMinute_0 : decode cX1_passMinute 0 = .ok (.aload_n 0, 1) := by decide +kernel
theorem dX1_passMinute_1 : decode cX1_passMinute 1 = .ok (.invokevirtual 103, 3) := by decide +kernel
theorem dX1_passMinute_4 : decode cX1_passMinute 4 = .ok (.aload_n 0, 1) := by decide +kernel
theorem dX1_passMinute_5 : decode cX1_passMinute 5 = .ok (.invokevirtual 106, 3) := by decide +kernel
theorem dX1_passMinute_8 : decode cX1_passMinute 8 = .ok (.aload_n 0, 1) := by decide +kernel
theorem dX1_passMinute_9 : decode cX1_passMinute 9 = .ok (.aload_n 0, 1) := by decide +kernel
theorem dX1_passMinute_10 : decode cX1_passMinute 10 = .ok (.getfield 23, 3) := by decide +kernel
theorem dX1_passMinute_13 : decode cX1_passMinute 13 = .ok (.invokevirtual 77, 3) := by decide +kernel
theorem dX1_passMinute_16 : decode cX1_passMinute 16 = .ok (.istore_n 1, 1) := by decide +kernel
theorem dX1_passMinute_17 : decode cX1_passMinute 17 = .ok (.iload_n 1, 1) := by decide +kernel
theorem dX1_passMinute_18 : decode cX1_passMinute 18 = .ok (.ifCond .lt 16, 3) := by decide +kernel
theorem dX1_passMinute_21 : decode cX1_passMinute 21 = .ok (.aload_n 0, 1) := by decide +kernel
theorem dX1_passMinute_22 : decode cX1_passMinute 22 = .ok (.getfield 39, 3) := by decide +kernel
theorem dX1_passMinute_25 : decode cX1_passMinute 25 = .ok (.iload_n 1, 1) := by decide +kernel
theorem dX1_passMinute_26 : decode cX1_passMinute 26 = .ok (.aaload, 1) := by decide +kernel
theorem dX1_passMinute_27 : decode cX1_passMinute 27 = .ok (.aload_n 0, 1) := by decide +kernel
theorem dX1_passMinute_28 : decode cX1_passMinute 28 = .ok (.invokevirtual 109, 3) := by decide +kernel
theorem dX1_passMinute_31 : decode cX1_passMinute 31 = .ok (.putfield 113, 3) := by decide +kernel
theorem dX1_passMinute_34 : decode cX1_passMinute 34 = .ok (.aload_n 0, 1) := by decide +kernel
theorem dX1_passMinute_35 : decode cX1_passMinute 35 = .ok (.dup, 1) := by decide +kernel
theorem dX1_passMinute_36 : decode cX1_passMinute 36 = .ok (.getfield 23, 3) := by decide +kernel
theorem dX1_passMinute_39 : decode cX1_passMinute 39 = .ok (.iconst 1, 1) := by decide +kernel
theorem dX1_passMinute_40 : decode cX1_passMinute 40 = .ok (.iadd, 1) := by decide +kernel
theorem dX1_passMinute_41 : decode cX1_passMinute 41 = .ok (.putfield 23, 3) := by decide +kernel
theorem dX1_passMinute_44 : decode cX1_passMinute 44 = .ok (.iload_n 1, 1) := by decide +kernel
theorem dX1_passMinute_45 : decode cX1_passMinute 45 = .ok (.ifCond .lt 7, 3) := by decide +kernel
theorem dX1_passMinute_48 : decode cX1_passMinute 48 = .ok (.iconst 1, 1) := by decide +kernel
theorem dX1_passMinute_49 : decode cX1_passMinute 49 = .ok (.goto 4, 3) := by decide +kernel
theorem dX1_passMinute_52 : decode cX1_passMinute 52 = .ok (.iconst 0, 1) := by decide +kernel
theorem dX1_passMinute_53 : decode cX1_passMinute 53 = .ok (.ireturn, 1) := by decide +kernel
theorem dX1_editAtDesks_0 : decode cX1_editAtDesks 0 = .ok (.iconst 0, 1) := by decide +kernel
theorem dX1_editAtDesks_1 : decode cX1_editAtDesks 1 = .ok (.istore_n 1, 1) := by decide +kernel
theorem dX1_editAtDesks_2 : decode cX1_editAtDesks 2 = .ok (.iconst 0, 1) := by decide +kernel
theorem dX1_editAtDesks_3 : decode cX1_editAtDesks 3 = .ok (.istore_n 2, 1) := by decide +kernel
theorem dX1_editAtDesks_4 : decode cX1_editAtDesks 4 = .ok (.iload_n 2, 1) := by decide +kernel
theorem dX1_editAtDesks_5 : decode cX1_editAtDesks 5 = .ok (.aload_n 0, 1) := by decide +kernel
theorem dX1_editAtDesks_6 : decode cX1_editAtDesks 6 = .ok (.getfield 34, 3) := by decide +kernel
theorem dX1_editAtDesks_9 : decode cX1_editAtDesks 9 = .ok (.if_icmp .ge 57, 3) := by decide +kernel
theorem dX1_editAtDesks_12 : decode cX1_editAtDesks 12 = .ok (.aload_n 0, 1) := by decide +kernel
theorem dX1_editAtDesks_13 : decode cX1_editAtDesks 13 = .ok (.getfield 29, 3) := by decide +kernel
theorem dX1_editAtDesks_16 : decode cX1_editAtDesks 16 = .ok (.iload_n 2, 1) := by decide +kernel
theorem dX1_editAtDesks_17 : decode cX1_editAtDesks 17 = .ok (.aaload, 1) := by decide +kernel
theorem dX1_editAtDesks_18 : decode cX1_editAtDesks 18 = .ok (.astore_n 3, 1) := by decide +kernel
theorem dX1_editAtDesks_19 : decode cX1_editAtDesks 19 = .ok (.aload_n 3, 1) := by decide +kernel
theorem dX1_editAtDesks_20 : decode cX1_editAtDesks 20 = .ok (.getfield 64, 3) := by decide +kernel
theorem dX1_editAtDesks_23 : decode cX1_editAtDesks 23 = .ok (.ifCond .ne 37, 3) := by decide +kernel
theorem dX1_editAtDesks_26 : decode cX1_editAtDesks 26 = .ok (.aload_n 3, 1) := by decide +kernel
theorem dX1_editAtDesks_27 : decode cX1_editAtDesks 27 = .ok (.getfield 115, 3) := by decide +kernel
theorem dX1_editAtDesks_30 : decode cX1_editAtDesks 30 = .ok (.iload_n 1, 1) := by decide +kernel
theorem dX1_editAtDesks_31 : decode cX1_editAtDesks 31 = .ok (.invokestatic 118, 3) := by decide +kernel
theorem dX1_editAtDesks_34 : decode cX1_editAtDesks 34 = .ok (.ifCond .ne 26, 3) := by decide +kernel
theorem dX1_editAtDesks_37 : decode cX1_editAtDesks 37 = .ok (.iload_n 1, 1) := by decide +kernel
theorem dX1_editAtDesks_38 : decode cX1_editAtDesks 38 = .ok (.iconst 1, 1) := by decide +kernel
theorem dX1_editAtDesks_39 : decode cX1_editAtDesks 39 = .ok (.aload_n 3, 1) := by decide +kernel
theorem dX1_editAtDesks_40 : decode cX1_editAtDesks 40 = .ok (.getfield 115, 3) := by decide +kernel
theorem dX1_editAtDesks_43 : decode cX1_editAtDesks 43 = .ok (.ishl, 1) := by decide +kernel
theorem dX1_editAtDesks_44 : decode cX1_editAtDesks 44 = .ok (.ior, 1) := by decide +kernel
theorem dX1_editAtDesks_45 : decode cX1_editAtDesks 45 = .ok (.istore_n 1, 1) := by decide +kernel
theorem dX1_editAtDesks_46 : decode cX1_editAtDesks 46 = .ok (.aload_n 3, 1) := by decide +kernel
theorem dX1_editAtDesks_47 : decode cX1_editAtDesks 47 = .ok (.aload_n 0, 1) := by decide +kernel
theorem dX1_editAtDesks_48 : decode cX1_editAtDesks 48 = .ok (.getfield 18, 3) := by decide +kernel
theorem dX1_editAtDesks_51 : decode cX1_editAtDesks 51 = .ok (.iconst 0, 1) := by decide +kernel
theorem dX1_editAtDesks_52 : decode cX1_editAtDesks 52 = .ok (.iaload, 1) := by decide +kernel
theorem dX1_editAtDesks_53 : decode cX1_editAtDesks 53 = .ok (.aload_n 0, 1) := by decide +kernel
theorem dX1_editAtDesks_54 : decode cX1_editAtDesks 54 = .ok (.getfield 23, 3) := by decide +kernel
theorem dX1_editAtDesks_57 : decode cX1_editAtDesks 57 = .ok (.invokevirtual 122, 3) := by decide +kernel
theorem dX1_editAtDesks_60 : decode cX1_editAtDesks 60 = .ok (.iinc 2 1, 3) := by decide +kernel
theorem dX1_editAtDesks_63 : decode cX1_editAtDesks 63 = .ok (.goto (-59), 3) := by decide +kernel
theorem dX1_editAtDesks_66 : decode cX1_editAtDesks 66 = .ok (.return_, 1) := by decide +kernel
theorem dX1_readAtLawyer_0 : decode cX1_readAtLawyer 0 = .ok (.aload_n 0, 1) := by decide +kernel
theorem dX1_readAtLawyer_1 : decode cX1_readAtLawyer 1 = .ok (.invokevirtual 126, 3) := by decide +kernel
theorem dX1_readAtLawyer_4 : decode cX1_readAtLawyer 4 = .ok (.istore_n 1, 1) := by decide +kernel
theorem dX1_readAtLawyer_5 : decode cX1_readAtLawyer 5 = .ok (.iload_n 1, 1) := by decide +kernel
theorem dX1_readAtLawyer_6 : decode cX1_readAtLawyer 6 = .ok (.ifCond .lt 22, 3) := by decide +kernel
theorem dX1_readAtLawyer_9 : decode cX1_readAtLawyer 9 = .ok (.aload_n 0, 1) := by decide +kernel
theorem dX1_readAtLawyer_10 : decode cX1_readAtLawyer 10 = .ok (.getfield 29, 3) := by decide +kernel
theorem dX1_readAtLawyer_13 : decode cX1_readAtLawyer 13 = .ok (.iload_n 1, 1) := by decide +kernel
theorem dX1_readAtLawyer_14 : decode cX1_readAtLawyer 14 = .ok (.aaload, 1) := by decide +kernel
theorem dX1_readAtLawyer_15 : decode cX1_readAtLawyer 15 = .ok (.aload_n 0, 1) := by decide +kernel
theorem dX1_readAtLawyer_16 : decode cX1_readAtLawyer 16 = .ok (.getfield 18, 3) := by decide +kernel
theorem dX1_readAtLawyer_19 : decode cX1_readAtLawyer 19 = .ok (.iconst 1, 1) := by decide +kernel
theorem dX1_readAtLawyer_20 : decode cX1_readAtLawyer 20 = .ok (.iaload, 1) := by decide +kernel
theorem dX1_readAtLawyer_21 : decode cX1_readAtLawyer 21 = .ok (.aload_n 0, 1) := by decide +kernel
theorem dX1_readAtLawyer_22 : decode cX1_readAtLawyer 22 = .ok (.getfield 23, 3) := by decide +kernel
theorem dX1_readAtLawyer_25 : decode cX1_readAtLawyer 25 = .ok (.invokevirtual 129, 3) := by decide +kernel
theorem dX1_readAtLawyer_28 : decode cX1_readAtLawyer 28 = .ok (.return_, 1) := by decide +kernel
theorem dX1_firstAtDesk_0 : decode cX1_firstAtDesk 0 = .ok (.iconst 0, 1) := by decide +kernel
theorem dX1_firstAtDesk_1 : decode cX1_firstAtDesk 1 = .ok (.istore_n 2, 1) := by decide +kernel
theorem dX1_firstAtDesk_2 : decode cX1_firstAtDesk 2 = .ok (.iload_n 2, 1) := by decide +kernel
theorem dX1_firstAtDesk_3 : decode cX1_firstAtDesk 3 = .ok (.aload_n 0, 1) := by decide +kernel
theorem dX1_firstAtDesk_4 : decode cX1_firstAtDesk 4 = .ok (.getfield 34, 3) := by decide +kernel
theorem dX1_firstAtDesk_7 : decode cX1_firstAtDesk 7 = .ok (.if_icmp .ge 36, 3) := by decide +kernel
theorem dX1_firstAtDesk_10 : decode cX1_firstAtDesk 10 = .ok (.aload_n 0, 1) := by decide +kernel
theorem dX1_firstAtDesk_11 : decode cX1_firstAtDesk 11 = .ok (.getfield 29, 3) := by decide +kernel
theorem dX1_firstAtDesk_14 : decode cX1_firstAtDesk 14 = .ok (.iload_n 2, 1) := by decide +kernel
theorem dX1_firstAtDesk_15 : decode cX1_firstAtDesk 15 = .ok (.aaload, 1) := by decide +kernel
theorem dX1_firstAtDesk_16 : decode cX1_firstAtDesk 16 = .ok (.getfield 64, 3) := by decide +kernel
theorem dX1_firstAtDesk_19 : decode cX1_firstAtDesk 19 = .ok (.ifCond .ne 18, 3) := by decide +kernel
theorem dX1_firstAtDesk_22 : decode cX1_firstAtDesk 22 = .ok (.aload_n 0, 1) := by decide +kernel
theorem dX1_firstAtDesk_23 : decode cX1_firstAtDesk 23 = .ok (.getfield 29, 3) := by decide +kernel
theorem dX1_firstAtDesk_26 : decode cX1_firstAtDesk 26 = .ok (.iload_n 2, 1) := by decide +kernel
theorem dX1_firstAtDesk_27 : decode cX1_firstAtDesk 27 = .ok (.aaload, 1) := by decide +kernel
theorem dX1_firstAtDesk_28 : decode cX1_firstAtDesk 28 = .ok (.getfield 115, 3) := by decide +kernel
theorem dX1_firstAtDesk_31 : decode cX1_firstAtDesk 31 = .ok (.iload_n 1, 1) := by decide +kernel
theorem dX1_firstAtDesk_32 : decode cX1_firstAtDesk 32 = .ok (.if_icmp .ne 5, 3) := by decide +kernel
theorem dX1_firstAtDesk_35 : decode cX1_firstAtDesk 35 = .ok (.iload_n 2, 1) := by decide +kernel
theorem dX1_firstAtDesk_36 : decode cX1_firstAtDesk 36 = .ok (.ireturn, 1) := by decide +kernel
theorem dX1_firstAtDesk_37 : decode cX1_firstAtDesk 37 = .ok (.iinc 2 1, 3) := by decide +kernel
theorem dX1_firstAtDesk_40 : decode cX1_firstAtDesk 40 = .ok (.goto (-38), 3) := by decide +kernel
theorem dX1_firstAtDesk_43 : decode cX1_firstAtDesk 43 = .ok (.bipush (-6), 2) := by decide +kernel
theorem dX1_firstAtDesk_45 : decode cX1_firstAtDesk 45 = .ok (.ireturn, 1) := by decide +kernel
theorem dX1_firstAtLawyer_0 : decode cX1_firstAtLawyer 0 = .ok (.bipush (-6), 2) := by decide +kernel
theorem dX1_firstAtLawyer_2 : decode cX1_firstAtLawyer 2 = .ok (.istore_n 1, 1) := by decide +kernel
theorem dX1_firstAtLawyer_3 : decode cX1_firstAtLawyer 3 = .ok (.iconst 0, 1) := by decide +kernel
theorem dX1_firstAtLawyer_4 : decode cX1_firstAtLawyer 4 = .ok (.istore_n 2, 1) := by decide +kernel
theorem dX1_firstAtLawyer_5 : decode cX1_firstAtLawyer 5 = .ok (.iload_n 2, 1) := by decide +kernel
theorem dX1_firstAtLawyer_6 : decode cX1_firstAtLawyer 6 = .ok (.aload_n 0, 1) := by decide +kernel
theorem dX1_firstAtLawyer_7 : decode cX1_firstAtLawyer 7 = .ok (.getfield 34, 3) := by decide +kernel
theorem dX1_firstAtLawyer_10 : decode cX1_firstAtLawyer 10 = .ok (.if_icmp .ge 49, 3) := by decide +kernel
theorem dX1_firstAtLawyer_13 : decode cX1_firstAtLawyer 13 = .ok (.aload_n 0, 1) := by decide +kernel
theorem dX1_firstAtLawyer_14 : decode cX1_firstAtLawyer 14 = .ok (.getfield 29, 3) := by decide +kernel
theorem dX1_firstAtLawyer_17 : decode cX1_firstAtLawyer 17 = .ok (.iload_n 2, 1) := by decide +kernel
theorem dX1_firstAtLawyer_18 : decode cX1_firstAtLawyer 18 = .ok (.aaload, 1) := by decide +kernel
theorem dX1_firstAtLawyer_19 : decode cX1_firstAtLawyer 19 = .ok (.getfield 64, 3) := by decide +kernel
theorem dX1_firstAtLawyer_22 : decode cX1_firstAtLawyer 22 = .ok (.iconst 1, 1) := by decide +kernel
theorem dX1_firstAtLawyer_23 : decode cX1_firstAtLawyer 23 = .ok (.if_icmp .ne 30, 3) := by decide +kernel
theorem dX1_firstAtLawyer_26 : decode cX1_firstAtLawyer 26 = .ok (.iload_n 1, 1) := by decide +kernel
theorem dX1_firstAtLawyer_27 : decode cX1_firstAtLawyer 27 = .ok (.ifCond .lt 24, 3) := by decide +kernel
theorem dX1_firstAtLawyer_30 : decode cX1_firstAtLawyer 30 = .ok (.aload_n 0, 1) := by decide +kernel
theorem dX1_firstAtLawyer_31 : decode cX1_firstAtLawyer 31 = .ok (.getfield 29, 3) := by decide +kernel
theorem dX1_firstAtLawyer_34 : decode cX1_firstAtLawyer 34 = .ok (.iload_n 2, 1) := by decide +kernel
theorem dX1_firstAtLawyer_35 : decode cX1_firstAtLawyer 35 = .ok (.aaload, 1) := by decide +kernel
theorem dX1_firstAtLawyer_36 : decode cX1_firstAtLawyer 36 = .ok (.getfield 132, 3) := by decide +kernel
theorem dX1_firstAtLawyer_39 : decode cX1_firstAtLawyer 39 = .ok (.aload_n 0, 1) := by decide +kernel
theorem dX1_firstAtLawyer_40 : decode cX1_firstAtLawyer 40 = .ok (.getfield 29, 3) := by decide +kernel
theorem dX1_firstAtLawyer_43 : decode cX1_firstAtLawyer 43 = .ok (.iload_n 1, 1) := by decide +kernel
theorem dX1_firstAtLawyer_44 : decode cX1_firstAtLawyer 44 = .ok (.aaload, 1) := by decide +kernel
theorem dX1_firstAtLawyer_45 : decode cX1_firstAtLawyer 45 = .ok (.getfield 132, 3) := by decide +kernel
theorem dX1_firstAtLawyer_48 : decode cX1_firstAtLawyer 48 = .ok (.if_icmp .ge 5, 3) := by decide +kernel
theorem dX1_firstAtLawyer_51 : decode cX1_firstAtLawyer 51 = .ok (.iload_n 2, 1) := by decide +kernel
theorem dX1_firstAtLawyer_52 : decode cX1_firstAtLawyer 52 = .ok (.istore_n 1, 1) := by decide +kernel
theorem dX1_firstAtLawyer_53 : decode cX1_firstAtLawyer 53 = .ok (.iinc 2 1, 3) := by decide +kernel
theorem dX1_firstAtLawyer_56 : decode cX1_firstAtLawyer 56 = .ok (.goto (-51), 3) := by decide +kernel
theorem dX1_firstAtLawyer_59 : decode cX1_firstAtLawyer 59 = .ok (.iload_n 1, 1) := by decide +kernel
theorem dX1_firstAtLawyer_60 : decode cX1_firstAtLawyer 60 = .ok (.ireturn, 1) := by decide +kernel
theorem dX1_placeInQueue_0 : decode cX1_placeInQueue 0 = .ok (.aload_n 0, 1) := by decide +kernel
theorem dX1_placeInQueue_1 : decode cX1_placeInQueue 1 = .ok (.getfield 29, 3) := by decide +kernel
theorem dX1_placeInQueue_4 : decode cX1_placeInQueue 4 = .ok (.iload_n 1, 1) := by decide +kernel
theorem dX1_placeInQueue_5 : decode cX1_placeInQueue 5 = .ok (.aaload, 1) := by decide +kernel
theorem dX1_placeInQueue_6 : decode cX1_placeInQueue 6 = .ok (.getfield 64, 3) := by decide +kernel
theorem dX1_placeInQueue_9 : decode cX1_placeInQueue 9 = .ok (.ifCond .ne 9, 3) := by decide +kernel
theorem dX1_placeInQueue_12 : decode cX1_placeInQueue 12 = .ok (.aload_n 0, 1) := by decide +kernel
theorem dX1_placeInQueue_13 : decode cX1_placeInQueue 13 = .ok (.iload_n 1, 1) := by decide +kernel
theorem dX1_placeInQueue_14 : decode cX1_placeInQueue 14 = .ok (.invokevirtual 135, 3) := by decide +kernel
theorem dX1_placeInQueue_17 : decode cX1_placeInQueue 17 = .ok (.ireturn, 1) := by decide +kernel
theorem dX1_placeInQueue_18 : decode cX1_placeInQueue 18 = .ok (.aload_n 0, 1) := by decide +kernel
theorem dX1_placeInQueue_19 : decode cX1_placeInQueue 19 = .ok (.getfield 29, 3) := by decide +kernel
theorem dX1_placeInQueue_22 : decode cX1_placeInQueue 22 = .ok (.iload_n 1, 1) := by decide +kernel
theorem dX1_placeInQueue_23 : decode cX1_placeInQueue 23 = .ok (.aaload, 1) := by decide +kernel
theorem dX1_placeInQueue_24 : decode cX1_placeInQueue 24 = .ok (.getfield 64, 3) := by decide +kernel
theorem dX1_placeInQueue_27 : decode cX1_placeInQueue 27 = .ok (.iconst 1, 1) := by decide +kernel
theorem dX1_placeInQueue_28 : decode cX1_placeInQueue 28 = .ok (.if_icmp .ne 11, 3) := by decide +kernel
theorem dX1_placeInQueue_31 : decode cX1_placeInQueue 31 = .ok (.aload_n 0, 1) := by decide +kernel
theorem dX1_placeInQueue_32 : decode cX1_placeInQueue 32 = .ok (.iload_n 1, 1) := by decide +kernel
theorem dX1_placeInQueue_33 : decode cX1_placeInQueue 33 = .ok (.invokevirtual 138, 3) := by decide +kernel
theorem dX1_placeInQueue_36 : decode cX1_placeInQueue 36 = .ok (.goto 5, 3) := by decide +kernel
theorem dX1_placeInQueue_39 : decode cX1_placeInQueue 39 = .ok (.bipush (-6), 2) := by decide +kernel
theorem dX1_placeInQueue_41 : decode cX1_placeInQueue 41 = .ok (.ireturn, 1) := by decide +kernel
theorem dX1_placeAtDesk_0 : decode cX1_placeAtDesk 0 = .ok (.iconst 0, 1) := by decide +kernel
theorem dX1_placeAtDesk_1 : decode cX1_placeAtDesk 1 = .ok (.istore_n 2, 1) := by decide +kernel
theorem dX1_placeAtDesk_2 : decode cX1_placeAtDesk 2 = .ok (.iconst 0, 1) := by decide +kernel
theorem dX1_placeAtDesk_3 : decode cX1_placeAtDesk 3 = .ok (.istore_n 3, 1) := by decide +kernel
theorem dX1_placeAtDesk_4 : decode cX1_placeAtDesk 4 = .ok (.iload_n 3, 1) := by decide +kernel
theorem dX1_placeAtDesk_5 : decode cX1_placeAtDesk 5 = .ok (.iload_n 1, 1) := by decide +kernel
theorem dX1_placeAtDesk_6 : decode cX1_placeAtDesk 6 = .ok (.if_icmp .ge 53, 3) := by decide +kernel
theorem dX1_placeAtDesk_9 : decode cX1_placeAtDesk 9 = .ok (.iload_n 2, 1) := by decide +kernel
theorem dX1_placeAtDesk_10 : decode cX1_placeAtDesk 10 = .ok (.aload_n 0, 1) := by decide +kernel
theorem dX1_placeAtDesk_11 : decode cX1_placeAtDesk 11 = .ok (.getfield 29, 3) := by decide +kernel
theorem dX1_placeAtDesk_14 : decode cX1_placeAtDesk 14 = .ok (.iload_n 3, 1) := by decide +kernel
theorem dX1_placeAtDesk_15 : decode cX1_placeAtDesk 15 = .ok (.aaload, 1) := by decide +kernel
theorem dX1_placeAtDesk_16 : decode cX1_placeAtDesk 16 = .ok (.getfield 64, 3) := by decide +kernel
theorem dX1_placeAtDesk_19 : decode cX1_placeAtDesk 19 = .ok (.ifCond .ne 28, 3) := by decide +kernel
theorem dX1_placeAtDesk_22 : decode cX1_placeAtDesk 22 = .ok (.aload_n 0, 1) := by decide +kernel
theorem dX1_placeAtDesk_23 : decode cX1_placeAtDesk 23 = .ok (.getfield 29, 3) := by decide +kernel
theorem dX1_placeAtDesk_26 : decode cX1_placeAtDesk 26 = .ok (.iload_n 3, 1) := by decide +kernel
theorem dX1_placeAtDesk_27 : decode cX1_placeAtDesk 27 = .ok (.aaload, 1) := by decide +kernel
theorem dX1_placeAtDesk_28 : decode cX1_placeAtDesk 28 = .ok (.getfield 115, 3) := by decide +kernel
theorem dX1_placeAtDesk_31 : decode cX1_placeAtDesk 31 = .ok (.aload_n 0, 1) := by decide +kernel
theorem dX1_placeAtDesk_32 : decode cX1_placeAtDesk 32 = .ok (.getfield 29, 3) := by decide +kernel
theorem dX1_placeAtDesk_35 : decode cX1_placeAtDesk 35 = .ok (.iload_n 1, 1) := by decide +kernel
theorem dX1_placeAtDesk_36 : decode cX1_placeAtDesk 36 = .ok (.aaload, 1) := by decide +kernel
theorem dX1_placeAtDesk_37 : decode cX1_placeAtDesk 37 = .ok (.getfield 115, 3) := by decide +kernel
theorem dX1_placeAtDesk_40 : decode cX1_placeAtDesk 40 = .ok (.if_icmp .ne 7, 3) := by decide +kernel
theorem dX1_placeAtDesk_43 : decode cX1_placeAtDesk 43 = .ok (.iconst 1, 1) := by decide +kernel
theorem dX1_placeAtDesk_44 : decode cX1_placeAtDesk 44 = .ok (.goto 4, 3) := by decide +kernel
theorem dX1_placeAtDesk_47 : decode cX1_placeAtDesk 47 = .ok (.iconst 0, 1) := by decide +kernel
theorem dX1_placeAtDesk_48 : decode cX1_placeAtDesk 48 = .ok (.invokestatic 89, 3) := by decide +kernel
theorem dX1_placeAtDesk_51 : decode cX1_placeAtDesk 51 = .ok (.iadd, 1) := by decide +kernel
theorem dX1_placeAtDesk_52 : decode cX1_placeAtDesk 52 = .ok (.istore_n 2, 1) := by decide +kernel
theorem dX1_placeAtDesk_53 : decode cX1_placeAtDesk 53 = .ok (.iinc 3 1, 3) := by decide +kernel
theorem dX1_placeAtDesk_56 : decode cX1_placeAtDesk 56 = .ok (.goto (-52), 3) := by decide +kernel
theorem dX1_placeAtDesk_59 : decode cX1_placeAtDesk 59 = .ok (.iload_n 2, 1) := by decide +kernel
theorem dX1_placeAtDesk_60 : decode cX1_placeAtDesk 60 = .ok (.ireturn, 1) := by decide +kernel
theorem dX1_placeAtLawyer_0 : decode cX1_placeAtLawyer 0 = .ok (.iconst 0, 1) := by decide +kernel
theorem dX1_placeAtLawyer_1 : decode cX1_placeAtLawyer 1 = .ok (.istore_n 2, 1) := by decide +kernel
theorem dX1_placeAtLawyer_2 : decode cX1_placeAtLawyer 2 = .ok (.iconst 0, 1) := by decide +kernel
theorem dX1_placeAtLawyer_3 : decode cX1_placeAtLawyer 3 = .ok (.istore_n 3, 1) := by decide +kernel
theorem dX1_placeAtLawyer_4 : decode cX1_placeAtLawyer 4 = .ok (.iload_n 3, 1) := by decide +kernel
theorem dX1_placeAtLawyer_5 : decode cX1_placeAtLawyer 5 = .ok (.aload_n 0, 1) := by decide +kernel
theorem dX1_placeAtLawyer_6 : decode cX1_placeAtLawyer 6 = .ok (.getfield 34, 3) := by decide +kernel
theorem dX1_placeAtLawyer_9 : decode cX1_placeAtLawyer 9 = .ok (.if_icmp .ge 54, 3) := by decide +kernel
theorem dX1_placeAtLawyer_12 : decode cX1_placeAtLawyer 12 = .ok (.iload_n 2, 1) := by decide +kernel
theorem dX1_placeAtLawyer_13 : decode cX1_placeAtLawyer 13 = .ok (.aload_n 0, 1) := by decide +kernel
theorem dX1_placeAtLawyer_14 : decode cX1_placeAtLawyer 14 = .ok (.getfield 29, 3) := by decide +kernel
theorem dX1_placeAtLawyer_17 : decode cX1_placeAtLawyer 17 = .ok (.iload_n 3, 1) := by decide +kernel
theorem dX1_placeAtLawyer_18 : decode cX1_placeAtLawyer 18 = .ok (.aaload, 1) := by decide +kernel
theorem dX1_placeAtLawyer_19 : decode cX1_placeAtLawyer 19 = .ok (.getfield 64, 3) := by decide +kernel
theorem dX1_placeAtLawyer_22 : decode cX1_placeAtLawyer 22 = .ok (.iconst 1, 1) := by decide +kernel
theorem dX1_placeAtLawyer_23 : decode cX1_placeAtLawyer 23 = .ok (.if_icmp .ne 28, 3) := by decide +kernel
theorem dX1_placeAtLawyer_26 : decode cX1_placeAtLawyer 26 = .ok (.aload_n 0, 1) := by decide +kernel
theorem dX1_placeAtLawyer_27 : decode cX1_placeAtLawyer 27 = .ok (.getfield 29, 3) := by decide +kernel
theorem dX1_placeAtLawyer_30 : decode cX1_placeAtLawyer 30 = .ok (.iload_n 3, 1) := by decide +kernel
theorem dX1_placeAtLawyer_31 : decode cX1_placeAtLawyer 31 = .ok (.aaload, 1) := by decide +kernel
theorem dX1_placeAtLawyer_32 : decode cX1_placeAtLawyer 32 = .ok (.getfield 132, 3) := by decide +kernel
theorem dX1_placeAtLawyer_35 : decode cX1_placeAtLawyer 35 = .ok (.aload_n 0, 1) := by decide +kernel
theorem dX1_placeAtLawyer_36 : decode cX1_placeAtLawyer 36 = .ok (.getfield 29, 3) := by decide +kernel
theorem dX1_placeAtLawyer_39 : decode cX1_placeAtLawyer 39 = .ok (.iload_n 1, 1) := by decide +kernel
theorem dX1_placeAtLawyer_40 : decode cX1_placeAtLawyer 40 = .ok (.aaload, 1) := by decide +kernel
theorem dX1_placeAtLawyer_41 : decode cX1_placeAtLawyer 41 = .ok (.getfield 132, 3) := by decide +kernel
theorem dX1_placeAtLawyer_44 : decode cX1_placeAtLawyer 44 = .ok (.if_icmp .ge 7, 3) := by decide +kernel
theorem dX1_placeAtLawyer_47 : decode cX1_placeAtLawyer 47 = .ok (.iconst 1, 1) := by decide +kernel
theorem dX1_placeAtLawyer_48 : decode cX1_placeAtLawyer 48 = .ok (.goto 4, 3) := by decide +kernel
theorem dX1_placeAtLawyer_51 : decode cX1_placeAtLawyer 51 = .ok (.iconst 0, 1) := by decide +kernel
theorem dX1_placeAtLawyer_52 : decode cX1_placeAtLawyer 52 = .ok (.invokestatic 89, 3) := by decide +kernel
theorem dX1_placeAtLawyer_55 : decode cX1_placeAtLawyer 55 = .ok (.iadd, 1) := by decide +kernel
theorem dX1_placeAtLawyer_56 : decode cX1_placeAtLawyer 56 = .ok (.istore_n 2, 1) := by decide +kernel
theorem dX1_placeAtLawyer_57 : decode cX1_placeAtLawyer 57 = .ok (.iinc 3 1, 3) := by decide +kernel
theorem dX1_placeAtLawyer_60 : decode cX1_placeAtLawyer 60 = .ok (.goto (-56), 3) := by decide +kernel
theorem dX1_placeAtLawyer_63 : decode cX1_placeAtLawyer 63 = .ok (.iload_n 2, 1) := by decide +kernel
theorem dX1_placeAtLawyer_64 : decode cX1_placeAtLawyer 64 = .ok (.ireturn, 1) := by decide +kernel
theorem dX1_piecesForPlate_0 : decode cX1_piecesForPlate 0 = .ok (.iconst 0, 1) := by decide +kernel
theorem dX1_piecesForPlate_1 : decode cX1_piecesForPlate 1 = .ok (.istore_n 1, 1) := by decide +kernel
theorem dX1_piecesForPlate_2 : decode cX1_piecesForPlate 2 = .ok (.iconst 0, 1) := by decide +kernel
theorem dX1_piecesForPlate_3 : decode cX1_piecesForPlate 3 = .ok (.istore_n 2, 1) := by decide +kernel
theorem dX1_piecesForPlate_4 : decode cX1_piecesForPlate 4 = .ok (.iload_n 2, 1) := by decide +kernel
theorem dX1_piecesForPlate_5 : decode cX1_piecesForPlate 5 = .ok (.aload_n 0, 1) := by decide +kernel
theorem dX1_piecesForPlate_6 : decode cX1_piecesForPlate 6 = .ok (.getfield 34, 3) := by decide +kernel
theorem dX1_piecesForPlate_9 : decode cX1_piecesForPlate 9 = .ok (.if_icmp .ge 26, 3) := by decide +kernel
theorem dX1_piecesForPlate_12 : decode cX1_piecesForPlate 12 = .ok (.iload_n 1, 1) := by decide +kernel
theorem dX1_piecesForPlate_13 : decode cX1_piecesForPlate 13 = .ok (.aload_n 0, 1) := by decide +kernel
theorem dX1_piecesForPlate_14 : decode cX1_piecesForPlate 14 = .ok (.getfield 29, 3) := by decide +kernel
theorem dX1_piecesForPlate_17 : decode cX1_piecesForPlate 17 = .ok (.iload_n 2, 1) := by decide +kernel
theorem dX1_piecesForPlate_18 : decode cX1_piecesForPlate 18 = .ok (.aaload, 1) := by decide +kernel
theorem dX1_piecesForPlate_19 : decode cX1_piecesForPlate 19 = .ok (.invokevirtual 141, 3) := by decide +kernel
theorem dX1_piecesForPlate_22 : decode cX1_piecesForPlate 22 = .ok (.invokestatic 89, 3) := by decide +kernel
theorem dX1_piecesForPlate_25 : decode cX1_piecesForPlate 25 = .ok (.iload_n 2, 1) := by decide +kernel
theorem dX1_piecesForPlate_26 : decode cX1_piecesForPlate 26 = .ok (.ishl, 1) := by decide +kernel
theorem dX1_piecesForPlate_27 : decode cX1_piecesForPlate 27 = .ok (.ior, 1) := by decide +kernel
theorem dX1_piecesForPlate_28 : decode cX1_piecesForPlate 28 = .ok (.istore_n 1, 1) := by decide +kernel
theorem dX1_piecesForPlate_29 : decode cX1_piecesForPlate 29 = .ok (.iinc 2 1, 3) := by decide +kernel
theorem dX1_piecesForPlate_32 : decode cX1_piecesForPlate 32 = .ok (.goto (-28), 3) := by decide +kernel
theorem dX1_piecesForPlate_35 : decode cX1_piecesForPlate 35 = .ok (.iload_n 1, 1) := by decide +kernel
theorem dX1_piecesForPlate_36 : decode cX1_piecesForPlate 36 = .ok (.ireturn, 1) := by decide +kernel
theorem dX1_linesOf_0 : decode cX1_linesOf 0 = .ok (.iconst 0, 1) := by decide +kernel
theorem dX1_linesOf_1 : decode cX1_linesOf 1 = .ok (.istore_n 2, 1) := by decide +kernel
theorem dX1_linesOf_2 : decode cX1_linesOf 2 = .ok (.iconst 0, 1) := by decide +kernel
theorem dX1_linesOf_3 : decode cX1_linesOf 3 = .ok (.istore_n 3, 1) := by decide +kernel
theorem dX1_linesOf_4 : decode cX1_linesOf 4 = .ok (.iload_n 3, 1) := by decide +kernel
theorem dX1_linesOf_5 : decode cX1_linesOf 5 = .ok (.aload_n 0, 1) := by decide +kernel
theorem dX1_linesOf_6 : decode cX1_linesOf 6 = .ok (.getfield 34, 3) := by decide +kernel
theorem dX1_linesOf_9 : decode cX1_linesOf 9 = .ok (.if_icmp .ge 29, 3) := by decide +kernel
theorem dX1_linesOf_12 : decode cX1_linesOf 12 = .ok (.iload_n 3, 1) := by decide +kernel
theorem dX1_linesOf_13 : decode cX1_linesOf 13 = .ok (.iload_n 1, 1) := by decide +kernel
theorem dX1_linesOf_14 : decode cX1_linesOf 14 = .ok (.invokestatic 118, 3) := by decide +kernel
theorem dX1_linesOf_17 : decode cX1_linesOf 17 = .ok (.ifCond .eq 15, 3) := by decide +kernel
theorem dX1_linesOf_20 : decode cX1_linesOf 20 = .ok (.iload_n 2, 1) := by decide +kernel
theorem dX1_linesOf_21 : decode cX1_linesOf 21 = .ok (.aload_n 0, 1) := by decide +kernel
theorem dX1_linesOf_22 : decode cX1_linesOf 22 = .ok (.getfield 29, 3) := by decide +kernel
theorem dX1_linesOf_25 : decode cX1_linesOf 25 = .ok (.iload_n 3, 1) := by decide +kernel
theorem dX1_linesOf_26 : decode cX1_linesOf 26 = .ok (.aaload, 1) := by decide +kernel
theorem dX1_linesOf_27 : decode cX1_linesOf 27 = .ok (.getfield 144, 3) := by decide +kernel
theorem dX1_linesOf_30 : decode cX1_linesOf 30 = .ok (.iadd, 1) := by decide +kernel
theorem dX1_linesOf_31 : decode cX1_linesOf 31 = .ok (.istore_n 2, 1) := by decide +kernel
theorem dX1_linesOf_32 : decode cX1_linesOf 32 = .ok (.iinc 3 1, 3) := by decide +kernel
theorem dX1_linesOf_35 : decode cX1_linesOf 35 = .ok (.goto (-31), 3) := by decide +kernel
theorem dX1_linesOf_38 : decode cX1_linesOf 38 = .ok (.iload_n 2, 1) := by decide +kernel
theorem dX1_linesOf_39 : decode cX1_linesOf 39 = .ok (.ireturn, 1) := by decide +kernel
theorem dX1_takenNow_0 : decode cX1_takenNow 0 = .ok (.aload_n 0, 1) := by decide +kernel
theorem dX1_takenNow_1 : decode cX1_takenNow 1 = .ok (.invokevirtual 147, 3) := by decide +kernel
theorem dX1_takenNow_4 : decode cX1_takenNow 4 = .ok (.istore_n 1, 1) := by decide +kernel
theorem dX1_takenNow_5 : decode cX1_takenNow 5 = .ok (.iconst 0, 1) := by decide +kernel
theorem dX1_takenNow_6 : decode cX1_takenNow 6 = .ok (.istore_n 2, 1) := by decide +kernel
theorem dX1_takenNow_7 : decode cX1_takenNow 7 = .ok (.iconst 0, 1) := by decide +kernel
theorem dX1_takenNow_8 : decode cX1_takenNow 8 = .ok (.istore_n 3, 1) := by decide +kernel
theorem dX1_takenNow_9 : decode cX1_takenNow 9 = .ok (.iconst 0, 1) := by decide +kernel
theorem dX1_takenNow_10 : decode cX1_takenNow 10 = .ok (.istore 4, 2) := by decide +kernel
theorem dX1_takenNow_12 : decode cX1_takenNow 12 = .ok (.iload 4, 2) := by decide +kernel
theorem dX1_takenNow_14 : decode cX1_takenNow 14 = .ok (.aload_n 0, 1) := by decide +kernel
theorem dX1_takenNow_15 : decode cX1_takenNow 15 = .ok (.getfield 34, 3) := by decide +kernel
theorem dX1_takenNow_18 : decode cX1_takenNow 18 = .ok (.if_icmp .ge 73, 3) := by decide +kernel
theorem dX1_takenNow_21 : decode cX1_takenNow 21 = .ok (.aload_n 0, 1) := by decide +kernel
theorem dX1_takenNow_22 : decode cX1_takenNow 22 = .ok (.iload_n 1, 1) := by decide +kernel
theorem dX1_takenNow_23 : decode cX1_takenNow 23 = .ok (.invokevirtual 150, 3) := by decide +kernel
theorem dX1_takenNow_26 : decode cX1_takenNow 26 = .ok (.istore 5, 2) := by decide +kernel
theorem dX1_takenNow_28 : decode cX1_takenNow 28 = .ok (.iload 5, 2) := by decide +kernel
theorem dX1_takenNow_30 : decode cX1_takenNow 30 = .ok (.ifCond .ge 5, 3) := by decide +kernel
theorem dX1_takenNow_33 : decode cX1_takenNow 33 = .ok (.iload_n 2, 1) := by decide +kernel
theorem dX1_takenNow_34 : decode cX1_takenNow 34 = .ok (.ireturn, 1) := by decide +kernel
theorem dX1_takenNow_35 : decode cX1_takenNow 35 = .ok (.iload_n 1, 1) := by decide +kernel
theorem dX1_takenNow_36 : decode cX1_takenNow 36 = .ok (.iconst 1, 1) := by decide +kernel
theorem dX1_takenNow_37 : decode cX1_takenNow 37 = .ok (.iload 5, 2) := by decide +kernel
theorem dX1_takenNow_39 : decode cX1_takenNow 39 = .ok (.ishl, 1) := by decide +kernel
theorem dX1_takenNow_40 : decode cX1_takenNow 40 = .ok (.iconst (-1), 1) := by decide +kernel
theorem dX1_takenNow_41 : decode cX1_takenNow 41 = .ok (.ixor, 1) := by decide +kernel
theorem dX1_takenNow_42 : decode cX1_takenNow 42 = .ok (.iand, 1) := by decide +kernel
theorem dX1_takenNow_43 : decode cX1_takenNow 43 = .ok (.istore_n 1, 1) := by decide +kernel
theorem dX1_takenNow_44 : decode cX1_takenNow 44 = .ok (.iload_n 3, 1) := by decide +kernel
theorem dX1_takenNow_45 : decode cX1_takenNow 45 = .ok (.aload_n 0, 1) := by decide +kernel
theorem dX1_takenNow_46 : decode cX1_takenNow 46 = .ok (.getfield 29, 3) := by decide +kernel
theorem dX1_takenNow_49 : decode cX1_takenNow 49 = .ok (.iload 5, 2) := by decide +kernel
theorem dX1_takenNow_51 : decode cX1_takenNow 51 = .ok (.aaload, 1) := by decide +kernel
theorem dX1_takenNow_52 : decode cX1_takenNow 52 = .ok (.getfield 144, 3) := by decide +kernel
theorem dX1_takenNow_55 : decode cX1_takenNow 55 = .ok (.iadd, 1) := by decide +kernel
theorem dX1_takenNow_56 : decode cX1_takenNow 56 = .ok (.aload_n 0, 1) := by decide +kernel
theorem dX1_takenNow_57 : decode cX1_takenNow 57 = .ok (.getfield 18, 3) := by decide +kernel
theorem dX1_takenNow_60 : decode cX1_takenNow 60 = .ok (.iconst 2, 1) := by decide +kernel
theorem dX1_takenNow_61 : decode cX1_takenNow 61 = .ok (.iaload, 1) := by decide +kernel
theorem dX1_takenNow_62 : decode cX1_takenNow 62 = .ok (.if_icmp .gt 23, 3) := by decide +kernel
theorem dX1_takenNow_65 : decode cX1_takenNow 65 = .ok (.iload_n 3, 1) := by decide +kernel
theorem dX1_takenNow_66 : decode cX1_takenNow 66 = .ok (.aload_n 0, 1) := by decide +kernel
theorem dX1_takenNow_67 : decode cX1_takenNow 67 = .ok (.getfield 29, 3) := by decide +kernel
theorem dX1_takenNow_70 : decode cX1_takenNow 70 = .ok (.iload 5, 2) := by decide +kernel
theorem dX1_takenNow_72 : decode cX1_takenNow 72 = .ok (.aaload, 1) := by decide +kernel
theorem dX1_takenNow_73 : decode cX1_takenNow 73 = .ok (.getfield 144, 3) := by decide +kernel
theorem dX1_takenNow_76 : decode cX1_takenNow 76 = .ok (.iadd, 1) := by decide +kernel
theorem dX1_takenNow_77 : decode cX1_takenNow 77 = .ok (.istore_n 3, 1) := by decide +kernel
theorem dX1_takenNow_78 : decode cX1_takenNow 78 = .ok (.iload_n 2, 1) := by decide +kernel
theorem dX1_takenNow_79 : decode cX1_takenNow 79 = .ok (.iconst 1, 1) := by decide +kernel
theorem dX1_takenNow_80 : decode cX1_takenNow 80 = .ok (.iload 5, 2) := by decide +kernel
theorem dX1_takenNow_82 : decode cX1_takenNow 82 = .ok (.ishl, 1) := by decide +kernel
theorem dX1_takenNow_83 : decode cX1_takenNow 83 = .ok (.ior, 1) := by decide +kernel
theorem dX1_takenNow_84 : decode cX1_takenNow 84 = .ok (.istore_n 2, 1) := by decide +kernel
theorem dX1_takenNow_85 : decode cX1_takenNow 85 = .ok (.iinc 4 1, 3) := by decide +kernel
theorem dX1_takenNow_88 : decode cX1_takenNow 88 = .ok (.goto (-76), 3) := by decide +kernel
theorem dX1_takenNow_91 : decode cX1_takenNow 91 = .ok (.iload_n 2, 1) := by decide +kernel
theorem dX1_takenNow_92 : decode cX1_takenNow 92 = .ok (.ireturn, 1) := by decide +kernel
theorem dX1_firstByRank_0 : decode cX1_firstByRank 0 = .ok (.bipush (-6), 2) := by decide +kernel
theorem dX1_firstByRank_2 : decode cX1_firstByRank 2 = .ok (.istore_n 2, 1) := by decide +kernel
theorem dX1_firstByRank_3 : decode cX1_firstByRank 3 = .ok (.iconst 0, 1) := by decide +kernel
theorem dX1_firstByRank_4 : decode cX1_firstByRank 4 = .ok (.istore_n 3, 1) := by decide +kernel
theorem dX1_firstByRank_5 : decode cX1_firstByRank 5 = .ok (.iload_n 3, 1) := by decide +kernel
theorem dX1_firstByRank_6 : decode cX1_firstByRank 6 = .ok (.aload_n 0, 1) := by decide +kernel
theorem dX1_firstByRank_7 : decode cX1_firstByRank 7 = .ok (.getfield 34, 3) := by decide +kernel
theorem dX1_firstByRank_10 : decode cX1_firstByRank 10 = .ok (.if_icmp .ge 32, 3) := by decide +kernel
theorem dX1_firstByRank_13 : decode cX1_firstByRank 13 = .ok (.iload_n 3, 1) := by decide +kernel
theorem dX1_firstByRank_14 : decode cX1_firstByRank 14 = .ok (.iload_n 1, 1) := by decide +kernel
theorem dX1_firstByRank_15 : decode cX1_firstByRank 15 = .ok (.invokestatic 118, 3) := by decide +kernel
theorem dX1_firstByRank_18 : decode cX1_firstByRank 18 = .ok (.ifCond .eq 18, 3) := by decide +kernel
theorem dX1_firstByRank_21 : decode cX1_firstByRank 21 = .ok (.iload_n 2, 1) := by decide +kernel
theorem dX1_firstByRank_22 : decode cX1_firstByRank 22 = .ok (.ifCond .lt 12, 3) := by decide +kernel
theorem dX1_firstByRank_25 : decode cX1_firstByRank 25 = .ok (.aload_n 0, 1) := by decide +kernel
theorem dX1_firstByRank_26 : decode cX1_firstByRank 26 = .ok (.iload_n 3, 1) := by decide +kernel
theorem dX1_firstByRank_27 : decode cX1_firstByRank 27 = .ok (.iload_n 2, 1) := by decide +kernel
theorem dX1_firstByRank_28 : decode cX1_firstByRank 28 = .ok (.invokevirtual 153, 3) := by decide +kernel
theorem dX1_firstByRank_31 : decode cX1_firstByRank 31 = .ok (.ifCond .eq 5, 3) := by decide +kernel
theorem dX1_firstByRank_34 : decode cX1_firstByRank 34 = .ok (.iload_n 3, 1) := by decide +kernel
theorem dX1_firstByRank_35 : decode cX1_firstByRank 35 = .ok (.istore_n 2, 1) := by decide +kernel
theorem dX1_firstByRank_36 : decode cX1_firstByRank 36 = .ok (.iinc 3 1, 3) := by decide +kernel
theorem dX1_firstByRank_39 : decode cX1_firstByRank 39 = .ok (.goto (-34), 3) := by decide +kernel
theorem dX1_firstByRank_42 : decode cX1_firstByRank 42 = .ok (.iload_n 2, 1) := by decide +kernel
theorem dX1_firstByRank_43 : decode cX1_firstByRank 43 = .ok (.ireturn, 1) := by decide +kernel
theorem dX1_lastTakenAheadOf_0 : decode cX1_lastTakenAheadOf 0 = .ok (.aload_n 0, 1) := by decide +kernel
theorem dX1_lastTakenAheadOf_1 : decode cX1_lastTakenAheadOf 1 = .ok (.invokevirtual 109, 3) := by decide +kernel
theorem dX1_lastTakenAheadOf_4 : decode cX1_lastTakenAheadOf 4 = .ok (.istore_n 2, 1) := by decide +kernel
theorem dX1_lastTakenAheadOf_5 : decode cX1_lastTakenAheadOf 5 = .ok (.bipush (-6), 2) := by decide +kernel
theorem dX1_lastTakenAheadOf_7 : decode cX1_lastTakenAheadOf 7 = .ok (.istore_n 3, 1) := by decide +kernel
theorem dX1_lastTakenAheadOf_8 : decode cX1_lastTakenAheadOf 8 = .ok (.iconst 0, 1) := by decide +kernel
theorem dX1_lastTakenAheadOf_9 : decode cX1_lastTakenAheadOf 9 = .ok (.istore 4, 2) := by decide +kernel
theorem dX1_lastTakenAheadOf_11 : decode cX1_lastTakenAheadOf 11 = .ok (.iload 4, 2) := by decide +kernel
theorem dX1_lastTakenAheadOf_13 : decode cX1_lastTakenAheadOf 13 = .ok (.aload_n 0, 1) := by decide +kernel
theorem dX1_lastTakenAheadOf_14 : decode cX1_lastTakenAheadOf 14 = .ok (.getfield 34, 3) := by decide +kernel
theorem dX1_lastTakenAheadOf_17 : decode cX1_lastTakenAheadOf 17 = .ok (.if_icmp .ge 45, 3) := by decide +kernel
theorem dX1_lastTakenAheadOf_20 : decode cX1_lastTakenAheadOf 20 = .ok (.iload 4, 2) := by decide +kernel
theorem dX1_lastTakenAheadOf_22 : decode cX1_lastTakenAheadOf 22 = .ok (.iload_n 2, 1) := by decide +kernel
theorem dX1_lastTakenAheadOf_23 : decode cX1_lastTakenAheadOf 23 = .ok (.invokestatic 118, 3) := by decide +kernel
theorem dX1_lastTakenAheadOf_26 : decode cX1_lastTakenAheadOf 26 = .ok (.ifCond .eq 30, 3) := by decide +kernel
theorem dX1_lastTakenAheadOf_29 : decode cX1_lastTakenAheadOf 29 = .ok (.aload_n 0, 1) := by decide +kernel
theorem dX1_lastTakenAheadOf_30 : decode cX1_lastTakenAheadOf 30 = .ok (.iload 4, 2) := by decide +kernel
theorem dX1_lastTakenAheadOf_32 : decode cX1_lastTakenAheadOf 32 = .ok (.iload_n 1, 1) := by decide +kernel
theorem dX1_lastTakenAheadOf_33 : decode cX1_lastTakenAheadOf 33 = .ok (.invokevirtual 153, 3) := by decide +kernel
theorem dX1_lastTakenAheadOf_36 : decode cX1_lastTakenAheadOf 36 = .ok (.ifCond .eq 20, 3) := by decide +kernel
theorem dX1_lastTakenAheadOf_39 : decode cX1_lastTakenAheadOf 39 = .ok (.iload_n 3, 1) := by decide +kernel
theorem dX1_lastTakenAheadOf_40 : decode cX1_lastTakenAheadOf 40 = .ok (.ifCond .lt 13, 3) := by decide +kernel
theorem dX1_lastTakenAheadOf_43 : decode cX1_lastTakenAheadOf 43 = .ok (.aload_n 0, 1) := by decide +kernel
theorem dX1_lastTakenAheadOf_44 : decode cX1_lastTakenAheadOf 44 = .ok (.iload_n 3, 1) := by decide +kernel
theorem dX1_lastTakenAheadOf_45 : decode cX1_lastTakenAheadOf 45 = .ok (.iload 4, 2) := by decide +kernel
theorem dX1_lastTakenAheadOf_47 : decode cX1_lastTakenAheadOf 47 = .ok (.invokevirtual 153, 3) := by decide +kernel
theorem dX1_lastTakenAheadOf_50 : decode cX1_lastTakenAheadOf 50 = .ok (.ifCond .eq 6, 3) := by decide +kernel
theorem dX1_lastTakenAheadOf_53 : decode cX1_lastTakenAheadOf 53 = .ok (.iload 4, 2) := by decide +kernel
theorem dX1_lastTakenAheadOf_55 : decode cX1_lastTakenAheadOf 55 = .ok (.istore_n 3, 1) := by decide +kernel
theorem dX1_lastTakenAheadOf_56 : decode cX1_lastTakenAheadOf 56 = .ok (.iinc 4 1, 3) := by decide +kernel
theorem dX1_lastTakenAheadOf_59 : decode cX1_lastTakenAheadOf 59 = .ok (.goto (-48), 3) := by decide +kernel
theorem dX1_lastTakenAheadOf_62 : decode cX1_lastTakenAheadOf 62 = .ok (.iload_n 3, 1) := by decide +kernel
theorem dX1_lastTakenAheadOf_63 : decode cX1_lastTakenAheadOf 63 = .ok (.ireturn, 1) := by decide +kernel
theorem dX1_goesAhead_0 : decode cX1_goesAhead 0 = .ok (.aload_n 0, 1) := by decide +kernel
theorem dX1_goesAhead_1 : decode cX1_goesAhead 1 = .ok (.getfield 29, 3) := by decide +kernel
theorem dX1_goesAhead_4 : decode cX1_goesAhead 4 = .ok (.iload_n 1, 1) := by decide +kernel
theorem dX1_goesAhead_5 : decode cX1_goesAhead 5 = .ok (.aaload, 1) := by decide +kernel
theorem dX1_goesAhead_6 : decode cX1_goesAhead 6 = .ok (.astore_n 3, 1) := by decide +kernel
theorem dX1_goesAhead_7 : decode cX1_goesAhead 7 = .ok (.aload_n 0, 1) := by decide +kernel
theorem dX1_goesAhead_8 : decode cX1_goesAhead 8 = .ok (.getfield 29, 3) := by decide +kernel
theorem dX1_goesAhead_11 : decode cX1_goesAhead 11 = .ok (.iload_n 2, 1) := by decide +kernel
theorem dX1_goesAhead_12 : decode cX1_goesAhead 12 = .ok (.aaload, 1) := by decide +kernel
theorem dX1_goesAhead_13 : decode cX1_goesAhead 13 = .ok (.astore 4, 2) := by decide +kernel
theorem dX1_goesAhead_15 : decode cX1_goesAhead 15 = .ok (.aload_n 3, 1) := by decide +kernel
theorem dX1_goesAhead_16 : decode cX1_goesAhead 16 = .ok (.getfield 156, 3) := by decide +kernel
theorem dX1_goesAhead_19 : decode cX1_goesAhead 19 = .ok (.aload 4, 2) := by decide +kernel
theorem dX1_goesAhead_21 : decode cX1_goesAhead 21 = .ok (.getfield 156, 3) := by decide +kernel
theorem dX1_goesAhead_24 : decode cX1_goesAhead 24 = .ok (.if_icmp .eq 21, 3) := by decide +kernel
theorem dX1_goesAhead_27 : decode cX1_goesAhead 27 = .ok (.aload_n 3, 1) := by decide +kernel
theorem dX1_goesAhead_28 : decode cX1_goesAhead 28 = .ok (.getfield 156, 3) := by decide +kernel
theorem dX1_goesAhead_31 : decode cX1_goesAhead 31 = .ok (.aload 4, 2) := by decide +kernel
theorem dX1_goesAhead_33 : decode cX1_goesAhead 33 = .ok (.getfield 156, 3) := by decide +kernel
theorem dX1_goesAhead_36 : decode cX1_goesAhead 36 = .ok (.if_icmp .le 7, 3) := by decide +kernel
theorem dX1_goesAhead_39 : decode cX1_goesAhead 39 = .ok (.iconst 1, 1) := by decide +kernel
theorem dX1_goesAhead_40 : decode cX1_goesAhead 40 = .ok (.goto 4, 3) := by decide +kernel
theorem dX1_goesAhead_43 : decode cX1_goesAhead 43 = .ok (.iconst 0, 1) := by decide +kernel
theorem dX1_goesAhead_44 : decode cX1_goesAhead 44 = .ok (.ireturn, 1) := by decide +kernel
theorem dX1_goesAhead_45 : decode cX1_goesAhead 45 = .ok (.aload_n 3, 1) := by decide +kernel
theorem dX1_goesAhead_46 : decode cX1_goesAhead 46 = .ok (.getfield 159, 3) := by decide +kernel
theorem dX1_goesAhead_49 : decode cX1_goesAhead 49 = .ok (.aload 4, 2) := by decide +kernel
theorem dX1_goesAhead_51 : decode cX1_goesAhead 51 = .ok (.getfield 159, 3) := by decide +kernel
theorem dX1_goesAhead_54 : decode cX1_goesAhead 54 = .ok (.if_icmp .eq 21, 3) := by decide +kernel
theorem dX1_goesAhead_57 : decode cX1_goesAhead 57 = .ok (.aload_n 3, 1) := by decide +kernel
theorem dX1_goesAhead_58 : decode cX1_goesAhead 58 = .ok (.getfield 159, 3) := by decide +kernel
theorem dX1_goesAhead_61 : decode cX1_goesAhead 61 = .ok (.aload 4, 2) := by decide +kernel
theorem dX1_goesAhead_63 : decode cX1_goesAhead 63 = .ok (.getfield 159, 3) := by decide +kernel
theorem dX1_goesAhead_66 : decode cX1_goesAhead 66 = .ok (.if_icmp .ge 7, 3) := by decide +kernel
theorem dX1_goesAhead_69 : decode cX1_goesAhead 69 = .ok (.iconst 1, 1) := by decide +kernel
theorem dX1_goesAhead_70 : decode cX1_goesAhead 70 = .ok (.goto 4, 3) := by decide +kernel
theorem dX1_goesAhead_73 : decode cX1_goesAhead 73 = .ok (.iconst 0, 1) := by decide +kernel
theorem dX1_goesAhead_74 : decode cX1_goesAhead 74 = .ok (.ireturn, 1) := by decide +kernel
theorem dX1_goesAhead_75 : decode cX1_goesAhead 75 = .ok (.iload_n 1, 1) := by decide +kernel
theorem dX1_goesAhead_76 : decode cX1_goesAhead 76 = .ok (.iload_n 2, 1) := by decide +kernel
theorem dX1_goesAhead_77 : decode cX1_goesAhead 77 = .ok (.if_icmp .ge 7, 3) := by decide +kernel
theorem dX1_goesAhead_80 : decode cX1_goesAhead 80 = .ok (.iconst 1, 1) := by decide +kernel
theorem dX1_goesAhead_81 : decode cX1_goesAhead 81 = .ok (.goto 4, 3) := by decide +kernel
theorem dX1_goesAhead_84 : decode cX1_goesAhead 84 = .ok (.iconst 0, 1) := by decide +kernel
theorem dX1_goesAhead_85 : decode cX1_goesAhead 85 = .ok (.ireturn, 1) := by decide +kernel
theorem dX1_whyNotOnPlate_0 : decode cX1_whyNotOnPlate 0 = .ok (.aload_n 0, 1) := by decide +kernel
theorem dX1_whyNotOnPlate_1 : decode cX1_whyNotOnPlate 1 = .ok (.iload_n 1, 1) := by decide +kernel
theorem dX1_whyNotOnPlate_2 : decode cX1_whyNotOnPlate 2 = .ok (.invokevirtual 60, 3) := by decide +kernel
theorem dX1_whyNotOnPlate_5 : decode cX1_whyNotOnPlate 5 = .ok (.ifCond .ne 5, 3) := by decide +kernel
theorem dX1_whyNotOnPlate_8 : decode cX1_whyNotOnPlate 8 = .ok (.iconst (-1), 1) := by decide +kernel
theorem dX1_whyNotOnPlate_9 : decode cX1_whyNotOnPlate 9 = .ok (.ireturn, 1) := by decide +kernel
theorem dX1_whyNotOnPlate_10 : decode cX1_whyNotOnPlate 10 = .ok (.iload_n 2, 1) := by decide +kernel
theorem dX1_whyNotOnPlate_11 : decode cX1_whyNotOnPlate 11 = .ok (.ifCond .ne 9, 3) := by decide +kernel
theorem dX1_whyNotOnPlate_14 : decode cX1_whyNotOnPlate 14 = .ok (.aload_n 0, 1) := by decide +kernel
theorem dX1_whyNotOnPlate_15 : decode cX1_whyNotOnPlate 15 = .ok (.iload_n 1, 1) := by decide +kernel
theorem dX1_whyNotOnPlate_16 : decode cX1_whyNotOnPlate 16 = .ok (.invokevirtual 162, 3) := by decide +kernel
theorem dX1_whyNotOnPlate_19 : decode cX1_whyNotOnPlate 19 = .ok (.ireturn, 1) := by decide +kernel
theorem dX1_whyNotOnPlate_20 : decode cX1_whyNotOnPlate 20 = .ok (.iload_n 2, 1) := by decide +kernel
theorem dX1_whyNotOnPlate_21 : decode cX1_whyNotOnPlate 21 = .ok (.iconst 1, 1) := by decide +kernel
theorem dX1_whyNotOnPlate_22 : decode cX1_whyNotOnPlate 22 = .ok (.if_icmp .ne 11, 3) := by decide +kernel
theorem dX1_whyNotOnPlate_25 : decode cX1_whyNotOnPlate 25 = .ok (.aload_n 0, 1) := by decide +kernel
theorem dX1_whyNotOnPlate_26 : decode cX1_whyNotOnPlate 26 = .ok (.iload_n 1, 1) := by decide +kernel
theorem dX1_whyNotOnPlate_27 : decode cX1_whyNotOnPlate 27 = .ok (.invokevirtual 165, 3) := by decide +kernel
theorem dX1_whyNotOnPlate_30 : decode cX1_whyNotOnPlate 30 = .ok (.goto 5, 3) := by decide +kernel
theorem dX1_whyNotOnPlate_33 : decode cX1_whyNotOnPlate 33 = .ok (.bipush (-2), 2) := by decide +kernel
theorem dX1_whyNotOnPlate_35 : decode cX1_whyNotOnPlate 35 = .ok (.ireturn, 1) := by decide +kernel
theorem dX1_reasonOf_0 : decode cX1_reasonOf 0 = .ok (.aload_n 0, 1) := by decide +kernel
theorem dX1_reasonOf_1 : decode cX1_reasonOf 1 = .ok (.getfield 29, 3) := by decide +kernel
theorem dX1_reasonOf_4 : decode cX1_reasonOf 4 = .ok (.iload_n 1, 1) := by decide +kernel
theorem dX1_reasonOf_5 : decode cX1_reasonOf 5 = .ok (.aaload, 1) := by decide +kernel
theorem dX1_reasonOf_6 : decode cX1_reasonOf 6 = .ok (.astore_n 2, 1) := by decide +kernel
theorem dX1_reasonOf_7 : decode cX1_reasonOf 7 = .ok (.aload_n 2, 1) := by decide +kernel
theorem dX1_reasonOf_8 : decode cX1_reasonOf 8 = .ok (.getfield 64, 3) := by decide +kernel
theorem dX1_reasonOf_11 : decode cX1_reasonOf 11 = .ok (.iconst 3, 1) := by decide +kernel
theorem dX1_reasonOf_12 : decode cX1_reasonOf 12 = .ok (.if_icmp .ne 5, 3) := by decide +kernel
theorem dX1_reasonOf_15 : decode cX1_reasonOf 15 = .ok (.iconst 1, 1) := by decide +kernel
theorem dX1_reasonOf_16 : decode cX1_reasonOf 16 = .ok (.ireturn, 1) := by decide +kernel
theorem dX1_reasonOf_17 : decode cX1_reasonOf 17 = .ok (.aload_n 2, 1) := by decide +kernel
theorem dX1_reasonOf_18 : decode cX1_reasonOf 18 = .ok (.getfield 85, 3) := by decide +kernel
theorem dX1_reasonOf_21 : decode cX1_reasonOf 21 = .ok (.ifCond .eq 5, 3) := by decide +kernel
theorem dX1_reasonOf_24 : decode cX1_reasonOf 24 = .ok (.iconst 2, 1) := by decide +kernel
theorem dX1_reasonOf_25 : decode cX1_reasonOf 25 = .ok (.ireturn, 1) := by decide +kernel
theorem dX1_reasonOf_26 : decode cX1_reasonOf 26 = .ok (.aload_n 2, 1) := by decide +kernel
theorem dX1_reasonOf_27 : decode cX1_reasonOf 27 = .ok (.getfield 64, 3) := by decide +kernel
theorem dX1_reasonOf_30 : decode cX1_reasonOf 30 = .ok (.ifCond .ne 5, 3) := by decide +kernel
theorem dX1_reasonOf_33 : decode cX1_reasonOf 33 = .ok (.iconst 3, 1) := by decide +kernel
theorem dX1_reasonOf_34 : decode cX1_reasonOf 34 = .ok (.ireturn, 1) := by decide +kernel
theorem dX1_reasonOf_35 : decode cX1_reasonOf 35 = .ok (.aload_n 2, 1) := by decide +kernel
theorem dX1_reasonOf_36 : decode cX1_reasonOf 36 = .ok (.getfield 64, 3) := by decide +kernel
theorem dX1_reasonOf_39 : decode cX1_reasonOf 39 = .ok (.iconst 1, 1) := by decide +kernel
theorem dX1_reasonOf_40 : decode cX1_reasonOf 40 = .ok (.if_icmp .ne 5, 3) := by decide +kernel
theorem dX1_reasonOf_43 : decode cX1_reasonOf 43 = .ok (.iconst 4, 1) := by decide +kernel
theorem dX1_reasonOf_44 : decode cX1_reasonOf 44 = .ok (.ireturn, 1) := by decide +kernel
theorem dX1_reasonOf_45 : decode cX1_reasonOf 45 = .ok (.iload_n 1, 1) := by decide +kernel
theorem dX1_reasonOf_46 : decode cX1_reasonOf 46 = .ok (.aload_n 0, 1) := by decide +kernel
theorem dX1_reasonOf_47 : decode cX1_reasonOf 47 = .ok (.invokevirtual 109, 3) := by decide +kernel
theorem dX1_reasonOf_50 : decode cX1_reasonOf 50 = .ok (.invokestatic 118, 3) := by decide +kernel
theorem dX1_reasonOf_53 : decode cX1_reasonOf 53 = .ok (.ifCond .eq 7, 3) := by decide +kernel
theorem dX1_reasonOf_56 : decode cX1_reasonOf 56 = .ok (.iconst 0, 1) := by decide +kernel
theorem dX1_reasonOf_57 : decode cX1_reasonOf 57 = .ok (.goto 4, 3) := by decide +kernel
theorem dX1_reasonOf_60 : decode cX1_reasonOf 60 = .ok (.iconst 5, 1) := by decide +kernel
theorem dX1_reasonOf_61 : decode cX1_reasonOf 61 = .ok (.ireturn, 1) := by decide +kernel
theorem dX1_causeOf_0 : decode cX1_causeOf 0 = .ok (.aload_n 0, 1) := by decide +kernel
theorem dX1_causeOf_1 : decode cX1_causeOf 1 = .ok (.iload_n 1, 1) := by decide +kernel
theorem dX1_causeOf_2 : decode cX1_causeOf 2 = .ok (.invokevirtual 162, 3) := by decide +kernel
theorem dX1_causeOf_5 : decode cX1_causeOf 5 = .ok (.tableswitch 52 3 5 #[27, 41, 46], 27) := by decide +kernel
theorem dX1_causeOf_32 : decode cX1_causeOf 32 = .ok (.aload_n 0, 1) := by decide +kernel
theorem dX1_causeOf_33 : decode cX1_causeOf 33 = .ok (.aload_n 0, 1) := by decide +kernel
theorem dX1_causeOf_34 : decode cX1_causeOf 34 = .ok (.getfield 29, 3) := by decide +kernel
theorem dX1_causeOf_37 : decode cX1_causeOf 37 = .ok (.iload_n 1, 1) := by decide +kernel
theorem dX1_causeOf_38 : decode cX1_causeOf 38 = .ok (.aaload, 1) := by decide +kernel
theorem dX1_causeOf_39 : decode cX1_causeOf 39 = .ok (.getfield 115, 3) := by decide +kernel
theorem dX1_causeOf_42 : decode cX1_causeOf 42 = .ok (.invokevirtual 168, 3) := by decide +kernel
theorem dX1_causeOf_45 : decode cX1_causeOf 45 = .ok (.ireturn, 1) := by decide +kernel
theorem dX1_causeOf_46 : decode cX1_causeOf 46 = .ok (.aload_n 0, 1) := by decide +kernel
theorem dX1_causeOf_47 : decode cX1_causeOf 47 = .ok (.invokevirtual 126, 3) := by decide +kernel
theorem dX1_causeOf_50 : decode cX1_causeOf 50 = .ok (.ireturn, 1) := by decide +kernel
theorem dX1_causeOf_51 : decode cX1_causeOf 51 = .ok (.aload_n 0, 1) := by decide +kernel
theorem dX1_causeOf_52 : decode cX1_causeOf 52 = .ok (.iload_n 1, 1) := by decide +kernel
theorem dX1_causeOf_53 : decode cX1_causeOf 53 = .ok (.invokevirtual 171, 3) := by decide +kernel
theorem dX1_causeOf_56 : decode cX1_causeOf 56 = .ok (.ireturn, 1) := by decide +kernel
theorem dX1_causeOf_57 : decode cX1_causeOf 57 = .ok (.bipush (-6), 2) := by decide +kernel
theorem dX1_causeOf_59 : decode cX1_causeOf 59 = .ok (.ireturn, 1) := by decide +kernel
theorem dX1_isMade_0 : decode cX1_isMade 0 = .ok (.aload_n 0, 1) := by decide +kernel
theorem dX1_isMade_1 : decode cX1_isMade 1 = .ok (.getfield 39, 3) := by decide +kernel
theorem dX1_isMade_4 : decode cX1_isMade 4 = .ok (.iload_n 1, 1) := by decide +kernel
theorem dX1_isMade_5 : decode cX1_isMade 5 = .ok (.aaload, 1) := by decide +kernel
theorem dX1_isMade_6 : decode cX1_isMade 6 = .ok (.getfield 174, 3) := by decide +kernel
theorem dX1_isMade_9 : decode cX1_isMade 9 = .ok (.aload_n 0, 1) := by decide +kernel
theorem dX1_isMade_10 : decode cX1_isMade 10 = .ok (.getfield 23, 3) := by decide +kernel
theorem dX1_isMade_13 : decode cX1_isMade 13 = .ok (.if_icmp .ge 7, 3) := by decide +kernel
theorem dX1_isMade_16 : decode cX1_isMade 16 = .ok (.iconst 1, 1) := by decide +kernel
theorem dX1_isMade_17 : decode cX1_isMade 17 = .ok (.goto 4, 3) := by decide +kernel
theorem dX1_isMade_20 : decode cX1_isMade 20 = .ok (.iconst 0, 1) := by decide +kernel
theorem dX1_isMade_21 : decode cX1_isMade 21 = .ok (.ireturn, 1) := by decide +kernel
theorem dX1_nextDue_0 : decode cX1_nextDue 0 = .ok (.aload_n 0, 1) := by decide +kernel
theorem dX1_nextDue_1 : decode cX1_nextDue 1 = .ok (.invokevirtual 175, 3) := by decide +kernel
theorem dX1_nextDue_4 : decode cX1_nextDue 4 = .ok (.istore_n 1, 1) := by decide +kernel
theorem dX1_nextDue_5 : decode cX1_nextDue 5 = .ok (.iload_n 1, 1) := by decide +kernel
theorem dX1_nextDue_6 : decode cX1_nextDue 6 = .ok (.aload_n 0, 1) := by decide +kernel
theorem dX1_nextDue_7 : decode cX1_nextDue 7 = .ok (.getfield 44, 3) := by decide +kernel
theorem dX1_nextDue_10 : decode cX1_nextDue 10 = .ok (.if_icmp .ge 7, 3) := by decide +kernel
theorem dX1_nextDue_13 : decode cX1_nextDue 13 = .ok (.iload_n 1, 1) := by decide +kernel
theorem dX1_nextDue_14 : decode cX1_nextDue 14 = .ok (.goto 5, 3) := by decide +kernel
theorem dX1_nextDue_17 : decode cX1_nextDue 17 = .ok (.bipush (-6), 2) := by decide +kernel
theorem dX1_nextDue_19 : decode cX1_nextDue 19 = .ok (.ireturn, 1) := by decide +kernel
theorem dX1_minutesToPlate_0 : decode cX1_minutesToPlate 0 = .ok (.iload_n 1, 1) := by decide +kernel
theorem dX1_minutesToPlate_1 : decode cX1_minutesToPlate 1 = .ok (.ifCond .lt 30, 3) := by decide +kernel
theorem dX1_minutesToPlate_4 : decode cX1_minutesToPlate 4 = .ok (.iload_n 1, 1) := by decide +kernel
theorem dX1_minutesToPlate_5 : decode cX1_minutesToPlate 5 = .ok (.aload_n 0, 1) := by decide +kernel
theorem dX1_minutesToPlate_6 : decode cX1_minutesToPlate 6 = .ok (.getfield 44, 3) := by decide +kernel
theorem dX1_minutesToPlate_9 : decode cX1_minutesToPlate 9 = .ok (.if_icmp .ge 22, 3) := by decide +kernel
theorem dX1_minutesToPlate_12 : decode cX1_minutesToPlate 12 = .ok (.aload_n 0, 1) := by decide +kernel
theorem dX1_minutesToPlate_13 : decode cX1_minutesToPlate 13 = .ok (.getfield 39, 3) := by decide +kernel
theorem dX1_minutesToPlate_16 : decode cX1_minutesToPlate 16 = .ok (.iload_n 1, 1) := by decide +kernel
theorem dX1_minutesToPlate_17 : decode cX1_minutesToPlate 17 = .ok (.aaload, 1) := by decide +kernel
theorem dX1_minutesToPlate_18 : decode cX1_minutesToPlate 18 = .ok (.getfield 174, 3) := by decide +kernel
theorem dX1_minutesToPlate_21 : decode cX1_minutesToPlate 21 = .ok (.aload_n 0, 1) := by decide +kernel
theorem dX1_minutesToPlate_22 : decode cX1_minutesToPlate 22 = .ok (.getfield 23, 3) := by decide +kernel
theorem dX1_minutesToPlate_25 : decode cX1_minutesToPlate 25 = .ok (.isub, 1) := by decide +kernel
theorem dX1_minutesToPlate_26 : decode cX1_minutesToPlate 26 = .ok (.iconst 1, 1) := by decide +kernel
theorem dX1_minutesToPlate_27 : decode cX1_minutesToPlate 27 = .ok (.iadd, 1) := by decide +kernel
theorem dX1_minutesToPlate_28 : decode cX1_minutesToPlate 28 = .ok (.goto 4, 3) := by decide +kernel
theorem dX1_minutesToPlate_31 : decode cX1_minutesToPlate 31 = .ok (.iconst 0, 1) := by decide +kernel
theorem dX1_minutesToPlate_32 : decode cX1_minutesToPlate 32 = .ok (.ireturn, 1) := by decide +kernel
theorem dX1_madePlates_0 : decode cX1_madePlates 0 = .ok (.iconst 0, 1) := by decide +kernel
theorem dX1_madePlates_1 : decode cX1_madePlates 1 = .ok (.istore_n 1, 1) := by decide +kernel
theorem dX1_madePlates_2 : decode cX1_madePlates 2 = .ok (.iconst 0, 1) := by decide +kernel
theorem dX1_madePlates_3 : decode cX1_madePlates 3 = .ok (.istore_n 2, 1) := by decide +kernel
theorem dX1_madePlates_4 : decode cX1_madePlates 4 = .ok (.iload_n 2, 1) := by decide +kernel
theorem dX1_madePlates_5 : decode cX1_madePlates 5 = .ok (.aload_n 0, 1) := by decide +kernel
theorem dX1_madePlates_6 : decode cX1_madePlates 6 = .ok (.getfield 44, 3) := by decide +kernel
theorem dX1_madePlates_9 : decode cX1_madePlates 9 = .ok (.if_icmp .ge 20, 3) := by decide +kernel
theorem dX1_madePlates_12 : decode cX1_madePlates 12 = .ok (.iload_n 1, 1) := by decide +kernel
theorem dX1_madePlates_13 : decode cX1_madePlates 13 = .ok (.aload_n 0, 1) := by decide +kernel
theorem dX1_madePlates_14 : decode cX1_madePlates 14 = .ok (.iload_n 2, 1) := by decide +kernel
theorem dX1_madePlates_15 : decode cX1_madePlates 15 = .ok (.invokevirtual 178, 3) := by decide +kernel
theorem dX1_madePlates_18 : decode cX1_madePlates 18 = .ok (.invokestatic 89, 3) := by decide +kernel
theorem dX1_madePlates_21 : decode cX1_madePlates 21 = .ok (.iadd, 1) := by decide +kernel
theorem dX1_madePlates_22 : decode cX1_madePlates 22 = .ok (.istore_n 1, 1) := by decide +kernel
theorem dX1_madePlates_23 : decode cX1_madePlates 23 = .ok (.iinc 2 1, 3) := by decide +kernel
theorem dX1_madePlates_26 : decode cX1_madePlates 26 = .ok (.goto (-22), 3) := by decide +kernel
theorem dX1_madePlates_29 : decode cX1_madePlates 29 = .ok (.iload_n 1, 1) := by decide +kernel
theorem dX1_madePlates_30 : decode cX1_madePlates 30 = .ok (.ireturn, 1) := by decide +kernel
theorem dX1_plateAt_0 : decode cX1_plateAt 0 = .ok (.iconst 0, 1) := by decide +kernel
theorem dX1_plateAt_1 : decode cX1_plateAt 1 = .ok (.istore_n 2, 1) := by decide +kernel
theorem dX1_plateAt_2 : decode cX1_plateAt 2 = .ok (.iload_n 2, 1) := by decide +kernel
theorem dX1_plateAt_3 : decode cX1_plateAt 3 = .ok (.aload_n 0, 1) := by decide +kernel
theorem dX1_plateAt_4 : decode cX1_plateAt 4 = .ok (.getfield 44, 3) := by decide +kernel
theorem dX1_plateAt_7 : decode cX1_plateAt 7 = .ok (.if_icmp .ge 24, 3) := by decide +kernel
theorem dX1_plateAt_10 : decode cX1_plateAt 10 = .ok (.aload_n 0, 1) := by decide +kernel
theorem dX1_plateAt_11 : decode cX1_plateAt 11 = .ok (.getfield 39, 3) := by decide +kernel
theorem dX1_plateAt_14 : decode cX1_plateAt 14 = .ok (.iload_n 2, 1) := by decide +kernel
theorem dX1_plateAt_15 : decode cX1_plateAt 15 = .ok (.aaload, 1) := by decide +kernel
theorem dX1_plateAt_16 : decode cX1_plateAt 16 = .ok (.getfield 174, 3) := by decide +kernel
theorem dX1_plateAt_19 : decode cX1_plateAt 19 = .ok (.iload_n 1, 1) := by decide +kernel
theorem dX1_plateAt_20 : decode cX1_plateAt 20 = .ok (.if_icmp .ne 5, 3) := by decide +kernel
theorem dX1_plateAt_23 : decode cX1_plateAt 23 = .ok (.iload_n 2, 1) := by decide +kernel
theorem dX1_plateAt_24 : decode cX1_plateAt 24 = .ok (.ireturn, 1) := by decide +kernel
theorem dX1_plateAt_25 : decode cX1_plateAt 25 = .ok (.iinc 2 1, 3) := by decide +kernel
theorem dX1_plateAt_28 : decode cX1_plateAt 28 = .ok (.goto (-26), 3) := by decide +kernel
theorem dX1_plateAt_31 : decode cX1_plateAt 31 = .ok (.bipush (-6), 2) := by decide +kernel
theorem dX1_plateAt_33 : decode cX1_plateAt 33 = .ok (.ireturn, 1) := by decide +kernel
theorem dX1_isOnLatestMade_0 : decode cX1_isOnLatestMade 0 = .ok (.aload_n 0, 1) := by decide +kernel
theorem dX1_isOnLatestMade_1 : decode cX1_isOnLatestMade 1 = .ok (.invokevirtual 175, 3) := by decide +kernel
theorem dX1_isOnLatestMade_4 : decode cX1_isOnLatestMade 4 = .ok (.iconst 1, 1) := by decide +kernel
theorem dX1_isOnLatestMade_5 : decode cX1_isOnLatestMade 5 = .ok (.isub, 1) := by decide +kernel
theorem dX1_isOnLatestMade_6 : decode cX1_isOnLatestMade 6 = .ok (.istore_n 2, 1) := by decide +kernel
theorem dX1_isOnLatestMade_7 : decode cX1_isOnLatestMade 7 = .ok (.iload_n 2, 1) := by decide +kernel
theorem dX1_isOnLatestMade_8 : decode cX1_isOnLatestMade 8 = .ok (.ifCond .lt 23, 3) := by decide +kernel
theorem dX1_isOnLatestMade_11 : decode cX1_isOnLatestMade 11 = .ok (.iload_n 1, 1) := by decide +kernel
theorem dX1_isOnLatestMade_12 : decode cX1_isOnLatestMade 12 = .ok (.aload_n 0, 1) := by decide +kernel
theorem dX1_isOnLatestMade_13 : decode cX1_isOnLatestMade 13 = .ok (.getfield 39, 3) := by decide +kernel
theorem dX1_isOnLatestMade_16 : decode cX1_isOnLatestMade 16 = .ok (.iload_n 2, 1) := by decide +kernel
theorem dX1_isOnLatestMade_17 : decode cX1_isOnLatestMade 17 = .ok (.aaload, 1) := by decide +kernel
theorem dX1_isOnLatestMade_18 : decode cX1_isOnLatestMade 18 = .ok (.getfield 113, 3) := by decide +kernel
theorem dX1_isOnLatestMade_21 : decode cX1_isOnLatestMade 21 = .ok (.invokestatic 118, 3) := by decide +kernel
theorem dX1_isOnLatestMade_24 : decode cX1_isOnLatestMade 24 = .ok (.ifCond .eq 7, 3) := by decide +kernel
theorem dX1_isOnLatestMade_27 : decode cX1_isOnLatestMade 27 = .ok (.iconst 1, 1) := by decide +kernel
theorem dX1_isOnLatestMade_28 : decode cX1_isOnLatestMade 28 = .ok (.goto 4, 3) := by decide +kernel
theorem dX1_isOnLatestMade_31 : decode cX1_isOnLatestMade 31 = .ok (.iconst 0, 1) := by decide +kernel
theorem dX1_isOnLatestMade_32 : decode cX1_isOnLatestMade 32 = .ok (.ireturn, 1) := by decide +kernel
theorem dX1_tellReplate_0 : decode cX1_tellReplate 0 = .ok (.aload_n 0, 1) := by decide +kernel
theorem dX1_tellReplate_1 : decode cX1_tellReplate 1 = .ok (.getfield 23, 3) := by decide +kernel
theorem dX1_tellReplate_4 : decode cX1_tellReplate 4 = .ok (.aload_n 0, 1) := by decide +kernel
theorem dX1_tellReplate_5 : decode cX1_tellReplate 5 = .ok (.getfield 18, 3) := by decide +kernel
theorem dX1_tellReplate_8 : decode cX1_tellReplate 8 = .ok (.iconst 3, 1) := by decide +kernel
theorem dX1_tellReplate_9 : decode cX1_tellReplate 9 = .ok (.iaload, 1) := by decide +kernel
theorem dX1_tellReplate_10 : decode cX1_tellReplate 10 = .ok (.iadd, 1) := by decide +kernel
theorem dX1_tellReplate_11 : decode cX1_tellReplate 11 = .ok (.istore_n 1, 1) := by decide +kernel
theorem dX1_tellReplate_12 : decode cX1_tellReplate 12 = .ok (.aload_n 0, 1) := by decide +kernel
theorem dX1_tellReplate_13 : decode cX1_tellReplate 13 = .ok (.invokevirtual 181, 3) := by decide +kernel
theorem dX1_tellReplate_16 : decode cX1_tellReplate 16 = .ok (.istore_n 2, 1) := by decide +kernel
theorem dX1_tellReplate_17 : decode cX1_tellReplate 17 = .ok (.iload_n 2, 1) := by decide +kernel
theorem dX1_tellReplate_18 : decode cX1_tellReplate 18 = .ok (.ifCond .lt 18, 3) := by decide +kernel
theorem dX1_tellReplate_21 : decode cX1_tellReplate 21 = .ok (.aload_n 0, 1) := by decide +kernel
theorem dX1_tellReplate_22 : decode cX1_tellReplate 22 = .ok (.getfield 39, 3) := by decide +kernel
theorem dX1_tellReplate_25 : decode cX1_tellReplate 25 = .ok (.iload_n 2, 1) := by decide +kernel
theorem dX1_tellReplate_26 : decode cX1_tellReplate 26 = .ok (.aaload, 1) := by decide +kernel
theorem dX1_tellReplate_27 : decode cX1_tellReplate 27 = .ok (.getfield 174, 3) := by decide +kernel
theorem dX1_tellReplate_30 : decode cX1_tellReplate 30 = .ok (.iload_n 1, 1) := by decide +kernel
theorem dX1_tellReplate_31 : decode cX1_tellReplate 31 = .ok (.if_icmp .gt 5, 3) := by decide +kernel
theorem dX1_tellReplate_34 : decode cX1_tellReplate 34 = .ok (.iconst 0, 1) := by decide +kernel
theorem dX1_tellReplate_35 : decode cX1_tellReplate 35 = .ok (.ireturn, 1) := by decide +kernel
theorem dX1_tellReplate_36 : decode cX1_tellReplate 36 = .ok (.aload_n 0, 1) := by decide +kernel
theorem dX1_tellReplate_37 : decode cX1_tellReplate 37 = .ok (.getfield 44, 3) := by decide +kernel
theorem dX1_tellReplate_40 : decode cX1_tellReplate 40 = .ok (.bipush 8, 2) := by decide +kernel
theorem dX1_tellReplate_42 : decode cX1_tellReplate 42 = .ok (.if_icmp .ge 10, 3) := by decide +kernel
theorem dX1_tellReplate_45 : decode cX1_tellReplate 45 = .ok (.iload_n 1, 1) := by decide +kernel
theorem dX1_tellReplate_46 : decode cX1_tellReplate 46 = .ok (.sipush 600, 3) := by decide +kernel
theorem dX1_tellReplate_49 : decode cX1_tellReplate 49 = .ok (.if_icmp .lt 5, 3) := by decide +kernel
theorem dX1_tellReplate_52 : decode cX1_tellReplate 52 = .ok (.iconst 0, 1) := by decide +kernel
theorem dX1_tellReplate_53 : decode cX1_tellReplate 53 = .ok (.ireturn, 1) := by decide +kernel
theorem dX1_tellReplate_54 : decode cX1_tellReplate 54 = .ok (.aload_n 0, 1) := by decide +kernel
theorem dX1_tellReplate_55 : decode cX1_tellReplate 55 = .ok (.iload_n 1, 1) := by decide +kernel
theorem dX1_tellReplate_56 : decode cX1_tellReplate 56 = .ok (.iconst 1, 1) := by decide +kernel
theorem dX1_tellReplate_57 : decode cX1_tellReplate 57 = .ok (.invokevirtual 81, 3) := by decide +kernel
theorem dX1_tellReplate_60 : decode cX1_tellReplate 60 = .ok (.pop, 1) := by decide +kernel
theorem dX1_tellReplate_61 : decode cX1_tellReplate 61 = .ok (.iconst 1, 1) := by decide +kernel
theorem dX1_tellReplate_62 : decode cX1_tellReplate 62 = .ok (.ireturn, 1) := by decide +kernel
theorem dX1_insertPlate_0 : decode cX1_insertPlate 0 = .ok (.aload_n 0, 1) := by decide +kernel
theorem dX1_insertPlate_1 : decode cX1_insertPlate 1 = .ok (.getfield 44, 3) := by decide +kernel
theorem dX1_insertPlate_4 : decode cX1_insertPlate 4 = .ok (.istore_n 3, 1) := by decide +kernel
theorem dX1_insertPlate_5 : decode cX1_insertPlate 5 = .ok (.iload_n 3, 1) := by decide +kernel
theorem dX1_insertPlate_6 : decode cX1_insertPlate 6 = .ok (.ifCond .le 41, 3) := by decide +kernel
theorem dX1_insertPlate_9 : decode cX1_insertPlate 9 = .ok (.aload_n 0, 1) := by decide +kernel
theorem dX1_insertPlate_10 : decode cX1_insertPlate 10 = .ok (.getfield 39, 3) := by decide +kernel
theorem dX1_insertPlate_13 : decode cX1_insertPlate 13 = .ok (.iload_n 3, 1) := by decide +kernel
theorem dX1_insertPlate_14 : decode cX1_insertPlate 14 = .ok (.iconst 1, 1) := by decide +kernel
theorem dX1_insertPlate_15 : decode cX1_insertPlate 15 = .ok (.isub, 1) := by decide +kernel
theorem dX1_insertPlate_16 : decode cX1_insertPlate 16 = .ok (.aaload, 1) := by decide +kernel
theorem dX1_insertPlate_17 : decode cX1_insertPlate 17 = .ok (.getfield 174, 3) := by decide +kernel
theorem dX1_insertPlate_20 : decode cX1_insertPlate 20 = .ok (.iload_n 1, 1) := by decide +kernel
theorem dX1_insertPlate_21 : decode cX1_insertPlate 21 = .ok (.if_icmp .le 26, 3) := by decide +kernel
theorem dX1_insertPlate_24 : decode cX1_insertPlate 24 = .ok (.aload_n 0, 1) := by decide +kernel
theorem dX1_insertPlate_25 : decode cX1_insertPlate 25 = .ok (.getfield 39, 3) := by decide +kernel
theorem dX1_insertPlate_28 : decode cX1_insertPlate 28 = .ok (.iload_n 3, 1) := by decide +kernel
theorem dX1_insertPlate_29 : decode cX1_insertPlate 29 = .ok (.aaload, 1) := by decide +kernel
theorem dX1_insertPlate_30 : decode cX1_insertPlate 30 = .ok (.aload_n 0, 1) := by decide +kernel
theorem dX1_insertPlate_31 : decode cX1_insertPlate 31 = .ok (.getfield 39, 3) := by decide +kernel
theorem dX1_insertPlate_34 : decode cX1_insertPlate 34 = .ok (.iload_n 3, 1) := by decide +kernel
theorem dX1_insertPlate_35 : decode cX1_insertPlate 35 = .ok (.iconst 1, 1) := by decide +kernel
theorem dX1_insertPlate_36 : decode cX1_insertPlate 36 = .ok (.isub, 1) := by decide +kernel
theorem dX1_insertPlate_37 : decode cX1_insertPlate 37 = .ok (.aaload, 1) := by decide +kernel
theorem dX1_insertPlate_38 : decode cX1_insertPlate 38 = .ok (.invokevirtual 57, 3) := by decide +kernel
theorem dX1_insertPlate_41 : decode cX1_insertPlate 41 = .ok (.iinc 3 (-1), 3) := by decide +kernel
theorem dX1_insertPlate_44 : decode cX1_insertPlate 44 = .ok (.goto (-39), 3) := by decide +kernel
theorem dX1_insertPlate_47 : decode cX1_insertPlate 47 = .ok (.aload_n 0, 1) := by decide +kernel
theorem dX1_insertPlate_48 : decode cX1_insertPlate 48 = .ok (.getfield 39, 3) := by decide +kernel
theorem dX1_insertPlate_51 : decode cX1_insertPlate 51 = .ok (.iload_n 3, 1) := by decide +kernel
theorem dX1_insertPlate_52 : decode cX1_insertPlate 52 = .ok (.aaload, 1) := by decide +kernel
theorem dX1_insertPlate_53 : decode cX1_insertPlate 53 = .ok (.iload_n 1, 1) := by decide +kernel
theorem dX1_insertPlate_54 : decode cX1_insertPlate 54 = .ok (.iload_n 2, 1) := by decide +kernel
theorem dX1_insertPlate_55 : decode cX1_insertPlate 55 = .ok (.invokevirtual 184, 3) := by decide +kernel
theorem dX1_insertPlate_58 : decode cX1_insertPlate 58 = .ok (.aload_n 0, 1) := by decide +kernel
theorem dX1_insertPlate_59 : decode cX1_insertPlate 59 = .ok (.dup, 1) := by decide +kernel
theorem dX1_insertPlate_60 : decode cX1_insertPlate 60 = .ok (.getfield 44, 3) := by decide +kernel
theorem dX1_insertPlate_63 : decode cX1_insertPlate 63 = .ok (.iconst 1, 1) := by decide +kernel
theorem dX1_insertPlate_64 : decode cX1_insertPlate 64 = .ok (.iadd, 1) := by decide +kernel
theorem dX1_insertPlate_65 : decode cX1_insertPlate 65 = .ok (.putfield 44, 3) := by decide +kernel
theorem dX1_insertPlate_68 : decode cX1_insertPlate 68 = .ok (.iload_n 3, 1) := by decide +kernel
theorem dX1_insertPlate_69 : decode cX1_insertPlate 69 = .ok (.ireturn, 1) := by decide +kernel
theorem dX1_factOfPiece_0 : decode cX1_factOfPiece 0 = .ok (.aload_n 0, 1) := by decide +kernel
theorem dX1_factOfPiece_1 : decode cX1_factOfPiece 1 = .ok (.iload_n 1, 1) := by decide +kernel
theorem dX1_factOfPiece_2 : decode cX1_factOfPiece 2 = .ok (.invokevirtual 60, 3) := by decide +kernel
theorem dX1_factOfPiece_5 : decode cX1_factOfPiece 5 = .ok (.ifCond .ne 5, 3) := by decide +kernel
theorem dX1_factOfPiece_8 : decode cX1_factOfPiece 8 = .ok (.iconst (-1), 1) := by decide +kernel
theorem dX1_factOfPiece_9 : decode cX1_factOfPiece 9 = .ok (.ireturn, 1) := by decide +kernel
theorem dX1_factOfPiece_10 : decode cX1_factOfPiece 10 = .ok (.aload_n 0, 1) := by decide +kernel
theorem dX1_factOfPiece_11 : decode cX1_factOfPiece 11 = .ok (.getfield 29, 3) := by decide +kernel
theorem dX1_factOfPiece_14 : decode cX1_factOfPiece 14 = .ok (.iload_n 1, 1) := by decide +kernel
theorem dX1_factOfPiece_15 : decode cX1_factOfPiece 15 = .ok (.aaload, 1) := by decide +kernel
theorem dX1_factOfPiece_16 : decode cX1_factOfPiece 16 = .ok (.astore_n 3, 1) := by decide +kernel
theorem dX1_factOfPiece_17 : decode cX1_factOfPiece 17 = .ok (.iload_n 2, 1) := by decide +kernel
theorem dX1_factOfPiece_18 : decode cX1_factOfPiece 18 = .ok (.tableswitch 121 0 10 #[58, 63, 68, 73, 81, 86, 94, 99, 104, 110, 115], 58) := by decide +kernel
theorem dX1_factOfPiece_76 : decode cX1_factOfPiece 76 = .ok (.aload_n 3, 1) := by decide +kernel
theorem dX1_factOfPiece_77 : decode cX1_factOfPiece 77 = .ok (.getfield 115, 3) := by decide +kernel
theorem dX1_factOfPiece_80 : decode cX1_factOfPiece 80 = .ok (.ireturn, 1) := by decide +kernel
theorem dX1_factOfPiece_81 : decode cX1_factOfPiece 81 = .ok (.aload_n 3, 1) := by decide +kernel
theorem dX1_factOfPiece_82 : decode cX1_factOfPiece 82 = .ok (.getfield 144, 3) := by decide +kernel
theorem dX1_factOfPiece_85 : decode cX1_factOfPiece 85 = .ok (.ireturn, 1) := by decide +kernel
theorem dX1_factOfPiece_86 : decode cX1_factOfPiece 86 = .ok (.aload_n 3, 1) := by decide +kernel
theorem dX1_factOfPiece_87 : decode cX1_factOfPiece 87 = .ok (.getfield 156, 3) := by decide +kernel
theorem dX1_factOfPiece_90 : decode cX1_factOfPiece 90 = .ok (.ireturn, 1) := by decide +kernel
theorem dX1_factOfPiece_91 : decode cX1_factOfPiece 91 = .ok (.aload_n 3, 1) := by decide +kernel
theorem dX1_factOfPiece_92 : decode cX1_factOfPiece 92 = .ok (.getfield 188, 3) := by decide +kernel
theorem dX1_factOfPiece_95 : decode cX1_factOfPiece 95 = .ok (.invokestatic 89, 3) := by decide +kernel
theorem dX1_factOfPiece_98 : decode cX1_factOfPiece 98 = .ok (.ireturn, 1) := by decide +kernel
theorem dX1_factOfPiece_99 : decode cX1_factOfPiece 99 = .ok (.aload_n 3, 1) := by decide +kernel
theorem dX1_factOfPiece_100 : decode cX1_factOfPiece 100 = .ok (.getfield 64, 3) := by decide +kernel
theorem dX1_factOfPiece_103 : decode cX1_factOfPiece 103 = .ok (.ireturn, 1) := by decide +kernel
theorem dX1_factOfPiece_104 : decode cX1_factOfPiece 104 = .ok (.aload_n 3, 1) := by decide +kernel
theorem dX1_factOfPiece_105 : decode cX1_factOfPiece 105 = .ok (.getfield 85, 3) := by decide +kernel
theorem dX1_factOfPiece_108 : decode cX1_factOfPiece 108 = .ok (.invokestatic 89, 3) := by decide +kernel
theorem dX1_factOfPiece_111 : decode cX1_factOfPiece 111 = .ok (.ireturn, 1) := by decide +kernel
theorem dX1_factOfPiece_112 : decode cX1_factOfPiece 112 = .ok (.aload_n 3, 1) := by decide +kernel
theorem dX1_factOfPiece_113 : decode cX1_factOfPiece 113 = .ok (.getfield 191, 3) := by decide +kernel
theorem dX1_factOfPiece_116 : decode cX1_factOfPiece 116 = .ok (.ireturn, 1) := by decide +kernel
theorem dX1_factOfPiece_117 : decode cX1_factOfPiece 117 = .ok (.aload_n 3, 1) := by decide +kernel
theorem dX1_factOfPiece_118 : decode cX1_factOfPiece 118 = .ok (.getfield 194, 3) := by decide +kernel
theorem dX1_factOfPiece_121 : decode cX1_factOfPiece 121 = .ok (.ireturn, 1) := by decide +kernel
theorem dX1_factOfPiece_122 : decode cX1_factOfPiece 122 = .ok (.aload_n 0, 1) := by decide +kernel
theorem dX1_factOfPiece_123 : decode cX1_factOfPiece 123 = .ok (.iload_n 1, 1) := by decide +kernel
theorem dX1_factOfPiece_124 : decode cX1_factOfPiece 124 = .ok (.invokevirtual 197, 3) := by decide +kernel
theorem dX1_factOfPiece_127 : decode cX1_factOfPiece 127 = .ok (.ireturn, 1) := by decide +kernel
theorem dX1_factOfPiece_128 : decode cX1_factOfPiece 128 = .ok (.aload_n 3, 1) := by decide +kernel
theorem dX1_factOfPiece_129 : decode cX1_factOfPiece 129 = .ok (.getfield 159, 3) := by decide +kernel
theorem dX1_factOfPiece_132 : decode cX1_factOfPiece 132 = .ok (.ireturn, 1) := by decide +kernel
theorem dX1_factOfPiece_133 : decode cX1_factOfPiece 133 = .ok (.aload_n 0, 1) := by decide +kernel
theorem dX1_factOfPiece_134 : decode cX1_factOfPiece 134 = .ok (.iload_n 1, 1) := by decide +kernel
theorem dX1_factOfPiece_135 : decode cX1_factOfPiece 135 = .ok (.invokevirtual 200, 3) := by decide +kernel
theorem dX1_factOfPiece_138 : decode cX1_factOfPiece 138 = .ok (.ireturn, 1) := by decide +kernel
theorem dX1_factOfPiece_139 : decode cX1_factOfPiece 139 = .ok (.bipush (-2), 2) := by decide +kernel
theorem dX1_factOfPiece_141 : decode cX1_factOfPiece 141 = .ok (.ireturn, 1) := by decide +kernel
theorem dX1_platesWith_0 : decode cX1_platesWith 0 = .ok (.iconst 0, 1) := by decide +kernel
theorem dX1_platesWith_1 : decode cX1_platesWith 1 = .ok (.istore_n 2, 1) := by decide +kernel
theorem dX1_platesWith_2 : decode cX1_platesWith 2 = .ok (.iconst 0, 1) := by decide +kernel
theorem dX1_platesWith_3 : decode cX1_platesWith 3 = .ok (.istore_n 3, 1) := by decide +kernel
theorem dX1_platesWith_4 : decode cX1_platesWith 4 = .ok (.iload_n 3, 1) := by decide +kernel
theorem dX1_platesWith_5 : decode cX1_platesWith 5 = .ok (.aload_n 0, 1) := by decide +kernel
theorem dX1_platesWith_6 : decode cX1_platesWith 6 = .ok (.getfield 44, 3) := by decide +kernel
theorem dX1_platesWith_9 : decode cX1_platesWith 9 = .ok (.if_icmp .ge 30, 3) := by decide +kernel
theorem dX1_platesWith_12 : decode cX1_platesWith 12 = .ok (.iload_n 2, 1) := by decide +kernel
theorem dX1_platesWith_13 : decode cX1_platesWith 13 = .ok (.iload_n 1, 1) := by decide +kernel
theorem dX1_platesWith_14 : decode cX1_platesWith 14 = .ok (.aload_n 0, 1) := by decide +kernel
theorem dX1_platesWith_15 : decode cX1_platesWith 15 = .ok (.getfield 39, 3) := by decide +kernel
theorem dX1_platesWith_18 : decode cX1_platesWith 18 = .ok (.iload_n 3, 1) := by decide +kernel
theorem dX1_platesWith_19 : decode cX1_platesWith 19 = .ok (.aaload, 1) := by decide +kernel
theorem dX1_platesWith_20 : decode cX1_platesWith 20 = .ok (.getfield 113, 3) := by decide +kernel
theorem dX1_platesWith_23 : decode cX1_platesWith 23 = .ok (.invokestatic 118, 3) := by decide +kernel
theorem dX1_platesWith_26 : decode cX1_platesWith 26 = .ok (.invokestatic 89, 3) := by decide +kernel
theorem dX1_platesWith_29 : decode cX1_platesWith 29 = .ok (.iload_n 3, 1) := by decide +kernel
theorem dX1_platesWith_30 : decode cX1_platesWith 30 = .ok (.ishl, 1) := by decide +kernel
theorem dX1_platesWith_31 : decode cX1_platesWith 31 = .ok (.ior, 1) := by decide +kernel
theorem dX1_platesWith_32 : decode cX1_platesWith 32 = .ok (.istore_n 2, 1) := by decide +kernel
theorem dX1_platesWith_33 : decode cX1_platesWith 33 = .ok (.iinc 3 1, 3) := by decide +kernel
theorem dX1_platesWith_36 : decode cX1_platesWith 36 = .ok (.goto (-32), 3) := by decide +kernel
theorem dX1_platesWith_39 : decode cX1_platesWith 39 = .ok (.iload_n 2, 1) := by decide +kernel
theorem dX1_platesWith_40 : decode cX1_platesWith 40 = .ok (.ireturn, 1) := by decide +kernel
theorem dX1_factOfPlate_0 : decode cX1_factOfPlate 0 = .ok (.iload_n 1, 1) := by decide +kernel
theorem dX1_factOfPlate_1 : decode cX1_factOfPlate 1 = .ok (.ifCond .lt 11, 3) := by decide +kernel
theorem dX1_factOfPlate_4 : decode cX1_factOfPlate 4 = .ok (.iload_n 1, 1) := by decide +kernel
theorem dX1_factOfPlate_5 : decode cX1_factOfPlate 5 = .ok (.aload_n 0, 1) := by decide +kernel
theorem dX1_factOfPlate_6 : decode cX1_factOfPlate 6 = .ok (.getfield 44, 3) := by decide +kernel
theorem dX1_factOfPlate_9 : decode cX1_factOfPlate 9 = .ok (.if_icmp .lt 5, 3) := by decide +kernel
theorem dX1_factOfPlate_12 : decode cX1_factOfPlate 12 = .ok (.iconst (-1), 1) := by decide +kernel
theorem dX1_factOfPlate_13 : decode cX1_factOfPlate 13 = .ok (.ireturn, 1) := by decide +kernel
theorem dX1_factOfPlate_14 : decode cX1_factOfPlate 14 = .ok (.iload_n 2, 1) := by decide +kernel
theorem dX1_factOfPlate_15 : decode cX1_factOfPlate 15 = .ok (.tableswitch 89 0 4 #[33, 43, 52, 65, 75], 33) := by decide +kernel
theorem dX1_factOfPlate_48 : decode cX1_factOfPlate 48 = .ok (.aload_n 0, 1) := by decide +kernel
theorem dX1_factOfPlate_49 : decode cX1_factOfPlate 49 = .ok (.getfield 39, 3) := by decide +kernel
theorem dX1_factOfPlate_52 : decode cX1_factOfPlate 52 = .ok (.iload_n 1, 1) := by decide +kernel
theorem dX1_factOfPlate_53 : decode cX1_factOfPlate 53 = .ok (.aaload, 1) := by decide +kernel
theorem dX1_factOfPlate_54 : decode cX1_factOfPlate 54 = .ok (.getfield 174, 3) := by decide +kernel
theorem dX1_factOfPlate_57 : decode cX1_factOfPlate 57 = .ok (.ireturn, 1) := by decide +kernel
theorem dX1_factOfPlate_58 : decode cX1_factOfPlate 58 = .ok (.aload_n 0, 1) := by decide +kernel
theorem dX1_factOfPlate_59 : decode cX1_factOfPlate 59 = .ok (.iload_n 1, 1) := by decide +kernel
theorem dX1_factOfPlate_60 : decode cX1_factOfPlate 60 = .ok (.invokevirtual 178, 3) := by decide +kernel
theorem dX1_factOfPlate_63 : decode cX1_factOfPlate 63 = .ok (.invokestatic 89, 3) := by decide +kernel
theorem dX1_factOfPlate_66 : decode cX1_factOfPlate 66 = .ok (.ireturn, 1) := by decide +kernel
theorem dX1_factOfPlate_67 : decode cX1_factOfPlate 67 = .ok (.aload_n 0, 1) := by decide +kernel
theorem dX1_factOfPlate_68 : decode cX1_factOfPlate 68 = .ok (.getfield 39, 3) := by decide +kernel
theorem dX1_factOfPlate_71 : decode cX1_factOfPlate 71 = .ok (.iload_n 1, 1) := by decide +kernel
theorem dX1_factOfPlate_72 : decode cX1_factOfPlate 72 = .ok (.aaload, 1) := by decide +kernel
theorem dX1_factOfPlate_73 : decode cX1_factOfPlate 73 = .ok (.getfield 203, 3) := by decide +kernel
theorem dX1_factOfPlate_76 : decode cX1_factOfPlate 76 = .ok (.invokestatic 89, 3) := by decide +kernel
theorem dX1_factOfPlate_79 : decode cX1_factOfPlate 79 = .ok (.ireturn, 1) := by decide +kernel
theorem dX1_factOfPlate_80 : decode cX1_factOfPlate 80 = .ok (.aload_n 0, 1) := by decide +kernel
theorem dX1_factOfPlate_81 : decode cX1_factOfPlate 81 = .ok (.getfield 39, 3) := by decide +kernel
theorem dX1_factOfPlate_84 : decode cX1_factOfPlate 84 = .ok (.iload_n 1, 1) := by decide +kernel
theorem dX1_factOfPlate_85 : decode cX1_factOfPlate 85 = .ok (.aaload, 1) := by decide +kernel
theorem dX1_factOfPlate_86 : decode cX1_factOfPlate 86 = .ok (.getfield 113, 3) := by decide +kernel
theorem dX1_factOfPlate_89 : decode cX1_factOfPlate 89 = .ok (.ireturn, 1) := by decide +kernel
theorem dX1_factOfPlate_90 : decode cX1_factOfPlate 90 = .ok (.aload_n 0, 1) := by decide +kernel
theorem dX1_factOfPlate_91 : decode cX1_factOfPlate 91 = .ok (.aload_n 0, 1) := by decide +kernel
theorem dX1_factOfPlate_92 : decode cX1_factOfPlate 92 = .ok (.getfield 39, 3) := by decide +kernel
theorem dX1_factOfPlate_95 : decode cX1_factOfPlate 95 = .ok (.iload_n 1, 1) := by decide +kernel
theorem dX1_factOfPlate_96 : decode cX1_factOfPlate 96 = .ok (.aaload, 1) := by decide +kernel
theorem dX1_factOfPlate_97 : decode cX1_factOfPlate 97 = .ok (.getfield 113, 3) := by decide +kernel
theorem dX1_factOfPlate_100 : decode cX1_factOfPlate 100 = .ok (.invokevirtual 206, 3) := by decide +kernel
theorem dX1_factOfPlate_103 : decode cX1_factOfPlate 103 = .ok (.ireturn, 1) := by decide +kernel
theorem dX1_factOfPlate_104 : decode cX1_factOfPlate 104 = .ok (.bipush (-2), 2) := by decide +kernel
theorem dX1_factOfPlate_106 : decode cX1_factOfPlate 106 = .ok (.ireturn, 1) := by decide +kernel
theorem dX1_factOfNight_0 : decode cX1_factOfNight 0 = .ok (.iload_n 1, 1) := by decide +kernel
theorem dX1_factOfNight_1 : decode cX1_factOfNight 1 = .ok (.tableswitch 153 0 13 #[71, 76, 81, 86, 91, 97, 103, 109, 115, 120, 125, 132, 139, 146], 71) := by decide +kernel
theorem dX1_factOfNight_72 : decode cX1_factOfNight 72 = .ok (.aload_n 0, 1) := by decide +kernel
theorem dX1_factOfNight_73 : decode cX1_factOfNight 73 = .ok (.getfield 23, 3) := by decide +kernel
theorem dX1_factOfNight_76 : decode cX1_factOfNight 76 = .ok (.ireturn, 1) := by decide +kernel
theorem dX1_factOfNight_77 : decode cX1_factOfNight 77 = .ok (.aload_n 0, 1) := by decide +kernel
theorem dX1_factOfNight_78 : decode cX1_factOfNight 78 = .ok (.getfield 34, 3) := by decide +kernel
theorem dX1_factOfNight_81 : decode cX1_factOfNight 81 = .ok (.ireturn, 1) := by decide +kernel
theorem dX1_factOfNight_82 : decode cX1_factOfNight 82 = .ok (.aload_n 0, 1) := by decide +kernel
theorem dX1_factOfNight_83 : decode cX1_factOfNight 83 = .ok (.getfield 44, 3) := by decide +kernel
theorem dX1_factOfNight_86 : decode cX1_factOfNight 86 = .ok (.ireturn, 1) := by decide +kernel
theorem dX1_factOfNight_87 : decode cX1_factOfNight 87 = .ok (.aload_n 0, 1) := by decide +kernel
theorem dX1_factOfNight_88 : decode cX1_factOfNight 88 = .ok (.invokevirtual 175, 3) := by decide +kernel
theorem dX1_factOfNight_91 : decode cX1_factOfNight 91 = .ok (.ireturn, 1) := by decide +kernel
theorem dX1_factOfNight_92 : decode cX1_factOfNight 92 = .ok (.aload_n 0, 1) := by decide +kernel
theorem dX1_factOfNight_93 : decode cX1_factOfNight 93 = .ok (.iconst 0, 1) := by decide +kernel
theorem dX1_factOfNight_94 : decode cX1_factOfNight 94 = .ok (.invokevirtual 209, 3) := by decide +kernel
theorem dX1_factOfNight_97 : decode cX1_factOfNight 97 = .ok (.ireturn, 1) := by decide +kernel
theorem dX1_factOfNight_98 : decode cX1_factOfNight 98 = .ok (.aload_n 0, 1) := by decide +kernel
theorem dX1_factOfNight_99 : decode cX1_factOfNight 99 = .ok (.iconst 1, 1) := by decide +kernel
theorem dX1_factOfNight_100 : decode cX1_factOfNight 100 = .ok (.invokevirtual 209, 3) := by decide +kernel
theorem dX1_factOfNight_103 : decode cX1_factOfNight 103 = .ok (.ireturn, 1) := by decide +kernel
theorem dX1_factOfNight_104 : decode cX1_factOfNight 104 = .ok (.aload_n 0, 1) := by decide +kernel
theorem dX1_factOfNight_105 : decode cX1_factOfNight 105 = .ok (.iconst 2, 1) := by decide +kernel
theorem dX1_factOfNight_106 : decode cX1_factOfNight 106 = .ok (.invokevirtual 209, 3) := by decide +kernel
theorem dX1_factOfNight_109 : decode cX1_factOfNight 109 = .ok (.ireturn, 1) := by decide +kernel
theorem dX1_factOfNight_110 : decode cX1_factOfNight 110 = .ok (.aload_n 0, 1) := by decide +kernel
theorem dX1_factOfNight_111 : decode cX1_factOfNight 111 = .ok (.iconst 3, 1) := by decide +kernel
theorem dX1_factOfNight_112 : decode cX1_factOfNight 112 = .ok (.invokevirtual 209, 3) := by decide +kernel
theorem dX1_factOfNight_115 : decode cX1_factOfNight 115 = .ok (.ireturn, 1) := by decide +kernel
theorem dX1_factOfNight_116 : decode cX1_factOfNight 116 = .ok (.aload_n 0, 1) := by decide +kernel
theorem dX1_factOfNight_117 : decode cX1_factOfNight 117 = .ok (.invokevirtual 212, 3) := by decide +kernel
theorem dX1_factOfNight_120 : decode cX1_factOfNight 120 = .ok (.ireturn, 1) := by decide +kernel
theorem dX1_factOfNight_121 : decode cX1_factOfNight 121 = .ok (.aload_n 0, 1) := by decide +kernel
theorem dX1_factOfNight_122 : decode cX1_factOfNight 122 = .ok (.invokevirtual 215, 3) := by decide +kernel
theorem dX1_factOfNight_125 : decode cX1_factOfNight 125 = .ok (.ireturn, 1) := by decide +kernel
theorem dX1_factOfNight_126 : decode cX1_factOfNight 126 = .ok (.aload_n 0, 1) := by decide +kernel
theorem dX1_factOfNight_127 : decode cX1_factOfNight 127 = .ok (.getfield 18, 3) := by decide +kernel
theorem dX1_factOfNight_130 : decode cX1_factOfNight 130 = .ok (.iconst 0, 1) := by decide +kernel
theorem dX1_factOfNight_131 : decode cX1_factOfNight 131 = .ok (.iaload, 1) := by decide +kernel
theorem dX1_factOfNight_132 : decode cX1_factOfNight 132 = .ok (.ireturn, 1) := by decide +kernel
theorem dX1_factOfNight_133 : decode cX1_factOfNight 133 = .ok (.aload_n 0, 1) := by decide +kernel
theorem dX1_factOfNight_134 : decode cX1_factOfNight 134 = .ok (.getfield 18, 3) := by decide +kernel
theorem dX1_factOfNight_137 : decode cX1_factOfNight 137 = .ok (.iconst 1, 1) := by decide +kernel
theorem dX1_factOfNight_138 : decode cX1_factOfNight 138 = .ok (.iaload, 1) := by decide +kernel
theorem dX1_factOfNight_139 : decode cX1_factOfNight 139 = .ok (.ireturn, 1) := by decide +kernel
theorem dX1_factOfNight_140 : decode cX1_factOfNight 140 = .ok (.aload_n 0, 1) := by decide +kernel
theorem dX1_factOfNight_141 : decode cX1_factOfNight 141 = .ok (.getfield 18, 3) := by decide +kernel
theorem dX1_factOfNight_144 : decode cX1_factOfNight 144 = .ok (.iconst 2, 1) := by decide +kernel
theorem dX1_factOfNight_145 : decode cX1_factOfNight 145 = .ok (.iaload, 1) := by decide +kernel
theorem dX1_factOfNight_146 : decode cX1_factOfNight 146 = .ok (.ireturn, 1) := by decide +kernel
theorem dX1_factOfNight_147 : decode cX1_factOfNight 147 = .ok (.aload_n 0, 1) := by decide +kernel
theorem dX1_factOfNight_148 : decode cX1_factOfNight 148 = .ok (.getfield 18, 3) := by decide +kernel
theorem dX1_factOfNight_151 : decode cX1_factOfNight 151 = .ok (.iconst 3, 1) := by decide +kernel
theorem dX1_factOfNight_152 : decode cX1_factOfNight 152 = .ok (.iaload, 1) := by decide +kernel
theorem dX1_factOfNight_153 : decode cX1_factOfNight 153 = .ok (.ireturn, 1) := by decide +kernel
theorem dX1_factOfNight_154 : decode cX1_factOfNight 154 = .ok (.bipush (-2), 2) := by decide +kernel
theorem dX1_factOfNight_156 : decode cX1_factOfNight 156 = .ok (.ireturn, 1) := by decide +kernel
theorem dX1_piecesThatAre_0 : decode cX1_piecesThatAre 0 = .ok (.iconst 0, 1) := by decide +kernel
theorem dX1_piecesThatAre_1 : decode cX1_piecesThatAre 1 = .ok (.istore_n 2, 1) := by decide +kernel
theorem dX1_piecesThatAre_2 : decode cX1_piecesThatAre 2 = .ok (.iconst 0, 1) := by decide +kernel
theorem dX1_piecesThatAre_3 : decode cX1_piecesThatAre 3 = .ok (.istore_n 3, 1) := by decide +kernel
theorem dX1_piecesThatAre_4 : decode cX1_piecesThatAre 4 = .ok (.iload_n 3, 1) := by decide +kernel
theorem dX1_piecesThatAre_5 : decode cX1_piecesThatAre 5 = .ok (.aload_n 0, 1) := by decide +kernel
theorem dX1_piecesThatAre_6 : decode cX1_piecesThatAre 6 = .ok (.getfield 34, 3) := by decide +kernel
theorem dX1_piecesThatAre_9 : decode cX1_piecesThatAre 9 = .ok (.if_icmp .ge 33, 3) := by decide +kernel
theorem dX1_piecesThatAre_12 : decode cX1_piecesThatAre 12 = .ok (.iload_n 2, 1) := by decide +kernel
theorem dX1_piecesThatAre_13 : decode cX1_piecesThatAre 13 = .ok (.aload_n 0, 1) := by decide +kernel
theorem dX1_piecesThatAre_14 : decode cX1_piecesThatAre 14 = .ok (.getfield 29, 3) := by decide +kernel
theorem dX1_piecesThatAre_17 : decode cX1_piecesThatAre 17 = .ok (.iload_n 3, 1) := by decide +kernel
theorem dX1_piecesThatAre_18 : decode cX1_piecesThatAre 18 = .ok (.aaload, 1) := by decide +kernel
theorem dX1_piecesThatAre_19 : decode cX1_piecesThatAre 19 = .ok (.getfield 64, 3) := by decide +kernel
theorem dX1_piecesThatAre_22 : decode cX1_piecesThatAre 22 = .ok (.iload_n 1, 1) := by decide +kernel
theorem dX1_piecesThatAre_23 : decode cX1_piecesThatAre 23 = .ok (.if_icmp .ne 7, 3) := by decide +kernel
theorem dX1_piecesThatAre_26 : decode cX1_piecesThatAre 26 = .ok (.iconst 1, 1) := by decide +kernel
theorem dX1_piecesThatAre_27 : decode cX1_piecesThatAre 27 = .ok (.goto 4, 3) := by decide +kernel
theorem dX1_piecesThatAre_30 : decode cX1_piecesThatAre 30 = .ok (.iconst 0, 1) := by decide +kernel
theorem dX1_piecesThatAre_31 : decode cX1_piecesThatAre 31 = .ok (.invokestatic 89, 3) := by decide +kernel
theorem dX1_piecesThatAre_34 : decode cX1_piecesThatAre 34 = .ok (.iadd, 1) := by decide +kernel
theorem dX1_piecesThatAre_35 : decode cX1_piecesThatAre 35 = .ok (.istore_n 2, 1) := by decide +kernel
theorem dX1_piecesThatAre_36 : decode cX1_piecesThatAre 36 = .ok (.iinc 3 1, 3) := by decide +kernel
theorem dX1_piecesThatAre_39 : decode cX1_piecesThatAre 39 = .ok (.goto (-35), 3) := by decide +kernel
theorem dX1_piecesThatAre_42 : decode cX1_piecesThatAre 42 = .ok (.iload_n 2, 1) := by decide +kernel
theorem dX1_piecesThatAre_43 : decode cX1_piecesThatAre 43 = .ok (.ireturn, 1) := by decide +kernel
theorem dX1_heldPieces_0 : decode cX1_heldPieces 0 = .ok (.iconst 0, 1) := by decide +kernel
theorem dX1_heldPieces_1 : decode cX1_heldPieces 1 = .ok (.istore_n 1, 1) := by decide +kernel
theorem dX1_heldPieces_2 : decode cX1_heldPieces 2 = .ok (.iconst 0, 1) := by decide +kernel
theorem dX1_heldPieces_3 : decode cX1_heldPieces 3 = .ok (.istore_n 2, 1) := by decide +kernel
theorem dX1_heldPieces_4 : decode cX1_heldPieces 4 = .ok (.iload_n 2, 1) := by decide +kernel
theorem dX1_heldPieces_5 : decode cX1_heldPieces 5 = .ok (.aload_n 0, 1) := by decide +kernel
theorem dX1_heldPieces_6 : decode cX1_heldPieces 6 = .ok (.getfield 34, 3) := by decide +kernel
theorem dX1_heldPieces_9 : decode cX1_heldPieces 9 = .ok (.if_icmp .ge 45, 3) := by decide +kernel
theorem dX1_heldPieces_12 : decode cX1_heldPieces 12 = .ok (.iload_n 1, 1) := by decide +kernel
theorem dX1_heldPieces_13 : decode cX1_heldPieces 13 = .ok (.aload_n 0, 1) := by decide +kernel
theorem dX1_heldPieces_14 : decode cX1_heldPieces 14 = .ok (.getfield 29, 3) := by decide +kernel
theorem dX1_heldPieces_17 : decode cX1_heldPieces 17 = .ok (.iload_n 2, 1) := by decide +kernel
theorem dX1_heldPieces_18 : decode cX1_heldPieces 18 = .ok (.aaload, 1) := by decide +kernel
theorem dX1_heldPieces_19 : decode cX1_heldPieces 19 = .ok (.getfield 85, 3) := by decide +kernel
theorem dX1_heldPieces_22 : decode cX1_heldPieces 22 = .ok (.ifCond .eq 20, 3) := by decide +kernel
theorem dX1_heldPieces_25 : decode cX1_heldPieces 25 = .ok (.aload_n 0, 1) := by decide +kernel
theorem dX1_heldPieces_26 : decode cX1_heldPieces 26 = .ok (.getfield 29, 3) := by decide +kernel
theorem dX1_heldPieces_29 : decode cX1_heldPieces 29 = .ok (.iload_n 2, 1) := by decide +kernel
theorem dX1_heldPieces_30 : decode cX1_heldPieces 30 = .ok (.aaload, 1) := by decide +kernel
theorem dX1_heldPieces_31 : decode cX1_heldPieces 31 = .ok (.getfield 64, 3) := by decide +kernel
theorem dX1_heldPieces_34 : decode cX1_heldPieces 34 = .ok (.iconst 3, 1) := by decide +kernel
theorem dX1_heldPieces_35 : decode cX1_heldPieces 35 = .ok (.if_icmp .eq 7, 3) := by decide +kernel
theorem dX1_heldPieces_38 : decode cX1_heldPieces 38 = .ok (.iconst 1, 1) := by decide +kernel
theorem dX1_heldPieces_39 : decode cX1_heldPieces 39 = .ok (.goto 4, 3) := by decide +kernel
theorem dX1_heldPieces_42 : decode cX1_heldPieces 42 = .ok (.iconst 0, 1) := by decide +kernel
theorem dX1_heldPieces_43 : decode cX1_heldPieces 43 = .ok (.invokestatic 89, 3) := by decide +kernel
theorem dX1_heldPieces_46 : decode cX1_heldPieces 46 = .ok (.iadd, 1) := by decide +kernel
theorem dX1_heldPieces_47 : decode cX1_heldPieces 47 = .ok (.istore_n 1, 1) := by decide +kernel
theorem dX1_heldPieces_48 : decode cX1_heldPieces 48 = .ok (.iinc 2 1, 3) := by decide +kernel
theorem dX1_heldPieces_51 : decode cX1_heldPieces 51 = .ok (.goto (-47), 3) := by decide +kernel
theorem dX1_heldPieces_54 : decode cX1_heldPieces 54 = .ok (.iload_n 1, 1) := by decide +kernel
theorem dX1_heldPieces_55 : decode cX1_heldPieces 55 = .ok (.ireturn, 1) := by decide +kernel
theorem dX1_replates_0 : decode cX1_replates 0 = .ok (.iconst 0, 1) := by decide +kernel
theorem dX1_replates_1 : decode cX1_replates 1 = .ok (.istore_n 1, 1) := by decide +kernel
theorem dX1_replates_2 : decode cX1_replates 2 = .ok (.iconst 0, 1) := by decide +kernel
theorem dX1_replates_3 : decode cX1_replates 3 = .ok (.istore_n 2, 1) := by decide +kernel
theorem dX1_replates_4 : decode cX1_replates 4 = .ok (.iload_n 2, 1) := by decide +kernel
theorem dX1_replates_5 : decode cX1_replates 5 = .ok (.aload_n 0, 1) := by decide +kernel
theorem dX1_replates_6 : decode cX1_replates 6 = .ok (.getfield 44, 3) := by decide +kernel
theorem dX1_replates_9 : decode cX1_replates 9 = .ok (.if_icmp .ge 24, 3) := by decide +kernel
theorem dX1_replates_12 : decode cX1_replates 12 = .ok (.iload_n 1, 1) := by decide +kernel
theorem dX1_replates_13 : decode cX1_replates 13 = .ok (.aload_n 0, 1) := by decide +kernel
theorem dX1_replates_14 : decode cX1_replates 14 = .ok (.getfield 39, 3) := by decide +kernel
theorem dX1_replates_17 : decode cX1_replates 17 = .ok (.iload_n 2, 1) := by decide +kernel
theorem dX1_replates_18 : decode cX1_replates 18 = .ok (.aaload, 1) := by decide +kernel
theorem dX1_replates_19 : decode cX1_replates 19 = .ok (.getfield 203, 3) := by decide +kernel
theorem dX1_replates_22 : decode cX1_replates 22 = .ok (.invokestatic 89, 3) := by decide +kernel
theorem dX1_replates_25 : decode cX1_replates 25 = .ok (.iadd, 1) := by decide +kernel
theorem dX1_replates_26 : decode cX1_replates 26 = .ok (.istore_n 1, 1) := by decide +kernel
theorem dX1_replates_27 : decode cX1_replates 27 = .ok (.iinc 2 1, 3) := by decide +kernel
theorem dX1_replates_30 : decode cX1_replates 30 = .ok (.goto (-26), 3) := by decide +kernel
theorem dX1_replates_33 : decode cX1_replates 33 = .ok (.iload_n 1, 1) := by decide +kernel
theorem dX1_replates_34 : decode cX1_replates 34 = .ok (.ireturn, 1) := by decide +kernel
end
section
theorem dX7_init_0 : decode cX7_init 0 = .ok (.aload_n 0, 1) := by decide +kernel
theorem dX7_init_1 : decode cX7_init 1 = .ok (.invokespecial 1, 3) := by decide +kernel
theorem dX7_init_4 : decode cX7_init 4 = .ok (.aload_n 0, 1) := by decide +kernel
theorem dX7_init_5 : decode cX7_init 5 = .ok (.sipush 420, 3) := by decide +kernel
theorem dX7_init_8 : decode cX7_init 8 = .ok (.newarray .int, 2) := by decide +kernel
theorem dX7_init_10 : decode cX7_init 10 = .ok (.putfield 7, 3) := by decide +kernel
theorem dX7_init_13 : decode cX7_init 13 = .ok (.aload_n 0, 1) := by decide +kernel
theorem dX7_init_14 : decode cX7_init 14 = .ok (.sipush 420, 3) := by decide +kernel
theorem dX7_init_17 : decode cX7_init 17 = .ok (.newarray .int, 2) := by decide +kernel
theorem dX7_init_19 : decode cX7_init 19 = .ok (.putfield 13, 3) := by decide +kernel
theorem dX7_init_22 : decode cX7_init 22 = .ok (.aload_n 0, 1) := by decide +kernel
theorem dX7_init_23 : decode cX7_init 23 = .ok (.sipush 420, 3) := by decide +kernel
theorem dX7_init_26 : decode cX7_init 26 = .ok (.newarray .int, 2) := by decide +kernel
theorem dX7_init_28 : decode cX7_init 28 = .ok (.putfield 16, 3) := by decide +kernel
theorem dX7_init_31 : decode cX7_init 31 = .ok (.aload_n 0, 1) := by decide +kernel
theorem dX7_init_32 : decode cX7_init 32 = .ok (.sipush 2520, 3) := by decide +kernel
theorem dX7_init_35 : decode cX7_init 35 = .ok (.newarray .int, 2) := by decide +kernel
theorem dX7_init_37 : decode cX7_init 37 = .ok (.putfield 19, 3) := by decide +kernel
theorem dX7_init_40 : decode cX7_init 40 = .ok (.aload_n 0, 1) := by decide +kernel
theorem dX7_init_41 : decode cX7_init 41 = .ok (.sipush 840, 3) := by decide +kernel
theorem dX7_init_44 : decode cX7_init 44 = .ok (.newarray .int, 2) := by decide +kernel
theorem dX7_init_46 : decode cX7_init 46 = .ok (.putfield 22, 3) := by decide +kernel
theorem dX7_init_49 : decode cX7_init 49 = .ok (.aload_n 0, 1) := by decide +kernel
theorem dX7_init_50 : decode cX7_init 50 = .ok (.iconst 2, 1) := by decide +kernel
theorem dX7_init_51 : decode cX7_init 51 = .ok (.newarray .int, 2) := by decide +kernel
theorem dX7_init_53 : decode cX7_init 53 = .ok (.putfield 25, 3) := by decide +kernel
theorem dX7_init_56 : decode cX7_init 56 = .ok (.aload_n 0, 1) := by decide +kernel
theorem dX7_init_57 : decode cX7_init 57 = .ok (.bipush 80, 2) := by decide +kernel
theorem dX7_init_59 : decode cX7_init 59 = .ok (.newarray .int, 2) := by decide +kernel
theorem dX7_init_61 : decode cX7_init 61 = .ok (.putfield 28, 3) := by decide +kernel
theorem dX7_init_64 : decode cX7_init 64 = .ok (.aload_n 0, 1) := by decide +kernel
theorem dX7_init_65 : decode cX7_init 65 = .ok (.getfield 7, 3) := by decide +kernel
theorem dX7_init_68 : decode cX7_init 68 = .ok (.iconst 0, 1) := by decide +kernel
theorem dX7_init_69 : decode cX7_init 69 = .ok (.iconst 4, 1) := by decide +kernel
theorem dX7_init_70 : decode cX7_init 70 = .ok (.iastore, 1) := by decide +kernel
theorem dX7_init_71 : decode cX7_init 71 = .ok (.aload_n 0, 1) := by decide +kernel
theorem dX7_init_72 : decode cX7_init 72 = .ok (.getfield 7, 3) := by decide +kernel
theorem dX7_init_75 : decode cX7_init 75 = .ok (.iconst 1, 1) := by decide +kernel
theorem dX7_init_76 : decode cX7_init 76 = .ok (.bipush 10, 2) := by decide +kernel
theorem dX7_init_78 : decode cX7_init 78 = .ok (.iastore, 1) := by decide +kernel
theorem dX7_init_79 : decode cX7_init 79 = .ok (.aload_n 0, 1) := by decide +kernel
theorem dX7_init_80 : decode cX7_init 80 = .ok (.getfield 7, 3) := by decide +kernel
theorem dX7_init_83 : decode cX7_init 83 = .ok (.iconst 2, 1) := by decide +kernel
theorem dX7_init_84 : decode cX7_init 84 = .ok (.bipush 60, 2) := by decide +kernel
theorem dX7_init_86 : decode cX7_init 86 = .ok (.iastore, 1) := by decide +kernel
theorem dX7_init_87 : decode cX7_init 87 = .ok (.aload_n 0, 1) := by decide +kernel
theorem dX7_init_88 : decode cX7_init 88 = .ok (.getfield 7, 3) := by decide +kernel
theorem dX7_init_91 : decode cX7_init 91 = .ok (.iconst 3, 1) := by decide +kernel
theorem dX7_init_92 : decode cX7_init 92 = .ok (.iconst 5, 1) := by decide +kernel
theorem dX7_init_93 : decode cX7_init 93 = .ok (.iastore, 1) := by decide +kernel
theorem dX7_init_94 : decode cX7_init 94 = .ok (.return_, 1) := by decide +kernel
theorem dX7_in_0 : decode cX7_in 0 = .ok (.lload_n 0, 1) := by decide +kernel
theorem dX7_in_1 : decode cX7_in 1 = .ok (.lload_n 2, 1) := by decide +kernel
theorem dX7_in_2 : decode cX7_in 2 = .ok (.lcmp, 1) := by decide +kernel
theorem dX7_in_3 : decode cX7_in 3 = .ok (.ifCond .lt 14, 3) := by decide +kernel
theorem dX7_in_6 : decode cX7_in 6 = .ok (.lload_n 0, 1) := by decide +kernel
theorem dX7_in_7 : decode cX7_in 7 = .ok (.lload 4, 2) := by decide +kernel
theorem dX7_in_9 : decode cX7_in 9 = .ok (.lcmp, 1) := by decide +kernel
theorem dX7_in_10 : decode cX7_in 10 = .ok (.ifCond .gt 7, 3) := by decide +kernel
theorem dX7_in_13 : decode cX7_in 13 = .ok (.iconst 1, 1) := by decide +kernel
theorem dX7_in_14 : decode cX7_in 14 = .ok (.goto 4, 3) := by decide +kernel
theorem dX7_in_17 : decode cX7_in 17 = .ok (.iconst 0, 1) := by decide +kernel
theorem dX7_in_18 : decode cX7_in 18 = .ok (.ireturn, 1) := by decide +kernel
theorem dX7_copy_0 : decode cX7_copy 0 = .ok (.iconst 0, 1) := by decide +kernel
theorem dX7_copy_1 : decode cX7_copy 1 = .ok (.istore_n 2, 1) := by decide +kernel
theorem dX7_copy_2 : decode cX7_copy 2 = .ok (.iload_n 2, 1) := by decide +kernel
theorem dX7_copy_3 : decode cX7_copy 3 = .ok (.sipush 420, 3) := by decide +kernel
theorem dX7_copy_6 : decode cX7_copy 6 = .ok (.if_icmp .ge 15, 3) := by decide +kernel
theorem dX7_copy_9 : decode cX7_copy 9 = .ok (.aload_n 1, 1) := by decide +kernel
theorem dX7_copy_10 : decode cX7_copy 10 = .ok (.iload_n 2, 1) := by decide +kernel
theorem dX7_copy_11 : decode cX7_copy 11 = .ok (.aload_n 0, 1) := by decide +kernel
theorem dX7_copy_12 : decode cX7_copy 12 = .ok (.iload_n 2, 1) := by decide +kernel
theorem dX7_copy_13 : decode cX7_copy 13 = .ok (.iaload, 1) := by decide +kernel
theorem dX7_copy_14 : decode cX7_copy 14 = .ok (.iastore, 1) := by decide +kernel
theorem dX7_copy_15 : decode cX7_copy 15 = .ok (.iinc 2 1, 3) := by decide +kernel
theorem dX7_copy_18 : decode cX7_copy 18 = .ok (.goto (-16), 3) := by decide +kernel
theorem dX7_copy_21 : decode cX7_copy 21 = .ok (.return_, 1) := by decide +kernel
theorem dX7_ends_0 : decode cX7_ends 0 = .ok (.iload_n 1, 1) := by decide +kernel
theorem dX7_ends_1 : decode cX7_ends 1 = .ok (.ifCond .ge 5, 3) := by decide +kernel
theorem dX7_ends_4 : decode cX7_ends 4 = .ok (.iload_n 1, 1) := by decide +kernel
theorem dX7_ends_5 : decode cX7_ends 5 = .ok (.ireturn, 1) := by decide +kernel
theorem dX7_ends_6 : decode cX7_ends 6 = .ok (.aload_n 0, 1) := by decide +kernel
theorem dX7_ends_7 : decode cX7_ends 7 = .ok (.getfield 31, 3) := by decide +kernel
theorem dX7_ends_10 : decode cX7_ends 10 = .ok (.bipush 6, 2) := by decide +kernel
theorem dX7_ends_12 : decode cX7_ends 12 = .ok (.if_icmp .ne 44, 3) := by decide +kernel
theorem dX7_ends_15 : decode cX7_ends 15 = .ok (.iconst 0, 1) := by decide +kernel
theorem dX7_ends_16 : decode cX7_ends 16 = .ok (.istore_n 2, 1) := by decide +kernel
theorem dX7_ends_17 : decode cX7_ends 17 = .ok (.iload_n 2, 1) := by decide +kernel
theorem dX7_ends_18 : decode cX7_ends 18 = .ok (.sipush 2100, 3) := by decide +kernel
theorem dX7_ends_21 : decode cX7_ends 21 = .ok (.if_icmp .ge 25, 3) := by decide +kernel
theorem dX7_ends_24 : decode cX7_ends 24 = .ok (.aload_n 0, 1) := by decide +kernel
theorem dX7_ends_25 : decode cX7_ends 25 = .ok (.getfield 19, 3) := by decide +kernel
theorem dX7_ends_28 : decode cX7_ends 28 = .ok (.iload_n 2, 1) := by decide +kernel
theorem dX7_ends_29 : decode cX7_ends 29 = .ok (.aload_n 0, 1) := by decide +kernel
theorem dX7_ends_30 : decode cX7_ends 30 = .ok (.getfield 19, 3) := by decide +kernel
theorem dX7_ends_33 : decode cX7_ends 33 = .ok (.iload_n 2, 1) := by decide +kernel
theorem dX7_ends_34 : decode cX7_ends 34 = .ok (.sipush 420, 3) := by decide +kernel
theorem dX7_ends_37 : decode cX7_ends 37 = .ok (.iadd, 1) := by decide +kernel
theorem dX7_ends_38 : decode cX7_ends 38 = .ok (.iaload, 1) := by decide +kernel
theorem dX7_ends_39 : decode cX7_ends 39 = .ok (.iastore, 1) := by decide +kernel
theorem dX7_ends_40 : decode cX7_ends 40 = .ok (.iinc 2 1, 3) := by decide +kernel
theorem dX7_ends_43 : decode cX7_ends 43 = .ok (.goto (-26), 3) := by decide +kernel
theorem dX7_ends_46 : decode cX7_ends 46 = .ok (.aload_n 0, 1) := by decide +kernel
theorem dX7_ends_47 : decode cX7_ends 47 = .ok (.dup, 1) := by decide +kernel
theorem dX7_ends_48 : decode cX7_ends 48 = .ok (.getfield 31, 3) := by decide +kernel
theorem dX7_ends_51 : decode cX7_ends 51 = .ok (.iconst 1, 1) := by decide +kernel
theorem dX7_ends_52 : decode cX7_ends 52 = .ok (.isub, 1) := by decide +kernel
theorem dX7_ends_53 : decode cX7_ends 53 = .ok (.putfield 31, 3) := by decide +kernel
theorem dX7_ends_56 : decode cX7_ends 56 = .ok (.iconst 0, 1) := by decide +kernel
theorem dX7_ends_57 : decode cX7_ends 57 = .ok (.istore_n 2, 1) := by decide +kernel
theorem dX7_ends_58 : decode cX7_ends 58 = .ok (.iload_n 2, 1) := by decide +kernel
theorem dX7_ends_59 : decode cX7_ends 59 = .ok (.sipush 420, 3) := by decide +kernel
theorem dX7_ends_62 : decode cX7_ends 62 = .ok (.if_icmp .ge 30, 3) := by decide +kernel
theorem dX7_ends_65 : decode cX7_ends 65 = .ok (.aload_n 0, 1) := by decide +kernel
theorem dX7_ends_66 : decode cX7_ends 66 = .ok (.getfield 19, 3) := by decide +kernel
theorem dX7_ends_69 : decode cX7_ends 69 = .ok (.sipush 420, 3) := by decide +kernel
theorem dX7_ends_72 : decode cX7_ends 72 = .ok (.aload_n 0, 1) := by decide +kernel
theorem dX7_ends_73 : decode cX7_ends 73 = .ok (.getfield 31, 3) := by decide +kernel
theorem dX7_ends_76 : decode cX7_ends 76 = .ok (.imul, 1) := by decide +kernel
theorem dX7_ends_77 : decode cX7_ends 77 = .ok (.iload_n 2, 1) := by decide +kernel
theorem dX7_ends_78 : decode cX7_ends 78 = .ok (.iadd, 1) := by decide +kernel
theorem dX7_ends_79 : decode cX7_ends 79 = .ok (.aload_n 0, 1) := by decide +kernel
theorem dX7_ends_80 : decode cX7_ends 80 = .ok (.getfield 13, 3) := by decide +kernel
theorem dX7_ends_83 : decode cX7_ends 83 = .ok (.iload_n 2, 1) := by decide +kernel
theorem dX7_ends_84 : decode cX7_ends 84 = .ok (.iaload, 1) := by decide +kernel
theorem dX7_ends_85 : decode cX7_ends 85 = .ok (.iastore, 1) := by decide +kernel
theorem dX7_ends_86 : decode cX7_ends 86 = .ok (.iinc 2 1, 3) := by decide +kernel
theorem dX7_ends_89 : decode cX7_ends 89 = .ok (.goto (-31), 3) := by decide +kernel
theorem dX7_ends_92 : decode cX7_ends 92 = .ok (.aload_n 0, 1) := by decide +kernel
theorem dX7_ends_93 : decode cX7_ends 93 = .ok (.dup, 1) := by decide +kernel
theorem dX7_ends_94 : decode cX7_ends 94 = .ok (.getfield 31, 3) := by decide +kernel
theorem dX7_ends_97 : decode cX7_ends 97 = .ok (.iconst 1, 1) := by decide +kernel
theorem dX7_ends_98 : decode cX7_ends 98 = .ok (.iadd, 1) := by decide +kernel
theorem dX7_ends_99 : decode cX7_ends 99 = .ok (.putfield 31, 3) := by decide +kernel
theorem dX7_ends_102 : decode cX7_ends 102 = .ok (.iload_n 1, 1) := by decide +kernel
theorem dX7_ends_103 : decode cX7_ends 103 = .ok (.ireturn, 1) := by decide +kernel
theorem dX7_isPiece_0 : decode cX7_isPiece 0 = .ok (.iload_n 1, 1) := by decide +kernel
theorem dX7_isPiece_1 : decode cX7_isPiece 1 = .ok (.i2l, 1) := by decide +kernel
theorem dX7_isPiece_2 : decode cX7_isPiece 2 = .ok (.lconst 0, 1) := by decide +kernel
theorem dX7_isPiece_3 : decode cX7_isPiece 3 = .ok (.aload_n 0, 1) := by decide +kernel
theorem dX7_isPiece_4 : decode cX7_isPiece 4 = .ok (.getfield 7, 3) := by decide +kernel
theorem dX7_isPiece_7 : decode cX7_isPiece 7 = .ok (.iconst 5, 1) := by decide +kernel
theorem dX7_isPiece_8 : decode cX7_isPiece 8 = .ok (.iaload, 1) := by decide +kernel
theorem dX7_isPiece_9 : decode cX7_isPiece 9 = .ok (.i2l, 1) := by decide +kernel
theorem dX7_isPiece_10 : decode cX7_isPiece 10 = .ok (.lconst 1, 1) := by decide +kernel
theorem dX7_isPiece_11 : decode cX7_isPiece 11 = .ok (.lsub, 1) := by decide +kernel
theorem dX7_isPiece_12 : decode cX7_isPiece 12 = .ok (.invokestatic 35, 3) := by decide +kernel
theorem dX7_isPiece_15 : decode cX7_isPiece 15 = .ok (.ireturn, 1) := by decide +kernel
theorem dX7_of_0 : decode cX7_of 0 = .ok (.aload_n 0, 1) := by decide +kernel
theorem dX7_of_1 : decode cX7_of 1 = .ok (.getfield 7, 3) := by decide +kernel
theorem dX7_of_4 : decode cX7_of 4 = .ok (.sipush 158, 3) := by decide +kernel
theorem dX7_of_7 : decode cX7_of 7 = .ok (.bipush 9, 2) := by decide +kernel
theorem dX7_of_9 : decode cX7_of 9 = .ok (.iload_n 1, 1) := by decide +kernel
theorem dX7_of_10 : decode cX7_of 10 = .ok (.imul, 1) := by decide +kernel
theorem dX7_of_11 : decode cX7_of 11 = .ok (.iadd, 1) := by decide +kernel
theorem dX7_of_12 : decode cX7_of 12 = .ok (.iload_n 2, 1) := by decide +kernel
theorem dX7_of_13 : decode cX7_of 13 = .ok (.iadd, 1) := by decide +kernel
theorem dX7_of_14 : decode cX7_of 14 = .ok (.iaload, 1) := by decide +kernel
theorem dX7_of_15 : decode cX7_of 15 = .ok (.ireturn, 1) := by decide +kernel
theorem dX7_sets_0 : decode cX7_sets 0 = .ok (.aload_n 0, 1) := by decide +kernel
theorem dX7_sets_1 : decode cX7_sets 1 = .ok (.getfield 7, 3) := by decide +kernel
theorem dX7_sets_4 : decode cX7_sets 4 = .ok (.sipush 158, 3) := by decide +kernel
theorem dX7_sets_7 : decode cX7_sets 7 = .ok (.bipush 9, 2) := by decide +kernel
theorem dX7_sets_9 : decode cX7_sets 9 = .ok (.iload_n 1, 1) := by decide +kernel
theorem dX7_sets_10 : decode cX7_sets 10 = .ok (.imul, 1) := by decide +kernel
theorem dX7_sets_11 : decode cX7_sets 11 = .ok (.iadd, 1) := by decide +kernel
theorem dX7_sets_12 : decode cX7_sets 12 = .ok (.iload_n 2, 1) := by decide +kernel
theorem dX7_sets_13 : decode cX7_sets 13 = .ok (.iadd, 1) := by decide +kernel
theorem dX7_sets_14 : decode cX7_sets 14 = .ok (.iload_n 3, 1) := by decide +kernel
theorem dX7_sets_15 : decode cX7_sets 15 = .ok (.iastore, 1) := by decide +kernel
theorem dX7_sets_16 : decode cX7_sets 16 = .ok (.return_, 1) := by decide +kernel
theorem dX7_inQueue_0 : decode cX7_inQueue 0 = .ok (.aload_n 0, 1) := by decide +kernel
theorem dX7_inQueue_1 : decode cX7_inQueue 1 = .ok (.getfield 7, 3) := by decide +kernel
theorem dX7_inQueue_4 : decode cX7_inQueue 4 = .ok (.bipush 14, 2) := by decide +kernel
theorem dX7_inQueue_6 : decode cX7_inQueue 6 = .ok (.bipush 24, 2) := by decide +kernel
theorem dX7_inQueue_8 : decode cX7_inQueue 8 = .ok (.iload_n 1, 1) := by decide +kernel
theorem dX7_inQueue_9 : decode cX7_inQueue 9 = .ok (.imul, 1) := by decide +kernel
theorem dX7_inQueue_10 : decode cX7_inQueue 10 = .ok (.iadd, 1) := by decide +kernel
theorem dX7_inQueue_11 : decode cX7_inQueue 11 = .ok (.iload_n 2, 1) := by decide +kernel
theorem dX7_inQueue_12 : decode cX7_inQueue 12 = .ok (.iadd, 1) := by decide +kernel
theorem dX7_inQueue_13 : decode cX7_inQueue 13 = .ok (.iaload, 1) := by decide +kernel
theorem dX7_inQueue_14 : decode cX7_inQueue 14 = .ok (.ireturn, 1) := by decide +kernel
theorem dX7_queueOf_0 : decode cX7_queueOf 0 = .ok (.aload_n 0, 1) := by decide +kernel
theorem dX7_queueOf_1 : decode cX7_queueOf 1 = .ok (.iload_n 1, 1) := by decide +kernel
theorem dX7_queueOf_2 : decode cX7_queueOf 2 = .ok (.iconst 4, 1) := by decide +kernel
theorem dX7_queueOf_3 : decode cX7_queueOf 3 = .ok (.invokevirtual 39, 3) := by decide +kernel
theorem dX7_queueOf_6 : decode cX7_queueOf 6 = .ok (.ifCond .ne 12, 3) := by decide +kernel
theorem dX7_queueOf_9 : decode cX7_queueOf 9 = .ok (.aload_n 0, 1) := by decide +kernel
theorem dX7_queueOf_10 : decode cX7_queueOf 10 = .ok (.iload_n 1, 1) := by decide +kernel
theorem dX7_queueOf_11 : decode cX7_queueOf 11 = .ok (.iconst 0, 1) := by decide +kernel
theorem dX7_queueOf_12 : decode cX7_queueOf 12 = .ok (.invokevirtual 39, 3) := by decide +kernel
theorem dX7_queueOf_15 : decode cX7_queueOf 15 = .ok (.goto 19, 3) := by decide +kernel
theorem dX7_queueOf_18 : decode cX7_queueOf 18 = .ok (.aload_n 0, 1) := by decide +kernel
theorem dX7_queueOf_19 : decode cX7_queueOf 19 = .ok (.iload_n 1, 1) := by decide +kernel
theorem dX7_queueOf_20 : decode cX7_queueOf 20 = .ok (.iconst 4, 1) := by decide +kernel
theorem dX7_queueOf_21 : decode cX7_queueOf 21 = .ok (.invokevirtual 39, 3) := by decide +kernel
theorem dX7_queueOf_24 : decode cX7_queueOf 24 = .ok (.iconst 1, 1) := by decide +kernel
theorem dX7_queueOf_25 : decode cX7_queueOf 25 = .ok (.if_icmp .ne 7, 3) := by decide +kernel
theorem dX7_queueOf_28 : decode cX7_queueOf 28 = .ok (.iconst 5, 1) := by decide +kernel
theorem dX7_queueOf_29 : decode cX7_queueOf 29 = .ok (.goto 5, 3) := by decide +kernel
theorem dX7_queueOf_32 : decode cX7_queueOf 32 = .ok (.bipush (-6), 2) := by decide +kernel
theorem dX7_queueOf_34 : decode cX7_queueOf 34 = .ok (.ireturn, 1) := by decide +kernel
theorem dX7_placeOf_0 : decode cX7_placeOf 0 = .ok (.aload_n 0, 1) := by decide +kernel
theorem dX7_placeOf_1 : decode cX7_placeOf 1 = .ok (.iload_n 1, 1) := by decide +kernel
theorem dX7_placeOf_2 : decode cX7_placeOf 2 = .ok (.invokevirtual 43, 3) := by decide +kernel
theorem dX7_placeOf_5 : decode cX7_placeOf 5 = .ok (.istore_n 2, 1) := by decide +kernel
theorem dX7_placeOf_6 : decode cX7_placeOf 6 = .ok (.iload_n 2, 1) := by decide +kernel
theorem dX7_placeOf_7 : decode cX7_placeOf 7 = .ok (.bipush (-6), 2) := by decide +kernel
theorem dX7_placeOf_9 : decode cX7_placeOf 9 = .ok (.if_icmp .ne 6, 3) := by decide +kernel
theorem dX7_placeOf_12 : decode cX7_placeOf 12 = .ok (.bipush (-6), 2) := by decide +kernel
theorem dX7_placeOf_14 : decode cX7_placeOf 14 = .ok (.ireturn, 1) := by decide +kernel
theorem dX7_placeOf_15 : decode cX7_placeOf 15 = .ok (.iconst 0, 1) := by decide +kernel
theorem dX7_placeOf_16 : decode cX7_placeOf 16 = .ok (.istore_n 3, 1) := by decide +kernel
theorem dX7_placeOf_17 : decode cX7_placeOf 17 = .ok (.aload_n 0, 1) := by decide +kernel
theorem dX7_placeOf_18 : decode cX7_placeOf 18 = .ok (.iload_n 2, 1) := by decide +kernel
theorem dX7_placeOf_19 : decode cX7_placeOf 19 = .ok (.iload_n 3, 1) := by decide +kernel
theorem dX7_placeOf_20 : decode cX7_placeOf 20 = .ok (.invokevirtual 47, 3) := by decide +kernel
theorem dX7_placeOf_23 : decode cX7_placeOf 23 = .ok (.iload_n 1, 1) := by decide +kernel
theorem dX7_placeOf_24 : decode cX7_placeOf 24 = .ok (.if_icmp .eq 9, 3) := by decide +kernel
theorem dX7_placeOf_27 : decode cX7_placeOf 27 = .ok (.iinc 3 1, 3) := by decide +kernel
theorem dX7_placeOf_30 : decode cX7_placeOf 30 = .ok (.goto (-13), 3) := by decide +kernel
theorem dX7_placeOf_33 : decode cX7_placeOf 33 = .ok (.iload_n 3, 1) := by decide +kernel
theorem dX7_placeOf_34 : decode cX7_placeOf 34 = .ok (.ireturn, 1) := by decide +kernel
theorem dX7_comesTo_0 : decode cX7_comesTo 0 = .ok (.aload_n 0, 1) := by decide +kernel
theorem dX7_comesTo_1 : decode cX7_comesTo 1 = .ok (.getfield 7, 3) := by decide +kernel
theorem dX7_comesTo_4 : decode cX7_comesTo 4 = .ok (.bipush 14, 2) := by decide +kernel
theorem dX7_comesTo_6 : decode cX7_comesTo 6 = .ok (.bipush 24, 2) := by decide +kernel
theorem dX7_comesTo_8 : decode cX7_comesTo 8 = .ok (.iload_n 1, 1) := by decide +kernel
theorem dX7_comesTo_9 : decode cX7_comesTo 9 = .ok (.imul, 1) := by decide +kernel
theorem dX7_comesTo_10 : decode cX7_comesTo 10 = .ok (.iadd, 1) := by decide +kernel
theorem dX7_comesTo_11 : decode cX7_comesTo 11 = .ok (.aload_n 0, 1) := by decide +kernel
theorem dX7_comesTo_12 : decode cX7_comesTo 12 = .ok (.getfield 7, 3) := by decide +kernel
theorem dX7_comesTo_15 : decode cX7_comesTo 15 = .ok (.bipush 8, 2) := by decide +kernel
theorem dX7_comesTo_17 : decode cX7_comesTo 17 = .ok (.iload_n 1, 1) := by decide +kernel
theorem dX7_comesTo_18 : decode cX7_comesTo 18 = .ok (.iadd, 1) := by decide +kernel
theorem dX7_comesTo_19 : decode cX7_comesTo 19 = .ok (.iaload, 1) := by decide +kernel
theorem dX7_comesTo_20 : decode cX7_comesTo 20 = .ok (.iadd, 1) := by decide +kernel
theorem dX7_comesTo_21 : decode cX7_comesTo 21 = .ok (.iload_n 2, 1) := by decide +kernel
theorem dX7_comesTo_22 : decode cX7_comesTo 22 = .ok (.iastore, 1) := by decide +kernel
theorem dX7_comesTo_23 : decode cX7_comesTo 23 = .ok (.aload_n 0, 1) := by decide +kernel
theorem dX7_comesTo_24 : decode cX7_comesTo 24 = .ok (.getfield 7, 3) := by decide +kernel
theorem dX7_comesTo_27 : decode cX7_comesTo 27 = .ok (.bipush 8, 2) := by decide +kernel
theorem dX7_comesTo_29 : decode cX7_comesTo 29 = .ok (.iload_n 1, 1) := by decide +kernel
theorem dX7_comesTo_30 : decode cX7_comesTo 30 = .ok (.iadd, 1) := by decide +kernel
theorem dX7_comesTo_31 : decode cX7_comesTo 31 = .ok (.dup2, 1) := by decide +kernel
theorem dX7_comesTo_32 : decode cX7_comesTo 32 = .ok (.iaload, 1) := by decide +kernel
theorem dX7_comesTo_33 : decode cX7_comesTo 33 = .ok (.iconst 1, 1) := by decide +kernel
theorem dX7_comesTo_34 : decode cX7_comesTo 34 = .ok (.iadd, 1) := by decide +kernel
theorem dX7_comesTo_35 : decode cX7_comesTo 35 = .ok (.iastore, 1) := by decide +kernel
theorem dX7_comesTo_36 : decode cX7_comesTo 36 = .ok (.return_, 1) := by decide +kernel
theorem dX7_leaves_0 : decode cX7_leaves 0 = .ok (.aload_n 0, 1) := by decide +kernel
theorem dX7_leaves_1 : decode cX7_leaves 1 = .ok (.iload_n 1, 1) := by decide +kernel
theorem dX7_leaves_2 : decode cX7_leaves 2 = .ok (.invokevirtual 43, 3) := by decide +kernel
theorem dX7_leaves_5 : decode cX7_leaves 5 = .ok (.istore_n 2, 1) := by decide +kernel
theorem dX7_leaves_6 : decode cX7_leaves 6 = .ok (.iload_n 2, 1) := by decide +kernel
theorem dX7_leaves_7 : decode cX7_leaves 7 = .ok (.bipush (-6), 2) := by decide +kernel
theorem dX7_leaves_9 : decode cX7_leaves 9 = .ok (.if_icmp .ne 4, 3) := by decide +kernel
theorem dX7_leaves_12 : decode cX7_leaves 12 = .ok (.return_, 1) := by decide +kernel
theorem dX7_leaves_13 : decode cX7_leaves 13 = .ok (.aload_n 0, 1) := by decide +kernel
theorem dX7_leaves_14 : decode cX7_leaves 14 = .ok (.iload_n 1, 1) := by decide +kernel
theorem dX7_leaves_15 : decode cX7_leaves 15 = .ok (.invokevirtual 50, 3) := by decide +kernel
theorem dX7_leaves_18 : decode cX7_leaves 18 = .ok (.istore_n 3, 1) := by decide +kernel
theorem dX7_leaves_19 : decode cX7_leaves 19 = .ok (.aload_n 0, 1) := by decide +kernel
theorem dX7_leaves_20 : decode cX7_leaves 20 = .ok (.getfield 7, 3) := by decide +kernel
theorem dX7_leaves_23 : decode cX7_leaves 23 = .ok (.bipush 8, 2) := by decide +kernel
theorem dX7_leaves_25 : decode cX7_leaves 25 = .ok (.iload_n 2, 1) := by decide +kernel
theorem dX7_leaves_26 : decode cX7_leaves 26 = .ok (.iadd, 1) := by decide +kernel
theorem dX7_leaves_27 : decode cX7_leaves 27 = .ok (.dup2, 1) := by decide +kernel
theorem dX7_leaves_28 : decode cX7_leaves 28 = .ok (.iaload, 1) := by decide +kernel
theorem dX7_leaves_29 : decode cX7_leaves 29 = .ok (.iconst 1, 1) := by decide +kernel
theorem dX7_leaves_30 : decode cX7_leaves 30 = .ok (.isub, 1) := by decide +kernel
theorem dX7_leaves_31 : decode cX7_leaves 31 = .ok (.iastore, 1) := by decide +kernel
theorem dX7_leaves_32 : decode cX7_leaves 32 = .ok (.iload_n 3, 1) := by decide +kernel
theorem dX7_leaves_33 : decode cX7_leaves 33 = .ok (.istore 4, 2) := by decide +kernel
theorem dX7_leaves_35 : decode cX7_leaves 35 = .ok (.iload 4, 2) := by decide +kernel
theorem dX7_leaves_37 : decode cX7_leaves 37 = .ok (.aload_n 0, 1) := by decide +kernel
theorem dX7_leaves_38 : decode cX7_leaves 38 = .ok (.getfield 7, 3) := by decide +kernel
theorem dX7_leaves_41 : decode cX7_leaves 41 = .ok (.bipush 8, 2) := by decide +kernel
theorem dX7_leaves_43 : decode cX7_leaves 43 = .ok (.iload_n 2, 1) := by decide +kernel
theorem dX7_leaves_44 : decode cX7_leaves 44 = .ok (.iadd, 1) := by decide +kernel
theorem dX7_leaves_45 : decode cX7_leaves 45 = .ok (.iaload, 1) := by decide +kernel
theorem dX7_leaves_46 : decode cX7_leaves 46 = .ok (.if_icmp .ge 37, 3) := by decide +kernel
theorem dX7_leaves_49 : decode cX7_leaves 49 = .ok (.bipush 14, 2) := by decide +kernel
theorem dX7_leaves_51 : decode cX7_leaves 51 = .ok (.bipush 24, 2) := by decide +kernel
theorem dX7_leaves_53 : decode cX7_leaves 53 = .ok (.iload_n 2, 1) := by decide +kernel
theorem dX7_leaves_54 : decode cX7_leaves 54 = .ok (.imul, 1) := by decide +kernel
theorem dX7_leaves_55 : decode cX7_leaves 55 = .ok (.iadd, 1) := by decide +kernel
theorem dX7_leaves_56 : decode cX7_leaves 56 = .ok (.iload 4, 2) := by decide +kernel
theorem dX7_leaves_58 : decode cX7_leaves 58 = .ok (.iadd, 1) := by decide +kernel
theorem dX7_leaves_59 : decode cX7_leaves 59 = .ok (.istore 5, 2) := by decide +kernel
theorem dX7_leaves_61 : decode cX7_leaves 61 = .ok (.aload_n 0, 1) := by decide +kernel
theorem dX7_leaves_62 : decode cX7_leaves 62 = .ok (.getfield 7, 3) := by decide +kernel
theorem dX7_leaves_65 : decode cX7_leaves 65 = .ok (.iload 5, 2) := by decide +kernel
theorem dX7_leaves_67 : decode cX7_leaves 67 = .ok (.aload_n 0, 1) := by decide +kernel
theorem dX7_leaves_68 : decode cX7_leaves 68 = .ok (.getfield 7, 3) := by decide +kernel
theorem dX7_leaves_71 : decode cX7_leaves 71 = .ok (.iload 5, 2) := by decide +kernel
theorem dX7_leaves_73 : decode cX7_leaves 73 = .ok (.iconst 1, 1) := by decide +kernel
theorem dX7_leaves_74 : decode cX7_leaves 74 = .ok (.iadd, 1) := by decide +kernel
theorem dX7_leaves_75 : decode cX7_leaves 75 = .ok (.iaload, 1) := by decide +kernel
theorem dX7_leaves_76 : decode cX7_leaves 76 = .ok (.iastore, 1) := by decide +kernel
theorem dX7_leaves_77 : decode cX7_leaves 77 = .ok (.iinc 4 1, 3) := by decide +kernel
theorem dX7_leaves_80 : decode cX7_leaves 80 = .ok (.goto (-45), 3) := by decide +kernel
theorem dX7_leaves_83 : decode cX7_leaves 83 = .ok (.return_, 1) := by decide +kernel
theorem dX7_becomesReady_0 : decode cX7_becomesReady 0 = .ok (.aload_n 0, 1) := by decide +kernel
theorem dX7_becomesReady_1 : decode cX7_becomesReady 1 = .ok (.iload_n 1, 1) := by decide +kernel
theorem dX7_becomesReady_2 : decode cX7_becomesReady 2 = .ok (.iconst 4, 1) := by decide +kernel
theorem dX7_becomesReady_3 : decode cX7_becomesReady 3 = .ok (.iconst 2, 1) := by decide +kernel
theorem dX7_becomesReady_4 : decode cX7_becomesReady 4 = .ok (.invokevirtual 53, 3) := by decide +kernel
theorem dX7_becomesReady_7 : decode cX7_becomesReady 7 = .ok (.aload_n 0, 1) := by decide +kernel
theorem dX7_becomesReady_8 : decode cX7_becomesReady 8 = .ok (.iload_n 1, 1) := by decide +kernel
theorem dX7_becomesReady_9 : decode cX7_becomesReady 9 = .ok (.bipush 8, 2) := by decide +kernel
theorem dX7_becomesReady_11 : decode cX7_becomesReady 11 = .ok (.aload_n 0, 1) := by decide +kernel
theorem dX7_becomesReady_12 : decode cX7_becomesReady 12 = .ok (.getfield 7, 3) := by decide +kernel
theorem dX7_becomesReady_15 : decode cX7_becomesReady 15 = .ok (.iconst 4, 1) := by decide +kernel
theorem dX7_becomesReady_16 : decode cX7_becomesReady 16 = .ok (.iaload, 1) := by decide +kernel
theorem dX7_becomesReady_17 : decode cX7_becomesReady 17 = .ok (.invokevirtual 53, 3) := by decide +kernel
theorem dX7_becomesReady_20 : decode cX7_becomesReady 20 = .ok (.return_, 1) := by decide +kernel
theorem dX7_edits_0 : decode cX7_edits 0 = .ok (.aload_n 0, 1) := by decide +kernel
theorem dX7_edits_1 : decode cX7_edits 1 = .ok (.getfield 7, 3) := by decide +kernel
theorem dX7_edits_4 : decode cX7_edits 4 = .ok (.bipush 8, 2) := by decide +kernel
theorem dX7_edits_6 : decode cX7_edits 6 = .ok (.iload_n 1, 1) := by decide +kernel
theorem dX7_edits_7 : decode cX7_edits 7 = .ok (.iadd, 1) := by decide +kernel
theorem dX7_edits_8 : decode cX7_edits 8 = .ok (.iaload, 1) := by decide +kernel
theorem dX7_edits_9 : decode cX7_edits 9 = .ok (.ifCond .ne 4, 3) := by decide +kernel
theorem dX7_edits_12 : decode cX7_edits 12 = .ok (.return_, 1) := by decide +kernel
theorem dX7_edits_13 : decode cX7_edits 13 = .ok (.aload_n 0, 1) := by decide +kernel
theorem dX7_edits_14 : decode cX7_edits 14 = .ok (.iload_n 1, 1) := by decide +kernel
theorem dX7_edits_15 : decode cX7_edits 15 = .ok (.iconst 0, 1) := by decide +kernel
theorem dX7_edits_16 : decode cX7_edits 16 = .ok (.invokevirtual 47, 3) := by decide +kernel
theorem dX7_edits_19 : decode cX7_edits 19 = .ok (.istore_n 2, 1) := by decide +kernel
theorem dX7_edits_20 : decode cX7_edits 20 = .ok (.aload_n 0, 1) := by decide +kernel
theorem dX7_edits_21 : decode cX7_edits 21 = .ok (.iload_n 2, 1) := by decide +kernel
theorem dX7_edits_22 : decode cX7_edits 22 = .ok (.bipush 6, 2) := by decide +kernel
theorem dX7_edits_24 : decode cX7_edits 24 = .ok (.invokevirtual 39, 3) := by decide +kernel
theorem dX7_edits_27 : decode cX7_edits 27 = .ok (.aload_n 0, 1) := by decide +kernel
theorem dX7_edits_28 : decode cX7_edits 28 = .ok (.getfield 7, 3) := by decide +kernel
theorem dX7_edits_31 : decode cX7_edits 31 = .ok (.iconst 0, 1) := by decide +kernel
theorem dX7_edits_32 : decode cX7_edits 32 = .ok (.iaload, 1) := by decide +kernel
theorem dX7_edits_33 : decode cX7_edits 33 = .ok (.iadd, 1) := by decide +kernel
theorem dX7_edits_34 : decode cX7_edits 34 = .ok (.istore_n 3, 1) := by decide +kernel
theorem dX7_edits_35 : decode cX7_edits 35 = .ok (.aload_n 0, 1) := by decide +kernel
theorem dX7_edits_36 : decode cX7_edits 36 = .ok (.iload_n 2, 1) := by decide +kernel
theorem dX7_edits_37 : decode cX7_edits 37 = .ok (.bipush 6, 2) := by decide +kernel
theorem dX7_edits_39 : decode cX7_edits 39 = .ok (.iload_n 3, 1) := by decide +kernel
theorem dX7_edits_40 : decode cX7_edits 40 = .ok (.aload_n 0, 1) := by decide +kernel
theorem dX7_edits_41 : decode cX7_edits 41 = .ok (.iload_n 2, 1) := by decide +kernel
theorem dX7_edits_42 : decode cX7_edits 42 = .ok (.iconst 1, 1) := by decide +kernel
theorem dX7_edits_43 : decode cX7_edits 43 = .ok (.invokevirtual 39, 3) := by decide +kernel
theorem dX7_edits_46 : decode cX7_edits 46 = .ok (.if_icmp .ge 7, 3) := by decide +kernel
theorem dX7_edits_49 : decode cX7_edits 49 = .ok (.iload_n 3, 1) := by decide +kernel
theorem dX7_edits_50 : decode cX7_edits 50 = .ok (.goto 9, 3) := by decide +kernel
theorem dX7_edits_53 : decode cX7_edits 53 = .ok (.aload_n 0, 1) := by decide +kernel
theorem dX7_edits_54 : decode cX7_edits 54 = .ok (.iload_n 2, 1) := by decide +kernel
theorem dX7_edits_55 : decode cX7_edits 55 = .ok (.iconst 1, 1) := by decide +kernel
theorem dX7_edits_56 : decode cX7_edits 56 = .ok (.invokevirtual 39, 3) := by decide +kernel
theorem dX7_edits_59 : decode cX7_edits 59 = .ok (.invokevirtual 53, 3) := by decide +kernel
theorem dX7_edits_62 : decode cX7_edits 62 = .ok (.iload_n 3, 1) := by decide +kernel
theorem dX7_edits_63 : decode cX7_edits 63 = .ok (.aload_n 0, 1) := by decide +kernel
theorem dX7_edits_64 : decode cX7_edits 64 = .ok (.iload_n 2, 1) := by decide +kernel
theorem dX7_edits_65 : decode cX7_edits 65 = .ok (.iconst 1, 1) := by decide +kernel
theorem dX7_edits_66 : decode cX7_edits 66 = .ok (.invokevirtual 39, 3) := by decide +kernel
theorem dX7_edits_69 : decode cX7_edits 69 = .ok (.if_icmp .lt 39, 3) := by decide +kernel
theorem dX7_edits_72 : decode cX7_edits 72 = .ok (.aload_n 0, 1) := by decide +kernel
theorem dX7_edits_73 : decode cX7_edits 73 = .ok (.iload_n 2, 1) := by decide +kernel
theorem dX7_edits_74 : decode cX7_edits 74 = .ok (.invokevirtual 57, 3) := by decide +kernel
theorem dX7_edits_77 : decode cX7_edits 77 = .ok (.aload_n 0, 1) := by decide +kernel
theorem dX7_edits_78 : decode cX7_edits 78 = .ok (.iload_n 2, 1) := by decide +kernel
theorem dX7_edits_79 : decode cX7_edits 79 = .ok (.iconst 3, 1) := by decide +kernel
theorem dX7_edits_80 : decode cX7_edits 80 = .ok (.invokevirtual 39, 3) := by decide +kernel
theorem dX7_edits_83 : decode cX7_edits 83 = .ok (.iconst 1, 1) := by decide +kernel
theorem dX7_edits_84 : decode cX7_edits 84 = .ok (.if_icmp .ne 19, 3) := by decide +kernel
theorem dX7_edits_87 : decode cX7_edits 87 = .ok (.aload_n 0, 1) := by decide +kernel
theorem dX7_edits_88 : decode cX7_edits 88 = .ok (.iload_n 2, 1) := by decide +kernel
theorem dX7_edits_89 : decode cX7_edits 89 = .ok (.iconst 4, 1) := by decide +kernel
theorem dX7_edits_90 : decode cX7_edits 90 = .ok (.iconst 1, 1) := by decide +kernel
theorem dX7_edits_91 : decode cX7_edits 91 = .ok (.invokevirtual 53, 3) := by decide +kernel
theorem dX7_edits_94 : decode cX7_edits 94 = .ok (.aload_n 0, 1) := by decide +kernel
theorem dX7_edits_95 : decode cX7_edits 95 = .ok (.iconst 5, 1) := by decide +kernel
theorem dX7_edits_96 : decode cX7_edits 96 = .ok (.iload_n 2, 1) := by decide +kernel
theorem dX7_edits_97 : decode cX7_edits 97 = .ok (.invokevirtual 61, 3) := by decide +kernel
theorem dX7_edits_100 : decode cX7_edits 100 = .ok (.goto 8, 3) := by decide +kernel
theorem dX7_edits_103 : decode cX7_edits 103 = .ok (.aload_n 0, 1) := by decide +kernel
theorem dX7_edits_104 : decode cX7_edits 104 = .ok (.iload_n 2, 1) := by decide +kernel
theorem dX7_edits_105 : decode cX7_edits 105 = .ok (.invokevirtual 65, 3) := by decide +kernel
theorem dX7_edits_108 : decode cX7_edits 108 = .ok (.return_, 1) := by decide +kernel
theorem dX7_reads_0 : decode cX7_reads 0 = .ok (.aload_n 0, 1) := by decide +kernel
theorem dX7_reads_1 : decode cX7_reads 1 = .ok (.getfield 7, 3) := by decide +kernel
theorem dX7_reads_4 : decode cX7_reads 4 = .ok (.bipush 13, 2) := by decide +kernel
theorem dX7_reads_6 : decode cX7_reads 6 = .ok (.iaload, 1) := by decide +kernel
theorem dX7_reads_7 : decode cX7_reads 7 = .ok (.ifCond .ne 4, 3) := by decide +kernel
theorem dX7_reads_10 : decode cX7_reads 10 = .ok (.return_, 1) := by decide +kernel
theorem dX7_reads_11 : decode cX7_reads 11 = .ok (.aload_n 0, 1) := by decide +kernel
theorem dX7_reads_12 : decode cX7_reads 12 = .ok (.iconst 5, 1) := by decide +kernel
theorem dX7_reads_13 : decode cX7_reads 13 = .ok (.iconst 0, 1) := by decide +kernel
theorem dX7_reads_14 : decode cX7_reads 14 = .ok (.invokevirtual 47, 3) := by decide +kernel
theorem dX7_reads_17 : decode cX7_reads 17 = .ok (.istore_n 1, 1) := by decide +kernel
theorem dX7_reads_18 : decode cX7_reads 18 = .ok (.aload_n 0, 1) := by decide +kernel
theorem dX7_reads_19 : decode cX7_reads 19 = .ok (.iload_n 1, 1) := by decide +kernel
theorem dX7_reads_20 : decode cX7_reads 20 = .ok (.bipush 7, 2) := by decide +kernel
theorem dX7_reads_22 : decode cX7_reads 22 = .ok (.aload_n 0, 1) := by decide +kernel
theorem dX7_reads_23 : decode cX7_reads 23 = .ok (.iload_n 1, 1) := by decide +kernel
theorem dX7_reads_24 : decode cX7_reads 24 = .ok (.bipush 7, 2) := by decide +kernel
theorem dX7_reads_26 : decode cX7_reads 26 = .ok (.invokevirtual 39, 3) := by decide +kernel
theorem dX7_reads_29 : decode cX7_reads 29 = .ok (.iconst 1, 1) := by decide +kernel
theorem dX7_reads_30 : decode cX7_reads 30 = .ok (.iadd, 1) := by decide +kernel
theorem dX7_reads_31 : decode cX7_reads 31 = .ok (.invokevirtual 53, 3) := by decide +kernel
theorem dX7_reads_34 : decode cX7_reads 34 = .ok (.aload_n 0, 1) := by decide +kernel
theorem dX7_reads_35 : decode cX7_reads 35 = .ok (.iload_n 1, 1) := by decide +kernel
theorem dX7_reads_36 : decode cX7_reads 36 = .ok (.bipush 7, 2) := by decide +kernel
theorem dX7_reads_38 : decode cX7_reads 38 = .ok (.invokevirtual 39, 3) := by decide +kernel
theorem dX7_reads_41 : decode cX7_reads 41 = .ok (.aload_n 0, 1) := by decide +kernel
theorem dX7_reads_42 : decode cX7_reads 42 = .ok (.getfield 7, 3) := by decide +kernel
theorem dX7_reads_45 : decode cX7_reads 45 = .ok (.iconst 1, 1) := by decide +kernel
theorem dX7_reads_46 : decode cX7_reads 46 = .ok (.iaload, 1) := by decide +kernel
theorem dX7_reads_47 : decode cX7_reads 47 = .ok (.if_icmp .lt 13, 3) := by decide +kernel
theorem dX7_reads_50 : decode cX7_reads 50 = .ok (.aload_n 0, 1) := by decide +kernel
theorem dX7_reads_51 : decode cX7_reads 51 = .ok (.iload_n 1, 1) := by decide +kernel
theorem dX7_reads_52 : decode cX7_reads 52 = .ok (.invokevirtual 57, 3) := by decide +kernel
theorem dX7_reads_55 : decode cX7_reads 55 = .ok (.aload_n 0, 1) := by decide +kernel
theorem dX7_reads_56 : decode cX7_reads 56 = .ok (.iload_n 1, 1) := by decide +kernel
theorem dX7_reads_57 : decode cX7_reads 57 = .ok (.invokevirtual 65, 3) := by decide +kernel
theorem dX7_reads_60 : decode cX7_reads 60 = .ok (.return_, 1) := by decide +kernel
theorem dX7_isFree_0 : decode cX7_isFree 0 = .ok (.aload_n 0, 1) := by decide +kernel
theorem dX7_isFree_1 : decode cX7_isFree 1 = .ok (.iload_n 1, 1) := by decide +kernel
theorem dX7_isFree_2 : decode cX7_isFree 2 = .ok (.iconst 4, 1) := by decide +kernel
theorem dX7_isFree_3 : decode cX7_isFree 3 = .ok (.invokevirtual 39, 3) := by decide +kernel
theorem dX7_isFree_6 : decode cX7_isFree 6 = .ok (.iconst 2, 1) := by decide +kernel
theorem dX7_isFree_7 : decode cX7_isFree 7 = .ok (.if_icmp .ne 16, 3) := by decide +kernel
theorem dX7_isFree_10 : decode cX7_isFree 10 = .ok (.aload_n 0, 1) := by decide +kernel
theorem dX7_isFree_11 : decode cX7_isFree 11 = .ok (.iload_n 1, 1) := by decide +kernel
theorem dX7_isFree_12 : decode cX7_isFree 12 = .ok (.iconst 5, 1) := by decide +kernel
theorem dX7_isFree_13 : decode cX7_isFree 13 = .ok (.invokevirtual 39, 3) := by decide +kernel
theorem dX7_isFree_16 : decode cX7_isFree 16 = .ok (.ifCond .ne 7, 3) := by decide +kernel
theorem dX7_isFree_19 : decode cX7_isFree 19 = .ok (.iconst 1, 1) := by decide +kernel
theorem dX7_isFree_20 : decode cX7_isFree 20 = .ok (.goto 4, 3) := by decide +kernel
theorem dX7_isFree_23 : decode cX7_isFree 23 = .ok (.iconst 0, 1) := by decide +kernel
theorem dX7_isFree_24 : decode cX7_isFree 24 = .ok (.ireturn, 1) := by decide +kernel
theorem dX7_isAhead_0 : decode cX7_isAhead 0 = .ok (.aload_n 0, 1) := by decide +kernel
theorem dX7_isAhead_1 : decode cX7_isAhead 1 = .ok (.iload_n 2, 1) := by decide +kernel
theorem dX7_isAhead_2 : decode cX7_isAhead 2 = .ok (.iconst 2, 1) := by decide +kernel
theorem dX7_isAhead_3 : decode cX7_isAhead 3 = .ok (.invokevirtual 39, 3) := by decide +kernel
theorem dX7_isAhead_6 : decode cX7_isAhead 6 = .ok (.aload_n 0, 1) := by decide +kernel
theorem dX7_isAhead_7 : decode cX7_isAhead 7 = .ok (.iload_n 1, 1) := by decide +kernel
theorem dX7_isAhead_8 : decode cX7_isAhead 8 = .ok (.iconst 2, 1) := by decide +kernel
theorem dX7_isAhead_9 : decode cX7_isAhead 9 = .ok (.invokevirtual 39, 3) := by decide +kernel
theorem dX7_isAhead_12 : decode cX7_isAhead 12 = .ok (.isub, 1) := by decide +kernel
theorem dX7_isAhead_13 : decode cX7_isAhead 13 = .ok (.istore_n 3, 1) := by decide +kernel
theorem dX7_isAhead_14 : decode cX7_isAhead 14 = .ok (.aload_n 0, 1) := by decide +kernel
theorem dX7_isAhead_15 : decode cX7_isAhead 15 = .ok (.iload_n 1, 1) := by decide +kernel
theorem dX7_isAhead_16 : decode cX7_isAhead 16 = .ok (.bipush 8, 2) := by decide +kernel
theorem dX7_isAhead_18 : decode cX7_isAhead 18 = .ok (.invokevirtual 39, 3) := by decide +kernel
theorem dX7_isAhead_21 : decode cX7_isAhead 21 = .ok (.aload_n 0, 1) := by decide +kernel
theorem dX7_isAhead_22 : decode cX7_isAhead 22 = .ok (.iload_n 2, 1) := by decide +kernel
theorem dX7_isAhead_23 : decode cX7_isAhead 23 = .ok (.bipush 8, 2) := by decide +kernel
theorem dX7_isAhead_25 : decode cX7_isAhead 25 = .ok (.invokevirtual 39, 3) := by decide +kernel
theorem dX7_isAhead_28 : decode cX7_isAhead 28 = .ok (.isub, 1) := by decide +kernel
theorem dX7_isAhead_29 : decode cX7_isAhead 29 = .ok (.istore 4, 2) := by decide +kernel
theorem dX7_isAhead_31 : decode cX7_isAhead 31 = .ok (.iload_n 3, 1) := by decide +kernel
theorem dX7_isAhead_32 : decode cX7_isAhead 32 = .ok (.ifCond .lt 22, 3) := by decide +kernel
theorem dX7_isAhead_35 : decode cX7_isAhead 35 = .ok (.iload_n 3, 1) := by decide +kernel
theorem dX7_isAhead_36 : decode cX7_isAhead 36 = .ok (.ifCond .ne 22, 3) := by decide +kernel
theorem dX7_isAhead_39 : decode cX7_isAhead 39 = .ok (.iload 4, 2) := by decide +kernel
theorem dX7_isAhead_41 : decode cX7_isAhead 41 = .ok (.ifCond .lt 13, 3) := by decide +kernel
theorem dX7_isAhead_44 : decode cX7_isAhead 44 = .ok (.iload 4, 2) := by decide +kernel
theorem dX7_isAhead_46 : decode cX7_isAhead 46 = .ok (.ifCond .ne 12, 3) := by decide +kernel
theorem dX7_isAhead_49 : decode cX7_isAhead 49 = .ok (.iload_n 1, 1) := by decide +kernel
theorem dX7_isAhead_50 : decode cX7_isAhead 50 = .ok (.iload_n 2, 1) := by decide +kernel
theorem dX7_isAhead_51 : decode cX7_isAhead 51 = .ok (.if_icmp .ge 7, 3) := by decide +kernel
theorem dX7_isAhead_54 : decode cX7_isAhead 54 = .ok (.iconst 1, 1) := by decide +kernel
theorem dX7_isAhead_55 : decode cX7_isAhead 55 = .ok (.goto 4, 3) := by decide +kernel
theorem dX7_isAhead_58 : decode cX7_isAhead 58 = .ok (.iconst 0, 1) := by decide +kernel
theorem dX7_isAhead_59 : decode cX7_isAhead 59 = .ok (.ireturn, 1) := by decide +kernel
theorem dX7_ranked_0 : decode cX7_ranked 0 = .ok (.iconst 0, 1) := by decide +kernel
theorem dX7_ranked_1 : decode cX7_ranked 1 = .ok (.istore_n 2, 1) := by decide +kernel
theorem dX7_ranked_2 : decode cX7_ranked 2 = .ok (.iload_n 2, 1) := by decide +kernel
theorem dX7_ranked_3 : decode cX7_ranked 3 = .ok (.aload_n 0, 1) := by decide +kernel
theorem dX7_ranked_4 : decode cX7_ranked 4 = .ok (.getfield 7, 3) := by decide +kernel
theorem dX7_ranked_7 : decode cX7_ranked 7 = .ok (.iconst 5, 1) := by decide +kernel
theorem dX7_ranked_8 : decode cX7_ranked 8 = .ok (.iaload, 1) := by decide +kernel
theorem dX7_ranked_9 : decode cX7_ranked 9 = .ok (.if_icmp .ge 79, 3) := by decide +kernel
theorem dX7_ranked_12 : decode cX7_ranked 12 = .ok (.iconst 0, 1) := by decide +kernel
theorem dX7_ranked_13 : decode cX7_ranked 13 = .ok (.istore_n 3, 1) := by decide +kernel
theorem dX7_ranked_14 : decode cX7_ranked 14 = .ok (.iconst 0, 1) := by decide +kernel
theorem dX7_ranked_15 : decode cX7_ranked 15 = .ok (.istore 4, 2) := by decide +kernel
theorem dX7_ranked_17 : decode cX7_ranked 17 = .ok (.iload 4, 2) := by decide +kernel
theorem dX7_ranked_19 : decode cX7_ranked 19 = .ok (.aload_n 0, 1) := by decide +kernel
theorem dX7_ranked_20 : decode cX7_ranked 20 = .ok (.getfield 7, 3) := by decide +kernel
theorem dX7_ranked_23 : decode cX7_ranked 23 = .ok (.iconst 5, 1) := by decide +kernel
theorem dX7_ranked_24 : decode cX7_ranked 24 = .ok (.iaload, 1) := by decide +kernel
theorem dX7_ranked_25 : decode cX7_ranked 25 = .ok (.if_icmp .ge 42, 3) := by decide +kernel
theorem dX7_ranked_28 : decode cX7_ranked 28 = .ok (.iload_n 3, 1) := by decide +kernel
theorem dX7_ranked_29 : decode cX7_ranked 29 = .ok (.aload_n 0, 1) := by decide +kernel
theorem dX7_ranked_30 : decode cX7_ranked 30 = .ok (.iload 4, 2) := by decide +kernel
theorem dX7_ranked_32 : decode cX7_ranked 32 = .ok (.invokevirtual 68, 3) := by decide +kernel
theorem dX7_ranked_35 : decode cX7_ranked 35 = .ok (.ifCond .eq 23, 3) := by decide +kernel
theorem dX7_ranked_38 : decode cX7_ranked 38 = .ok (.iload 4, 2) := by decide +kernel
theorem dX7_ranked_40 : decode cX7_ranked 40 = .ok (.iload_n 2, 1) := by decide +kernel
theorem dX7_ranked_41 : decode cX7_ranked 41 = .ok (.if_icmp .eq 17, 3) := by decide +kernel
theorem dX7_ranked_44 : decode cX7_ranked 44 = .ok (.aload_n 0, 1) := by decide +kernel
theorem dX7_ranked_45 : decode cX7_ranked 45 = .ok (.iload 4, 2) := by decide +kernel
theorem dX7_ranked_47 : decode cX7_ranked 47 = .ok (.iload_n 2, 1) := by decide +kernel
theorem dX7_ranked_48 : decode cX7_ranked 48 = .ok (.invokevirtual 72, 3) := by decide +kernel
theorem dX7_ranked_51 : decode cX7_ranked 51 = .ok (.ifCond .eq 7, 3) := by decide +kernel
theorem dX7_ranked_54 : decode cX7_ranked 54 = .ok (.iconst 1, 1) := by decide +kernel
theorem dX7_ranked_55 : decode cX7_ranked 55 = .ok (.goto 4, 3) := by decide +kernel
theorem dX7_ranked_58 : decode cX7_ranked 58 = .ok (.iconst 0, 1) := by decide +kernel
theorem dX7_ranked_59 : decode cX7_ranked 59 = .ok (.iadd, 1) := by decide +kernel
theorem dX7_ranked_60 : decode cX7_ranked 60 = .ok (.istore_n 3, 1) := by decide +kernel
theorem dX7_ranked_61 : decode cX7_ranked 61 = .ok (.iinc 4 1, 3) := by decide +kernel
theorem dX7_ranked_64 : decode cX7_ranked 64 = .ok (.goto (-47), 3) := by decide +kernel
theorem dX7_ranked_67 : decode cX7_ranked 67 = .ok (.aload_n 0, 1) := by decide +kernel
theorem dX7_ranked_68 : decode cX7_ranked 68 = .ok (.iload_n 2, 1) := by decide +kernel
theorem dX7_ranked_69 : decode cX7_ranked 69 = .ok (.invokevirtual 68, 3) := by decide +kernel
theorem dX7_ranked_72 : decode cX7_ranked 72 = .ok (.ifCond .eq 10, 3) := by decide +kernel
theorem dX7_ranked_75 : decode cX7_ranked 75 = .ok (.iload_n 3, 1) := by decide +kernel
theorem dX7_ranked_76 : decode cX7_ranked 76 = .ok (.iload_n 1, 1) := by decide +kernel
theorem dX7_ranked_77 : decode cX7_ranked 77 = .ok (.if_icmp .ne 5, 3) := by decide +kernel
theorem dX7_ranked_80 : decode cX7_ranked 80 = .ok (.iload_n 2, 1) := by decide +kernel
theorem dX7_ranked_81 : decode cX7_ranked 81 = .ok (.ireturn, 1) := by decide +kernel
theorem dX7_ranked_82 : decode cX7_ranked 82 = .ok (.iinc 2 1, 3) := by decide +kernel
theorem dX7_ranked_85 : decode cX7_ranked 85 = .ok (.goto (-83), 3) := by decide +kernel
theorem dX7_ranked_88 : decode cX7_ranked 88 = .ok (.bipush (-6), 2) := by decide +kernel
theorem dX7_ranked_90 : decode cX7_ranked 90 = .ok (.ireturn, 1) := by decide +kernel
theorem dX7_takes_0 : decode cX7_takes 0 = .ok (.aload_n 0, 1) := by decide +kernel
theorem dX7_takes_1 : decode cX7_takes 1 = .ok (.iconst 0, 1) := by decide +kernel
theorem dX7_takes_2 : decode cX7_takes 2 = .ok (.putfield 76, 3) := by decide +kernel
theorem dX7_takes_5 : decode cX7_takes 5 = .ok (.aload_n 0, 1) := by decide +kernel
theorem dX7_takes_6 : decode cX7_takes 6 = .ok (.iconst 0, 1) := by decide +kernel
theorem dX7_takes_7 : decode cX7_takes 7 = .ok (.putfield 79, 3) := by decide +kernel
theorem dX7_takes_10 : decode cX7_takes 10 = .ok (.iconst 0, 1) := by decide +kernel
theorem dX7_takes_11 : decode cX7_takes 11 = .ok (.istore_n 2, 1) := by decide +kernel
theorem dX7_takes_12 : decode cX7_takes 12 = .ok (.aload_n 0, 1) := by decide +kernel
theorem dX7_takes_13 : decode cX7_takes 13 = .ok (.iload_n 2, 1) := by decide +kernel
theorem dX7_takes_14 : decode cX7_takes 14 = .ok (.invokevirtual 82, 3) := by decide +kernel
theorem dX7_takes_17 : decode cX7_takes 17 = .ok (.bipush (-6), 2) := by decide +kernel
theorem dX7_takes_19 : decode cX7_takes 19 = .ok (.if_icmp .eq 57, 3) := by decide +kernel
theorem dX7_takes_22 : decode cX7_takes 22 = .ok (.aload_n 0, 1) := by decide +kernel
theorem dX7_takes_23 : decode cX7_takes 23 = .ok (.iload_n 2, 1) := by decide +kernel
theorem dX7_takes_24 : decode cX7_takes 24 = .ok (.invokevirtual 82, 3) := by decide +kernel
theorem dX7_takes_27 : decode cX7_takes 27 = .ok (.istore_n 3, 1) := by decide +kernel
theorem dX7_takes_28 : decode cX7_takes 28 = .ok (.aload_n 0, 1) := by decide +kernel
theorem dX7_takes_29 : decode cX7_takes 29 = .ok (.getfield 79, 3) := by decide +kernel
theorem dX7_takes_32 : decode cX7_takes 32 = .ok (.aload_n 0, 1) := by decide +kernel
theorem dX7_takes_33 : decode cX7_takes 33 = .ok (.iload_n 3, 1) := by decide +kernel
theorem dX7_takes_34 : decode cX7_takes 34 = .ok (.iconst 1, 1) := by decide +kernel
theorem dX7_takes_35 : decode cX7_takes 35 = .ok (.invokevirtual 39, 3) := by decide +kernel
theorem dX7_takes_38 : decode cX7_takes 38 = .ok (.iadd, 1) := by decide +kernel
theorem dX7_takes_39 : decode cX7_takes 39 = .ok (.iload_n 1, 1) := by decide +kernel
theorem dX7_takes_40 : decode cX7_takes 40 = .ok (.if_icmp .gt 30, 3) := by decide +kernel
theorem dX7_takes_43 : decode cX7_takes 43 = .ok (.aload_n 0, 1) := by decide +kernel
theorem dX7_takes_44 : decode cX7_takes 44 = .ok (.dup, 1) := by decide +kernel
theorem dX7_takes_45 : decode cX7_takes 45 = .ok (.getfield 76, 3) := by decide +kernel
theorem dX7_takes_48 : decode cX7_takes 48 = .ok (.iconst 1, 1) := by decide +kernel
theorem dX7_takes_49 : decode cX7_takes 49 = .ok (.iload_n 3, 1) := by decide +kernel
theorem dX7_takes_50 : decode cX7_takes 50 = .ok (.ishl, 1) := by decide +kernel
theorem dX7_takes_51 : decode cX7_takes 51 = .ok (.ior, 1) := by decide +kernel
theorem dX7_takes_52 : decode cX7_takes 52 = .ok (.putfield 76, 3) := by decide +kernel
theorem dX7_takes_55 : decode cX7_takes 55 = .ok (.aload_n 0, 1) := by decide +kernel
theorem dX7_takes_56 : decode cX7_takes 56 = .ok (.dup, 1) := by decide +kernel
theorem dX7_takes_57 : decode cX7_takes 57 = .ok (.getfield 79, 3) := by decide +kernel
theorem dX7_takes_60 : decode cX7_takes 60 = .ok (.aload_n 0, 1) := by decide +kernel
theorem dX7_takes_61 : decode cX7_takes 61 = .ok (.iload_n 3, 1) := by decide +kernel
theorem dX7_takes_62 : decode cX7_takes 62 = .ok (.iconst 1, 1) := by decide +kernel
theorem dX7_takes_63 : decode cX7_takes 63 = .ok (.invokevirtual 39, 3) := by decide +kernel
theorem dX7_takes_66 : decode cX7_takes 66 = .ok (.iadd, 1) := by decide +kernel
theorem dX7_takes_67 : decode cX7_takes 67 = .ok (.putfield 79, 3) := by decide +kernel
theorem dX7_takes_70 : decode cX7_takes 70 = .ok (.iinc 2 1, 3) := by decide +kernel
theorem dX7_takes_73 : decode cX7_takes 73 = .ok (.goto (-61), 3) := by decide +kernel
theorem dX7_takes_76 : decode cX7_takes 76 = .ok (.return_, 1) := by decide +kernel
theorem dX7_plateAt_0 : decode cX7_plateAt 0 = .ok (.aload_n 0, 1) := by decide +kernel
theorem dX7_plateAt_1 : decode cX7_plateAt 1 = .ok (.getfield 7, 3) := by decide +kernel
theorem dX7_plateAt_4 : decode cX7_plateAt 4 = .ok (.sipush 374, 3) := by decide +kernel
theorem dX7_plateAt_7 : decode cX7_plateAt 7 = .ok (.iconst 4, 1) := by decide +kernel
theorem dX7_plateAt_8 : decode cX7_plateAt 8 = .ok (.iload_n 1, 1) := by decide +kernel
theorem dX7_plateAt_9 : decode cX7_plateAt 9 = .ok (.imul, 1) := by decide +kernel
theorem dX7_plateAt_10 : decode cX7_plateAt 10 = .ok (.iadd, 1) := by decide +kernel
theorem dX7_plateAt_11 : decode cX7_plateAt 11 = .ok (.iload_n 2, 1) := by decide +kernel
theorem dX7_plateAt_12 : decode cX7_plateAt 12 = .ok (.iadd, 1) := by decide +kernel
theorem dX7_plateAt_13 : decode cX7_plateAt 13 = .ok (.iaload, 1) := by decide +kernel
theorem dX7_plateAt_14 : decode cX7_plateAt 14 = .ok (.ireturn, 1) := by decide +kernel
theorem dX7_due_0 : decode cX7_due 0 = .ok (.iconst 0, 1) := by decide +kernel
theorem dX7_due_1 : decode cX7_due 1 = .ok (.istore_n 2, 1) := by decide +kernel
theorem dX7_due_2 : decode cX7_due 2 = .ok (.iload_n 2, 1) := by decide +kernel
theorem dX7_due_3 : decode cX7_due 3 = .ok (.aload_n 0, 1) := by decide +kernel
theorem dX7_due_4 : decode cX7_due 4 = .ok (.getfield 7, 3) := by decide +kernel
theorem dX7_due_7 : decode cX7_due 7 = .ok (.bipush 6, 2) := by decide +kernel
theorem dX7_due_9 : decode cX7_due 9 = .ok (.iaload, 1) := by decide +kernel
theorem dX7_due_10 : decode cX7_due 10 = .ok (.if_icmp .ge 21, 3) := by decide +kernel
theorem dX7_due_13 : decode cX7_due 13 = .ok (.aload_n 0, 1) := by decide +kernel
theorem dX7_due_14 : decode cX7_due 14 = .ok (.iload_n 2, 1) := by decide +kernel
theorem dX7_due_15 : decode cX7_due 15 = .ok (.iconst 0, 1) := by decide +kernel
theorem dX7_due_16 : decode cX7_due 16 = .ok (.invokevirtual 85, 3) := by decide +kernel
theorem dX7_due_19 : decode cX7_due 19 = .ok (.iload_n 1, 1) := by decide +kernel
theorem dX7_due_20 : decode cX7_due 20 = .ok (.if_icmp .ne 5, 3) := by decide +kernel
theorem dX7_due_23 : decode cX7_due 23 = .ok (.iload_n 2, 1) := by decide +kernel
theorem dX7_due_24 : decode cX7_due 24 = .ok (.ireturn, 1) := by decide +kernel
theorem dX7_due_25 : decode cX7_due 25 = .ok (.iinc 2 1, 3) := by decide +kernel
theorem dX7_due_28 : decode cX7_due 28 = .ok (.goto (-26), 3) := by decide +kernel
theorem dX7_due_31 : decode cX7_due 31 = .ok (.bipush (-6), 2) := by decide +kernel
theorem dX7_due_33 : decode cX7_due 33 = .ok (.ireturn, 1) := by decide +kernel
theorem dX7_works_0 : decode cX7_works 0 = .ok (.iconst 0, 1) := by decide +kernel
theorem dX7_works_1 : decode cX7_works 1 = .ok (.istore_n 1, 1) := by decide +kernel
theorem dX7_works_2 : decode cX7_works 2 = .ok (.iload_n 1, 1) := by decide +kernel
theorem dX7_works_3 : decode cX7_works 3 = .ok (.iconst 5, 1) := by decide +kernel
theorem dX7_works_4 : decode cX7_works 4 = .ok (.if_icmp .ge 14, 3) := by decide +kernel
theorem dX7_works_7 : decode cX7_works 7 = .ok (.aload_n 0, 1) := by decide +kernel
theorem dX7_works_8 : decode cX7_works 8 = .ok (.iload_n 1, 1) := by decide +kernel
theorem dX7_works_9 : decode cX7_works 9 = .ok (.invokevirtual 88, 3) := by decide +kernel
theorem dX7_works_12 : decode cX7_works 12 = .ok (.iinc 1 1, 3) := by decide +kernel
theorem dX7_works_15 : decode cX7_works 15 = .ok (.goto (-13), 3) := by decide +kernel
theorem dX7_works_18 : decode cX7_works 18 = .ok (.aload_n 0, 1) := by decide +kernel
theorem dX7_works_19 : decode cX7_works 19 = .ok (.invokevirtual 91, 3) := by decide +kernel
theorem dX7_works_22 : decode cX7_works 22 = .ok (.return_, 1) := by decide +kernel
theorem dX7_passes_0 : decode cX7_passes 0 = .ok (.aload_n 0, 1) := by decide +kernel
theorem dX7_passes_1 : decode cX7_passes 1 = .ok (.invokevirtual 94, 3) := by decide +kernel
theorem dX7_passes_4 : decode cX7_passes 4 = .ok (.aload_n 0, 1) := by decide +kernel
theorem dX7_passes_5 : decode cX7_passes 5 = .ok (.aload_n 0, 1) := by decide +kernel
theorem dX7_passes_6 : decode cX7_passes 6 = .ok (.getfield 7, 3) := by decide +kernel
theorem dX7_passes_9 : decode cX7_passes 9 = .ok (.iconst 4, 1) := by decide +kernel
theorem dX7_passes_10 : decode cX7_passes 10 = .ok (.iaload, 1) := by decide +kernel
theorem dX7_passes_11 : decode cX7_passes 11 = .ok (.invokevirtual 97, 3) := by decide +kernel
theorem dX7_passes_14 : decode cX7_passes 14 = .ok (.istore_n 1, 1) := by decide +kernel
theorem dX7_passes_15 : decode cX7_passes 15 = .ok (.iload_n 1, 1) := by decide +kernel
theorem dX7_passes_16 : decode cX7_passes 16 = .ok (.bipush (-6), 2) := by decide +kernel
theorem dX7_passes_18 : decode cX7_passes 18 = .ok (.if_icmp .eq 57, 3) := by decide +kernel
theorem dX7_passes_21 : decode cX7_passes 21 = .ok (.aload_n 0, 1) := by decide +kernel
theorem dX7_passes_22 : decode cX7_passes 22 = .ok (.aload_n 0, 1) := by decide +kernel
theorem dX7_passes_23 : decode cX7_passes 23 = .ok (.getfield 7, 3) := by decide +kernel
theorem dX7_passes_26 : decode cX7_passes 26 = .ok (.iconst 2, 1) := by decide +kernel
theorem dX7_passes_27 : decode cX7_passes 27 = .ok (.iaload, 1) := by decide +kernel
theorem dX7_passes_28 : decode cX7_passes 28 = .ok (.invokevirtual 100, 3) := by decide +kernel
theorem dX7_passes_31 : decode cX7_passes 31 = .ok (.aload_n 0, 1) := by decide +kernel
theorem dX7_passes_32 : decode cX7_passes 32 = .ok (.getfield 7, 3) := by decide +kernel
theorem dX7_passes_35 : decode cX7_passes 35 = .ok (.sipush 374, 3) := by decide +kernel
theorem dX7_passes_38 : decode cX7_passes 38 = .ok (.iconst 4, 1) := by decide +kernel
theorem dX7_passes_39 : decode cX7_passes 39 = .ok (.iload_n 1, 1) := by decide +kernel
theorem dX7_passes_40 : decode cX7_passes 40 = .ok (.imul, 1) := by decide +kernel
theorem dX7_passes_41 : decode cX7_passes 41 = .ok (.iadd, 1) := by decide +kernel
theorem dX7_passes_42 : decode cX7_passes 42 = .ok (.iconst 1, 1) := by decide +kernel
theorem dX7_passes_43 : decode cX7_passes 43 = .ok (.iadd, 1) := by decide +kernel
theorem dX7_passes_44 : decode cX7_passes 44 = .ok (.iconst 1, 1) := by decide +kernel
theorem dX7_passes_45 : decode cX7_passes 45 = .ok (.iastore, 1) := by decide +kernel
theorem dX7_passes_46 : decode cX7_passes 46 = .ok (.aload_n 0, 1) := by decide +kernel
theorem dX7_passes_47 : decode cX7_passes 47 = .ok (.getfield 7, 3) := by decide +kernel
theorem dX7_passes_50 : decode cX7_passes 50 = .ok (.sipush 374, 3) := by decide +kernel
theorem dX7_passes_53 : decode cX7_passes 53 = .ok (.iconst 4, 1) := by decide +kernel
theorem dX7_passes_54 : decode cX7_passes 54 = .ok (.iload_n 1, 1) := by decide +kernel
theorem dX7_passes_55 : decode cX7_passes 55 = .ok (.imul, 1) := by decide +kernel
theorem dX7_passes_56 : decode cX7_passes 56 = .ok (.iadd, 1) := by decide +kernel
theorem dX7_passes_57 : decode cX7_passes 57 = .ok (.iconst 3, 1) := by decide +kernel
theorem dX7_passes_58 : decode cX7_passes 58 = .ok (.iadd, 1) := by decide +kernel
theorem dX7_passes_59 : decode cX7_passes 59 = .ok (.aload_n 0, 1) := by decide +kernel
theorem dX7_passes_60 : decode cX7_passes 60 = .ok (.getfield 76, 3) := by decide +kernel
theorem dX7_passes_63 : decode cX7_passes 63 = .ok (.iastore, 1) := by decide +kernel
theorem dX7_passes_64 : decode cX7_passes 64 = .ok (.aload_n 0, 1) := by decide +kernel
theorem dX7_passes_65 : decode cX7_passes 65 = .ok (.getfield 7, 3) := by decide +kernel
theorem dX7_passes_68 : decode cX7_passes 68 = .ok (.bipush 7, 2) := by decide +kernel
theorem dX7_passes_70 : decode cX7_passes 70 = .ok (.dup2, 1) := by decide +kernel
theorem dX7_passes_71 : decode cX7_passes 71 = .ok (.iaload, 1) := by decide +kernel
theorem dX7_passes_72 : decode cX7_passes 72 = .ok (.iconst 1, 1) := by decide +kernel
theorem dX7_passes_73 : decode cX7_passes 73 = .ok (.iadd, 1) := by decide +kernel
theorem dX7_passes_74 : decode cX7_passes 74 = .ok (.iastore, 1) := by decide +kernel
theorem dX7_passes_75 : decode cX7_passes 75 = .ok (.aload_n 0, 1) := by decide +kernel
theorem dX7_passes_76 : decode cX7_passes 76 = .ok (.getfield 7, 3) := by decide +kernel
theorem dX7_passes_79 : decode cX7_passes 79 = .ok (.iconst 4, 1) := by decide +kernel
theorem dX7_passes_80 : decode cX7_passes 80 = .ok (.dup2, 1) := by decide +kernel
theorem dX7_passes_81 : decode cX7_passes 81 = .ok (.iaload, 1) := by decide +kernel
theorem dX7_passes_82 : decode cX7_passes 82 = .ok (.iconst 1, 1) := by decide +kernel
theorem dX7_passes_83 : decode cX7_passes 83 = .ok (.iadd, 1) := by decide +kernel
theorem dX7_passes_84 : decode cX7_passes 84 = .ok (.iastore, 1) := by decide +kernel
theorem dX7_passes_85 : decode cX7_passes 85 = .ok (.iload_n 1, 1) := by decide +kernel
theorem dX7_passes_86 : decode cX7_passes 86 = .ok (.bipush (-6), 2) := by decide +kernel
theorem dX7_passes_88 : decode cX7_passes 88 = .ok (.if_icmp .ne 7, 3) := by decide +kernel
theorem dX7_passes_91 : decode cX7_passes 91 = .ok (.iconst 0, 1) := by decide +kernel
theorem dX7_passes_92 : decode cX7_passes 92 = .ok (.goto 4, 3) := by decide +kernel
theorem dX7_passes_95 : decode cX7_passes 95 = .ok (.iconst 1, 1) := by decide +kernel
theorem dX7_passes_96 : decode cX7_passes 96 = .ok (.ireturn, 1) := by decide +kernel
theorem dX7_doPiece_0 : decode cX7_doPiece 0 = .ok (.iload_n 1, 1) := by decide +kernel
theorem dX7_doPiece_1 : decode cX7_doPiece 1 = .ok (.i2l, 1) := by decide +kernel
theorem dX7_doPiece_2 : decode cX7_doPiece 2 = .ok (.lconst 0, 1) := by decide +kernel
theorem dX7_doPiece_3 : decode cX7_doPiece 3 = .ok (.ldc2_w 103, 3) := by decide +kernel
theorem dX7_doPiece_6 : decode cX7_doPiece 6 = .ok (.invokestatic 35, 3) := by decide +kernel
theorem dX7_doPiece_9 : decode cX7_doPiece 9 = .ok (.ifCond .ne 5, 3) := by decide +kernel
theorem dX7_doPiece_12 : decode cX7_doPiece 12 = .ok (.iconst (-1), 1) := by decide +kernel
theorem dX7_doPiece_13 : decode cX7_doPiece 13 = .ok (.ireturn, 1) := by decide +kernel
theorem dX7_doPiece_14 : decode cX7_doPiece 14 = .ok (.iload_n 2, 1) := by decide +kernel
theorem dX7_doPiece_15 : decode cX7_doPiece 15 = .ok (.i2l, 1) := by decide +kernel
theorem dX7_doPiece_16 : decode cX7_doPiece 16 = .ok (.lconst 1, 1) := by decide +kernel
theorem dX7_doPiece_17 : decode cX7_doPiece 17 = .ok (.ldc2_w 105, 3) := by decide +kernel
theorem dX7_doPiece_20 : decode cX7_doPiece 20 = .ok (.invokestatic 35, 3) := by decide +kernel
theorem dX7_doPiece_23 : decode cX7_doPiece 23 = .ok (.ifCond .eq 26, 3) := by decide +kernel
theorem dX7_doPiece_26 : decode cX7_doPiece 26 = .ok (.iload_n 3, 1) := by decide +kernel
theorem dX7_doPiece_27 : decode cX7_doPiece 27 = .ok (.i2l, 1) := by decide +kernel
theorem dX7_doPiece_28 : decode cX7_doPiece 28 = .ok (.lconst 0, 1) := by decide +kernel
theorem dX7_doPiece_29 : decode cX7_doPiece 29 = .ok (.ldc2_w 107, 3) := by decide +kernel
theorem dX7_doPiece_32 : decode cX7_doPiece 32 = .ok (.invokestatic 35, 3) := by decide +kernel
theorem dX7_doPiece_35 : decode cX7_doPiece 35 = .ok (.ifCond .eq 14, 3) := by decide +kernel
theorem dX7_doPiece_38 : decode cX7_doPiece 38 = .ok (.iload 4, 2) := by decide +kernel
theorem dX7_doPiece_40 : decode cX7_doPiece 40 = .ok (.i2l, 1) := by decide +kernel
theorem dX7_doPiece_41 : decode cX7_doPiece 41 = .ok (.lconst 0, 1) := by decide +kernel
theorem dX7_doPiece_42 : decode cX7_doPiece 42 = .ok (.lconst 1, 1) := by decide +kernel
theorem dX7_doPiece_43 : decode cX7_doPiece 43 = .ok (.invokestatic 35, 3) := by decide +kernel
theorem dX7_doPiece_46 : decode cX7_doPiece 46 = .ok (.ifCond .ne 6, 3) := by decide +kernel
theorem dX7_doPiece_49 : decode cX7_doPiece 49 = .ok (.bipush (-2), 2) := by decide +kernel
theorem dX7_doPiece_51 : decode cX7_doPiece 51 = .ok (.ireturn, 1) := by decide +kernel
theorem dX7_doPiece_52 : decode cX7_doPiece 52 = .ok (.aload_n 0, 1) := by decide +kernel
theorem dX7_doPiece_53 : decode cX7_doPiece 53 = .ok (.getfield 7, 3) := by decide +kernel
theorem dX7_doPiece_56 : decode cX7_doPiece 56 = .ok (.iconst 5, 1) := by decide +kernel
theorem dX7_doPiece_57 : decode cX7_doPiece 57 = .ok (.iaload, 1) := by decide +kernel
theorem dX7_doPiece_58 : decode cX7_doPiece 58 = .ok (.bipush 24, 2) := by decide +kernel
theorem dX7_doPiece_60 : decode cX7_doPiece 60 = .ok (.if_icmp .ne 6, 3) := by decide +kernel
theorem dX7_doPiece_63 : decode cX7_doPiece 63 = .ok (.bipush (-4), 2) := by decide +kernel
theorem dX7_doPiece_65 : decode cX7_doPiece 65 = .ok (.ireturn, 1) := by decide +kernel
theorem dX7_doPiece_66 : decode cX7_doPiece 66 = .ok (.aload_n 0, 1) := by decide +kernel
theorem dX7_doPiece_67 : decode cX7_doPiece 67 = .ok (.getfield 7, 3) := by decide +kernel
theorem dX7_doPiece_70 : decode cX7_doPiece 70 = .ok (.iconst 5, 1) := by decide +kernel
theorem dX7_doPiece_71 : decode cX7_doPiece 71 = .ok (.iaload, 1) := by decide +kernel
theorem dX7_doPiece_72 : decode cX7_doPiece 72 = .ok (.istore 5, 2) := by decide +kernel
theorem dX7_doPiece_74 : decode cX7_doPiece 74 = .ok (.aload_n 0, 1) := by decide +kernel
theorem dX7_doPiece_75 : decode cX7_doPiece 75 = .ok (.getfield 7, 3) := by decide +kernel
theorem dX7_doPiece_78 : decode cX7_doPiece 78 = .ok (.iconst 5, 1) := by decide +kernel
theorem dX7_doPiece_79 : decode cX7_doPiece 79 = .ok (.dup2, 1) := by decide +kernel
theorem dX7_doPiece_80 : decode cX7_doPiece 80 = .ok (.iaload, 1) := by decide +kernel
theorem dX7_doPiece_81 : decode cX7_doPiece 81 = .ok (.iconst 1, 1) := by decide +kernel
theorem dX7_doPiece_82 : decode cX7_doPiece 82 = .ok (.iadd, 1) := by decide +kernel
theorem dX7_doPiece_83 : decode cX7_doPiece 83 = .ok (.iastore, 1) := by decide +kernel
theorem dX7_doPiece_84 : decode cX7_doPiece 84 = .ok (.iconst 0, 1) := by decide +kernel
theorem dX7_doPiece_85 : decode cX7_doPiece 85 = .ok (.istore 6, 2) := by decide +kernel
theorem dX7_doPiece_87 : decode cX7_doPiece 87 = .ok (.iload 6, 2) := by decide +kernel
theorem dX7_doPiece_89 : decode cX7_doPiece 89 = .ok (.bipush 9, 2) := by decide +kernel
theorem dX7_doPiece_91 : decode cX7_doPiece 91 = .ok (.if_icmp .ge 18, 3) := by decide +kernel
theorem dX7_doPiece_94 : decode cX7_doPiece 94 = .ok (.aload_n 0, 1) := by decide +kernel
theorem dX7_doPiece_95 : decode cX7_doPiece 95 = .ok (.iload 5, 2) := by decide +kernel
theorem dX7_doPiece_97 : decode cX7_doPiece 97 = .ok (.iload 6, 2) := by decide +kernel
theorem dX7_doPiece_99 : decode cX7_doPiece 99 = .ok (.iconst 0, 1) := by decide +kernel
theorem dX7_doPiece_100 : decode cX7_doPiece 100 = .ok (.invokevirtual 53, 3) := by decide +kernel
theorem dX7_doPiece_103 : decode cX7_doPiece 103 = .ok (.iinc 6 1, 3) := by decide +kernel
theorem dX7_doPiece_106 : decode cX7_doPiece 106 = .ok (.goto (-19), 3) := by decide +kernel
theorem dX7_doPiece_109 : decode cX7_doPiece 109 = .ok (.aload_n 0, 1) := by decide +kernel
theorem dX7_doPiece_110 : decode cX7_doPiece 110 = .ok (.iload 5, 2) := by decide +kernel
theorem dX7_doPiece_112 : decode cX7_doPiece 112 = .ok (.iconst 0, 1) := by decide +kernel
theorem dX7_doPiece_113 : decode cX7_doPiece 113 = .ok (.iload_n 1, 1) := by decide +kernel
theorem dX7_doPiece_114 : decode cX7_doPiece 114 = .ok (.invokevirtual 53, 3) := by decide +kernel
theorem dX7_doPiece_117 : decode cX7_doPiece 117 = .ok (.aload_n 0, 1) := by decide +kernel
theorem dX7_doPiece_118 : decode cX7_doPiece 118 = .ok (.iload 5, 2) := by decide +kernel
theorem dX7_doPiece_120 : decode cX7_doPiece 120 = .ok (.iconst 1, 1) := by decide +kernel
theorem dX7_doPiece_121 : decode cX7_doPiece 121 = .ok (.iload_n 2, 1) := by decide +kernel
theorem dX7_doPiece_122 : decode cX7_doPiece 122 = .ok (.invokevirtual 53, 3) := by decide +kernel
theorem dX7_doPiece_125 : decode cX7_doPiece 125 = .ok (.aload_n 0, 1) := by decide +kernel
theorem dX7_doPiece_126 : decode cX7_doPiece 126 = .ok (.iload 5, 2) := by decide +kernel
theorem dX7_doPiece_128 : decode cX7_doPiece 128 = .ok (.iconst 2, 1) := by decide +kernel
theorem dX7_doPiece_129 : decode cX7_doPiece 129 = .ok (.iload_n 3, 1) := by decide +kernel
theorem dX7_doPiece_130 : decode cX7_doPiece 130 = .ok (.invokevirtual 53, 3) := by decide +kernel
theorem dX7_doPiece_133 : decode cX7_doPiece 133 = .ok (.aload_n 0, 1) := by decide +kernel
theorem dX7_doPiece_134 : decode cX7_doPiece 134 = .ok (.iload 5, 2) := by decide +kernel
theorem dX7_doPiece_136 : decode cX7_doPiece 136 = .ok (.iconst 3, 1) := by decide +kernel
theorem dX7_doPiece_137 : decode cX7_doPiece 137 = .ok (.iload 4, 2) := by decide +kernel
theorem dX7_doPiece_139 : decode cX7_doPiece 139 = .ok (.invokevirtual 53, 3) := by decide +kernel
theorem dX7_doPiece_142 : decode cX7_doPiece 142 = .ok (.aload_n 0, 1) := by decide +kernel
theorem dX7_doPiece_143 : decode cX7_doPiece 143 = .ok (.iload 5, 2) := by decide +kernel
theorem dX7_doPiece_145 : decode cX7_doPiece 145 = .ok (.bipush 8, 2) := by decide +kernel
theorem dX7_doPiece_147 : decode cX7_doPiece 147 = .ok (.bipush (-6), 2) := by decide +kernel
theorem dX7_doPiece_149 : decode cX7_doPiece 149 = .ok (.invokevirtual 53, 3) := by decide +kernel
theorem dX7_doPiece_152 : decode cX7_doPiece 152 = .ok (.aload_n 0, 1) := by decide +kernel
theorem dX7_doPiece_153 : decode cX7_doPiece 153 = .ok (.iload_n 1, 1) := by decide +kernel
theorem dX7_doPiece_154 : decode cX7_doPiece 154 = .ok (.iload 5, 2) := by decide +kernel
theorem dX7_doPiece_156 : decode cX7_doPiece 156 = .ok (.invokevirtual 61, 3) := by decide +kernel
theorem dX7_doPiece_159 : decode cX7_doPiece 159 = .ok (.iload 5, 2) := by decide +kernel
theorem dX7_doPiece_161 : decode cX7_doPiece 161 = .ok (.ireturn, 1) := by decide +kernel
theorem dX7_tells_0 : decode cX7_tells 0 = .ok (.aload_n 0, 1) := by decide +kernel
theorem dX7_tells_1 : decode cX7_tells 1 = .ok (.getfield 7, 3) := by decide +kernel
theorem dX7_tells_4 : decode cX7_tells 4 = .ok (.bipush 6, 2) := by decide +kernel
theorem dX7_tells_6 : decode cX7_tells 6 = .ok (.iaload, 1) := by decide +kernel
theorem dX7_tells_7 : decode cX7_tells 7 = .ok (.istore_n 3, 1) := by decide +kernel
theorem dX7_tells_8 : decode cX7_tells 8 = .ok (.iload_n 3, 1) := by decide +kernel
theorem dX7_tells_9 : decode cX7_tells 9 = .ok (.ifCond .le 60, 3) := by decide +kernel
theorem dX7_tells_12 : decode cX7_tells 12 = .ok (.aload_n 0, 1) := by decide +kernel
theorem dX7_tells_13 : decode cX7_tells 13 = .ok (.iload_n 3, 1) := by decide +kernel
theorem dX7_tells_14 : decode cX7_tells 14 = .ok (.iconst 1, 1) := by decide +kernel
theorem dX7_tells_15 : decode cX7_tells 15 = .ok (.isub, 1) := by decide +kernel
theorem dX7_tells_16 : decode cX7_tells 16 = .ok (.iconst 0, 1) := by decide +kernel
theorem dX7_tells_17 : decode cX7_tells 17 = .ok (.invokevirtual 85, 3) := by decide +kernel
theorem dX7_tells_20 : decode cX7_tells 20 = .ok (.iload_n 1, 1) := by decide +kernel
theorem dX7_tells_21 : decode cX7_tells 21 = .ok (.if_icmp .le 48, 3) := by decide +kernel
theorem dX7_tells_24 : decode cX7_tells 24 = .ok (.iconst 0, 1) := by decide +kernel
theorem dX7_tells_25 : decode cX7_tells 25 = .ok (.istore 4, 2) := by decide +kernel
theorem dX7_tells_27 : decode cX7_tells 27 = .ok (.iload 4, 2) := by decide +kernel
theorem dX7_tells_29 : decode cX7_tells 29 = .ok (.iconst 4, 1) := by decide +kernel
theorem dX7_tells_30 : decode cX7_tells 30 = .ok (.if_icmp .ge 33, 3) := by decide +kernel
theorem dX7_tells_33 : decode cX7_tells 33 = .ok (.aload_n 0, 1) := by decide +kernel
theorem dX7_tells_34 : decode cX7_tells 34 = .ok (.getfield 7, 3) := by decide +kernel
theorem dX7_tells_37 : decode cX7_tells 37 = .ok (.sipush 374, 3) := by decide +kernel
theorem dX7_tells_40 : decode cX7_tells 40 = .ok (.iconst 4, 1) := by decide +kernel
theorem dX7_tells_41 : decode cX7_tells 41 = .ok (.iload_n 3, 1) := by decide +kernel
theorem dX7_tells_42 : decode cX7_tells 42 = .ok (.imul, 1) := by decide +kernel
theorem dX7_tells_43 : decode cX7_tells 43 = .ok (.iadd, 1) := by decide +kernel
theorem dX7_tells_44 : decode cX7_tells 44 = .ok (.iload 4, 2) := by decide +kernel
theorem dX7_tells_46 : decode cX7_tells 46 = .ok (.iadd, 1) := by decide +kernel
theorem dX7_tells_47 : decode cX7_tells 47 = .ok (.aload_n 0, 1) := by decide +kernel
theorem dX7_tells_48 : decode cX7_tells 48 = .ok (.iload_n 3, 1) := by decide +kernel
theorem dX7_tells_49 : decode cX7_tells 49 = .ok (.iconst 1, 1) := by decide +kernel
theorem dX7_tells_50 : decode cX7_tells 50 = .ok (.isub, 1) := by decide +kernel
theorem dX7_tells_51 : decode cX7_tells 51 = .ok (.iload 4, 2) := by decide +kernel
theorem dX7_tells_53 : decode cX7_tells 53 = .ok (.invokevirtual 85, 3) := by decide +kernel
theorem dX7_tells_56 : decode cX7_tells 56 = .ok (.iastore, 1) := by decide +kernel
theorem dX7_tells_57 : decode cX7_tells 57 = .ok (.iinc 4 1, 3) := by decide +kernel
theorem dX7_tells_60 : decode cX7_tells 60 = .ok (.goto (-33), 3) := by decide +kernel
theorem dX7_tells_63 : decode cX7_tells 63 = .ok (.iinc 3 (-1), 3) := by decide +kernel
theorem dX7_tells_66 : decode cX7_tells 66 = .ok (.goto (-58), 3) := by decide +kernel
theorem dX7_tells_69 : decode cX7_tells 69 = .ok (.aload_n 0, 1) := by decide +kernel
theorem dX7_tells_70 : decode cX7_tells 70 = .ok (.getfield 7, 3) := by decide +kernel
theorem dX7_tells_73 : decode cX7_tells 73 = .ok (.bipush 6, 2) := by decide +kernel
theorem dX7_tells_75 : decode cX7_tells 75 = .ok (.dup2, 1) := by decide +kernel
theorem dX7_tells_76 : decode cX7_tells 76 = .ok (.iaload, 1) := by decide +kernel
theorem dX7_tells_77 : decode cX7_tells 77 = .ok (.iconst 1, 1) := by decide +kernel
theorem dX7_tells_78 : decode cX7_tells 78 = .ok (.iadd, 1) := by decide +kernel
theorem dX7_tells_79 : decode cX7_tells 79 = .ok (.iastore, 1) := by decide +kernel
theorem dX7_tells_80 : decode cX7_tells 80 = .ok (.aload_n 0, 1) := by decide +kernel
theorem dX7_tells_81 : decode cX7_tells 81 = .ok (.getfield 7, 3) := by decide +kernel
theorem dX7_tells_84 : decode cX7_tells 84 = .ok (.sipush 374, 3) := by decide +kernel
theorem dX7_tells_87 : decode cX7_tells 87 = .ok (.iconst 4, 1) := by decide +kernel
theorem dX7_tells_88 : decode cX7_tells 88 = .ok (.iload_n 3, 1) := by decide +kernel
theorem dX7_tells_89 : decode cX7_tells 89 = .ok (.imul, 1) := by decide +kernel
theorem dX7_tells_90 : decode cX7_tells 90 = .ok (.iadd, 1) := by decide +kernel
theorem dX7_tells_91 : decode cX7_tells 91 = .ok (.iconst 0, 1) := by decide +kernel
theorem dX7_tells_92 : decode cX7_tells 92 = .ok (.iadd, 1) := by decide +kernel
theorem dX7_tells_93 : decode cX7_tells 93 = .ok (.iload_n 1, 1) := by decide +kernel
theorem dX7_tells_94 : decode cX7_tells 94 = .ok (.iastore, 1) := by decide +kernel
theorem dX7_tells_95 : decode cX7_tells 95 = .ok (.aload_n 0, 1) := by decide +kernel
theorem dX7_tells_96 : decode cX7_tells 96 = .ok (.getfield 7, 3) := by decide +kernel
theorem dX7_tells_99 : decode cX7_tells 99 = .ok (.sipush 374, 3) := by decide +kernel
theorem dX7_tells_102 : decode cX7_tells 102 = .ok (.iconst 4, 1) := by decide +kernel
theorem dX7_tells_103 : decode cX7_tells 103 = .ok (.iload_n 3, 1) := by decide +kernel
theorem dX7_tells_104 : decode cX7_tells 104 = .ok (.imul, 1) := by decide +kernel
theorem dX7_tells_105 : decode cX7_tells 105 = .ok (.iadd, 1) := by decide +kernel
theorem dX7_tells_106 : decode cX7_tells 106 = .ok (.iconst 1, 1) := by decide +kernel
theorem dX7_tells_107 : decode cX7_tells 107 = .ok (.iadd, 1) := by decide +kernel
theorem dX7_tells_108 : decode cX7_tells 108 = .ok (.iconst 0, 1) := by decide +kernel
theorem dX7_tells_109 : decode cX7_tells 109 = .ok (.iastore, 1) := by decide +kernel
theorem dX7_tells_110 : decode cX7_tells 110 = .ok (.aload_n 0, 1) := by decide +kernel
theorem dX7_tells_111 : decode cX7_tells 111 = .ok (.getfield 7, 3) := by decide +kernel
theorem dX7_tells_114 : decode cX7_tells 114 = .ok (.sipush 374, 3) := by decide +kernel
theorem dX7_tells_117 : decode cX7_tells 117 = .ok (.iconst 4, 1) := by decide +kernel
theorem dX7_tells_118 : decode cX7_tells 118 = .ok (.iload_n 3, 1) := by decide +kernel
theorem dX7_tells_119 : decode cX7_tells 119 = .ok (.imul, 1) := by decide +kernel
theorem dX7_tells_120 : decode cX7_tells 120 = .ok (.iadd, 1) := by decide +kernel
theorem dX7_tells_121 : decode cX7_tells 121 = .ok (.iconst 2, 1) := by decide +kernel
theorem dX7_tells_122 : decode cX7_tells 122 = .ok (.iadd, 1) := by decide +kernel
theorem dX7_tells_123 : decode cX7_tells 123 = .ok (.iload_n 2, 1) := by decide +kernel
theorem dX7_tells_124 : decode cX7_tells 124 = .ok (.iastore, 1) := by decide +kernel
theorem dX7_tells_125 : decode cX7_tells 125 = .ok (.aload_n 0, 1) := by decide +kernel
theorem dX7_tells_126 : decode cX7_tells 126 = .ok (.getfield 7, 3) := by decide +kernel
theorem dX7_tells_129 : decode cX7_tells 129 = .ok (.sipush 374, 3) := by decide +kernel
theorem dX7_tells_132 : decode cX7_tells 132 = .ok (.iconst 4, 1) := by decide +kernel
theorem dX7_tells_133 : decode cX7_tells 133 = .ok (.iload_n 3, 1) := by decide +kernel
theorem dX7_tells_134 : decode cX7_tells 134 = .ok (.imul, 1) := by decide +kernel
theorem dX7_tells_135 : decode cX7_tells 135 = .ok (.iadd, 1) := by decide +kernel
theorem dX7_tells_136 : decode cX7_tells 136 = .ok (.iconst 3, 1) := by decide +kernel
theorem dX7_tells_137 : decode cX7_tells 137 = .ok (.iadd, 1) := by decide +kernel
theorem dX7_tells_138 : decode cX7_tells 138 = .ok (.iconst 0, 1) := by decide +kernel
theorem dX7_tells_139 : decode cX7_tells 139 = .ok (.iastore, 1) := by decide +kernel
theorem dX7_tells_140 : decode cX7_tells 140 = .ok (.iload_n 3, 1) := by decide +kernel
theorem dX7_tells_141 : decode cX7_tells 141 = .ok (.ireturn, 1) := by decide +kernel
theorem dX7_doPlate_0 : decode cX7_doPlate 0 = .ok (.iload_n 1, 1) := by decide +kernel
theorem dX7_doPlate_1 : decode cX7_doPlate 1 = .ok (.i2l, 1) := by decide +kernel
theorem dX7_doPlate_2 : decode cX7_doPlate 2 = .ok (.aload_n 0, 1) := by decide +kernel
theorem dX7_doPlate_3 : decode cX7_doPlate 3 = .ok (.getfield 7, 3) := by decide +kernel
theorem dX7_doPlate_6 : decode cX7_doPlate 6 = .ok (.iconst 4, 1) := by decide +kernel
theorem dX7_doPlate_7 : decode cX7_doPlate 7 = .ok (.iaload, 1) := by decide +kernel
theorem dX7_doPlate_8 : decode cX7_doPlate 8 = .ok (.i2l, 1) := by decide +kernel
theorem dX7_doPlate_9 : decode cX7_doPlate 9 = .ok (.ldc2_w 109, 3) := by decide +kernel
theorem dX7_doPlate_12 : decode cX7_doPlate 12 = .ok (.invokestatic 35, 3) := by decide +kernel
theorem dX7_doPlate_15 : decode cX7_doPlate 15 = .ok (.ifCond .ne 6, 3) := by decide +kernel
theorem dX7_doPlate_18 : decode cX7_doPlate 18 = .ok (.bipush (-2), 2) := by decide +kernel
theorem dX7_doPlate_20 : decode cX7_doPlate 20 = .ok (.ireturn, 1) := by decide +kernel
theorem dX7_doPlate_21 : decode cX7_doPlate 21 = .ok (.aload_n 0, 1) := by decide +kernel
theorem dX7_doPlate_22 : decode cX7_doPlate 22 = .ok (.getfield 7, 3) := by decide +kernel
theorem dX7_doPlate_25 : decode cX7_doPlate 25 = .ok (.bipush 6, 2) := by decide +kernel
theorem dX7_doPlate_27 : decode cX7_doPlate 27 = .ok (.iaload, 1) := by decide +kernel
theorem dX7_doPlate_28 : decode cX7_doPlate 28 = .ok (.bipush 8, 2) := by decide +kernel
theorem dX7_doPlate_30 : decode cX7_doPlate 30 = .ok (.if_icmp .ne 6, 3) := by decide +kernel
theorem dX7_doPlate_33 : decode cX7_doPlate 33 = .ok (.bipush (-4), 2) := by decide +kernel
theorem dX7_doPlate_35 : decode cX7_doPlate 35 = .ok (.ireturn, 1) := by decide +kernel
theorem dX7_doPlate_36 : decode cX7_doPlate 36 = .ok (.aload_n 0, 1) := by decide +kernel
theorem dX7_doPlate_37 : decode cX7_doPlate 37 = .ok (.iload_n 1, 1) := by decide +kernel
theorem dX7_doPlate_38 : decode cX7_doPlate 38 = .ok (.invokevirtual 97, 3) := by decide +kernel
theorem dX7_doPlate_41 : decode cX7_doPlate 41 = .ok (.bipush (-6), 2) := by decide +kernel
theorem dX7_doPlate_43 : decode cX7_doPlate 43 = .ok (.if_icmp .ne 12, 3) := by decide +kernel
theorem dX7_doPlate_46 : decode cX7_doPlate 46 = .ok (.aload_n 0, 1) := by decide +kernel
theorem dX7_doPlate_47 : decode cX7_doPlate 47 = .ok (.iload_n 1, 1) := by decide +kernel
theorem dX7_doPlate_48 : decode cX7_doPlate 48 = .ok (.iconst 0, 1) := by decide +kernel
theorem dX7_doPlate_49 : decode cX7_doPlate 49 = .ok (.invokevirtual 111, 3) := by decide +kernel
theorem dX7_doPlate_52 : decode cX7_doPlate 52 = .ok (.goto 5, 3) := by decide +kernel
theorem dX7_doPlate_55 : decode cX7_doPlate 55 = .ok (.bipush (-5), 2) := by decide +kernel
theorem dX7_doPlate_57 : decode cX7_doPlate 57 = .ok (.ireturn, 1) := by decide +kernel
theorem dX7_doHold_0 : decode cX7_doHold 0 = .ok (.aload_n 0, 1) := by decide +kernel
theorem dX7_doHold_1 : decode cX7_doHold 1 = .ok (.iload_n 1, 1) := by decide +kernel
theorem dX7_doHold_2 : decode cX7_doHold 2 = .ok (.invokevirtual 114, 3) := by decide +kernel
theorem dX7_doHold_5 : decode cX7_doHold 5 = .ok (.ifCond .ne 5, 3) := by decide +kernel
theorem dX7_doHold_8 : decode cX7_doHold 8 = .ok (.iconst (-1), 1) := by decide +kernel
theorem dX7_doHold_9 : decode cX7_doHold 9 = .ok (.ireturn, 1) := by decide +kernel
theorem dX7_doHold_10 : decode cX7_doHold 10 = .ok (.aload_n 0, 1) := by decide +kernel
theorem dX7_doHold_11 : decode cX7_doHold 11 = .ok (.iload_n 1, 1) := by decide +kernel
theorem dX7_doHold_12 : decode cX7_doHold 12 = .ok (.iconst 4, 1) := by decide +kernel
theorem dX7_doHold_13 : decode cX7_doHold 13 = .ok (.invokevirtual 39, 3) := by decide +kernel
theorem dX7_doHold_16 : decode cX7_doHold 16 = .ok (.iconst 3, 1) := by decide +kernel
theorem dX7_doHold_17 : decode cX7_doHold 17 = .ok (.if_icmp .ne 6, 3) := by decide +kernel
theorem dX7_doHold_20 : decode cX7_doHold 20 = .ok (.bipush (-5), 2) := by decide +kernel
theorem dX7_doHold_22 : decode cX7_doHold 22 = .ok (.ireturn, 1) := by decide +kernel
theorem dX7_doHold_23 : decode cX7_doHold 23 = .ok (.aload_n 0, 1) := by decide +kernel
theorem dX7_doHold_24 : decode cX7_doHold 24 = .ok (.iload_n 1, 1) := by decide +kernel
theorem dX7_doHold_25 : decode cX7_doHold 25 = .ok (.iconst 5, 1) := by decide +kernel
theorem dX7_doHold_26 : decode cX7_doHold 26 = .ok (.iconst 1, 1) := by decide +kernel
theorem dX7_doHold_27 : decode cX7_doHold 27 = .ok (.aload_n 0, 1) := by decide +kernel
theorem dX7_doHold_28 : decode cX7_doHold 28 = .ok (.iload_n 1, 1) := by decide +kernel
theorem dX7_doHold_29 : decode cX7_doHold 29 = .ok (.iconst 5, 1) := by decide +kernel
theorem dX7_doHold_30 : decode cX7_doHold 30 = .ok (.invokevirtual 39, 3) := by decide +kernel
theorem dX7_doHold_33 : decode cX7_doHold 33 = .ok (.isub, 1) := by decide +kernel
theorem dX7_doHold_34 : decode cX7_doHold 34 = .ok (.invokevirtual 53, 3) := by decide +kernel
theorem dX7_doHold_37 : decode cX7_doHold 37 = .ok (.aload_n 0, 1) := by decide +kernel
theorem dX7_doHold_38 : decode cX7_doHold 38 = .ok (.iload_n 1, 1) := by decide +kernel
theorem dX7_doHold_39 : decode cX7_doHold 39 = .ok (.iconst 5, 1) := by decide +kernel
theorem dX7_doHold_40 : decode cX7_doHold 40 = .ok (.invokevirtual 39, 3) := by decide +kernel
theorem dX7_doHold_43 : decode cX7_doHold 43 = .ok (.ireturn, 1) := by decide +kernel
theorem dX7_isOnLatest_0 : decode cX7_isOnLatest 0 = .ok (.aload_n 0, 1) := by decide +kernel
theorem dX7_isOnLatest_1 : decode cX7_isOnLatest 1 = .ok (.getfield 7, 3) := by decide +kernel
theorem dX7_isOnLatest_4 : decode cX7_isOnLatest 4 = .ok (.bipush 7, 2) := by decide +kernel
theorem dX7_isOnLatest_6 : decode cX7_isOnLatest 6 = .ok (.iaload, 1) := by decide +kernel
theorem dX7_isOnLatest_7 : decode cX7_isOnLatest 7 = .ok (.ifCond .le 29, 3) := by decide +kernel
theorem dX7_isOnLatest_10 : decode cX7_isOnLatest 10 = .ok (.aload_n 0, 1) := by decide +kernel
theorem dX7_isOnLatest_11 : decode cX7_isOnLatest 11 = .ok (.aload_n 0, 1) := by decide +kernel
theorem dX7_isOnLatest_12 : decode cX7_isOnLatest 12 = .ok (.getfield 7, 3) := by decide +kernel
theorem dX7_isOnLatest_15 : decode cX7_isOnLatest 15 = .ok (.bipush 7, 2) := by decide +kernel
theorem dX7_isOnLatest_17 : decode cX7_isOnLatest 17 = .ok (.iaload, 1) := by decide +kernel
theorem dX7_isOnLatest_18 : decode cX7_isOnLatest 18 = .ok (.iconst 1, 1) := by decide +kernel
theorem dX7_isOnLatest_19 : decode cX7_isOnLatest 19 = .ok (.isub, 1) := by decide +kernel
theorem dX7_isOnLatest_20 : decode cX7_isOnLatest 20 = .ok (.iconst 3, 1) := by decide +kernel
theorem dX7_isOnLatest_21 : decode cX7_isOnLatest 21 = .ok (.invokevirtual 85, 3) := by decide +kernel
theorem dX7_isOnLatest_24 : decode cX7_isOnLatest 24 = .ok (.iload_n 1, 1) := by decide +kernel
theorem dX7_isOnLatest_25 : decode cX7_isOnLatest 25 = .ok (.ishr, 1) := by decide +kernel
theorem dX7_isOnLatest_26 : decode cX7_isOnLatest 26 = .ok (.iconst 1, 1) := by decide +kernel
theorem dX7_isOnLatest_27 : decode cX7_isOnLatest 27 = .ok (.iand, 1) := by decide +kernel
theorem dX7_isOnLatest_28 : decode cX7_isOnLatest 28 = .ok (.iconst 1, 1) := by decide +kernel
theorem dX7_isOnLatest_29 : decode cX7_isOnLatest 29 = .ok (.if_icmp .ne 7, 3) := by decide +kernel
theorem dX7_isOnLatest_32 : decode cX7_isOnLatest 32 = .ok (.iconst 1, 1) := by decide +kernel
theorem dX7_isOnLatest_33 : decode cX7_isOnLatest 33 = .ok (.goto 4, 3) := by decide +kernel
theorem dX7_isOnLatest_36 : decode cX7_isOnLatest 36 = .ok (.iconst 0, 1) := by decide +kernel
theorem dX7_isOnLatest_37 : decode cX7_isOnLatest 37 = .ok (.ireturn, 1) := by decide +kernel
theorem dX7_isDueSoon_0 : decode cX7_isDueSoon 0 = .ok (.iconst 0, 1) := by decide +kernel
theorem dX7_isDueSoon_1 : decode cX7_isDueSoon 1 = .ok (.istore_n 1, 1) := by decide +kernel
theorem dX7_isDueSoon_2 : decode cX7_isDueSoon 2 = .ok (.iconst 0, 1) := by decide +kernel
theorem dX7_isDueSoon_3 : decode cX7_isDueSoon 3 = .ok (.istore_n 2, 1) := by decide +kernel
theorem dX7_isDueSoon_4 : decode cX7_isDueSoon 4 = .ok (.iload_n 2, 1) := by decide +kernel
theorem dX7_isDueSoon_5 : decode cX7_isDueSoon 5 = .ok (.aload_n 0, 1) := by decide +kernel
theorem dX7_isDueSoon_6 : decode cX7_isDueSoon 6 = .ok (.getfield 7, 3) := by decide +kernel
theorem dX7_isDueSoon_9 : decode cX7_isDueSoon 9 = .ok (.bipush 6, 2) := by decide +kernel
theorem dX7_isDueSoon_11 : decode cX7_isDueSoon 11 = .ok (.iaload, 1) := by decide +kernel
theorem dX7_isDueSoon_12 : decode cX7_isDueSoon 12 = .ok (.if_icmp .ge 53, 3) := by decide +kernel
theorem dX7_isDueSoon_15 : decode cX7_isDueSoon 15 = .ok (.iload_n 1, 1) := by decide +kernel
theorem dX7_isDueSoon_16 : decode cX7_isDueSoon 16 = .ok (.ifCond .ne 37, 3) := by decide +kernel
theorem dX7_isDueSoon_19 : decode cX7_isDueSoon 19 = .ok (.aload_n 0, 1) := by decide +kernel
theorem dX7_isDueSoon_20 : decode cX7_isDueSoon 20 = .ok (.iload_n 2, 1) := by decide +kernel
theorem dX7_isDueSoon_21 : decode cX7_isDueSoon 21 = .ok (.iconst 0, 1) := by decide +kernel
theorem dX7_isDueSoon_22 : decode cX7_isDueSoon 22 = .ok (.invokevirtual 85, 3) := by decide +kernel
theorem dX7_isDueSoon_25 : decode cX7_isDueSoon 25 = .ok (.i2l, 1) := by decide +kernel
theorem dX7_isDueSoon_26 : decode cX7_isDueSoon 26 = .ok (.aload_n 0, 1) := by decide +kernel
theorem dX7_isDueSoon_27 : decode cX7_isDueSoon 27 = .ok (.getfield 7, 3) := by decide +kernel
theorem dX7_isDueSoon_30 : decode cX7_isDueSoon 30 = .ok (.iconst 4, 1) := by decide +kernel
theorem dX7_isDueSoon_31 : decode cX7_isDueSoon 31 = .ok (.iaload, 1) := by decide +kernel
theorem dX7_isDueSoon_32 : decode cX7_isDueSoon 32 = .ok (.i2l, 1) := by decide +kernel
theorem dX7_isDueSoon_33 : decode cX7_isDueSoon 33 = .ok (.aload_n 0, 1) := by decide +kernel
theorem dX7_isDueSoon_34 : decode cX7_isDueSoon 34 = .ok (.getfield 7, 3) := by decide +kernel
theorem dX7_isDueSoon_37 : decode cX7_isDueSoon 37 = .ok (.iconst 4, 1) := by decide +kernel
theorem dX7_isDueSoon_38 : decode cX7_isDueSoon 38 = .ok (.iaload, 1) := by decide +kernel
theorem dX7_isDueSoon_39 : decode cX7_isDueSoon 39 = .ok (.aload_n 0, 1) := by decide +kernel
theorem dX7_isDueSoon_40 : decode cX7_isDueSoon 40 = .ok (.getfield 7, 3) := by decide +kernel
theorem dX7_isDueSoon_43 : decode cX7_isDueSoon 43 = .ok (.iconst 3, 1) := by decide +kernel
theorem dX7_isDueSoon_44 : decode cX7_isDueSoon 44 = .ok (.iaload, 1) := by decide +kernel
theorem dX7_isDueSoon_45 : decode cX7_isDueSoon 45 = .ok (.iadd, 1) := by decide +kernel
theorem dX7_isDueSoon_46 : decode cX7_isDueSoon 46 = .ok (.i2l, 1) := by decide +kernel
theorem dX7_isDueSoon_47 : decode cX7_isDueSoon 47 = .ok (.invokestatic 35, 3) := by decide +kernel
theorem dX7_isDueSoon_50 : decode cX7_isDueSoon 50 = .ok (.ifCond .eq 7, 3) := by decide +kernel
theorem dX7_isDueSoon_53 : decode cX7_isDueSoon 53 = .ok (.iconst 1, 1) := by decide +kernel
theorem dX7_isDueSoon_54 : decode cX7_isDueSoon 54 = .ok (.goto 4, 3) := by decide +kernel
theorem dX7_isDueSoon_57 : decode cX7_isDueSoon 57 = .ok (.iconst 0, 1) := by decide +kernel
theorem dX7_isDueSoon_58 : decode cX7_isDueSoon 58 = .ok (.istore_n 1, 1) := by decide +kernel
theorem dX7_isDueSoon_59 : decode cX7_isDueSoon 59 = .ok (.iinc 2 1, 3) := by decide +kernel
theorem dX7_isDueSoon_62 : decode cX7_isDueSoon 62 = .ok (.goto (-58), 3) := by decide +kernel
theorem dX7_isDueSoon_65 : decode cX7_isDueSoon 65 = .ok (.iload_n 1, 1) := by decide +kernel
theorem dX7_isDueSoon_66 : decode cX7_isDueSoon 66 = .ok (.ireturn, 1) := by decide +kernel
theorem dX7_doKill_0 : decode cX7_doKill 0 = .ok (.aload_n 0, 1) := by decide +kernel
theorem dX7_doKill_1 : decode cX7_doKill 1 = .ok (.iload_n 1, 1) := by decide +kernel
theorem dX7_doKill_2 : decode cX7_doKill 2 = .ok (.invokevirtual 114, 3) := by decide +kernel
theorem dX7_doKill_5 : decode cX7_doKill 5 = .ok (.ifCond .ne 5, 3) := by decide +kernel
theorem dX7_doKill_8 : decode cX7_doKill 8 = .ok (.iconst (-1), 1) := by decide +kernel
theorem dX7_doKill_9 : decode cX7_doKill 9 = .ok (.ireturn, 1) := by decide +kernel
theorem dX7_doKill_10 : decode cX7_doKill 10 = .ok (.aload_n 0, 1) := by decide +kernel
theorem dX7_doKill_11 : decode cX7_doKill 11 = .ok (.iload_n 1, 1) := by decide +kernel
theorem dX7_doKill_12 : decode cX7_doKill 12 = .ok (.iconst 4, 1) := by decide +kernel
theorem dX7_doKill_13 : decode cX7_doKill 13 = .ok (.invokevirtual 39, 3) := by decide +kernel
theorem dX7_doKill_16 : decode cX7_doKill 16 = .ok (.iconst 3, 1) := by decide +kernel
theorem dX7_doKill_17 : decode cX7_doKill 17 = .ok (.if_icmp .ne 6, 3) := by decide +kernel
theorem dX7_doKill_20 : decode cX7_doKill 20 = .ok (.bipush (-5), 2) := by decide +kernel
theorem dX7_doKill_22 : decode cX7_doKill 22 = .ok (.ireturn, 1) := by decide +kernel
theorem dX7_doKill_23 : decode cX7_doKill 23 = .ok (.aload_n 0, 1) := by decide +kernel
theorem dX7_doKill_24 : decode cX7_doKill 24 = .ok (.iload_n 1, 1) := by decide +kernel
theorem dX7_doKill_25 : decode cX7_doKill 25 = .ok (.invokevirtual 57, 3) := by decide +kernel
theorem dX7_doKill_28 : decode cX7_doKill 28 = .ok (.aload_n 0, 1) := by decide +kernel
theorem dX7_doKill_29 : decode cX7_doKill 29 = .ok (.iload_n 1, 1) := by decide +kernel
theorem dX7_doKill_30 : decode cX7_doKill 30 = .ok (.iconst 4, 1) := by decide +kernel
theorem dX7_doKill_31 : decode cX7_doKill 31 = .ok (.iconst 3, 1) := by decide +kernel
theorem dX7_doKill_32 : decode cX7_doKill 32 = .ok (.invokevirtual 53, 3) := by decide +kernel
theorem dX7_doKill_35 : decode cX7_doKill 35 = .ok (.aload_n 0, 1) := by decide +kernel
theorem dX7_doKill_36 : decode cX7_doKill 36 = .ok (.getfield 7, 3) := by decide +kernel
theorem dX7_doKill_39 : decode cX7_doKill 39 = .ok (.iconst 4, 1) := by decide +kernel
theorem dX7_doKill_40 : decode cX7_doKill 40 = .ok (.iaload, 1) := by decide +kernel
theorem dX7_doKill_41 : decode cX7_doKill 41 = .ok (.aload_n 0, 1) := by decide +kernel
theorem dX7_doKill_42 : decode cX7_doKill 42 = .ok (.getfield 7, 3) := by decide +kernel
theorem dX7_doKill_45 : decode cX7_doKill 45 = .ok (.iconst 3, 1) := by decide +kernel
theorem dX7_doKill_46 : decode cX7_doKill 46 = .ok (.iaload, 1) := by decide +kernel
theorem dX7_doKill_47 : decode cX7_doKill 47 = .ok (.iadd, 1) := by decide +kernel
theorem dX7_doKill_48 : decode cX7_doKill 48 = .ok (.istore_n 2, 1) := by decide +kernel
theorem dX7_doKill_49 : decode cX7_doKill 49 = .ok (.aload_n 0, 1) := by decide +kernel
theorem dX7_doKill_50 : decode cX7_doKill 50 = .ok (.iload_n 1, 1) := by decide +kernel
theorem dX7_doKill_51 : decode cX7_doKill 51 = .ok (.invokevirtual 117, 3) := by decide +kernel
theorem dX7_doKill_54 : decode cX7_doKill 54 = .ok (.ifCond .eq 29, 3) := by decide +kernel
theorem dX7_doKill_57 : decode cX7_doKill 57 = .ok (.aload_n 0, 1) := by decide +kernel
theorem dX7_doKill_58 : decode cX7_doKill 58 = .ok (.invokevirtual 120, 3) := by decide +kernel
theorem dX7_doKill_61 : decode cX7_doKill 61 = .ok (.ifCond .ne 22, 3) := by decide +kernel
theorem dX7_doKill_64 : decode cX7_doKill 64 = .ok (.aload_n 0, 1) := by decide +kernel
theorem dX7_doKill_65 : decode cX7_doKill 65 = .ok (.getfield 7, 3) := by decide +kernel
theorem dX7_doKill_68 : decode cX7_doKill 68 = .ok (.bipush 6, 2) := by decide +kernel
theorem dX7_doKill_70 : decode cX7_doKill 70 = .ok (.iaload, 1) := by decide +kernel
theorem dX7_doKill_71 : decode cX7_doKill 71 = .ok (.bipush 8, 2) := by decide +kernel
theorem dX7_doKill_73 : decode cX7_doKill 73 = .ok (.if_icmp .eq 10, 3) := by decide +kernel
theorem dX7_doKill_76 : decode cX7_doKill 76 = .ok (.iload_n 2, 1) := by decide +kernel
theorem dX7_doKill_77 : decode cX7_doKill 77 = .ok (.sipush 599, 3) := by decide +kernel
theorem dX7_doKill_80 : decode cX7_doKill 80 = .ok (.if_icmp .le 5, 3) := by decide +kernel
theorem dX7_doKill_83 : decode cX7_doKill 83 = .ok (.iconst 0, 1) := by decide +kernel
theorem dX7_doKill_84 : decode cX7_doKill 84 = .ok (.ireturn, 1) := by decide +kernel
theorem dX7_doKill_85 : decode cX7_doKill 85 = .ok (.aload_n 0, 1) := by decide +kernel
theorem dX7_doKill_86 : decode cX7_doKill 86 = .ok (.iload_n 2, 1) := by decide +kernel
theorem dX7_doKill_87 : decode cX7_doKill 87 = .ok (.iconst 1, 1) := by decide +kernel
theorem dX7_doKill_88 : decode cX7_doKill 88 = .ok (.invokevirtual 111, 3) := by decide +kernel
theorem dX7_doKill_91 : decode cX7_doKill 91 = .ok (.istore_n 3, 1) := by decide +kernel
theorem dX7_doKill_92 : decode cX7_doKill 92 = .ok (.iconst 1, 1) := by decide +kernel
theorem dX7_doKill_93 : decode cX7_doKill 93 = .ok (.ireturn, 1) := by decide +kernel
theorem dX7_doPass_0 : decode cX7_doPass 0 = .ok (.iload_n 1, 1) := by decide +kernel
theorem dX7_doPass_1 : decode cX7_doPass 1 = .ok (.iconst 1, 1) := by decide +kernel
theorem dX7_doPass_2 : decode cX7_doPass 2 = .ok (.if_icmp .ge 6, 3) := by decide +kernel
theorem dX7_doPass_5 : decode cX7_doPass 5 = .ok (.bipush (-2), 2) := by decide +kernel
theorem dX7_doPass_7 : decode cX7_doPass 7 = .ok (.ireturn, 1) := by decide +kernel
theorem dX7_doPass_8 : decode cX7_doPass 8 = .ok (.iload_n 1, 1) := by decide +kernel
theorem dX7_doPass_9 : decode cX7_doPass 9 = .ok (.sipush 600, 3) := by decide +kernel
theorem dX7_doPass_12 : decode cX7_doPass 12 = .ok (.aload_n 0, 1) := by decide +kernel
theorem dX7_doPass_13 : decode cX7_doPass 13 = .ok (.getfield 7, 3) := by decide +kernel
theorem dX7_doPass_16 : decode cX7_doPass 16 = .ok (.iconst 4, 1) := by decide +kernel
theorem dX7_doPass_17 : decode cX7_doPass 17 = .ok (.iaload, 1) := by decide +kernel
theorem dX7_doPass_18 : decode cX7_doPass 18 = .ok (.isub, 1) := by decide +kernel
theorem dX7_doPass_19 : decode cX7_doPass 19 = .ok (.if_icmp .le 6, 3) := by decide +kernel
theorem dX7_doPass_22 : decode cX7_doPass 22 = .ok (.bipush (-5), 2) := by decide +kernel
theorem dX7_doPass_24 : decode cX7_doPass 24 = .ok (.ireturn, 1) := by decide +kernel
theorem dX7_doPass_25 : decode cX7_doPass 25 = .ok (.iconst 0, 1) := by decide +kernel
theorem dX7_doPass_26 : decode cX7_doPass 26 = .ok (.istore_n 2, 1) := by decide +kernel
theorem dX7_doPass_27 : decode cX7_doPass 27 = .ok (.iconst 0, 1) := by decide +kernel
theorem dX7_doPass_28 : decode cX7_doPass 28 = .ok (.istore_n 3, 1) := by decide +kernel
theorem dX7_doPass_29 : decode cX7_doPass 29 = .ok (.iload_n 3, 1) := by decide +kernel
theorem dX7_doPass_30 : decode cX7_doPass 30 = .ok (.iload_n 1, 1) := by decide +kernel
theorem dX7_doPass_31 : decode cX7_doPass 31 = .ok (.if_icmp .ge 16, 3) := by decide +kernel
theorem dX7_doPass_34 : decode cX7_doPass 34 = .ok (.iload_n 2, 1) := by decide +kernel
theorem dX7_doPass_35 : decode cX7_doPass 35 = .ok (.aload_n 0, 1) := by decide +kernel
theorem dX7_doPass_36 : decode cX7_doPass 36 = .ok (.invokevirtual 124, 3) := by decide +kernel
theorem dX7_doPass_39 : decode cX7_doPass 39 = .ok (.iadd, 1) := by decide +kernel
theorem dX7_doPass_40 : decode cX7_doPass 40 = .ok (.istore_n 2, 1) := by decide +kernel
theorem dX7_doPass_41 : decode cX7_doPass 41 = .ok (.iinc 3 1, 3) := by decide +kernel
theorem dX7_doPass_44 : decode cX7_doPass 44 = .ok (.goto (-15), 3) := by decide +kernel
theorem dX7_doPass_47 : decode cX7_doPass 47 = .ok (.iload_n 2, 1) := by decide +kernel
theorem dX7_doPass_48 : decode cX7_doPass 48 = .ok (.ireturn, 1) := by decide +kernel
theorem dX7_isSetting_0 : decode cX7_isSetting 0 = .ok (.iload_n 0, 1) := by decide +kernel
theorem dX7_isSetting_1 : decode cX7_isSetting 1 = .ok (.tableswitch 51 0 3 #[31, 41, 51, 41], 31) := by decide +kernel
theorem dX7_isSetting_32 : decode cX7_isSetting 32 = .ok (.iload_n 1, 1) := by decide +kernel
theorem dX7_isSetting_33 : decode cX7_isSetting 33 = .ok (.i2l, 1) := by decide +kernel
theorem dX7_isSetting_34 : decode cX7_isSetting 34 = .ok (.lconst 1, 1) := by decide +kernel
theorem dX7_isSetting_35 : decode cX7_isSetting 35 = .ok (.ldc2_w 128, 3) := by decide +kernel
theorem dX7_isSetting_38 : decode cX7_isSetting 38 = .ok (.invokestatic 35, 3) := by decide +kernel
theorem dX7_isSetting_41 : decode cX7_isSetting 41 = .ok (.ireturn, 1) := by decide +kernel
theorem dX7_isSetting_42 : decode cX7_isSetting 42 = .ok (.iload_n 1, 1) := by decide +kernel
theorem dX7_isSetting_43 : decode cX7_isSetting 43 = .ok (.i2l, 1) := by decide +kernel
theorem dX7_isSetting_44 : decode cX7_isSetting 44 = .ok (.lconst 1, 1) := by decide +kernel
theorem dX7_isSetting_45 : decode cX7_isSetting 45 = .ok (.ldc2_w 130, 3) := by decide +kernel
theorem dX7_isSetting_48 : decode cX7_isSetting 48 = .ok (.invokestatic 35, 3) := by decide +kernel
theorem dX7_isSetting_51 : decode cX7_isSetting 51 = .ok (.ireturn, 1) := by decide +kernel
theorem dX7_isSetting_52 : decode cX7_isSetting 52 = .ok (.iload_n 0, 1) := by decide +kernel
theorem dX7_isSetting_53 : decode cX7_isSetting 53 = .ok (.iconst 2, 1) := by decide +kernel
theorem dX7_isSetting_54 : decode cX7_isSetting 54 = .ok (.if_icmp .ne 21, 3) := by decide +kernel
theorem dX7_isSetting_57 : decode cX7_isSetting 57 = .ok (.iload_n 1, 1) := by decide +kernel
theorem dX7_isSetting_58 : decode cX7_isSetting 58 = .ok (.i2l, 1) := by decide +kernel
theorem dX7_isSetting_59 : decode cX7_isSetting 59 = .ok (.ldc2_w 132, 3) := by decide +kernel
theorem dX7_isSetting_62 : decode cX7_isSetting 62 = .ok (.ldc2_w 134, 3) := by decide +kernel
theorem dX7_isSetting_65 : decode cX7_isSetting 65 = .ok (.invokestatic 35, 3) := by decide +kernel
theorem dX7_isSetting_68 : decode cX7_isSetting 68 = .ok (.ifCond .eq 7, 3) := by decide +kernel
theorem dX7_isSetting_71 : decode cX7_isSetting 71 = .ok (.iconst 1, 1) := by decide +kernel
theorem dX7_isSetting_72 : decode cX7_isSetting 72 = .ok (.goto 4, 3) := by decide +kernel
theorem dX7_isSetting_75 : decode cX7_isSetting 75 = .ok (.iconst 0, 1) := by decide +kernel
theorem dX7_isSetting_76 : decode cX7_isSetting 76 = .ok (.ireturn, 1) := by decide +kernel
theorem dX7_set_0 : decode cX7_set 0 = .ok (.iload_n 1, 1) := by decide +kernel
theorem dX7_set_1 : decode cX7_set 1 = .ok (.iload_n 2, 1) := by decide +kernel
theorem dX7_set_2 : decode cX7_set 2 = .ok (.invokestatic 136, 3) := by decide +kernel
theorem dX7_set_5 : decode cX7_set 5 = .ok (.ifCond .ne 6, 3) := by decide +kernel
theorem dX7_set_8 : decode cX7_set 8 = .ok (.bipush (-2), 2) := by decide +kernel
theorem dX7_set_10 : decode cX7_set 10 = .ok (.ireturn, 1) := by decide +kernel
theorem dX7_set_11 : decode cX7_set 11 = .ok (.aload_n 0, 1) := by decide +kernel
theorem dX7_set_12 : decode cX7_set 12 = .ok (.getfield 7, 3) := by decide +kernel
theorem dX7_set_15 : decode cX7_set 15 = .ok (.aload_n 0, 1) := by decide +kernel
theorem dX7_set_16 : decode cX7_set 16 = .ok (.getfield 13, 3) := by decide +kernel
theorem dX7_set_19 : decode cX7_set 19 = .ok (.invokestatic 139, 3) := by decide +kernel
theorem dX7_set_22 : decode cX7_set 22 = .ok (.aload_n 0, 1) := by decide +kernel
theorem dX7_set_23 : decode cX7_set 23 = .ok (.getfield 7, 3) := by decide +kernel
theorem dX7_set_26 : decode cX7_set 26 = .ok (.iload_n 1, 1) := by decide +kernel
theorem dX7_set_27 : decode cX7_set 27 = .ok (.iaload, 1) := by decide +kernel
theorem dX7_set_28 : decode cX7_set 28 = .ok (.istore_n 3, 1) := by decide +kernel
theorem dX7_set_29 : decode cX7_set 29 = .ok (.aload_n 0, 1) := by decide +kernel
theorem dX7_set_30 : decode cX7_set 30 = .ok (.getfield 7, 3) := by decide +kernel
theorem dX7_set_33 : decode cX7_set 33 = .ok (.iload_n 1, 1) := by decide +kernel
theorem dX7_set_34 : decode cX7_set 34 = .ok (.iload_n 2, 1) := by decide +kernel
theorem dX7_set_35 : decode cX7_set 35 = .ok (.iastore, 1) := by decide +kernel
theorem dX7_set_36 : decode cX7_set 36 = .ok (.aload_n 0, 1) := by decide +kernel
theorem dX7_set_37 : decode cX7_set 37 = .ok (.iload_n 3, 1) := by decide +kernel
theorem dX7_set_38 : decode cX7_set 38 = .ok (.invokevirtual 143, 3) := by decide +kernel
theorem dX7_set_41 : decode cX7_set 41 = .ok (.ireturn, 1) := by decide +kernel
theorem dX7_piece_0 : decode cX7_piece 0 = .ok (.aload_n 0, 1) := by decide +kernel
theorem dX7_piece_1 : decode cX7_piece 1 = .ok (.getfield 7, 3) := by decide +kernel
theorem dX7_piece_4 : decode cX7_piece 4 = .ok (.aload_n 0, 1) := by decide +kernel
theorem dX7_piece_5 : decode cX7_piece 5 = .ok (.getfield 13, 3) := by decide +kernel
theorem dX7_piece_8 : decode cX7_piece 8 = .ok (.invokestatic 139, 3) := by decide +kernel
theorem dX7_piece_11 : decode cX7_piece 11 = .ok (.aload_n 0, 1) := by decide +kernel
theorem dX7_piece_12 : decode cX7_piece 12 = .ok (.aload_n 0, 1) := by decide +kernel
theorem dX7_piece_13 : decode cX7_piece 13 = .ok (.iload_n 1, 1) := by decide +kernel
theorem dX7_piece_14 : decode cX7_piece 14 = .ok (.iload_n 2, 1) := by decide +kernel
theorem dX7_piece_15 : decode cX7_piece 15 = .ok (.iload_n 3, 1) := by decide +kernel
theorem dX7_piece_16 : decode cX7_piece 16 = .ok (.iload 4, 2) := by decide +kernel
theorem dX7_piece_18 : decode cX7_piece 18 = .ok (.invokevirtual 146, 3) := by decide +kernel
theorem dX7_piece_21 : decode cX7_piece 21 = .ok (.invokevirtual 143, 3) := by decide +kernel
theorem dX7_piece_24 : decode cX7_piece 24 = .ok (.ireturn, 1) := by decide +kernel
theorem dX7_plate_0 : decode cX7_plate 0 = .ok (.aload_n 0, 1) := by decide +kernel
theorem dX7_plate_1 : decode cX7_plate 1 = .ok (.getfield 7, 3) := by decide +kernel
theorem dX7_plate_4 : decode cX7_plate 4 = .ok (.aload_n 0, 1) := by decide +kernel
theorem dX7_plate_5 : decode cX7_plate 5 = .ok (.getfield 13, 3) := by decide +kernel
theorem dX7_plate_8 : decode cX7_plate 8 = .ok (.invokestatic 139, 3) := by decide +kernel
theorem dX7_plate_11 : decode cX7_plate 11 = .ok (.aload_n 0, 1) := by decide +kernel
theorem dX7_plate_12 : decode cX7_plate 12 = .ok (.aload_n 0, 1) := by decide +kernel
theorem dX7_plate_13 : decode cX7_plate 13 = .ok (.iload_n 1, 1) := by decide +kernel
theorem dX7_plate_14 : decode cX7_plate 14 = .ok (.invokevirtual 150, 3) := by decide +kernel
theorem dX7_plate_17 : decode cX7_plate 17 = .ok (.invokevirtual 143, 3) := by decide +kernel
theorem dX7_plate_20 : decode cX7_plate 20 = .ok (.ireturn, 1) := by decide +kernel
theorem dX7_hold_0 : decode cX7_hold 0 = .ok (.aload_n 0, 1) := by decide +kernel
theorem dX7_hold_1 : decode cX7_hold 1 = .ok (.getfield 7, 3) := by decide +kernel
theorem dX7_hold_4 : decode cX7_hold 4 = .ok (.aload_n 0, 1) := by decide +kernel
theorem dX7_hold_5 : decode cX7_hold 5 = .ok (.getfield 13, 3) := by decide +kernel
theorem dX7_hold_8 : decode cX7_hold 8 = .ok (.invokestatic 139, 3) := by decide +kernel
theorem dX7_hold_11 : decode cX7_hold 11 = .ok (.aload_n 0, 1) := by decide +kernel
theorem dX7_hold_12 : decode cX7_hold 12 = .ok (.aload_n 0, 1) := by decide +kernel
theorem dX7_hold_13 : decode cX7_hold 13 = .ok (.iload_n 1, 1) := by decide +kernel
theorem dX7_hold_14 : decode cX7_hold 14 = .ok (.invokevirtual 153, 3) := by decide +kernel
theorem dX7_hold_17 : decode cX7_hold 17 = .ok (.invokevirtual 143, 3) := by decide +kernel
theorem dX7_hold_20 : decode cX7_hold 20 = .ok (.ireturn, 1) := by decide +kernel
theorem dX7_kill_0 : decode cX7_kill 0 = .ok (.aload_n 0, 1) := by decide +kernel
theorem dX7_kill_1 : decode cX7_kill 1 = .ok (.getfield 7, 3) := by decide +kernel
theorem dX7_kill_4 : decode cX7_kill 4 = .ok (.aload_n 0, 1) := by decide +kernel
theorem dX7_kill_5 : decode cX7_kill 5 = .ok (.getfield 13, 3) := by decide +kernel
theorem dX7_kill_8 : decode cX7_kill 8 = .ok (.invokestatic 139, 3) := by decide +kernel
theorem dX7_kill_11 : decode cX7_kill 11 = .ok (.aload_n 0, 1) := by decide +kernel
theorem dX7_kill_12 : decode cX7_kill 12 = .ok (.aload_n 0, 1) := by decide +kernel
theorem dX7_kill_13 : decode cX7_kill 13 = .ok (.iload_n 1, 1) := by decide +kernel
theorem dX7_kill_14 : decode cX7_kill 14 = .ok (.invokevirtual 156, 3) := by decide +kernel
theorem dX7_kill_17 : decode cX7_kill 17 = .ok (.invokevirtual 143, 3) := by decide +kernel
theorem dX7_kill_20 : decode cX7_kill 20 = .ok (.ireturn, 1) := by decide +kernel
theorem dX7_pass_0 : decode cX7_pass 0 = .ok (.aload_n 0, 1) := by decide +kernel
theorem dX7_pass_1 : decode cX7_pass 1 = .ok (.getfield 7, 3) := by decide +kernel
theorem dX7_pass_4 : decode cX7_pass 4 = .ok (.aload_n 0, 1) := by decide +kernel
theorem dX7_pass_5 : decode cX7_pass 5 = .ok (.getfield 13, 3) := by decide +kernel
theorem dX7_pass_8 : decode cX7_pass 8 = .ok (.invokestatic 139, 3) := by decide +kernel
theorem dX7_pass_11 : decode cX7_pass 11 = .ok (.aload_n 0, 1) := by decide +kernel
theorem dX7_pass_12 : decode cX7_pass 12 = .ok (.aload_n 0, 1) := by decide +kernel
theorem dX7_pass_13 : decode cX7_pass 13 = .ok (.iload_n 1, 1) := by decide +kernel
theorem dX7_pass_14 : decode cX7_pass 14 = .ok (.invokevirtual 159, 3) := by decide +kernel
theorem dX7_pass_17 : decode cX7_pass 17 = .ok (.invokevirtual 143, 3) := by decide +kernel
theorem dX7_pass_20 : decode cX7_pass 20 = .ok (.ireturn, 1) := by decide +kernel
theorem dX7_platesWith_0 : decode cX7_platesWith 0 = .ok (.iconst 0, 1) := by decide +kernel
theorem dX7_platesWith_1 : decode cX7_platesWith 1 = .ok (.istore_n 2, 1) := by decide +kernel
theorem dX7_platesWith_2 : decode cX7_platesWith 2 = .ok (.iconst 0, 1) := by decide +kernel
theorem dX7_platesWith_3 : decode cX7_platesWith 3 = .ok (.istore_n 3, 1) := by decide +kernel
theorem dX7_platesWith_4 : decode cX7_platesWith 4 = .ok (.iload_n 3, 1) := by decide +kernel
theorem dX7_platesWith_5 : decode cX7_platesWith 5 = .ok (.aload_n 0, 1) := by decide +kernel
theorem dX7_platesWith_6 : decode cX7_platesWith 6 = .ok (.getfield 7, 3) := by decide +kernel
theorem dX7_platesWith_9 : decode cX7_platesWith 9 = .ok (.bipush 6, 2) := by decide +kernel
theorem dX7_platesWith_11 : decode cX7_platesWith 11 = .ok (.iaload, 1) := by decide +kernel
theorem dX7_platesWith_12 : decode cX7_platesWith 12 = .ok (.if_icmp .ge 24, 3) := by decide +kernel
theorem dX7_platesWith_15 : decode cX7_platesWith 15 = .ok (.iload_n 2, 1) := by decide +kernel
theorem dX7_platesWith_16 : decode cX7_platesWith 16 = .ok (.aload_n 0, 1) := by decide +kernel
theorem dX7_platesWith_17 : decode cX7_platesWith 17 = .ok (.iload_n 3, 1) := by decide +kernel
theorem dX7_platesWith_18 : decode cX7_platesWith 18 = .ok (.iconst 3, 1) := by decide +kernel
theorem dX7_platesWith_19 : decode cX7_platesWith 19 = .ok (.invokevirtual 85, 3) := by decide +kernel
theorem dX7_platesWith_22 : decode cX7_platesWith 22 = .ok (.iload_n 1, 1) := by decide +kernel
theorem dX7_platesWith_23 : decode cX7_platesWith 23 = .ok (.ishr, 1) := by decide +kernel
theorem dX7_platesWith_24 : decode cX7_platesWith 24 = .ok (.iconst 1, 1) := by decide +kernel
theorem dX7_platesWith_25 : decode cX7_platesWith 25 = .ok (.iand, 1) := by decide +kernel
theorem dX7_platesWith_26 : decode cX7_platesWith 26 = .ok (.iload_n 3, 1) := by decide +kernel
theorem dX7_platesWith_27 : decode cX7_platesWith 27 = .ok (.ishl, 1) := by decide +kernel
theorem dX7_platesWith_28 : decode cX7_platesWith 28 = .ok (.ior, 1) := by decide +kernel
theorem dX7_platesWith_29 : decode cX7_platesWith 29 = .ok (.istore_n 2, 1) := by decide +kernel
theorem dX7_platesWith_30 : decode cX7_platesWith 30 = .ok (.iinc 3 1, 3) := by decide +kernel
theorem dX7_platesWith_33 : decode cX7_platesWith 33 = .ok (.goto (-29), 3) := by decide +kernel
theorem dX7_platesWith_36 : decode cX7_platesWith 36 = .ok (.iload_n 2, 1) := by decide +kernel
theorem dX7_platesWith_37 : decode cX7_platesWith 37 = .ok (.ireturn, 1) := by decide +kernel
theorem dX7_ofPiece_0 : decode cX7_ofPiece 0 = .ok (.aload_n 0, 1) := by decide +kernel
theorem dX7_ofPiece_1 : decode cX7_ofPiece 1 = .ok (.iload_n 1, 1) := by decide +kernel
theorem dX7_ofPiece_2 : decode cX7_ofPiece 2 = .ok (.invokevirtual 114, 3) := by decide +kernel
theorem dX7_ofPiece_5 : decode cX7_ofPiece 5 = .ok (.ifCond .ne 5, 3) := by decide +kernel
theorem dX7_ofPiece_8 : decode cX7_ofPiece 8 = .ok (.iconst (-1), 1) := by decide +kernel
theorem dX7_ofPiece_9 : decode cX7_ofPiece 9 = .ok (.ireturn, 1) := by decide +kernel
theorem dX7_ofPiece_10 : decode cX7_ofPiece 10 = .ok (.iload_n 2, 1) := by decide +kernel
theorem dX7_ofPiece_11 : decode cX7_ofPiece 11 = .ok (.i2l, 1) := by decide +kernel
theorem dX7_ofPiece_12 : decode cX7_ofPiece 12 = .ok (.lconst 0, 1) := by decide +kernel
theorem dX7_ofPiece_13 : decode cX7_ofPiece 13 = .ok (.ldc2_w 162, 3) := by decide +kernel
theorem dX7_ofPiece_16 : decode cX7_ofPiece 16 = .ok (.invokestatic 35, 3) := by decide +kernel
theorem dX7_ofPiece_19 : decode cX7_ofPiece 19 = .ok (.ifCond .eq 10, 3) := by decide +kernel
theorem dX7_ofPiece_22 : decode cX7_ofPiece 22 = .ok (.aload_n 0, 1) := by decide +kernel
theorem dX7_ofPiece_23 : decode cX7_ofPiece 23 = .ok (.iload_n 1, 1) := by decide +kernel
theorem dX7_ofPiece_24 : decode cX7_ofPiece 24 = .ok (.iload_n 2, 1) := by decide +kernel
theorem dX7_ofPiece_25 : decode cX7_ofPiece 25 = .ok (.invokevirtual 39, 3) := by decide +kernel
theorem dX7_ofPiece_28 : decode cX7_ofPiece 28 = .ok (.ireturn, 1) := by decide +kernel
theorem dX7_ofPiece_29 : decode cX7_ofPiece 29 = .ok (.iload_n 2, 1) := by decide +kernel
theorem dX7_ofPiece_30 : decode cX7_ofPiece 30 = .ok (.tableswitch 46 8 10 #[26, 32, 40], 26) := by decide +kernel
theorem dX7_ofPiece_56 : decode cX7_ofPiece 56 = .ok (.aload_n 0, 1) := by decide +kernel
theorem dX7_ofPiece_57 : decode cX7_ofPiece 57 = .ok (.iload_n 1, 1) := by decide +kernel
theorem dX7_ofPiece_58 : decode cX7_ofPiece 58 = .ok (.invokevirtual 50, 3) := by decide +kernel
theorem dX7_ofPiece_61 : decode cX7_ofPiece 61 = .ok (.ireturn, 1) := by decide +kernel
theorem dX7_ofPiece_62 : decode cX7_ofPiece 62 = .ok (.aload_n 0, 1) := by decide +kernel
theorem dX7_ofPiece_63 : decode cX7_ofPiece 63 = .ok (.iload_n 1, 1) := by decide +kernel
theorem dX7_ofPiece_64 : decode cX7_ofPiece 64 = .ok (.bipush 8, 2) := by decide +kernel
theorem dX7_ofPiece_66 : decode cX7_ofPiece 66 = .ok (.invokevirtual 39, 3) := by decide +kernel
theorem dX7_ofPiece_69 : decode cX7_ofPiece 69 = .ok (.ireturn, 1) := by decide +kernel
theorem dX7_ofPiece_70 : decode cX7_ofPiece 70 = .ok (.aload_n 0, 1) := by decide +kernel
theorem dX7_ofPiece_71 : decode cX7_ofPiece 71 = .ok (.iload_n 1, 1) := by decide +kernel
theorem dX7_ofPiece_72 : decode cX7_ofPiece 72 = .ok (.invokevirtual 164, 3) := by decide +kernel
theorem dX7_ofPiece_75 : decode cX7_ofPiece 75 = .ok (.ireturn, 1) := by decide +kernel
theorem dX7_ofPiece_76 : decode cX7_ofPiece 76 = .ok (.bipush (-2), 2) := by decide +kernel
theorem dX7_ofPiece_78 : decode cX7_ofPiece 78 = .ok (.ireturn, 1) := by decide +kernel
theorem dX7_linesOf_0 : decode cX7_linesOf 0 = .ok (.iconst 0, 1) := by decide +kernel
theorem dX7_linesOf_1 : decode cX7_linesOf 1 = .ok (.istore_n 2, 1) := by decide +kernel
theorem dX7_linesOf_2 : decode cX7_linesOf 2 = .ok (.iconst 0, 1) := by decide +kernel
theorem dX7_linesOf_3 : decode cX7_linesOf 3 = .ok (.istore_n 3, 1) := by decide +kernel
theorem dX7_linesOf_4 : decode cX7_linesOf 4 = .ok (.iload_n 3, 1) := by decide +kernel
theorem dX7_linesOf_5 : decode cX7_linesOf 5 = .ok (.aload_n 0, 1) := by decide +kernel
theorem dX7_linesOf_6 : decode cX7_linesOf 6 = .ok (.getfield 7, 3) := by decide +kernel
theorem dX7_linesOf_9 : decode cX7_linesOf 9 = .ok (.iconst 5, 1) := by decide +kernel
theorem dX7_linesOf_10 : decode cX7_linesOf 10 = .ok (.iaload, 1) := by decide +kernel
theorem dX7_linesOf_11 : decode cX7_linesOf 11 = .ok (.if_icmp .ge 24, 3) := by decide +kernel
theorem dX7_linesOf_14 : decode cX7_linesOf 14 = .ok (.iload_n 2, 1) := by decide +kernel
theorem dX7_linesOf_15 : decode cX7_linesOf 15 = .ok (.iload_n 1, 1) := by decide +kernel
theorem dX7_linesOf_16 : decode cX7_linesOf 16 = .ok (.iload_n 3, 1) := by decide +kernel
theorem dX7_linesOf_17 : decode cX7_linesOf 17 = .ok (.ishr, 1) := by decide +kernel
theorem dX7_linesOf_18 : decode cX7_linesOf 18 = .ok (.iconst 1, 1) := by decide +kernel
theorem dX7_linesOf_19 : decode cX7_linesOf 19 = .ok (.iand, 1) := by decide +kernel
theorem dX7_linesOf_20 : decode cX7_linesOf 20 = .ok (.aload_n 0, 1) := by decide +kernel
theorem dX7_linesOf_21 : decode cX7_linesOf 21 = .ok (.iload_n 3, 1) := by decide +kernel
theorem dX7_linesOf_22 : decode cX7_linesOf 22 = .ok (.iconst 1, 1) := by decide +kernel
theorem dX7_linesOf_23 : decode cX7_linesOf 23 = .ok (.invokevirtual 39, 3) := by decide +kernel
theorem dX7_linesOf_26 : decode cX7_linesOf 26 = .ok (.imul, 1) := by decide +kernel
theorem dX7_linesOf_27 : decode cX7_linesOf 27 = .ok (.iadd, 1) := by decide +kernel
theorem dX7_linesOf_28 : decode cX7_linesOf 28 = .ok (.istore_n 2, 1) := by decide +kernel
theorem dX7_linesOf_29 : decode cX7_linesOf 29 = .ok (.iinc 3 1, 3) := by decide +kernel
theorem dX7_linesOf_32 : decode cX7_linesOf 32 = .ok (.goto (-28), 3) := by decide +kernel
theorem dX7_linesOf_35 : decode cX7_linesOf 35 = .ok (.iload_n 2, 1) := by decide +kernel
theorem dX7_linesOf_36 : decode cX7_linesOf 36 = .ok (.ireturn, 1) := by decide +kernel
theorem dX7_ofPlate_0 : decode cX7_ofPlate 0 = .ok (.iload_n 1, 1) := by decide +kernel
theorem dX7_ofPlate_1 : decode cX7_ofPlate 1 = .ok (.i2l, 1) := by decide +kernel
theorem dX7_ofPlate_2 : decode cX7_ofPlate 2 = .ok (.lconst 0, 1) := by decide +kernel
theorem dX7_ofPlate_3 : decode cX7_ofPlate 3 = .ok (.aload_n 0, 1) := by decide +kernel
theorem dX7_ofPlate_4 : decode cX7_ofPlate 4 = .ok (.getfield 7, 3) := by decide +kernel
theorem dX7_ofPlate_7 : decode cX7_ofPlate 7 = .ok (.bipush 6, 2) := by decide +kernel
theorem dX7_ofPlate_9 : decode cX7_ofPlate 9 = .ok (.iaload, 1) := by decide +kernel
theorem dX7_ofPlate_10 : decode cX7_ofPlate 10 = .ok (.i2l, 1) := by decide +kernel
theorem dX7_ofPlate_11 : decode cX7_ofPlate 11 = .ok (.lconst 1, 1) := by decide +kernel
theorem dX7_ofPlate_12 : decode cX7_ofPlate 12 = .ok (.lsub, 1) := by decide +kernel
theorem dX7_ofPlate_13 : decode cX7_ofPlate 13 = .ok (.invokestatic 35, 3) := by decide +kernel
theorem dX7_ofPlate_16 : decode cX7_ofPlate 16 = .ok (.ifCond .ne 5, 3) := by decide +kernel
theorem dX7_ofPlate_19 : decode cX7_ofPlate 19 = .ok (.iconst (-1), 1) := by decide +kernel
theorem dX7_ofPlate_20 : decode cX7_ofPlate 20 = .ok (.ireturn, 1) := by decide +kernel
theorem dX7_ofPlate_21 : decode cX7_ofPlate 21 = .ok (.iload_n 2, 1) := by decide +kernel
theorem dX7_ofPlate_22 : decode cX7_ofPlate 22 = .ok (.i2l, 1) := by decide +kernel
theorem dX7_ofPlate_23 : decode cX7_ofPlate 23 = .ok (.lconst 0, 1) := by decide +kernel
theorem dX7_ofPlate_24 : decode cX7_ofPlate 24 = .ok (.ldc2_w 167, 3) := by decide +kernel
theorem dX7_ofPlate_27 : decode cX7_ofPlate 27 = .ok (.invokestatic 35, 3) := by decide +kernel
theorem dX7_ofPlate_30 : decode cX7_ofPlate 30 = .ok (.ifCond .eq 12, 3) := by decide +kernel
theorem dX7_ofPlate_33 : decode cX7_ofPlate 33 = .ok (.aload_n 0, 1) := by decide +kernel
theorem dX7_ofPlate_34 : decode cX7_ofPlate 34 = .ok (.iload_n 1, 1) := by decide +kernel
theorem dX7_ofPlate_35 : decode cX7_ofPlate 35 = .ok (.iload_n 2, 1) := by decide +kernel
theorem dX7_ofPlate_36 : decode cX7_ofPlate 36 = .ok (.invokevirtual 85, 3) := by decide +kernel
theorem dX7_ofPlate_39 : decode cX7_ofPlate 39 = .ok (.goto 23, 3) := by decide +kernel
theorem dX7_ofPlate_42 : decode cX7_ofPlate 42 = .ok (.iload_n 2, 1) := by decide +kernel
theorem dX7_ofPlate_43 : decode cX7_ofPlate 43 = .ok (.iconst 4, 1) := by decide +kernel
theorem dX7_ofPlate_44 : decode cX7_ofPlate 44 = .ok (.if_icmp .ne 16, 3) := by decide +kernel
theorem dX7_ofPlate_47 : decode cX7_ofPlate 47 = .ok (.aload_n 0, 1) := by decide +kernel
theorem dX7_ofPlate_48 : decode cX7_ofPlate 48 = .ok (.aload_n 0, 1) := by decide +kernel
theorem dX7_ofPlate_49 : decode cX7_ofPlate 49 = .ok (.iload_n 1, 1) := by decide +kernel
theorem dX7_ofPlate_50 : decode cX7_ofPlate 50 = .ok (.iconst 3, 1) := by decide +kernel
theorem dX7_ofPlate_51 : decode cX7_ofPlate 51 = .ok (.invokevirtual 85, 3) := by decide +kernel
theorem dX7_ofPlate_54 : decode cX7_ofPlate 54 = .ok (.invokevirtual 169, 3) := by decide +kernel
theorem dX7_ofPlate_57 : decode cX7_ofPlate 57 = .ok (.goto 5, 3) := by decide +kernel
theorem dX7_ofPlate_60 : decode cX7_ofPlate 60 = .ok (.bipush (-2), 2) := by decide +kernel
theorem dX7_ofPlate_62 : decode cX7_ofPlate 62 = .ok (.ireturn, 1) := by decide +kernel
theorem dX7_manyThat_0 : decode cX7_manyThat 0 = .ok (.iconst 0, 1) := by decide +kernel
theorem dX7_manyThat_1 : decode cX7_manyThat 1 = .ok (.istore_n 2, 1) := by decide +kernel
theorem dX7_manyThat_2 : decode cX7_manyThat 2 = .ok (.iconst 0, 1) := by decide +kernel
theorem dX7_manyThat_3 : decode cX7_manyThat 3 = .ok (.istore_n 3, 1) := by decide +kernel
theorem dX7_manyThat_4 : decode cX7_manyThat 4 = .ok (.iload_n 3, 1) := by decide +kernel
theorem dX7_manyThat_5 : decode cX7_manyThat 5 = .ok (.aload_n 0, 1) := by decide +kernel
theorem dX7_manyThat_6 : decode cX7_manyThat 6 = .ok (.getfield 7, 3) := by decide +kernel
theorem dX7_manyThat_9 : decode cX7_manyThat 9 = .ok (.iconst 5, 1) := by decide +kernel
theorem dX7_manyThat_10 : decode cX7_manyThat 10 = .ok (.iaload, 1) := by decide +kernel
theorem dX7_manyThat_11 : decode cX7_manyThat 11 = .ok (.if_icmp .ge 27, 3) := by decide +kernel
theorem dX7_manyThat_14 : decode cX7_manyThat 14 = .ok (.iload_n 2, 1) := by decide +kernel
theorem dX7_manyThat_15 : decode cX7_manyThat 15 = .ok (.aload_n 0, 1) := by decide +kernel
theorem dX7_manyThat_16 : decode cX7_manyThat 16 = .ok (.iload_n 3, 1) := by decide +kernel
theorem dX7_manyThat_17 : decode cX7_manyThat 17 = .ok (.iconst 4, 1) := by decide +kernel
theorem dX7_manyThat_18 : decode cX7_manyThat 18 = .ok (.invokevirtual 39, 3) := by decide +kernel
theorem dX7_manyThat_21 : decode cX7_manyThat 21 = .ok (.iload_n 1, 1) := by decide +kernel
theorem dX7_manyThat_22 : decode cX7_manyThat 22 = .ok (.if_icmp .ne 7, 3) := by decide +kernel
theorem dX7_manyThat_25 : decode cX7_manyThat 25 = .ok (.iconst 1, 1) := by decide +kernel
theorem dX7_manyThat_26 : decode cX7_manyThat 26 = .ok (.goto 4, 3) := by decide +kernel
theorem dX7_manyThat_29 : decode cX7_manyThat 29 = .ok (.iconst 0, 1) := by decide +kernel
theorem dX7_manyThat_30 : decode cX7_manyThat 30 = .ok (.iadd, 1) := by decide +kernel
theorem dX7_manyThat_31 : decode cX7_manyThat 31 = .ok (.istore_n 2, 1) := by decide +kernel
theorem dX7_manyThat_32 : decode cX7_manyThat 32 = .ok (.iinc 3 1, 3) := by decide +kernel
theorem dX7_manyThat_35 : decode cX7_manyThat 35 = .ok (.goto (-31), 3) := by decide +kernel
theorem dX7_manyThat_38 : decode cX7_manyThat 38 = .ok (.iload_n 2, 1) := by decide +kernel
theorem dX7_manyThat_39 : decode cX7_manyThat 39 = .ok (.ireturn, 1) := by decide +kernel
theorem dX7_manyHeld_0 : decode cX7_manyHeld 0 = .ok (.iconst 0, 1) := by decide +kernel
theorem dX7_manyHeld_1 : decode cX7_manyHeld 1 = .ok (.istore_n 1, 1) := by decide +kernel
theorem dX7_manyHeld_2 : decode cX7_manyHeld 2 = .ok (.iconst 0, 1) := by decide +kernel
theorem dX7_manyHeld_3 : decode cX7_manyHeld 3 = .ok (.istore_n 2, 1) := by decide +kernel
theorem dX7_manyHeld_4 : decode cX7_manyHeld 4 = .ok (.iload_n 2, 1) := by decide +kernel
theorem dX7_manyHeld_5 : decode cX7_manyHeld 5 = .ok (.aload_n 0, 1) := by decide +kernel
theorem dX7_manyHeld_6 : decode cX7_manyHeld 6 = .ok (.getfield 7, 3) := by decide +kernel
theorem dX7_manyHeld_9 : decode cX7_manyHeld 9 = .ok (.iconst 5, 1) := by decide +kernel
theorem dX7_manyHeld_10 : decode cX7_manyHeld 10 = .ok (.iaload, 1) := by decide +kernel
theorem dX7_manyHeld_11 : decode cX7_manyHeld 11 = .ok (.if_icmp .ge 32, 3) := by decide +kernel
theorem dX7_manyHeld_14 : decode cX7_manyHeld 14 = .ok (.iload_n 1, 1) := by decide +kernel
theorem dX7_manyHeld_15 : decode cX7_manyHeld 15 = .ok (.aload_n 0, 1) := by decide +kernel
theorem dX7_manyHeld_16 : decode cX7_manyHeld 16 = .ok (.iload_n 2, 1) := by decide +kernel
theorem dX7_manyHeld_17 : decode cX7_manyHeld 17 = .ok (.iconst 4, 1) := by decide +kernel
theorem dX7_manyHeld_18 : decode cX7_manyHeld 18 = .ok (.invokevirtual 39, 3) := by decide +kernel
theorem dX7_manyHeld_21 : decode cX7_manyHeld 21 = .ok (.iconst 3, 1) := by decide +kernel
theorem dX7_manyHeld_22 : decode cX7_manyHeld 22 = .ok (.if_icmp .eq 12, 3) := by decide +kernel
theorem dX7_manyHeld_25 : decode cX7_manyHeld 25 = .ok (.aload_n 0, 1) := by decide +kernel
theorem dX7_manyHeld_26 : decode cX7_manyHeld 26 = .ok (.iload_n 2, 1) := by decide +kernel
theorem dX7_manyHeld_27 : decode cX7_manyHeld 27 = .ok (.iconst 5, 1) := by decide +kernel
theorem dX7_manyHeld_28 : decode cX7_manyHeld 28 = .ok (.invokevirtual 39, 3) := by decide +kernel
theorem dX7_manyHeld_31 : decode cX7_manyHeld 31 = .ok (.goto 4, 3) := by decide +kernel
theorem dX7_manyHeld_34 : decode cX7_manyHeld 34 = .ok (.iconst 0, 1) := by decide +kernel
theorem dX7_manyHeld_35 : decode cX7_manyHeld 35 = .ok (.iadd, 1) := by decide +kernel
theorem dX7_manyHeld_36 : decode cX7_manyHeld 36 = .ok (.istore_n 1, 1) := by decide +kernel
theorem dX7_manyHeld_37 : decode cX7_manyHeld 37 = .ok (.iinc 2 1, 3) := by decide +kernel
theorem dX7_manyHeld_40 : decode cX7_manyHeld 40 = .ok (.goto (-36), 3) := by decide +kernel
theorem dX7_manyHeld_43 : decode cX7_manyHeld 43 = .ok (.iload_n 1, 1) := by decide +kernel
theorem dX7_manyHeld_44 : decode cX7_manyHeld 44 = .ok (.ireturn, 1) := by decide +kernel
theorem dX7_replates_0 : decode cX7_replates 0 = .ok (.iconst 0, 1) := by decide +kernel
theorem dX7_replates_1 : decode cX7_replates 1 = .ok (.istore_n 1, 1) := by decide +kernel
theorem dX7_replates_2 : decode cX7_replates 2 = .ok (.iconst 0, 1) := by decide +kernel
theorem dX7_replates_3 : decode cX7_replates 3 = .ok (.istore_n 2, 1) := by decide +kernel
theorem dX7_replates_4 : decode cX7_replates 4 = .ok (.iload_n 2, 1) := by decide +kernel
theorem dX7_replates_5 : decode cX7_replates 5 = .ok (.aload_n 0, 1) := by decide +kernel
theorem dX7_replates_6 : decode cX7_replates 6 = .ok (.getfield 7, 3) := by decide +kernel
theorem dX7_replates_9 : decode cX7_replates 9 = .ok (.bipush 6, 2) := by decide +kernel
theorem dX7_replates_11 : decode cX7_replates 11 = .ok (.iaload, 1) := by decide +kernel
theorem dX7_replates_12 : decode cX7_replates 12 = .ok (.if_icmp .ge 18, 3) := by decide +kernel
theorem dX7_replates_15 : decode cX7_replates 15 = .ok (.iload_n 1, 1) := by decide +kernel
theorem dX7_replates_16 : decode cX7_replates 16 = .ok (.aload_n 0, 1) := by decide +kernel
theorem dX7_replates_17 : decode cX7_replates 17 = .ok (.iload_n 2, 1) := by decide +kernel
theorem dX7_replates_18 : decode cX7_replates 18 = .ok (.iconst 2, 1) := by decide +kernel
theorem dX7_replates_19 : decode cX7_replates 19 = .ok (.invokevirtual 85, 3) := by decide +kernel
theorem dX7_replates_22 : decode cX7_replates 22 = .ok (.iadd, 1) := by decide +kernel
theorem dX7_replates_23 : decode cX7_replates 23 = .ok (.istore_n 1, 1) := by decide +kernel
theorem dX7_replates_24 : decode cX7_replates 24 = .ok (.iinc 2 1, 3) := by decide +kernel
theorem dX7_replates_27 : decode cX7_replates 27 = .ok (.goto (-23), 3) := by decide +kernel
theorem dX7_replates_30 : decode cX7_replates 30 = .ok (.iload_n 1, 1) := by decide +kernel
theorem dX7_replates_31 : decode cX7_replates 31 = .ok (.ireturn, 1) := by decide +kernel
theorem dX7_count_0 : decode cX7_count 0 = .ok (.iload_n 1, 1) := by decide +kernel
theorem dX7_count_1 : decode cX7_count 1 = .ok (.i2l, 1) := by decide +kernel
theorem dX7_count_2 : decode cX7_count 2 = .ok (.lconst 0, 1) := by decide +kernel
theorem dX7_count_3 : decode cX7_count 3 = .ok (.ldc2_w 167, 3) := by decide +kernel
theorem dX7_count_6 : decode cX7_count 6 = .ok (.invokestatic 35, 3) := by decide +kernel
theorem dX7_count_9 : decode cX7_count 9 = .ok (.ifCond .eq 12, 3) := by decide +kernel
theorem dX7_count_12 : decode cX7_count 12 = .ok (.aload_n 0, 1) := by decide +kernel
theorem dX7_count_13 : decode cX7_count 13 = .ok (.getfield 7, 3) := by decide +kernel
theorem dX7_count_16 : decode cX7_count 16 = .ok (.iconst 4, 1) := by decide +kernel
theorem dX7_count_17 : decode cX7_count 17 = .ok (.iload_n 1, 1) := by decide +kernel
theorem dX7_count_18 : decode cX7_count 18 = .ok (.iadd, 1) := by decide +kernel
theorem dX7_count_19 : decode cX7_count 19 = .ok (.iaload, 1) := by decide +kernel
theorem dX7_count_20 : decode cX7_count 20 = .ok (.ireturn, 1) := by decide +kernel
theorem dX7_count_21 : decode cX7_count 21 = .ok (.iload_n 1, 1) := by decide +kernel
theorem dX7_count_22 : decode cX7_count 22 = .ok (.i2l, 1) := by decide +kernel
theorem dX7_count_23 : decode cX7_count 23 = .ok (.ldc2_w 103, 3) := by decide +kernel
theorem dX7_count_26 : decode cX7_count 26 = .ok (.ldc2_w 162, 3) := by decide +kernel
theorem dX7_count_29 : decode cX7_count 29 = .ok (.invokestatic 35, 3) := by decide +kernel
theorem dX7_count_32 : decode cX7_count 32 = .ok (.ifCond .eq 11, 3) := by decide +kernel
theorem dX7_count_35 : decode cX7_count 35 = .ok (.aload_n 0, 1) := by decide +kernel
theorem dX7_count_36 : decode cX7_count 36 = .ok (.iload_n 1, 1) := by decide +kernel
theorem dX7_count_37 : decode cX7_count 37 = .ok (.iconst 4, 1) := by decide +kernel
theorem dX7_count_38 : decode cX7_count 38 = .ok (.isub, 1) := by decide +kernel
theorem dX7_count_39 : decode cX7_count 39 = .ok (.invokevirtual 172, 3) := by decide +kernel
theorem dX7_count_42 : decode cX7_count 42 = .ok (.ireturn, 1) := by decide +kernel
theorem dX7_count_43 : decode cX7_count 43 = .ok (.iload_n 1, 1) := by decide +kernel
theorem dX7_count_44 : decode cX7_count 44 = .ok (.i2l, 1) := by decide +kernel
theorem dX7_count_45 : decode cX7_count 45 = .ok (.ldc2_w 132, 3) := by decide +kernel
theorem dX7_count_48 : decode cX7_count 48 = .ok (.ldc2_w 175, 3) := by decide +kernel
theorem dX7_count_51 : decode cX7_count 51 = .ok (.invokestatic 35, 3) := by decide +kernel
theorem dX7_count_54 : decode cX7_count 54 = .ok (.ifCond .eq 13, 3) := by decide +kernel
theorem dX7_count_57 : decode cX7_count 57 = .ok (.aload_n 0, 1) := by decide +kernel
theorem dX7_count_58 : decode cX7_count 58 = .ok (.getfield 7, 3) := by decide +kernel
theorem dX7_count_61 : decode cX7_count 61 = .ok (.iload_n 1, 1) := by decide +kernel
theorem dX7_count_62 : decode cX7_count 62 = .ok (.bipush 10, 2) := by decide +kernel
theorem dX7_count_64 : decode cX7_count 64 = .ok (.isub, 1) := by decide +kernel
theorem dX7_count_65 : decode cX7_count 65 = .ok (.iaload, 1) := by decide +kernel
theorem dX7_count_66 : decode cX7_count 66 = .ok (.ireturn, 1) := by decide +kernel
theorem dX7_count_67 : decode cX7_count 67 = .ok (.iload_n 1, 1) := by decide +kernel
theorem dX7_count_68 : decode cX7_count 68 = .ok (.bipush 8, 2) := by decide +kernel
theorem dX7_count_70 : decode cX7_count 70 = .ok (.if_icmp .ne 10, 3) := by decide +kernel
theorem dX7_count_73 : decode cX7_count 73 = .ok (.aload_n 0, 1) := by decide +kernel
theorem dX7_count_74 : decode cX7_count 74 = .ok (.invokevirtual 177, 3) := by decide +kernel
theorem dX7_count_77 : decode cX7_count 77 = .ok (.goto 44, 3) := by decide +kernel
theorem dX7_count_80 : decode cX7_count 80 = .ok (.iload_n 1, 1) := by decide +kernel
theorem dX7_count_81 : decode cX7_count 81 = .ok (.bipush 9, 2) := by decide +kernel
theorem dX7_count_83 : decode cX7_count 83 = .ok (.if_icmp .ne 10, 3) := by decide +kernel
theorem dX7_count_86 : decode cX7_count 86 = .ok (.aload_n 0, 1) := by decide +kernel
theorem dX7_count_87 : decode cX7_count 87 = .ok (.invokevirtual 180, 3) := by decide +kernel
theorem dX7_count_90 : decode cX7_count 90 = .ok (.goto 31, 3) := by decide +kernel
theorem dX7_count_93 : decode cX7_count 93 = .ok (.iload_n 1, 1) := by decide +kernel
theorem dX7_count_94 : decode cX7_count 94 = .ok (.bipush 14, 2) := by decide +kernel
theorem dX7_count_96 : decode cX7_count 96 = .ok (.if_icmp .ne 10, 3) := by decide +kernel
theorem dX7_count_99 : decode cX7_count 99 = .ok (.aload_n 0, 1) := by decide +kernel
theorem dX7_count_100 : decode cX7_count 100 = .ok (.getfield 183, 3) := by decide +kernel
theorem dX7_count_103 : decode cX7_count 103 = .ok (.goto 18, 3) := by decide +kernel
theorem dX7_count_106 : decode cX7_count 106 = .ok (.iload_n 1, 1) := by decide +kernel
theorem dX7_count_107 : decode cX7_count 107 = .ok (.bipush 15, 2) := by decide +kernel
theorem dX7_count_109 : decode cX7_count 109 = .ok (.if_icmp .ne 10, 3) := by decide +kernel
theorem dX7_count_112 : decode cX7_count 112 = .ok (.aload_n 0, 1) := by decide +kernel
theorem dX7_count_113 : decode cX7_count 113 = .ok (.getfield 31, 3) := by decide +kernel
theorem dX7_count_116 : decode cX7_count 116 = .ok (.goto 5, 3) := by decide +kernel
theorem dX7_count_119 : decode cX7_count 119 = .ok (.bipush (-2), 2) := by decide +kernel
theorem dX7_count_121 : decode cX7_count 121 = .ok (.ireturn, 1) := by decide +kernel
theorem dX7_lastAhead_0 : decode cX7_lastAhead 0 = .ok (.bipush (-6), 2) := by decide +kernel
theorem dX7_lastAhead_2 : decode cX7_lastAhead 2 = .ok (.istore_n 2, 1) := by decide +kernel
theorem dX7_lastAhead_3 : decode cX7_lastAhead 3 = .ok (.iconst 0, 1) := by decide +kernel
theorem dX7_lastAhead_4 : decode cX7_lastAhead 4 = .ok (.istore_n 3, 1) := by decide +kernel
theorem dX7_lastAhead_5 : decode cX7_lastAhead 5 = .ok (.aload_n 0, 1) := by decide +kernel
theorem dX7_lastAhead_6 : decode cX7_lastAhead 6 = .ok (.iload_n 3, 1) := by decide +kernel
theorem dX7_lastAhead_7 : decode cX7_lastAhead 7 = .ok (.invokevirtual 82, 3) := by decide +kernel
theorem dX7_lastAhead_10 : decode cX7_lastAhead 10 = .ok (.iload_n 1, 1) := by decide +kernel
theorem dX7_lastAhead_11 : decode cX7_lastAhead 11 = .ok (.if_icmp .eq 36, 3) := by decide +kernel
theorem dX7_lastAhead_14 : decode cX7_lastAhead 14 = .ok (.aload_n 0, 1) := by decide +kernel
theorem dX7_lastAhead_15 : decode cX7_lastAhead 15 = .ok (.iload_n 3, 1) := by decide +kernel
theorem dX7_lastAhead_16 : decode cX7_lastAhead 16 = .ok (.invokevirtual 82, 3) := by decide +kernel
theorem dX7_lastAhead_19 : decode cX7_lastAhead 19 = .ok (.istore 4, 2) := by decide +kernel
theorem dX7_lastAhead_21 : decode cX7_lastAhead 21 = .ok (.aload_n 0, 1) := by decide +kernel
theorem dX7_lastAhead_22 : decode cX7_lastAhead 22 = .ok (.getfield 76, 3) := by decide +kernel
theorem dX7_lastAhead_25 : decode cX7_lastAhead 25 = .ok (.iload 4, 2) := by decide +kernel
theorem dX7_lastAhead_27 : decode cX7_lastAhead 27 = .ok (.ishr, 1) := by decide +kernel
theorem dX7_lastAhead_28 : decode cX7_lastAhead 28 = .ok (.iconst 1, 1) := by decide +kernel
theorem dX7_lastAhead_29 : decode cX7_lastAhead 29 = .ok (.iand, 1) := by decide +kernel
theorem dX7_lastAhead_30 : decode cX7_lastAhead 30 = .ok (.iconst 1, 1) := by decide +kernel
theorem dX7_lastAhead_31 : decode cX7_lastAhead 31 = .ok (.if_icmp .ne 8, 3) := by decide +kernel
theorem dX7_lastAhead_34 : decode cX7_lastAhead 34 = .ok (.iload 4, 2) := by decide +kernel
theorem dX7_lastAhead_36 : decode cX7_lastAhead 36 = .ok (.goto 4, 3) := by decide +kernel
theorem dX7_lastAhead_39 : decode cX7_lastAhead 39 = .ok (.iload_n 2, 1) := by decide +kernel
theorem dX7_lastAhead_40 : decode cX7_lastAhead 40 = .ok (.istore_n 2, 1) := by decide +kernel
theorem dX7_lastAhead_41 : decode cX7_lastAhead 41 = .ok (.iinc 3 1, 3) := by decide +kernel
theorem dX7_lastAhead_44 : decode cX7_lastAhead 44 = .ok (.goto (-39), 3) := by decide +kernel
theorem dX7_lastAhead_47 : decode cX7_lastAhead 47 = .ok (.iload_n 2, 1) := by decide +kernel
theorem dX7_lastAhead_48 : decode cX7_lastAhead 48 = .ok (.ireturn, 1) := by decide +kernel
theorem dX7_reason_0 : decode cX7_reason 0 = .ok (.aload_n 0, 1) := by decide +kernel
theorem dX7_reason_1 : decode cX7_reason 1 = .ok (.iload_n 1, 1) := by decide +kernel
theorem dX7_reason_2 : decode cX7_reason 2 = .ok (.iconst 4, 1) := by decide +kernel
theorem dX7_reason_3 : decode cX7_reason 3 = .ok (.invokevirtual 39, 3) := by decide +kernel
theorem dX7_reason_6 : decode cX7_reason 6 = .ok (.istore_n 2, 1) := by decide +kernel
theorem dX7_reason_7 : decode cX7_reason 7 = .ok (.iload_n 2, 1) := by decide +kernel
theorem dX7_reason_8 : decode cX7_reason 8 = .ok (.iconst 3, 1) := by decide +kernel
theorem dX7_reason_9 : decode cX7_reason 9 = .ok (.if_icmp .ne 7, 3) := by decide +kernel
theorem dX7_reason_12 : decode cX7_reason 12 = .ok (.iconst 1, 1) := by decide +kernel
theorem dX7_reason_13 : decode cX7_reason 13 = .ok (.goto 51, 3) := by decide +kernel
theorem dX7_reason_16 : decode cX7_reason 16 = .ok (.aload_n 0, 1) := by decide +kernel
theorem dX7_reason_17 : decode cX7_reason 17 = .ok (.iload_n 1, 1) := by decide +kernel
theorem dX7_reason_18 : decode cX7_reason 18 = .ok (.iconst 5, 1) := by decide +kernel
theorem dX7_reason_19 : decode cX7_reason 19 = .ok (.invokevirtual 39, 3) := by decide +kernel
theorem dX7_reason_22 : decode cX7_reason 22 = .ok (.iconst 1, 1) := by decide +kernel
theorem dX7_reason_23 : decode cX7_reason 23 = .ok (.if_icmp .ne 7, 3) := by decide +kernel
theorem dX7_reason_26 : decode cX7_reason 26 = .ok (.iconst 2, 1) := by decide +kernel
theorem dX7_reason_27 : decode cX7_reason 27 = .ok (.goto 37, 3) := by decide +kernel
theorem dX7_reason_30 : decode cX7_reason 30 = .ok (.iload_n 2, 1) := by decide +kernel
theorem dX7_reason_31 : decode cX7_reason 31 = .ok (.ifCond .ne 7, 3) := by decide +kernel
theorem dX7_reason_34 : decode cX7_reason 34 = .ok (.iconst 3, 1) := by decide +kernel
theorem dX7_reason_35 : decode cX7_reason 35 = .ok (.goto 29, 3) := by decide +kernel
theorem dX7_reason_38 : decode cX7_reason 38 = .ok (.iload_n 2, 1) := by decide +kernel
theorem dX7_reason_39 : decode cX7_reason 39 = .ok (.iconst 1, 1) := by decide +kernel
theorem dX7_reason_40 : decode cX7_reason 40 = .ok (.if_icmp .ne 7, 3) := by decide +kernel
theorem dX7_reason_43 : decode cX7_reason 43 = .ok (.iconst 4, 1) := by decide +kernel
theorem dX7_reason_44 : decode cX7_reason 44 = .ok (.goto 20, 3) := by decide +kernel
theorem dX7_reason_47 : decode cX7_reason 47 = .ok (.aload_n 0, 1) := by decide +kernel
theorem dX7_reason_48 : decode cX7_reason 48 = .ok (.getfield 76, 3) := by decide +kernel
theorem dX7_reason_51 : decode cX7_reason 51 = .ok (.iload_n 1, 1) := by decide +kernel
theorem dX7_reason_52 : decode cX7_reason 52 = .ok (.ishr, 1) := by decide +kernel
theorem dX7_reason_53 : decode cX7_reason 53 = .ok (.iconst 1, 1) := by decide +kernel
theorem dX7_reason_54 : decode cX7_reason 54 = .ok (.iand, 1) := by decide +kernel
theorem dX7_reason_55 : decode cX7_reason 55 = .ok (.iconst 1, 1) := by decide +kernel
theorem dX7_reason_56 : decode cX7_reason 56 = .ok (.if_icmp .ne 7, 3) := by decide +kernel
theorem dX7_reason_59 : decode cX7_reason 59 = .ok (.iconst 0, 1) := by decide +kernel
theorem dX7_reason_60 : decode cX7_reason 60 = .ok (.goto 4, 3) := by decide +kernel
theorem dX7_reason_63 : decode cX7_reason 63 = .ok (.iconst 5, 1) := by decide +kernel
theorem dX7_reason_64 : decode cX7_reason 64 = .ok (.ireturn, 1) := by decide +kernel
theorem dX7_why_0 : decode cX7_why 0 = .ok (.aload_n 0, 1) := by decide +kernel
theorem dX7_why_1 : decode cX7_why 1 = .ok (.iload_n 1, 1) := by decide +kernel
theorem dX7_why_2 : decode cX7_why 2 = .ok (.invokevirtual 114, 3) := by decide +kernel
theorem dX7_why_5 : decode cX7_why 5 = .ok (.ifCond .ne 5, 3) := by decide +kernel
theorem dX7_why_8 : decode cX7_why 8 = .ok (.iconst (-1), 1) := by decide +kernel
theorem dX7_why_9 : decode cX7_why 9 = .ok (.ireturn, 1) := by decide +kernel
theorem dX7_why_10 : decode cX7_why 10 = .ok (.iload_n 2, 1) := by decide +kernel
theorem dX7_why_11 : decode cX7_why 11 = .ok (.i2l, 1) := by decide +kernel
theorem dX7_why_12 : decode cX7_why 12 = .ok (.lconst 0, 1) := by decide +kernel
theorem dX7_why_13 : decode cX7_why 13 = .ok (.lconst 1, 1) := by decide +kernel
theorem dX7_why_14 : decode cX7_why 14 = .ok (.invokestatic 35, 3) := by decide +kernel
theorem dX7_why_17 : decode cX7_why 17 = .ok (.ifCond .ne 6, 3) := by decide +kernel
theorem dX7_why_20 : decode cX7_why 20 = .ok (.bipush (-2), 2) := by decide +kernel
theorem dX7_why_22 : decode cX7_why 22 = .ok (.ireturn, 1) := by decide +kernel
theorem dX7_why_23 : decode cX7_why 23 = .ok (.aload_n 0, 1) := by decide +kernel
theorem dX7_why_24 : decode cX7_why 24 = .ok (.aload_n 0, 1) := by decide +kernel
theorem dX7_why_25 : decode cX7_why 25 = .ok (.getfield 7, 3) := by decide +kernel
theorem dX7_why_28 : decode cX7_why 28 = .ok (.iconst 2, 1) := by decide +kernel
theorem dX7_why_29 : decode cX7_why 29 = .ok (.iaload, 1) := by decide +kernel
theorem dX7_why_30 : decode cX7_why 30 = .ok (.invokevirtual 100, 3) := by decide +kernel
theorem dX7_why_33 : decode cX7_why 33 = .ok (.aload_n 0, 1) := by decide +kernel
theorem dX7_why_34 : decode cX7_why 34 = .ok (.iload_n 1, 1) := by decide +kernel
theorem dX7_why_35 : decode cX7_why 35 = .ok (.invokevirtual 186, 3) := by decide +kernel
theorem dX7_why_38 : decode cX7_why 38 = .ok (.istore_n 3, 1) := by decide +kernel
theorem dX7_why_39 : decode cX7_why 39 = .ok (.iload_n 2, 1) := by decide +kernel
theorem dX7_why_40 : decode cX7_why 40 = .ok (.ifCond .ne 5, 3) := by decide +kernel
theorem dX7_why_43 : decode cX7_why 43 = .ok (.iload_n 3, 1) := by decide +kernel
theorem dX7_why_44 : decode cX7_why 44 = .ok (.ireturn, 1) := by decide +kernel
theorem dX7_why_45 : decode cX7_why 45 = .ok (.iload_n 3, 1) := by decide +kernel
theorem dX7_why_46 : decode cX7_why 46 = .ok (.iconst 3, 1) := by decide +kernel
theorem dX7_why_47 : decode cX7_why 47 = .ok (.if_icmp .eq 8, 3) := by decide +kernel
theorem dX7_why_50 : decode cX7_why 50 = .ok (.iload_n 3, 1) := by decide +kernel
theorem dX7_why_51 : decode cX7_why 51 = .ok (.iconst 4, 1) := by decide +kernel
theorem dX7_why_52 : decode cX7_why 52 = .ok (.if_icmp .ne 16, 3) := by decide +kernel
theorem dX7_why_55 : decode cX7_why 55 = .ok (.aload_n 0, 1) := by decide +kernel
theorem dX7_why_56 : decode cX7_why 56 = .ok (.aload_n 0, 1) := by decide +kernel
theorem dX7_why_57 : decode cX7_why 57 = .ok (.iload_n 1, 1) := by decide +kernel
theorem dX7_why_58 : decode cX7_why 58 = .ok (.invokevirtual 43, 3) := by decide +kernel
theorem dX7_why_61 : decode cX7_why 61 = .ok (.iconst 0, 1) := by decide +kernel
theorem dX7_why_62 : decode cX7_why 62 = .ok (.invokevirtual 47, 3) := by decide +kernel
theorem dX7_why_65 : decode cX7_why 65 = .ok (.goto 18, 3) := by decide +kernel
theorem dX7_why_68 : decode cX7_why 68 = .ok (.iload_n 3, 1) := by decide +kernel
theorem dX7_why_69 : decode cX7_why 69 = .ok (.iconst 5, 1) := by decide +kernel
theorem dX7_why_70 : decode cX7_why 70 = .ok (.if_icmp .ne 11, 3) := by decide +kernel
theorem dX7_why_73 : decode cX7_why 73 = .ok (.aload_n 0, 1) := by decide +kernel
theorem dX7_why_74 : decode cX7_why 74 = .ok (.iload_n 1, 1) := by decide +kernel
theorem dX7_why_75 : decode cX7_why 75 = .ok (.invokevirtual 189, 3) := by decide +kernel
theorem dX7_why_78 : decode cX7_why 78 = .ok (.goto 5, 3) := by decide +kernel
theorem dX7_why_81 : decode cX7_why 81 = .ok (.bipush (-6), 2) := by decide +kernel
theorem dX7_why_83 : decode cX7_why 83 = .ok (.ireturn, 1) := by decide +kernel
theorem dX7_plateNow_0 : decode cX7_plateNow 0 = .ok (.aload_n 0, 1) := by decide +kernel
theorem dX7_plateNow_1 : decode cX7_plateNow 1 = .ok (.aload_n 0, 1) := by decide +kernel
theorem dX7_plateNow_2 : decode cX7_plateNow 2 = .ok (.getfield 7, 3) := by decide +kernel
theorem dX7_plateNow_5 : decode cX7_plateNow 5 = .ok (.iconst 2, 1) := by decide +kernel
theorem dX7_plateNow_6 : decode cX7_plateNow 6 = .ok (.iaload, 1) := by decide +kernel
theorem dX7_plateNow_7 : decode cX7_plateNow 7 = .ok (.invokevirtual 100, 3) := by decide +kernel
theorem dX7_plateNow_10 : decode cX7_plateNow 10 = .ok (.aload_n 0, 1) := by decide +kernel
theorem dX7_plateNow_11 : decode cX7_plateNow 11 = .ok (.getfield 76, 3) := by decide +kernel
theorem dX7_plateNow_14 : decode cX7_plateNow 14 = .ok (.ireturn, 1) := by decide +kernel
theorem dX7_readyIn_0 : decode cX7_readyIn 0 = .ok (.aload_n 0, 1) := by decide +kernel
theorem dX7_readyIn_1 : decode cX7_readyIn 1 = .ok (.iload_n 1, 1) := by decide +kernel
theorem dX7_readyIn_2 : decode cX7_readyIn 2 = .ok (.invokevirtual 114, 3) := by decide +kernel
theorem dX7_readyIn_5 : decode cX7_readyIn 5 = .ok (.ifCond .ne 5, 3) := by decide +kernel
theorem dX7_readyIn_8 : decode cX7_readyIn 8 = .ok (.iconst (-1), 1) := by decide +kernel
theorem dX7_readyIn_9 : decode cX7_readyIn 9 = .ok (.ireturn, 1) := by decide +kernel
theorem dX7_readyIn_10 : decode cX7_readyIn 10 = .ok (.aload_n 0, 1) := by decide +kernel
theorem dX7_readyIn_11 : decode cX7_readyIn 11 = .ok (.iload_n 1, 1) := by decide +kernel
theorem dX7_readyIn_12 : decode cX7_readyIn 12 = .ok (.iconst 4, 1) := by decide +kernel
theorem dX7_readyIn_13 : decode cX7_readyIn 13 = .ok (.invokevirtual 39, 3) := by decide +kernel
theorem dX7_readyIn_16 : decode cX7_readyIn 16 = .ok (.iconst 3, 1) := by decide +kernel
theorem dX7_readyIn_17 : decode cX7_readyIn 17 = .ok (.if_icmp .ne 6, 3) := by decide +kernel
theorem dX7_readyIn_20 : decode cX7_readyIn 20 = .ok (.bipush (-5), 2) := by decide +kernel
theorem dX7_readyIn_22 : decode cX7_readyIn 22 = .ok (.ireturn, 1) := by decide +kernel
theorem dX7_readyIn_23 : decode cX7_readyIn 23 = .ok (.aload_n 0, 1) := by decide +kernel
theorem dX7_readyIn_24 : decode cX7_readyIn 24 = .ok (.getfield 7, 3) := by decide +kernel
theorem dX7_readyIn_27 : decode cX7_readyIn 27 = .ok (.aload_n 0, 1) := by decide +kernel
theorem dX7_readyIn_28 : decode cX7_readyIn 28 = .ok (.getfield 16, 3) := by decide +kernel
theorem dX7_readyIn_31 : decode cX7_readyIn 31 = .ok (.invokestatic 139, 3) := by decide +kernel
theorem dX7_readyIn_34 : decode cX7_readyIn 34 = .ok (.iconst 0, 1) := by decide +kernel
theorem dX7_readyIn_35 : decode cX7_readyIn 35 = .ok (.istore_n 2, 1) := by decide +kernel
theorem dX7_readyIn_36 : decode cX7_readyIn 36 = .ok (.aload_n 0, 1) := by decide +kernel
theorem dX7_readyIn_37 : decode cX7_readyIn 37 = .ok (.iload_n 1, 1) := by decide +kernel
theorem dX7_readyIn_38 : decode cX7_readyIn 38 = .ok (.iconst 4, 1) := by decide +kernel
theorem dX7_readyIn_39 : decode cX7_readyIn 39 = .ok (.invokevirtual 39, 3) := by decide +kernel
theorem dX7_readyIn_42 : decode cX7_readyIn 42 = .ok (.iconst 2, 1) := by decide +kernel
theorem dX7_readyIn_43 : decode cX7_readyIn 43 = .ok (.if_icmp .eq 20, 3) := by decide +kernel
theorem dX7_readyIn_46 : decode cX7_readyIn 46 = .ok (.iload_n 2, 1) := by decide +kernel
theorem dX7_readyIn_47 : decode cX7_readyIn 47 = .ok (.sipush 2000, 3) := by decide +kernel
theorem dX7_readyIn_50 : decode cX7_readyIn 50 = .ok (.if_icmp .gt 13, 3) := by decide +kernel
theorem dX7_readyIn_53 : decode cX7_readyIn 53 = .ok (.aload_n 0, 1) := by decide +kernel
theorem dX7_readyIn_54 : decode cX7_readyIn 54 = .ok (.invokevirtual 94, 3) := by decide +kernel
theorem dX7_readyIn_57 : decode cX7_readyIn 57 = .ok (.iinc 2 1, 3) := by decide +kernel
theorem dX7_readyIn_60 : decode cX7_readyIn 60 = .ok (.goto (-24), 3) := by decide +kernel
theorem dX7_readyIn_63 : decode cX7_readyIn 63 = .ok (.aload_n 0, 1) := by decide +kernel
theorem dX7_readyIn_64 : decode cX7_readyIn 64 = .ok (.getfield 16, 3) := by decide +kernel
theorem dX7_readyIn_67 : decode cX7_readyIn 67 = .ok (.aload_n 0, 1) := by decide +kernel
theorem dX7_readyIn_68 : decode cX7_readyIn 68 = .ok (.getfield 7, 3) := by decide +kernel
theorem dX7_readyIn_71 : decode cX7_readyIn 71 = .ok (.invokestatic 139, 3) := by decide +kernel
theorem dX7_readyIn_74 : decode cX7_readyIn 74 = .ok (.iload_n 2, 1) := by decide +kernel
theorem dX7_readyIn_75 : decode cX7_readyIn 75 = .ok (.sipush 2000, 3) := by decide +kernel
theorem dX7_readyIn_78 : decode cX7_readyIn 78 = .ok (.if_icmp .le 8, 3) := by decide +kernel
theorem dX7_readyIn_81 : decode cX7_readyIn 81 = .ok (.bipush (-6), 2) := by decide +kernel
theorem dX7_readyIn_83 : decode cX7_readyIn 83 = .ok (.goto 4, 3) := by decide +kernel
theorem dX7_readyIn_86 : decode cX7_readyIn 86 = .ok (.iload_n 2, 1) := by decide +kernel
theorem dX7_readyIn_87 : decode cX7_readyIn 87 = .ok (.ireturn, 1) := by decide +kernel
theorem dX7_comesToNext_0 : decode cX7_comesToNext 0 = .ok (.aload_n 0, 1) := by decide +kernel
theorem dX7_comesToNext_1 : decode cX7_comesToNext 1 = .ok (.getfield 7, 3) := by decide +kernel
theorem dX7_comesToNext_4 : decode cX7_comesToNext 4 = .ok (.bipush 7, 2) := by decide +kernel
theorem dX7_comesToNext_6 : decode cX7_comesToNext 6 = .ok (.iaload, 1) := by decide +kernel
theorem dX7_comesToNext_7 : decode cX7_comesToNext 7 = .ok (.istore_n 1, 1) := by decide +kernel
theorem dX7_comesToNext_8 : decode cX7_comesToNext 8 = .ok (.iload_n 1, 1) := by decide +kernel
theorem dX7_comesToNext_9 : decode cX7_comesToNext 9 = .ok (.aload_n 0, 1) := by decide +kernel
theorem dX7_comesToNext_10 : decode cX7_comesToNext 10 = .ok (.getfield 7, 3) := by decide +kernel
theorem dX7_comesToNext_13 : decode cX7_comesToNext 13 = .ok (.bipush 6, 2) := by decide +kernel
theorem dX7_comesToNext_15 : decode cX7_comesToNext 15 = .ok (.iaload, 1) := by decide +kernel
theorem dX7_comesToNext_16 : decode cX7_comesToNext 16 = .ok (.if_icmp .lt 5, 3) := by decide +kernel
theorem dX7_comesToNext_19 : decode cX7_comesToNext 19 = .ok (.iconst 0, 1) := by decide +kernel
theorem dX7_comesToNext_20 : decode cX7_comesToNext 20 = .ok (.ireturn, 1) := by decide +kernel
theorem dX7_comesToNext_21 : decode cX7_comesToNext 21 = .ok (.aload_n 0, 1) := by decide +kernel
theorem dX7_comesToNext_22 : decode cX7_comesToNext 22 = .ok (.getfield 7, 3) := by decide +kernel
theorem dX7_comesToNext_25 : decode cX7_comesToNext 25 = .ok (.iconst 4, 1) := by decide +kernel
theorem dX7_comesToNext_26 : decode cX7_comesToNext 26 = .ok (.iaload, 1) := by decide +kernel
theorem dX7_comesToNext_27 : decode cX7_comesToNext 27 = .ok (.aload_n 0, 1) := by decide +kernel
theorem dX7_comesToNext_28 : decode cX7_comesToNext 28 = .ok (.iload_n 1, 1) := by decide +kernel
theorem dX7_comesToNext_29 : decode cX7_comesToNext 29 = .ok (.iconst 0, 1) := by decide +kernel
theorem dX7_comesToNext_30 : decode cX7_comesToNext 30 = .ok (.invokevirtual 85, 3) := by decide +kernel
theorem dX7_comesToNext_33 : decode cX7_comesToNext 33 = .ok (.if_icmp .ge 20, 3) := by decide +kernel
theorem dX7_comesToNext_36 : decode cX7_comesToNext 36 = .ok (.aload_n 0, 1) := by decide +kernel
theorem dX7_comesToNext_37 : decode cX7_comesToNext 37 = .ok (.invokevirtual 94, 3) := by decide +kernel
theorem dX7_comesToNext_40 : decode cX7_comesToNext 40 = .ok (.aload_n 0, 1) := by decide +kernel
theorem dX7_comesToNext_41 : decode cX7_comesToNext 41 = .ok (.getfield 7, 3) := by decide +kernel
theorem dX7_comesToNext_44 : decode cX7_comesToNext 44 = .ok (.iconst 4, 1) := by decide +kernel
theorem dX7_comesToNext_45 : decode cX7_comesToNext 45 = .ok (.dup2, 1) := by decide +kernel
theorem dX7_comesToNext_46 : decode cX7_comesToNext 46 = .ok (.iaload, 1) := by decide +kernel
theorem dX7_comesToNext_47 : decode cX7_comesToNext 47 = .ok (.iconst 1, 1) := by decide +kernel
theorem dX7_comesToNext_48 : decode cX7_comesToNext 48 = .ok (.iadd, 1) := by decide +kernel
theorem dX7_comesToNext_49 : decode cX7_comesToNext 49 = .ok (.iastore, 1) := by decide +kernel
theorem dX7_comesToNext_50 : decode cX7_comesToNext 50 = .ok (.goto (-29), 3) := by decide +kernel
theorem dX7_comesToNext_53 : decode cX7_comesToNext 53 = .ok (.aload_n 0, 1) := by decide +kernel
theorem dX7_comesToNext_54 : decode cX7_comesToNext 54 = .ok (.invokevirtual 94, 3) := by decide +kernel
theorem dX7_comesToNext_57 : decode cX7_comesToNext 57 = .ok (.iconst 1, 1) := by decide +kernel
theorem dX7_comesToNext_58 : decode cX7_comesToNext 58 = .ok (.ireturn, 1) := by decide +kernel
theorem dX7_leastRoom_0 : decode cX7_leastRoom 0 = .ok (.aload_n 0, 1) := by decide +kernel
theorem dX7_leastRoom_1 : decode cX7_leastRoom 1 = .ok (.getfield 7, 3) := by decide +kernel
theorem dX7_leastRoom_4 : decode cX7_leastRoom 4 = .ok (.aload_n 0, 1) := by decide +kernel
theorem dX7_leastRoom_5 : decode cX7_leastRoom 5 = .ok (.getfield 16, 3) := by decide +kernel
theorem dX7_leastRoom_8 : decode cX7_leastRoom 8 = .ok (.invokestatic 139, 3) := by decide +kernel
theorem dX7_leastRoom_11 : decode cX7_leastRoom 11 = .ok (.aload_n 0, 1) := by decide +kernel
theorem dX7_leastRoom_12 : decode cX7_leastRoom 12 = .ok (.invokevirtual 192, 3) := by decide +kernel
theorem dX7_leastRoom_15 : decode cX7_leastRoom 15 = .ok (.istore_n 1, 1) := by decide +kernel
theorem dX7_leastRoom_16 : decode cX7_leastRoom 16 = .ok (.iconst 0, 1) := by decide +kernel
theorem dX7_leastRoom_17 : decode cX7_leastRoom 17 = .ok (.istore_n 2, 1) := by decide +kernel
theorem dX7_leastRoom_18 : decode cX7_leastRoom 18 = .ok (.iconst 0, 1) := by decide +kernel
theorem dX7_leastRoom_19 : decode cX7_leastRoom 19 = .ok (.istore_n 3, 1) := by decide +kernel
theorem dX7_leastRoom_20 : decode cX7_leastRoom 20 = .ok (.iload_n 3, 1) := by decide +kernel
theorem dX7_leastRoom_21 : decode cX7_leastRoom 21 = .ok (.aload_n 0, 1) := by decide +kernel
theorem dX7_leastRoom_22 : decode cX7_leastRoom 22 = .ok (.getfield 7, 3) := by decide +kernel
theorem dX7_leastRoom_25 : decode cX7_leastRoom 25 = .ok (.iconst 5, 1) := by decide +kernel
theorem dX7_leastRoom_26 : decode cX7_leastRoom 26 = .ok (.iaload, 1) := by decide +kernel
theorem dX7_leastRoom_27 : decode cX7_leastRoom 27 = .ok (.if_icmp .ge 30, 3) := by decide +kernel
theorem dX7_leastRoom_30 : decode cX7_leastRoom 30 = .ok (.iload_n 2, 1) := by decide +kernel
theorem dX7_leastRoom_31 : decode cX7_leastRoom 31 = .ok (.aload_n 0, 1) := by decide +kernel
theorem dX7_leastRoom_32 : decode cX7_leastRoom 32 = .ok (.iload_n 3, 1) := by decide +kernel
theorem dX7_leastRoom_33 : decode cX7_leastRoom 33 = .ok (.invokevirtual 68, 3) := by decide +kernel
theorem dX7_leastRoom_36 : decode cX7_leastRoom 36 = .ok (.ifCond .eq 12, 3) := by decide +kernel
theorem dX7_leastRoom_39 : decode cX7_leastRoom 39 = .ok (.aload_n 0, 1) := by decide +kernel
theorem dX7_leastRoom_40 : decode cX7_leastRoom 40 = .ok (.iload_n 3, 1) := by decide +kernel
theorem dX7_leastRoom_41 : decode cX7_leastRoom 41 = .ok (.iconst 1, 1) := by decide +kernel
theorem dX7_leastRoom_42 : decode cX7_leastRoom 42 = .ok (.invokevirtual 39, 3) := by decide +kernel
theorem dX7_leastRoom_45 : decode cX7_leastRoom 45 = .ok (.goto 4, 3) := by decide +kernel
theorem dX7_leastRoom_48 : decode cX7_leastRoom 48 = .ok (.iconst 0, 1) := by decide +kernel
theorem dX7_leastRoom_49 : decode cX7_leastRoom 49 = .ok (.iadd, 1) := by decide +kernel
theorem dX7_leastRoom_50 : decode cX7_leastRoom 50 = .ok (.istore_n 2, 1) := by decide +kernel
theorem dX7_leastRoom_51 : decode cX7_leastRoom 51 = .ok (.iinc 3 1, 3) := by decide +kernel
theorem dX7_leastRoom_54 : decode cX7_leastRoom 54 = .ok (.goto (-34), 3) := by decide +kernel
theorem dX7_leastRoom_57 : decode cX7_leastRoom 57 = .ok (.aload_n 0, 1) := by decide +kernel
theorem dX7_leastRoom_58 : decode cX7_leastRoom 58 = .ok (.getfield 16, 3) := by decide +kernel
theorem dX7_leastRoom_61 : decode cX7_leastRoom 61 = .ok (.aload_n 0, 1) := by decide +kernel
theorem dX7_leastRoom_62 : decode cX7_leastRoom 62 = .ok (.getfield 7, 3) := by decide +kernel
theorem dX7_leastRoom_65 : decode cX7_leastRoom 65 = .ok (.invokestatic 139, 3) := by decide +kernel
theorem dX7_leastRoom_68 : decode cX7_leastRoom 68 = .ok (.iload_n 1, 1) := by decide +kernel
theorem dX7_leastRoom_69 : decode cX7_leastRoom 69 = .ok (.ifCond .ne 8, 3) := by decide +kernel
theorem dX7_leastRoom_72 : decode cX7_leastRoom 72 = .ok (.bipush (-5), 2) := by decide +kernel
theorem dX7_leastRoom_74 : decode cX7_leastRoom 74 = .ok (.goto 27, 3) := by decide +kernel
theorem dX7_leastRoom_77 : decode cX7_leastRoom 77 = .ok (.iload_n 2, 1) := by decide +kernel
theorem dX7_leastRoom_78 : decode cX7_leastRoom 78 = .ok (.sipush 400, 3) := by decide +kernel
theorem dX7_leastRoom_81 : decode cX7_leastRoom 81 = .ok (.if_icmp .le 8, 3) := by decide +kernel
theorem dX7_leastRoom_84 : decode cX7_leastRoom 84 = .ok (.bipush (-6), 2) := by decide +kernel
theorem dX7_leastRoom_86 : decode cX7_leastRoom 86 = .ok (.goto 15, 3) := by decide +kernel
theorem dX7_leastRoom_89 : decode cX7_leastRoom 89 = .ok (.iload_n 2, 1) := by decide +kernel
theorem dX7_leastRoom_90 : decode cX7_leastRoom 90 = .ok (.bipush 10, 2) := by decide +kernel
theorem dX7_leastRoom_92 : decode cX7_leastRoom 92 = .ok (.if_icmp .ge 8, 3) := by decide +kernel
theorem dX7_leastRoom_95 : decode cX7_leastRoom 95 = .ok (.bipush 10, 2) := by decide +kernel
theorem dX7_leastRoom_97 : decode cX7_leastRoom 97 = .ok (.goto 4, 3) := by decide +kernel
theorem dX7_leastRoom_100 : decode cX7_leastRoom 100 = .ok (.iload_n 2, 1) := by decide +kernel
theorem dX7_leastRoom_101 : decode cX7_leastRoom 101 = .ok (.ireturn, 1) := by decide +kernel
theorem dX7_nextPlate_0 : decode cX7_nextPlate 0 = .ok (.aload_n 0, 1) := by decide +kernel
theorem dX7_nextPlate_1 : decode cX7_nextPlate 1 = .ok (.getfield 7, 3) := by decide +kernel
theorem dX7_nextPlate_4 : decode cX7_nextPlate 4 = .ok (.aload_n 0, 1) := by decide +kernel
theorem dX7_nextPlate_5 : decode cX7_nextPlate 5 = .ok (.getfield 16, 3) := by decide +kernel
theorem dX7_nextPlate_8 : decode cX7_nextPlate 8 = .ok (.invokestatic 139, 3) := by decide +kernel
theorem dX7_nextPlate_11 : decode cX7_nextPlate 11 = .ok (.aload_n 0, 1) := by decide +kernel
theorem dX7_nextPlate_12 : decode cX7_nextPlate 12 = .ok (.invokevirtual 192, 3) := by decide +kernel
theorem dX7_nextPlate_15 : decode cX7_nextPlate 15 = .ok (.istore_n 1, 1) := by decide +kernel
theorem dX7_nextPlate_16 : decode cX7_nextPlate 16 = .ok (.aload_n 0, 1) := by decide +kernel
theorem dX7_nextPlate_17 : decode cX7_nextPlate 17 = .ok (.aload_n 0, 1) := by decide +kernel
theorem dX7_nextPlate_18 : decode cX7_nextPlate 18 = .ok (.getfield 7, 3) := by decide +kernel
theorem dX7_nextPlate_21 : decode cX7_nextPlate 21 = .ok (.iconst 2, 1) := by decide +kernel
theorem dX7_nextPlate_22 : decode cX7_nextPlate 22 = .ok (.iaload, 1) := by decide +kernel
theorem dX7_nextPlate_23 : decode cX7_nextPlate 23 = .ok (.invokevirtual 100, 3) := by decide +kernel
theorem dX7_nextPlate_26 : decode cX7_nextPlate 26 = .ok (.aload_n 0, 1) := by decide +kernel
theorem dX7_nextPlate_27 : decode cX7_nextPlate 27 = .ok (.getfield 16, 3) := by decide +kernel
theorem dX7_nextPlate_30 : decode cX7_nextPlate 30 = .ok (.aload_n 0, 1) := by decide +kernel
theorem dX7_nextPlate_31 : decode cX7_nextPlate 31 = .ok (.getfield 7, 3) := by decide +kernel
theorem dX7_nextPlate_34 : decode cX7_nextPlate 34 = .ok (.invokestatic 139, 3) := by decide +kernel
theorem dX7_nextPlate_37 : decode cX7_nextPlate 37 = .ok (.iload_n 1, 1) := by decide +kernel
theorem dX7_nextPlate_38 : decode cX7_nextPlate 38 = .ok (.ifCond .eq 10, 3) := by decide +kernel
theorem dX7_nextPlate_41 : decode cX7_nextPlate 41 = .ok (.aload_n 0, 1) := by decide +kernel
theorem dX7_nextPlate_42 : decode cX7_nextPlate 42 = .ok (.getfield 76, 3) := by decide +kernel
theorem dX7_nextPlate_45 : decode cX7_nextPlate 45 = .ok (.goto 5, 3) := by decide +kernel
theorem dX7_nextPlate_48 : decode cX7_nextPlate 48 = .ok (.bipush (-5), 2) := by decide +kernel
theorem dX7_nextPlate_50 : decode cX7_nextPlate 50 = .ok (.ireturn, 1) := by decide +kernel
theorem dX7_put_0 : decode cX7_put 0 = .ok (.iconst 0, 1) := by decide +kernel
theorem dX7_put_1 : decode cX7_put 1 = .ok (.istore_n 3, 1) := by decide +kernel
theorem dX7_put_2 : decode cX7_put 2 = .ok (.iconst 1, 1) := by decide +kernel
theorem dX7_put_3 : decode cX7_put 3 = .ok (.istore 4, 2) := by decide +kernel
theorem dX7_put_5 : decode cX7_put 5 = .ok (.lload_n 1, 1) := by decide +kernel
theorem dX7_put_6 : decode cX7_put 6 = .ok (.lstore 5, 2) := by decide +kernel
theorem dX7_put_8 : decode cX7_put 8 = .ok (.iload_n 3, 1) := by decide +kernel
theorem dX7_put_9 : decode cX7_put 9 = .ok (.bipush 8, 2) := by decide +kernel
theorem dX7_put_11 : decode cX7_put 11 = .ok (.if_icmp .ge 57, 3) := by decide +kernel
theorem dX7_put_14 : decode cX7_put 14 = .ok (.lload 5, 2) := by decide +kernel
theorem dX7_put_16 : decode cX7_put 16 = .ok (.ldc2_w 195, 3) := by decide +kernel
theorem dX7_put_19 : decode cX7_put 19 = .ok (.land, 1) := by decide +kernel
theorem dX7_put_20 : decode cX7_put 20 = .ok (.lconst 0, 1) := by decide +kernel
theorem dX7_put_21 : decode cX7_put 21 = .ok (.lcmp, 1) := by decide +kernel
theorem dX7_put_22 : decode cX7_put 22 = .ok (.ifCond .eq 46, 3) := by decide +kernel
theorem dX7_put_25 : decode cX7_put 25 = .ok (.iload 4, 2) := by decide +kernel
theorem dX7_put_27 : decode cX7_put 27 = .ok (.ifCond .eq 25, 3) := by decide +kernel
theorem dX7_put_30 : decode cX7_put 30 = .ok (.lload 5, 2) := by decide +kernel
theorem dX7_put_32 : decode cX7_put 32 = .ok (.ldc2_w 195, 3) := by decide +kernel
theorem dX7_put_35 : decode cX7_put 35 = .ok (.land, 1) := by decide +kernel
theorem dX7_put_36 : decode cX7_put 36 = .ok (.ldc2_w 197, 3) := by decide +kernel
theorem dX7_put_39 : decode cX7_put 39 = .ok (.ldc2_w 199, 3) := by decide +kernel
theorem dX7_put_42 : decode cX7_put 42 = .ok (.invokestatic 35, 3) := by decide +kernel
theorem dX7_put_45 : decode cX7_put 45 = .ok (.ifCond .eq 7, 3) := by decide +kernel
theorem dX7_put_48 : decode cX7_put 48 = .ok (.iconst 1, 1) := by decide +kernel
theorem dX7_put_49 : decode cX7_put 49 = .ok (.goto 4, 3) := by decide +kernel
theorem dX7_put_52 : decode cX7_put 52 = .ok (.iconst 0, 1) := by decide +kernel
theorem dX7_put_53 : decode cX7_put 53 = .ok (.istore 4, 2) := by decide +kernel
theorem dX7_put_55 : decode cX7_put 55 = .ok (.lload 5, 2) := by decide +kernel
theorem dX7_put_57 : decode cX7_put 57 = .ok (.bipush 8, 2) := by decide +kernel
theorem dX7_put_59 : decode cX7_put 59 = .ok (.lushr, 1) := by decide +kernel
theorem dX7_put_60 : decode cX7_put 60 = .ok (.lstore 5, 2) := by decide +kernel
theorem dX7_put_62 : decode cX7_put 62 = .ok (.iinc 3 1, 3) := by decide +kernel
theorem dX7_put_65 : decode cX7_put 65 = .ok (.goto (-57), 3) := by decide +kernel
theorem dX7_put_68 : decode cX7_put 68 = .ok (.iload_n 3, 1) := by decide +kernel
theorem dX7_put_69 : decode cX7_put 69 = .ok (.ifCond .eq 15, 3) := by decide +kernel
theorem dX7_put_72 : decode cX7_put 72 = .ok (.lload 5, 2) := by decide +kernel
theorem dX7_put_74 : decode cX7_put 74 = .ok (.lconst 0, 1) := by decide +kernel
theorem dX7_put_75 : decode cX7_put 75 = .ok (.lcmp, 1) := by decide +kernel
theorem dX7_put_76 : decode cX7_put 76 = .ok (.ifCond .ne 8, 3) := by decide +kernel
theorem dX7_put_79 : decode cX7_put 79 = .ok (.iload 4, 2) := by decide +kernel
theorem dX7_put_81 : decode cX7_put 81 = .ok (.ifCond .ne 6, 3) := by decide +kernel
theorem dX7_put_84 : decode cX7_put 84 = .ok (.bipush (-2), 2) := by decide +kernel
theorem dX7_put_86 : decode cX7_put 86 = .ok (.ireturn, 1) := by decide +kernel
theorem dX7_put_87 : decode cX7_put 87 = .ok (.aload_n 0, 1) := by decide +kernel
theorem dX7_put_88 : decode cX7_put 88 = .ok (.getfield 183, 3) := by decide +kernel
theorem dX7_put_91 : decode cX7_put 91 = .ok (.iload_n 3, 1) := by decide +kernel
theorem dX7_put_92 : decode cX7_put 92 = .ok (.iadd, 1) := by decide +kernel
theorem dX7_put_93 : decode cX7_put 93 = .ok (.bipush 80, 2) := by decide +kernel
theorem dX7_put_95 : decode cX7_put 95 = .ok (.if_icmp .le 6, 3) := by decide +kernel
theorem dX7_put_98 : decode cX7_put 98 = .ok (.bipush (-4), 2) := by decide +kernel
theorem dX7_put_100 : decode cX7_put 100 = .ok (.ireturn, 1) := by decide +kernel
theorem dX7_put_101 : decode cX7_put 101 = .ok (.iload_n 3, 1) := by decide +kernel
theorem dX7_put_102 : decode cX7_put 102 = .ok (.iconst 1, 1) := by decide +kernel
theorem dX7_put_103 : decode cX7_put 103 = .ok (.isub, 1) := by decide +kernel
theorem dX7_put_104 : decode cX7_put 104 = .ok (.istore 7, 2) := by decide +kernel
theorem dX7_put_106 : decode cX7_put 106 = .ok (.iload 7, 2) := by decide +kernel
theorem dX7_put_108 : decode cX7_put 108 = .ok (.ifCond .lt 40, 3) := by decide +kernel
theorem dX7_put_111 : decode cX7_put 111 = .ok (.aload_n 0, 1) := by decide +kernel
theorem dX7_put_112 : decode cX7_put 112 = .ok (.getfield 28, 3) := by decide +kernel
theorem dX7_put_115 : decode cX7_put 115 = .ok (.aload_n 0, 1) := by decide +kernel
theorem dX7_put_116 : decode cX7_put 116 = .ok (.getfield 183, 3) := by decide +kernel
theorem dX7_put_119 : decode cX7_put 119 = .ok (.lload_n 1, 1) := by decide +kernel
theorem dX7_put_120 : decode cX7_put 120 = .ok (.bipush 8, 2) := by decide +kernel
theorem dX7_put_122 : decode cX7_put 122 = .ok (.iload 7, 2) := by decide +kernel
theorem dX7_put_124 : decode cX7_put 124 = .ok (.imul, 1) := by decide +kernel
theorem dX7_put_125 : decode cX7_put 125 = .ok (.lushr, 1) := by decide +kernel
theorem dX7_put_126 : decode cX7_put 126 = .ok (.ldc2_w 195, 3) := by decide +kernel
theorem dX7_put_129 : decode cX7_put 129 = .ok (.land, 1) := by decide +kernel
theorem dX7_put_130 : decode cX7_put 130 = .ok (.l2i, 1) := by decide +kernel
theorem dX7_put_131 : decode cX7_put 131 = .ok (.iastore, 1) := by decide +kernel
theorem dX7_put_132 : decode cX7_put 132 = .ok (.aload_n 0, 1) := by decide +kernel
theorem dX7_put_133 : decode cX7_put 133 = .ok (.dup, 1) := by decide +kernel
theorem dX7_put_134 : decode cX7_put 134 = .ok (.getfield 183, 3) := by decide +kernel
theorem dX7_put_137 : decode cX7_put 137 = .ok (.iconst 1, 1) := by decide +kernel
theorem dX7_put_138 : decode cX7_put 138 = .ok (.iadd, 1) := by decide +kernel
theorem dX7_put_139 : decode cX7_put 139 = .ok (.putfield 183, 3) := by decide +kernel
theorem dX7_put_142 : decode cX7_put 142 = .ok (.iinc 7 (-1), 3) := by decide +kernel
theorem dX7_put_145 : decode cX7_put 145 = .ok (.goto (-39), 3) := by decide +kernel
theorem dX7_put_148 : decode cX7_put 148 = .ok (.aload_n 0, 1) := by decide +kernel
theorem dX7_put_149 : decode cX7_put 149 = .ok (.getfield 183, 3) := by decide +kernel
theorem dX7_put_152 : decode cX7_put 152 = .ok (.ireturn, 1) := by decide +kernel
theorem dX7_wipe_0 : decode cX7_wipe 0 = .ok (.aload_n 0, 1) := by decide +kernel
theorem dX7_wipe_1 : decode cX7_wipe 1 = .ok (.getfield 183, 3) := by decide +kernel
theorem dX7_wipe_4 : decode cX7_wipe 4 = .ok (.istore_n 1, 1) := by decide +kernel
theorem dX7_wipe_5 : decode cX7_wipe 5 = .ok (.aload_n 0, 1) := by decide +kernel
theorem dX7_wipe_6 : decode cX7_wipe 6 = .ok (.iconst 0, 1) := by decide +kernel
theorem dX7_wipe_7 : decode cX7_wipe 7 = .ok (.putfield 183, 3) := by decide +kernel
theorem dX7_wipe_10 : decode cX7_wipe 10 = .ok (.iload_n 1, 1) := by decide +kernel
theorem dX7_wipe_11 : decode cX7_wipe 11 = .ok (.ireturn, 1) := by decide +kernel
theorem dX7_isHere_0 : decode cX7_isHere 0 = .ok (.aload_n 0, 1) := by decide +kernel
theorem dX7_isHere_1 : decode cX7_isHere 1 = .ok (.getfield 201, 3) := by decide +kernel
theorem dX7_isHere_4 : decode cX7_isHere 4 = .ok (.aload_n 0, 1) := by decide +kernel
theorem dX7_isHere_5 : decode cX7_isHere 5 = .ok (.getfield 183, 3) := by decide +kernel
theorem dX7_isHere_8 : decode cX7_isHere 8 = .ok (.if_icmp .ge 27, 3) := by decide +kernel
theorem dX7_isHere_11 : decode cX7_isHere 11 = .ok (.aload_n 0, 1) := by decide +kernel
theorem dX7_isHere_12 : decode cX7_isHere 12 = .ok (.getfield 28, 3) := by decide +kernel
theorem dX7_isHere_15 : decode cX7_isHere 15 = .ok (.aload_n 0, 1) := by decide +kernel
theorem dX7_isHere_16 : decode cX7_isHere 16 = .ok (.getfield 201, 3) := by decide +kernel
theorem dX7_isHere_19 : decode cX7_isHere 19 = .ok (.iaload, 1) := by decide +kernel
theorem dX7_isHere_20 : decode cX7_isHere 20 = .ok (.i2l, 1) := by decide +kernel
theorem dX7_isHere_21 : decode cX7_isHere 21 = .ok (.iload_n 1, 1) := by decide +kernel
theorem dX7_isHere_22 : decode cX7_isHere 22 = .ok (.i2l, 1) := by decide +kernel
theorem dX7_isHere_23 : decode cX7_isHere 23 = .ok (.iload_n 2, 1) := by decide +kernel
theorem dX7_isHere_24 : decode cX7_isHere 24 = .ok (.i2l, 1) := by decide +kernel
theorem dX7_isHere_25 : decode cX7_isHere 25 = .ok (.invokestatic 35, 3) := by decide +kernel
theorem dX7_isHere_28 : decode cX7_isHere 28 = .ok (.ifCond .eq 7, 3) := by decide +kernel
theorem dX7_isHere_31 : decode cX7_isHere 31 = .ok (.iconst 1, 1) := by decide +kernel
theorem dX7_isHere_32 : decode cX7_isHere 32 = .ok (.goto 4, 3) := by decide +kernel
theorem dX7_isHere_35 : decode cX7_isHere 35 = .ok (.iconst 0, 1) := by decide +kernel
theorem dX7_isHere_36 : decode cX7_isHere 36 = .ok (.ireturn, 1) := by decide +kernel
theorem dX7_takesOne_0 : decode cX7_takesOne 0 = .ok (.aload_n 0, 1) := by decide +kernel
theorem dX7_takesOne_1 : decode cX7_takesOne 1 = .ok (.iload_n 1, 1) := by decide +kernel
theorem dX7_takesOne_2 : decode cX7_takesOne 2 = .ok (.iload_n 1, 1) := by decide +kernel
theorem dX7_takesOne_3 : decode cX7_takesOne 3 = .ok (.invokevirtual 204, 3) := by decide +kernel
theorem dX7_takesOne_6 : decode cX7_takesOne 6 = .ok (.istore_n 2, 1) := by decide +kernel
theorem dX7_takesOne_7 : decode cX7_takesOne 7 = .ok (.aload_n 0, 1) := by decide +kernel
theorem dX7_takesOne_8 : decode cX7_takesOne 8 = .ok (.dup, 1) := by decide +kernel
theorem dX7_takesOne_9 : decode cX7_takesOne 9 = .ok (.getfield 201, 3) := by decide +kernel
theorem dX7_takesOne_12 : decode cX7_takesOne 12 = .ok (.iload_n 2, 1) := by decide +kernel
theorem dX7_takesOne_13 : decode cX7_takesOne 13 = .ok (.ifCond .eq 7, 3) := by decide +kernel
theorem dX7_takesOne_16 : decode cX7_takesOne 16 = .ok (.iconst 1, 1) := by decide +kernel
theorem dX7_takesOne_17 : decode cX7_takesOne 17 = .ok (.goto 4, 3) := by decide +kernel
theorem dX7_takesOne_20 : decode cX7_takesOne 20 = .ok (.iconst 0, 1) := by decide +kernel
theorem dX7_takesOne_21 : decode cX7_takesOne 21 = .ok (.iadd, 1) := by decide +kernel
theorem dX7_takesOne_22 : decode cX7_takesOne 22 = .ok (.putfield 201, 3) := by decide +kernel
theorem dX7_takesOne_25 : decode cX7_takesOne 25 = .ok (.iload_n 2, 1) := by decide +kernel
theorem dX7_takesOne_26 : decode cX7_takesOne 26 = .ok (.ireturn, 1) := by decide +kernel
theorem dX7_readsDigit_0 : decode cX7_readsDigit 0 = .ok (.aload_n 0, 1) := by decide +kernel
theorem dX7_readsDigit_1 : decode cX7_readsDigit 1 = .ok (.bipush 48, 2) := by decide +kernel
theorem dX7_readsDigit_3 : decode cX7_readsDigit 3 = .ok (.bipush 48, 2) := by decide +kernel
theorem dX7_readsDigit_5 : decode cX7_readsDigit 5 = .ok (.iload_n 1, 1) := by decide +kernel
theorem dX7_readsDigit_6 : decode cX7_readsDigit 6 = .ok (.iadd, 1) := by decide +kernel
theorem dX7_readsDigit_7 : decode cX7_readsDigit 7 = .ok (.invokevirtual 204, 3) := by decide +kernel
theorem dX7_readsDigit_10 : decode cX7_readsDigit 10 = .ok (.istore_n 2, 1) := by decide +kernel
theorem dX7_readsDigit_11 : decode cX7_readsDigit 11 = .ok (.aload_n 0, 1) := by decide +kernel
theorem dX7_readsDigit_12 : decode cX7_readsDigit 12 = .ok (.iload_n 2, 1) := by decide +kernel
theorem dX7_readsDigit_13 : decode cX7_readsDigit 13 = .ok (.ifCond .eq 18, 3) := by decide +kernel
theorem dX7_readsDigit_16 : decode cX7_readsDigit 16 = .ok (.aload_n 0, 1) := by decide +kernel
theorem dX7_readsDigit_17 : decode cX7_readsDigit 17 = .ok (.getfield 28, 3) := by decide +kernel
theorem dX7_readsDigit_20 : decode cX7_readsDigit 20 = .ok (.aload_n 0, 1) := by decide +kernel
theorem dX7_readsDigit_21 : decode cX7_readsDigit 21 = .ok (.getfield 201, 3) := by decide +kernel
theorem dX7_readsDigit_24 : decode cX7_readsDigit 24 = .ok (.iaload, 1) := by decide +kernel
theorem dX7_readsDigit_25 : decode cX7_readsDigit 25 = .ok (.bipush 48, 2) := by decide +kernel
theorem dX7_readsDigit_27 : decode cX7_readsDigit 27 = .ok (.isub, 1) := by decide +kernel
theorem dX7_readsDigit_28 : decode cX7_readsDigit 28 = .ok (.goto 4, 3) := by decide +kernel
theorem dX7_readsDigit_31 : decode cX7_readsDigit 31 = .ok (.iconst 0, 1) := by decide +kernel
theorem dX7_readsDigit_32 : decode cX7_readsDigit 32 = .ok (.putfield 207, 3) := by decide +kernel
theorem dX7_readsDigit_35 : decode cX7_readsDigit 35 = .ok (.aload_n 0, 1) := by decide +kernel
theorem dX7_readsDigit_36 : decode cX7_readsDigit 36 = .ok (.dup, 1) := by decide +kernel
theorem dX7_readsDigit_37 : decode cX7_readsDigit 37 = .ok (.getfield 201, 3) := by decide +kernel
theorem dX7_readsDigit_40 : decode cX7_readsDigit 40 = .ok (.iload_n 2, 1) := by decide +kernel
theorem dX7_readsDigit_41 : decode cX7_readsDigit 41 = .ok (.ifCond .eq 7, 3) := by decide +kernel
theorem dX7_readsDigit_44 : decode cX7_readsDigit 44 = .ok (.iconst 1, 1) := by decide +kernel
theorem dX7_readsDigit_45 : decode cX7_readsDigit 45 = .ok (.goto 4, 3) := by decide +kernel
theorem dX7_readsDigit_48 : decode cX7_readsDigit 48 = .ok (.iconst 0, 1) := by decide +kernel
theorem dX7_readsDigit_49 : decode cX7_readsDigit 49 = .ok (.iadd, 1) := by decide +kernel
theorem dX7_readsDigit_50 : decode cX7_readsDigit 50 = .ok (.putfield 201, 3) := by decide +kernel
theorem dX7_readsDigit_53 : decode cX7_readsDigit 53 = .ok (.iload_n 2, 1) := by decide +kernel
theorem dX7_readsDigit_54 : decode cX7_readsDigit 54 = .ok (.ireturn, 1) := by decide +kernel
theorem dX7_readsNumber_0 : decode cX7_readsNumber 0 = .ok (.aload_n 0, 1) := by decide +kernel
theorem dX7_readsNumber_1 : decode cX7_readsNumber 1 = .ok (.bipush 48, 2) := by decide +kernel
theorem dX7_readsNumber_3 : decode cX7_readsNumber 3 = .ok (.bipush 57, 2) := by decide +kernel
theorem dX7_readsNumber_5 : decode cX7_readsNumber 5 = .ok (.invokevirtual 204, 3) := by decide +kernel
theorem dX7_readsNumber_8 : decode cX7_readsNumber 8 = .ok (.ifCond .ne 5, 3) := by decide +kernel
theorem dX7_readsNumber_11 : decode cX7_readsNumber 11 = .ok (.iconst 0, 1) := by decide +kernel
theorem dX7_readsNumber_12 : decode cX7_readsNumber 12 = .ok (.ireturn, 1) := by decide +kernel
theorem dX7_readsNumber_13 : decode cX7_readsNumber 13 = .ok (.aload_n 0, 1) := by decide +kernel
theorem dX7_readsNumber_14 : decode cX7_readsNumber 14 = .ok (.aload_n 0, 1) := by decide +kernel
theorem dX7_readsNumber_15 : decode cX7_readsNumber 15 = .ok (.getfield 28, 3) := by decide +kernel
theorem dX7_readsNumber_18 : decode cX7_readsNumber 18 = .ok (.aload_n 0, 1) := by decide +kernel
theorem dX7_readsNumber_19 : decode cX7_readsNumber 19 = .ok (.getfield 201, 3) := by decide +kernel
theorem dX7_readsNumber_22 : decode cX7_readsNumber 22 = .ok (.iaload, 1) := by decide +kernel
theorem dX7_readsNumber_23 : decode cX7_readsNumber 23 = .ok (.bipush 48, 2) := by decide +kernel
theorem dX7_readsNumber_25 : decode cX7_readsNumber 25 = .ok (.isub, 1) := by decide +kernel
theorem dX7_readsNumber_26 : decode cX7_readsNumber 26 = .ok (.putfield 207, 3) := by decide +kernel
theorem dX7_readsNumber_29 : decode cX7_readsNumber 29 = .ok (.aload_n 0, 1) := by decide +kernel
theorem dX7_readsNumber_30 : decode cX7_readsNumber 30 = .ok (.dup, 1) := by decide +kernel
theorem dX7_readsNumber_31 : decode cX7_readsNumber 31 = .ok (.getfield 201, 3) := by decide +kernel
theorem dX7_readsNumber_34 : decode cX7_readsNumber 34 = .ok (.iconst 1, 1) := by decide +kernel
theorem dX7_readsNumber_35 : decode cX7_readsNumber 35 = .ok (.iadd, 1) := by decide +kernel
theorem dX7_readsNumber_36 : decode cX7_readsNumber 36 = .ok (.putfield 201, 3) := by decide +kernel
theorem dX7_readsNumber_39 : decode cX7_readsNumber 39 = .ok (.aload_n 0, 1) := by decide +kernel
theorem dX7_readsNumber_40 : decode cX7_readsNumber 40 = .ok (.getfield 207, 3) := by decide +kernel
theorem dX7_readsNumber_43 : decode cX7_readsNumber 43 = .ok (.ifCond .le 77, 3) := by decide +kernel
theorem dX7_readsNumber_46 : decode cX7_readsNumber 46 = .ok (.aload_n 0, 1) := by decide +kernel
theorem dX7_readsNumber_47 : decode cX7_readsNumber 47 = .ok (.bipush 48, 2) := by decide +kernel
theorem dX7_readsNumber_49 : decode cX7_readsNumber 49 = .ok (.bipush 57, 2) := by decide +kernel
theorem dX7_readsNumber_51 : decode cX7_readsNumber 51 = .ok (.invokevirtual 204, 3) := by decide +kernel
theorem dX7_readsNumber_54 : decode cX7_readsNumber 54 = .ok (.ifCond .eq 66, 3) := by decide +kernel
theorem dX7_readsNumber_57 : decode cX7_readsNumber 57 = .ok (.bipush 10, 2) := by decide +kernel
theorem dX7_readsNumber_59 : decode cX7_readsNumber 59 = .ok (.aload_n 0, 1) := by decide +kernel
theorem dX7_readsNumber_60 : decode cX7_readsNumber 60 = .ok (.getfield 207, 3) := by decide +kernel
theorem dX7_readsNumber_63 : decode cX7_readsNumber 63 = .ok (.imul, 1) := by decide +kernel
theorem dX7_readsNumber_64 : decode cX7_readsNumber 64 = .ok (.aload_n 0, 1) := by decide +kernel
theorem dX7_readsNumber_65 : decode cX7_readsNumber 65 = .ok (.getfield 28, 3) := by decide +kernel
theorem dX7_readsNumber_68 : decode cX7_readsNumber 68 = .ok (.aload_n 0, 1) := by decide +kernel
theorem dX7_readsNumber_69 : decode cX7_readsNumber 69 = .ok (.getfield 201, 3) := by decide +kernel
theorem dX7_readsNumber_72 : decode cX7_readsNumber 72 = .ok (.iaload, 1) := by decide +kernel
theorem dX7_readsNumber_73 : decode cX7_readsNumber 73 = .ok (.iadd, 1) := by decide +kernel
theorem dX7_readsNumber_74 : decode cX7_readsNumber 74 = .ok (.bipush 48, 2) := by decide +kernel
theorem dX7_readsNumber_76 : decode cX7_readsNumber 76 = .ok (.isub, 1) := by decide +kernel
theorem dX7_readsNumber_77 : decode cX7_readsNumber 77 = .ok (.sipush 999, 3) := by decide +kernel
theorem dX7_readsNumber_80 : decode cX7_readsNumber 80 = .ok (.if_icmp .gt 40, 3) := by decide +kernel
theorem dX7_readsNumber_83 : decode cX7_readsNumber 83 = .ok (.aload_n 0, 1) := by decide +kernel
theorem dX7_readsNumber_84 : decode cX7_readsNumber 84 = .ok (.bipush 10, 2) := by decide +kernel
theorem dX7_readsNumber_86 : decode cX7_readsNumber 86 = .ok (.aload_n 0, 1) := by decide +kernel
theorem dX7_readsNumber_87 : decode cX7_readsNumber 87 = .ok (.getfield 207, 3) := by decide +kernel
theorem dX7_readsNumber_90 : decode cX7_readsNumber 90 = .ok (.imul, 1) := by decide +kernel
theorem dX7_readsNumber_91 : decode cX7_readsNumber 91 = .ok (.aload_n 0, 1) := by decide +kernel
theorem dX7_readsNumber_92 : decode cX7_readsNumber 92 = .ok (.getfield 28, 3) := by decide +kernel
theorem dX7_readsNumber_95 : decode cX7_readsNumber 95 = .ok (.aload_n 0, 1) := by decide +kernel
theorem dX7_readsNumber_96 : decode cX7_readsNumber 96 = .ok (.getfield 201, 3) := by decide +kernel
theorem dX7_readsNumber_99 : decode cX7_readsNumber 99 = .ok (.iaload, 1) := by decide +kernel
theorem dX7_readsNumber_100 : decode cX7_readsNumber 100 = .ok (.iadd, 1) := by decide +kernel
theorem dX7_readsNumber_101 : decode cX7_readsNumber 101 = .ok (.bipush 48, 2) := by decide +kernel
theorem dX7_readsNumber_103 : decode cX7_readsNumber 103 = .ok (.isub, 1) := by decide +kernel
theorem dX7_readsNumber_104 : decode cX7_readsNumber 104 = .ok (.putfield 207, 3) := by decide +kernel
theorem dX7_readsNumber_107 : decode cX7_readsNumber 107 = .ok (.aload_n 0, 1) := by decide +kernel
theorem dX7_readsNumber_108 : decode cX7_readsNumber 108 = .ok (.dup, 1) := by decide +kernel
theorem dX7_readsNumber_109 : decode cX7_readsNumber 109 = .ok (.getfield 201, 3) := by decide +kernel
theorem dX7_readsNumber_112 : decode cX7_readsNumber 112 = .ok (.iconst 1, 1) := by decide +kernel
theorem dX7_readsNumber_113 : decode cX7_readsNumber 113 = .ok (.iadd, 1) := by decide +kernel
theorem dX7_readsNumber_114 : decode cX7_readsNumber 114 = .ok (.putfield 201, 3) := by decide +kernel
theorem dX7_readsNumber_117 : decode cX7_readsNumber 117 = .ok (.goto (-78), 3) := by decide +kernel
theorem dX7_readsNumber_120 : decode cX7_readsNumber 120 = .ok (.iconst 1, 1) := by decide +kernel
theorem dX7_readsNumber_121 : decode cX7_readsNumber 121 = .ok (.ireturn, 1) := by decide +kernel
theorem dX7_readsPiece_0 : decode cX7_readsPiece 0 = .ok (.aload_n 0, 1) := by decide +kernel
theorem dX7_readsPiece_1 : decode cX7_readsPiece 1 = .ok (.iconst 4, 1) := by decide +kernel
theorem dX7_readsPiece_2 : decode cX7_readsPiece 2 = .ok (.invokevirtual 210, 3) := by decide +kernel
theorem dX7_readsPiece_5 : decode cX7_readsPiece 5 = .ok (.ifCond .ne 5, 3) := by decide +kernel
theorem dX7_readsPiece_8 : decode cX7_readsPiece 8 = .ok (.iconst 0, 1) := by decide +kernel
theorem dX7_readsPiece_9 : decode cX7_readsPiece 9 = .ok (.ireturn, 1) := by decide +kernel
theorem dX7_readsPiece_10 : decode cX7_readsPiece 10 = .ok (.aload_n 0, 1) := by decide +kernel
theorem dX7_readsPiece_11 : decode cX7_readsPiece 11 = .ok (.getfield 207, 3) := by decide +kernel
theorem dX7_readsPiece_14 : decode cX7_readsPiece 14 = .ok (.istore_n 1, 1) := by decide +kernel
theorem dX7_readsPiece_15 : decode cX7_readsPiece 15 = .ok (.aload_n 0, 1) := by decide +kernel
theorem dX7_readsPiece_16 : decode cX7_readsPiece 16 = .ok (.bipush 58, 2) := by decide +kernel
theorem dX7_readsPiece_18 : decode cX7_readsPiece 18 = .ok (.invokevirtual 213, 3) := by decide +kernel
theorem dX7_readsPiece_21 : decode cX7_readsPiece 21 = .ok (.ifCond .eq 10, 3) := by decide +kernel
theorem dX7_readsPiece_24 : decode cX7_readsPiece 24 = .ok (.aload_n 0, 1) := by decide +kernel
theorem dX7_readsPiece_25 : decode cX7_readsPiece 25 = .ok (.invokevirtual 216, 3) := by decide +kernel
theorem dX7_readsPiece_28 : decode cX7_readsPiece 28 = .ok (.ifCond .ne 5, 3) := by decide +kernel
theorem dX7_readsPiece_31 : decode cX7_readsPiece 31 = .ok (.iconst 0, 1) := by decide +kernel
theorem dX7_readsPiece_32 : decode cX7_readsPiece 32 = .ok (.ireturn, 1) := by decide +kernel
theorem dX7_readsPiece_33 : decode cX7_readsPiece 33 = .ok (.aload_n 0, 1) := by decide +kernel
theorem dX7_readsPiece_34 : decode cX7_readsPiece 34 = .ok (.getfield 207, 3) := by decide +kernel
theorem dX7_readsPiece_37 : decode cX7_readsPiece 37 = .ok (.istore_n 2, 1) := by decide +kernel
theorem dX7_readsPiece_38 : decode cX7_readsPiece 38 = .ok (.aload_n 0, 1) := by decide +kernel
theorem dX7_readsPiece_39 : decode cX7_readsPiece 39 = .ok (.bipush 33, 2) := by decide +kernel
theorem dX7_readsPiece_41 : decode cX7_readsPiece 41 = .ok (.invokevirtual 213, 3) := by decide +kernel
theorem dX7_readsPiece_44 : decode cX7_readsPiece 44 = .ok (.ifCond .eq 12, 3) := by decide +kernel
theorem dX7_readsPiece_47 : decode cX7_readsPiece 47 = .ok (.aload_n 0, 1) := by decide +kernel
theorem dX7_readsPiece_48 : decode cX7_readsPiece 48 = .ok (.bipush 9, 2) := by decide +kernel
theorem dX7_readsPiece_50 : decode cX7_readsPiece 50 = .ok (.invokevirtual 210, 3) := by decide +kernel
theorem dX7_readsPiece_53 : decode cX7_readsPiece 53 = .ok (.ifCond .ne 5, 3) := by decide +kernel
theorem dX7_readsPiece_56 : decode cX7_readsPiece 56 = .ok (.iconst 0, 1) := by decide +kernel
theorem dX7_readsPiece_57 : decode cX7_readsPiece 57 = .ok (.ireturn, 1) := by decide +kernel
theorem dX7_readsPiece_58 : decode cX7_readsPiece 58 = .ok (.aload_n 0, 1) := by decide +kernel
theorem dX7_readsPiece_59 : decode cX7_readsPiece 59 = .ok (.getfield 207, 3) := by decide +kernel
theorem dX7_readsPiece_62 : decode cX7_readsPiece 62 = .ok (.istore_n 3, 1) := by decide +kernel
theorem dX7_readsPiece_63 : decode cX7_readsPiece 63 = .ok (.aload_n 0, 1) := by decide +kernel
theorem dX7_readsPiece_64 : decode cX7_readsPiece 64 = .ok (.bipush 76, 2) := by decide +kernel
theorem dX7_readsPiece_66 : decode cX7_readsPiece 66 = .ok (.invokevirtual 213, 3) := by decide +kernel
theorem dX7_readsPiece_69 : decode cX7_readsPiece 69 = .ok (.ifCond .eq 7, 3) := by decide +kernel
theorem dX7_readsPiece_72 : decode cX7_readsPiece 72 = .ok (.iconst 1, 1) := by decide +kernel
theorem dX7_readsPiece_73 : decode cX7_readsPiece 73 = .ok (.goto 4, 3) := by decide +kernel
theorem dX7_readsPiece_76 : decode cX7_readsPiece 76 = .ok (.iconst 0, 1) := by decide +kernel
theorem dX7_readsPiece_77 : decode cX7_readsPiece 77 = .ok (.istore 4, 2) := by decide +kernel
theorem dX7_readsPiece_79 : decode cX7_readsPiece 79 = .ok (.aload_n 0, 1) := by decide +kernel
theorem dX7_readsPiece_80 : decode cX7_readsPiece 80 = .ok (.aload_n 0, 1) := by decide +kernel
theorem dX7_readsPiece_81 : decode cX7_readsPiece 81 = .ok (.getfield 219, 3) := by decide +kernel
theorem dX7_readsPiece_84 : decode cX7_readsPiece 84 = .ok (.ifCond .eq 15, 3) := by decide +kernel
theorem dX7_readsPiece_87 : decode cX7_readsPiece 87 = .ok (.aload_n 0, 1) := by decide +kernel
theorem dX7_readsPiece_88 : decode cX7_readsPiece 88 = .ok (.iload_n 1, 1) := by decide +kernel
theorem dX7_readsPiece_89 : decode cX7_readsPiece 89 = .ok (.iload_n 2, 1) := by decide +kernel
theorem dX7_readsPiece_90 : decode cX7_readsPiece 90 = .ok (.iload_n 3, 1) := by decide +kernel
theorem dX7_readsPiece_91 : decode cX7_readsPiece 91 = .ok (.iload 4, 2) := by decide +kernel
theorem dX7_readsPiece_93 : decode cX7_readsPiece 93 = .ok (.invokevirtual 146, 3) := by decide +kernel
theorem dX7_readsPiece_96 : decode cX7_readsPiece 96 = .ok (.goto 4, 3) := by decide +kernel
theorem dX7_readsPiece_99 : decode cX7_readsPiece 99 = .ok (.iconst 0, 1) := by decide +kernel
theorem dX7_readsPiece_100 : decode cX7_readsPiece 100 = .ok (.putfield 223, 3) := by decide +kernel
theorem dX7_readsPiece_103 : decode cX7_readsPiece 103 = .ok (.iconst 1, 1) := by decide +kernel
theorem dX7_readsPiece_104 : decode cX7_readsPiece 104 = .ok (.ireturn, 1) := by decide +kernel
theorem dX7_readsOrder_0 : decode cX7_readsOrder 0 = .ok (.aload_n 0, 1) := by decide +kernel
theorem dX7_readsOrder_1 : decode cX7_readsOrder 1 = .ok (.bipush 43, 2) := by decide +kernel
theorem dX7_readsOrder_3 : decode cX7_readsOrder 3 = .ok (.invokevirtual 213, 3) := by decide +kernel
theorem dX7_readsOrder_6 : decode cX7_readsOrder 6 = .ok (.ifCond .eq 8, 3) := by decide +kernel
theorem dX7_readsOrder_9 : decode cX7_readsOrder 9 = .ok (.aload_n 0, 1) := by decide +kernel
theorem dX7_readsOrder_10 : decode cX7_readsOrder 10 = .ok (.invokevirtual 226, 3) := by decide +kernel
theorem dX7_readsOrder_13 : decode cX7_readsOrder 13 = .ok (.ireturn, 1) := by decide +kernel
theorem dX7_readsOrder_14 : decode cX7_readsOrder 14 = .ok (.aload_n 0, 1) := by decide +kernel
theorem dX7_readsOrder_15 : decode cX7_readsOrder 15 = .ok (.getfield 201, 3) := by decide +kernel
theorem dX7_readsOrder_18 : decode cX7_readsOrder 18 = .ok (.aload_n 0, 1) := by decide +kernel
theorem dX7_readsOrder_19 : decode cX7_readsOrder 19 = .ok (.getfield 183, 3) := by decide +kernel
theorem dX7_readsOrder_22 : decode cX7_readsOrder 22 = .ok (.if_icmp .ge 15, 3) := by decide +kernel
theorem dX7_readsOrder_25 : decode cX7_readsOrder 25 = .ok (.aload_n 0, 1) := by decide +kernel
theorem dX7_readsOrder_26 : decode cX7_readsOrder 26 = .ok (.getfield 28, 3) := by decide +kernel
theorem dX7_readsOrder_29 : decode cX7_readsOrder 29 = .ok (.aload_n 0, 1) := by decide +kernel
theorem dX7_readsOrder_30 : decode cX7_readsOrder 30 = .ok (.getfield 201, 3) := by decide +kernel
theorem dX7_readsOrder_33 : decode cX7_readsOrder 33 = .ok (.iaload, 1) := by decide +kernel
theorem dX7_readsOrder_34 : decode cX7_readsOrder 34 = .ok (.goto 4, 3) := by decide +kernel
theorem dX7_readsOrder_37 : decode cX7_readsOrder 37 = .ok (.iconst 0, 1) := by decide +kernel
theorem dX7_readsOrder_38 : decode cX7_readsOrder 38 = .ok (.istore_n 1, 1) := by decide +kernel
theorem dX7_readsOrder_39 : decode cX7_readsOrder 39 = .ok (.iload_n 1, 1) := by decide +kernel
theorem dX7_readsOrder_40 : decode cX7_readsOrder 40 = .ok (.bipush 112, 2) := by decide +kernel
theorem dX7_readsOrder_42 : decode cX7_readsOrder 42 = .ok (.if_icmp .eq 23, 3) := by decide +kernel
theorem dX7_readsOrder_45 : decode cX7_readsOrder 45 = .ok (.iload_n 1, 1) := by decide +kernel
theorem dX7_readsOrder_46 : decode cX7_readsOrder 46 = .ok (.bipush 104, 2) := by decide +kernel
theorem dX7_readsOrder_48 : decode cX7_readsOrder 48 = .ok (.if_icmp .eq 17, 3) := by decide +kernel
theorem dX7_readsOrder_51 : decode cX7_readsOrder 51 = .ok (.iload_n 1, 1) := by decide +kernel
theorem dX7_readsOrder_52 : decode cX7_readsOrder 52 = .ok (.bipush 107, 2) := by decide +kernel
theorem dX7_readsOrder_54 : decode cX7_readsOrder 54 = .ok (.if_icmp .eq 11, 3) := by decide +kernel
theorem dX7_readsOrder_57 : decode cX7_readsOrder 57 = .ok (.iload_n 1, 1) := by decide +kernel
theorem dX7_readsOrder_58 : decode cX7_readsOrder 58 = .ok (.bipush 116, 2) := by decide +kernel
theorem dX7_readsOrder_60 : decode cX7_readsOrder 60 = .ok (.if_icmp .eq 5, 3) := by decide +kernel
theorem dX7_readsOrder_63 : decode cX7_readsOrder 63 = .ok (.iconst 0, 1) := by decide +kernel
theorem dX7_readsOrder_64 : decode cX7_readsOrder 64 = .ok (.ireturn, 1) := by decide +kernel
theorem dX7_readsOrder_65 : decode cX7_readsOrder 65 = .ok (.aload_n 0, 1) := by decide +kernel
theorem dX7_readsOrder_66 : decode cX7_readsOrder 66 = .ok (.dup, 1) := by decide +kernel
theorem dX7_readsOrder_67 : decode cX7_readsOrder 67 = .ok (.getfield 201, 3) := by decide +kernel
theorem dX7_readsOrder_70 : decode cX7_readsOrder 70 = .ok (.iconst 1, 1) := by decide +kernel
theorem dX7_readsOrder_71 : decode cX7_readsOrder 71 = .ok (.iadd, 1) := by decide +kernel
theorem dX7_readsOrder_72 : decode cX7_readsOrder 72 = .ok (.putfield 201, 3) := by decide +kernel
theorem dX7_readsOrder_75 : decode cX7_readsOrder 75 = .ok (.aload_n 0, 1) := by decide +kernel
theorem dX7_readsOrder_76 : decode cX7_readsOrder 76 = .ok (.invokevirtual 216, 3) := by decide +kernel
theorem dX7_readsOrder_79 : decode cX7_readsOrder 79 = .ok (.ifCond .ne 5, 3) := by decide +kernel
theorem dX7_readsOrder_82 : decode cX7_readsOrder 82 = .ok (.iconst 0, 1) := by decide +kernel
theorem dX7_readsOrder_83 : decode cX7_readsOrder 83 = .ok (.ireturn, 1) := by decide +kernel
theorem dX7_readsOrder_84 : decode cX7_readsOrder 84 = .ok (.aload_n 0, 1) := by decide +kernel
theorem dX7_readsOrder_85 : decode cX7_readsOrder 85 = .ok (.getfield 219, 3) := by decide +kernel
theorem dX7_readsOrder_88 : decode cX7_readsOrder 88 = .ok (.ifCond .eq 66, 3) := by decide +kernel
theorem dX7_readsOrder_91 : decode cX7_readsOrder 91 = .ok (.aload_n 0, 1) := by decide +kernel
theorem dX7_readsOrder_92 : decode cX7_readsOrder 92 = .ok (.iload_n 1, 1) := by decide +kernel
theorem dX7_readsOrder_93 : decode cX7_readsOrder 93 = .ok (.bipush 112, 2) := by decide +kernel
theorem dX7_readsOrder_95 : decode cX7_readsOrder 95 = .ok (.if_icmp .ne 14, 3) := by decide +kernel
theorem dX7_readsOrder_98 : decode cX7_readsOrder 98 = .ok (.aload_n 0, 1) := by decide +kernel
theorem dX7_readsOrder_99 : decode cX7_readsOrder 99 = .ok (.aload_n 0, 1) := by decide +kernel
theorem dX7_readsOrder_100 : decode cX7_readsOrder 100 = .ok (.getfield 207, 3) := by decide +kernel
theorem dX7_readsOrder_103 : decode cX7_readsOrder 103 = .ok (.invokevirtual 150, 3) := by decide +kernel
theorem dX7_readsOrder_106 : decode cX7_readsOrder 106 = .ok (.goto 45, 3) := by decide +kernel
theorem dX7_readsOrder_109 : decode cX7_readsOrder 109 = .ok (.iload_n 1, 1) := by decide +kernel
theorem dX7_readsOrder_110 : decode cX7_readsOrder 110 = .ok (.bipush 104, 2) := by decide +kernel
theorem dX7_readsOrder_112 : decode cX7_readsOrder 112 = .ok (.if_icmp .ne 14, 3) := by decide +kernel
theorem dX7_readsOrder_115 : decode cX7_readsOrder 115 = .ok (.aload_n 0, 1) := by decide +kernel
theorem dX7_readsOrder_116 : decode cX7_readsOrder 116 = .ok (.aload_n 0, 1) := by decide +kernel
theorem dX7_readsOrder_117 : decode cX7_readsOrder 117 = .ok (.getfield 207, 3) := by decide +kernel
theorem dX7_readsOrder_120 : decode cX7_readsOrder 120 = .ok (.invokevirtual 153, 3) := by decide +kernel
theorem dX7_readsOrder_123 : decode cX7_readsOrder 123 = .ok (.goto 28, 3) := by decide +kernel
theorem dX7_readsOrder_126 : decode cX7_readsOrder 126 = .ok (.iload_n 1, 1) := by decide +kernel
theorem dX7_readsOrder_127 : decode cX7_readsOrder 127 = .ok (.bipush 107, 2) := by decide +kernel
theorem dX7_readsOrder_129 : decode cX7_readsOrder 129 = .ok (.if_icmp .ne 14, 3) := by decide +kernel
theorem dX7_readsOrder_132 : decode cX7_readsOrder 132 = .ok (.aload_n 0, 1) := by decide +kernel
theorem dX7_readsOrder_133 : decode cX7_readsOrder 133 = .ok (.aload_n 0, 1) := by decide +kernel
theorem dX7_readsOrder_134 : decode cX7_readsOrder 134 = .ok (.getfield 207, 3) := by decide +kernel
theorem dX7_readsOrder_137 : decode cX7_readsOrder 137 = .ok (.invokevirtual 156, 3) := by decide +kernel
theorem dX7_readsOrder_140 : decode cX7_readsOrder 140 = .ok (.goto 11, 3) := by decide +kernel
theorem dX7_readsOrder_143 : decode cX7_readsOrder 143 = .ok (.aload_n 0, 1) := by decide +kernel
theorem dX7_readsOrder_144 : decode cX7_readsOrder 144 = .ok (.aload_n 0, 1) := by decide +kernel
theorem dX7_readsOrder_145 : decode cX7_readsOrder 145 = .ok (.getfield 207, 3) := by decide +kernel
theorem dX7_readsOrder_148 : decode cX7_readsOrder 148 = .ok (.invokevirtual 159, 3) := by decide +kernel
theorem dX7_readsOrder_151 : decode cX7_readsOrder 151 = .ok (.putfield 223, 3) := by decide +kernel
theorem dX7_readsOrder_154 : decode cX7_readsOrder 154 = .ok (.iconst 1, 1) := by decide +kernel
theorem dX7_readsOrder_155 : decode cX7_readsOrder 155 = .ok (.ireturn, 1) := by decide +kernel
theorem dX7_fault_0 : decode cX7_fault 0 = .ok (.aload_n 0, 1) := by decide +kernel
theorem dX7_fault_1 : decode cX7_fault 1 = .ok (.iconst 0, 1) := by decide +kernel
theorem dX7_fault_2 : decode cX7_fault 2 = .ok (.putfield 201, 3) := by decide +kernel
theorem dX7_fault_5 : decode cX7_fault 5 = .ok (.aload_n 0, 1) := by decide +kernel
theorem dX7_fault_6 : decode cX7_fault 6 = .ok (.iconst 0, 1) := by decide +kernel
theorem dX7_fault_7 : decode cX7_fault 7 = .ok (.putfield 219, 3) := by decide +kernel
theorem dX7_fault_10 : decode cX7_fault 10 = .ok (.iconst 1, 1) := by decide +kernel
theorem dX7_fault_11 : decode cX7_fault 11 = .ok (.istore_n 1, 1) := by decide +kernel
theorem dX7_fault_12 : decode cX7_fault 12 = .ok (.iload_n 1, 1) := by decide +kernel
theorem dX7_fault_13 : decode cX7_fault 13 = .ok (.ifCond .eq 25, 3) := by decide +kernel
theorem dX7_fault_16 : decode cX7_fault 16 = .ok (.aload_n 0, 1) := by decide +kernel
theorem dX7_fault_17 : decode cX7_fault 17 = .ok (.invokevirtual 229, 3) := by decide +kernel
theorem dX7_fault_20 : decode cX7_fault 20 = .ok (.ifCond .ne 8, 3) := by decide +kernel
theorem dX7_fault_23 : decode cX7_fault 23 = .ok (.aload_n 0, 1) := by decide +kernel
theorem dX7_fault_24 : decode cX7_fault 24 = .ok (.getfield 201, 3) := by decide +kernel
theorem dX7_fault_27 : decode cX7_fault 27 = .ok (.ireturn, 1) := by decide +kernel
theorem dX7_fault_28 : decode cX7_fault 28 = .ok (.aload_n 0, 1) := by decide +kernel
theorem dX7_fault_29 : decode cX7_fault 29 = .ok (.bipush 59, 2) := by decide +kernel
theorem dX7_fault_31 : decode cX7_fault 31 = .ok (.invokevirtual 213, 3) := by decide +kernel
theorem dX7_fault_34 : decode cX7_fault 34 = .ok (.istore_n 1, 1) := by decide +kernel
theorem dX7_fault_35 : decode cX7_fault 35 = .ok (.goto (-23), 3) := by decide +kernel
theorem dX7_fault_38 : decode cX7_fault 38 = .ok (.aload_n 0, 1) := by decide +kernel
theorem dX7_fault_39 : decode cX7_fault 39 = .ok (.getfield 201, 3) := by decide +kernel
theorem dX7_fault_42 : decode cX7_fault 42 = .ok (.aload_n 0, 1) := by decide +kernel
theorem dX7_fault_43 : decode cX7_fault 43 = .ok (.getfield 183, 3) := by decide +kernel
theorem dX7_fault_46 : decode cX7_fault 46 = .ok (.if_icmp .ne 8, 3) := by decide +kernel
theorem dX7_fault_49 : decode cX7_fault 49 = .ok (.bipush (-6), 2) := by decide +kernel
theorem dX7_fault_51 : decode cX7_fault 51 = .ok (.goto 7, 3) := by decide +kernel
theorem dX7_fault_54 : decode cX7_fault 54 = .ok (.aload_n 0, 1) := by decide +kernel
theorem dX7_fault_55 : decode cX7_fault 55 = .ok (.getfield 201, 3) := by decide +kernel
theorem dX7_fault_58 : decode cX7_fault 58 = .ok (.ireturn, 1) := by decide +kernel
theorem dX7_carryOut_0 : decode cX7_carryOut 0 = .ok (.aload_n 0, 1) := by decide +kernel
theorem dX7_carryOut_1 : decode cX7_carryOut 1 = .ok (.invokevirtual 232, 3) := by decide +kernel
theorem dX7_carryOut_4 : decode cX7_carryOut 4 = .ok (.bipush (-6), 2) := by decide +kernel
theorem dX7_carryOut_6 : decode cX7_carryOut 6 = .ok (.if_icmp .eq 6, 3) := by decide +kernel
theorem dX7_carryOut_9 : decode cX7_carryOut 9 = .ok (.bipush (-3), 2) := by decide +kernel
theorem dX7_carryOut_11 : decode cX7_carryOut 11 = .ok (.ireturn, 1) := by decide +kernel
theorem dX7_carryOut_12 : decode cX7_carryOut 12 = .ok (.aload_n 0, 1) := by decide +kernel
theorem dX7_carryOut_13 : decode cX7_carryOut 13 = .ok (.getfield 7, 3) := by decide +kernel
theorem dX7_carryOut_16 : decode cX7_carryOut 16 = .ok (.aload_n 0, 1) := by decide +kernel
theorem dX7_carryOut_17 : decode cX7_carryOut 17 = .ok (.getfield 13, 3) := by decide +kernel
theorem dX7_carryOut_20 : decode cX7_carryOut 20 = .ok (.invokestatic 139, 3) := by decide +kernel
theorem dX7_carryOut_23 : decode cX7_carryOut 23 = .ok (.aload_n 0, 1) := by decide +kernel
theorem dX7_carryOut_24 : decode cX7_carryOut 24 = .ok (.iconst 0, 1) := by decide +kernel
theorem dX7_carryOut_25 : decode cX7_carryOut 25 = .ok (.putfield 201, 3) := by decide +kernel
theorem dX7_carryOut_28 : decode cX7_carryOut 28 = .ok (.aload_n 0, 1) := by decide +kernel
theorem dX7_carryOut_29 : decode cX7_carryOut 29 = .ok (.iconst 1, 1) := by decide +kernel
theorem dX7_carryOut_30 : decode cX7_carryOut 30 = .ok (.putfield 219, 3) := by decide +kernel
theorem dX7_carryOut_33 : decode cX7_carryOut 33 = .ok (.iconst 0, 1) := by decide +kernel
theorem dX7_carryOut_34 : decode cX7_carryOut 34 = .ok (.istore_n 1, 1) := by decide +kernel
theorem dX7_carryOut_35 : decode cX7_carryOut 35 = .ok (.iconst 1, 1) := by decide +kernel
theorem dX7_carryOut_36 : decode cX7_carryOut 36 = .ok (.istore_n 2, 1) := by decide +kernel
theorem dX7_carryOut_37 : decode cX7_carryOut 37 = .ok (.iload_n 2, 1) := by decide +kernel
theorem dX7_carryOut_38 : decode cX7_carryOut 38 = .ok (.ifCond .eq 48, 3) := by decide +kernel
theorem dX7_carryOut_41 : decode cX7_carryOut 41 = .ok (.aload_n 0, 1) := by decide +kernel
theorem dX7_carryOut_42 : decode cX7_carryOut 42 = .ok (.invokevirtual 229, 3) := by decide +kernel
theorem dX7_carryOut_45 : decode cX7_carryOut 45 = .ok (.istore_n 3, 1) := by decide +kernel
theorem dX7_carryOut_46 : decode cX7_carryOut 46 = .ok (.iload_n 1, 1) := by decide +kernel
theorem dX7_carryOut_47 : decode cX7_carryOut 47 = .ok (.aload_n 0, 1) := by decide +kernel
theorem dX7_carryOut_48 : decode cX7_carryOut 48 = .ok (.getfield 223, 3) := by decide +kernel
theorem dX7_carryOut_51 : decode cX7_carryOut 51 = .ok (.ifCond .ge 7, 3) := by decide +kernel
theorem dX7_carryOut_54 : decode cX7_carryOut 54 = .ok (.iconst 0, 1) := by decide +kernel
theorem dX7_carryOut_55 : decode cX7_carryOut 55 = .ok (.goto 4, 3) := by decide +kernel
theorem dX7_carryOut_58 : decode cX7_carryOut 58 = .ok (.iconst 1, 1) := by decide +kernel
theorem dX7_carryOut_59 : decode cX7_carryOut 59 = .ok (.iadd, 1) := by decide +kernel
theorem dX7_carryOut_60 : decode cX7_carryOut 60 = .ok (.istore_n 1, 1) := by decide +kernel
theorem dX7_carryOut_61 : decode cX7_carryOut 61 = .ok (.aload_n 0, 1) := by decide +kernel
theorem dX7_carryOut_62 : decode cX7_carryOut 62 = .ok (.getfield 223, 3) := by decide +kernel
theorem dX7_carryOut_65 : decode cX7_carryOut 65 = .ok (.ifCond .lt 16, 3) := by decide +kernel
theorem dX7_carryOut_68 : decode cX7_carryOut 68 = .ok (.aload_n 0, 1) := by decide +kernel
theorem dX7_carryOut_69 : decode cX7_carryOut 69 = .ok (.bipush 59, 2) := by decide +kernel
theorem dX7_carryOut_71 : decode cX7_carryOut 71 = .ok (.invokevirtual 213, 3) := by decide +kernel
theorem dX7_carryOut_74 : decode cX7_carryOut 74 = .ok (.ifCond .eq 7, 3) := by decide +kernel
theorem dX7_carryOut_77 : decode cX7_carryOut 77 = .ok (.iconst 1, 1) := by decide +kernel
theorem dX7_carryOut_78 : decode cX7_carryOut 78 = .ok (.goto 4, 3) := by decide +kernel
theorem dX7_carryOut_81 : decode cX7_carryOut 81 = .ok (.iconst 0, 1) := by decide +kernel
theorem dX7_carryOut_82 : decode cX7_carryOut 82 = .ok (.istore_n 2, 1) := by decide +kernel
theorem dX7_carryOut_83 : decode cX7_carryOut 83 = .ok (.goto (-46), 3) := by decide +kernel
theorem dX7_carryOut_86 : decode cX7_carryOut 86 = .ok (.aload_n 0, 1) := by decide +kernel
theorem dX7_carryOut_87 : decode cX7_carryOut 87 = .ok (.iconst 0, 1) := by decide +kernel
theorem dX7_carryOut_88 : decode cX7_carryOut 88 = .ok (.putfield 183, 3) := by decide +kernel
theorem dX7_carryOut_91 : decode cX7_carryOut 91 = .ok (.aload_n 0, 1) := by decide +kernel
theorem dX7_carryOut_92 : decode cX7_carryOut 92 = .ok (.iload_n 1, 1) := by decide +kernel
theorem dX7_carryOut_93 : decode cX7_carryOut 93 = .ok (.invokevirtual 143, 3) := by decide +kernel
theorem dX7_carryOut_96 : decode cX7_carryOut 96 = .ok (.ireturn, 1) := by decide +kernel
theorem dX7_undo_0 : decode cX7_undo 0 = .ok (.aload_n 0, 1) := by decide +kernel
theorem dX7_undo_1 : decode cX7_undo 1 = .ok (.getfield 31, 3) := by decide +kernel
theorem dX7_undo_4 : decode cX7_undo 4 = .ok (.ifCond .ne 6, 3) := by decide +kernel
theorem dX7_undo_7 : decode cX7_undo 7 = .ok (.bipush (-5), 2) := by decide +kernel
theorem dX7_undo_9 : decode cX7_undo 9 = .ok (.ireturn, 1) := by decide +kernel
theorem dX7_undo_10 : decode cX7_undo 10 = .ok (.aload_n 0, 1) := by decide +kernel
theorem dX7_undo_11 : decode cX7_undo 11 = .ok (.dup, 1) := by decide +kernel
theorem dX7_undo_12 : decode cX7_undo 12 = .ok (.getfield 31, 3) := by decide +kernel
theorem dX7_undo_15 : decode cX7_undo 15 = .ok (.iconst 1, 1) := by decide +kernel
theorem dX7_undo_16 : decode cX7_undo 16 = .ok (.isub, 1) := by decide +kernel
theorem dX7_undo_17 : decode cX7_undo 17 = .ok (.putfield 31, 3) := by decide +kernel
theorem dX7_undo_20 : decode cX7_undo 20 = .ok (.iconst 0, 1) := by decide +kernel
theorem dX7_undo_21 : decode cX7_undo 21 = .ok (.istore_n 1, 1) := by decide +kernel
theorem dX7_undo_22 : decode cX7_undo 22 = .ok (.iload_n 1, 1) := by decide +kernel
theorem dX7_undo_23 : decode cX7_undo 23 = .ok (.sipush 420, 3) := by decide +kernel
theorem dX7_undo_26 : decode cX7_undo 26 = .ok (.if_icmp .ge 30, 3) := by decide +kernel
theorem dX7_undo_29 : decode cX7_undo 29 = .ok (.aload_n 0, 1) := by decide +kernel
theorem dX7_undo_30 : decode cX7_undo 30 = .ok (.getfield 7, 3) := by decide +kernel
theorem dX7_undo_33 : decode cX7_undo 33 = .ok (.iload_n 1, 1) := by decide +kernel
theorem dX7_undo_34 : decode cX7_undo 34 = .ok (.aload_n 0, 1) := by decide +kernel
theorem dX7_undo_35 : decode cX7_undo 35 = .ok (.getfield 19, 3) := by decide +kernel
theorem dX7_undo_38 : decode cX7_undo 38 = .ok (.sipush 420, 3) := by decide +kernel
theorem dX7_undo_41 : decode cX7_undo 41 = .ok (.aload_n 0, 1) := by decide +kernel
theorem dX7_undo_42 : decode cX7_undo 42 = .ok (.getfield 31, 3) := by decide +kernel
theorem dX7_undo_45 : decode cX7_undo 45 = .ok (.imul, 1) := by decide +kernel
theorem dX7_undo_46 : decode cX7_undo 46 = .ok (.iload_n 1, 1) := by decide +kernel
theorem dX7_undo_47 : decode cX7_undo 47 = .ok (.iadd, 1) := by decide +kernel
theorem dX7_undo_48 : decode cX7_undo 48 = .ok (.iaload, 1) := by decide +kernel
theorem dX7_undo_49 : decode cX7_undo 49 = .ok (.iastore, 1) := by decide +kernel
theorem dX7_undo_50 : decode cX7_undo 50 = .ok (.iinc 1 1, 3) := by decide +kernel
theorem dX7_undo_53 : decode cX7_undo 53 = .ok (.goto (-31), 3) := by decide +kernel
theorem dX7_undo_56 : decode cX7_undo 56 = .ok (.aload_n 0, 1) := by decide +kernel
theorem dX7_undo_57 : decode cX7_undo 57 = .ok (.getfield 31, 3) := by decide +kernel
theorem dX7_undo_60 : decode cX7_undo 60 = .ok (.ireturn, 1) := by decide +kernel
theorem dX7_save_0 : decode cX7_save 0 = .ok (.iload_n 1, 1) := by decide +kernel
theorem dX7_save_1 : decode cX7_save 1 = .ok (.i2l, 1) := by decide +kernel
theorem dX7_save_2 : decode cX7_save 2 = .ok (.lconst 0, 1) := by decide +kernel
theorem dX7_save_3 : decode cX7_save 3 = .ok (.lconst 1, 1) := by decide +kernel
theorem dX7_save_4 : decode cX7_save 4 = .ok (.invokestatic 35, 3) := by decide +kernel
theorem dX7_save_7 : decode cX7_save 7 = .ok (.ifCond .ne 6, 3) := by decide +kernel
theorem dX7_save_10 : decode cX7_save 10 = .ok (.bipush (-2), 2) := by decide +kernel
theorem dX7_save_12 : decode cX7_save 12 = .ok (.ireturn, 1) := by decide +kernel
theorem dX7_save_13 : decode cX7_save 13 = .ok (.iconst 0, 1) := by decide +kernel
theorem dX7_save_14 : decode cX7_save 14 = .ok (.istore_n 2, 1) := by decide +kernel
theorem dX7_save_15 : decode cX7_save 15 = .ok (.iload_n 2, 1) := by decide +kernel
theorem dX7_save_16 : decode cX7_save 16 = .ok (.sipush 420, 3) := by decide +kernel
theorem dX7_save_19 : decode cX7_save 19 = .ok (.if_icmp .ge 27, 3) := by decide +kernel
theorem dX7_save_22 : decode cX7_save 22 = .ok (.aload_n 0, 1) := by decide +kernel
theorem dX7_save_23 : decode cX7_save 23 = .ok (.getfield 22, 3) := by decide +kernel
theorem dX7_save_26 : decode cX7_save 26 = .ok (.sipush 420, 3) := by decide +kernel
theorem dX7_save_29 : decode cX7_save 29 = .ok (.iload_n 1, 1) := by decide +kernel
theorem dX7_save_30 : decode cX7_save 30 = .ok (.imul, 1) := by decide +kernel
theorem dX7_save_31 : decode cX7_save 31 = .ok (.iload_n 2, 1) := by decide +kernel
theorem dX7_save_32 : decode cX7_save 32 = .ok (.iadd, 1) := by decide +kernel
theorem dX7_save_33 : decode cX7_save 33 = .ok (.aload_n 0, 1) := by decide +kernel
theorem dX7_save_34 : decode cX7_save 34 = .ok (.getfield 7, 3) := by decide +kernel
theorem dX7_save_37 : decode cX7_save 37 = .ok (.iload_n 2, 1) := by decide +kernel
theorem dX7_save_38 : decode cX7_save 38 = .ok (.iaload, 1) := by decide +kernel
theorem dX7_save_39 : decode cX7_save 39 = .ok (.iastore, 1) := by decide +kernel
theorem dX7_save_40 : decode cX7_save 40 = .ok (.iinc 2 1, 3) := by decide +kernel
theorem dX7_save_43 : decode cX7_save 43 = .ok (.goto (-28), 3) := by decide +kernel
theorem dX7_save_46 : decode cX7_save 46 = .ok (.aload_n 0, 1) := by decide +kernel
theorem dX7_save_47 : decode cX7_save 47 = .ok (.getfield 25, 3) := by decide +kernel
theorem dX7_save_50 : decode cX7_save 50 = .ok (.iload_n 1, 1) := by decide +kernel
theorem dX7_save_51 : decode cX7_save 51 = .ok (.iconst 1, 1) := by decide +kernel
theorem dX7_save_52 : decode cX7_save 52 = .ok (.iastore, 1) := by decide +kernel
theorem dX7_save_53 : decode cX7_save 53 = .ok (.aload_n 0, 1) := by decide +kernel
theorem dX7_save_54 : decode cX7_save 54 = .ok (.getfield 7, 3) := by decide +kernel
theorem dX7_save_57 : decode cX7_save 57 = .ok (.iconst 5, 1) := by decide +kernel
theorem dX7_save_58 : decode cX7_save 58 = .ok (.iaload, 1) := by decide +kernel
theorem dX7_save_59 : decode cX7_save 59 = .ok (.ireturn, 1) := by decide +kernel
theorem dX7_restore_0 : decode cX7_restore 0 = .ok (.iload_n 1, 1) := by decide +kernel
theorem dX7_restore_1 : decode cX7_restore 1 = .ok (.i2l, 1) := by decide +kernel
theorem dX7_restore_2 : decode cX7_restore 2 = .ok (.lconst 0, 1) := by decide +kernel
theorem dX7_restore_3 : decode cX7_restore 3 = .ok (.lconst 1, 1) := by decide +kernel
theorem dX7_restore_4 : decode cX7_restore 4 = .ok (.invokestatic 35, 3) := by decide +kernel
theorem dX7_restore_7 : decode cX7_restore 7 = .ok (.ifCond .ne 6, 3) := by decide +kernel
theorem dX7_restore_10 : decode cX7_restore 10 = .ok (.bipush (-2), 2) := by decide +kernel
theorem dX7_restore_12 : decode cX7_restore 12 = .ok (.ireturn, 1) := by decide +kernel
theorem dX7_restore_13 : decode cX7_restore 13 = .ok (.aload_n 0, 1) := by decide +kernel
theorem dX7_restore_14 : decode cX7_restore 14 = .ok (.getfield 25, 3) := by decide +kernel
theorem dX7_restore_17 : decode cX7_restore 17 = .ok (.iload_n 1, 1) := by decide +kernel
theorem dX7_restore_18 : decode cX7_restore 18 = .ok (.iaload, 1) := by decide +kernel
theorem dX7_restore_19 : decode cX7_restore 19 = .ok (.ifCond .ne 6, 3) := by decide +kernel
theorem dX7_restore_22 : decode cX7_restore 22 = .ok (.bipush (-5), 2) := by decide +kernel
theorem dX7_restore_24 : decode cX7_restore 24 = .ok (.ireturn, 1) := by decide +kernel
theorem dX7_restore_25 : decode cX7_restore 25 = .ok (.aload_n 0, 1) := by decide +kernel
theorem dX7_restore_26 : decode cX7_restore 26 = .ok (.getfield 7, 3) := by decide +kernel
theorem dX7_restore_29 : decode cX7_restore 29 = .ok (.aload_n 0, 1) := by decide +kernel
theorem dX7_restore_30 : decode cX7_restore 30 = .ok (.getfield 13, 3) := by decide +kernel
theorem dX7_restore_33 : decode cX7_restore 33 = .ok (.invokestatic 139, 3) := by decide +kernel
theorem dX7_restore_36 : decode cX7_restore 36 = .ok (.iconst 0, 1) := by decide +kernel
theorem dX7_restore_37 : decode cX7_restore 37 = .ok (.istore_n 2, 1) := by decide +kernel
theorem dX7_restore_38 : decode cX7_restore 38 = .ok (.iload_n 2, 1) := by decide +kernel
theorem dX7_restore_39 : decode cX7_restore 39 = .ok (.sipush 420, 3) := by decide +kernel
theorem dX7_restore_42 : decode cX7_restore 42 = .ok (.if_icmp .ge 27, 3) := by decide +kernel
theorem dX7_restore_45 : decode cX7_restore 45 = .ok (.aload_n 0, 1) := by decide +kernel
theorem dX7_restore_46 : decode cX7_restore 46 = .ok (.getfield 7, 3) := by decide +kernel
theorem dX7_restore_49 : decode cX7_restore 49 = .ok (.iload_n 2, 1) := by decide +kernel
theorem dX7_restore_50 : decode cX7_restore 50 = .ok (.aload_n 0, 1) := by decide +kernel
theorem dX7_restore_51 : decode cX7_restore 51 = .ok (.getfield 22, 3) := by decide +kernel
theorem dX7_restore_54 : decode cX7_restore 54 = .ok (.sipush 420, 3) := by decide +kernel
theorem dX7_restore_57 : decode cX7_restore 57 = .ok (.iload_n 1, 1) := by decide +kernel
theorem dX7_restore_58 : decode cX7_restore 58 = .ok (.imul, 1) := by decide +kernel
theorem dX7_restore_59 : decode cX7_restore 59 = .ok (.iload_n 2, 1) := by decide +kernel
theorem dX7_restore_60 : decode cX7_restore 60 = .ok (.iadd, 1) := by decide +kernel
theorem dX7_restore_61 : decode cX7_restore 61 = .ok (.iaload, 1) := by decide +kernel
theorem dX7_restore_62 : decode cX7_restore 62 = .ok (.iastore, 1) := by decide +kernel
theorem dX7_restore_63 : decode cX7_restore 63 = .ok (.iinc 2 1, 3) := by decide +kernel
theorem dX7_restore_66 : decode cX7_restore 66 = .ok (.goto (-28), 3) := by decide +kernel
theorem dX7_restore_69 : decode cX7_restore 69 = .ok (.aload_n 0, 1) := by decide +kernel
theorem dX7_restore_70 : decode cX7_restore 70 = .ok (.aload_n 0, 1) := by decide +kernel
theorem dX7_restore_71 : decode cX7_restore 71 = .ok (.getfield 7, 3) := by decide +kernel
theorem dX7_restore_74 : decode cX7_restore 74 = .ok (.iconst 5, 1) := by decide +kernel
theorem dX7_restore_75 : decode cX7_restore 75 = .ok (.iaload, 1) := by decide +kernel
theorem dX7_restore_76 : decode cX7_restore 76 = .ok (.invokevirtual 143, 3) := by decide +kernel
theorem dX7_restore_79 : decode cX7_restore 79 = .ok (.ireturn, 1) := by decide +kernel
end
section
theorem dL_law_0 : decode cL_law 0 = .ok (.new 7, 3) := by decide +kernel
theorem dL_law_3 : decode cL_law 3 = .ok (.dup, 1) := by decide +kernel
theorem dL_law_4 : decode cL_law 4 = .ok (.invokespecial 9, 3) := by decide +kernel
theorem dL_law_7 : decode cL_law 7 = .ok (.astore_n 1, 1) := by decide +kernel
theorem dL_law_8 : decode cL_law 8 = .ok (.new 10, 3) := by decide +kernel
theorem dL_law_11 : decode cL_law 11 = .ok (.dup, 1) := by decide +kernel
theorem dL_law_12 : decode cL_law 12 = .ok (.invokespecial 12, 3) := by decide +kernel
theorem dL_law_15 : decode cL_law 15 = .ok (.astore_n 2, 1) := by decide +kernel
theorem dL_law_16 : decode cL_law 16 = .ok (.iconst 0, 1) := by decide +kernel
theorem dL_law_17 : decode cL_law 17 = .ok (.istore_n 3, 1) := by decide +kernel
theorem dL_law_18 : decode cL_law 18 = .ok (.iload_n 3, 1) := by decide +kernel
theorem dL_law_19 : decode cL_law 19 = .ok (.aload_n 0, 1) := by decide +kernel
theorem dL_law_20 : decode cL_law 20 = .ok (.arraylength, 1) := by decide +kernel
theorem dL_law_21 : decode cL_law 21 = .ok (.iconst 5, 1) := by decide +kernel
theorem dL_law_22 : decode cL_law 22 = .ok (.isub, 1) := by decide +kernel
theorem dL_law_23 : decode cL_law 23 = .ok (.if_icmp .gt 628, 3) := by decide +kernel
theorem dL_law_26 : decode cL_law 26 = .ok (.aload_n 0, 1) := by decide +kernel
theorem dL_law_27 : decode cL_law 27 = .ok (.iload_n 3, 1) := by decide +kernel
theorem dL_law_28 : decode cL_law 28 = .ok (.iaload, 1) := by decide +kernel
theorem dL_law_29 : decode cL_law 29 = .ok (.bipush 31, 2) := by decide +kernel
theorem dL_law_31 : decode cL_law 31 = .ok (.iand, 1) := by decide +kernel
theorem dL_law_32 : decode cL_law 32 = .ok (.tableswitch 613 0 20 #[100, 133, 186, 209, 232, 255, 278, 311, 344, 367, 400, 413, 436, 449, 462, 515, 528, 541, 554, 567, 590], 100) := by decide +kernel
theorem dL_law_132 : decode cL_law 132 = .ok (.aload_n 1, 1) := by decide +kernel
theorem dL_law_133 : decode cL_law 133 = .ok (.aload_n 0, 1) := by decide +kernel
theorem dL_law_134 : decode cL_law 134 = .ok (.iload_n 3, 1) := by decide +kernel
theorem dL_law_135 : decode cL_law 135 = .ok (.iconst 1, 1) := by decide +kernel
theorem dL_law_136 : decode cL_law 136 = .ok (.iadd, 1) := by decide +kernel
theorem dL_law_137 : decode cL_law 137 = .ok (.iaload, 1) := by decide +kernel
theorem dL_law_138 : decode cL_law 138 = .ok (.aload_n 0, 1) := by decide +kernel
theorem dL_law_139 : decode cL_law 139 = .ok (.iload_n 3, 1) := by decide +kernel
theorem dL_law_140 : decode cL_law 140 = .ok (.iconst 2, 1) := by decide +kernel
theorem dL_law_141 : decode cL_law 141 = .ok (.iadd, 1) := by decide +kernel
theorem dL_law_142 : decode cL_law 142 = .ok (.iaload, 1) := by decide +kernel
theorem dL_law_143 : decode cL_law 143 = .ok (.invokevirtual 13, 3) := by decide +kernel
theorem dL_law_146 : decode cL_law 146 = .ok (.aload_n 2, 1) := by decide +kernel
theorem dL_law_147 : decode cL_law 147 = .ok (.aload_n 0, 1) := by decide +kernel
theorem dL_law_148 : decode cL_law 148 = .ok (.iload_n 3, 1) := by decide +kernel
theorem dL_law_149 : decode cL_law 149 = .ok (.iconst 1, 1) := by decide +kernel
theorem dL_law_150 : decode cL_law 150 = .ok (.iadd, 1) := by decide +kernel
theorem dL_law_151 : decode cL_law 151 = .ok (.iaload, 1) := by decide +kernel
theorem dL_law_152 : decode cL_law 152 = .ok (.aload_n 0, 1) := by decide +kernel
theorem dL_law_153 : decode cL_law 153 = .ok (.iload_n 3, 1) := by decide +kernel
theorem dL_law_154 : decode cL_law 154 = .ok (.iconst 2, 1) := by decide +kernel
theorem dL_law_155 : decode cL_law 155 = .ok (.iadd, 1) := by decide +kernel
theorem dL_law_156 : decode cL_law 156 = .ok (.iaload, 1) := by decide +kernel
theorem dL_law_157 : decode cL_law 157 = .ok (.invokevirtual 17, 3) := by decide +kernel
theorem dL_law_160 : decode cL_law 160 = .ok (.if_icmp .eq 485, 3) := by decide +kernel
theorem dL_law_163 : decode cL_law 163 = .ok (.iconst 0, 1) := by decide +kernel
theorem dL_law_164 : decode cL_law 164 = .ok (.ireturn, 1) := by decide +kernel
theorem dL_law_165 : decode cL_law 165 = .ok (.aload_n 1, 1) := by decide +kernel
theorem dL_law_166 : decode cL_law 166 = .ok (.aload_n 0, 1) := by decide +kernel
theorem dL_law_167 : decode cL_law 167 = .ok (.iload_n 3, 1) := by decide +kernel
theorem dL_law_168 : decode cL_law 168 = .ok (.iconst 1, 1) := by decide +kernel
theorem dL_law_169 : decode cL_law 169 = .ok (.iadd, 1) := by decide +kernel
theorem dL_law_170 : decode cL_law 170 = .ok (.iaload, 1) := by decide +kernel
theorem dL_law_171 : decode cL_law 171 = .ok (.aload_n 0, 1) := by decide +kernel
theorem dL_law_172 : decode cL_law 172 = .ok (.iload_n 3, 1) := by decide +kernel
theorem dL_law_173 : decode cL_law 173 = .ok (.iconst 2, 1) := by decide +kernel
theorem dL_law_174 : decode cL_law 174 = .ok (.iadd, 1) := by decide +kernel
theorem dL_law_175 : decode cL_law 175 = .ok (.iaload, 1) := by decide +kernel
theorem dL_law_176 : decode cL_law 176 = .ok (.aload_n 0, 1) := by decide +kernel
theorem dL_law_177 : decode cL_law 177 = .ok (.iload_n 3, 1) := by decide +kernel
theorem dL_law_178 : decode cL_law 178 = .ok (.iconst 3, 1) := by decide +kernel
theorem dL_law_179 : decode cL_law 179 = .ok (.iadd, 1) := by decide +kernel
theorem dL_law_180 : decode cL_law 180 = .ok (.iaload, 1) := by decide +kernel
theorem dL_law_181 : decode cL_law 181 = .ok (.aload_n 0, 1) := by decide +kernel
theorem dL_law_182 : decode cL_law 182 = .ok (.iload_n 3, 1) := by decide +kernel
theorem dL_law_183 : decode cL_law 183 = .ok (.iconst 4, 1) := by decide +kernel
theorem dL_law_184 : decode cL_law 184 = .ok (.iadd, 1) := by decide +kernel
theorem dL_law_185 : decode cL_law 185 = .ok (.iaload, 1) := by decide +kernel
theorem dL_law_186 : decode cL_law 186 = .ok (.invokevirtual 18, 3) := by decide +kernel
theorem dL_law_189 : decode cL_law 189 = .ok (.aload_n 2, 1) := by decide +kernel
theorem dL_law_190 : decode cL_law 190 = .ok (.aload_n 0, 1) := by decide +kernel
theorem dL_law_191 : decode cL_law 191 = .ok (.iload_n 3, 1) := by decide +kernel
theorem dL_law_192 : decode cL_law 192 = .ok (.iconst 1, 1) := by decide +kernel
theorem dL_law_193 : decode cL_law 193 = .ok (.iadd, 1) := by decide +kernel
theorem dL_law_194 : decode cL_law 194 = .ok (.iaload, 1) := by decide +kernel
theorem dL_law_195 : decode cL_law 195 = .ok (.aload_n 0, 1) := by decide +kernel
theorem dL_law_196 : decode cL_law 196 = .ok (.iload_n 3, 1) := by decide +kernel
theorem dL_law_197 : decode cL_law 197 = .ok (.iconst 2, 1) := by decide +kernel
theorem dL_law_198 : decode cL_law 198 = .ok (.iadd, 1) := by decide +kernel
theorem dL_law_199 : decode cL_law 199 = .ok (.iaload, 1) := by decide +kernel
theorem dL_law_200 : decode cL_law 200 = .ok (.aload_n 0, 1) := by decide +kernel
theorem dL_law_201 : decode cL_law 201 = .ok (.iload_n 3, 1) := by decide +kernel
theorem dL_law_202 : decode cL_law 202 = .ok (.iconst 3, 1) := by decide +kernel
theorem dL_law_203 : decode cL_law 203 = .ok (.iadd, 1) := by decide +kernel
theorem dL_law_204 : decode cL_law 204 = .ok (.iaload, 1) := by decide +kernel
theorem dL_law_205 : decode cL_law 205 = .ok (.aload_n 0, 1) := by decide +kernel
theorem dL_law_206 : decode cL_law 206 = .ok (.iload_n 3, 1) := by decide +kernel
theorem dL_law_207 : decode cL_law 207 = .ok (.iconst 4, 1) := by decide +kernel
theorem dL_law_208 : decode cL_law 208 = .ok (.iadd, 1) := by decide +kernel
theorem dL_law_209 : decode cL_law 209 = .ok (.iaload, 1) := by decide +kernel
theorem dL_law_210 : decode cL_law 210 = .ok (.invokevirtual 22, 3) := by decide +kernel
theorem dL_law_213 : decode cL_law 213 = .ok (.if_icmp .eq 432, 3) := by decide +kernel
theorem dL_law_216 : decode cL_law 216 = .ok (.iconst 0, 1) := by decide +kernel
theorem dL_law_217 : decode cL_law 217 = .ok (.ireturn, 1) := by decide +kernel
theorem dL_law_218 : decode cL_law 218 = .ok (.aload_n 1, 1) := by decide +kernel
theorem dL_law_219 : decode cL_law 219 = .ok (.aload_n 0, 1) := by decide +kernel
theorem dL_law_220 : decode cL_law 220 = .ok (.iload_n 3, 1) := by decide +kernel
theorem dL_law_221 : decode cL_law 221 = .ok (.iconst 1, 1) := by decide +kernel
theorem dL_law_222 : decode cL_law 222 = .ok (.iadd, 1) := by decide +kernel
theorem dL_law_223 : decode cL_law 223 = .ok (.iaload, 1) := by decide +kernel
theorem dL_law_224 : decode cL_law 224 = .ok (.invokevirtual 23, 3) := by decide +kernel
theorem dL_law_227 : decode cL_law 227 = .ok (.aload_n 2, 1) := by decide +kernel
theorem dL_law_228 : decode cL_law 228 = .ok (.aload_n 0, 1) := by decide +kernel
theorem dL_law_229 : decode cL_law 229 = .ok (.iload_n 3, 1) := by decide +kernel
theorem dL_law_230 : decode cL_law 230 = .ok (.iconst 1, 1) := by decide +kernel
theorem dL_law_231 : decode cL_law 231 = .ok (.iadd, 1) := by decide +kernel
theorem dL_law_232 : decode cL_law 232 = .ok (.iaload, 1) := by decide +kernel
theorem dL_law_233 : decode cL_law 233 = .ok (.invokevirtual 27, 3) := by decide +kernel
theorem dL_law_236 : decode cL_law 236 = .ok (.if_icmp .eq 409, 3) := by decide +kernel
theorem dL_law_239 : decode cL_law 239 = .ok (.iconst 0, 1) := by decide +kernel
theorem dL_law_240 : decode cL_law 240 = .ok (.ireturn, 1) := by decide +kernel
theorem dL_law_241 : decode cL_law 241 = .ok (.aload_n 1, 1) := by decide +kernel
theorem dL_law_242 : decode cL_law 242 = .ok (.aload_n 0, 1) := by decide +kernel
theorem dL_law_243 : decode cL_law 243 = .ok (.iload_n 3, 1) := by decide +kernel
theorem dL_law_244 : decode cL_law 244 = .ok (.iconst 1, 1) := by decide +kernel
theorem dL_law_245 : decode cL_law 245 = .ok (.iadd, 1) := by decide +kernel
theorem dL_law_246 : decode cL_law 246 = .ok (.iaload, 1) := by decide +kernel
theorem dL_law_247 : decode cL_law 247 = .ok (.invokevirtual 28, 3) := by decide +kernel
theorem dL_law_250 : decode cL_law 250 = .ok (.aload_n 2, 1) := by decide +kernel
theorem dL_law_251 : decode cL_law 251 = .ok (.aload_n 0, 1) := by decide +kernel
theorem dL_law_252 : decode cL_law 252 = .ok (.iload_n 3, 1) := by decide +kernel
theorem dL_law_253 : decode cL_law 253 = .ok (.iconst 1, 1) := by decide +kernel
theorem dL_law_254 : decode cL_law 254 = .ok (.iadd, 1) := by decide +kernel
theorem dL_law_255 : decode cL_law 255 = .ok (.iaload, 1) := by decide +kernel
theorem dL_law_256 : decode cL_law 256 = .ok (.invokevirtual 31, 3) := by decide +kernel
theorem dL_law_259 : decode cL_law 259 = .ok (.if_icmp .eq 386, 3) := by decide +kernel
theorem dL_law_262 : decode cL_law 262 = .ok (.iconst 0, 1) := by decide +kernel
theorem dL_law_263 : decode cL_law 263 = .ok (.ireturn, 1) := by decide +kernel
theorem dL_law_264 : decode cL_law 264 = .ok (.aload_n 1, 1) := by decide +kernel
theorem dL_law_265 : decode cL_law 265 = .ok (.aload_n 0, 1) := by decide +kernel
theorem dL_law_266 : decode cL_law 266 = .ok (.iload_n 3, 1) := by decide +kernel
theorem dL_law_267 : decode cL_law 267 = .ok (.iconst 1, 1) := by decide +kernel
theorem dL_law_268 : decode cL_law 268 = .ok (.iadd, 1) := by decide +kernel
theorem dL_law_269 : decode cL_law 269 = .ok (.iaload, 1) := by decide +kernel
theorem dL_law_270 : decode cL_law 270 = .ok (.invokevirtual 32, 3) := by decide +kernel
theorem dL_law_273 : decode cL_law 273 = .ok (.aload_n 2, 1) := by decide +kernel
theorem dL_law_274 : decode cL_law 274 = .ok (.aload_n 0, 1) := by decide +kernel
theorem dL_law_275 : decode cL_law 275 = .ok (.iload_n 3, 1) := by decide +kernel
theorem dL_law_276 : decode cL_law 276 = .ok (.iconst 1, 1) := by decide +kernel
theorem dL_law_277 : decode cL_law 277 = .ok (.iadd, 1) := by decide +kernel
theorem dL_law_278 : decode cL_law 278 = .ok (.iaload, 1) := by decide +kernel
theorem dL_law_279 : decode cL_law 279 = .ok (.invokevirtual 35, 3) := by decide +kernel
theorem dL_law_282 : decode cL_law 282 = .ok (.if_icmp .eq 363, 3) := by decide +kernel
theorem dL_law_285 : decode cL_law 285 = .ok (.iconst 0, 1) := by decide +kernel
theorem dL_law_286 : decode cL_law 286 = .ok (.ireturn, 1) := by decide +kernel
theorem dL_law_287 : decode cL_law 287 = .ok (.aload_n 1, 1) := by decide +kernel
theorem dL_law_288 : decode cL_law 288 = .ok (.aload_n 0, 1) := by decide +kernel
theorem dL_law_289 : decode cL_law 289 = .ok (.iload_n 3, 1) := by decide +kernel
theorem dL_law_290 : decode cL_law 290 = .ok (.iconst 1, 1) := by decide +kernel
theorem dL_law_291 : decode cL_law 291 = .ok (.iadd, 1) := by decide +kernel
theorem dL_law_292 : decode cL_law 292 = .ok (.iaload, 1) := by decide +kernel
theorem dL_law_293 : decode cL_law 293 = .ok (.invokevirtual 36, 3) := by decide +kernel
theorem dL_law_296 : decode cL_law 296 = .ok (.aload_n 2, 1) := by decide +kernel
theorem dL_law_297 : decode cL_law 297 = .ok (.aload_n 0, 1) := by decide +kernel
theorem dL_law_298 : decode cL_law 298 = .ok (.iload_n 3, 1) := by decide +kernel
theorem dL_law_299 : decode cL_law 299 = .ok (.iconst 1, 1) := by decide +kernel
theorem dL_law_300 : decode cL_law 300 = .ok (.iadd, 1) := by decide +kernel
theorem dL_law_301 : decode cL_law 301 = .ok (.iaload, 1) := by decide +kernel
theorem dL_law_302 : decode cL_law 302 = .ok (.invokevirtual 39, 3) := by decide +kernel
theorem dL_law_305 : decode cL_law 305 = .ok (.if_icmp .eq 340, 3) := by decide +kernel
theorem dL_law_308 : decode cL_law 308 = .ok (.iconst 0, 1) := by decide +kernel
theorem dL_law_309 : decode cL_law 309 = .ok (.ireturn, 1) := by decide +kernel
theorem dL_law_310 : decode cL_law 310 = .ok (.aload_n 1, 1) := by decide +kernel
theorem dL_law_311 : decode cL_law 311 = .ok (.aload_n 0, 1) := by decide +kernel
theorem dL_law_312 : decode cL_law 312 = .ok (.iload_n 3, 1) := by decide +kernel
theorem dL_law_313 : decode cL_law 313 = .ok (.iconst 1, 1) := by decide +kernel
theorem dL_law_314 : decode cL_law 314 = .ok (.iadd, 1) := by decide +kernel
theorem dL_law_315 : decode cL_law 315 = .ok (.iaload, 1) := by decide +kernel
theorem dL_law_316 : decode cL_law 316 = .ok (.aload_n 0, 1) := by decide +kernel
theorem dL_law_317 : decode cL_law 317 = .ok (.iload_n 3, 1) := by decide +kernel
theorem dL_law_318 : decode cL_law 318 = .ok (.iconst 2, 1) := by decide +kernel
theorem dL_law_319 : decode cL_law 319 = .ok (.iadd, 1) := by decide +kernel
theorem dL_law_320 : decode cL_law 320 = .ok (.iaload, 1) := by decide +kernel
theorem dL_law_321 : decode cL_law 321 = .ok (.invokevirtual 40, 3) := by decide +kernel
theorem dL_law_324 : decode cL_law 324 = .ok (.aload_n 2, 1) := by decide +kernel
theorem dL_law_325 : decode cL_law 325 = .ok (.aload_n 0, 1) := by decide +kernel
theorem dL_law_326 : decode cL_law 326 = .ok (.iload_n 3, 1) := by decide +kernel
theorem dL_law_327 : decode cL_law 327 = .ok (.iconst 1, 1) := by decide +kernel
theorem dL_law_328 : decode cL_law 328 = .ok (.iadd, 1) := by decide +kernel
theorem dL_law_329 : decode cL_law 329 = .ok (.iaload, 1) := by decide +kernel
theorem dL_law_330 : decode cL_law 330 = .ok (.aload_n 0, 1) := by decide +kernel
theorem dL_law_331 : decode cL_law 331 = .ok (.iload_n 3, 1) := by decide +kernel
theorem dL_law_332 : decode cL_law 332 = .ok (.iconst 2, 1) := by decide +kernel
theorem dL_law_333 : decode cL_law 333 = .ok (.iadd, 1) := by decide +kernel
theorem dL_law_334 : decode cL_law 334 = .ok (.iaload, 1) := by decide +kernel
theorem dL_law_335 : decode cL_law 335 = .ok (.invokevirtual 43, 3) := by decide +kernel
theorem dL_law_338 : decode cL_law 338 = .ok (.if_icmp .eq 307, 3) := by decide +kernel
theorem dL_law_341 : decode cL_law 341 = .ok (.iconst 0, 1) := by decide +kernel
theorem dL_law_342 : decode cL_law 342 = .ok (.ireturn, 1) := by decide +kernel
theorem dL_law_343 : decode cL_law 343 = .ok (.aload_n 1, 1) := by decide +kernel
theorem dL_law_344 : decode cL_law 344 = .ok (.aload_n 0, 1) := by decide +kernel
theorem dL_law_345 : decode cL_law 345 = .ok (.iload_n 3, 1) := by decide +kernel
theorem dL_law_346 : decode cL_law 346 = .ok (.iconst 1, 1) := by decide +kernel
theorem dL_law_347 : decode cL_law 347 = .ok (.iadd, 1) := by decide +kernel
theorem dL_law_348 : decode cL_law 348 = .ok (.iaload, 1) := by decide +kernel
theorem dL_law_349 : decode cL_law 349 = .ok (.aload_n 0, 1) := by decide +kernel
theorem dL_law_350 : decode cL_law 350 = .ok (.iload_n 3, 1) := by decide +kernel
theorem dL_law_351 : decode cL_law 351 = .ok (.iconst 2, 1) := by decide +kernel
theorem dL_law_352 : decode cL_law 352 = .ok (.iadd, 1) := by decide +kernel
theorem dL_law_353 : decode cL_law 353 = .ok (.iaload, 1) := by decide +kernel
theorem dL_law_354 : decode cL_law 354 = .ok (.invokevirtual 44, 3) := by decide +kernel
theorem dL_law_357 : decode cL_law 357 = .ok (.aload_n 2, 1) := by decide +kernel
theorem dL_law_358 : decode cL_law 358 = .ok (.aload_n 0, 1) := by decide +kernel
theorem dL_law_359 : decode cL_law 359 = .ok (.iload_n 3, 1) := by decide +kernel
theorem dL_law_360 : decode cL_law 360 = .ok (.iconst 1, 1) := by decide +kernel
theorem dL_law_361 : decode cL_law 361 = .ok (.iadd, 1) := by decide +kernel
theorem dL_law_362 : decode cL_law 362 = .ok (.iaload, 1) := by decide +kernel
theorem dL_law_363 : decode cL_law 363 = .ok (.aload_n 0, 1) := by decide +kernel
theorem dL_law_364 : decode cL_law 364 = .ok (.iload_n 3, 1) := by decide +kernel
theorem dL_law_365 : decode cL_law 365 = .ok (.iconst 2, 1) := by decide +kernel
theorem dL_law_366 : decode cL_law 366 = .ok (.iadd, 1) := by decide +kernel
theorem dL_law_367 : decode cL_law 367 = .ok (.iaload, 1) := by decide +kernel
theorem dL_law_368 : decode cL_law 368 = .ok (.invokevirtual 47, 3) := by decide +kernel
theorem dL_law_371 : decode cL_law 371 = .ok (.if_icmp .eq 274, 3) := by decide +kernel
theorem dL_law_374 : decode cL_law 374 = .ok (.iconst 0, 1) := by decide +kernel
theorem dL_law_375 : decode cL_law 375 = .ok (.ireturn, 1) := by decide +kernel
theorem dL_law_376 : decode cL_law 376 = .ok (.aload_n 1, 1) := by decide +kernel
theorem dL_law_377 : decode cL_law 377 = .ok (.aload_n 0, 1) := by decide +kernel
theorem dL_law_378 : decode cL_law 378 = .ok (.iload_n 3, 1) := by decide +kernel
theorem dL_law_379 : decode cL_law 379 = .ok (.iconst 1, 1) := by decide +kernel
theorem dL_law_380 : decode cL_law 380 = .ok (.iadd, 1) := by decide +kernel
theorem dL_law_381 : decode cL_law 381 = .ok (.iaload, 1) := by decide +kernel
theorem dL_law_382 : decode cL_law 382 = .ok (.invokevirtual 48, 3) := by decide +kernel
theorem dL_law_385 : decode cL_law 385 = .ok (.aload_n 2, 1) := by decide +kernel
theorem dL_law_386 : decode cL_law 386 = .ok (.aload_n 0, 1) := by decide +kernel
theorem dL_law_387 : decode cL_law 387 = .ok (.iload_n 3, 1) := by decide +kernel
theorem dL_law_388 : decode cL_law 388 = .ok (.iconst 1, 1) := by decide +kernel
theorem dL_law_389 : decode cL_law 389 = .ok (.iadd, 1) := by decide +kernel
theorem dL_law_390 : decode cL_law 390 = .ok (.iaload, 1) := by decide +kernel
theorem dL_law_391 : decode cL_law 391 = .ok (.invokevirtual 51, 3) := by decide +kernel
theorem dL_law_394 : decode cL_law 394 = .ok (.if_icmp .eq 251, 3) := by decide +kernel
theorem dL_law_397 : decode cL_law 397 = .ok (.iconst 0, 1) := by decide +kernel
theorem dL_law_398 : decode cL_law 398 = .ok (.ireturn, 1) := by decide +kernel
theorem dL_law_399 : decode cL_law 399 = .ok (.aload_n 1, 1) := by decide +kernel
theorem dL_law_400 : decode cL_law 400 = .ok (.aload_n 0, 1) := by decide +kernel
theorem dL_law_401 : decode cL_law 401 = .ok (.iload_n 3, 1) := by decide +kernel
theorem dL_law_402 : decode cL_law 402 = .ok (.iconst 1, 1) := by decide +kernel
theorem dL_law_403 : decode cL_law 403 = .ok (.iadd, 1) := by decide +kernel
theorem dL_law_404 : decode cL_law 404 = .ok (.iaload, 1) := by decide +kernel
theorem dL_law_405 : decode cL_law 405 = .ok (.aload_n 0, 1) := by decide +kernel
theorem dL_law_406 : decode cL_law 406 = .ok (.iload_n 3, 1) := by decide +kernel
theorem dL_law_407 : decode cL_law 407 = .ok (.iconst 2, 1) := by decide +kernel
theorem dL_law_408 : decode cL_law 408 = .ok (.iadd, 1) := by decide +kernel
theorem dL_law_409 : decode cL_law 409 = .ok (.iaload, 1) := by decide +kernel
theorem dL_law_410 : decode cL_law 410 = .ok (.invokevirtual 52, 3) := by decide +kernel
theorem dL_law_413 : decode cL_law 413 = .ok (.aload_n 2, 1) := by decide +kernel
theorem dL_law_414 : decode cL_law 414 = .ok (.aload_n 0, 1) := by decide +kernel
theorem dL_law_415 : decode cL_law 415 = .ok (.iload_n 3, 1) := by decide +kernel
theorem dL_law_416 : decode cL_law 416 = .ok (.iconst 1, 1) := by decide +kernel
theorem dL_law_417 : decode cL_law 417 = .ok (.iadd, 1) := by decide +kernel
theorem dL_law_418 : decode cL_law 418 = .ok (.iaload, 1) := by decide +kernel
theorem dL_law_419 : decode cL_law 419 = .ok (.aload_n 0, 1) := by decide +kernel
theorem dL_law_420 : decode cL_law 420 = .ok (.iload_n 3, 1) := by decide +kernel
theorem dL_law_421 : decode cL_law 421 = .ok (.iconst 2, 1) := by decide +kernel
theorem dL_law_422 : decode cL_law 422 = .ok (.iadd, 1) := by decide +kernel
theorem dL_law_423 : decode cL_law 423 = .ok (.iaload, 1) := by decide +kernel
theorem dL_law_424 : decode cL_law 424 = .ok (.invokevirtual 55, 3) := by decide +kernel
theorem dL_law_427 : decode cL_law 427 = .ok (.if_icmp .eq 218, 3) := by decide +kernel
theorem dL_law_430 : decode cL_law 430 = .ok (.iconst 0, 1) := by decide +kernel
theorem dL_law_431 : decode cL_law 431 = .ok (.ireturn, 1) := by decide +kernel
theorem dL_law_432 : decode cL_law 432 = .ok (.aload_n 1, 1) := by decide +kernel
theorem dL_law_433 : decode cL_law 433 = .ok (.invokevirtual 56, 3) := by decide +kernel
theorem dL_law_436 : decode cL_law 436 = .ok (.aload_n 2, 1) := by decide +kernel
theorem dL_law_437 : decode cL_law 437 = .ok (.invokevirtual 60, 3) := by decide +kernel
theorem dL_law_440 : decode cL_law 440 = .ok (.if_icmp .eq 205, 3) := by decide +kernel
theorem dL_law_443 : decode cL_law 443 = .ok (.iconst 0, 1) := by decide +kernel
theorem dL_law_444 : decode cL_law 444 = .ok (.ireturn, 1) := by decide +kernel
theorem dL_law_445 : decode cL_law 445 = .ok (.aload_n 1, 1) := by decide +kernel
theorem dL_law_446 : decode cL_law 446 = .ok (.aload_n 0, 1) := by decide +kernel
theorem dL_law_447 : decode cL_law 447 = .ok (.iload_n 3, 1) := by decide +kernel
theorem dL_law_448 : decode cL_law 448 = .ok (.iconst 1, 1) := by decide +kernel
theorem dL_law_449 : decode cL_law 449 = .ok (.iadd, 1) := by decide +kernel
theorem dL_law_450 : decode cL_law 450 = .ok (.iaload, 1) := by decide +kernel
theorem dL_law_451 : decode cL_law 451 = .ok (.invokevirtual 61, 3) := by decide +kernel
theorem dL_law_454 : decode cL_law 454 = .ok (.aload_n 2, 1) := by decide +kernel
theorem dL_law_455 : decode cL_law 455 = .ok (.aload_n 0, 1) := by decide +kernel
theorem dL_law_456 : decode cL_law 456 = .ok (.iload_n 3, 1) := by decide +kernel
theorem dL_law_457 : decode cL_law 457 = .ok (.iconst 1, 1) := by decide +kernel
theorem dL_law_458 : decode cL_law 458 = .ok (.iadd, 1) := by decide +kernel
theorem dL_law_459 : decode cL_law 459 = .ok (.iaload, 1) := by decide +kernel
theorem dL_law_460 : decode cL_law 460 = .ok (.invokevirtual 64, 3) := by decide +kernel
theorem dL_law_463 : decode cL_law 463 = .ok (.if_icmp .eq 182, 3) := by decide +kernel
theorem dL_law_466 : decode cL_law 466 = .ok (.iconst 0, 1) := by decide +kernel
theorem dL_law_467 : decode cL_law 467 = .ok (.ireturn, 1) := by decide +kernel
theorem dL_law_468 : decode cL_law 468 = .ok (.aload_n 1, 1) := by decide +kernel
theorem dL_law_469 : decode cL_law 469 = .ok (.invokevirtual 65, 3) := by decide +kernel
theorem dL_law_472 : decode cL_law 472 = .ok (.aload_n 2, 1) := by decide +kernel
theorem dL_law_473 : decode cL_law 473 = .ok (.invokevirtual 68, 3) := by decide +kernel
theorem dL_law_476 : decode cL_law 476 = .ok (.if_icmp .eq 169, 3) := by decide +kernel
theorem dL_law_479 : decode cL_law 479 = .ok (.iconst 0, 1) := by decide +kernel
theorem dL_law_480 : decode cL_law 480 = .ok (.ireturn, 1) := by decide +kernel
theorem dL_law_481 : decode cL_law 481 = .ok (.aload_n 1, 1) := by decide +kernel
theorem dL_law_482 : decode cL_law 482 = .ok (.invokevirtual 69, 3) := by decide +kernel
theorem dL_law_485 : decode cL_law 485 = .ok (.aload_n 2, 1) := by decide +kernel
theorem dL_law_486 : decode cL_law 486 = .ok (.invokevirtual 72, 3) := by decide +kernel
theorem dL_law_489 : decode cL_law 489 = .ok (.if_icmp .eq 156, 3) := by decide +kernel
theorem dL_law_492 : decode cL_law 492 = .ok (.iconst 0, 1) := by decide +kernel
theorem dL_law_493 : decode cL_law 493 = .ok (.ireturn, 1) := by decide +kernel
theorem dL_law_494 : decode cL_law 494 = .ok (.aload_n 1, 1) := by decide +kernel
theorem dL_law_495 : decode cL_law 495 = .ok (.aload_n 0, 1) := by decide +kernel
theorem dL_law_496 : decode cL_law 496 = .ok (.iload_n 3, 1) := by decide +kernel
theorem dL_law_497 : decode cL_law 497 = .ok (.iconst 1, 1) := by decide +kernel
theorem dL_law_498 : decode cL_law 498 = .ok (.iadd, 1) := by decide +kernel
theorem dL_law_499 : decode cL_law 499 = .ok (.iaload, 1) := by decide +kernel
theorem dL_law_500 : decode cL_law 500 = .ok (.i2l, 1) := by decide +kernel
theorem dL_law_501 : decode cL_law 501 = .ok (.bipush 32, 2) := by decide +kernel
theorem dL_law_503 : decode cL_law 503 = .ok (.lshl, 1) := by decide +kernel
theorem dL_law_504 : decode cL_law 504 = .ok (.aload_n 0, 1) := by decide +kernel
theorem dL_law_505 : decode cL_law 505 = .ok (.iload_n 3, 1) := by decide +kernel
theorem dL_law_506 : decode cL_law 506 = .ok (.iconst 2, 1) := by decide +kernel
theorem dL_law_507 : decode cL_law 507 = .ok (.iadd, 1) := by decide +kernel
theorem dL_law_508 : decode cL_law 508 = .ok (.iaload, 1) := by decide +kernel
theorem dL_law_509 : decode cL_law 509 = .ok (.i2l, 1) := by decide +kernel
theorem dL_law_510 : decode cL_law 510 = .ok (.ldc2_w 73, 3) := by decide +kernel
theorem dL_law_513 : decode cL_law 513 = .ok (.land, 1) := by decide +kernel
theorem dL_law_514 : decode cL_law 514 = .ok (.lor, 1) := by decide +kernel
theorem dL_law_515 : decode cL_law 515 = .ok (.invokevirtual 75, 3) := by decide +kernel
theorem dL_law_518 : decode cL_law 518 = .ok (.aload_n 2, 1) := by decide +kernel
theorem dL_law_519 : decode cL_law 519 = .ok (.aload_n 0, 1) := by decide +kernel
theorem dL_law_520 : decode cL_law 520 = .ok (.iload_n 3, 1) := by decide +kernel
theorem dL_law_521 : decode cL_law 521 = .ok (.iconst 1, 1) := by decide +kernel
theorem dL_law_522 : decode cL_law 522 = .ok (.iadd, 1) := by decide +kernel
theorem dL_law_523 : decode cL_law 523 = .ok (.iaload, 1) := by decide +kernel
theorem dL_law_524 : decode cL_law 524 = .ok (.i2l, 1) := by decide +kernel
theorem dL_law_525 : decode cL_law 525 = .ok (.bipush 32, 2) := by decide +kernel
theorem dL_law_527 : decode cL_law 527 = .ok (.lshl, 1) := by decide +kernel
theorem dL_law_528 : decode cL_law 528 = .ok (.aload_n 0, 1) := by decide +kernel
theorem dL_law_529 : decode cL_law 529 = .ok (.iload_n 3, 1) := by decide +kernel
theorem dL_law_530 : decode cL_law 530 = .ok (.iconst 2, 1) := by decide +kernel
theorem dL_law_531 : decode cL_law 531 = .ok (.iadd, 1) := by decide +kernel
theorem dL_law_532 : decode cL_law 532 = .ok (.iaload, 1) := by decide +kernel
theorem dL_law_533 : decode cL_law 533 = .ok (.i2l, 1) := by decide +kernel
theorem dL_law_534 : decode cL_law 534 = .ok (.ldc2_w 73, 3) := by decide +kernel
theorem dL_law_537 : decode cL_law 537 = .ok (.land, 1) := by decide +kernel
theorem dL_law_538 : decode cL_law 538 = .ok (.lor, 1) := by decide +kernel
theorem dL_law_539 : decode cL_law 539 = .ok (.invokevirtual 79, 3) := by decide +kernel
theorem dL_law_542 : decode cL_law 542 = .ok (.if_icmp .eq 103, 3) := by decide +kernel
theorem dL_law_545 : decode cL_law 545 = .ok (.iconst 0, 1) := by decide +kernel
theorem dL_law_546 : decode cL_law 546 = .ok (.ireturn, 1) := by decide +kernel
theorem dL_law_547 : decode cL_law 547 = .ok (.aload_n 1, 1) := by decide +kernel
theorem dL_law_548 : decode cL_law 548 = .ok (.invokevirtual 80, 3) := by decide +kernel
theorem dL_law_551 : decode cL_law 551 = .ok (.aload_n 2, 1) := by decide +kernel
theorem dL_law_552 : decode cL_law 552 = .ok (.invokevirtual 83, 3) := by decide +kernel
theorem dL_law_555 : decode cL_law 555 = .ok (.if_icmp .eq 90, 3) := by decide +kernel
theorem dL_law_558 : decode cL_law 558 = .ok (.iconst 0, 1) := by decide +kernel
theorem dL_law_559 : decode cL_law 559 = .ok (.ireturn, 1) := by decide +kernel
theorem dL_law_560 : decode cL_law 560 = .ok (.aload_n 1, 1) := by decide +kernel
theorem dL_law_561 : decode cL_law 561 = .ok (.invokevirtual 84, 3) := by decide +kernel
theorem dL_law_564 : decode cL_law 564 = .ok (.aload_n 2, 1) := by decide +kernel
theorem dL_law_565 : decode cL_law 565 = .ok (.invokevirtual 87, 3) := by decide +kernel
theorem dL_law_568 : decode cL_law 568 = .ok (.if_icmp .eq 77, 3) := by decide +kernel
theorem dL_law_571 : decode cL_law 571 = .ok (.iconst 0, 1) := by decide +kernel
theorem dL_law_572 : decode cL_law 572 = .ok (.ireturn, 1) := by decide +kernel
theorem dL_law_573 : decode cL_law 573 = .ok (.aload_n 1, 1) := by decide +kernel
theorem dL_law_574 : decode cL_law 574 = .ok (.invokevirtual 88, 3) := by decide +kernel
theorem dL_law_577 : decode cL_law 577 = .ok (.aload_n 2, 1) := by decide +kernel
theorem dL_law_578 : decode cL_law 578 = .ok (.invokevirtual 91, 3) := by decide +kernel
theorem dL_law_581 : decode cL_law 581 = .ok (.if_icmp .eq 64, 3) := by decide +kernel
theorem dL_law_584 : decode cL_law 584 = .ok (.iconst 0, 1) := by decide +kernel
theorem dL_law_585 : decode cL_law 585 = .ok (.ireturn, 1) := by decide +kernel
theorem dL_law_586 : decode cL_law 586 = .ok (.aload_n 1, 1) := by decide +kernel
theorem dL_law_587 : decode cL_law 587 = .ok (.invokevirtual 92, 3) := by decide +kernel
theorem dL_law_590 : decode cL_law 590 = .ok (.aload_n 2, 1) := by decide +kernel
theorem dL_law_591 : decode cL_law 591 = .ok (.invokevirtual 95, 3) := by decide +kernel
theorem dL_law_594 : decode cL_law 594 = .ok (.if_icmp .eq 51, 3) := by decide +kernel
theorem dL_law_597 : decode cL_law 597 = .ok (.iconst 0, 1) := by decide +kernel
theorem dL_law_598 : decode cL_law 598 = .ok (.ireturn, 1) := by decide +kernel
theorem dL_law_599 : decode cL_law 599 = .ok (.aload_n 1, 1) := by decide +kernel
theorem dL_law_600 : decode cL_law 600 = .ok (.aload_n 0, 1) := by decide +kernel
theorem dL_law_601 : decode cL_law 601 = .ok (.iload_n 3, 1) := by decide +kernel
theorem dL_law_602 : decode cL_law 602 = .ok (.iconst 1, 1) := by decide +kernel
theorem dL_law_603 : decode cL_law 603 = .ok (.iadd, 1) := by decide +kernel
theorem dL_law_604 : decode cL_law 604 = .ok (.iaload, 1) := by decide +kernel
theorem dL_law_605 : decode cL_law 605 = .ok (.invokevirtual 96, 3) := by decide +kernel
theorem dL_law_608 : decode cL_law 608 = .ok (.aload_n 2, 1) := by decide +kernel
theorem dL_law_609 : decode cL_law 609 = .ok (.aload_n 0, 1) := by decide +kernel
theorem dL_law_610 : decode cL_law 610 = .ok (.iload_n 3, 1) := by decide +kernel
theorem dL_law_611 : decode cL_law 611 = .ok (.iconst 1, 1) := by decide +kernel
theorem dL_law_612 : decode cL_law 612 = .ok (.iadd, 1) := by decide +kernel
theorem dL_law_613 : decode cL_law 613 = .ok (.iaload, 1) := by decide +kernel
theorem dL_law_614 : decode cL_law 614 = .ok (.invokevirtual 99, 3) := by decide +kernel
theorem dL_law_617 : decode cL_law 617 = .ok (.if_icmp .eq 28, 3) := by decide +kernel
theorem dL_law_620 : decode cL_law 620 = .ok (.iconst 0, 1) := by decide +kernel
theorem dL_law_621 : decode cL_law 621 = .ok (.ireturn, 1) := by decide +kernel
theorem dL_law_622 : decode cL_law 622 = .ok (.aload_n 1, 1) := by decide +kernel
theorem dL_law_623 : decode cL_law 623 = .ok (.aload_n 0, 1) := by decide +kernel
theorem dL_law_624 : decode cL_law 624 = .ok (.iload_n 3, 1) := by decide +kernel
theorem dL_law_625 : decode cL_law 625 = .ok (.iconst 1, 1) := by decide +kernel
theorem dL_law_626 : decode cL_law 626 = .ok (.iadd, 1) := by decide +kernel
theorem dL_law_627 : decode cL_law 627 = .ok (.iaload, 1) := by decide +kernel
theorem dL_law_628 : decode cL_law 628 = .ok (.invokevirtual 100, 3) := by decide +kernel
theorem dL_law_631 : decode cL_law 631 = .ok (.aload_n 2, 1) := by decide +kernel
theorem dL_law_632 : decode cL_law 632 = .ok (.aload_n 0, 1) := by decide +kernel
theorem dL_law_633 : decode cL_law 633 = .ok (.iload_n 3, 1) := by decide +kernel
theorem dL_law_634 : decode cL_law 634 = .ok (.iconst 1, 1) := by decide +kernel
theorem dL_law_635 : decode cL_law 635 = .ok (.iadd, 1) := by decide +kernel
theorem dL_law_636 : decode cL_law 636 = .ok (.iaload, 1) := by decide +kernel
theorem dL_law_637 : decode cL_law 637 = .ok (.invokevirtual 103, 3) := by decide +kernel
theorem dL_law_640 : decode cL_law 640 = .ok (.if_icmp .eq 5, 3) := by decide +kernel
theorem dL_law_643 : decode cL_law 643 = .ok (.iconst 0, 1) := by decide +kernel
theorem dL_law_644 : decode cL_law 644 = .ok (.ireturn, 1) := by decide +kernel
theorem dL_law_645 : decode cL_law 645 = .ok (.iinc 3 5, 3) := by decide +kernel
theorem dL_law_648 : decode cL_law 648 = .ok (.goto (-630), 3) := by decide +kernel
theorem dL_law_651 : decode cL_law 651 = .ok (.iconst 1, 1) := by decide +kernel
theorem dL_law_652 : decode cL_law 652 = .ok (.ireturn, 1) := by decide +kernel
end
section
theorem cp_up {n : Nat} {P : Nat → Prop} (h : ∀ i, i ≤ n → (i < n → P (i + 1)) → P i) : ∀ i, i ≤ n → P i := by
  have key : ∀ k i, i + k = n → P i := by
    intro k
    induction k with
    | zero => intro i hi; exact h i (by omega) (fun hl => absurd hl (by omega))
    | succ k ih => intro i hi; exact h i (by omega) (fun _ => ih (i + 1) (by omega))
  intro i hi
  exact key (n - i) i (by omega)
theorem cp_down {P : Nat → Prop} (h : ∀ i, (0 < i → P (i - 1)) → P i) : ∀ i, P i := by
  intro i
  induction i with
  | zero => exact h 0 (fun q => absurd q (by omega))
  | succ k ih => exact h (k + 1) (fun _ => ih)
theorem cp_ad {x y : Int32} {a b : Nat} (hx : x = nI a) (hy : y = nI b) : x + y = nI (a + b) := by rw [hx, hy, nI_add]
theorem cp_mu {x y : Int32} {a b : Nat} (hx : x = nI a) (hy : y = nI b) : x * y = nI (a * b) := by rw [hx, hy, pk_mul]
theorem cp_sb {x y : Int32} {a b : Nat} (hx : x = nI a) (hy : y = nI b) (h : b ≤ a) : x - y = nI (a - b) := by rw [hx, hy, pk_sub h]
theorem cp_inc {x : Int32} {i : Nat} (hx : x = nI i) : x + Int32.ofInt 1 = nI (i + 1) := by rw [hx]; exact nI_1 i
theorem cp_dec {x : Int32} {i : Nat} (hx : x = nI i) (h : 0 < i) : x + Int32.ofInt (-1) = nI (i - 1) := by
  obtain ⟨j, rfl⟩ : ∃ j, i = j + 1 := ⟨i - 1, by omega⟩
  rw [hx]
  exact pk_m1 j
def cp_bi (b : Bool) : Int32 := if b = true then 1 else 0
theorem cp_bi01 (b : Bool) : cp_bi b = 0 ∨ cp_bi b = 1 := by cases b <;> simp [cp_bi]
theorem cp_bin (b : Bool) : narrow .boolean (.int (cp_bi b)) = .int (cp_bi b) := (cp_narb (cp_bi01 b)).1
theorem cp_bi_t {b : Bool} (h : b = true) : (1 : Int32) = cp_bi b := by rw [h]; rfl
theorem cp_bi_f {b : Bool} (h : b = false) : (0 : Int32) = cp_bi b := by rw [h]; rfl
theorem cp_bi_td {p : Prop} [Decidable p] (h : p) : (1 : Int32) = cp_bi (decide p) := cp_bi_t (decide_eq_true h)
theorem cp_bi_fd {p : Prop} [Decidable p] (h : ¬ p) : (0 : Int32) = cp_bi (decide p) := cp_bi_f (decide_eq_false h)
theorem cp_bi0 {b : Bool} : cp_bi b = 0 ↔ b = false := by cases b <;> simp [cp_bi]
theorem cp_bi1 {b : Bool} : cp_bi b = 1 ↔ b = true := by cases b <;> simp [cp_bi]
def cp_LW (L L' : List (Option Value)) : Prop := ∀ (i : Nat) (v : Value), L'[i]? = some (some v) → L[i]? = some (some v)
theorem cp_lw0 : cp_LW [] [] := fun _ _ h => h
theorem cp_lws {a : Option Value} {L L' : List (Option Value)} (h : cp_LW L L') : cp_LW (a :: L) (a :: L') := fun i v hv => by
  cases i with
  | zero => simpa using hv
  | succ i => simp only [List.getElem?_cons_succ] at hv ⊢; exact h i v hv
theorem cp_lwn {a : Option Value} {L L' : List (Option Value)} (h : cp_LW L L') : cp_LW (a :: L) (none :: L') := fun i v hv => by
  cases i with
  | zero => simp at hv
  | succ i => simp only [List.getElem?_cons_succ] at hv ⊢; exact h i v hv
section CPH
variable {x : cp_Cx} {E : cp_En} {own : String} {bc : ByteArray} {nL d mc ms : Nat} {cells slots cnt : Nat} {sh : cp_Shp} {I : cp_Mem} {R : cp_Rem} {pc : Nat} {L : List (Option Value)} {st : List Value}
theorem cp_Gw {L' : List (Option Value)} (h : cp_LW L L') (k : cp_G x E nL cells slots cnt sh I R pc L' st) : cp_G x E nL cells slots cnt sh I R pc L st := fun H locs ls hW hS hl => k H locs ls hW hS ⟨hl.1, hl.2.1, fun q hq => by
  obtain ⟨i, v⟩ := q
  have h1 := ((cp_lq_in L' 0 i v).mp hq).2
  exact hl.2.2 (i, v) ((cp_lq_in L 0 i v).mpr ⟨Nat.zero_le _, h i v h1⟩)⟩
theorem cp_GI {I' : cp_Mem} (h : I = I') (k : cp_G x E nL cells slots cnt sh I' R pc L st) : cp_G x E nL cells slots cnt sh I R pc L st := h ▸ k
theorem cp_GL {L' : List (Option Value)} (h : L = L') (k : cp_G x E nL cells slots cnt sh I R pc L' st) : cp_G x E nL cells slots cnt sh I R pc L st := h ▸ k
theorem cp_GS {st' : List Value} (h : st = st') (k : cp_G x E nL cells slots cnt sh I R pc L st') : cp_G x E nL cells slots cnt sh I R pc L st := h ▸ k
theorem cp_Gc {cells' slots' : Nat} (h1 : cells ≤ cells') (h2 : slots ≤ slots') (k : cp_G x E nL cells' slots' cnt sh I R pc L st) : cp_G x E nL cells slots cnt sh I R pc L st := fun H locs ls hW hS hl => W.widen h1 h2 (k H locs ls hW hS hl)
theorem cp_icmp_eqN (O : cp_Ok x E own bc nL d mc ms) {x0 y0 : Int32} {a b : Nat} {off : Int} {tgt : Nat} (hd : decode bc pc = .ok (.if_icmp .eq off, 3)) (ht : (pc : Int) + off = (tgt : Int)) (hx : x0 = nI a) (hy : y0 = nI b) (ha : a < 2 ^ 31) (hb : b < 2 ^ 31) (kt : a = b → cp_G x E nL cells slots cnt sh I R tgt L st) (kf : a ≠ b → cp_G x E nL cells slots cnt sh I R (pc + 3) L st) : cp_G x E nL cells slots cnt sh I R pc L (.int y0 :: .int x0 :: st) := cp_icmp_eq O hd ht (fun h => kt ((nI_eq ha hb).mp (by rw [← hx, ← hy]; exact h))) (fun h => kf (fun e => h (by rw [hx, hy, e])))
theorem cp_icmp_neN (O : cp_Ok x E own bc nL d mc ms) {x0 y0 : Int32} {a b : Nat} {off : Int} {tgt : Nat} (hd : decode bc pc = .ok (.if_icmp .ne off, 3)) (ht : (pc : Int) + off = (tgt : Int)) (hx : x0 = nI a) (hy : y0 = nI b) (ha : a < 2 ^ 31) (hb : b < 2 ^ 31) (kt : a ≠ b → cp_G x E nL cells slots cnt sh I R tgt L st) (kf : a = b → cp_G x E nL cells slots cnt sh I R (pc + 3) L st) : cp_G x E nL cells slots cnt sh I R pc L (.int y0 :: .int x0 :: st) := cp_icmp_ne O hd ht (fun h => kt (fun e => h (by rw [hx, hy, e]))) (fun h => kf ((nI_eq ha hb).mp (by rw [← hx, ← hy]; exact h)))
theorem cp_icmp_ltN (O : cp_Ok x E own bc nL d mc ms) {x0 y0 : Int32} {a b : Nat} {off : Int} {tgt : Nat} (hd : decode bc pc = .ok (.if_icmp .lt off, 3)) (ht : (pc : Int) + off = (tgt : Int)) (hx : x0 = nI a) (hy : y0 = nI b) (ha : a < 2 ^ 31) (hb : b < 2 ^ 31) (kt : a < b → cp_G x E nL cells slots cnt sh I R tgt L st) (kf : b ≤ a → cp_G x E nL cells slots cnt sh I R (pc + 3) L st) : cp_G x E nL cells slots cnt sh I R pc L (.int y0 :: .int x0 :: st) := cp_icmp_lt O hd ht (fun h => kt ((nI_ltI ha hb).mp (by rw [← hx, ← hy]; exact h))) (fun h => kf (Nat.not_lt.mp (fun e => h (by rw [hx, hy]; exact (nI_ltI ha hb).mpr e))))
theorem cp_icmp_geN (O : cp_Ok x E own bc nL d mc ms) {x0 y0 : Int32} {a b : Nat} {off : Int} {tgt : Nat} (hd : decode bc pc = .ok (.if_icmp .ge off, 3)) (ht : (pc : Int) + off = (tgt : Int)) (hx : x0 = nI a) (hy : y0 = nI b) (ha : a < 2 ^ 31) (hb : b < 2 ^ 31) (kt : b ≤ a → cp_G x E nL cells slots cnt sh I R tgt L st) (kf : a < b → cp_G x E nL cells slots cnt sh I R (pc + 3) L st) : cp_G x E nL cells slots cnt sh I R pc L (.int y0 :: .int x0 :: st) := cp_icmp_ge O hd ht (fun h => kt ((nI_leI hb ha).mp (by rw [← hx, ← hy]; exact h))) (fun h => kf (Nat.not_le.mp (fun e => h (by rw [hx, hy]; exact (nI_leI hb ha).mpr e))))
theorem cp_icmp_gtN (O : cp_Ok x E own bc nL d mc ms) {x0 y0 : Int32} {a b : Nat} {off : Int} {tgt : Nat} (hd : decode bc pc = .ok (.if_icmp .gt off, 3)) (ht : (pc : Int) + off = (tgt : Int)) (hx : x0 = nI a) (hy : y0 = nI b) (ha : a < 2 ^ 31) (hb : b < 2 ^ 31) (kt : b < a → cp_G x E nL cells slots cnt sh I R tgt L st) (kf : a ≤ b → cp_G x E nL cells slots cnt sh I R (pc + 3) L st) : cp_G x E nL cells slots cnt sh I R pc L (.int y0 :: .int x0 :: st) := cp_icmp_gt O hd ht (fun h => kt ((nI_ltI hb ha).mp (by rw [← hx, ← hy]; exact h))) (fun h => kf (Nat.not_lt.mp (fun e => h (by rw [hx, hy]; exact (nI_ltI hb ha).mpr e))))
theorem cp_icmp_leN (O : cp_Ok x E own bc nL d mc ms) {x0 y0 : Int32} {a b : Nat} {off : Int} {tgt : Nat} (hd : decode bc pc = .ok (.if_icmp .le off, 3)) (ht : (pc : Int) + off = (tgt : Int)) (hx : x0 = nI a) (hy : y0 = nI b) (ha : a < 2 ^ 31) (hb : b < 2 ^ 31) (kt : a ≤ b → cp_G x E nL cells slots cnt sh I R tgt L st) (kf : b < a → cp_G x E nL cells slots cnt sh I R (pc + 3) L st) : cp_G x E nL cells slots cnt sh I R pc L (.int y0 :: .int x0 :: st) := cp_icmp_le O hd ht (fun h => kt ((nI_leI ha hb).mp (by rw [← hx, ← hy]; exact h))) (fun h => kf (Nat.not_le.mp (fun e => h (by rw [hx, hy]; exact (nI_leI ha hb).mpr e))))
theorem cp_if_eqB (O : cp_Ok x E own bc nL d mc ms) {b : Bool} {off : Int} {tgt : Nat} (hd : decode bc pc = .ok (.ifCond .eq off, 3)) (ht : (pc : Int) + off = (tgt : Int)) (kt : b = false → cp_G x E nL cells slots cnt sh I R tgt L st) (kf : b = true → cp_G x E nL cells slots cnt sh I R (pc + 3) L st) : cp_G x E nL cells slots cnt sh I R pc L (.int (cp_bi b) :: st) := cp_if_eq O hd ht (fun h => kt (cp_bi0.mp h)) (fun h => kf (by cases b; exact absurd rfl h; rfl))
theorem cp_if_neB (O : cp_Ok x E own bc nL d mc ms) {b : Bool} {off : Int} {tgt : Nat} (hd : decode bc pc = .ok (.ifCond .ne off, 3)) (ht : (pc : Int) + off = (tgt : Int)) (kt : b = true → cp_G x E nL cells slots cnt sh I R tgt L st) (kf : b = false → cp_G x E nL cells slots cnt sh I R (pc + 3) L st) : cp_G x E nL cells slots cnt sh I R pc L (.int (cp_bi b) :: st) := cp_if_ne O hd ht (fun h => kt (by cases b; exact absurd rfl h; rfl)) (fun h => kf (cp_bi0.mp h))
end CPH
def cp_NL (sh : cp_Shp) (R : cp_Rem) (b : Nat) : Prop := (sh b = (2, 0)) ∧ (R b 0 = some (b + 1)) ∧ (sh (b + 1) = (9, 4)) ∧ (R b 2 = some (b + 2)) ∧ (sh (b + 2) = (12, 24)) ∧ (∀ i, i < 24 → R (b + 2) i = some (b + 3 + i)) ∧ (∀ i, i < 24 → sh (b + 3 + i) = (5, 0)) ∧ (R b 4 = some (b + 27)) ∧ (sh (b + 27) = (13, 8)) ∧ (∀ i, i < 8 → R (b + 27) i = some (b + 28 + i)) ∧ (∀ i, i < 8 → sh (b + 28 + i) = (6, 0))
theorem cp_NL.s {sh : cp_Shp} {R : cp_Rem} {b : Nat} (h : cp_NL sh R b) : sh b = (2, 0) := h.1
theorem cp_NL.set {sh : cp_Shp} {R : cp_Rem} {b : Nat} (h : cp_NL sh R b) : R b 0 = some (b + 1) := h.2.1
theorem cp_NL.sset {sh : cp_Shp} {R : cp_Rem} {b : Nat} (h : cp_NL sh R b) : sh (b + 1) = (9, 4) := h.2.2.1
theorem cp_NL.pcs {sh : cp_Shp} {R : cp_Rem} {b : Nat} (h : cp_NL sh R b) : R b 2 = some (b + 2) := h.2.2.2.1
theorem cp_NL.spcs {sh : cp_Shp} {R : cp_Rem} {b : Nat} (h : cp_NL sh R b) : sh (b + 2) = (12, 24) := h.2.2.2.2.1
theorem cp_NL.pc {sh : cp_Shp} {R : cp_Rem} {b : Nat} (h : cp_NL sh R b) {i : Nat} (hi : i < 24) : R (b + 2) i = some (b + 3 + i) := h.2.2.2.2.2.1 i hi
theorem cp_NL.spc {sh : cp_Shp} {R : cp_Rem} {b : Nat} (h : cp_NL sh R b) {i : Nat} (hi : i < 24) : sh (b + 3 + i) = (5, 0) := h.2.2.2.2.2.2.1 i hi
theorem cp_NL.pls {sh : cp_Shp} {R : cp_Rem} {b : Nat} (h : cp_NL sh R b) : R b 4 = some (b + 27) := h.2.2.2.2.2.2.2.1
theorem cp_NL.spls {sh : cp_Shp} {R : cp_Rem} {b : Nat} (h : cp_NL sh R b) : sh (b + 27) = (13, 8) := h.2.2.2.2.2.2.2.2.1
theorem cp_NL.pl {sh : cp_Shp} {R : cp_Rem} {b : Nat} (h : cp_NL sh R b) {i : Nat} (hi : i < 8) : R (b + 27) i = some (b + 28 + i) := h.2.2.2.2.2.2.2.2.2.1 i hi
theorem cp_NL.spl {sh : cp_Shp} {R : cp_Rem} {b : Nat} (h : cp_NL sh R b) {i : Nat} (hi : i < 8) : sh (b + 28 + i) = (6, 0) := h.2.2.2.2.2.2.2.2.2.2 i hi
def cp_ML (sh : cp_Shp) (R : cp_Rem) (m : Nat) : Prop := (sh m = (8, 0)) ∧ (R m 0 = some (m + 1)) ∧ (R m 1 = some (m + 2)) ∧ (R m 2 = some (m + 3)) ∧ (R m 3 = some (m + 4)) ∧ (R m 5 = some (m + 5)) ∧ (R m 6 = some (m + 6)) ∧ (R m 9 = some (m + 7)) ∧ (sh (m + 1) = (9, 420)) ∧ (sh (m + 2) = (9, 420)) ∧ (sh (m + 3) = (9, 420)) ∧ (sh (m + 4) = (9, 2520)) ∧ (sh (m + 5) = (9, 840)) ∧ (sh (m + 6) = (9, 2)) ∧ (sh (m + 7) = (9, 80))
theorem cp_ML.s {sh : cp_Shp} {R : cp_Rem} {m : Nat} (h : cp_ML sh R m) : sh m = (8, 0) := h.1
theorem cp_ML.f0 {sh : cp_Shp} {R : cp_Rem} {m : Nat} (h : cp_ML sh R m) : R m 0 = some (m + 1) := h.2.1
theorem cp_ML.f1 {sh : cp_Shp} {R : cp_Rem} {m : Nat} (h : cp_ML sh R m) : R m 1 = some (m + 2) := h.2.2.1
theorem cp_ML.f2 {sh : cp_Shp} {R : cp_Rem} {m : Nat} (h : cp_ML sh R m) : R m 2 = some (m + 3) := h.2.2.2.1
theorem cp_ML.f3 {sh : cp_Shp} {R : cp_Rem} {m : Nat} (h : cp_ML sh R m) : R m 3 = some (m + 4) := h.2.2.2.2.1
theorem cp_ML.f5 {sh : cp_Shp} {R : cp_Rem} {m : Nat} (h : cp_ML sh R m) : R m 5 = some (m + 5) := h.2.2.2.2.2.1
theorem cp_ML.f6 {sh : cp_Shp} {R : cp_Rem} {m : Nat} (h : cp_ML sh R m) : R m 6 = some (m + 6) := h.2.2.2.2.2.2.1
theorem cp_ML.f9 {sh : cp_Shp} {R : cp_Rem} {m : Nat} (h : cp_ML sh R m) : R m 9 = some (m + 7) := h.2.2.2.2.2.2.2.1
theorem cp_ML.s0 {sh : cp_Shp} {R : cp_Rem} {m : Nat} (h : cp_ML sh R m) : sh (m + 1) = (9, 420) := h.2.2.2.2.2.2.2.2.1
theorem cp_ML.s1 {sh : cp_Shp} {R : cp_Rem} {m : Nat} (h : cp_ML sh R m) : sh (m + 2) = (9, 420) := h.2.2.2.2.2.2.2.2.2.1
theorem cp_ML.s2 {sh : cp_Shp} {R : cp_Rem} {m : Nat} (h : cp_ML sh R m) : sh (m + 3) = (9, 420) := h.2.2.2.2.2.2.2.2.2.2.1
theorem cp_ML.s3 {sh : cp_Shp} {R : cp_Rem} {m : Nat} (h : cp_ML sh R m) : sh (m + 4) = (9, 2520) := h.2.2.2.2.2.2.2.2.2.2.2.1
theorem cp_ML.s5 {sh : cp_Shp} {R : cp_Rem} {m : Nat} (h : cp_ML sh R m) : sh (m + 5) = (9, 840) := h.2.2.2.2.2.2.2.2.2.2.2.2.1
theorem cp_ML.s6 {sh : cp_Shp} {R : cp_Rem} {m : Nat} (h : cp_ML sh R m) : sh (m + 6) = (9, 2) := h.2.2.2.2.2.2.2.2.2.2.2.2.2.1
theorem cp_ML.s9 {sh : cp_Shp} {R : cp_Rem} {m : Nat} (h : cp_ML sh R m) : sh (m + 7) = (9, 80) := h.2.2.2.2.2.2.2.2.2.2.2.2.2.2
end
section
/-! OVERLAYS: a row; the model (its fields f, its arrays r 1 to r 7); a night (its fields o, settings S, pieces P, plates Q) -/
def cp_row (I : cp_Mem) (a : Nat) (f : Nat → Int32) : cp_Mem := fun x => if x = a then f else I x
theorem cp_row_s (I : cp_Mem) (a : Nat) (f : Nat → Int32) : cp_row I a f a = f := by simp [cp_row]
theorem cp_row_n (I : cp_Mem) {a x : Nat} (f : Nat → Int32) (h : x ≠ a) : cp_row I a f x = I x := by simp [cp_row, h]
theorem cp_row_self (I : cp_Mem) (a : Nat) : cp_row I a (I a) = I := by funext x; by_cases h : x = a <;> simp [cp_row, h]
theorem cp_row_row (I : cp_Mem) (a : Nat) (f g : Nat → Int32) : cp_row (cp_row I a f) a g = cp_row I a g := by funext x; by_cases h : x = a <;> simp [cp_row, h]
theorem cp_row_wi (I : cp_Mem) (a j : Nat) (f : Nat → Int32) (v : Int32) : cp_wi (cp_row I a f) a j v = cp_row I a (upd f j v) := by
  funext x q
  by_cases h : x = a
  · subst h; simp [cp_wi, cp_row, upd]
  · simp [cp_wi, cp_row, h]
theorem cp_wi_row (I : cp_Mem) (a j : Nat) (v : Int32) : cp_wi I a j v = cp_row I a (upd (I a) j v) := by
  funext x q
  by_cases h : x = a
  · subst h; simp [cp_wi, cp_row, upd]
  · simp [cp_wi, cp_row, h]
def cp_mm (J : cp_Mem) (m : Nat) (f : Nat → Int32) (r : Nat → Nat → Int32) : cp_Mem := fun x => if x = m then f else if m < x ∧ x ≤ m + 7 then r (x - m) else J x
theorem cp_mm_f (J : cp_Mem) (m : Nat) (f : Nat → Int32) (r : Nat → Nat → Int32) : cp_mm J m f r m = f := by simp [cp_mm]
theorem cp_mm_r (J : cp_Mem) (m : Nat) (f : Nat → Int32) (r : Nat → Nat → Int32) {k : Nat} (h : 0 < k ∧ k ≤ 7) : cp_mm J m f r (m + k) = r k := by
  unfold cp_mm
  rw [if_neg (by omega), if_pos (by omega), show m + k - m = k by omega]
theorem cp_mm_o (J : cp_Mem) {m x : Nat} (f : Nat → Int32) (r : Nat → Nat → Int32) (h : x < m ∨ m + 7 < x) : cp_mm J m f r x = J x := by
  unfold cp_mm
  rw [if_neg (by omega), if_neg (by omega)]
theorem cp_mm_self (I : cp_Mem) (m : Nat) : cp_mm I m (I m) (fun k => I (m + k)) = I := by
  funext x
  unfold cp_mm
  by_cases h : x = m
  · rw [if_pos h, h]
  · rw [if_neg h]
    by_cases h2 : m < x ∧ x ≤ m + 7
    · rw [if_pos h2]
      exact congrArg I (by omega)
    · rw [if_neg h2]
theorem cp_mm_wf (J : cp_Mem) (m : Nat) (f : Nat → Int32) (r : Nat → Nat → Int32) (j : Nat) (v : Int32) : cp_wi (cp_mm J m f r) m j v = cp_mm J m (upd f j v) r := by
  funext x q
  by_cases h : x = m
  · subst h; simp [cp_wi, cp_mm, upd]
  · simp [cp_wi, cp_mm, h]
theorem cp_mm_wr (J : cp_Mem) (m : Nat) (f : Nat → Int32) (r : Nat → Nat → Int32) {k : Nat} (hk : 0 < k ∧ k ≤ 7) (j : Nat) (v : Int32) : cp_wi (cp_mm J m f r) (m + k) j v = cp_mm J m f (cp_wi r k j v) := by
  funext x q
  unfold cp_wi cp_mm
  by_cases h : x = m + k
  · subst h
    rw [if_neg (show ¬ m + k = m by omega), if_neg (show ¬ m + k = m by omega), if_pos (show m < m + k ∧ m + k ≤ m + 7 by omega), if_pos (show m < m + k ∧ m + k ≤ m + 7 by omega), show m + k - m = k by omega]
    simp
  · have h1 : ¬ (x = m + k ∧ q = j) := fun z => h z.1
    rw [if_neg h1]
    by_cases h2 : x = m
    · rw [if_pos h2, if_pos h2]
    · rw [if_neg h2, if_neg h2]
      by_cases h3 : m < x ∧ x ≤ m + 7
      · rw [if_pos h3, if_pos h3]
        exact (if_neg (fun z => by omega)).symm
      · rw [if_neg h3, if_neg h3]
def cp_nn (J : cp_Mem) (b : Nat) (o S : Nat → Int32) (P Q : Nat → Nat → Int32) : cp_Mem := fun x => if x = b then o else if x = b + 1 then S else if b + 3 ≤ x ∧ x < b + 27 then P (x - (b + 3)) else if b + 28 ≤ x ∧ x < b + 36 then Q (x - (b + 28)) else J x
section CPN
variable (J : cp_Mem) (b : Nat) (o S : Nat → Int32) (P Q : Nat → Nat → Int32)
theorem cp_nn_o : cp_nn J b o S P Q b = o := by simp [cp_nn]
theorem cp_nn_S : cp_nn J b o S P Q (b + 1) = S := by simp [cp_nn]
theorem cp_nn_P {i : Nat} (h : i < 24) : cp_nn J b o S P Q (b + 3 + i) = P i := by
  unfold cp_nn
  rw [if_neg (by omega), if_neg (by omega), if_pos (by omega), show b + 3 + i - (b + 3) = i by omega]
theorem cp_nn_Q {i : Nat} (h : i < 8) : cp_nn J b o S P Q (b + 28 + i) = Q i := by
  unfold cp_nn
  rw [if_neg (by omega), if_neg (by omega), if_neg (by omega), if_pos (by omega), show b + 28 + i - (b + 28) = i by omega]
theorem cp_nn_x {x : Nat} (h : x < b ∨ b + 36 ≤ x) : cp_nn J b o S P Q x = J x := by
  unfold cp_nn
  rw [if_neg (by omega), if_neg (by omega), if_neg (by omega), if_neg (by omega)]
theorem cp_nn_self : cp_nn J b (J b) (J (b + 1)) (fun i => J (b + 3 + i)) (fun i => J (b + 28 + i)) = J := by
  funext x
  unfold cp_nn
  by_cases h : x = b
  · rw [if_pos h, h]
  · rw [if_neg h]
    by_cases h1 : x = b + 1
    · rw [if_pos h1, h1]
    · rw [if_neg h1]
      by_cases h2 : b + 3 ≤ x ∧ x < b + 27
      · rw [if_pos h2]
        exact congrArg J (by omega)
      · rw [if_neg h2]
        by_cases h3 : b + 28 ≤ x ∧ x < b + 36
        · rw [if_pos h3]
          exact congrArg J (by omega)
        · rw [if_neg h3]
theorem cp_nn_ro (f : Nat → Int32) : cp_row (cp_nn J b o S P Q) b f = cp_nn J b f S P Q := by
  funext x
  unfold cp_row cp_nn
  by_cases h : x = b
  · rw [if_pos h, if_pos h]
  · rw [if_neg h, if_neg h, if_neg h]
theorem cp_nn_rS (f : Nat → Int32) : cp_row (cp_nn J b o S P Q) (b + 1) f = cp_nn J b o f P Q := by
  funext x
  unfold cp_row cp_nn
  by_cases h : x = b + 1
  · rw [if_pos h, if_neg (by omega), if_pos h]
  · rw [if_neg h, if_neg h, if_neg h]
theorem cp_nn_rP {i : Nat} (hi : i < 24) (f : Nat → Int32) : cp_row (cp_nn J b o S P Q) (b + 3 + i) f = cp_nn J b o S (cp_row P i f) Q := by
  funext x
  unfold cp_row cp_nn
  by_cases h : x = b + 3 + i
  · rw [if_pos h, if_neg (by omega), if_neg (by omega), if_pos (by omega)]
    exact (if_pos (by omega)).symm
  · rw [if_neg h]
    by_cases h1 : x = b
    · rw [if_pos h1, if_pos h1]
    · rw [if_neg h1, if_neg h1]
      by_cases h2 : x = b + 1
      · rw [if_pos h2, if_pos h2]
      · rw [if_neg h2, if_neg h2]
        by_cases h3 : b + 3 ≤ x ∧ x < b + 27
        · rw [if_pos h3, if_pos h3]
          exact (if_neg (by omega)).symm
        · rw [if_neg h3, if_neg h3]
theorem cp_nn_rQ {i : Nat} (hi : i < 8) (f : Nat → Int32) : cp_row (cp_nn J b o S P Q) (b + 28 + i) f = cp_nn J b o S P (cp_row Q i f) := by
  funext x
  unfold cp_row cp_nn
  by_cases h : x = b + 28 + i
  · rw [if_pos h, if_neg (by omega), if_neg (by omega), if_neg (by omega), if_pos (by omega)]
    exact (if_pos (by omega)).symm
  · rw [if_neg h]
    by_cases h1 : x = b
    · rw [if_pos h1, if_pos h1]
    · rw [if_neg h1, if_neg h1]
      by_cases h2 : x = b + 1
      · rw [if_pos h2, if_pos h2]
      · rw [if_neg h2, if_neg h2]
        by_cases h3 : b + 3 ≤ x ∧ x < b + 27
        · rw [if_pos h3, if_pos h3]
        · rw [if_neg h3, if_neg h3]
          by_cases h4 : b + 28 ≤ x ∧ x < b + 36
          · rw [if_pos h4, if_pos h4]
            exact (if_neg (by omega)).symm
          · rw [if_neg h4, if_neg h4]
end CPN
theorem cp_Fn_eq {l : Launch} {E : cp_En} {y : MethodName} {bc : ByteArray} {nL : Nat} {ret : Option FieldType} {d : Nat} {as : List Value} {cnt : Nat} {sh : cp_Shp} {I : cp_Mem} {R : cp_Rem} {v v' : Option Value} {I' I'' : cp_Mem} (h : cp_Fn l E y bc nL ret d as cnt sh I R v I') (hv : v = v') (hI : I' = I'') : cp_Fn l E y bc nL ret d as cnt sh I R v' I'' := by
  subst hv; subst hI; exact h
section CPV
variable {x : cp_Cx} {E : cp_En} {bc : ByteArray} {nL d mc ms cells slots cnt : Nat} {sh : cp_Shp} {R : cp_Rem} {pc : Nat} {L : List (Option Value)} {st : List Value} {own : String} {J : cp_Mem} {m b : Nat} {f o S : Nat → Int32} {r P Q : Nat → Nat → Int32}
theorem cp_ialdM (O : cp_Ok x E own bc nL d mc ms) {k n j : Nat} {i : Int32} (hs : sh (m + k) = (9, n)) (hk : 0 < k ∧ k ≤ 7) (hi : i = nI j) (hj : j < n) (hn : n < 2 ^ 31) (hd : decode bc pc = .ok (.iaload, 1)) (kk : cp_G x E nL cells slots cnt sh (cp_mm J m f r) R (pc + 1) L (.int (r k j) :: st)) : cp_G x E nL cells slots cnt sh (cp_mm J m f r) R pc L (.int i :: .ref (m + k) :: st) := by
  refine cp_iald O hs hi hj hn hd ?_
  rw [cp_mm_r J m f r hk]
  exact kk
theorem cp_iastM (O : cp_Ok x E own bc nL d mc ms) {k n j : Nat} {i v : Int32} (hs : sh (m + k) = (9, n)) (hk : 0 < k ∧ k ≤ 7) (hi : i = nI j) (hj : j < n) (hn : n < 2 ^ 31) (hd : decode bc pc = .ok (.iastore, 1)) (kk : cp_G x E nL cells slots cnt sh (cp_mm J m f (cp_wi r k j v)) R (pc + 1) L st) : cp_G x E nL cells slots cnt sh (cp_mm J m f r) R pc L (.int v :: .int i :: .ref (m + k) :: st) := by
  refine cp_iast O hs hi hj hn hd ?_
  rw [cp_mm_wr J m f r hk]
  exact kk
theorem cp_ialdS (O : cp_Ok x E own bc nL d mc ms) {j : Nat} {i : Int32} (N : cp_NL sh R b) (hi : i = nI j) (hj : j < 4) (hd : decode bc pc = .ok (.iaload, 1)) (kk : cp_G x E nL cells slots cnt sh (cp_nn J b o S P Q) R (pc + 1) L (.int (S j) :: st)) : cp_G x E nL cells slots cnt sh (cp_nn J b o S P Q) R pc L (.int i :: .ref (b + 1) :: st) := by
  refine cp_iald O N.sset hi hj (by decide) hd ?_
  rw [cp_nn_S]
  exact kk
theorem cp_iastS (O : cp_Ok x E own bc nL d mc ms) {j : Nat} {i v : Int32} (N : cp_NL sh R b) (hi : i = nI j) (hj : j < 4) (hd : decode bc pc = .ok (.iastore, 1)) (kk : cp_G x E nL cells slots cnt sh (cp_nn J b o (upd S j v) P Q) R (pc + 1) L st) : cp_G x E nL cells slots cnt sh (cp_nn J b o S P Q) R pc L (.int v :: .int i :: .ref (b + 1) :: st) := by
  refine cp_iast O N.sset hi hj (by decide) hd ?_
  rw [cp_wi_row, cp_nn_S, cp_nn_rS]
  exact kk
theorem rg_X4_9 (O : cp_Ok x E RX4 bc nL d mc ms) {a : Nat} {g : Nat → Int32} (hs : sh a = (5, 0)) (hd : decode bc pc = .ok (.getfield 9, 3)) (k : cp_G x E nL cells slots cnt sh (cp_row J a g) R (pc + 3) L (.int (g 0) :: st)) : cp_G x E nL cells slots cnt sh (cp_row J a g) R pc L (.ref a :: st) := by
  refine fg_X4_9 O hs hd ?_
  rw [cp_row_s]
  exact k
theorem rp_X4_9 (O : cp_Ok x E RX4 bc nL d mc ms) {v : Int32} {a : Nat} {g : Nat → Int32} (hs : sh a = (5, 0)) (hd : decode bc pc = .ok (.putfield 9, 3)) (k : cp_G x E nL cells slots cnt sh (cp_row J a (upd g 0 v)) R (pc + 3) L st) : cp_G x E nL cells slots cnt sh (cp_row J a g) R pc L (.int v :: .ref a :: st) := by
  refine fp_X4_9 O hs hd ?_
  rw [cp_row_wi]
  exact k
theorem pg_X1_115 (O : cp_Ok x E RX1 bc nL d mc ms) (N : cp_NL sh R b) {i : Nat} (hi : i < 24) (hd : decode bc pc = .ok (.getfield 115, 3)) (k : cp_G x E nL cells slots cnt sh (cp_nn J b o S P Q) R (pc + 3) L (.int (P i 0) :: st)) : cp_G x E nL cells slots cnt sh (cp_nn J b o S P Q) R pc L (.ref (b + 3 + i) :: st) := by
  refine fg_X1_115 O (N.spc hi) hd ?_
  rw [cp_nn_P _ _ _ _ _ _ hi]
  exact k
theorem pp_X1_115 (O : cp_Ok x E RX1 bc nL d mc ms) {v : Int32} (N : cp_NL sh R b) {i : Nat} (hi : i < 24) (hd : decode bc pc = .ok (.putfield 115, 3)) (k : cp_G x E nL cells slots cnt sh (cp_nn J b o S (cp_wi P i 0 v) Q) R (pc + 3) L st) : cp_G x E nL cells slots cnt sh (cp_nn J b o S P Q) R pc L (.int v :: .ref (b + 3 + i) :: st) := by
  refine fp_X1_115 O (N.spc hi) hd ?_
  rw [cp_wi_row, cp_nn_P _ _ _ _ _ _ hi, cp_nn_rP _ _ _ _ _ _ hi, ← cp_wi_row]
  exact k
theorem rg_X1_115 (O : cp_Ok x E RX1 bc nL d mc ms) {a : Nat} {g : Nat → Int32} (hs : sh a = (5, 0)) (hd : decode bc pc = .ok (.getfield 115, 3)) (k : cp_G x E nL cells slots cnt sh (cp_row J a g) R (pc + 3) L (.int (g 0) :: st)) : cp_G x E nL cells slots cnt sh (cp_row J a g) R pc L (.ref a :: st) := by
  refine fg_X1_115 O hs hd ?_
  rw [cp_row_s]
  exact k
theorem rp_X1_115 (O : cp_Ok x E RX1 bc nL d mc ms) {v : Int32} {a : Nat} {g : Nat → Int32} (hs : sh a = (5, 0)) (hd : decode bc pc = .ok (.putfield 115, 3)) (k : cp_G x E nL cells slots cnt sh (cp_row J a (upd g 0 v)) R (pc + 3) L st) : cp_G x E nL cells slots cnt sh (cp_row J a g) R pc L (.int v :: .ref a :: st) := by
  refine fp_X1_115 O hs hd ?_
  rw [cp_row_wi]
  exact k
theorem rg_X4_15 (O : cp_Ok x E RX4 bc nL d mc ms) {a : Nat} {g : Nat → Int32} (hs : sh a = (5, 0)) (hd : decode bc pc = .ok (.getfield 15, 3)) (k : cp_G x E nL cells slots cnt sh (cp_row J a g) R (pc + 3) L (.int (g 1) :: st)) : cp_G x E nL cells slots cnt sh (cp_row J a g) R pc L (.ref a :: st) := by
  refine fg_X4_15 O hs hd ?_
  rw [cp_row_s]
  exact k
theorem rp_X4_15 (O : cp_Ok x E RX4 bc nL d mc ms) {v : Int32} {a : Nat} {g : Nat → Int32} (hs : sh a = (5, 0)) (hd : decode bc pc = .ok (.putfield 15, 3)) (k : cp_G x E nL cells slots cnt sh (cp_row J a (upd g 1 v)) R (pc + 3) L st) : cp_G x E nL cells slots cnt sh (cp_row J a g) R pc L (.int v :: .ref a :: st) := by
  refine fp_X4_15 O hs hd ?_
  rw [cp_row_wi]
  exact k
theorem pg_X1_144 (O : cp_Ok x E RX1 bc nL d mc ms) (N : cp_NL sh R b) {i : Nat} (hi : i < 24) (hd : decode bc pc = .ok (.getfield 144, 3)) (k : cp_G x E nL cells slots cnt sh (cp_nn J b o S P Q) R (pc + 3) L (.int (P i 1) :: st)) : cp_G x E nL cells slots cnt sh (cp_nn J b o S P Q) R pc L (.ref (b + 3 + i) :: st) := by
  refine fg_X1_144 O (N.spc hi) hd ?_
  rw [cp_nn_P _ _ _ _ _ _ hi]
  exact k
theorem pp_X1_144 (O : cp_Ok x E RX1 bc nL d mc ms) {v : Int32} (N : cp_NL sh R b) {i : Nat} (hi : i < 24) (hd : decode bc pc = .ok (.putfield 144, 3)) (k : cp_G x E nL cells slots cnt sh (cp_nn J b o S (cp_wi P i 1 v) Q) R (pc + 3) L st) : cp_G x E nL cells slots cnt sh (cp_nn J b o S P Q) R pc L (.int v :: .ref (b + 3 + i) :: st) := by
  refine fp_X1_144 O (N.spc hi) hd ?_
  rw [cp_wi_row, cp_nn_P _ _ _ _ _ _ hi, cp_nn_rP _ _ _ _ _ _ hi, ← cp_wi_row]
  exact k
theorem rg_X1_144 (O : cp_Ok x E RX1 bc nL d mc ms) {a : Nat} {g : Nat → Int32} (hs : sh a = (5, 0)) (hd : decode bc pc = .ok (.getfield 144, 3)) (k : cp_G x E nL cells slots cnt sh (cp_row J a g) R (pc + 3) L (.int (g 1) :: st)) : cp_G x E nL cells slots cnt sh (cp_row J a g) R pc L (.ref a :: st) := by
  refine fg_X1_144 O hs hd ?_
  rw [cp_row_s]
  exact k
theorem rp_X1_144 (O : cp_Ok x E RX1 bc nL d mc ms) {v : Int32} {a : Nat} {g : Nat → Int32} (hs : sh a = (5, 0)) (hd : decode bc pc = .ok (.putfield 144, 3)) (k : cp_G x E nL cells slots cnt sh (cp_row J a (upd g 1 v)) R (pc + 3) L st) : cp_G x E nL cells slots cnt sh (cp_row J a g) R pc L (.int v :: .ref a :: st) := by
  refine fp_X1_144 O hs hd ?_
  rw [cp_row_wi]
  exact k
theorem rg_X4_18 (O : cp_Ok x E RX4 bc nL d mc ms) {a : Nat} {g : Nat → Int32} (hs : sh a = (5, 0)) (hd : decode bc pc = .ok (.getfield 18, 3)) (k : cp_G x E nL cells slots cnt sh (cp_row J a g) R (pc + 3) L (.int (g 2) :: st)) : cp_G x E nL cells slots cnt sh (cp_row J a g) R pc L (.ref a :: st) := by
  refine fg_X4_18 O hs hd ?_
  rw [cp_row_s]
  exact k
theorem rp_X4_18 (O : cp_Ok x E RX4 bc nL d mc ms) {v : Int32} {a : Nat} {g : Nat → Int32} (hs : sh a = (5, 0)) (hd : decode bc pc = .ok (.putfield 18, 3)) (k : cp_G x E nL cells slots cnt sh (cp_row J a (upd g 2 v)) R (pc + 3) L st) : cp_G x E nL cells slots cnt sh (cp_row J a g) R pc L (.int v :: .ref a :: st) := by
  refine fp_X4_18 O hs hd ?_
  rw [cp_row_wi]
  exact k
theorem pg_X1_156 (O : cp_Ok x E RX1 bc nL d mc ms) (N : cp_NL sh R b) {i : Nat} (hi : i < 24) (hd : decode bc pc = .ok (.getfield 156, 3)) (k : cp_G x E nL cells slots cnt sh (cp_nn J b o S P Q) R (pc + 3) L (.int (P i 2) :: st)) : cp_G x E nL cells slots cnt sh (cp_nn J b o S P Q) R pc L (.ref (b + 3 + i) :: st) := by
  refine fg_X1_156 O (N.spc hi) hd ?_
  rw [cp_nn_P _ _ _ _ _ _ hi]
  exact k
theorem pp_X1_156 (O : cp_Ok x E RX1 bc nL d mc ms) {v : Int32} (N : cp_NL sh R b) {i : Nat} (hi : i < 24) (hd : decode bc pc = .ok (.putfield 156, 3)) (k : cp_G x E nL cells slots cnt sh (cp_nn J b o S (cp_wi P i 2 v) Q) R (pc + 3) L st) : cp_G x E nL cells slots cnt sh (cp_nn J b o S P Q) R pc L (.int v :: .ref (b + 3 + i) :: st) := by
  refine fp_X1_156 O (N.spc hi) hd ?_
  rw [cp_wi_row, cp_nn_P _ _ _ _ _ _ hi, cp_nn_rP _ _ _ _ _ _ hi, ← cp_wi_row]
  exact k
theorem rg_X1_156 (O : cp_Ok x E RX1 bc nL d mc ms) {a : Nat} {g : Nat → Int32} (hs : sh a = (5, 0)) (hd : decode bc pc = .ok (.getfield 156, 3)) (k : cp_G x E nL cells slots cnt sh (cp_row J a g) R (pc + 3) L (.int (g 2) :: st)) : cp_G x E nL cells slots cnt sh (cp_row J a g) R pc L (.ref a :: st) := by
  refine fg_X1_156 O hs hd ?_
  rw [cp_row_s]
  exact k
theorem rp_X1_156 (O : cp_Ok x E RX1 bc nL d mc ms) {v : Int32} {a : Nat} {g : Nat → Int32} (hs : sh a = (5, 0)) (hd : decode bc pc = .ok (.putfield 156, 3)) (k : cp_G x E nL cells slots cnt sh (cp_row J a (upd g 2 v)) R (pc + 3) L st) : cp_G x E nL cells slots cnt sh (cp_row J a g) R pc L (.int v :: .ref a :: st) := by
  refine fp_X1_156 O hs hd ?_
  rw [cp_row_wi]
  exact k
theorem rg_X4_21 (O : cp_Ok x E RX4 bc nL d mc ms) {a : Nat} {g : Nat → Int32} (hs : sh a = (5, 0)) (hd : decode bc pc = .ok (.getfield 21, 3)) (k : cp_G x E nL cells slots cnt sh (cp_row J a g) R (pc + 3) L (.int (g 3) :: st)) : cp_G x E nL cells slots cnt sh (cp_row J a g) R pc L (.ref a :: st) := by
  refine fg_X4_21 O hs hd ?_
  rw [cp_row_s]
  exact k
theorem rp_X4_21 (O : cp_Ok x E RX4 bc nL d mc ms) {v : Int32} {a : Nat} {g : Nat → Int32} (hs : sh a = (5, 0)) (hv : v = 0 ∨ v = 1) (hd : decode bc pc = .ok (.putfield 21, 3)) (k : cp_G x E nL cells slots cnt sh (cp_row J a (upd g 3 v)) R (pc + 3) L st) : cp_G x E nL cells slots cnt sh (cp_row J a g) R pc L (.int v :: .ref a :: st) := by
  refine fp_X4_21 O hs hv hd ?_
  rw [cp_row_wi]
  exact k
theorem pg_X1_188 (O : cp_Ok x E RX1 bc nL d mc ms) (N : cp_NL sh R b) {i : Nat} (hi : i < 24) (hd : decode bc pc = .ok (.getfield 188, 3)) (k : cp_G x E nL cells slots cnt sh (cp_nn J b o S P Q) R (pc + 3) L (.int (P i 3) :: st)) : cp_G x E nL cells slots cnt sh (cp_nn J b o S P Q) R pc L (.ref (b + 3 + i) :: st) := by
  refine fg_X1_188 O (N.spc hi) hd ?_
  rw [cp_nn_P _ _ _ _ _ _ hi]
  exact k
theorem pp_X1_188 (O : cp_Ok x E RX1 bc nL d mc ms) {v : Int32} (N : cp_NL sh R b) {i : Nat} (hi : i < 24) (hv : v = 0 ∨ v = 1) (hd : decode bc pc = .ok (.putfield 188, 3)) (k : cp_G x E nL cells slots cnt sh (cp_nn J b o S (cp_wi P i 3 v) Q) R (pc + 3) L st) : cp_G x E nL cells slots cnt sh (cp_nn J b o S P Q) R pc L (.int v :: .ref (b + 3 + i) :: st) := by
  refine fp_X1_188 O (N.spc hi) hv hd ?_
  rw [cp_wi_row, cp_nn_P _ _ _ _ _ _ hi, cp_nn_rP _ _ _ _ _ _ hi, ← cp_wi_row]
  exact k
theorem rg_X1_188 (O : cp_Ok x E RX1 bc nL d mc ms) {a : Nat} {g : Nat → Int32} (hs : sh a = (5, 0)) (hd : decode bc pc = .ok (.getfield 188, 3)) (k : cp_G x E nL cells slots cnt sh (cp_row J a g) R (pc + 3) L (.int (g 3) :: st)) : cp_G x E nL cells slots cnt sh (cp_row J a g) R pc L (.ref a :: st) := by
  refine fg_X1_188 O hs hd ?_
  rw [cp_row_s]
  exact k
theorem rp_X1_188 (O : cp_Ok x E RX1 bc nL d mc ms) {v : Int32} {a : Nat} {g : Nat → Int32} (hs : sh a = (5, 0)) (hv : v = 0 ∨ v = 1) (hd : decode bc pc = .ok (.putfield 188, 3)) (k : cp_G x E nL cells slots cnt sh (cp_row J a (upd g 3 v)) R (pc + 3) L st) : cp_G x E nL cells slots cnt sh (cp_row J a g) R pc L (.int v :: .ref a :: st) := by
  refine fp_X1_188 O hs hv hd ?_
  rw [cp_row_wi]
  exact k
theorem rg_X4_25 (O : cp_Ok x E RX4 bc nL d mc ms) {a : Nat} {g : Nat → Int32} (hs : sh a = (5, 0)) (hd : decode bc pc = .ok (.getfield 25, 3)) (k : cp_G x E nL cells slots cnt sh (cp_row J a g) R (pc + 3) L (.int (g 4) :: st)) : cp_G x E nL cells slots cnt sh (cp_row J a g) R pc L (.ref a :: st) := by
  refine fg_X4_25 O hs hd ?_
  rw [cp_row_s]
  exact k
theorem rp_X4_25 (O : cp_Ok x E RX4 bc nL d mc ms) {v : Int32} {a : Nat} {g : Nat → Int32} (hs : sh a = (5, 0)) (hd : decode bc pc = .ok (.putfield 25, 3)) (k : cp_G x E nL cells slots cnt sh (cp_row J a (upd g 4 v)) R (pc + 3) L st) : cp_G x E nL cells slots cnt sh (cp_row J a g) R pc L (.int v :: .ref a :: st) := by
  refine fp_X4_25 O hs hd ?_
  rw [cp_row_wi]
  exact k
theorem pg_X1_64 (O : cp_Ok x E RX1 bc nL d mc ms) (N : cp_NL sh R b) {i : Nat} (hi : i < 24) (hd : decode bc pc = .ok (.getfield 64, 3)) (k : cp_G x E nL cells slots cnt sh (cp_nn J b o S P Q) R (pc + 3) L (.int (P i 4) :: st)) : cp_G x E nL cells slots cnt sh (cp_nn J b o S P Q) R pc L (.ref (b + 3 + i) :: st) := by
  refine fg_X1_64 O (N.spc hi) hd ?_
  rw [cp_nn_P _ _ _ _ _ _ hi]
  exact k
theorem pp_X1_64 (O : cp_Ok x E RX1 bc nL d mc ms) {v : Int32} (N : cp_NL sh R b) {i : Nat} (hi : i < 24) (hd : decode bc pc = .ok (.putfield 64, 3)) (k : cp_G x E nL cells slots cnt sh (cp_nn J b o S (cp_wi P i 4 v) Q) R (pc + 3) L st) : cp_G x E nL cells slots cnt sh (cp_nn J b o S P Q) R pc L (.int v :: .ref (b + 3 + i) :: st) := by
  refine fp_X1_64 O (N.spc hi) hd ?_
  rw [cp_wi_row, cp_nn_P _ _ _ _ _ _ hi, cp_nn_rP _ _ _ _ _ _ hi, ← cp_wi_row]
  exact k
theorem rg_X1_64 (O : cp_Ok x E RX1 bc nL d mc ms) {a : Nat} {g : Nat → Int32} (hs : sh a = (5, 0)) (hd : decode bc pc = .ok (.getfield 64, 3)) (k : cp_G x E nL cells slots cnt sh (cp_row J a g) R (pc + 3) L (.int (g 4) :: st)) : cp_G x E nL cells slots cnt sh (cp_row J a g) R pc L (.ref a :: st) := by
  refine fg_X1_64 O hs hd ?_
  rw [cp_row_s]
  exact k
theorem rp_X1_64 (O : cp_Ok x E RX1 bc nL d mc ms) {v : Int32} {a : Nat} {g : Nat → Int32} (hs : sh a = (5, 0)) (hd : decode bc pc = .ok (.putfield 64, 3)) (k : cp_G x E nL cells slots cnt sh (cp_row J a (upd g 4 v)) R (pc + 3) L st) : cp_G x E nL cells slots cnt sh (cp_row J a g) R pc L (.int v :: .ref a :: st) := by
  refine fp_X1_64 O hs hd ?_
  rw [cp_row_wi]
  exact k
theorem rg_X4_28 (O : cp_Ok x E RX4 bc nL d mc ms) {a : Nat} {g : Nat → Int32} (hs : sh a = (5, 0)) (hd : decode bc pc = .ok (.getfield 28, 3)) (k : cp_G x E nL cells slots cnt sh (cp_row J a g) R (pc + 3) L (.int (g 5) :: st)) : cp_G x E nL cells slots cnt sh (cp_row J a g) R pc L (.ref a :: st) := by
  refine fg_X4_28 O hs hd ?_
  rw [cp_row_s]
  exact k
theorem rp_X4_28 (O : cp_Ok x E RX4 bc nL d mc ms) {v : Int32} {a : Nat} {g : Nat → Int32} (hs : sh a = (5, 0)) (hv : v = 0 ∨ v = 1) (hd : decode bc pc = .ok (.putfield 28, 3)) (k : cp_G x E nL cells slots cnt sh (cp_row J a (upd g 5 v)) R (pc + 3) L st) : cp_G x E nL cells slots cnt sh (cp_row J a g) R pc L (.int v :: .ref a :: st) := by
  refine fp_X4_28 O hs hv hd ?_
  rw [cp_row_wi]
  exact k
theorem pg_X1_85 (O : cp_Ok x E RX1 bc nL d mc ms) (N : cp_NL sh R b) {i : Nat} (hi : i < 24) (hd : decode bc pc = .ok (.getfield 85, 3)) (k : cp_G x E nL cells slots cnt sh (cp_nn J b o S P Q) R (pc + 3) L (.int (P i 5) :: st)) : cp_G x E nL cells slots cnt sh (cp_nn J b o S P Q) R pc L (.ref (b + 3 + i) :: st) := by
  refine fg_X1_85 O (N.spc hi) hd ?_
  rw [cp_nn_P _ _ _ _ _ _ hi]
  exact k
theorem pp_X1_85 (O : cp_Ok x E RX1 bc nL d mc ms) {v : Int32} (N : cp_NL sh R b) {i : Nat} (hi : i < 24) (hv : v = 0 ∨ v = 1) (hd : decode bc pc = .ok (.putfield 85, 3)) (k : cp_G x E nL cells slots cnt sh (cp_nn J b o S (cp_wi P i 5 v) Q) R (pc + 3) L st) : cp_G x E nL cells slots cnt sh (cp_nn J b o S P Q) R pc L (.int v :: .ref (b + 3 + i) :: st) := by
  refine fp_X1_85 O (N.spc hi) hv hd ?_
  rw [cp_wi_row, cp_nn_P _ _ _ _ _ _ hi, cp_nn_rP _ _ _ _ _ _ hi, ← cp_wi_row]
  exact k
theorem rg_X1_85 (O : cp_Ok x E RX1 bc nL d mc ms) {a : Nat} {g : Nat → Int32} (hs : sh a = (5, 0)) (hd : decode bc pc = .ok (.getfield 85, 3)) (k : cp_G x E nL cells slots cnt sh (cp_row J a g) R (pc + 3) L (.int (g 5) :: st)) : cp_G x E nL cells slots cnt sh (cp_row J a g) R pc L (.ref a :: st) := by
  refine fg_X1_85 O hs hd ?_
  rw [cp_row_s]
  exact k
theorem rp_X1_85 (O : cp_Ok x E RX1 bc nL d mc ms) {v : Int32} {a : Nat} {g : Nat → Int32} (hs : sh a = (5, 0)) (hv : v = 0 ∨ v = 1) (hd : decode bc pc = .ok (.putfield 85, 3)) (k : cp_G x E nL cells slots cnt sh (cp_row J a (upd g 5 v)) R (pc + 3) L st) : cp_G x E nL cells slots cnt sh (cp_row J a g) R pc L (.int v :: .ref a :: st) := by
  refine fp_X1_85 O hs hv hd ?_
  rw [cp_row_wi]
  exact k
theorem rg_X4_31 (O : cp_Ok x E RX4 bc nL d mc ms) {a : Nat} {g : Nat → Int32} (hs : sh a = (5, 0)) (hd : decode bc pc = .ok (.getfield 31, 3)) (k : cp_G x E nL cells slots cnt sh (cp_row J a g) R (pc + 3) L (.int (g 6) :: st)) : cp_G x E nL cells slots cnt sh (cp_row J a g) R pc L (.ref a :: st) := by
  refine fg_X4_31 O hs hd ?_
  rw [cp_row_s]
  exact k
theorem rp_X4_31 (O : cp_Ok x E RX4 bc nL d mc ms) {v : Int32} {a : Nat} {g : Nat → Int32} (hs : sh a = (5, 0)) (hd : decode bc pc = .ok (.putfield 31, 3)) (k : cp_G x E nL cells slots cnt sh (cp_row J a (upd g 6 v)) R (pc + 3) L st) : cp_G x E nL cells slots cnt sh (cp_row J a g) R pc L (.int v :: .ref a :: st) := by
  refine fp_X4_31 O hs hd ?_
  rw [cp_row_wi]
  exact k
theorem pg_X1_191 (O : cp_Ok x E RX1 bc nL d mc ms) (N : cp_NL sh R b) {i : Nat} (hi : i < 24) (hd : decode bc pc = .ok (.getfield 191, 3)) (k : cp_G x E nL cells slots cnt sh (cp_nn J b o S P Q) R (pc + 3) L (.int (P i 6) :: st)) : cp_G x E nL cells slots cnt sh (cp_nn J b o S P Q) R pc L (.ref (b + 3 + i) :: st) := by
  refine fg_X1_191 O (N.spc hi) hd ?_
  rw [cp_nn_P _ _ _ _ _ _ hi]
  exact k
theorem pp_X1_191 (O : cp_Ok x E RX1 bc nL d mc ms) {v : Int32} (N : cp_NL sh R b) {i : Nat} (hi : i < 24) (hd : decode bc pc = .ok (.putfield 191, 3)) (k : cp_G x E nL cells slots cnt sh (cp_nn J b o S (cp_wi P i 6 v) Q) R (pc + 3) L st) : cp_G x E nL cells slots cnt sh (cp_nn J b o S P Q) R pc L (.int v :: .ref (b + 3 + i) :: st) := by
  refine fp_X1_191 O (N.spc hi) hd ?_
  rw [cp_wi_row, cp_nn_P _ _ _ _ _ _ hi, cp_nn_rP _ _ _ _ _ _ hi, ← cp_wi_row]
  exact k
theorem rg_X1_191 (O : cp_Ok x E RX1 bc nL d mc ms) {a : Nat} {g : Nat → Int32} (hs : sh a = (5, 0)) (hd : decode bc pc = .ok (.getfield 191, 3)) (k : cp_G x E nL cells slots cnt sh (cp_row J a g) R (pc + 3) L (.int (g 6) :: st)) : cp_G x E nL cells slots cnt sh (cp_row J a g) R pc L (.ref a :: st) := by
  refine fg_X1_191 O hs hd ?_
  rw [cp_row_s]
  exact k
theorem rp_X1_191 (O : cp_Ok x E RX1 bc nL d mc ms) {v : Int32} {a : Nat} {g : Nat → Int32} (hs : sh a = (5, 0)) (hd : decode bc pc = .ok (.putfield 191, 3)) (k : cp_G x E nL cells slots cnt sh (cp_row J a (upd g 6 v)) R (pc + 3) L st) : cp_G x E nL cells slots cnt sh (cp_row J a g) R pc L (.int v :: .ref a :: st) := by
  refine fp_X1_191 O hs hd ?_
  rw [cp_row_wi]
  exact k
theorem rg_X4_34 (O : cp_Ok x E RX4 bc nL d mc ms) {a : Nat} {g : Nat → Int32} (hs : sh a = (5, 0)) (hd : decode bc pc = .ok (.getfield 34, 3)) (k : cp_G x E nL cells slots cnt sh (cp_row J a g) R (pc + 3) L (.int (g 7) :: st)) : cp_G x E nL cells slots cnt sh (cp_row J a g) R pc L (.ref a :: st) := by
  refine fg_X4_34 O hs hd ?_
  rw [cp_row_s]
  exact k
theorem rp_X4_34 (O : cp_Ok x E RX4 bc nL d mc ms) {v : Int32} {a : Nat} {g : Nat → Int32} (hs : sh a = (5, 0)) (hd : decode bc pc = .ok (.putfield 34, 3)) (k : cp_G x E nL cells slots cnt sh (cp_row J a (upd g 7 v)) R (pc + 3) L st) : cp_G x E nL cells slots cnt sh (cp_row J a g) R pc L (.int v :: .ref a :: st) := by
  refine fp_X4_34 O hs hd ?_
  rw [cp_row_wi]
  exact k
theorem pg_X1_194 (O : cp_Ok x E RX1 bc nL d mc ms) (N : cp_NL sh R b) {i : Nat} (hi : i < 24) (hd : decode bc pc = .ok (.getfield 194, 3)) (k : cp_G x E nL cells slots cnt sh (cp_nn J b o S P Q) R (pc + 3) L (.int (P i 7) :: st)) : cp_G x E nL cells slots cnt sh (cp_nn J b o S P Q) R pc L (.ref (b + 3 + i) :: st) := by
  refine fg_X1_194 O (N.spc hi) hd ?_
  rw [cp_nn_P _ _ _ _ _ _ hi]
  exact k
theorem pp_X1_194 (O : cp_Ok x E RX1 bc nL d mc ms) {v : Int32} (N : cp_NL sh R b) {i : Nat} (hi : i < 24) (hd : decode bc pc = .ok (.putfield 194, 3)) (k : cp_G x E nL cells slots cnt sh (cp_nn J b o S (cp_wi P i 7 v) Q) R (pc + 3) L st) : cp_G x E nL cells slots cnt sh (cp_nn J b o S P Q) R pc L (.int v :: .ref (b + 3 + i) :: st) := by
  refine fp_X1_194 O (N.spc hi) hd ?_
  rw [cp_wi_row, cp_nn_P _ _ _ _ _ _ hi, cp_nn_rP _ _ _ _ _ _ hi, ← cp_wi_row]
  exact k
theorem rg_X1_194 (O : cp_Ok x E RX1 bc nL d mc ms) {a : Nat} {g : Nat → Int32} (hs : sh a = (5, 0)) (hd : decode bc pc = .ok (.getfield 194, 3)) (k : cp_G x E nL cells slots cnt sh (cp_row J a g) R (pc + 3) L (.int (g 7) :: st)) : cp_G x E nL cells slots cnt sh (cp_row J a g) R pc L (.ref a :: st) := by
  refine fg_X1_194 O hs hd ?_
  rw [cp_row_s]
  exact k
theorem rp_X1_194 (O : cp_Ok x E RX1 bc nL d mc ms) {v : Int32} {a : Nat} {g : Nat → Int32} (hs : sh a = (5, 0)) (hd : decode bc pc = .ok (.putfield 194, 3)) (k : cp_G x E nL cells slots cnt sh (cp_row J a (upd g 7 v)) R (pc + 3) L st) : cp_G x E nL cells slots cnt sh (cp_row J a g) R pc L (.int v :: .ref a :: st) := by
  refine fp_X1_194 O hs hd ?_
  rw [cp_row_wi]
  exact k
theorem rg_X4_37 (O : cp_Ok x E RX4 bc nL d mc ms) {a : Nat} {g : Nat → Int32} (hs : sh a = (5, 0)) (hd : decode bc pc = .ok (.getfield 37, 3)) (k : cp_G x E nL cells slots cnt sh (cp_row J a g) R (pc + 3) L (.int (g 8) :: st)) : cp_G x E nL cells slots cnt sh (cp_row J a g) R pc L (.ref a :: st) := by
  refine fg_X4_37 O hs hd ?_
  rw [cp_row_s]
  exact k
theorem rp_X4_37 (O : cp_Ok x E RX4 bc nL d mc ms) {v : Int32} {a : Nat} {g : Nat → Int32} (hs : sh a = (5, 0)) (hd : decode bc pc = .ok (.putfield 37, 3)) (k : cp_G x E nL cells slots cnt sh (cp_row J a (upd g 8 v)) R (pc + 3) L st) : cp_G x E nL cells slots cnt sh (cp_row J a g) R pc L (.int v :: .ref a :: st) := by
  refine fp_X4_37 O hs hd ?_
  rw [cp_row_wi]
  exact k
theorem pg_X1_159 (O : cp_Ok x E RX1 bc nL d mc ms) (N : cp_NL sh R b) {i : Nat} (hi : i < 24) (hd : decode bc pc = .ok (.getfield 159, 3)) (k : cp_G x E nL cells slots cnt sh (cp_nn J b o S P Q) R (pc + 3) L (.int (P i 8) :: st)) : cp_G x E nL cells slots cnt sh (cp_nn J b o S P Q) R pc L (.ref (b + 3 + i) :: st) := by
  refine fg_X1_159 O (N.spc hi) hd ?_
  rw [cp_nn_P _ _ _ _ _ _ hi]
  exact k
theorem pp_X1_159 (O : cp_Ok x E RX1 bc nL d mc ms) {v : Int32} (N : cp_NL sh R b) {i : Nat} (hi : i < 24) (hd : decode bc pc = .ok (.putfield 159, 3)) (k : cp_G x E nL cells slots cnt sh (cp_nn J b o S (cp_wi P i 8 v) Q) R (pc + 3) L st) : cp_G x E nL cells slots cnt sh (cp_nn J b o S P Q) R pc L (.int v :: .ref (b + 3 + i) :: st) := by
  refine fp_X1_159 O (N.spc hi) hd ?_
  rw [cp_wi_row, cp_nn_P _ _ _ _ _ _ hi, cp_nn_rP _ _ _ _ _ _ hi, ← cp_wi_row]
  exact k
theorem rg_X1_159 (O : cp_Ok x E RX1 bc nL d mc ms) {a : Nat} {g : Nat → Int32} (hs : sh a = (5, 0)) (hd : decode bc pc = .ok (.getfield 159, 3)) (k : cp_G x E nL cells slots cnt sh (cp_row J a g) R (pc + 3) L (.int (g 8) :: st)) : cp_G x E nL cells slots cnt sh (cp_row J a g) R pc L (.ref a :: st) := by
  refine fg_X1_159 O hs hd ?_
  rw [cp_row_s]
  exact k
theorem rp_X1_159 (O : cp_Ok x E RX1 bc nL d mc ms) {v : Int32} {a : Nat} {g : Nat → Int32} (hs : sh a = (5, 0)) (hd : decode bc pc = .ok (.putfield 159, 3)) (k : cp_G x E nL cells slots cnt sh (cp_row J a (upd g 8 v)) R (pc + 3) L st) : cp_G x E nL cells slots cnt sh (cp_row J a g) R pc L (.int v :: .ref a :: st) := by
  refine fp_X1_159 O hs hd ?_
  rw [cp_row_wi]
  exact k
theorem rg_X4_40 (O : cp_Ok x E RX4 bc nL d mc ms) {a : Nat} {g : Nat → Int32} (hs : sh a = (5, 0)) (hd : decode bc pc = .ok (.getfield 40, 3)) (k : cp_G x E nL cells slots cnt sh (cp_row J a g) R (pc + 3) L (.int (g 9) :: st)) : cp_G x E nL cells slots cnt sh (cp_row J a g) R pc L (.ref a :: st) := by
  refine fg_X4_40 O hs hd ?_
  rw [cp_row_s]
  exact k
theorem rp_X4_40 (O : cp_Ok x E RX4 bc nL d mc ms) {v : Int32} {a : Nat} {g : Nat → Int32} (hs : sh a = (5, 0)) (hd : decode bc pc = .ok (.putfield 40, 3)) (k : cp_G x E nL cells slots cnt sh (cp_row J a (upd g 9 v)) R (pc + 3) L st) : cp_G x E nL cells slots cnt sh (cp_row J a g) R pc L (.int v :: .ref a :: st) := by
  refine fp_X4_40 O hs hd ?_
  rw [cp_row_wi]
  exact k
theorem pg_X1_132 (O : cp_Ok x E RX1 bc nL d mc ms) (N : cp_NL sh R b) {i : Nat} (hi : i < 24) (hd : decode bc pc = .ok (.getfield 132, 3)) (k : cp_G x E nL cells slots cnt sh (cp_nn J b o S P Q) R (pc + 3) L (.int (P i 9) :: st)) : cp_G x E nL cells slots cnt sh (cp_nn J b o S P Q) R pc L (.ref (b + 3 + i) :: st) := by
  refine fg_X1_132 O (N.spc hi) hd ?_
  rw [cp_nn_P _ _ _ _ _ _ hi]
  exact k
theorem pp_X1_132 (O : cp_Ok x E RX1 bc nL d mc ms) {v : Int32} (N : cp_NL sh R b) {i : Nat} (hi : i < 24) (hd : decode bc pc = .ok (.putfield 132, 3)) (k : cp_G x E nL cells slots cnt sh (cp_nn J b o S (cp_wi P i 9 v) Q) R (pc + 3) L st) : cp_G x E nL cells slots cnt sh (cp_nn J b o S P Q) R pc L (.int v :: .ref (b + 3 + i) :: st) := by
  refine fp_X1_132 O (N.spc hi) hd ?_
  rw [cp_wi_row, cp_nn_P _ _ _ _ _ _ hi, cp_nn_rP _ _ _ _ _ _ hi, ← cp_wi_row]
  exact k
theorem rg_X1_132 (O : cp_Ok x E RX1 bc nL d mc ms) {a : Nat} {g : Nat → Int32} (hs : sh a = (5, 0)) (hd : decode bc pc = .ok (.getfield 132, 3)) (k : cp_G x E nL cells slots cnt sh (cp_row J a g) R (pc + 3) L (.int (g 9) :: st)) : cp_G x E nL cells slots cnt sh (cp_row J a g) R pc L (.ref a :: st) := by
  refine fg_X1_132 O hs hd ?_
  rw [cp_row_s]
  exact k
theorem rp_X1_132 (O : cp_Ok x E RX1 bc nL d mc ms) {v : Int32} {a : Nat} {g : Nat → Int32} (hs : sh a = (5, 0)) (hd : decode bc pc = .ok (.putfield 132, 3)) (k : cp_G x E nL cells slots cnt sh (cp_row J a (upd g 9 v)) R (pc + 3) L st) : cp_G x E nL cells slots cnt sh (cp_row J a g) R pc L (.int v :: .ref a :: st) := by
  refine fp_X1_132 O hs hd ?_
  rw [cp_row_wi]
  exact k
theorem rg_X5_7 (O : cp_Ok x E RX5 bc nL d mc ms) {a : Nat} {g : Nat → Int32} (hs : sh a = (6, 0)) (hd : decode bc pc = .ok (.getfield 7, 3)) (k : cp_G x E nL cells slots cnt sh (cp_row J a g) R (pc + 3) L (.int (g 0) :: st)) : cp_G x E nL cells slots cnt sh (cp_row J a g) R pc L (.ref a :: st) := by
  refine fg_X5_7 O hs hd ?_
  rw [cp_row_s]
  exact k
theorem rp_X5_7 (O : cp_Ok x E RX5 bc nL d mc ms) {v : Int32} {a : Nat} {g : Nat → Int32} (hs : sh a = (6, 0)) (hd : decode bc pc = .ok (.putfield 7, 3)) (k : cp_G x E nL cells slots cnt sh (cp_row J a (upd g 0 v)) R (pc + 3) L st) : cp_G x E nL cells slots cnt sh (cp_row J a g) R pc L (.int v :: .ref a :: st) := by
  refine fp_X5_7 O hs hd ?_
  rw [cp_row_wi]
  exact k
theorem qg_X1_174 (O : cp_Ok x E RX1 bc nL d mc ms) (N : cp_NL sh R b) {i : Nat} (hi : i < 8) (hd : decode bc pc = .ok (.getfield 174, 3)) (k : cp_G x E nL cells slots cnt sh (cp_nn J b o S P Q) R (pc + 3) L (.int (Q i 0) :: st)) : cp_G x E nL cells slots cnt sh (cp_nn J b o S P Q) R pc L (.ref (b + 28 + i) :: st) := by
  refine fg_X1_174 O (N.spl hi) hd ?_
  rw [cp_nn_Q _ _ _ _ _ _ hi]
  exact k
theorem qp_X1_174 (O : cp_Ok x E RX1 bc nL d mc ms) {v : Int32} (N : cp_NL sh R b) {i : Nat} (hi : i < 8) (hd : decode bc pc = .ok (.putfield 174, 3)) (k : cp_G x E nL cells slots cnt sh (cp_nn J b o S P (cp_wi Q i 0 v)) R (pc + 3) L st) : cp_G x E nL cells slots cnt sh (cp_nn J b o S P Q) R pc L (.int v :: .ref (b + 28 + i) :: st) := by
  refine fp_X1_174 O (N.spl hi) hd ?_
  rw [cp_wi_row, cp_nn_Q _ _ _ _ _ _ hi, cp_nn_rQ _ _ _ _ _ _ hi, ← cp_wi_row]
  exact k
theorem rg_X1_174 (O : cp_Ok x E RX1 bc nL d mc ms) {a : Nat} {g : Nat → Int32} (hs : sh a = (6, 0)) (hd : decode bc pc = .ok (.getfield 174, 3)) (k : cp_G x E nL cells slots cnt sh (cp_row J a g) R (pc + 3) L (.int (g 0) :: st)) : cp_G x E nL cells slots cnt sh (cp_row J a g) R pc L (.ref a :: st) := by
  refine fg_X1_174 O hs hd ?_
  rw [cp_row_s]
  exact k
theorem rp_X1_174 (O : cp_Ok x E RX1 bc nL d mc ms) {v : Int32} {a : Nat} {g : Nat → Int32} (hs : sh a = (6, 0)) (hd : decode bc pc = .ok (.putfield 174, 3)) (k : cp_G x E nL cells slots cnt sh (cp_row J a (upd g 0 v)) R (pc + 3) L st) : cp_G x E nL cells slots cnt sh (cp_row J a g) R pc L (.int v :: .ref a :: st) := by
  refine fp_X1_174 O hs hd ?_
  rw [cp_row_wi]
  exact k
theorem rg_X5_13 (O : cp_Ok x E RX5 bc nL d mc ms) {a : Nat} {g : Nat → Int32} (hs : sh a = (6, 0)) (hd : decode bc pc = .ok (.getfield 13, 3)) (k : cp_G x E nL cells slots cnt sh (cp_row J a g) R (pc + 3) L (.int (g 1) :: st)) : cp_G x E nL cells slots cnt sh (cp_row J a g) R pc L (.ref a :: st) := by
  refine fg_X5_13 O hs hd ?_
  rw [cp_row_s]
  exact k
theorem rp_X5_13 (O : cp_Ok x E RX5 bc nL d mc ms) {v : Int32} {a : Nat} {g : Nat → Int32} (hs : sh a = (6, 0)) (hv : v = 0 ∨ v = 1) (hd : decode bc pc = .ok (.putfield 13, 3)) (k : cp_G x E nL cells slots cnt sh (cp_row J a (upd g 1 v)) R (pc + 3) L st) : cp_G x E nL cells slots cnt sh (cp_row J a g) R pc L (.int v :: .ref a :: st) := by
  refine fp_X5_13 O hs hv hd ?_
  rw [cp_row_wi]
  exact k
theorem qg_X1_203 (O : cp_Ok x E RX1 bc nL d mc ms) (N : cp_NL sh R b) {i : Nat} (hi : i < 8) (hd : decode bc pc = .ok (.getfield 203, 3)) (k : cp_G x E nL cells slots cnt sh (cp_nn J b o S P Q) R (pc + 3) L (.int (Q i 1) :: st)) : cp_G x E nL cells slots cnt sh (cp_nn J b o S P Q) R pc L (.ref (b + 28 + i) :: st) := by
  refine fg_X1_203 O (N.spl hi) hd ?_
  rw [cp_nn_Q _ _ _ _ _ _ hi]
  exact k
theorem qp_X1_203 (O : cp_Ok x E RX1 bc nL d mc ms) {v : Int32} (N : cp_NL sh R b) {i : Nat} (hi : i < 8) (hv : v = 0 ∨ v = 1) (hd : decode bc pc = .ok (.putfield 203, 3)) (k : cp_G x E nL cells slots cnt sh (cp_nn J b o S P (cp_wi Q i 1 v)) R (pc + 3) L st) : cp_G x E nL cells slots cnt sh (cp_nn J b o S P Q) R pc L (.int v :: .ref (b + 28 + i) :: st) := by
  refine fp_X1_203 O (N.spl hi) hv hd ?_
  rw [cp_wi_row, cp_nn_Q _ _ _ _ _ _ hi, cp_nn_rQ _ _ _ _ _ _ hi, ← cp_wi_row]
  exact k
theorem rg_X1_203 (O : cp_Ok x E RX1 bc nL d mc ms) {a : Nat} {g : Nat → Int32} (hs : sh a = (6, 0)) (hd : decode bc pc = .ok (.getfield 203, 3)) (k : cp_G x E nL cells slots cnt sh (cp_row J a g) R (pc + 3) L (.int (g 1) :: st)) : cp_G x E nL cells slots cnt sh (cp_row J a g) R pc L (.ref a :: st) := by
  refine fg_X1_203 O hs hd ?_
  rw [cp_row_s]
  exact k
theorem rp_X1_203 (O : cp_Ok x E RX1 bc nL d mc ms) {v : Int32} {a : Nat} {g : Nat → Int32} (hs : sh a = (6, 0)) (hv : v = 0 ∨ v = 1) (hd : decode bc pc = .ok (.putfield 203, 3)) (k : cp_G x E nL cells slots cnt sh (cp_row J a (upd g 1 v)) R (pc + 3) L st) : cp_G x E nL cells slots cnt sh (cp_row J a g) R pc L (.int v :: .ref a :: st) := by
  refine fp_X1_203 O hs hv hd ?_
  rw [cp_row_wi]
  exact k
theorem rg_X5_17 (O : cp_Ok x E RX5 bc nL d mc ms) {a : Nat} {g : Nat → Int32} (hs : sh a = (6, 0)) (hd : decode bc pc = .ok (.getfield 17, 3)) (k : cp_G x E nL cells slots cnt sh (cp_row J a g) R (pc + 3) L (.int (g 2) :: st)) : cp_G x E nL cells slots cnt sh (cp_row J a g) R pc L (.ref a :: st) := by
  refine fg_X5_17 O hs hd ?_
  rw [cp_row_s]
  exact k
theorem rp_X5_17 (O : cp_Ok x E RX5 bc nL d mc ms) {v : Int32} {a : Nat} {g : Nat → Int32} (hs : sh a = (6, 0)) (hd : decode bc pc = .ok (.putfield 17, 3)) (k : cp_G x E nL cells slots cnt sh (cp_row J a (upd g 2 v)) R (pc + 3) L st) : cp_G x E nL cells slots cnt sh (cp_row J a g) R pc L (.int v :: .ref a :: st) := by
  refine fp_X5_17 O hs hd ?_
  rw [cp_row_wi]
  exact k
theorem qg_X1_113 (O : cp_Ok x E RX1 bc nL d mc ms) (N : cp_NL sh R b) {i : Nat} (hi : i < 8) (hd : decode bc pc = .ok (.getfield 113, 3)) (k : cp_G x E nL cells slots cnt sh (cp_nn J b o S P Q) R (pc + 3) L (.int (Q i 2) :: st)) : cp_G x E nL cells slots cnt sh (cp_nn J b o S P Q) R pc L (.ref (b + 28 + i) :: st) := by
  refine fg_X1_113 O (N.spl hi) hd ?_
  rw [cp_nn_Q _ _ _ _ _ _ hi]
  exact k
theorem qp_X1_113 (O : cp_Ok x E RX1 bc nL d mc ms) {v : Int32} (N : cp_NL sh R b) {i : Nat} (hi : i < 8) (hd : decode bc pc = .ok (.putfield 113, 3)) (k : cp_G x E nL cells slots cnt sh (cp_nn J b o S P (cp_wi Q i 2 v)) R (pc + 3) L st) : cp_G x E nL cells slots cnt sh (cp_nn J b o S P Q) R pc L (.int v :: .ref (b + 28 + i) :: st) := by
  refine fp_X1_113 O (N.spl hi) hd ?_
  rw [cp_wi_row, cp_nn_Q _ _ _ _ _ _ hi, cp_nn_rQ _ _ _ _ _ _ hi, ← cp_wi_row]
  exact k
theorem rg_X1_113 (O : cp_Ok x E RX1 bc nL d mc ms) {a : Nat} {g : Nat → Int32} (hs : sh a = (6, 0)) (hd : decode bc pc = .ok (.getfield 113, 3)) (k : cp_G x E nL cells slots cnt sh (cp_row J a g) R (pc + 3) L (.int (g 2) :: st)) : cp_G x E nL cells slots cnt sh (cp_row J a g) R pc L (.ref a :: st) := by
  refine fg_X1_113 O hs hd ?_
  rw [cp_row_s]
  exact k
theorem rp_X1_113 (O : cp_Ok x E RX1 bc nL d mc ms) {v : Int32} {a : Nat} {g : Nat → Int32} (hs : sh a = (6, 0)) (hd : decode bc pc = .ok (.putfield 113, 3)) (k : cp_G x E nL cells slots cnt sh (cp_row J a (upd g 2 v)) R (pc + 3) L st) : cp_G x E nL cells slots cnt sh (cp_row J a g) R pc L (.int v :: .ref a :: st) := by
  refine fp_X1_113 O hs hd ?_
  rw [cp_row_wi]
  exact k
theorem ng_X1_23 (O : cp_Ok x E RX1 bc nL d mc ms) (N : cp_NL sh R b) (hd : decode bc pc = .ok (.getfield 23, 3)) (k : cp_G x E nL cells slots cnt sh (cp_nn J b o S P Q) R (pc + 3) L (.int (o 1) :: st)) : cp_G x E nL cells slots cnt sh (cp_nn J b o S P Q) R pc L (.ref b :: st) := by
  refine fg_X1_23 O N.s hd ?_
  rw [cp_nn_o]
  exact k
theorem np_X1_23 (O : cp_Ok x E RX1 bc nL d mc ms) {v : Int32} (N : cp_NL sh R b) (hd : decode bc pc = .ok (.putfield 23, 3)) (k : cp_G x E nL cells slots cnt sh (cp_nn J b (upd o 1 v) S P Q) R (pc + 3) L st) : cp_G x E nL cells slots cnt sh (cp_nn J b o S P Q) R pc L (.int v :: .ref b :: st) := by
  refine fp_X1_23 O N.s hd ?_
  rw [cp_wi_row, cp_nn_o, cp_nn_ro]
  exact k
theorem ng_X1_34 (O : cp_Ok x E RX1 bc nL d mc ms) (N : cp_NL sh R b) (hd : decode bc pc = .ok (.getfield 34, 3)) (k : cp_G x E nL cells slots cnt sh (cp_nn J b o S P Q) R (pc + 3) L (.int (o 3) :: st)) : cp_G x E nL cells slots cnt sh (cp_nn J b o S P Q) R pc L (.ref b :: st) := by
  refine fg_X1_34 O N.s hd ?_
  rw [cp_nn_o]
  exact k
theorem np_X1_34 (O : cp_Ok x E RX1 bc nL d mc ms) {v : Int32} (N : cp_NL sh R b) (hd : decode bc pc = .ok (.putfield 34, 3)) (k : cp_G x E nL cells slots cnt sh (cp_nn J b (upd o 3 v) S P Q) R (pc + 3) L st) : cp_G x E nL cells slots cnt sh (cp_nn J b o S P Q) R pc L (.int v :: .ref b :: st) := by
  refine fp_X1_34 O N.s hd ?_
  rw [cp_wi_row, cp_nn_o, cp_nn_ro]
  exact k
theorem ng_X6_182 (O : cp_Ok x E RX6 bc nL d mc ms) (N : cp_NL sh R b) (hd : decode bc pc = .ok (.getfield 182, 3)) (k : cp_G x E nL cells slots cnt sh (cp_nn J b o S P Q) R (pc + 3) L (.int (o 3) :: st)) : cp_G x E nL cells slots cnt sh (cp_nn J b o S P Q) R pc L (.ref b :: st) := by
  refine fg_X6_182 O N.s hd ?_
  rw [cp_nn_o]
  exact k
theorem np_X6_182 (O : cp_Ok x E RX6 bc nL d mc ms) {v : Int32} (N : cp_NL sh R b) (hd : decode bc pc = .ok (.putfield 182, 3)) (k : cp_G x E nL cells slots cnt sh (cp_nn J b (upd o 3 v) S P Q) R (pc + 3) L st) : cp_G x E nL cells slots cnt sh (cp_nn J b o S P Q) R pc L (.int v :: .ref b :: st) := by
  refine fp_X6_182 O N.s hd ?_
  rw [cp_wi_row, cp_nn_o, cp_nn_ro]
  exact k
theorem ng_X1_44 (O : cp_Ok x E RX1 bc nL d mc ms) (N : cp_NL sh R b) (hd : decode bc pc = .ok (.getfield 44, 3)) (k : cp_G x E nL cells slots cnt sh (cp_nn J b o S P Q) R (pc + 3) L (.int (o 5) :: st)) : cp_G x E nL cells slots cnt sh (cp_nn J b o S P Q) R pc L (.ref b :: st) := by
  refine fg_X1_44 O N.s hd ?_
  rw [cp_nn_o]
  exact k
theorem np_X1_44 (O : cp_Ok x E RX1 bc nL d mc ms) {v : Int32} (N : cp_NL sh R b) (hd : decode bc pc = .ok (.putfield 44, 3)) (k : cp_G x E nL cells slots cnt sh (cp_nn J b (upd o 5 v) S P Q) R (pc + 3) L st) : cp_G x E nL cells slots cnt sh (cp_nn J b o S P Q) R pc L (.int v :: .ref b :: st) := by
  refine fp_X1_44 O N.s hd ?_
  rw [cp_wi_row, cp_nn_o, cp_nn_ro]
  exact k
theorem mg_X7_31 (O : cp_Ok x E RX7 bc nL d mc ms) (M : cp_ML sh R m) (hd : decode bc pc = .ok (.getfield 31, 3)) (k : cp_G x E nL cells slots cnt sh (cp_mm J m f r) R (pc + 3) L (.int (f 4) :: st)) : cp_G x E nL cells slots cnt sh (cp_mm J m f r) R pc L (.ref m :: st) := by
  refine fg_X7_31 O M.s hd ?_
  rw [cp_mm_f]
  exact k
theorem mp_X7_31 (O : cp_Ok x E RX7 bc nL d mc ms) {v : Int32} (M : cp_ML sh R m) (hd : decode bc pc = .ok (.putfield 31, 3)) (k : cp_G x E nL cells slots cnt sh (cp_mm J m (upd f 4 v) r) R (pc + 3) L st) : cp_G x E nL cells slots cnt sh (cp_mm J m f r) R pc L (.int v :: .ref m :: st) := by
  refine fp_X7_31 O M.s hd ?_
  rw [cp_mm_wf]
  exact k
theorem mg_X7_76 (O : cp_Ok x E RX7 bc nL d mc ms) (M : cp_ML sh R m) (hd : decode bc pc = .ok (.getfield 76, 3)) (k : cp_G x E nL cells slots cnt sh (cp_mm J m f r) R (pc + 3) L (.int (f 7) :: st)) : cp_G x E nL cells slots cnt sh (cp_mm J m f r) R pc L (.ref m :: st) := by
  refine fg_X7_76 O M.s hd ?_
  rw [cp_mm_f]
  exact k
theorem mp_X7_76 (O : cp_Ok x E RX7 bc nL d mc ms) {v : Int32} (M : cp_ML sh R m) (hd : decode bc pc = .ok (.putfield 76, 3)) (k : cp_G x E nL cells slots cnt sh (cp_mm J m (upd f 7 v) r) R (pc + 3) L st) : cp_G x E nL cells slots cnt sh (cp_mm J m f r) R pc L (.int v :: .ref m :: st) := by
  refine fp_X7_76 O M.s hd ?_
  rw [cp_mm_wf]
  exact k
theorem mg_X7_79 (O : cp_Ok x E RX7 bc nL d mc ms) (M : cp_ML sh R m) (hd : decode bc pc = .ok (.getfield 79, 3)) (k : cp_G x E nL cells slots cnt sh (cp_mm J m f r) R (pc + 3) L (.int (f 8) :: st)) : cp_G x E nL cells slots cnt sh (cp_mm J m f r) R pc L (.ref m :: st) := by
  refine fg_X7_79 O M.s hd ?_
  rw [cp_mm_f]
  exact k
theorem mp_X7_79 (O : cp_Ok x E RX7 bc nL d mc ms) {v : Int32} (M : cp_ML sh R m) (hd : decode bc pc = .ok (.putfield 79, 3)) (k : cp_G x E nL cells slots cnt sh (cp_mm J m (upd f 8 v) r) R (pc + 3) L st) : cp_G x E nL cells slots cnt sh (cp_mm J m f r) R pc L (.int v :: .ref m :: st) := by
  refine fp_X7_79 O M.s hd ?_
  rw [cp_mm_wf]
  exact k
theorem mg_X7_183 (O : cp_Ok x E RX7 bc nL d mc ms) (M : cp_ML sh R m) (hd : decode bc pc = .ok (.getfield 183, 3)) (k : cp_G x E nL cells slots cnt sh (cp_mm J m f r) R (pc + 3) L (.int (f 10) :: st)) : cp_G x E nL cells slots cnt sh (cp_mm J m f r) R pc L (.ref m :: st) := by
  refine fg_X7_183 O M.s hd ?_
  rw [cp_mm_f]
  exact k
theorem mp_X7_183 (O : cp_Ok x E RX7 bc nL d mc ms) {v : Int32} (M : cp_ML sh R m) (hd : decode bc pc = .ok (.putfield 183, 3)) (k : cp_G x E nL cells slots cnt sh (cp_mm J m (upd f 10 v) r) R (pc + 3) L st) : cp_G x E nL cells slots cnt sh (cp_mm J m f r) R pc L (.int v :: .ref m :: st) := by
  refine fp_X7_183 O M.s hd ?_
  rw [cp_mm_wf]
  exact k
theorem mg_X7_201 (O : cp_Ok x E RX7 bc nL d mc ms) (M : cp_ML sh R m) (hd : decode bc pc = .ok (.getfield 201, 3)) (k : cp_G x E nL cells slots cnt sh (cp_mm J m f r) R (pc + 3) L (.int (f 11) :: st)) : cp_G x E nL cells slots cnt sh (cp_mm J m f r) R pc L (.ref m :: st) := by
  refine fg_X7_201 O M.s hd ?_
  rw [cp_mm_f]
  exact k
theorem mp_X7_201 (O : cp_Ok x E RX7 bc nL d mc ms) {v : Int32} (M : cp_ML sh R m) (hd : decode bc pc = .ok (.putfield 201, 3)) (k : cp_G x E nL cells slots cnt sh (cp_mm J m (upd f 11 v) r) R (pc + 3) L st) : cp_G x E nL cells slots cnt sh (cp_mm J m f r) R pc L (.int v :: .ref m :: st) := by
  refine fp_X7_201 O M.s hd ?_
  rw [cp_mm_wf]
  exact k
theorem mg_X7_219 (O : cp_Ok x E RX7 bc nL d mc ms) (M : cp_ML sh R m) (hd : decode bc pc = .ok (.getfield 219, 3)) (k : cp_G x E nL cells slots cnt sh (cp_mm J m f r) R (pc + 3) L (.int (f 12) :: st)) : cp_G x E nL cells slots cnt sh (cp_mm J m f r) R pc L (.ref m :: st) := by
  refine fg_X7_219 O M.s hd ?_
  rw [cp_mm_f]
  exact k
theorem mp_X7_219 (O : cp_Ok x E RX7 bc nL d mc ms) {v : Int32} (M : cp_ML sh R m) (hv : v = 0 ∨ v = 1) (hd : decode bc pc = .ok (.putfield 219, 3)) (k : cp_G x E nL cells slots cnt sh (cp_mm J m (upd f 12 v) r) R (pc + 3) L st) : cp_G x E nL cells slots cnt sh (cp_mm J m f r) R pc L (.int v :: .ref m :: st) := by
  refine fp_X7_219 O M.s hv hd ?_
  rw [cp_mm_wf]
  exact k
theorem mg_X7_223 (O : cp_Ok x E RX7 bc nL d mc ms) (M : cp_ML sh R m) (hd : decode bc pc = .ok (.getfield 223, 3)) (k : cp_G x E nL cells slots cnt sh (cp_mm J m f r) R (pc + 3) L (.int (f 13) :: st)) : cp_G x E nL cells slots cnt sh (cp_mm J m f r) R pc L (.ref m :: st) := by
  refine fg_X7_223 O M.s hd ?_
  rw [cp_mm_f]
  exact k
theorem mp_X7_223 (O : cp_Ok x E RX7 bc nL d mc ms) {v : Int32} (M : cp_ML sh R m) (hd : decode bc pc = .ok (.putfield 223, 3)) (k : cp_G x E nL cells slots cnt sh (cp_mm J m (upd f 13 v) r) R (pc + 3) L st) : cp_G x E nL cells slots cnt sh (cp_mm J m f r) R pc L (.int v :: .ref m :: st) := by
  refine fp_X7_223 O M.s hd ?_
  rw [cp_mm_wf]
  exact k
theorem mg_X7_207 (O : cp_Ok x E RX7 bc nL d mc ms) (M : cp_ML sh R m) (hd : decode bc pc = .ok (.getfield 207, 3)) (k : cp_G x E nL cells slots cnt sh (cp_mm J m f r) R (pc + 3) L (.int (f 14) :: st)) : cp_G x E nL cells slots cnt sh (cp_mm J m f r) R pc L (.ref m :: st) := by
  refine fg_X7_207 O M.s hd ?_
  rw [cp_mm_f]
  exact k
theorem mp_X7_207 (O : cp_Ok x E RX7 bc nL d mc ms) {v : Int32} (M : cp_ML sh R m) (hd : decode bc pc = .ok (.putfield 207, 3)) (k : cp_G x E nL cells slots cnt sh (cp_mm J m (upd f 14 v) r) R (pc + 3) L st) : cp_G x E nL cells slots cnt sh (cp_mm J m f r) R pc L (.int v :: .ref m :: st) := by
  refine fp_X7_207 O M.s hd ?_
  rw [cp_mm_wf]
  exact k
end CPV
end
section
/-- a method that makes nothing: its answer, and what holds of the numbers behind it -/
def cp_Fr (l : Launch) (E : cp_En) (y : MethodName) (bc : ByteArray) (nL : Nat) (ret : Option FieldType) (d : Nat) (as : List Value) (cnt : Nat) (sh : cp_Shp) (I : cp_Mem) (R : cp_Rem) (v : Option Value) (T : cp_Mem → Prop) : Prop :=
  cp_Ct l E y bc nL ret d 0 0 as cnt sh I R (fun v' c s i r => v' = v ∧ c = cnt ∧ s = sh ∧ T i ∧ r = R)
theorem cp_Fn_iR {l : Launch} {E : cp_En} {y : MethodName} {bc : ByteArray} {nL : Nat} {rt : FieldType} {d : Nat} {as : List Value} {cnt : Nat} {sh : cp_Shp} {I : cp_Mem} {R : cp_Rem} {r : Int32} {T : cp_Mem → Prop} (L0 : List (Option Value))
    (hy : plainName y.cls = true) (hlen : (lg_sl as).length ≤ nL) (hL : cp_lq 0 L0 = lv_args 0 as) (hn : narrow rt (.int r) = .int r)
    (body : ∀ x : cp_Cx, cp_xl x = l → cp_Ok x E y.cls bc nL d 0 0 →
      (∀ (v : Int32) (I1 : cp_Mem) (pc : Nat) (L : List (Option Value)), decode bc pc = .ok (.ireturn, 1) → v = r → T I1 → cp_G x E nL 0 0 cnt sh I1 R pc L [.int v]) →
      cp_G x E nL 0 0 cnt sh I R 0 L0 []) : cp_Fr l E y bc nL (some rt) d as cnt sh I R (some (.int r)) T :=
  cp_Ct_of hy hlen hL fun x h1 h2 _ h4 _ => body x h1 h2 fun v I1 pc L hd hv hI => h4 rt v cnt sh I1 R pc L rfl (by rw [hv]; exact hn) hd ⟨by rw [hv], rfl, rfl, hI, rfl⟩
theorem cp_Fn_vR {l : Launch} {E : cp_En} {y : MethodName} {bc : ByteArray} {nL : Nat} {d : Nat} {as : List Value} {cnt : Nat} {sh : cp_Shp} {I : cp_Mem} {R : cp_Rem} {T : cp_Mem → Prop} (L0 : List (Option Value))
    (hy : plainName y.cls = true) (hlen : (lg_sl as).length ≤ nL) (hL : cp_lq 0 L0 = lv_args 0 as)
    (body : ∀ x : cp_Cx, cp_xl x = l → cp_Ok x E y.cls bc nL d 0 0 →
      (∀ (I1 : cp_Mem) (pc : Nat) (L : List (Option Value)), decode bc pc = .ok (.return_, 1) → T I1 → cp_G x E nL 0 0 cnt sh I1 R pc L []) →
      cp_G x E nL 0 0 cnt sh I R 0 L0 []) : cp_Fr l E y bc nL none d as cnt sh I R none T :=
  cp_Ct_of hy hlen hL fun x h1 h2 _ _ h5 => body x h1 h2 fun I1 pc L hd hI => h5 cnt sh I1 R pc L rfl hd ⟨rfl, rfl, rfl, hI, rfl⟩
theorem cp_Fr_mono {l : Launch} {E : cp_En} {y : MethodName} {bc : ByteArray} {nL : Nat} {ret : Option FieldType} {d : Nat} {as : List Value} {cnt : Nat} {sh : cp_Shp} {I : cp_Mem} {R : cp_Rem} {v v' : Option Value} {T T' : cp_Mem → Prop} (h : cp_Fr l E y bc nL ret d as cnt sh I R v T) (hv : v = v') (hT : ∀ i, T i → T' i) : cp_Fr l E y bc nL ret d as cnt sh I R v' T' := by
  subst hv
  intro p e h1 h2 h3 s m args below h4 h5 h6 h7
  obtain ⟨k, o, g1, g2, g3, ⟨⟨u, c', s', I', R', q1, ⟨q2, q3, q4, q5, q6⟩, q7⟩, q8⟩, q9⟩ := h p e h1 h2 h3 s m args below h4 h5 h6 h7
  exact ⟨k, o, g1, g2, g3, ⟨⟨u, c', s', I', R', q1, ⟨q2, q3, q4, hT _ q5, q6⟩, q7⟩, q8⟩, q9⟩
section CPR2
variable {x : cp_Cx} {E : cp_En} {own : String} {bc : ByteArray} {nL d mc ms : Nat} {cells slots cnt : Nat} {sh : cp_Shp} {I : cp_Mem} {R : cp_Rem} {pc : Nat} {L : List (Option Value)} {st stk rest As : List Value} {y : MethodName} {cb : ByteArray} {nLc n index dc mcc msc b : Nat} {ret : Option FieldType} {T : cp_Mem → Prop}
theorem cp_cVir (O : cp_Ok x E own bc nL d mc ms) {r : Int32} (hM : cp_me y cb nLc ret n) (hI : cp_mi y) (hlk : Cond.methodLink own index y ∈ cp_TG) {ci : Nat} {TT : u_T} {N : Nat} {ty0 : Nat → FieldType} (hc : cp_clf ci y.cls TT N ty0) (hs : sh b = (ci + 1, 0)) (hC : cp_Fr (cp_xl x) E y cb nLc ret dc (.ref b :: As) cnt sh I R (some (.int r)) T) (hd : decode bc pc = .ok (.invokevirtual index, 3)) (hn : As.length = n) (hst : stk = As.reverse ++ .ref b :: rest) (hr : cp_rl d nLc dc) (hcs : cells ≤ mc ∧ slots ≤ ms) (hrest : (rest.map fun v => v.category).sum ≤ 8) (k : ∀ I', T I' → cp_G x E nL cells slots cnt sh I' R (pc + 3) L (.int r :: rest)) : cp_G x E nL cells slots cnt sh I R pc L stk :=
  cp_callV O hM hI hlk hc hs hC hd hn hst hr hcs hrest fun v c s i r h => by
    obtain ⟨rfl, rfl, rfl, hT, rfl⟩ := h
    exact k _ hT
theorem cp_cVvr (O : cp_Ok x E own bc nL d mc ms) (hM : cp_me y cb nLc ret n) (hI : cp_mi y) (hlk : Cond.methodLink own index y ∈ cp_TG) {ci : Nat} {TT : u_T} {N : Nat} {ty0 : Nat → FieldType} (hc : cp_clf ci y.cls TT N ty0) (hs : sh b = (ci + 1, 0)) (hC : cp_Fr (cp_xl x) E y cb nLc ret dc (.ref b :: As) cnt sh I R none T) (hd : decode bc pc = .ok (.invokevirtual index, 3)) (hn : As.length = n) (hst : stk = As.reverse ++ .ref b :: rest) (hr : cp_rl d nLc dc) (hcs : cells ≤ mc ∧ slots ≤ ms) (hrest : (rest.map fun v => v.category).sum ≤ 8) (k : ∀ I', T I' → cp_G x E nL cells slots cnt sh I' R (pc + 3) L rest) : cp_G x E nL cells slots cnt sh I R pc L stk :=
  cp_callV O hM hI hlk hc hs hC hd hn hst hr hcs hrest fun v c s i r h => by
    obtain ⟨rfl, rfl, rfl, hT, rfl⟩ := h
    exact k _ hT
theorem cp_cSir (O : cp_Ok x E own bc nL d mc ms) {r : Int32} (hM : cp_me y cb nLc ret n) (hst0 : Cond.static y ∈ cp_TG) (hlk : Cond.methodLink own index y ∈ cp_TG) (hC : cp_Fr (cp_xl x) E y cb nLc ret dc As cnt sh I R (some (.int r)) T) (hd : decode bc pc = .ok (.invokestatic index, 3)) (hn : As.length = n) (hst : stk = As.reverse ++ rest) (hr : cp_rl d nLc dc) (hcs : cells ≤ mc ∧ slots ≤ ms) (hrest : (rest.map fun v => v.category).sum ≤ 8) (k : ∀ I', T I' → cp_G x E nL cells slots cnt sh I' R (pc + 3) L (.int r :: rest)) : cp_G x E nL cells slots cnt sh I R pc L stk :=
  cp_callS O hM hst0 hlk hC hd hn hst hr hcs hrest fun v c s i r h => by
    obtain ⟨rfl, rfl, rfl, hT, rfl⟩ := h
    exact k _ hT
theorem cp_cSvr (O : cp_Ok x E own bc nL d mc ms) (hM : cp_me y cb nLc ret n) (hst0 : Cond.static y ∈ cp_TG) (hlk : Cond.methodLink own index y ∈ cp_TG) (hC : cp_Fr (cp_xl x) E y cb nLc ret dc As cnt sh I R none T) (hd : decode bc pc = .ok (.invokestatic index, 3)) (hn : As.length = n) (hst : stk = As.reverse ++ rest) (hr : cp_rl d nLc dc) (hcs : cells ≤ mc ∧ slots ≤ ms) (hrest : (rest.map fun v => v.category).sum ≤ 8) (k : ∀ I', T I' → cp_G x E nL cells slots cnt sh I' R (pc + 3) L rest) : cp_G x E nL cells slots cnt sh I R pc L stk :=
  cp_callS O hM hst0 hlk hC hd hn hst hr hcs hrest fun v c s i r h => by
    obtain ⟨rfl, rfl, rfl, hT, rfl⟩ := h
    exact k _ hT
theorem cp_if_ltL (O : cp_Ok x E own bc nL d mc ms) {a b : Int64} {off : Int} {tgt : Nat} (hd : decode bc pc = .ok (.ifCond .lt off, 3)) (ht : (pc : Int) + off = (tgt : Int)) (kt : a < b → cp_G x E nL cells slots cnt sh I R tgt L st) (kf : ¬ a < b → cp_G x E nL cells slots cnt sh I R (pc + 3) L st) : cp_G x E nL cells slots cnt sh I R pc L (.int (lg_cmp a b) :: st) := cp_if_lt O hd ht (fun h => kt ((lg_cmp_lt a b).mp h)) (fun h => kf (fun e => h ((lg_cmp_lt a b).mpr e)))
theorem cp_if_geL (O : cp_Ok x E own bc nL d mc ms) {a b : Int64} {off : Int} {tgt : Nat} (hd : decode bc pc = .ok (.ifCond .ge off, 3)) (ht : (pc : Int) + off = (tgt : Int)) (kt : b ≤ a → cp_G x E nL cells slots cnt sh I R tgt L st) (kf : ¬ b ≤ a → cp_G x E nL cells slots cnt sh I R (pc + 3) L st) : cp_G x E nL cells slots cnt sh I R pc L (.int (lg_cmp a b) :: st) := cp_if_ge O hd ht (fun h => kt ((lg_cmp_ge a b).mp h)) (fun h => kf (fun e => h ((lg_cmp_ge a b).mpr e)))
theorem cp_if_gtL (O : cp_Ok x E own bc nL d mc ms) {a b : Int64} {off : Int} {tgt : Nat} (hd : decode bc pc = .ok (.ifCond .gt off, 3)) (ht : (pc : Int) + off = (tgt : Int)) (kt : b < a → cp_G x E nL cells slots cnt sh I R tgt L st) (kf : ¬ b < a → cp_G x E nL cells slots cnt sh I R (pc + 3) L st) : cp_G x E nL cells slots cnt sh I R pc L (.int (lg_cmp a b) :: st) := cp_if_gt O hd ht (fun h => kt ((lg_cmp_gt a b).mp h)) (fun h => kf (fun e => h ((lg_cmp_gt a b).mpr e)))
theorem cp_if_leL (O : cp_Ok x E own bc nL d mc ms) {a b : Int64} {off : Int} {tgt : Nat} (hd : decode bc pc = .ok (.ifCond .le off, 3)) (ht : (pc : Int) + off = (tgt : Int)) (kt : a ≤ b → cp_G x E nL cells slots cnt sh I R tgt L st) (kf : ¬ a ≤ b → cp_G x E nL cells slots cnt sh I R (pc + 3) L st) : cp_G x E nL cells slots cnt sh I R pc L (.int (lg_cmp a b) :: st) := cp_if_le O hd ht (fun h => kt ((lg_cmp_le a b).mp h)) (fun h => kf (fun e => h ((lg_cmp_le a b).mpr e)))
theorem cp_if_eqL (O : cp_Ok x E own bc nL d mc ms) {a b : Int64} {off : Int} {tgt : Nat} (hd : decode bc pc = .ok (.ifCond .eq off, 3)) (ht : (pc : Int) + off = (tgt : Int)) (kt : a = b → cp_G x E nL cells slots cnt sh I R tgt L st) (kf : ¬ a = b → cp_G x E nL cells slots cnt sh I R (pc + 3) L st) : cp_G x E nL cells slots cnt sh I R pc L (.int (lg_cmp a b) :: st) := cp_if_eq O hd ht (fun h => kt ((lg_cmp_eq a b).mp h)) (fun h => kf (fun e => h ((lg_cmp_eq a b).mpr e)))
theorem cp_if_neL (O : cp_Ok x E own bc nL d mc ms) {a b : Int64} {off : Int} {tgt : Nat} (hd : decode bc pc = .ok (.ifCond .ne off, 3)) (ht : (pc : Int) + off = (tgt : Int)) (kt : ¬ a = b → cp_G x E nL cells slots cnt sh I R tgt L st) (kf : a = b → cp_G x E nL cells slots cnt sh I R (pc + 3) L st) : cp_G x E nL cells slots cnt sh I R pc L (.int (lg_cmp a b) :: st) := cp_if_ne O hd ht (fun h => kt (fun e => h ((lg_cmp_eq a b).mpr e))) (fun h => kf ((lg_cmp_eq a b).mp h))
end CPR2
end
section
def cp_ip (n : Nat) (v : Int32) : Bool := decide (0 ≤ v.toInt ∧ v.toInt < n)
theorem cp_ip_iff {n : Nat} {v : Int32} (hn : n < 2 ^ 31) : cp_ip n v = true ↔ ∃ p, p < n ∧ v = nI p := by
  unfold cp_ip
  rw [decide_eq_true_iff]
  constructor
  · rintro ⟨h1, h2⟩
    refine ⟨v.toInt.toNat, by omega, ?_⟩
    apply Int32.toInt_inj.mp
    rw [nI_toInt (by omega)]
    omega
  · rintro ⟨p, hp, rfl⟩
    rw [nI_toInt (by omega)]
    omega
theorem cp_ip_lit {n k : Nat} (hn : n < 2 ^ 31) (hk : k < n) : cp_ip n (nI k) = true := (cp_ip_iff hn).mpr ⟨k, hk, rfl⟩
theorem cp_in_ip {n : Nat} {v : Int32} (hn : n < 2 ^ 31) : (decide ((0 : Int64) ≤ v.toInt64 ∧ v.toInt64 ≤ (nI n).toInt64 - 1)) = cp_ip n v := by
  unfold cp_ip
  apply Bool.eq_iff_iff.mpr
  rw [decide_eq_true_iff, decide_eq_true_iff]
  simp only [Int64.le_iff_toInt_le, Int64.toInt_sub, Int32.toInt_toInt64, nI_toInt hn]
  have h0 : (0 : Int64).toInt = 0 := rfl
  have h1 : (1 : Int64).toInt = 1 := rfl
  rw [h0, h1]
  have hb : ((n : Int) - 1).bmod (2 ^ 64) = (n : Int) - 1 := by
    apply Int.bmod_eq_of_le <;> omega
  rw [hb]
  omega
def cp_qo (a : Nat → Int32) (p : Nat) : Int32 := if a (158 + 9 * p + 4) = 0 then a (158 + 9 * p) else if a (158 + 9 * p + 4) = 1 then 5 else -6
abbrev cp_ma (J : cp_Mem) (m : Nat) (f : Nat → Int32) (r : Nat → Nat → Int32) (a : Nat → Int32) : cp_Mem := cp_mm J m f (cp_row r 1 a)
theorem cp_ma_self (J : cp_Mem) (m : Nat) (f : Nat → Int32) (r : Nat → Nat → Int32) : cp_ma J m f r (r 1) = cp_mm J m f r := by unfold cp_ma; rw [cp_row_self]
section CPA
variable {x : cp_Cx} {E : cp_En} {own : String} {bc : ByteArray} {nL d mc ms cells slots cnt : Nat} {sh : cp_Shp} {R : cp_Rem} {pc : Nat} {L : List (Option Value)} {st : List Value} {J : cp_Mem} {m : Nat} {f : Nat → Int32} {r : Nat → Nat → Int32} {a : Nat → Int32}
theorem cp_ialdA (O : cp_Ok x E own bc nL d mc ms) {j : Nat} {i : Int32} (M : cp_ML sh R m) (hi : i = nI j) (hj : j < 420) (hd : decode bc pc = .ok (.iaload, 1)) (kk : cp_G x E nL cells slots cnt sh (cp_ma J m f r a) R (pc + 1) L (.int (a j) :: st)) : cp_G x E nL cells slots cnt sh (cp_ma J m f r a) R pc L (.int i :: .ref (m + 1) :: st) := by
  refine cp_ialdM (k := 1) O M.s0 (by decide) hi hj (by decide) hd ?_
  rw [cp_row_s]
  exact kk
theorem cp_iastA (O : cp_Ok x E own bc nL d mc ms) {j : Nat} {i v : Int32} (M : cp_ML sh R m) (hi : i = nI j) (hj : j < 420) (hd : decode bc pc = .ok (.iastore, 1)) (kk : cp_G x E nL cells slots cnt sh (cp_ma J m f r (upd a j v)) R (pc + 1) L st) : cp_G x E nL cells slots cnt sh (cp_ma J m f r a) R pc L (.int v :: .int i :: .ref (m + 1) :: st) := by
  refine cp_iastM (k := 1) O M.s0 (by decide) hi hj (by decide) hd ?_
  rw [cp_row_wi]
  exact kk
end CPA
set_option maxHeartbeats 4000000 in
set_option maxRecDepth 100000 in
theorem c_X7_in {lc : Launch} {E : cp_En} {cnt : Nat} {sh : cp_Shp} {R : cp_Rem} {I : cp_Mem} {v lo hi : Int64} : cp_Fn lc E yX7_in cX7_in 6 (some .boolean) 0 [.long v, .long lo, .long hi] cnt sh I R (some (.int (cp_bi (decide (lo ≤ v ∧ v ≤ hi))))) I := by
  refine cp_Fn_i [some (.long v), none, some (.long lo), none, some (.long hi), none] (by decide +kernel) (Nat.le_of_ble_eq_true rfl) rfl (cp_bin _) (fun x hxl O hr => ?_)
  subst hxl
  refine cp_lload_n O dX7_in_0 cp_lg0 ?_
  refine cp_lload_n O dX7_in_1 cp_lg2 ?_
  refine cp_lcmp O dX7_in_2 ?_
  refine cp_if_ltL (tgt := 17) O dX7_in_3 (by decide) (fun c_3 => ?_) (fun c_3 => ?_)
  · refine cp_iconst O dX7_in_17 (v := 0) rfl ?_
    exact hr _ _ _ _ dX7_in_18 (by first | exact cp_bi_fd (fun h => absurd c_3 (Int64.not_lt.mpr h.1)) | exact cp_bi_fd (fun h => absurd c_10 (Int64.not_lt.mpr h.2)) | exact cp_bi_td ⟨Int64.not_lt.mp c_3, Int64.not_lt.mp c_10⟩) rfl
  · refine cp_lload_n O dX7_in_6 cp_lg0 ?_
    refine cp_lload O dX7_in_7 cp_lg4 ?_
    refine cp_lcmp O dX7_in_9 ?_
    refine cp_if_gtL (tgt := 17) O dX7_in_10 (by decide) (fun c_10 => ?_) (fun c_10 => ?_)
    · refine cp_iconst O dX7_in_17 (v := 0) rfl ?_
      exact hr _ _ _ _ dX7_in_18 (by first | exact cp_bi_fd (fun h => absurd c_3 (Int64.not_lt.mpr h.1)) | exact cp_bi_fd (fun h => absurd c_10 (Int64.not_lt.mpr h.2)) | exact cp_bi_td ⟨Int64.not_lt.mp c_3, Int64.not_lt.mp c_10⟩) rfl
    · refine cp_iconst O dX7_in_13 (v := 1) rfl ?_
      refine cp_goto (tgt := 18) O dX7_in_14 (by decide) ?_
      exact hr _ _ _ _ dX7_in_18 (by first | exact cp_bi_fd (fun h => absurd c_3 (Int64.not_lt.mpr h.1)) | exact cp_bi_fd (fun h => absurd c_10 (Int64.not_lt.mpr h.2)) | exact cp_bi_td ⟨Int64.not_lt.mp c_3, Int64.not_lt.mp c_10⟩) rfl
def cp_cp420 (r : Nat → Nat → Int32) (i k c : Nat) : Nat → Nat → Int32 := fun q j => if q = k ∧ j < c then r i j else r q j
theorem cp_cp420_0 (r : Nat → Nat → Int32) (i k : Nat) : cp_cp420 r i k 0 = r := by funext q j; simp [cp_cp420]
theorem cp_cp420_s (r : Nat → Nat → Int32) {i k : Nat} (c : Nat) (h : i ≠ k) : cp_wi (cp_cp420 r i k c) k c (cp_cp420 r i k c i c) = cp_cp420 r i k (c + 1) := by
  funext q j
  unfold cp_wi cp_cp420
  by_cases hq : q = k
  · subst hq
    by_cases hj : j = c
    · subst hj; simp [h]
    · by_cases h2 : j < c
      · simp [hj, h2, show j < c + 1 by omega]
      · simp [hj, h2, show ¬ j < c + 1 by omega]
  · simp [hq]
set_option maxHeartbeats 4000000 in
set_option maxRecDepth 100000 in
theorem c_X7_copy {lc : Launch} {E : cp_En} {cnt : Nat} {sh : cp_Shp} {R : cp_Rem} {J : cp_Mem} {m : Nat} {f : Nat → Int32} {r : Nat → Nat → Int32} {i k : Nat} (hi : 0 < i ∧ i ≤ 7) (hk : 0 < k ∧ k ≤ 7) (hik : i ≠ k) (si : sh (m + i) = (9, 420)) (sk : sh (m + k) = (9, 420)) : cp_Fn lc E yX7_copy cX7_copy 3 none 0 [.ref (m + i), .ref (m + k)] cnt sh (cp_mm J m f r) R none (cp_mm J m f (cp_cp420 r i k 420)) := by
  refine cp_Fn_v [some (.ref (m + i)), some (.ref (m + k)), none] (by decide +kernel) (Nat.le_of_ble_eq_true rfl) rfl (fun x hxl O hr => ?_)
  subst hxl
  refine cp_iconst O dX7_copy_0 (v := 0) rfl ?_
  refine cp_istore_n O dX7_copy_1 (by decide) (cp_ls2 rfl) ?_
  have loop2 : ∀ c, c ≤ 420 → cp_G x E 3 0 0 cnt sh (cp_mm J m f (cp_cp420 r i k c)) R 2 [some (.ref (m + i)), some (.ref (m + k)), some (.int (nI c))] [] := by
    refine cp_up (fun c hc ih => ?_)
    refine cp_iload_n O dX7_copy_2 cp_lg2 ?_
    refine cp_sipush O dX7_copy_3 (v := 420) rfl ?_
    refine cp_icmp_geN (tgt := 21) O dX7_copy_6 (by decide) (a := c) (b := 420) rfl rfl (by omega) (by omega) (fun c_6 => ?_) (fun c_6 => ?_)
    · exact hr _ _ _ dX7_copy_21 (by rw [show c = 420 by omega])
    · refine cp_aload_n O dX7_copy_9 cp_lg1 ?_
      refine cp_iload_n O dX7_copy_10 cp_lg2 ?_
      refine cp_aload_n O dX7_copy_11 cp_lg0 ?_
      refine cp_iload_n O dX7_copy_12 cp_lg2 ?_
      refine cp_ialdM (k := i) O si hi (j := c) rfl (by omega) (by decide) dX7_copy_13 ?_
      refine cp_iastM (k := k) O sk hk (j := c) rfl (by omega) (by decide) dX7_copy_14 ?_
      refine cp_iinc O dX7_copy_15 cp_lg2 (cp_inc rfl) (by decide) (cp_ls2 rfl) ?_
      refine cp_goto (tgt := 2) O dX7_copy_18 (by decide) ?_
      rw [cp_cp420_s r _ hik]
      exact ih c_6
  rw [← cp_cp420_0 r i k]
  exact loop2 0 (Nat.zero_le _)
set_option maxHeartbeats 4000000 in
set_option maxRecDepth 100000 in
theorem c_X7_of {lc : Launch} {E : cp_En} {cnt : Nat} {sh : cp_Shp} {R : cp_Rem} {J : cp_Mem} {m : Nat} {f : Nat → Int32} {r : Nat → Nat → Int32} {a : Nat → Int32} (M : cp_ML sh R m) {v1 v2 : Int32} {p q : Nat} (h1 : v1 = nI p) (h2 : v2 = nI q) (hp : p < 24) (hq : q < 9) : cp_Fn lc E yX7_of cX7_of 3 (some .int) 0 [.ref m, .int v1, .int v2] cnt sh (cp_ma J m f r a) R (some (.int (a (158 + 9 * p + q)))) (cp_ma J m f r a) := by
  refine cp_Fn_i [some (.ref m), some (.int v1), some (.int v2)] (by decide +kernel) (Nat.le_of_ble_eq_true rfl) rfl rfl (fun x hxl O hr => ?_)
  subst hxl
  refine cp_aload_n O dX7_of_0 cp_lg0 ?_
  refine fg_X7_7 O M.s M.f0 dX7_of_1 ?_
  refine cp_sipush O dX7_of_4 (v := 158) rfl ?_
  refine cp_bipush O dX7_of_7 (v := 9) rfl ?_
  refine cp_iload_n O dX7_of_9 cp_lg1 ?_
  refine cp_imul O dX7_of_10 ?_
  refine cp_iadd O dX7_of_11 ?_
  refine cp_iload_n O dX7_of_12 cp_lg2 ?_
  refine cp_iadd O dX7_of_13 ?_
  refine cp_ialdA O M (j := ((158 + (9 * p)) + q)) (cp_ad (cp_ad rfl (cp_mu rfl h1)) h2) (by omega) dX7_of_14 ?_
  exact hr _ _ _ _ dX7_of_15 rfl rfl
set_option maxHeartbeats 4000000 in
set_option maxRecDepth 100000 in
theorem c_X7_sets {lc : Launch} {E : cp_En} {cnt : Nat} {sh : cp_Shp} {R : cp_Rem} {J : cp_Mem} {m : Nat} {f : Nat → Int32} {r : Nat → Nat → Int32} {a : Nat → Int32} (M : cp_ML sh R m) {v1 v2 v3 : Int32} {p q : Nat} (h1 : v1 = nI p) (h2 : v2 = nI q) (hp : p < 24) (hq : q < 9) : cp_Fn lc E yX7_sets cX7_sets 4 none 0 [.ref m, .int v1, .int v2, .int v3] cnt sh (cp_ma J m f r a) R none (cp_ma J m f r (upd a (158 + 9 * p + q) v3)) := by
  refine cp_Fn_v [some (.ref m), some (.int v1), some (.int v2), some (.int v3)] (by decide +kernel) (Nat.le_of_ble_eq_true rfl) rfl (fun x hxl O hr => ?_)
  subst hxl
  refine cp_aload_n O dX7_sets_0 cp_lg0 ?_
  refine fg_X7_7 O M.s M.f0 dX7_sets_1 ?_
  refine cp_sipush O dX7_sets_4 (v := 158) rfl ?_
  refine cp_bipush O dX7_sets_7 (v := 9) rfl ?_
  refine cp_iload_n O dX7_sets_9 cp_lg1 ?_
  refine cp_imul O dX7_sets_10 ?_
  refine cp_iadd O dX7_sets_11 ?_
  refine cp_iload_n O dX7_sets_12 cp_lg2 ?_
  refine cp_iadd O dX7_sets_13 ?_
  refine cp_iload_n O dX7_sets_14 cp_lg3 ?_
  refine cp_iastA O M (j := ((158 + (9 * p)) + q)) (cp_ad (cp_ad rfl (cp_mu rfl h1)) h2) (by omega) dX7_sets_15 ?_
  exact hr _ _ _ dX7_sets_16 rfl
set_option maxHeartbeats 4000000 in
set_option maxRecDepth 100000 in
theorem c_X7_inQueue {lc : Launch} {E : cp_En} {cnt : Nat} {sh : cp_Shp} {R : cp_Rem} {J : cp_Mem} {m : Nat} {f : Nat → Int32} {r : Nat → Nat → Int32} {a : Nat → Int32} (M : cp_ML sh R m) {v1 v2 : Int32} {q k : Nat} (h1 : v1 = nI q) (h2 : v2 = nI k) (hq : q < 6) (hk : k < 24) : cp_Fn lc E yX7_inQueue cX7_inQueue 3 (some .int) 0 [.ref m, .int v1, .int v2] cnt sh (cp_ma J m f r a) R (some (.int (a (14 + 24 * q + k)))) (cp_ma J m f r a) := by
  refine cp_Fn_i [some (.ref m), some (.int v1), some (.int v2)] (by decide +kernel) (Nat.le_of_ble_eq_true rfl) rfl rfl (fun x hxl O hr => ?_)
  subst hxl
  refine cp_aload_n O dX7_inQueue_0 cp_lg0 ?_
  refine fg_X7_7 O M.s M.f0 dX7_inQueue_1 ?_
  refine cp_bipush O dX7_inQueue_4 (v := 14) rfl ?_
  refine cp_bipush O dX7_inQueue_6 (v := 24) rfl ?_
  refine cp_iload_n O dX7_inQueue_8 cp_lg1 ?_
  refine cp_imul O dX7_inQueue_9 ?_
  refine cp_iadd O dX7_inQueue_10 ?_
  refine cp_iload_n O dX7_inQueue_11 cp_lg2 ?_
  refine cp_iadd O dX7_inQueue_12 ?_
  refine cp_ialdA O M (j := ((14 + (24 * q)) + k)) (cp_ad (cp_ad rfl (cp_mu rfl h1)) h2) (by omega) dX7_inQueue_13 ?_
  exact hr _ _ _ _ dX7_inQueue_14 rfl rfl
set_option maxHeartbeats 4000000 in
set_option maxRecDepth 100000 in
theorem c_X7_plateAt {lc : Launch} {E : cp_En} {cnt : Nat} {sh : cp_Shp} {R : cp_Rem} {J : cp_Mem} {m : Nat} {f : Nat → Int32} {r : Nat → Nat → Int32} {a : Nat → Int32} (M : cp_ML sh R m) {v1 v2 : Int32} {j q : Nat} (h1 : v1 = nI j) (h2 : v2 = nI q) (hj : j < 8) (hq : q < 4) : cp_Fn lc E yX7_plateAt cX7_plateAt 3 (some .int) 0 [.ref m, .int v1, .int v2] cnt sh (cp_ma J m f r a) R (some (.int (a (374 + 4 * j + q)))) (cp_ma J m f r a) := by
  refine cp_Fn_i [some (.ref m), some (.int v1), some (.int v2)] (by decide +kernel) (Nat.le_of_ble_eq_true rfl) rfl rfl (fun x hxl O hr => ?_)
  subst hxl
  refine cp_aload_n O dX7_plateAt_0 cp_lg0 ?_
  refine fg_X7_7 O M.s M.f0 dX7_plateAt_1 ?_
  refine cp_sipush O dX7_plateAt_4 (v := 374) rfl ?_
  refine cp_iconst O dX7_plateAt_7 (v := 4) rfl ?_
  refine cp_iload_n O dX7_plateAt_8 cp_lg1 ?_
  refine cp_imul O dX7_plateAt_9 ?_
  refine cp_iadd O dX7_plateAt_10 ?_
  refine cp_iload_n O dX7_plateAt_11 cp_lg2 ?_
  refine cp_iadd O dX7_plateAt_12 ?_
  refine cp_ialdA O M (j := ((374 + (4 * j)) + q)) (cp_ad (cp_ad rfl (cp_mu rfl h1)) h2) (by omega) dX7_plateAt_13 ?_
  exact hr _ _ _ _ dX7_plateAt_14 rfl rfl
set_option maxHeartbeats 4000000 in
set_option maxRecDepth 100000 in
theorem c_X7_isPiece {lc : Launch} {E : cp_En} {cnt : Nat} {sh : cp_Shp} {R : cp_Rem} {J : cp_Mem} {m : Nat} {f : Nat → Int32} {r : Nat → Nat → Int32} {a : Nat → Int32} (M : cp_ML sh R m) {v1 : Int32} {n : Nat} (hn : a 5 = nI n) (hn24 : n ≤ 24) : cp_Fn lc E yX7_isPiece cX7_isPiece 2 (some .boolean) 1 [.ref m, .int v1] cnt sh (cp_ma J m f r a) R (some (.int (cp_bi (cp_ip n v1)))) (cp_ma J m f r a) := by
  refine cp_Fn_i [some (.ref m), some (.int v1)] (by decide +kernel) (Nat.le_of_ble_eq_true rfl) rfl (cp_bin _) (fun x hxl O hr => ?_)
  subst hxl
  refine cp_iload_n O dX7_isPiece_0 cp_lg1 ?_
  refine cp_i2l O dX7_isPiece_1 ?_
  refine cp_lconst O dX7_isPiece_2 (v := 0) rfl ?_
  refine cp_aload_n O dX7_isPiece_3 cp_lg0 ?_
  refine fg_X7_7 O M.s M.f0 dX7_isPiece_4 ?_
  refine cp_iconst O dX7_isPiece_7 (v := 5) rfl ?_
  refine cp_ialdA O M (j := 5) rfl (by omega) dX7_isPiece_8 ?_
  refine cp_i2l O dX7_isPiece_9 ?_
  refine cp_lconst O dX7_isPiece_10 (v := 1) rfl ?_
  refine cp_lsub O dX7_isPiece_11 ?_
  refine cp_cSi O me_X7_in ms_X7_in ml_X7_35 (c_X7_in) dX7_isPiece_12 rfl rfl ⟨Nat.le_of_ble_eq_true rfl, Nat.le_of_ble_eq_true rfl⟩ ⟨Nat.le_refl _, Nat.le_refl _⟩ (Nat.le_of_ble_eq_true rfl) ?_
  rw [hn, cp_in_ip (by omega)]
  exact hr _ _ _ _ dX7_isPiece_15 rfl rfl
set_option maxHeartbeats 4000000 in
set_option maxRecDepth 100000 in
theorem c_X7_queueOf {lc : Launch} {E : cp_En} {cnt : Nat} {sh : cp_Shp} {R : cp_Rem} {J : cp_Mem} {m : Nat} {f : Nat → Int32} {r : Nat → Nat → Int32} {a : Nat → Int32} (M : cp_ML sh R m) {v1 : Int32} {p : Nat} (h1 : v1 = nI p) (hp : p < 24) : cp_Fn lc E yX7_queueOf cX7_queueOf 2 (some .int) 1 [.ref m, .int v1] cnt sh (cp_ma J m f r a) R (some (.int (cp_qo a p))) (cp_ma J m f r a) := by
  refine cp_Fn_i [some (.ref m), some (.int v1)] (by decide +kernel) (Nat.le_of_ble_eq_true rfl) rfl rfl (fun x hxl O hr => ?_)
  subst hxl
  refine cp_aload_n O dX7_queueOf_0 cp_lg0 ?_
  refine cp_iload_n O dX7_queueOf_1 cp_lg1 ?_
  refine cp_iconst O dX7_queueOf_2 (v := 4) rfl ?_
  refine cp_cVi O me_X7_of mi_X7_of ml_X7_39 cp_cX7 M.s (c_X7_of (p := p) (q := 4) M h1 rfl (by omega) (by omega)) dX7_queueOf_3 rfl rfl ⟨Nat.le_of_ble_eq_true rfl, Nat.le_of_ble_eq_true rfl⟩ ⟨Nat.le_refl _, Nat.le_refl _⟩ (Nat.le_of_ble_eq_true rfl) ?_
  refine cp_if_ne (tgt := 18) O dX7_queueOf_6 (by decide) (fun c_6 => ?_) (fun c_6 => ?_)
  · refine cp_aload_n O dX7_queueOf_18 cp_lg0 ?_
    refine cp_iload_n O dX7_queueOf_19 cp_lg1 ?_
    refine cp_iconst O dX7_queueOf_20 (v := 4) rfl ?_
    refine cp_cVi O me_X7_of mi_X7_of ml_X7_39 cp_cX7 M.s (c_X7_of (p := p) (q := 4) M h1 rfl (by omega) (by omega)) dX7_queueOf_21 rfl rfl ⟨Nat.le_of_ble_eq_true rfl, Nat.le_of_ble_eq_true rfl⟩ ⟨Nat.le_refl _, Nat.le_refl _⟩ (Nat.le_of_ble_eq_true rfl) ?_
    refine cp_iconst O dX7_queueOf_24 (v := 1) rfl ?_
    refine cp_icmp_ne (tgt := 32) O dX7_queueOf_25 (by decide) (fun c_25 => ?_) (fun c_25 => ?_)
    · refine cp_bipush O dX7_queueOf_32 (v := (-6)) rfl ?_
      exact hr _ _ _ _ dX7_queueOf_34 (by simp_all [cp_qo]) rfl
    · refine cp_iconst O dX7_queueOf_28 (v := 5) rfl ?_
      refine cp_goto (tgt := 34) O dX7_queueOf_29 (by decide) ?_
      exact hr _ _ _ _ dX7_queueOf_34 (by simp_all [cp_qo]) rfl
  · refine cp_aload_n O dX7_queueOf_9 cp_lg0 ?_
    refine cp_iload_n O dX7_queueOf_10 cp_lg1 ?_
    refine cp_iconst O dX7_queueOf_11 (v := 0) rfl ?_
    refine cp_cVi O me_X7_of mi_X7_of ml_X7_39 cp_cX7 M.s (c_X7_of (p := p) (q := 0) M h1 rfl (by omega) (by omega)) dX7_queueOf_12 rfl rfl ⟨Nat.le_of_ble_eq_true rfl, Nat.le_of_ble_eq_true rfl⟩ ⟨Nat.le_refl _, Nat.le_refl _⟩ (Nat.le_of_ble_eq_true rfl) ?_
    refine cp_goto (tgt := 34) O dX7_queueOf_15 (by decide) ?_
    exact hr _ _ _ _ dX7_queueOf_34 (by simp_all [cp_qo]) rfl
end
section
/-! THE NIGHT IN WORDS OF BOTH SIDES: settings S, pieces P (their fields as both have them), the lawyer's queue; desks' queues are read off P -/
abbrev cp_PP : Type := Nat → Nat → Int32
def cp_dq (n : Nat) (P : cp_PP) (d : Nat) : List Nat := (List.range n).filter (fun i => decide (P i 4 = 0) && decide (P i 0 = nI d))
/-- desk d edits for a minute -/
def cp_ed (S : Nat → Int32) (mi : Int32) (n d : Nat) (w : cp_PP × List Nat) : cp_PP × List Nat := match cp_dq n w.1 d with
  | [] => w
  | i :: _ => if w.1 i 6 + S 0 < w.1 i 1 then (cp_wi w.1 i 6 (w.1 i 6 + S 0), w.2) else if w.1 i 3 = 1 then (cp_wi (cp_wi w.1 i 6 (w.1 i 1)) i 4 1, w.2 ++ [i]) else (cp_wi (cp_wi (cp_wi w.1 i 6 (w.1 i 1)) i 4 2) i 8 mi, w.2)
/-- the lawyer reads for a minute -/
def cp_rd (S : Nat → Int32) (mi : Int32) (w : cp_PP × List Nat) : cp_PP × List Nat := match w.2 with
  | [] => w
  | i :: t => if S 1 ≤ w.1 i 7 + 1 then (cp_wi (cp_wi (cp_wi w.1 i 7 (w.1 i 7 + 1)) i 4 2) i 8 mi, t) else (cp_wi w.1 i 7 (w.1 i 7 + 1), w.2)
def cp_eds (S : Nat → Int32) (mi : Int32) (n : Nat) : Nat → cp_PP × List Nat → cp_PP × List Nat
  | 0, w => w
  | k + 1, w => cp_ed S mi n k (cp_eds S mi n k w)
def cp_wk (S : Nat → Int32) (mi : Int32) (n : Nat) (w : cp_PP × List Nat) : cp_PP × List Nat := cp_rd S mi (cp_eds S mi n 5 w)
/-- a queue of the model's row a -/
def cp_QL (a : Nat → Int32) (q : Nat) (l : List Nat) : Prop := a (8 + q) = nI l.length ∧ l.length ≤ 24 ∧ ∀ k, k < l.length → a (14 + 24 * q + k) = nI (l.getD k 0)
/-- pieces and queues of the model's row a -/
def cp_MW (a : Nat → Int32) (n : Nat) (P : cp_PP) (L : Nat → List Nat) : Prop := (∀ i, i < n → ∀ f, f < 9 → a (158 + 9 * i + f) = P i f) ∧ ∀ q, q < 6 → cp_QL a q (L q)
/-- pieces are as they may be: how they are, whose desk, what is in the lawyer's queue -/
def cp_PV (n : Nat) (P : cp_PP) (lq : List Nat) : Prop := n ≤ 24 ∧ (∀ i, i < n → (∃ d, d < 5 ∧ P i 0 = nI d) ∧ (P i 4 = 0 ∨ P i 4 = 1 ∨ P i 4 = 2 ∨ P i 4 = 3)) ∧ lq.Nodup ∧ ∀ i, i ∈ lq ↔ i < n ∧ P i 4 = 1
def cp_LL (n : Nat) (P : cp_PP) (lq : List Nat) (q : Nat) : List Nat := if q = 5 then lq else cp_dq n P q
/-- behind leaves: the piece at place k of the queue q of length n is gone; c: how far the shift is -/
def cp_lv (a : Nat → Int32) (q k n c : Nat) : Nat → Int32 := fun x => if x = 8 + q then nI (n - 1) else if 14 + 24 * q + k ≤ x ∧ x < 14 + 24 * q + c then a (x + 1) else a x
theorem cp_nm6 {q : Nat} (h : q < 2 ^ 31) : nI q ≠ -6 := fun e => by
  have h1 := congrArg Int32.toInt e
  rw [nI_toInt h] at h1
  have h2 : (-6 : Int32).toInt = -6 := rfl
  rw [h2] at h1
  omega
theorem cp_lv_0 (a : Nat → Int32) (q k n : Nat) (hn : a (8 + q) = nI n) (h0 : 0 < n) : upd a (8 + q) (a (8 + q) - 1) = cp_lv a q k n k := by
  rw [hn, show nI n - 1 = nI (n - 1) from pk_sub (b := 1) h0]
  funext x
  unfold upd cp_lv
  by_cases h : x = 8 + q
  · rw [if_pos h, if_pos h]
  · rw [if_neg h, if_neg h, if_neg (by omega)]
theorem cp_lv_s (a : Nat → Int32) (q k n c : Nat) (hk : k ≤ c) (hq : q < 6) (hc : c < 24) : upd (cp_lv a q k n c) (14 + 24 * q + c) (cp_lv a q k n c (14 + 24 * q + c + 1)) = cp_lv a q k n (c + 1) := by
  funext x
  unfold upd cp_lv
  by_cases h : x = 14 + 24 * q + c
  · subst h
    rw [if_pos rfl, if_neg (by omega), if_neg (by omega), if_neg (by omega), if_pos (by omega)]
  · rw [if_neg h]
    by_cases h1 : x = 8 + q
    · rw [if_pos h1, if_pos h1]
    · rw [if_neg h1, if_neg h1]
      by_cases h2 : 14 + 24 * q + k ≤ x ∧ x < 14 + 24 * q + c
      · rw [if_pos h2, if_pos (by omega)]
      · rw [if_neg h2, if_neg (by omega)]
theorem cp_gD {l : List Nat} {k : Nat} (h : k < l.length) : l.getD k 0 = l[k] := by simp [List.getD, List.getElem?_eq_getElem h]
theorem cp_getD_in {l : List Nat} {k : Nat} (h : k < l.length) : l.getD k 0 ∈ l := by
  rw [cp_gD h]
  exact List.getElem_mem h
theorem cp_dq_in {n : Nat} {P : cp_PP} {d i : Nat} : i ∈ cp_dq n P d ↔ i < n ∧ P i 4 = 0 ∧ P i 0 = nI d := by
  simp [cp_dq]
theorem cp_dq_nd (n : Nat) (P : cp_PP) (d : Nat) : (cp_dq n P d).Nodup := List.Pairwise.filter _ List.nodup_range
theorem cp_dq_le (n : Nat) (P : cp_PP) (d : Nat) : (cp_dq n P d).length ≤ n := by
  have h := List.length_filter_le (fun i => decide (P i 4 = 0) && decide (P i 0 = nI d)) (List.range n)
  rw [List.length_range] at h
  exact h
/-- the desks' queues don't ask for other fields -/
theorem cp_dq_wi (n : Nat) (P : cp_PP) (i f : Nat) (v : Int32) (d : Nat) (h4 : f ≠ 4) (h0 : f ≠ 0) : cp_dq n (cp_wi P i f v) d = cp_dq n P d := by
  unfold cp_dq
  apply List.filter_congr
  intro j _
  simp [cp_wi, Ne.symm h4, Ne.symm h0]
theorem cp_dq_out (n : Nat) (P : cp_PP) (i : Nat) (v : Int32) (d : Nat) (hv : v ≠ 0) : cp_dq n (cp_wi P i 4 v) d = (cp_dq n P d).filter (fun j => decide (j ≠ i)) := by
  unfold cp_dq
  rw [List.filter_filter]
  apply List.filter_congr
  intro j _
  by_cases hj : j = i
  · subst hj; simp [cp_wi, hv]
  · simp [cp_wi, hj]
theorem cp_fil_no {l : List Nat} {i : Nat} (h : i ∉ l) : l.filter (fun j => decide (j ≠ i)) = l := by
  apply List.filter_eq_self.mpr
  intro j hj
  simp only [decide_eq_true_eq]
  exact fun e => h (e ▸ hj)
theorem cp_fil_hd {i : Nat} {t : List Nat} (h : (i :: t).Nodup) : (i :: t).filter (fun j => decide (j ≠ i)) = t := by
  rw [List.filter_cons_of_neg (by simp)]
  exact cp_fil_no (List.nodup_cons.mp h).1
/-- queues of a changed row -/
theorem cp_QL_eq {a b : Nat → Int32} {q : Nat} {l : List Nat} (h : cp_QL a q l) (h8 : b (8 + q) = a (8 + q)) (hk : ∀ k, k < 24 → b (14 + 24 * q + k) = a (14 + 24 * q + k)) : cp_QL b q l :=
  ⟨h8.trans h.1, h.2.1, fun k hl => (hk k (Nat.lt_of_lt_of_le hl h.2.1)).trans (h.2.2 k hl)⟩
theorem cp_QL_lv {a : Nat → Int32} {q : Nat} {l : List Nat} (h : cp_QL a q l) (hq : q < 6) {k : Nat} (hk : k < l.length) : cp_QL (cp_lv a q k l.length (l.length - 1)) q (l.eraseIdx k) := by
  obtain ⟨h1, h2, h3⟩ := h
  have hlen : (l.eraseIdx k).length = l.length - 1 := by rw [List.length_eraseIdx, if_pos hk]
  refine ⟨?_, by omega, fun j hj => ?_⟩
  · rw [hlen]; simp [cp_lv]
  · rw [hlen] at hj
    unfold cp_lv
    rw [if_neg (by omega), cp_gD (by omega), List.getElem_eraseIdx]
    by_cases hjk : j < k
    · rw [if_neg (by omega), h3 j (by omega), dif_pos hjk, cp_gD (by omega)]
    · rw [if_pos (by omega), dif_neg hjk, show 14 + 24 * q + j + 1 = 14 + 24 * q + (j + 1) by omega, h3 (j + 1) (by omega), cp_gD (by omega)]
theorem cp_QL_lvo {a : Nat → Int32} {q q' k n c : Nat} {l : List Nat} (h : cp_QL a q' l) (hne : q' ≠ q) (hq : q < 6) (hq' : q' < 6) (hc : c ≤ 24) : cp_QL (cp_lv a q k n c) q' l := by
  refine cp_QL_eq h ?_ fun j hj => ?_
  · unfold cp_lv
    rw [if_neg (by omega), if_neg (by omega)]
  · unfold cp_lv
    rw [if_neg (by omega), if_neg (by omega)]
theorem cp_lv_hi {a : Nat → Int32} {q k n c x : Nat} (hq : q < 6) (hc : c ≤ 24) (h : x < 8 ∨ 158 ≤ x) : cp_lv a q k n c x = a x := by
  unfold cp_lv
  rw [if_neg (by omega), if_neg (by omega)]
/-- a piece comes to the end of a queue -/
def cp_cm (a : Nat → Int32) (q n : Nat) (p : Nat) : Nat → Int32 := upd (upd a (14 + 24 * q + n) (nI p)) (8 + q) (nI (n + 1))
theorem cp_QL_cm {a : Nat → Int32} {q : Nat} {l : List Nat} (h : cp_QL a q l) (hq : q < 6) (hl : l.length < 24) (p : Nat) : cp_QL (cp_cm a q l.length p) q (l ++ [p]) := by
  obtain ⟨h1, h2, h3⟩ := h
  refine ⟨by simp [cp_cm, upd], by simp; omega, fun k hk => ?_⟩
  have hk' : k < l.length + 1 := by simpa using hk
  unfold cp_cm upd
  rw [if_neg (by omega)]
  by_cases hkl : k = l.length
  · subst hkl
    rw [if_pos rfl]
    simp
  · rw [if_neg (by omega), h3 k (by omega)]
    congr 1
    rw [cp_gD (by omega), cp_gD hk, List.getElem_append_left (by omega)]
theorem cp_QL_cmo {a : Nat → Int32} {q q' n p : Nat} {l : List Nat} (h : cp_QL a q' l) (hne : q' ≠ q) (hq : q < 6) (hq' : q' < 6) (hn : n < 24) : cp_QL (cp_cm a q n p) q' l := by
  refine cp_QL_eq h ?_ fun j hj => ?_ <;> unfold cp_cm upd <;> rw [if_neg (by omega), if_neg (by omega)]
theorem cp_cm_hi {a : Nat → Int32} {q n p x : Nat} (hq : q < 6) (hn : n < 24) (h : x < 8 ∨ 158 ≤ x) : cp_cm a q n p x = a x := by
  unfold cp_cm upd
  rw [if_neg (by omega), if_neg (by omega)]

def cp_uL (L : Nat → List Nat) (q : Nat) (l : List Nat) : Nat → List Nat := fun x => if x = q then l else L x
theorem cp_MW_set {a : Nat → Int32} {n : Nat} {P : cp_PP} {L : Nat → List Nat} (h : cp_MW a n P L) (hn : n ≤ 24) {i f : Nat} (hi : i < n) (hf : f < 9) (v : Int32) : cp_MW (upd a (158 + 9 * i + f) v) n (cp_wi P i f v) L := by
  refine ⟨fun j hj g hg => ?_, fun q hq => cp_QL_eq (h.2 q hq) (by unfold upd; rw [if_neg (by omega)]) (fun k hk => by unfold upd; rw [if_neg (by omega)])⟩
  unfold upd cp_wi
  by_cases hji : j = i ∧ g = f
  · rw [if_pos hji, if_pos (by omega)]
  · rw [if_neg hji, if_neg (by omega)]
    exact h.1 j hj g hg
theorem cp_MW_lv {a : Nat → Int32} {n : Nat} {P : cp_PP} {L : Nat → List Nat} (h : cp_MW a n P L) {q k : Nat} (hq : q < 6) (hk : k < (L q).length) : cp_MW (cp_lv a q k (L q).length ((L q).length - 1)) n P (cp_uL L q ((L q).eraseIdx k)) := by
  have h24 := (h.2 q hq).2.1
  refine ⟨fun j hj g hg => ?_, fun q' hq' => ?_⟩
  · rw [cp_lv_hi hq (by omega) (by omega)]
    exact h.1 j hj g hg
  · unfold cp_uL
    by_cases hqq : q' = q
    · subst hqq
      rw [if_pos rfl]
      exact cp_QL_lv (h.2 q' hq) hq hk
    · rw [if_neg hqq]
      exact cp_QL_lvo (h.2 q' hq') hqq hq hq' (by omega)
theorem cp_MW_cm {a : Nat → Int32} {n : Nat} {P : cp_PP} {L : Nat → List Nat} (h : cp_MW a n P L) {q : Nat} (hq : q < 6) (hl : (L q).length < 24) (p : Nat) : cp_MW (cp_cm a q (L q).length p) n P (cp_uL L q (L q ++ [p])) := by
  refine ⟨fun j hj g hg => ?_, fun q' hq' => ?_⟩
  · rw [cp_cm_hi hq hl (by omega)]
    exact h.1 j hj g hg
  · unfold cp_uL
    by_cases hqq : q' = q
    · subst hqq
      rw [if_pos rfl]
      exact cp_QL_cm (h.2 q' hq) hq hl p
    · rw [if_neg hqq]
      exact cp_QL_cmo (h.2 q' hq') hqq hq hq' hl
theorem cp_MW_L {a : Nat → Int32} {n : Nat} {P : cp_PP} {L L' : Nat → List Nat} (h : cp_MW a n P L) (hL : ∀ q, q < 6 → L' q = L q) : cp_MW a n P L' := ⟨h.1, fun q hq => by rw [hL q hq]; exact h.2 q hq⟩
theorem cp_wi_j (I : cp_Mem) (a j : Nat) (v : Int32) {a' j' : Nat} (h : ¬ (a' = a ∧ j' = j)) : cp_wi I a j v a' j' = I a' j' := by
  unfold cp_wi
  rw [if_neg h]
theorem cp_upd_n {a : Nat → Int32} {k x : Nat} {v : Int32} (h : x ≠ k) : upd a k v x = a x := by unfold upd; rw [if_neg h]
theorem cp_upd_s {a : Nat → Int32} {k : Nat} {v : Int32} : upd a k v k = v := by unfold upd; rw [if_pos rfl]
end
section
set_option maxHeartbeats 4000000 in
set_option maxRecDepth 100000 in
theorem c_X7_placeOf {lc : Launch} {E : cp_En} {cnt : Nat} {sh : cp_Shp} {R : cp_Rem} {J : cp_Mem} {m : Nat} {f : Nat → Int32} {r : Nat → Nat → Int32} {a : Nat → Int32} (M : cp_ML sh R m) {v1 : Int32} {p q k : Nat} {l : List Nat} (h1 : v1 = nI p) (hp : p < 24) (hq : q < 6) (hqo : cp_qo a p = nI q) (hl : cp_QL a q l) (hlt : ∀ j, j < l.length → l.getD j 0 < 24) (hk : k < l.length) (hpk : l.getD k 0 = p) (hne : ∀ j, j < k → l.getD j 0 ≠ p) : cp_Fn lc E yX7_placeOf cX7_placeOf 4 (some .int) 2 [.ref m, .int v1] cnt sh (cp_ma J m f r a) R (some (.int (nI k))) (cp_ma J m f r a) := by
  have h24 := hl.2.1
  refine cp_Fn_i [some (.ref m), some (.int v1), none, none] (by decide +kernel) (Nat.le_of_ble_eq_true rfl) rfl rfl (fun x hxl O hr => ?_)
  subst hxl
  refine cp_aload_n O dX7_placeOf_0 cp_lg0 ?_
  refine cp_iload_n O dX7_placeOf_1 cp_lg1 ?_
  refine cp_cVi O me_X7_queueOf mi_X7_queueOf ml_X7_43 cp_cX7 M.s (c_X7_queueOf (p := p) M h1 (by omega)) dX7_placeOf_2 rfl rfl ⟨Nat.le_of_ble_eq_true rfl, Nat.le_of_ble_eq_true rfl⟩ ⟨Nat.le_refl _, Nat.le_refl _⟩ (Nat.le_of_ble_eq_true rfl) ?_
  refine cp_istore_n O dX7_placeOf_5 (by decide) (cp_ls2 rfl) ?_
  refine cp_iload_n O dX7_placeOf_6 cp_lg2 ?_
  refine cp_bipush O dX7_placeOf_7 (v := (-6)) rfl ?_
  refine cp_icmp_ne (tgt := 15) O dX7_placeOf_9 (by decide) (fun c_9 => ?_) (fun c_9 => ?_)
  · refine cp_iconst O dX7_placeOf_15 (v := 0) rfl ?_
    refine cp_istore_n O dX7_placeOf_16 (by decide) (cp_ls3 rfl) ?_
    have loop17 : ∀ c, c ≤ k → cp_G x E 4 0 0 cnt sh (cp_ma J m f r a) R 17 [some (.ref m), some (.int v1), some (.int (cp_qo a p)), some (.int (nI c))] [] := by
      refine cp_up (fun c hc ih => ?_)
      have hc24 := hlt c (by omega)
      refine cp_aload_n O dX7_placeOf_17 cp_lg0 ?_
      refine cp_iload_n O dX7_placeOf_18 cp_lg2 ?_
      refine cp_iload_n O dX7_placeOf_19 cp_lg3 ?_
      refine cp_cVi O me_X7_inQueue mi_X7_inQueue ml_X7_47 cp_cX7 M.s (c_X7_inQueue (q := q) (k := c) M hqo rfl (by omega) (by omega)) dX7_placeOf_20 rfl rfl ⟨Nat.le_of_ble_eq_true rfl, Nat.le_of_ble_eq_true rfl⟩ ⟨Nat.le_refl _, Nat.le_refl _⟩ (Nat.le_of_ble_eq_true rfl) ?_
      refine cp_iload_n O dX7_placeOf_23 cp_lg1 ?_
      refine cp_icmp_eqN (tgt := 33) O dX7_placeOf_24 (by decide) (a := (l.getD c 0)) (b := p) (hl.2.2 c (by omega)) h1 (by omega) (by omega) (fun c_24 => ?_) (fun c_24 => ?_)
      · refine cp_iload_n O dX7_placeOf_33 cp_lg3 ?_
        exact hr _ _ _ _ dX7_placeOf_34 (by rcases Nat.lt_or_ge c k with h | h; exact absurd c_24 (hne c h); rw [show c = k by omega]) rfl
      · refine cp_iinc O dX7_placeOf_27 cp_lg3 (cp_inc rfl) (by decide) (cp_ls3 rfl) ?_
        refine cp_goto (tgt := 17) O dX7_placeOf_30 (by decide) ?_
        have hck : c ≠ k := fun e => c_24 (by rw [e]; exact hpk)
        exact ih (by omega)
    exact loop17 0 (Nat.zero_le _)
  · exact absurd (hqo.symm.trans c_9) (cp_nm6 (by omega))
set_option maxHeartbeats 4000000 in
set_option maxRecDepth 100000 in
theorem c_X7_comesTo {lc : Launch} {E : cp_En} {cnt : Nat} {sh : cp_Shp} {R : cp_Rem} {J : cp_Mem} {m : Nat} {f : Nat → Int32} {r : Nat → Nat → Int32} {a : Nat → Int32} (M : cp_ML sh R m) {v1 v2 : Int32} {q p n : Nat} (h1 : v1 = nI q) (h2 : v2 = nI p) (hq : q < 6) (hn : a (8 + q) = nI n) (hn24 : n < 24) : cp_Fn lc E yX7_comesTo cX7_comesTo 3 none 0 [.ref m, .int v1, .int v2] cnt sh (cp_ma J m f r a) R none (cp_ma J m f r (cp_cm a q n p)) := by
  refine cp_Fn_v [some (.ref m), some (.int v1), some (.int v2)] (by decide +kernel) (Nat.le_of_ble_eq_true rfl) rfl (fun x hxl O hr => ?_)
  subst hxl
  refine cp_aload_n O dX7_comesTo_0 cp_lg0 ?_
  refine fg_X7_7 O M.s M.f0 dX7_comesTo_1 ?_
  refine cp_bipush O dX7_comesTo_4 (v := 14) rfl ?_
  refine cp_bipush O dX7_comesTo_6 (v := 24) rfl ?_
  refine cp_iload_n O dX7_comesTo_8 cp_lg1 ?_
  refine cp_imul O dX7_comesTo_9 ?_
  refine cp_iadd O dX7_comesTo_10 ?_
  refine cp_aload_n O dX7_comesTo_11 cp_lg0 ?_
  refine fg_X7_7 O M.s M.f0 dX7_comesTo_12 ?_
  refine cp_bipush O dX7_comesTo_15 (v := 8) rfl ?_
  refine cp_iload_n O dX7_comesTo_17 cp_lg1 ?_
  refine cp_iadd O dX7_comesTo_18 ?_
  refine cp_ialdA O M (j := (8 + q)) (cp_ad rfl h1) (by omega) dX7_comesTo_19 ?_
  refine cp_iadd O dX7_comesTo_20 ?_
  refine cp_iload_n O dX7_comesTo_21 cp_lg2 ?_
  refine cp_iastA O M (j := ((14 + (24 * q)) + n)) (cp_ad (cp_ad rfl (cp_mu rfl h1)) hn) (by omega) dX7_comesTo_22 ?_
  refine cp_aload_n O dX7_comesTo_23 cp_lg0 ?_
  refine fg_X7_7 O M.s M.f0 dX7_comesTo_24 ?_
  refine cp_bipush O dX7_comesTo_27 (v := 8) rfl ?_
  refine cp_iload_n O dX7_comesTo_29 cp_lg1 ?_
  refine cp_iadd O dX7_comesTo_30 ?_
  refine cp_dup2 O dX7_comesTo_31 rfl rfl ?_
  refine cp_ialdA O M (j := (8 + q)) (cp_ad rfl h1) (by omega) dX7_comesTo_32 ?_
  refine cp_iconst O dX7_comesTo_33 (v := 1) rfl ?_
  refine cp_iadd O dX7_comesTo_34 ?_
  refine cp_iastA O M (j := (8 + q)) (cp_ad rfl h1) (by omega) dX7_comesTo_35 ?_
  exact hr _ _ _ dX7_comesTo_36 (by rw [cp_upd_n (show 8 + q ≠ 14 + 24 * q + n by omega), hn, h2, nI_1]; rfl)
set_option maxHeartbeats 4000000 in
set_option maxRecDepth 100000 in
theorem c_X7_leaves {lc : Launch} {E : cp_En} {cnt : Nat} {sh : cp_Shp} {R : cp_Rem} {J : cp_Mem} {m : Nat} {f : Nat → Int32} {r : Nat → Nat → Int32} {a : Nat → Int32} (M : cp_ML sh R m) {v1 : Int32} {p q k : Nat} {l : List Nat} (h1 : v1 = nI p) (hp : p < 24) (hq : q < 6) (hqo : cp_qo a p = nI q) (hl : cp_QL a q l) (hlt : ∀ j, j < l.length → l.getD j 0 < 24) (hk : k < l.length) (hpk : l.getD k 0 = p) (hne : ∀ j, j < k → l.getD j 0 ≠ p) : cp_Fn lc E yX7_leaves cX7_leaves 6 none 3 [.ref m, .int v1] cnt sh (cp_ma J m f r a) R none (cp_ma J m f r (cp_lv a q k l.length (l.length - 1))) := by
  have h24 := hl.2.1
  refine cp_Fn_v [some (.ref m), some (.int v1), none, none, none, none] (by decide +kernel) (Nat.le_of_ble_eq_true rfl) rfl (fun x hxl O hr => ?_)
  subst hxl
  refine cp_aload_n O dX7_leaves_0 cp_lg0 ?_
  refine cp_iload_n O dX7_leaves_1 cp_lg1 ?_
  refine cp_cVi O me_X7_queueOf mi_X7_queueOf ml_X7_43 cp_cX7 M.s (c_X7_queueOf (p := p) M h1 (by omega)) dX7_leaves_2 rfl rfl ⟨Nat.le_of_ble_eq_true rfl, Nat.le_of_ble_eq_true rfl⟩ ⟨Nat.le_refl _, Nat.le_refl _⟩ (Nat.le_of_ble_eq_true rfl) ?_
  refine cp_istore_n O dX7_leaves_5 (by decide) (cp_ls2 rfl) ?_
  refine cp_iload_n O dX7_leaves_6 cp_lg2 ?_
  refine cp_bipush O dX7_leaves_7 (v := (-6)) rfl ?_
  refine cp_icmp_ne (tgt := 13) O dX7_leaves_9 (by decide) (fun c_9 => ?_) (fun c_9 => ?_)
  · refine cp_aload_n O dX7_leaves_13 cp_lg0 ?_
    refine cp_iload_n O dX7_leaves_14 cp_lg1 ?_
    refine cp_cVi O me_X7_placeOf mi_X7_placeOf ml_X7_50 cp_cX7 M.s (c_X7_placeOf M h1 hp hq hqo hl hlt hk hpk hne) dX7_leaves_15 rfl rfl ⟨Nat.le_of_ble_eq_true rfl, Nat.le_of_ble_eq_true rfl⟩ ⟨Nat.le_refl _, Nat.le_refl _⟩ (Nat.le_of_ble_eq_true rfl) ?_
    refine cp_istore_n O dX7_leaves_18 (by decide) (cp_ls3 rfl) ?_
    refine cp_aload_n O dX7_leaves_19 cp_lg0 ?_
    refine fg_X7_7 O M.s M.f0 dX7_leaves_20 ?_
    refine cp_bipush O dX7_leaves_23 (v := 8) rfl ?_
    refine cp_iload_n O dX7_leaves_25 cp_lg2 ?_
    refine cp_iadd O dX7_leaves_26 ?_
    refine cp_dup2 O dX7_leaves_27 rfl rfl ?_
    refine cp_ialdA O M (j := (8 + q)) (cp_ad rfl hqo) (by omega) dX7_leaves_28 ?_
    refine cp_iconst O dX7_leaves_29 (v := 1) rfl ?_
    refine cp_isub O dX7_leaves_30 ?_
    refine cp_iastA O M (j := (8 + q)) (cp_ad rfl hqo) (by omega) dX7_leaves_31 ?_
    rw [cp_lv_0 a q k l.length hl.1 (by omega)]
    refine cp_iload_n O dX7_leaves_32 cp_lg3 ?_
    refine cp_istore O dX7_leaves_33 (by decide) (cp_ls4 rfl) ?_
    have loop35 : ∀ c, c ≤ l.length - 1 → k ≤ c → cp_G x E 6 0 0 cnt sh (cp_ma J m f r (cp_lv a q k l.length c)) R 35 [some (.ref m), some (.int v1), some (.int (cp_qo a p)), some (.int (nI k)), some (.int (nI c)), none] [] := by
      refine cp_up (fun c hc ih hkc => ?_)
      refine cp_iload O dX7_leaves_35 cp_lg4 ?_
      refine cp_aload_n O dX7_leaves_37 cp_lg0 ?_
      refine fg_X7_7 O M.s M.f0 dX7_leaves_38 ?_
      refine cp_bipush O dX7_leaves_41 (v := 8) rfl ?_
      refine cp_iload_n O dX7_leaves_43 cp_lg2 ?_
      refine cp_iadd O dX7_leaves_44 ?_
      refine cp_ialdA O M (j := (8 + q)) (cp_ad rfl hqo) (by omega) dX7_leaves_45 ?_
      refine cp_icmp_geN (tgt := 83) O dX7_leaves_46 (by decide) (a := c) (b := (l.length - 1)) rfl (by simp [cp_lv]) (by omega) (by omega) (fun c_46 => ?_) (fun c_46 => ?_)
      · exact hr _ _ _ dX7_leaves_83 (by rw [show c = l.length - 1 by omega])
      · refine cp_bipush O dX7_leaves_49 (v := 14) rfl ?_
        refine cp_bipush O dX7_leaves_51 (v := 24) rfl ?_
        refine cp_iload_n O dX7_leaves_53 cp_lg2 ?_
        refine cp_imul O dX7_leaves_54 ?_
        refine cp_iadd O dX7_leaves_55 ?_
        refine cp_iload O dX7_leaves_56 cp_lg4 ?_
        refine cp_iadd O dX7_leaves_58 ?_
        refine cp_istore O dX7_leaves_59 (by decide) (cp_ls5 rfl) ?_
        refine cp_aload_n O dX7_leaves_61 cp_lg0 ?_
        refine fg_X7_7 O M.s M.f0 dX7_leaves_62 ?_
        refine cp_iload O dX7_leaves_65 cp_lg5 ?_
        refine cp_aload_n O dX7_leaves_67 cp_lg0 ?_
        refine fg_X7_7 O M.s M.f0 dX7_leaves_68 ?_
        refine cp_iload O dX7_leaves_71 cp_lg5 ?_
        refine cp_iconst O dX7_leaves_73 (v := 1) rfl ?_
        refine cp_iadd O dX7_leaves_74 ?_
        refine cp_ialdA O M (j := (((14 + (24 * q)) + c) + 1)) (cp_ad (cp_ad (cp_ad rfl (cp_mu rfl hqo)) rfl) rfl) (by omega) dX7_leaves_75 ?_
        refine cp_iastA O M (j := ((14 + (24 * q)) + c)) (cp_ad (cp_ad rfl (cp_mu rfl hqo)) rfl) (by omega) dX7_leaves_76 ?_
        refine cp_iinc O dX7_leaves_77 cp_lg4 (cp_inc rfl) (by decide) (cp_ls4 rfl) ?_
        refine cp_goto (tgt := 35) O dX7_leaves_80 (by decide) ?_
        rw [cp_lv_s a q k l.length c hkc hq (by omega)]
        exact cp_Gw (cp_lws (cp_lws (cp_lws (cp_lws (cp_lws (cp_lwn cp_lw0)))))) (ih c_46 (by omega))
    exact cp_Gw (cp_lws (cp_lws (cp_lws (cp_lws (cp_lws (cp_lwn cp_lw0)))))) (loop35 k (by omega) (Nat.le_refl _))
  · exact absurd (hqo.symm.trans c_9) (cp_nm6 (by omega))
set_option maxHeartbeats 4000000 in
set_option maxRecDepth 100000 in
theorem c_X7_becomesReady {lc : Launch} {E : cp_En} {cnt : Nat} {sh : cp_Shp} {R : cp_Rem} {J : cp_Mem} {m : Nat} {f : Nat → Int32} {r : Nat → Nat → Int32} {a : Nat → Int32} (M : cp_ML sh R m) {v1 : Int32} {p : Nat} (h1 : v1 = nI p) (hp : p < 24) : cp_Fn lc E yX7_becomesReady cX7_becomesReady 2 none 1 [.ref m, .int v1] cnt sh (cp_ma J m f r a) R none (cp_ma J m f r (upd (upd a (158 + 9 * p + 4) 2) (158 + 9 * p + 8) (a 4))) := by
  refine cp_Fn_v [some (.ref m), some (.int v1)] (by decide +kernel) (Nat.le_of_ble_eq_true rfl) rfl (fun x hxl O hr => ?_)
  subst hxl
  refine cp_aload_n O dX7_becomesReady_0 cp_lg0 ?_
  refine cp_iload_n O dX7_becomesReady_1 cp_lg1 ?_
  refine cp_iconst O dX7_becomesReady_2 (v := 4) rfl ?_
  refine cp_iconst O dX7_becomesReady_3 (v := 2) rfl ?_
  refine cp_cVv O me_X7_sets mi_X7_sets ml_X7_53 cp_cX7 M.s (c_X7_sets (p := p) (q := 4) M h1 rfl (by omega) (by omega)) dX7_becomesReady_4 rfl rfl ⟨Nat.le_of_ble_eq_true rfl, Nat.le_of_ble_eq_true rfl⟩ ⟨Nat.le_refl _, Nat.le_refl _⟩ (Nat.le_of_ble_eq_true rfl) ?_
  refine cp_aload_n O dX7_becomesReady_7 cp_lg0 ?_
  refine cp_iload_n O dX7_becomesReady_8 cp_lg1 ?_
  refine cp_bipush O dX7_becomesReady_9 (v := 8) rfl ?_
  refine cp_aload_n O dX7_becomesReady_11 cp_lg0 ?_
  refine fg_X7_7 O M.s M.f0 dX7_becomesReady_12 ?_
  refine cp_iconst O dX7_becomesReady_15 (v := 4) rfl ?_
  refine cp_ialdA O M (j := 4) rfl (by omega) dX7_becomesReady_16 ?_
  refine cp_cVv O me_X7_sets mi_X7_sets ml_X7_53 cp_cX7 M.s (c_X7_sets (p := p) (q := 8) M h1 rfl (by omega) (by omega)) dX7_becomesReady_17 rfl rfl ⟨Nat.le_of_ble_eq_true rfl, Nat.le_of_ble_eq_true rfl⟩ ⟨Nat.le_refl _, Nat.le_refl _⟩ (Nat.le_of_ble_eq_true rfl) ?_
  exact hr _ _ _ dX7_becomesReady_20 (by rw [cp_upd_n (show 4 ≠ 158 + 9 * p + 4 by omega)])
end
section
/-! a minute at a desk and at the lawyer's, in the model's row -/
theorem cp_len_le : ∀ (n : Nat) (l : List Nat), l.Nodup → (∀ x ∈ l, x < n) → l.length ≤ n := by
  intro n
  induction n with
  | zero =>
    intro l _ h
    cases l with
    | nil => exact Nat.le_refl _
    | cons a t => exact absurd (h a List.mem_cons_self) (by omega)
  | succ n ih =>
    intro l hn h
    by_cases hm : n ∈ l
    · have h1 := ih (l.erase n) (hn.erase n) (fun x hx => by
        have h2 := (List.Nodup.mem_erase_iff hn).mp hx
        have h3 := h x h2.2
        have h4 : x ≠ n := h2.1
        omega)
      rw [List.length_erase_of_mem hm] at h1
      omega
    · have h1 := ih l hn (fun x hx => by
        have h3 := h x hx
        have h4 : x ≠ n := fun e => hm (e ▸ hx)
        omega)
      omega
theorem cp_PV_len {n : Nat} {P : cp_PP} {lq : List Nat} (h : cp_PV n P lq) {i : Nat} (hi : i < n) (h4 : P i 4 ≠ 1) : lq.length < n := by
  have h1 := cp_len_le n (i :: lq) (List.nodup_cons.mpr ⟨fun hm => h4 ((h.2.2.2 i).mp hm).2, h.2.2.1⟩) (fun x hx => by
    rcases List.mem_cons.mp hx with e | e
    · rw [e]; exact hi
    · exact ((h.2.2.2 x).mp e).1)
  rw [List.length_cons] at h1
  exact h1
theorem cp_LL5 (n : Nat) (P : cp_PP) (lq : List Nat) : cp_LL n P lq 5 = lq := by unfold cp_LL; rw [if_pos rfl]
theorem cp_LLd (n : Nat) (P : cp_PP) (lq : List Nat) {d : Nat} (h : d < 5) : cp_LL n P lq d = cp_dq n P d := by unfold cp_LL; rw [if_neg (by omega)]
theorem cp_eraseIdx0 (i : Nat) (t : List Nat) : (i :: t).eraseIdx 0 = t := rfl
section EDP
variable {a : Nat → Int32} {n : Nat} {P : cp_PP} {lq t : List Nat} {S : Nat → Int32} {mi : Int32} {d i : Nat}
theorem cp_ed_nil (h : cp_dq n P d = []) : cp_ed S mi n d (P, lq) = (P, lq) := by unfold cp_ed; simp [h]
theorem cp_ed_cons (h : cp_dq n P d = i :: t) : cp_ed S mi n d (P, lq) = if P i 6 + S 0 < P i 1 then (cp_wi P i 6 (P i 6 + S 0), lq) else if P i 3 = 1 then (cp_wi (cp_wi P i 6 (P i 1)) i 4 1, lq ++ [i]) else (cp_wi (cp_wi (cp_wi P i 6 (P i 1)) i 4 2) i 8 mi, lq) := by unfold cp_ed; simp [h]
theorem cp_ed_hd (h : cp_dq n P d = i :: t) : i < n ∧ P i 4 = 0 ∧ P i 0 = nI d := cp_dq_in.mp (by rw [h]; exact List.mem_cons_self)
theorem cp_dq_tl (h : cp_dq n P d = i :: t) (hd : d < 5) {v w : Int32} (hw : w ≠ 0) {q : Nat} (hq : q < 5) : cp_dq n (cp_wi (cp_wi P i 6 v) i 4 w) q = if q = d then t else cp_dq n P q := by
  rw [cp_dq_out _ _ _ _ _ hw, cp_dq_wi _ _ _ _ _ _ (by decide) (by decide)]
  by_cases hqd : q = d
  · subst hqd
    rw [if_pos rfl, h]
    exact cp_fil_hd (h ▸ cp_dq_nd n P q)
  · rw [if_neg hqd]
    refine cp_fil_no fun hm => hqd ?_
    have h1 := (cp_dq_in.mp hm).2.2
    have h2 := (cp_ed_hd h).2.2
    exact (nI_eq (by omega) (by omega)).mp (h1.symm.trans h2)
theorem cp_ed_A (hW : cp_MW a n P (cp_LL n P lq)) (hV : cp_PV n P lq) (h : cp_dq n P d = i :: t) (v : Int32) : cp_MW (upd a (158 + 9 * i + 6) v) n (cp_wi P i 6 v) (cp_LL n (cp_wi P i 6 v) lq) := by
  refine cp_MW_L (cp_MW_set hW hV.1 (cp_ed_hd h).1 (by decide) v) fun q hq => ?_
  by_cases h5 : q = 5
  · subst h5; rw [cp_LL5, cp_LL5]
  · rw [cp_LLd _ _ _ (by omega), cp_LLd _ _ _ (by omega), cp_dq_wi _ _ _ _ _ _ (by decide) (by decide)]
theorem cp_ed_L (hW : cp_MW a n P (cp_LL n P lq)) (hV : cp_PV n P lq) (h : cp_dq n P d = i :: t) (hd : d < 5) (v : Int32) : cp_MW (cp_lv (upd a (158 + 9 * i + 6) v) d 0 (i :: t).length ((i :: t).length - 1)) n (cp_wi P i 6 v) (cp_uL (cp_LL n P lq) d t) := by
  have h1 := cp_MW_set hW hV.1 (cp_ed_hd h).1 (f := 6) (by decide) v
  have hL : cp_LL n P lq d = i :: t := by rw [cp_LLd _ _ _ hd]; exact h
  have h2 := cp_MW_lv h1 (q := d) (k := 0) (by omega) (by rw [hL]; simp)
  rw [hL] at h2
  exact h2
theorem cp_ed_B (hW : cp_MW a n P (cp_LL n P lq)) (hV : cp_PV n P lq) (h : cp_dq n P d = i :: t) (hd : d < 5) (v : Int32) :
    cp_MW (cp_cm (upd (cp_lv (upd a (158 + 9 * i + 6) v) d 0 (i :: t).length ((i :: t).length - 1)) (158 + 9 * i + 4) 1) 5 lq.length i) n (cp_wi (cp_wi P i 6 v) i 4 1) (cp_LL n (cp_wi (cp_wi P i 6 v) i 4 1) (lq ++ [i])) := by
  have hi := cp_ed_hd h
  have h3 := cp_MW_set (cp_ed_L hW hV h hd v) hV.1 hi.1 (f := 4) (by decide) 1
  have h5 : cp_uL (cp_LL n P lq) d t 5 = lq := by unfold cp_uL; rw [if_neg (by omega), cp_LL5]
  have hlen := cp_PV_len hV hi.1 (by rw [hi.2.1]; decide)
  have hn := hV.1
  have h4 := cp_MW_cm h3 (q := 5) (by decide) (by rw [h5]; omega) i
  rw [h5] at h4
  refine cp_MW_L h4 fun q hq => ?_
  by_cases hq5 : q = 5
  · subst hq5; rw [cp_LL5]; unfold cp_uL; rw [if_pos rfl]
  · rw [cp_LLd _ _ _ (by omega), cp_dq_tl h hd (by decide) (by omega)]
    unfold cp_uL
    rw [if_neg hq5]
    by_cases hqd : q = d
    · rw [if_pos hqd, if_pos hqd]
    · rw [if_neg hqd, if_neg hqd, cp_LLd _ _ _ (by omega)]
theorem cp_ed_C (hW : cp_MW a n P (cp_LL n P lq)) (hV : cp_PV n P lq) (h : cp_dq n P d = i :: t) (hd : d < 5) (v w : Int32) :
    cp_MW (upd (upd (cp_lv (upd a (158 + 9 * i + 6) v) d 0 (i :: t).length ((i :: t).length - 1)) (158 + 9 * i + 4) 2) (158 + 9 * i + 8) w) n (cp_wi (cp_wi (cp_wi P i 6 v) i 4 2) i 8 w) (cp_LL n (cp_wi (cp_wi (cp_wi P i 6 v) i 4 2) i 8 w) lq) := by
  have hi := cp_ed_hd h
  have h3 := cp_MW_set (cp_ed_L hW hV h hd v) hV.1 hi.1 (f := 4) (by decide) 2
  have h4 := cp_MW_set h3 hV.1 hi.1 (f := 8) (by decide) w
  refine cp_MW_L h4 fun q hq => ?_
  by_cases hq5 : q = 5
  · subst hq5; rw [cp_LL5]; unfold cp_uL; rw [if_neg (by omega), cp_LL5]
  · rw [cp_LLd _ _ _ (by omega), cp_dq_wi _ _ _ _ _ _ (by decide) (by decide), cp_dq_tl h hd (by decide) (by omega)]
    unfold cp_uL
    by_cases hqd : q = d
    · rw [if_pos hqd, if_pos hqd]
    · rw [if_neg hqd, if_neg hqd, cp_LLd _ _ _ (by omega)]
/-- the lawyer's -/
theorem cp_rd_nil : cp_rd S mi (P, []) = (P, []) := rfl
theorem cp_rd_cons : cp_rd S mi (P, i :: t) = if S 1 ≤ P i 7 + 1 then (cp_wi (cp_wi (cp_wi P i 7 (P i 7 + 1)) i 4 2) i 8 mi, t) else (cp_wi P i 7 (P i 7 + 1), i :: t) := rfl
theorem cp_rd_A (hW : cp_MW a n P (cp_LL n P (i :: t))) (hV : cp_PV n P (i :: t)) (v : Int32) : cp_MW (upd a (158 + 9 * i + 7) v) n (cp_wi P i 7 v) (cp_LL n (cp_wi P i 7 v) (i :: t)) := by
  refine cp_MW_L (cp_MW_set hW hV.1 ((hV.2.2.2 i).mp List.mem_cons_self).1 (by decide) v) fun q hq => ?_
  by_cases h5 : q = 5
  · subst h5; rw [cp_LL5, cp_LL5]
  · rw [cp_LLd _ _ _ (by omega), cp_LLd _ _ _ (by omega), cp_dq_wi _ _ _ _ _ _ (by decide) (by decide)]
theorem cp_rd_L (hW : cp_MW a n P (cp_LL n P (i :: t))) (hV : cp_PV n P (i :: t)) (v : Int32) : cp_MW (cp_lv (upd a (158 + 9 * i + 7) v) 5 0 (i :: t).length ((i :: t).length - 1)) n (cp_wi P i 7 v) (cp_uL (cp_LL n P (i :: t)) 5 t) := by
  have h1 := cp_MW_set hW hV.1 ((hV.2.2.2 i).mp List.mem_cons_self).1 (f := 7) (by decide) v
  have h2 := cp_MW_lv h1 (q := 5) (k := 0) (by omega) (by rw [cp_LL5]; simp)
  rw [cp_LL5] at h2
  exact h2
theorem cp_rd_C (hW : cp_MW a n P (cp_LL n P (i :: t))) (hV : cp_PV n P (i :: t)) (v w : Int32) :
    cp_MW (upd (upd (cp_lv (upd a (158 + 9 * i + 7) v) 5 0 (i :: t).length ((i :: t).length - 1)) (158 + 9 * i + 4) 2) (158 + 9 * i + 8) w) n (cp_wi (cp_wi (cp_wi P i 7 v) i 4 2) i 8 w) (cp_LL n (cp_wi (cp_wi (cp_wi P i 7 v) i 4 2) i 8 w) t) := by
  have hi := (hV.2.2.2 i).mp List.mem_cons_self
  have h3 := cp_MW_set (cp_rd_L hW hV v) hV.1 hi.1 (f := 4) (by decide) 2
  have h4 := cp_MW_set h3 hV.1 hi.1 (f := 8) (by decide) w
  refine cp_MW_L h4 fun q hq => ?_
  by_cases hq5 : q = 5
  · subst hq5; rw [cp_LL5]; unfold cp_uL; rw [if_pos rfl]
  · rw [cp_LLd _ _ _ (by omega), cp_dq_wi _ _ _ _ _ _ (by decide) (by decide), cp_dq_out _ _ _ _ _ (by decide), cp_dq_wi _ _ _ _ _ _ (by decide) (by decide)]
    unfold cp_uL
    rw [if_neg hq5, cp_LLd _ _ _ (by omega)]
    refine cp_fil_no fun hm => ?_
    have h1 := (cp_dq_in.mp hm).2.1
    rw [hi.2] at h1
    exact absurd h1 (by decide)
end EDP
end
section
theorem c_X7_ofe {lc : Launch} {E : cp_En} {cnt : Nat} {sh : cp_Shp} {R : cp_Rem} {J : cp_Mem} {m : Nat} {f : Nat → Int32} {r : Nat → Nat → Int32} {a : Nat → Int32} (M : cp_ML sh R m) {v1 v2 w : Int32} {p q : Nat} (h1 : v1 = nI p) (h2 : v2 = nI q) (hp : p < 24) (hq : q < 9) (hw : a (158 + 9 * p + q) = w) : cp_Fn lc E yX7_of cX7_of 3 (some .int) 0 [.ref m, .int v1, .int v2] cnt sh (cp_ma J m f r a) R (some (.int w)) (cp_ma J m f r a) := cp_Fn_eq (c_X7_of M h1 h2 hp hq) (by rw [hw]) rfl
set_option maxHeartbeats 4000000 in
set_option maxRecDepth 100000 in
theorem c_X7_edits_0 {lc : Launch} {E : cp_En} {cnt : Nat} {sh : cp_Shp} {R : cp_Rem} {J : cp_Mem} {m : Nat} {f : Nat → Int32} {r : Nat → Nat → Int32} {a : Nat → Int32} (M : cp_ML sh R m) {v1 : Int32} {d n : Nat} {S : Nat → Int32} {mi : Int32} {P : cp_PP} {lq : List Nat} (h1 : v1 = nI d) (hd : d < 5) (hS : a 0 = S 0) (hmi : a 4 = mi) (hW : cp_MW a n P (cp_LL n P lq)) (hV : cp_PV n P lq) (hdq : cp_dq n P d = []) : cp_Fr lc E yX7_edits cX7_edits 4 none 5 [.ref m, .int v1] cnt sh (cp_ma J m f r a) R none (fun I' => ∃ a', I' = cp_ma J m f r a' ∧ cp_MW a' n (cp_ed S mi n d (P, lq)).1 (cp_LL n (cp_ed S mi n d (P, lq)).1 (cp_ed S mi n d (P, lq)).2) ∧ ∀ x, (x < 8 ∨ 374 ≤ x) → a' x = a x) := by
  have hQ := hW.2 d (by omega)
  rw [cp_LLd _ _ _ hd, hdq] at hQ
  refine cp_Fn_vR [some (.ref m), some (.int v1), none, none] (by decide +kernel) (Nat.le_of_ble_eq_true rfl) rfl (fun x hxl O hr => ?_)
  subst hxl
  refine cp_aload_n O dX7_edits_0 cp_lg0 ?_
  refine fg_X7_7 O M.s M.f0 dX7_edits_1 ?_
  refine cp_bipush O dX7_edits_4 (v := 8) rfl ?_
  refine cp_iload_n O dX7_edits_6 cp_lg1 ?_
  refine cp_iadd O dX7_edits_7 ?_
  refine cp_ialdA O M (j := (8 + d)) (cp_ad rfl h1) (by omega) dX7_edits_8 ?_
  refine cp_if_ne (tgt := 13) O dX7_edits_9 (by decide) (fun c_9 => ?_) (fun c_9 => ?_)
  · exact absurd hQ.1 c_9
  · exact hr _ _ _ dX7_edits_12 (by rw [cp_ed_nil hdq]; exact ⟨a, rfl, hW, fun _ _ => rfl⟩)
set_option maxHeartbeats 4000000 in
set_option maxRecDepth 100000 in
theorem c_X7_edits_1 {lc : Launch} {E : cp_En} {cnt : Nat} {sh : cp_Shp} {R : cp_Rem} {J : cp_Mem} {m : Nat} {f : Nat → Int32} {r : Nat → Nat → Int32} {a : Nat → Int32} (M : cp_ML sh R m) {v1 : Int32} {d n : Nat} {S : Nat → Int32} {mi : Int32} {P : cp_PP} {lq : List Nat} (h1 : v1 = nI d) (hd : d < 5) (hS : a 0 = S 0) (hmi : a 4 = mi) (hW : cp_MW a n P (cp_LL n P lq)) (hV : cp_PV n P lq) {i : Nat} {t : List Nat} (hdq : cp_dq n P d = i :: t) : cp_Fr lc E yX7_edits cX7_edits 4 none 5 [.ref m, .int v1] cnt sh (cp_ma J m f r a) R none (fun I' => ∃ a', I' = cp_ma J m f r a' ∧ cp_MW a' n (cp_ed S mi n d (P, lq)).1 (cp_LL n (cp_ed S mi n d (P, lq)).1 (cp_ed S mi n d (P, lq)).2) ∧ ∀ x, (x < 8 ∨ 374 ≤ x) → a' x = a x) := by
  have hi := cp_ed_hd hdq
  have hn24 := hV.1
  have hQ := hW.2 d (by omega)
  rw [cp_LLd _ _ _ hd, hdq] at hQ
  have hp := hW.1 i hi.1
  have hlt : ∀ j, j < (i :: t).length → (i :: t).getD j 0 < 24 := fun j hj => by
    have h0 : (i :: t).getD j 0 ∈ cp_dq n P d := by rw [hdq]; exact cp_getD_in hj
    have h := (cp_dq_in.mp h0).1
    omega
  have ht24 : t.length + 1 ≤ 24 := hQ.2.1
  have hlen := cp_PV_len hV hi.1 (by rw [hi.2.1]; decide)
  have h5 := hW.2 5 (by decide)
  rw [cp_LL5] at h5
  refine cp_Fn_vR [some (.ref m), some (.int v1), none, none] (by decide +kernel) (Nat.le_of_ble_eq_true rfl) rfl (fun x hxl O hr => ?_)
  subst hxl
  refine cp_aload_n O dX7_edits_0 cp_lg0 ?_
  refine fg_X7_7 O M.s M.f0 dX7_edits_1 ?_
  refine cp_bipush O dX7_edits_4 (v := 8) rfl ?_
  refine cp_iload_n O dX7_edits_6 cp_lg1 ?_
  refine cp_iadd O dX7_edits_7 ?_
  refine cp_ialdA O M (j := (8 + d)) (cp_ad rfl h1) (by omega) dX7_edits_8 ?_
  refine cp_if_ne (tgt := 13) O dX7_edits_9 (by decide) (fun c_9 => ?_) (fun c_9 => ?_)
  · refine cp_aload_n O dX7_edits_13 cp_lg0 ?_
    refine cp_iload_n O dX7_edits_14 cp_lg1 ?_
    refine cp_iconst O dX7_edits_15 (v := 0) rfl ?_
    refine cp_cVi O me_X7_inQueue mi_X7_inQueue ml_X7_47 cp_cX7 M.s (c_X7_inQueue (q := d) (k := 0) M h1 rfl (by omega) (by omega)) dX7_edits_16 rfl rfl ⟨Nat.le_of_ble_eq_true rfl, Nat.le_of_ble_eq_true rfl⟩ ⟨Nat.le_refl _, Nat.le_refl _⟩ (Nat.le_of_ble_eq_true rfl) ?_
    refine cp_istore_n O dX7_edits_19 (by decide) (cp_ls2 rfl) ?_
    refine cp_aload_n O dX7_edits_20 cp_lg0 ?_
    refine cp_iload_n O dX7_edits_21 cp_lg2 ?_
    refine cp_bipush O dX7_edits_22 (v := 6) rfl ?_
    refine cp_cVi O me_X7_of mi_X7_of ml_X7_39 cp_cX7 M.s (c_X7_ofe (w := P i 6) (p := i) (q := 6) M (hQ.2.2 0 (by simp)) rfl (by omega) (by omega) (hp 6 (by decide))) dX7_edits_24 rfl rfl ⟨Nat.le_of_ble_eq_true rfl, Nat.le_of_ble_eq_true rfl⟩ ⟨Nat.le_refl _, Nat.le_refl _⟩ (Nat.le_of_ble_eq_true rfl) ?_
    refine cp_aload_n O dX7_edits_27 cp_lg0 ?_
    refine fg_X7_7 O M.s M.f0 dX7_edits_28 ?_
    refine cp_iconst O dX7_edits_31 (v := 0) rfl ?_
    refine cp_ialdA O M (j := 0) rfl (by omega) dX7_edits_32 ?_
    refine cp_iadd O dX7_edits_33 ?_
    rw [hS]
    refine cp_istore_n O dX7_edits_34 (by decide) (cp_ls3 rfl) ?_
    refine cp_aload_n O dX7_edits_35 cp_lg0 ?_
    refine cp_iload_n O dX7_edits_36 cp_lg2 ?_
    refine cp_bipush O dX7_edits_37 (v := 6) rfl ?_
    refine cp_iload_n O dX7_edits_39 cp_lg3 ?_
    refine cp_aload_n O dX7_edits_40 cp_lg0 ?_
    refine cp_iload_n O dX7_edits_41 cp_lg2 ?_
    refine cp_iconst O dX7_edits_42 (v := 1) rfl ?_
    refine cp_cVi O me_X7_of mi_X7_of ml_X7_39 cp_cX7 M.s (c_X7_ofe (w := P i 1) (p := i) (q := 1) M (hQ.2.2 0 (by simp)) rfl (by omega) (by omega) (hp 1 (by decide))) dX7_edits_43 rfl rfl ⟨Nat.le_of_ble_eq_true rfl, Nat.le_of_ble_eq_true rfl⟩ ⟨Nat.le_refl _, Nat.le_refl _⟩ (Nat.le_of_ble_eq_true rfl) ?_
    refine cp_icmp_ge (tgt := 53) O dX7_edits_46 (by decide) (fun c_46 => ?_) (fun c_46 => ?_)
    · refine cp_aload_n O dX7_edits_53 cp_lg0 ?_
      refine cp_iload_n O dX7_edits_54 cp_lg2 ?_
      refine cp_iconst O dX7_edits_55 (v := 1) rfl ?_
      refine cp_cVi O me_X7_of mi_X7_of ml_X7_39 cp_cX7 M.s (c_X7_ofe (w := P i 1) (p := i) (q := 1) M (hQ.2.2 0 (by simp)) rfl (by omega) (by omega) (hp 1 (by decide))) dX7_edits_56 rfl rfl ⟨Nat.le_of_ble_eq_true rfl, Nat.le_of_ble_eq_true rfl⟩ ⟨Nat.le_refl _, Nat.le_refl _⟩ (Nat.le_of_ble_eq_true rfl) ?_
      refine cp_cVv O me_X7_sets mi_X7_sets ml_X7_53 cp_cX7 M.s (c_X7_sets (p := i) (q := 6) M (hQ.2.2 0 (by simp)) rfl (by omega) (by omega)) dX7_edits_59 rfl rfl ⟨Nat.le_of_ble_eq_true rfl, Nat.le_of_ble_eq_true rfl⟩ ⟨Nat.le_refl _, Nat.le_refl _⟩ (Nat.le_of_ble_eq_true rfl) ?_
      refine cp_iload_n O dX7_edits_62 cp_lg3 ?_
      refine cp_aload_n O dX7_edits_63 cp_lg0 ?_
      refine cp_iload_n O dX7_edits_64 cp_lg2 ?_
      refine cp_iconst O dX7_edits_65 (v := 1) rfl ?_
      refine cp_cVi O me_X7_of mi_X7_of ml_X7_39 cp_cX7 M.s (c_X7_ofe (w := P i 1) (p := i) (q := 1) M (hQ.2.2 0 (by simp)) rfl (by omega) (by omega) (by rw [cp_upd_n (by omega)]; exact hp 1 (by decide))) dX7_edits_66 rfl rfl ⟨Nat.le_of_ble_eq_true rfl, Nat.le_of_ble_eq_true rfl⟩ ⟨Nat.le_refl _, Nat.le_refl _⟩ (Nat.le_of_ble_eq_true rfl) ?_
      refine cp_icmp_lt (tgt := 108) O dX7_edits_69 (by decide) (fun c_69 => ?_) (fun c_69 => ?_)
      · exact absurd c_69 (Int32.not_lt.mpr c_46)
      · refine cp_aload_n O dX7_edits_72 cp_lg0 ?_
        refine cp_iload_n O dX7_edits_73 cp_lg2 ?_
        refine cp_cVv O me_X7_leaves mi_X7_leaves ml_X7_57 cp_cX7 M.s (c_X7_leaves (p := i) (q := d) (k := 0) (l := i :: t) M (hQ.2.2 0 (by simp)) (by omega) (by omega) (by unfold cp_qo; rw [cp_upd_n (by omega), hp 4 (by decide), hi.2.1, if_pos rfl, cp_upd_n (by omega)]; exact (hp 0 (by decide)).trans hi.2.2) (cp_QL_eq hQ (cp_upd_n (by omega)) (fun k hk => cp_upd_n (by omega))) hlt (by simp) rfl (fun j hj => absurd hj (by omega))) dX7_edits_74 rfl rfl ⟨Nat.le_of_ble_eq_true rfl, Nat.le_of_ble_eq_true rfl⟩ ⟨Nat.le_refl _, Nat.le_refl _⟩ (Nat.le_of_ble_eq_true rfl) ?_
        refine cp_aload_n O dX7_edits_77 cp_lg0 ?_
        refine cp_iload_n O dX7_edits_78 cp_lg2 ?_
        refine cp_iconst O dX7_edits_79 (v := 3) rfl ?_
        refine cp_cVi O me_X7_of mi_X7_of ml_X7_39 cp_cX7 M.s (c_X7_ofe (w := P i 3) (p := i) (q := 3) M (hQ.2.2 0 (by simp)) rfl (by omega) (by omega) (by rw [cp_lv_hi (by omega) (by simp; omega) (by omega), cp_upd_n (by omega)]; exact hp 3 (by decide))) dX7_edits_80 rfl rfl ⟨Nat.le_of_ble_eq_true rfl, Nat.le_of_ble_eq_true rfl⟩ ⟨Nat.le_refl _, Nat.le_refl _⟩ (Nat.le_of_ble_eq_true rfl) ?_
        refine cp_iconst O dX7_edits_83 (v := 1) rfl ?_
        refine cp_icmp_ne (tgt := 103) O dX7_edits_84 (by decide) (fun c_84 => ?_) (fun c_84 => ?_)
        · refine cp_aload_n O dX7_edits_103 cp_lg0 ?_
          refine cp_iload_n O dX7_edits_104 cp_lg2 ?_
          refine cp_cVv O me_X7_becomesReady mi_X7_becomesReady ml_X7_65 cp_cX7 M.s (c_X7_becomesReady (p := i) M (hQ.2.2 0 (by simp)) (by omega)) dX7_edits_105 rfl rfl ⟨Nat.le_of_ble_eq_true rfl, Nat.le_of_ble_eq_true rfl⟩ ⟨Nat.le_refl _, Nat.le_refl _⟩ (Nat.le_of_ble_eq_true rfl) ?_
          exact hr _ _ _ dX7_edits_108 (by have e4 : cp_lv (upd a (158 + 9 * i + 6) (P i 1)) d 0 (i :: t).length ((i :: t).length - 1) 4 = mi := (by rw [cp_lv_hi (by omega) (by simp; omega) (by omega), cp_upd_n (by omega)]; exact hmi) ; rw [cp_ed_cons hdq, if_neg c_69, if_neg c_84, e4]; exact ⟨_, rfl, cp_ed_C hW hV hdq hd _ _, fun x hx => by rw [cp_upd_n (by omega), cp_upd_n (by omega), cp_lv_hi (by omega) (by simp; omega) (by omega), cp_upd_n (by omega)]⟩)
        · refine cp_aload_n O dX7_edits_87 cp_lg0 ?_
          refine cp_iload_n O dX7_edits_88 cp_lg2 ?_
          refine cp_iconst O dX7_edits_89 (v := 4) rfl ?_
          refine cp_iconst O dX7_edits_90 (v := 1) rfl ?_
          refine cp_cVv O me_X7_sets mi_X7_sets ml_X7_53 cp_cX7 M.s (c_X7_sets (p := i) (q := 4) M (hQ.2.2 0 (by simp)) rfl (by omega) (by omega)) dX7_edits_91 rfl rfl ⟨Nat.le_of_ble_eq_true rfl, Nat.le_of_ble_eq_true rfl⟩ ⟨Nat.le_refl _, Nat.le_refl _⟩ (Nat.le_of_ble_eq_true rfl) ?_
          refine cp_aload_n O dX7_edits_94 cp_lg0 ?_
          refine cp_iconst O dX7_edits_95 (v := 5) rfl ?_
          refine cp_iload_n O dX7_edits_96 cp_lg2 ?_
          refine cp_cVv O me_X7_comesTo mi_X7_comesTo ml_X7_61 cp_cX7 M.s (c_X7_comesTo (q := 5) (p := i) M rfl (hQ.2.2 0 (by simp)) (by decide) (by rw [cp_upd_n (by omega)]; exact (cp_QL_lvo (cp_QL_eq h5 (cp_upd_n (by omega)) (fun k hk => cp_upd_n (by omega))) (by omega) (by omega) (by omega) (by simp; omega)).1) (by omega)) dX7_edits_97 rfl rfl ⟨Nat.le_of_ble_eq_true rfl, Nat.le_of_ble_eq_true rfl⟩ ⟨Nat.le_refl _, Nat.le_refl _⟩ (Nat.le_of_ble_eq_true rfl) ?_
          refine cp_goto (tgt := 108) O dX7_edits_100 (by decide) ?_
          exact hr _ _ _ dX7_edits_108 (by rw [cp_ed_cons hdq, if_neg c_69, if_pos c_84]; exact ⟨_, rfl, cp_ed_B hW hV hdq hd _, fun x hx => by rw [cp_cm_hi (by decide) (by omega) (by omega), cp_upd_n (by omega), cp_lv_hi (by omega) (by simp; omega) (by omega), cp_upd_n (by omega)]⟩)
    · refine cp_iload_n O dX7_edits_49 cp_lg3 ?_
      refine cp_goto (tgt := 59) O dX7_edits_50 (by decide) ?_
      refine cp_cVv O me_X7_sets mi_X7_sets ml_X7_53 cp_cX7 M.s (c_X7_sets (p := i) (q := 6) M (hQ.2.2 0 (by simp)) rfl (by omega) (by omega)) dX7_edits_59 rfl rfl ⟨Nat.le_of_ble_eq_true rfl, Nat.le_of_ble_eq_true rfl⟩ ⟨Nat.le_refl _, Nat.le_refl _⟩ (Nat.le_of_ble_eq_true rfl) ?_
      refine cp_iload_n O dX7_edits_62 cp_lg3 ?_
      refine cp_aload_n O dX7_edits_63 cp_lg0 ?_
      refine cp_iload_n O dX7_edits_64 cp_lg2 ?_
      refine cp_iconst O dX7_edits_65 (v := 1) rfl ?_
      refine cp_cVi O me_X7_of mi_X7_of ml_X7_39 cp_cX7 M.s (c_X7_ofe (w := P i 1) (p := i) (q := 1) M (hQ.2.2 0 (by simp)) rfl (by omega) (by omega) (by rw [cp_upd_n (by omega)]; exact hp 1 (by decide))) dX7_edits_66 rfl rfl ⟨Nat.le_of_ble_eq_true rfl, Nat.le_of_ble_eq_true rfl⟩ ⟨Nat.le_refl _, Nat.le_refl _⟩ (Nat.le_of_ble_eq_true rfl) ?_
      refine cp_icmp_lt (tgt := 108) O dX7_edits_69 (by decide) (fun c_69 => ?_) (fun c_69 => ?_)
      · exact hr _ _ _ dX7_edits_108 (by rw [cp_ed_cons hdq, if_pos c_69]; exact ⟨_, rfl, cp_ed_A hW hV hdq _, fun x hx => by rw [cp_upd_n (by omega)]⟩)
      · exact absurd (Int32.not_le.mp c_46) c_69
  · exact absurd (hQ.1.symm.trans c_9) (nI_ne0 (by simp) (by simp; omega))
theorem c_X7_edits {lc : Launch} {E : cp_En} {cnt : Nat} {sh : cp_Shp} {R : cp_Rem} {J : cp_Mem} {m : Nat} {f : Nat → Int32} {r : Nat → Nat → Int32} {a : Nat → Int32} (M : cp_ML sh R m) {v1 : Int32} {d n : Nat} {S : Nat → Int32} {mi : Int32} {P : cp_PP} {lq : List Nat} (h1 : v1 = nI d) (hd : d < 5) (hS : a 0 = S 0) (hmi : a 4 = mi) (hW : cp_MW a n P (cp_LL n P lq)) (hV : cp_PV n P lq) : cp_Fr lc E yX7_edits cX7_edits 4 none 5 [.ref m, .int v1] cnt sh (cp_ma J m f r a) R none (fun I' => ∃ a', I' = cp_ma J m f r a' ∧ cp_MW a' n (cp_ed S mi n d (P, lq)).1 (cp_LL n (cp_ed S mi n d (P, lq)).1 (cp_ed S mi n d (P, lq)).2) ∧ ∀ x, (x < 8 ∨ 374 ≤ x) → a' x = a x) := by
  cases hdq : cp_dq n P d with
  | nil => exact c_X7_edits_0 M h1 hd hS hmi hW hV hdq
  | cons i t => exact c_X7_edits_1 M h1 hd hS hmi hW hV hdq
set_option maxHeartbeats 4000000 in
set_option maxRecDepth 100000 in
theorem c_X7_reads_0 {lc : Launch} {E : cp_En} {cnt : Nat} {sh : cp_Shp} {R : cp_Rem} {J : cp_Mem} {m : Nat} {f : Nat → Int32} {r : Nat → Nat → Int32} {a : Nat → Int32} (M : cp_ML sh R m) {n : Nat} {S : Nat → Int32} {mi : Int32} {P : cp_PP} (hS : a 1 = S 1) (hmi : a 4 = mi) (hW : cp_MW a n P (cp_LL n P [])) (hV : cp_PV n P []) : cp_Fr lc E yX7_reads cX7_reads 2 none 5 [.ref m] cnt sh (cp_ma J m f r a) R none (fun I' => ∃ a', I' = cp_ma J m f r a' ∧ cp_MW a' n (cp_rd S mi (P, [])).1 (cp_LL n (cp_rd S mi (P, [])).1 (cp_rd S mi (P, [])).2) ∧ ∀ x, (x < 8 ∨ 374 ≤ x) → a' x = a x) := by
  have hQ := hW.2 5 (by omega)
  rw [cp_LL5] at hQ
  refine cp_Fn_vR [some (.ref m), none] (by decide +kernel) (Nat.le_of_ble_eq_true rfl) rfl (fun x hxl O hr => ?_)
  subst hxl
  refine cp_aload_n O dX7_reads_0 cp_lg0 ?_
  refine fg_X7_7 O M.s M.f0 dX7_reads_1 ?_
  refine cp_bipush O dX7_reads_4 (v := 13) rfl ?_
  refine cp_ialdA O M (j := 13) rfl (by omega) dX7_reads_6 ?_
  refine cp_if_ne (tgt := 11) O dX7_reads_7 (by decide) (fun c_7 => ?_) (fun c_7 => ?_)
  · exact absurd hQ.1 c_7
  · exact hr _ _ _ dX7_reads_10 ⟨a, rfl, hW, fun _ _ => rfl⟩
set_option maxHeartbeats 4000000 in
set_option maxRecDepth 100000 in
theorem c_X7_reads_1 {lc : Launch} {E : cp_En} {cnt : Nat} {sh : cp_Shp} {R : cp_Rem} {J : cp_Mem} {m : Nat} {f : Nat → Int32} {r : Nat → Nat → Int32} {a : Nat → Int32} (M : cp_ML sh R m) {i : Nat} {t : List Nat} {n : Nat} {S : Nat → Int32} {mi : Int32} {P : cp_PP} (hS : a 1 = S 1) (hmi : a 4 = mi) (hW : cp_MW a n P (cp_LL n P (i :: t))) (hV : cp_PV n P (i :: t)) : cp_Fr lc E yX7_reads cX7_reads 2 none 5 [.ref m] cnt sh (cp_ma J m f r a) R none (fun I' => ∃ a', I' = cp_ma J m f r a' ∧ cp_MW a' n (cp_rd S mi (P, i :: t)).1 (cp_LL n (cp_rd S mi (P, i :: t)).1 (cp_rd S mi (P, i :: t)).2) ∧ ∀ x, (x < 8 ∨ 374 ≤ x) → a' x = a x) := by
  have hi := (hV.2.2.2 i).mp List.mem_cons_self
  have hn24 := hV.1
  have hQ := hW.2 5 (by omega)
  rw [cp_LL5] at hQ
  have hp := hW.1 i hi.1
  have hlt : ∀ j, j < (i :: t).length → (i :: t).getD j 0 < 24 := fun j hj => by
    have h := ((hV.2.2.2 _).mp (cp_getD_in hj)).1
    omega
  have ht24 : t.length + 1 ≤ 24 := hQ.2.1
  refine cp_Fn_vR [some (.ref m), none] (by decide +kernel) (Nat.le_of_ble_eq_true rfl) rfl (fun x hxl O hr => ?_)
  subst hxl
  refine cp_aload_n O dX7_reads_0 cp_lg0 ?_
  refine fg_X7_7 O M.s M.f0 dX7_reads_1 ?_
  refine cp_bipush O dX7_reads_4 (v := 13) rfl ?_
  refine cp_ialdA O M (j := 13) rfl (by omega) dX7_reads_6 ?_
  refine cp_if_ne (tgt := 11) O dX7_reads_7 (by decide) (fun c_7 => ?_) (fun c_7 => ?_)
  · refine cp_aload_n O dX7_reads_11 cp_lg0 ?_
    refine cp_iconst O dX7_reads_12 (v := 5) rfl ?_
    refine cp_iconst O dX7_reads_13 (v := 0) rfl ?_
    refine cp_cVi O me_X7_inQueue mi_X7_inQueue ml_X7_47 cp_cX7 M.s (c_X7_inQueue (q := 5) (k := 0) M rfl rfl (by omega) (by omega)) dX7_reads_14 rfl rfl ⟨Nat.le_of_ble_eq_true rfl, Nat.le_of_ble_eq_true rfl⟩ ⟨Nat.le_refl _, Nat.le_refl _⟩ (Nat.le_of_ble_eq_true rfl) ?_
    refine cp_istore_n O dX7_reads_17 (by decide) (cp_ls1 rfl) ?_
    refine cp_aload_n O dX7_reads_18 cp_lg0 ?_
    refine cp_iload_n O dX7_reads_19 cp_lg1 ?_
    refine cp_bipush O dX7_reads_20 (v := 7) rfl ?_
    refine cp_aload_n O dX7_reads_22 cp_lg0 ?_
    refine cp_iload_n O dX7_reads_23 cp_lg1 ?_
    refine cp_bipush O dX7_reads_24 (v := 7) rfl ?_
    refine cp_cVi O me_X7_of mi_X7_of ml_X7_39 cp_cX7 M.s (c_X7_ofe (w := P i 7) (p := i) (q := 7) M (hQ.2.2 0 (by simp)) rfl (by omega) (by omega) (hp 7 (by decide))) dX7_reads_26 rfl rfl ⟨Nat.le_of_ble_eq_true rfl, Nat.le_of_ble_eq_true rfl⟩ ⟨Nat.le_refl _, Nat.le_refl _⟩ (Nat.le_of_ble_eq_true rfl) ?_
    refine cp_iconst O dX7_reads_29 (v := 1) rfl ?_
    refine cp_iadd O dX7_reads_30 ?_
    refine cp_cVv O me_X7_sets mi_X7_sets ml_X7_53 cp_cX7 M.s (c_X7_sets (p := i) (q := 7) M (hQ.2.2 0 (by simp)) rfl (by omega) (by omega)) dX7_reads_31 rfl rfl ⟨Nat.le_of_ble_eq_true rfl, Nat.le_of_ble_eq_true rfl⟩ ⟨Nat.le_refl _, Nat.le_refl _⟩ (Nat.le_of_ble_eq_true rfl) ?_
    refine cp_aload_n O dX7_reads_34 cp_lg0 ?_
    refine cp_iload_n O dX7_reads_35 cp_lg1 ?_
    refine cp_bipush O dX7_reads_36 (v := 7) rfl ?_
    refine cp_cVi O me_X7_of mi_X7_of ml_X7_39 cp_cX7 M.s (c_X7_ofe (w := P i 7 + 1) (p := i) (q := 7) M (hQ.2.2 0 (by simp)) rfl (by omega) (by omega) cp_upd_s) dX7_reads_38 rfl rfl ⟨Nat.le_of_ble_eq_true rfl, Nat.le_of_ble_eq_true rfl⟩ ⟨Nat.le_refl _, Nat.le_refl _⟩ (Nat.le_of_ble_eq_true rfl) ?_
    refine cp_aload_n O dX7_reads_41 cp_lg0 ?_
    refine fg_X7_7 O M.s M.f0 dX7_reads_42 ?_
    refine cp_iconst O dX7_reads_45 (v := 1) rfl ?_
    refine cp_ialdA O M (j := 1) rfl (by omega) dX7_reads_46 ?_
    rw [cp_upd_n (show 1 ≠ 158 + 9 * i + 7 by omega), hS]
    refine cp_icmp_lt (tgt := 60) O dX7_reads_47 (by decide) (fun c_47 => ?_) (fun c_47 => ?_)
    · exact hr _ _ _ dX7_reads_60 (by rw [cp_rd_cons, if_neg (Int32.not_le.mpr c_47)]; exact ⟨_, rfl, cp_rd_A hW hV _, fun x hx => by rw [cp_upd_n (by omega)]⟩)
    · refine cp_aload_n O dX7_reads_50 cp_lg0 ?_
      refine cp_iload_n O dX7_reads_51 cp_lg1 ?_
      refine cp_cVv O me_X7_leaves mi_X7_leaves ml_X7_57 cp_cX7 M.s (c_X7_leaves (p := i) (q := 5) (k := 0) (l := i :: t) M (hQ.2.2 0 (by simp)) (by omega) (by omega) (by unfold cp_qo; rw [cp_upd_n (by omega), hp 4 (by decide), hi.2, if_neg (by decide), if_pos rfl]; rfl) (cp_QL_eq hQ (cp_upd_n (by omega)) (fun k hk => cp_upd_n (by omega))) hlt (by simp) rfl (fun j hj => absurd hj (by omega))) dX7_reads_52 rfl rfl ⟨Nat.le_of_ble_eq_true rfl, Nat.le_of_ble_eq_true rfl⟩ ⟨Nat.le_refl _, Nat.le_refl _⟩ (Nat.le_of_ble_eq_true rfl) ?_
      refine cp_aload_n O dX7_reads_55 cp_lg0 ?_
      refine cp_iload_n O dX7_reads_56 cp_lg1 ?_
      refine cp_cVv O me_X7_becomesReady mi_X7_becomesReady ml_X7_65 cp_cX7 M.s (c_X7_becomesReady (p := i) M (hQ.2.2 0 (by simp)) (by omega)) dX7_reads_57 rfl rfl ⟨Nat.le_of_ble_eq_true rfl, Nat.le_of_ble_eq_true rfl⟩ ⟨Nat.le_refl _, Nat.le_refl _⟩ (Nat.le_of_ble_eq_true rfl) ?_
      exact hr _ _ _ dX7_reads_60 (by have e4 : cp_lv (upd a (158 + 9 * i + 7) (P i 7 + 1)) 5 0 (i :: t).length ((i :: t).length - 1) 4 = mi := (by rw [cp_lv_hi (by omega) (by simp; omega) (by omega), cp_upd_n (by omega)]; exact hmi) ; rw [cp_rd_cons, if_pos (Int32.not_lt.mp c_47), e4]; exact ⟨_, rfl, cp_rd_C hW hV _ _, fun x hx => by rw [cp_upd_n (by omega), cp_upd_n (by omega), cp_lv_hi (by omega) (by simp; omega) (by omega), cp_upd_n (by omega)]⟩)
  · exact absurd (hQ.1.symm.trans c_7) (nI_ne0 (by simp) (by simp; omega))
theorem c_X7_reads {lc : Launch} {E : cp_En} {cnt : Nat} {sh : cp_Shp} {R : cp_Rem} {J : cp_Mem} {m : Nat} {f : Nat → Int32} {r : Nat → Nat → Int32} {a : Nat → Int32} (M : cp_ML sh R m) {n : Nat} {S : Nat → Int32} {mi : Int32} {P : cp_PP} {lq : List Nat} (hS : a 1 = S 1) (hmi : a 4 = mi) (hW : cp_MW a n P (cp_LL n P lq)) (hV : cp_PV n P lq) : cp_Fr lc E yX7_reads cX7_reads 2 none 5 [.ref m] cnt sh (cp_ma J m f r a) R none (fun I' => ∃ a', I' = cp_ma J m f r a' ∧ cp_MW a' n (cp_rd S mi (P, lq)).1 (cp_LL n (cp_rd S mi (P, lq)).1 (cp_rd S mi (P, lq)).2) ∧ ∀ x, (x < 8 ∨ 374 ≤ x) → a' x = a x) := by
  cases lq with
  | nil => exact c_X7_reads_0 M hS hmi hW hV
  | cons i t => exact c_X7_reads_1 M hS hmi hW hV
end
section
/-! what stays valid of pieces and the lawyer's queue -/
theorem cp_PV_wi {n : Nat} {P : cp_PP} {lq : List Nat} (h : cp_PV n P lq) {i f : Nat} (v : Int32) (h4 : f ≠ 4) (h0 : f ≠ 0) : cp_PV n (cp_wi P i f v) lq := by
  refine ⟨h.1, fun j hj => ?_, h.2.2.1, fun j => ?_⟩
  · rw [cp_wi_j _ _ _ _ (fun z => h0 z.2.symm), cp_wi_j _ _ _ _ (fun z => h4 z.2.symm)]
    exact h.2.1 j hj
  · rw [cp_wi_j _ _ _ _ (fun z => h4 z.2.symm)]
    exact h.2.2.2 j
/-- a piece leaves the desk for the lawyer -/
theorem cp_PV_law {n : Nat} {P : cp_PP} {lq : List Nat} (h : cp_PV n P lq) {i : Nat} (hi : i < n) (h4 : P i 4 ≠ 1) : cp_PV n (cp_wi P i 4 1) (lq ++ [i]) := by
  have hm : i ∉ lq := fun z => h4 ((h.2.2.2 i).mp z).2
  refine ⟨h.1, fun j hj => ?_, ?_, fun j => ?_⟩
  · rw [cp_wi_j _ _ _ _ (fun z => absurd z.2 (by decide))]
    refine ⟨(h.2.1 j hj).1, ?_⟩
    by_cases hji : j = i
    · subst hji; rw [cp_wi_s]; exact Or.inr (Or.inl rfl)
    · rw [cp_wi_j _ _ _ _ (fun z => hji z.1)]; exact (h.2.1 j hj).2
  · refine List.nodup_append.mpr ⟨h.2.2.1, by simp, fun x hx y hy => ?_⟩
    rw [List.mem_singleton.mp hy]
    exact fun e => hm (e ▸ hx)
  · rw [List.mem_append, List.mem_singleton, h.2.2.2 j]
    by_cases hji : j = i
    · subst hji; rw [cp_wi_s]; simp [hi]
    · rw [cp_wi_j _ _ _ _ (fun z => hji z.1)]; simp [hji]
/-- a piece that isn't at the lawyer's comes to another state than there -/
theorem cp_PV_out {n : Nat} {P : cp_PP} {lq : List Nat} (h : cp_PV n P lq) {i : Nat} {v : Int32} (h4 : P i 4 ≠ 1) (hv : v = 2 ∨ v = 3) : cp_PV n (cp_wi P i 4 v) lq := by
  refine ⟨h.1, fun j hj => ?_, h.2.2.1, fun j => ?_⟩
  · rw [cp_wi_j _ _ _ _ (fun z => absurd z.2 (by decide))]
    refine ⟨(h.2.1 j hj).1, ?_⟩
    by_cases hji : j = i
    · subst hji; rw [cp_wi_s]; exact Or.inr (Or.inr hv)
    · rw [cp_wi_j _ _ _ _ (fun z => hji z.1)]; exact (h.2.1 j hj).2
  · rw [h.2.2.2 j]
    by_cases hji : j = i
    · subst hji
      rw [cp_wi_s]
      constructor
      · rintro ⟨-, z⟩; exact absurd z h4
      · rintro ⟨-, z⟩; rcases hv with rfl | rfl <;> exact absurd z (by decide)
    · rw [cp_wi_j _ _ _ _ (fun z => hji z.1)]
/-- a piece leaves the lawyer's queue -/
theorem cp_PV_off {n : Nat} {P : cp_PP} {lq : List Nat} (h : cp_PV n P lq) {i : Nat} {v : Int32} (hv : v = 2 ∨ v = 3) : cp_PV n (cp_wi P i 4 v) (lq.erase i) := by
  refine ⟨h.1, fun j hj => ?_, h.2.2.1.erase i, fun j => ?_⟩
  · rw [cp_wi_j _ _ _ _ (fun z => absurd z.2 (by decide))]
    refine ⟨(h.2.1 j hj).1, ?_⟩
    by_cases hji : j = i
    · subst hji; rw [cp_wi_s]; exact Or.inr (Or.inr hv)
    · rw [cp_wi_j _ _ _ _ (fun z => hji z.1)]; exact (h.2.1 j hj).2
  · rw [List.Nodup.mem_erase_iff h.2.2.1, h.2.2.2 j]
    by_cases hji : j = i
    · subst hji
      rw [cp_wi_s]
      constructor
      · rintro ⟨z, -⟩; exact absurd rfl z
      · rintro ⟨-, z⟩; rcases hv with rfl | rfl <;> exact absurd z (by decide)
    · rw [cp_wi_j _ _ _ _ (fun z => hji z.1)]; simp [hji]
theorem cp_PV_ed {n : Nat} {P : cp_PP} {lq : List Nat} {S : Nat → Int32} {mi : Int32} {d : Nat} (h : cp_PV n P lq) : cp_PV n (cp_ed S mi n d (P, lq)).1 (cp_ed S mi n d (P, lq)).2 := by
  cases hdq : cp_dq n P d with
  | nil => rw [cp_ed_nil hdq]; exact h
  | cons i t =>
    have hi := cp_ed_hd hdq
    rw [cp_ed_cons hdq]
    have h4 : ∀ v, cp_wi P i 6 v i 4 ≠ 1 := fun v => by rw [cp_wi_j _ _ _ _ (fun z => absurd z.2 (by decide)), hi.2.1]; decide
    split
    · exact cp_PV_wi h _ (by decide) (by decide)
    · split
      · exact cp_PV_law (cp_PV_wi h _ (by decide) (by decide)) hi.1 (h4 _)
      · exact cp_PV_wi (cp_PV_out (cp_PV_wi h _ (by decide) (by decide)) (h4 _) (Or.inl rfl)) _ (by decide) (by decide)
theorem cp_PV_rd {n : Nat} {P : cp_PP} {lq : List Nat} {S : Nat → Int32} {mi : Int32} (h : cp_PV n P lq) : cp_PV n (cp_rd S mi (P, lq)).1 (cp_rd S mi (P, lq)).2 := by
  cases lq with
  | nil => exact h
  | cons i t =>
    rw [cp_rd_cons]
    split
    · have h1 := cp_PV_off (cp_PV_wi h (i := i) (f := 7) (P i 7 + 1) (by decide) (by decide)) (i := i) (v := 2) (Or.inl rfl)
      rw [List.erase_cons_head] at h1
      exact cp_PV_wi h1 _ (by decide) (by decide)
    · exact cp_PV_wi h _ (by decide) (by decide)
theorem cp_PV_eds {n : Nat} {P : cp_PP} {lq : List Nat} {S : Nat → Int32} {mi : Int32} (h : cp_PV n P lq) : ∀ d, cp_PV n (cp_eds S mi n d (P, lq)).1 (cp_eds S mi n d (P, lq)).2
  | 0 => h
  | d + 1 => cp_PV_ed (d := d) (cp_PV_eds h d)
theorem cp_PV_wk {n : Nat} {P : cp_PP} {lq : List Nat} {S : Nat → Int32} {mi : Int32} (h : cp_PV n P lq) : cp_PV n (cp_wk S mi n (P, lq)).1 (cp_wk S mi n (P, lq)).2 := cp_PV_rd (cp_PV_eds h 5)
/-- first of n with a property, how many of n have one -/
def cp_o2i (o : Option Nat) : Int32 := match o with
  | some i => nI i
  | none => -6
def cp_cnt (q : Nat → Bool) : Nat → Nat
  | 0 => 0
  | n + 1 => cp_cnt q n + (if q n = true then 1 else 0)
theorem cp_cnt_le (q : Nat → Bool) : ∀ n, cp_cnt q n ≤ n
  | 0 => Nat.le_refl 0
  | n + 1 => by
    have h := cp_cnt_le q n
    unfold cp_cnt
    split <;> omega
theorem cp_fnd_s {n i : Nat} {q : Nat → Bool} (hi : i < n) (hq : q i = true) (h : ∀ j, j < i → q j = false) : (List.range n).find? q = some i := by
  rw [List.find?_range_eq_some]
  exact ⟨hq, List.mem_range.mpr hi, fun j hj => by simp [h j hj]⟩
theorem cp_fnd_n {n : Nat} {q : Nat → Bool} (h : ∀ j, j < n → q j = false) : (List.range n).find? q = none := by
  rw [List.find?_eq_none]
  intro j hj
  rw [h j (List.mem_range.mp hj)]
  decide
theorem cp_o2i_s {o : Option Nat} {i : Nat} (h : o = some i) : nI i = cp_o2i o := by rw [h]; rfl
theorem cp_o2i_n {o : Option Nat} (h : o = none) : (-6 : Int32) = cp_o2i o := by rw [h]; rfl
theorem cp_lts {i : Nat} {p : Nat → Prop} (h : ∀ j, j < i → p j) (hi : p i) : ∀ j, j < i + 1 → p j := fun j hj => by
  rcases Nat.lt_or_ge j i with h1 | h1
  · exact h j h1
  · rw [show j = i by omega]; exact hi
end
section
set_option maxHeartbeats 4000000 in
set_option maxRecDepth 100000 in
theorem c_X7_works {lc : Launch} {E : cp_En} {cnt : Nat} {sh : cp_Shp} {R : cp_Rem} {J : cp_Mem} {m : Nat} {f : Nat → Int32} {r : Nat → Nat → Int32} {a : Nat → Int32} (M : cp_ML sh R m) {n : Nat} {S : Nat → Int32} {mi : Int32} {P : cp_PP} {lq : List Nat} (hS : ∀ k, k < 4 → a k = S k) (hmi : a 4 = mi) (hW : cp_MW a n P (cp_LL n P lq)) (hV : cp_PV n P lq) : cp_Fr lc E yX7_works cX7_works 2 none 6 [.ref m] cnt sh (cp_ma J m f r a) R none (fun I' => ∃ a', I' = cp_ma J m f r a' ∧ cp_MW a' n (cp_wk S mi n (P, lq)).1 (cp_LL n (cp_wk S mi n (P, lq)).1 (cp_wk S mi n (P, lq)).2) ∧ ∀ x, (x < 8 ∨ 374 ≤ x) → a' x = a x) := by
  refine cp_Fn_vR [some (.ref m), none] (by decide +kernel) (Nat.le_of_ble_eq_true rfl) rfl (fun x hxl O hr => ?_)
  subst hxl
  refine cp_iconst O dX7_works_0 (v := 0) rfl ?_
  refine cp_istore_n O dX7_works_1 (by decide) (cp_ls1 rfl) ?_
  have loop2 : ∀ d, d ≤ 5 → ∀ a1 : Nat → Int32, cp_MW a1 n (cp_eds S mi n d (P, lq)).1 (cp_LL n (cp_eds S mi n d (P, lq)).1 (cp_eds S mi n d (P, lq)).2) → (∀ x, (x < 8 ∨ 374 ≤ x) → a1 x = a x) → cp_G x E 2 0 0 cnt sh (cp_ma J m f r a1) R 2 [some (.ref m), some (.int (nI d))] [] := by
    refine cp_up (fun d hd ih a1 hW1 hx1 => ?_)
    refine cp_iload_n O dX7_works_2 cp_lg1 ?_
    refine cp_iconst O dX7_works_3 (v := 5) rfl ?_
    refine cp_icmp_geN (tgt := 18) O dX7_works_4 (by decide) (a := d) (b := 5) rfl rfl (by omega) (by omega) (fun c_4 => ?_) (fun c_4 => ?_)
    · obtain rfl : d = 5 := by omega
      refine cp_aload_n O dX7_works_18 cp_lg0 ?_
      refine cp_cVvr O me_X7_reads mi_X7_reads ml_X7_91 cp_cX7 M.s (c_X7_reads M ((hx1 1 (by omega)).trans (hS 1 (by decide))) ((hx1 4 (by omega)).trans hmi) hW1 (cp_PV_eds hV 5)) dX7_works_19 rfl rfl ⟨Nat.le_of_ble_eq_true rfl, Nat.le_of_ble_eq_true rfl⟩ ⟨Nat.le_refl _, Nat.le_refl _⟩ (Nat.le_of_ble_eq_true rfl) (fun I19 hT19 => ?_)
      obtain ⟨a2, rfl, hW2, hx2⟩ := hT19
      exact hr _ _ _ dX7_works_22 ⟨a2, rfl, hW2, fun x hx => (hx2 x hx).trans (hx1 x hx)⟩
    · refine cp_aload_n O dX7_works_7 cp_lg0 ?_
      refine cp_iload_n O dX7_works_8 cp_lg1 ?_
      refine cp_cVvr O me_X7_edits mi_X7_edits ml_X7_88 cp_cX7 M.s (c_X7_edits (d := d) M rfl c_4 ((hx1 0 (by omega)).trans (hS 0 (by decide))) ((hx1 4 (by omega)).trans hmi) hW1 (cp_PV_eds hV d)) dX7_works_9 rfl rfl ⟨Nat.le_of_ble_eq_true rfl, Nat.le_of_ble_eq_true rfl⟩ ⟨Nat.le_refl _, Nat.le_refl _⟩ (Nat.le_of_ble_eq_true rfl) (fun I9 hT9 => ?_)
      refine cp_iinc O dX7_works_12 cp_lg1 (cp_inc rfl) (by decide) (cp_ls1 rfl) ?_
      refine cp_goto (tgt := 2) O dX7_works_15 (by decide) ?_
      obtain ⟨a2, rfl, hW2, hx2⟩ := hT9
      exact ih c_4 a2 hW2 (fun x hx => (hx2 x hx).trans (hx1 x hx))
  exact loop2 0 (Nat.zero_le _) a hW (fun _ _ => rfl)
/-- the plates of the model's row: Q j 0 its minute, Q j 1 whether it is a replate, Q j 2 its pieces; those ahead of the minute mi are made -/
def cp_MQ (a : Nat → Int32) (mi np : Nat) (Q : cp_PP) : Prop := np ≤ 8 ∧ a 6 = nI np ∧ (∀ j, j < np → (∃ t, t < 600 ∧ Q j 0 = nI t) ∧ a (374 + 4 * j) = Q j 0 ∧ a (374 + 4 * j + 1) = cp_bi (decide ((Q j 0).toInt < mi)) ∧ a (374 + 4 * j + 2) = Q j 1 ∧ a (374 + 4 * j + 3) = Q j 2) ∧ a 7 = nI (cp_cnt (fun j => decide ((Q j 0).toInt < mi)) np)
def cp_du (np : Nat) (Q : cp_PP) (v : Int32) : Option Nat := (List.range np).find? (fun j => decide (Q j 0 = v))
set_option maxHeartbeats 4000000 in
set_option maxRecDepth 100000 in
theorem c_X7_due {lc : Launch} {E : cp_En} {cnt : Nat} {sh : cp_Shp} {R : cp_Rem} {J : cp_Mem} {m : Nat} {f : Nat → Int32} {r : Nat → Nat → Int32} {a : Nat → Int32} (M : cp_ML sh R m) {v1 : Int32} {np : Nat} {Q : cp_PP} (hnp : np ≤ 8) (h6 : a 6 = nI np) (hQ : ∀ j, j < np → a (374 + 4 * j) = Q j 0) : cp_Fn lc E yX7_due cX7_due 3 (some .int) 1 [.ref m, .int v1] cnt sh (cp_ma J m f r a) R (some (.int (cp_o2i (cp_du np Q v1)))) (cp_ma J m f r a) := by
  refine cp_Fn_i [some (.ref m), some (.int v1), none] (by decide +kernel) (Nat.le_of_ble_eq_true rfl) rfl rfl (fun x hxl O hr => ?_)
  subst hxl
  refine cp_iconst O dX7_due_0 (v := 0) rfl ?_
  refine cp_istore_n O dX7_due_1 (by decide) (cp_ls2 rfl) ?_
  have loop2 : ∀ c, c ≤ np → (∀ j, j < c → decide (Q j 0 = v1) = false) → cp_G x E 3 0 0 cnt sh (cp_ma J m f r a) R 2 [some (.ref m), some (.int v1), some (.int (nI c))] [] := by
    refine cp_up (fun c hc ih hb => ?_)
    refine cp_iload_n O dX7_due_2 cp_lg2 ?_
    refine cp_aload_n O dX7_due_3 cp_lg0 ?_
    refine fg_X7_7 O M.s M.f0 dX7_due_4 ?_
    refine cp_bipush O dX7_due_7 (v := 6) rfl ?_
    refine cp_ialdA O M (j := 6) rfl (by omega) dX7_due_9 ?_
    refine cp_icmp_geN (tgt := 31) O dX7_due_10 (by decide) (a := c) (b := np) rfl h6 (by omega) (by omega) (fun c_10 => ?_) (fun c_10 => ?_)
    · refine cp_bipush O dX7_due_31 (v := (-6)) rfl ?_
      exact hr _ _ _ _ dX7_due_33 (cp_o2i_n (cp_fnd_n (fun j hj => hb j (by omega)))) rfl
    · refine cp_aload_n O dX7_due_13 cp_lg0 ?_
      refine cp_iload_n O dX7_due_14 cp_lg2 ?_
      refine cp_iconst O dX7_due_15 (v := 0) rfl ?_
      refine cp_cVi O me_X7_plateAt mi_X7_plateAt ml_X7_85 cp_cX7 M.s (c_X7_plateAt (j := c) (q := 0) M rfl rfl (by omega) (by omega)) dX7_due_16 rfl rfl ⟨Nat.le_of_ble_eq_true rfl, Nat.le_of_ble_eq_true rfl⟩ ⟨Nat.le_refl _, Nat.le_refl _⟩ (Nat.le_of_ble_eq_true rfl) ?_
      rw [show a (374 + 4 * c + 0) = Q c 0 from hQ c c_10]
      refine cp_iload_n O dX7_due_19 cp_lg1 ?_
      refine cp_icmp_ne (tgt := 25) O dX7_due_20 (by decide) (fun c_20 => ?_) (fun c_20 => ?_)
      · refine cp_iinc O dX7_due_25 cp_lg2 (cp_inc rfl) (by decide) (cp_ls2 rfl) ?_
        refine cp_goto (tgt := 2) O dX7_due_28 (by decide) ?_
        exact ih c_10 (cp_lts hb (decide_eq_false c_20))
      · refine cp_iload_n O dX7_due_23 cp_lg2 ?_
        exact hr _ _ _ _ dX7_due_24 (cp_o2i_s (cp_fnd_s c_10 (decide_eq_true c_20) hb)) rfl
  exact loop2 0 (Nat.zero_le _) (fun j hj => absurd hj (by omega))
end
section
/-! THE ORDER IN WHICH A PLATE IS FILLED: a sorted list; a piece's place in it is how many go ahead of it -/
def cp_fr (P : cp_PP) (i : Nat) : Bool := decide (P i 4 = 2) && decide (P i 5 = 0)
def cp_ah (P : cp_PP) (i j : Nat) : Bool := decide ((P j 2).toInt < (P i 2).toInt ∨ ((P i 2).toInt = (P j 2).toInt ∧ ((P i 8).toInt < (P j 8).toInt ∨ ((P i 8).toInt = (P j 8).toInt ∧ i < j))))
def cp_ale (P : cp_PP) (i j : Nat) : Bool := cp_ah P i j || decide (i = j)
theorem cp_ale_iff {P : cp_PP} {i j : Nat} : cp_ale P i j = true ↔ ((P j 2).toInt < (P i 2).toInt ∨ ((P i 2).toInt = (P j 2).toInt ∧ ((P i 8).toInt < (P j 8).toInt ∨ ((P i 8).toInt = (P j 8).toInt ∧ i < j)))) ∨ i = j := by
  unfold cp_ale cp_ah
  rw [Bool.or_eq_true, decide_eq_true_iff, decide_eq_true_iff]
theorem cp_ah_iff {P : cp_PP} {i j : Nat} : cp_ah P i j = true ↔ ((P j 2).toInt < (P i 2).toInt ∨ ((P i 2).toInt = (P j 2).toInt ∧ ((P i 8).toInt < (P j 8).toInt ∨ ((P i 8).toInt = (P j 8).toInt ∧ i < j)))) := by
  unfold cp_ah
  rw [decide_eq_true_iff]
theorem cp_ale_tr (P : cp_PP) (i j k : Nat) (h1 : cp_ale P i j = true) (h2 : cp_ale P j k = true) : cp_ale P i k = true := by
  rw [cp_ale_iff] at *
  rcases h1 with h1 | rfl
  · rcases h2 with h2 | rfl
    · left; omega
    · exact Or.inl h1
  · exact h2
theorem cp_ale_to (P : cp_PP) (i j : Nat) : (cp_ale P i j || cp_ale P j i) = true := by
  rw [Bool.or_eq_true, cp_ale_iff, cp_ale_iff]
  omega
theorem cp_ah_ne {P : cp_PP} {i j : Nat} (h : cp_ah P i j = true) : i ≠ j := by
  rw [cp_ah_iff] at h
  intro e
  subst e
  omega
theorem cp_ah_as {P : cp_PP} {i j : Nat} (h : cp_ah P i j = true) : cp_ah P j i = false := by
  apply Bool.eq_false_iff.mpr
  intro h2
  rw [cp_ah_iff] at h h2
  omega
def cp_so (n : Nat) (P : cp_PP) : List Nat := ((List.range n).filter (cp_fr P)).mergeSort (cp_ale P)
theorem cp_so_perm (n : Nat) (P : cp_PP) : (cp_so n P).Perm ((List.range n).filter (cp_fr P)) := List.mergeSort_perm _ _
theorem cp_so_nd (n : Nat) (P : cp_PP) : (cp_so n P).Nodup := (cp_so_perm n P).nodup_iff.mpr (List.Pairwise.filter _ List.nodup_range)
theorem cp_so_mem {n : Nat} {P : cp_PP} {i : Nat} : i ∈ cp_so n P ↔ i < n ∧ cp_fr P i = true := by
  rw [(cp_so_perm n P).mem_iff, List.mem_filter, List.mem_range]
theorem cp_so_pw (n : Nat) (P : cp_PP) : (cp_so n P).Pairwise (fun i j => cp_ale P i j = true) := List.pairwise_mergeSort (cp_ale_tr P) (cp_ale_to P) _
theorem cp_so_lt {n : Nat} {P : cp_PP} {i j : Nat} (hj : j < (cp_so n P).length) (h : i < j) : cp_ah P ((cp_so n P).getD i 0) ((cp_so n P).getD j 0) = true := by
  have hi : i < (cp_so n P).length := by omega
  rw [cp_gD hi, cp_gD hj]
  have h1 := List.pairwise_iff_getElem.mp (cp_so_pw n P) i j hi hj h
  have h2 := List.pairwise_iff_getElem.mp (cp_so_nd n P) i j hi hj h
  unfold cp_ale at h1
  rw [Bool.or_eq_true, decide_eq_true_iff] at h1
  rcases h1 with h1 | h1
  · exact h1
  · exact absurd h1 h2
theorem cp_so_le (n : Nat) (P : cp_PP) : (cp_so n P).length ≤ n := cp_len_le n _ (cp_so_nd n P) (fun x hx => (cp_so_mem.mp hx).1)
theorem cp_cnt_fil (q : Nat → Bool) : ∀ n, cp_cnt q n = ((List.range n).filter q).length
  | 0 => rfl
  | n + 1 => by
    rw [List.range_succ, List.filter_append, List.length_append, ← cp_cnt_fil q n]
    show cp_cnt q n + (if q n = true then 1 else 0) = _
    by_cases h : q n = true
    · simp [h]
    · simp [h]
theorem cp_fil_len : ∀ (l : List Nat) (r : Nat → Bool) (k : Nat), k ≤ l.length → (∀ j, j < l.length → r (l.getD j 0) = decide (j < k)) → (l.filter r).length = k
  | [], r, k, hk, _ => by simp at hk; simp [hk]
  | x :: l, r, k, hk, h => by
    have h0 := h 0 (by simp)
    cases k with
    | zero =>
      have hr : r x = false := by simpa using h0
      rw [List.filter_cons_of_neg (by simp [hr])]
      exact cp_fil_len l r 0 (Nat.zero_le _) (fun j hj => by
        have h1 := h (j + 1) (by simpa using hj)
        simpa using h1)
    | succ k =>
      have hr : r x = true := by simpa using h0
      rw [List.filter_cons_of_pos hr, List.length_cons]
      congr 1
      exact cp_fil_len l r k (by simpa using hk) (fun j hj => by
        have h1 := h (j + 1) (by simpa using hj)
        simpa using h1)
/-- how many go ahead of p -/
def cp_ac (n : Nat) (P : cp_PP) (p : Nat) : Nat := cp_cnt (fun o => cp_fr P o && decide (o ≠ p) && cp_ah P o p) n
theorem cp_so_ac {n : Nat} {P : cp_PP} {k : Nat} (hk : k < (cp_so n P).length) : cp_ac n P ((cp_so n P).getD k 0) = k := by
  unfold cp_ac
  rw [cp_cnt_fil]
  have e : (List.range n).filter (fun o => cp_fr P o && decide (o ≠ (cp_so n P).getD k 0) && cp_ah P o ((cp_so n P).getD k 0)) = ((List.range n).filter (cp_fr P)).filter (fun o => decide (o ≠ (cp_so n P).getD k 0) && cp_ah P o ((cp_so n P).getD k 0)) := by
    rw [List.filter_filter]
    apply List.filter_congr
    intro x _
    cases cp_fr P x <;> simp
  rw [e, ← ((cp_so_perm n P).filter _).length_eq]
  refine cp_fil_len _ _ _ (by omega) fun j hj => ?_
  rcases Nat.lt_trichotomy j k with h | h | h
  · have h1 := cp_so_lt hk h
    rw [h1, decide_eq_true (cp_ah_ne h1)]; simp [h]
  · subst h; simp
  · have h1 := cp_ah_as (cp_so_lt hj h)
    rw [h1]
    simp; omega
theorem cp_mem_ix {l : List Nat} {p : Nat} (h : p ∈ l) : ∃ k, k < l.length ∧ l.getD k 0 = p := by
  obtain ⟨k, hk, e⟩ := List.getElem_of_mem h
  exact ⟨k, hk, by rw [cp_gD hk]; exact e⟩
/-- the model's search for the piece of a rank -/
theorem cp_rk_eq (n : Nat) (P : cp_PP) (k : Nat) : (List.range n).find? (fun p => cp_fr P p && decide (cp_ac n P p = k)) = (cp_so n P)[k]? := by
  by_cases hk : k < (cp_so n P).length
  · rw [List.getElem?_eq_getElem hk, ← cp_gD hk]
    have hm := cp_so_mem.mp (cp_getD_in hk)
    refine cp_fnd_s hm.1 ?_ fun j hj => ?_
    · rw [hm.2, cp_so_ac hk]; simp
    · cases hf : cp_fr P j with
      | false => rfl
      | true =>
        obtain ⟨k2, hk2, e⟩ := cp_mem_ix (cp_so_mem.mpr ⟨Nat.lt_trans hj hm.1, hf⟩)
        have h2 : cp_ac n P j = k2 := by rw [← e]; exact cp_so_ac hk2
        rw [h2, Bool.true_and]
        apply decide_eq_false
        intro e2
        subst e2
        omega
  · rw [List.getElem?_eq_none (by omega)]
    refine cp_fnd_n fun j hj => ?_
    cases hf : cp_fr P j with
    | false => rfl
    | true =>
      obtain ⟨k2, hk2, e⟩ := cp_mem_ix (cp_so_mem.mpr ⟨hj, hf⟩)
      have h2 : cp_ac n P j = k2 := by rw [← e]; exact cp_so_ac hk2
      rw [h2, Bool.true_and]
      apply decide_eq_false
      omega
/-- filling: the set that is taken, and its lines -/
def cp_ts1 (P : cp_PP) (room : Int32) (s : Int32 × Int32) (p : Nat) : Int32 × Int32 := if s.2 + P p 1 ≤ room then (s.1 ||| ((1 : Int32) <<< (nI p &&& 31)), s.2 + P p 1) else s
def cp_tk (P : cp_PP) (room : Int32) (l : List Nat) : Int32 × Int32 := l.foldl (cp_ts1 P room) (0, 0)
theorem cp_tk_s (P : cp_PP) (room : Int32) {l : List Nat} {k : Nat} (h : k < l.length) : cp_tk P room (l.take (k + 1)) = cp_ts1 P room (cp_tk P room (l.take k)) (l.getD k 0) := by
  unfold cp_tk
  rw [List.take_add_one, List.getElem?_eq_getElem h, Option.toList_some, List.foldl_append, cp_gD h]
  rfl
end
section
/-- numbers of pieces as they may be: lines, rank, legal, held, edited, and the minute in which one became ready -/
def cp_PN (n : Nat) (P : cp_PP) : Prop := ∀ i, i < n → (∃ k, 1 ≤ k ∧ k < 100 ∧ P i 1 = nI k ∧ ∃ e, e ≤ k ∧ P i 6 = nI e) ∧ (∃ k, k < 10 ∧ P i 2 = nI k) ∧ (P i 3 = 0 ∨ P i 3 = 1) ∧ (P i 5 = 0 ∨ P i 5 = 1) ∧ (P i 8 = -6 ∨ ∃ t, t < 100000 ∧ P i 8 = nI t)
theorem cp_PN_8 {n : Nat} {P : cp_PP} (h : cp_PN n P) {i : Nat} (hi : i < n) : -6 ≤ (P i 8).toInt ∧ (P i 8).toInt < 100000 := by
  rcases (h i hi).2.2.2.2 with e | ⟨t, ht, e⟩
  · rw [e]; decide
  · rw [e, nI_toInt (by omega)]; omega
theorem cp_PN_2 {n : Nat} {P : cp_PP} (h : cp_PN n P) {i : Nat} (hi : i < n) : 0 ≤ (P i 2).toInt ∧ (P i 2).toInt < 10 := by
  obtain ⟨k, hk, e⟩ := (h i hi).2.1
  rw [e, nI_toInt (by omega)]; omega
theorem cp_subI {x y : Int32} (h1 : -1000000 ≤ x.toInt ∧ x.toInt < 1000000) (h2 : -1000000 ≤ y.toInt ∧ y.toInt < 1000000) : (x - y).toInt = x.toInt - y.toInt := by
  rw [Int32.toInt_sub]
  apply Int.bmod_eq_of_le <;> omega
theorem cp_sub_lt {x y : Int32} (h1 : -1000000 ≤ x.toInt ∧ x.toInt < 1000000) (h2 : -1000000 ≤ y.toInt ∧ y.toInt < 1000000) : x - y < 0 ↔ x.toInt < y.toInt := by
  rw [Int32.lt_iff_toInt_lt, cp_subI h1 h2, show (0 : Int32).toInt = 0 from rfl]; omega
theorem cp_sub_eq {x y : Int32} (h1 : -1000000 ≤ x.toInt ∧ x.toInt < 1000000) (h2 : -1000000 ≤ y.toInt ∧ y.toInt < 1000000) : x - y = 0 ↔ x.toInt = y.toInt := by
  rw [← Int32.toInt_inj, cp_subI h1 h2, show (0 : Int32).toInt = 0 from rfl]; omega
theorem cp_cnt_t {q : Nat → Bool} {n : Nat} (h : q n = true) : nI (cp_cnt q n) + 1 = nI (cp_cnt q (n + 1)) := by
  rw [nI_1]
  show nI (cp_cnt q n + 1) = nI (cp_cnt q n + (if q n = true then 1 else 0))
  rw [if_pos h]
theorem cp_cnt_f {q : Nat → Bool} {n : Nat} (h : q n = false) : nI (cp_cnt q n) + 0 = nI (cp_cnt q (n + 1)) := by
  show nI (cp_cnt q n) + nI 0 = nI (cp_cnt q n + (if q n = true then 1 else 0))
  rw [if_neg (by rw [h]; decide), nI_add]
set_option maxHeartbeats 4000000 in
set_option maxRecDepth 100000 in
theorem c_X7_isFree {lc : Launch} {E : cp_En} {cnt : Nat} {sh : cp_Shp} {R : cp_Rem} {J : cp_Mem} {m : Nat} {f : Nat → Int32} {r : Nat → Nat → Int32} {a : Nat → Int32} (M : cp_ML sh R m) {n : Nat} {P : cp_PP} (hn24 : n ≤ 24) (hp : ∀ i, i < n → ∀ f, f < 9 → a (158 + 9 * i + f) = P i f) {v1 : Int32} {p : Nat} (h1 : v1 = nI p) (hpn : p < n) : cp_Fn lc E yX7_isFree cX7_isFree 2 (some .boolean) 1 [.ref m, .int v1] cnt sh (cp_ma J m f r a) R (some (.int (cp_bi (cp_fr P p)))) (cp_ma J m f r a) := by
  refine cp_Fn_i [some (.ref m), some (.int v1)] (by decide +kernel) (Nat.le_of_ble_eq_true rfl) rfl (cp_bin _) (fun x hxl O hr => ?_)
  subst hxl
  refine cp_aload_n O dX7_isFree_0 cp_lg0 ?_
  refine cp_iload_n O dX7_isFree_1 cp_lg1 ?_
  refine cp_iconst O dX7_isFree_2 (v := 4) rfl ?_
  refine cp_cVi O me_X7_of mi_X7_of ml_X7_39 cp_cX7 M.s (c_X7_ofe (w := P p 4) (p := p) (q := 4) M h1 rfl (by omega) (by omega) (hp p (by omega) 4 (by decide))) dX7_isFree_3 rfl rfl ⟨Nat.le_of_ble_eq_true rfl, Nat.le_of_ble_eq_true rfl⟩ ⟨Nat.le_refl _, Nat.le_refl _⟩ (Nat.le_of_ble_eq_true rfl) ?_
  refine cp_iconst O dX7_isFree_6 (v := 2) rfl ?_
  refine cp_icmp_ne (tgt := 23) O dX7_isFree_7 (by decide) (fun c_7 => ?_) (fun c_7 => ?_)
  · refine cp_iconst O dX7_isFree_23 (v := 0) rfl ?_
    exact hr _ _ _ _ dX7_isFree_24 (by unfold cp_fr; first | (rw [decide_eq_true c_7, decide_eq_true c_16]; rfl) | (rw [decide_eq_false c_7]; rfl) | (rw [decide_eq_false c_16, Bool.and_false]; rfl)) rfl
  · refine cp_aload_n O dX7_isFree_10 cp_lg0 ?_
    refine cp_iload_n O dX7_isFree_11 cp_lg1 ?_
    refine cp_iconst O dX7_isFree_12 (v := 5) rfl ?_
    refine cp_cVi O me_X7_of mi_X7_of ml_X7_39 cp_cX7 M.s (c_X7_ofe (w := P p 5) (p := p) (q := 5) M h1 rfl (by omega) (by omega) (hp p (by omega) 5 (by decide))) dX7_isFree_13 rfl rfl ⟨Nat.le_of_ble_eq_true rfl, Nat.le_of_ble_eq_true rfl⟩ ⟨Nat.le_refl _, Nat.le_refl _⟩ (Nat.le_of_ble_eq_true rfl) ?_
    refine cp_if_ne (tgt := 23) O dX7_isFree_16 (by decide) (fun c_16 => ?_) (fun c_16 => ?_)
    · refine cp_iconst O dX7_isFree_23 (v := 0) rfl ?_
      exact hr _ _ _ _ dX7_isFree_24 (by unfold cp_fr; first | (rw [decide_eq_true c_7, decide_eq_true c_16]; rfl) | (rw [decide_eq_false c_7]; rfl) | (rw [decide_eq_false c_16, Bool.and_false]; rfl)) rfl
    · refine cp_iconst O dX7_isFree_19 (v := 1) rfl ?_
      refine cp_goto (tgt := 24) O dX7_isFree_20 (by decide) ?_
      exact hr _ _ _ _ dX7_isFree_24 (by unfold cp_fr; first | (rw [decide_eq_true c_7, decide_eq_true c_16]; rfl) | (rw [decide_eq_false c_7]; rfl) | (rw [decide_eq_false c_16, Bool.and_false]; rfl)) rfl
set_option maxHeartbeats 4000000 in
set_option maxRecDepth 100000 in
theorem c_X7_isAhead {lc : Launch} {E : cp_En} {cnt : Nat} {sh : cp_Shp} {R : cp_Rem} {J : cp_Mem} {m : Nat} {f : Nat → Int32} {r : Nat → Nat → Int32} {a : Nat → Int32} (M : cp_ML sh R m) {n : Nat} {P : cp_PP} (hn24 : n ≤ 24) (hp : ∀ i, i < n → ∀ f, f < 9 → a (158 + 9 * i + f) = P i f) (hN : cp_PN n P) {v1 v2 : Int32} {p q : Nat} (h1 : v1 = nI p) (h2 : v2 = nI q) (hpn : p < n) (hqn : q < n) : cp_Fn lc E yX7_isAhead cX7_isAhead 5 (some .boolean) 1 [.ref m, .int v1, .int v2] cnt sh (cp_ma J m f r a) R (some (.int (cp_bi (cp_ah P p q)))) (cp_ma J m f r a) := by
  have a2 := cp_PN_2 hN hpn
  have b2 := cp_PN_2 hN hqn
  have a8 := cp_PN_8 hN hpn
  have b8 := cp_PN_8 hN hqn
  have e1 := cp_sub_lt (x := P q 2) (y := P p 2) (by omega) (by omega)
  have e2 := cp_sub_eq (x := P q 2) (y := P p 2) (by omega) (by omega)
  have e3 := cp_sub_lt (x := P p 8) (y := P q 8) (by omega) (by omega)
  have e4 := cp_sub_eq (x := P p 8) (y := P q 8) (by omega) (by omega)
  refine cp_Fn_i [some (.ref m), some (.int v1), some (.int v2), none, none] (by decide +kernel) (Nat.le_of_ble_eq_true rfl) rfl (cp_bin _) (fun x hxl O hr => ?_)
  subst hxl
  refine cp_aload_n O dX7_isAhead_0 cp_lg0 ?_
  refine cp_iload_n O dX7_isAhead_1 cp_lg2 ?_
  refine cp_iconst O dX7_isAhead_2 (v := 2) rfl ?_
  refine cp_cVi O me_X7_of mi_X7_of ml_X7_39 cp_cX7 M.s (c_X7_ofe (w := P q 2) (p := q) (q := 2) M h2 rfl (by omega) (by omega) (hp q (by omega) 2 (by decide))) dX7_isAhead_3 rfl rfl ⟨Nat.le_of_ble_eq_true rfl, Nat.le_of_ble_eq_true rfl⟩ ⟨Nat.le_refl _, Nat.le_refl _⟩ (Nat.le_of_ble_eq_true rfl) ?_
  refine cp_aload_n O dX7_isAhead_6 cp_lg0 ?_
  refine cp_iload_n O dX7_isAhead_7 cp_lg1 ?_
  refine cp_iconst O dX7_isAhead_8 (v := 2) rfl ?_
  refine cp_cVi O me_X7_of mi_X7_of ml_X7_39 cp_cX7 M.s (c_X7_ofe (w := P p 2) (p := p) (q := 2) M h1 rfl (by omega) (by omega) (hp p (by omega) 2 (by decide))) dX7_isAhead_9 rfl rfl ⟨Nat.le_of_ble_eq_true rfl, Nat.le_of_ble_eq_true rfl⟩ ⟨Nat.le_refl _, Nat.le_refl _⟩ (Nat.le_of_ble_eq_true rfl) ?_
  refine cp_isub O dX7_isAhead_12 ?_
  refine cp_istore_n O dX7_isAhead_13 (by decide) (cp_ls3 rfl) ?_
  refine cp_aload_n O dX7_isAhead_14 cp_lg0 ?_
  refine cp_iload_n O dX7_isAhead_15 cp_lg1 ?_
  refine cp_bipush O dX7_isAhead_16 (v := 8) rfl ?_
  refine cp_cVi O me_X7_of mi_X7_of ml_X7_39 cp_cX7 M.s (c_X7_ofe (w := P p 8) (p := p) (q := 8) M h1 rfl (by omega) (by omega) (hp p (by omega) 8 (by decide))) dX7_isAhead_18 rfl rfl ⟨Nat.le_of_ble_eq_true rfl, Nat.le_of_ble_eq_true rfl⟩ ⟨Nat.le_refl _, Nat.le_refl _⟩ (Nat.le_of_ble_eq_true rfl) ?_
  refine cp_aload_n O dX7_isAhead_21 cp_lg0 ?_
  refine cp_iload_n O dX7_isAhead_22 cp_lg2 ?_
  refine cp_bipush O dX7_isAhead_23 (v := 8) rfl ?_
  refine cp_cVi O me_X7_of mi_X7_of ml_X7_39 cp_cX7 M.s (c_X7_ofe (w := P q 8) (p := q) (q := 8) M h2 rfl (by omega) (by omega) (hp q (by omega) 8 (by decide))) dX7_isAhead_25 rfl rfl ⟨Nat.le_of_ble_eq_true rfl, Nat.le_of_ble_eq_true rfl⟩ ⟨Nat.le_refl _, Nat.le_refl _⟩ (Nat.le_of_ble_eq_true rfl) ?_
  refine cp_isub O dX7_isAhead_28 ?_
  refine cp_istore O dX7_isAhead_29 (by decide) (cp_ls4 rfl) ?_
  refine cp_iload_n O dX7_isAhead_31 cp_lg3 ?_
  refine cp_if_lt (tgt := 54) O dX7_isAhead_32 (by decide) (fun c_32 => ?_) (fun c_32 => ?_)
  · have hah : cp_ah P p q = true := by
      rw [cp_ah_iff]
      simp only [e1, e2, e3, e4] at *
      omega
    refine cp_iconst O dX7_isAhead_54 (v := 1) rfl ?_
    refine cp_goto (tgt := 59) O dX7_isAhead_55 (by decide) ?_
    exact hr _ _ _ _ dX7_isAhead_59 (by rw [hah]; rfl) rfl
  · refine cp_iload_n O dX7_isAhead_35 cp_lg3 ?_
    refine cp_if_ne (tgt := 58) O dX7_isAhead_36 (by decide) (fun c_36 => ?_) (fun c_36 => ?_)
    · have hah : cp_ah P p q = false := by
        apply Bool.eq_false_iff.mpr
        rw [Ne, cp_ah_iff]
        simp only [e1, e2, e3, e4] at *
        omega
      refine cp_iconst O dX7_isAhead_58 (v := 0) rfl ?_
      exact hr _ _ _ _ dX7_isAhead_59 (by rw [hah]; rfl) rfl
    · refine cp_iload O dX7_isAhead_39 cp_lg4 ?_
      refine cp_if_lt (tgt := 54) O dX7_isAhead_41 (by decide) (fun c_41 => ?_) (fun c_41 => ?_)
      · have hah : cp_ah P p q = true := by
          rw [cp_ah_iff]
          simp only [e1, e2, e3, e4] at *
          omega
        refine cp_iconst O dX7_isAhead_54 (v := 1) rfl ?_
        refine cp_goto (tgt := 59) O dX7_isAhead_55 (by decide) ?_
        exact hr _ _ _ _ dX7_isAhead_59 (by rw [hah]; rfl) rfl
      · refine cp_iload O dX7_isAhead_44 cp_lg4 ?_
        refine cp_if_ne (tgt := 58) O dX7_isAhead_46 (by decide) (fun c_46 => ?_) (fun c_46 => ?_)
        · have hah : cp_ah P p q = false := by
            apply Bool.eq_false_iff.mpr
            rw [Ne, cp_ah_iff]
            simp only [e1, e2, e3, e4] at *
            omega
          refine cp_iconst O dX7_isAhead_58 (v := 0) rfl ?_
          exact hr _ _ _ _ dX7_isAhead_59 (by rw [hah]; rfl) rfl
        · refine cp_iload_n O dX7_isAhead_49 cp_lg1 ?_
          refine cp_iload_n O dX7_isAhead_50 cp_lg2 ?_
          refine cp_icmp_geN (tgt := 58) O dX7_isAhead_51 (by decide) (a := p) (b := q) h1 h2 (by omega) (by omega) (fun c_51 => ?_) (fun c_51 => ?_)
          · have hah : cp_ah P p q = false := by
              apply Bool.eq_false_iff.mpr
              rw [Ne, cp_ah_iff]
              simp only [e1, e2, e3, e4] at *
              omega
            refine cp_iconst O dX7_isAhead_58 (v := 0) rfl ?_
            exact hr _ _ _ _ dX7_isAhead_59 (by rw [hah]; rfl) rfl
          · have hah : cp_ah P p q = true := by
              rw [cp_ah_iff]
              simp only [e1, e2, e3, e4] at *
              omega
            refine cp_iconst O dX7_isAhead_54 (v := 1) rfl ?_
            refine cp_goto (tgt := 59) O dX7_isAhead_55 (by decide) ?_
            exact hr _ _ _ _ dX7_isAhead_59 (by rw [hah]; rfl) rfl
set_option maxHeartbeats 4000000 in
set_option maxRecDepth 100000 in
theorem c_X7_ranked {lc : Launch} {E : cp_En} {cnt : Nat} {sh : cp_Shp} {R : cp_Rem} {J : cp_Mem} {m : Nat} {f : Nat → Int32} {r : Nat → Nat → Int32} {a : Nat → Int32} (M : cp_ML sh R m) {n : Nat} {P : cp_PP} (hn24 : n ≤ 24) (hp : ∀ i, i < n → ∀ f, f < 9 → a (158 + 9 * i + f) = P i f) (hN : cp_PN n P) (h5 : a 5 = nI n) {v1 : Int32} {k : Nat} (h1 : v1 = nI k) (hk : k < 2 ^ 31) : cp_Fn lc E yX7_ranked cX7_ranked 5 (some .int) 2 [.ref m, .int v1] cnt sh (cp_ma J m f r a) R (some (.int (cp_o2i ((cp_so n P)[k]?)))) (cp_ma J m f r a) := by
  rw [← cp_rk_eq]
  refine cp_Fn_i [some (.ref m), some (.int v1), none, none, none] (by decide +kernel) (Nat.le_of_ble_eq_true rfl) rfl rfl (fun x hxl O hr => ?_)
  subst hxl
  refine cp_iconst O dX7_ranked_0 (v := 0) rfl ?_
  refine cp_istore_n O dX7_ranked_1 (by decide) (cp_ls2 rfl) ?_
  have loop2 : ∀ p, p ≤ n → (∀ j, j < p → (cp_fr P j && decide (cp_ac n P j = k)) = false) → cp_G x E 5 0 0 cnt sh (cp_ma J m f r a) R 2 [some (.ref m), some (.int v1), some (.int (nI p)), none, none] [] := by
    refine cp_up (fun p hpn ih hb => ?_)
    refine cp_iload_n O dX7_ranked_2 cp_lg2 ?_
    refine cp_aload_n O dX7_ranked_3 cp_lg0 ?_
    refine fg_X7_7 O M.s M.f0 dX7_ranked_4 ?_
    refine cp_iconst O dX7_ranked_7 (v := 5) rfl ?_
    refine cp_ialdA O M (j := 5) rfl (by omega) dX7_ranked_8 ?_
    refine cp_icmp_geN (tgt := 88) O dX7_ranked_9 (by decide) (a := p) (b := n) rfl h5 (by omega) (by omega) (fun c_9 => ?_) (fun c_9 => ?_)
    · refine cp_bipush O dX7_ranked_88 (v := (-6)) rfl ?_
      exact hr _ _ _ _ dX7_ranked_90 (cp_o2i_n (cp_fnd_n (fun j hj => hb j (by omega)))) rfl
    · refine cp_iconst O dX7_ranked_12 (v := 0) rfl ?_
      refine cp_istore_n O dX7_ranked_13 (by decide) (cp_ls3 rfl) ?_
      refine cp_iconst O dX7_ranked_14 (v := 0) rfl ?_
      refine cp_istore O dX7_ranked_15 (by decide) (cp_ls4 rfl) ?_
      have loop17 : ∀ o, o ≤ n → cp_G x E 5 0 0 cnt sh (cp_ma J m f r a) R 17 [some (.ref m), some (.int v1), some (.int (nI p)), some (.int (nI (cp_cnt (fun o => cp_fr P o && decide (o ≠ p) && cp_ah P o p) o))), some (.int (nI o))] [] := by
        refine cp_up (fun o hon ih2 => ?_)
        have hcl := cp_cnt_le (fun o => cp_fr P o && decide (o ≠ p) && cp_ah P o p) o
        refine cp_iload O dX7_ranked_17 cp_lg4 ?_
        refine cp_aload_n O dX7_ranked_19 cp_lg0 ?_
        refine fg_X7_7 O M.s M.f0 dX7_ranked_20 ?_
        refine cp_iconst O dX7_ranked_23 (v := 5) rfl ?_
        refine cp_ialdA O M (j := 5) rfl (by omega) dX7_ranked_24 ?_
        refine cp_icmp_geN (tgt := 67) O dX7_ranked_25 (by decide) (a := o) (b := n) rfl h5 (by omega) (by omega) (fun c_25 => ?_) (fun c_25 => ?_)
        · obtain rfl : n = o := by omega
          refine cp_aload_n O dX7_ranked_67 cp_lg0 ?_
          refine cp_iload_n O dX7_ranked_68 cp_lg2 ?_
          refine cp_cVi O me_X7_isFree mi_X7_isFree ml_X7_68 cp_cX7 M.s (c_X7_isFree (p := p) M hn24 hp rfl (by omega)) dX7_ranked_69 rfl rfl ⟨Nat.le_of_ble_eq_true rfl, Nat.le_of_ble_eq_true rfl⟩ ⟨Nat.le_refl _, Nat.le_refl _⟩ (Nat.le_of_ble_eq_true rfl) ?_
          refine cp_if_eqB (tgt := 82) O dX7_ranked_72 (by decide) (fun c_72 => ?_) (fun c_72 => ?_)
          · refine cp_iinc O dX7_ranked_82 cp_lg2 (cp_inc rfl) (by decide) (cp_ls2 rfl) ?_
            refine cp_goto (tgt := 2) O dX7_ranked_85 (by decide) ?_
            exact cp_Gw (cp_lws (cp_lws (cp_lws (cp_lwn (cp_lwn cp_lw0))))) (ih c_9 (cp_lts hb (by first | (rw [c_72]; rfl) | (rw [c_72, Bool.true_and]; exact decide_eq_false c_77))))
          · refine cp_iload_n O dX7_ranked_75 cp_lg3 ?_
            refine cp_iload_n O dX7_ranked_76 cp_lg1 ?_
            refine cp_icmp_neN (tgt := 82) O dX7_ranked_77 (by decide) (a := (cp_cnt (fun o => cp_fr P o && decide (o ≠ p) && cp_ah P o p) n)) (b := k) rfl h1 (by omega) (by omega) (fun c_77 => ?_) (fun c_77 => ?_)
            · refine cp_iinc O dX7_ranked_82 cp_lg2 (cp_inc rfl) (by decide) (cp_ls2 rfl) ?_
              refine cp_goto (tgt := 2) O dX7_ranked_85 (by decide) ?_
              exact cp_Gw (cp_lws (cp_lws (cp_lws (cp_lwn (cp_lwn cp_lw0))))) (ih c_9 (cp_lts hb (by first | (rw [c_72]; rfl) | (rw [c_72, Bool.true_and]; exact decide_eq_false c_77))))
            · have hfin : nI p = cp_o2i ((List.range n).find? (fun p => cp_fr P p && decide (cp_ac n P p = k))) := cp_o2i_s (cp_fnd_s c_9 (by rw [c_72, Bool.true_and]; exact decide_eq_true c_77) hb)
              refine cp_iload_n O dX7_ranked_80 cp_lg2 ?_
              exact hr _ _ _ _ dX7_ranked_81 hfin rfl
        · refine cp_iload_n O dX7_ranked_28 cp_lg3 ?_
          refine cp_aload_n O dX7_ranked_29 cp_lg0 ?_
          refine cp_iload O dX7_ranked_30 cp_lg4 ?_
          refine cp_cVi O me_X7_isFree mi_X7_isFree ml_X7_68 cp_cX7 M.s (c_X7_isFree (p := o) M hn24 hp rfl (by omega)) dX7_ranked_32 rfl rfl ⟨Nat.le_of_ble_eq_true rfl, Nat.le_of_ble_eq_true rfl⟩ ⟨Nat.le_refl _, Nat.le_refl _⟩ (Nat.le_of_ble_eq_true rfl) ?_
          refine cp_if_eqB (tgt := 58) O dX7_ranked_35 (by decide) (fun c_35 => ?_) (fun c_35 => ?_)
          · refine cp_iconst O dX7_ranked_58 (v := 0) rfl ?_
            refine cp_iadd O dX7_ranked_59 ?_
            refine cp_istore_n O dX7_ranked_60 (by decide) (cp_ls3 rfl) ?_
            refine cp_iinc O dX7_ranked_61 cp_lg4 (cp_inc rfl) (by decide) (cp_ls4 rfl) ?_
            refine cp_goto (tgt := 17) O dX7_ranked_64 (by decide) ?_
            first
              | (rw [cp_cnt_t (show (cp_fr P o && decide (o ≠ p) && cp_ah P o p) = true by rw [c_35, Bool.true_and, decide_eq_true c_41, c_51]; rfl)]; exact ih2 c_25)
              | (rw [cp_cnt_f (show (cp_fr P o && decide (o ≠ p) && cp_ah P o p) = false by first | (rw [c_35]; rfl) | (rw [c_41]; simp) | (rw [c_51]; simp))]; exact ih2 c_25)
          · refine cp_iload O dX7_ranked_38 cp_lg4 ?_
            refine cp_iload_n O dX7_ranked_40 cp_lg2 ?_
            refine cp_icmp_eqN (tgt := 58) O dX7_ranked_41 (by decide) (a := o) (b := p) rfl rfl (by omega) (by omega) (fun c_41 => ?_) (fun c_41 => ?_)
            · refine cp_iconst O dX7_ranked_58 (v := 0) rfl ?_
              refine cp_iadd O dX7_ranked_59 ?_
              refine cp_istore_n O dX7_ranked_60 (by decide) (cp_ls3 rfl) ?_
              refine cp_iinc O dX7_ranked_61 cp_lg4 (cp_inc rfl) (by decide) (cp_ls4 rfl) ?_
              refine cp_goto (tgt := 17) O dX7_ranked_64 (by decide) ?_
              first
                | (rw [cp_cnt_t (show (cp_fr P o && decide (o ≠ p) && cp_ah P o p) = true by rw [c_35, Bool.true_and, decide_eq_true c_41, c_51]; rfl)]; exact ih2 c_25)
                | (rw [cp_cnt_f (show (cp_fr P o && decide (o ≠ p) && cp_ah P o p) = false by first | (rw [c_35]; rfl) | (rw [c_41]; simp) | (rw [c_51]; simp))]; exact ih2 c_25)
            · refine cp_aload_n O dX7_ranked_44 cp_lg0 ?_
              refine cp_iload O dX7_ranked_45 cp_lg4 ?_
              refine cp_iload_n O dX7_ranked_47 cp_lg2 ?_
              refine cp_cVi O me_X7_isAhead mi_X7_isAhead ml_X7_72 cp_cX7 M.s (c_X7_isAhead (p := o) (q := p) M hn24 hp hN rfl rfl (by omega) (by omega)) dX7_ranked_48 rfl rfl ⟨Nat.le_of_ble_eq_true rfl, Nat.le_of_ble_eq_true rfl⟩ ⟨Nat.le_refl _, Nat.le_refl _⟩ (Nat.le_of_ble_eq_true rfl) ?_
              refine cp_if_eqB (tgt := 58) O dX7_ranked_51 (by decide) (fun c_51 => ?_) (fun c_51 => ?_)
              · refine cp_iconst O dX7_ranked_58 (v := 0) rfl ?_
                refine cp_iadd O dX7_ranked_59 ?_
                refine cp_istore_n O dX7_ranked_60 (by decide) (cp_ls3 rfl) ?_
                refine cp_iinc O dX7_ranked_61 cp_lg4 (cp_inc rfl) (by decide) (cp_ls4 rfl) ?_
                refine cp_goto (tgt := 17) O dX7_ranked_64 (by decide) ?_
                first
                  | (rw [cp_cnt_t (show (cp_fr P o && decide (o ≠ p) && cp_ah P o p) = true by rw [c_35, Bool.true_and, decide_eq_true c_41, c_51]; rfl)]; exact ih2 c_25)
                  | (rw [cp_cnt_f (show (cp_fr P o && decide (o ≠ p) && cp_ah P o p) = false by first | (rw [c_35]; rfl) | (rw [c_41]; simp) | (rw [c_51]; simp))]; exact ih2 c_25)
              · refine cp_iconst O dX7_ranked_54 (v := 1) rfl ?_
                refine cp_goto (tgt := 59) O dX7_ranked_55 (by decide) ?_
                refine cp_iadd O dX7_ranked_59 ?_
                refine cp_istore_n O dX7_ranked_60 (by decide) (cp_ls3 rfl) ?_
                refine cp_iinc O dX7_ranked_61 cp_lg4 (cp_inc rfl) (by decide) (cp_ls4 rfl) ?_
                refine cp_goto (tgt := 17) O dX7_ranked_64 (by decide) ?_
                first
                  | (rw [cp_cnt_t (show (cp_fr P o && decide (o ≠ p) && cp_ah P o p) = true by rw [c_35, Bool.true_and, decide_eq_true c_41, c_51]; rfl)]; exact ih2 c_25)
                  | (rw [cp_cnt_f (show (cp_fr P o && decide (o ≠ p) && cp_ah P o p) = false by first | (rw [c_35]; rfl) | (rw [c_41]; simp) | (rw [c_51]; simp))]; exact ih2 c_25)
      exact loop17 0 (Nat.zero_le _)
  exact cp_Gw (cp_lws (cp_lws (cp_lws (cp_lwn (cp_lwn cp_lw0))))) (loop2 0 (Nat.zero_le _) (fun j hj => absurd hj (by omega)))
end
section
/-! numbers stay as they may be; the whole night -/
theorem cp_PN_wi {n : Nat} {P : cp_PP} (h : cp_PN n P) {i f : Nat} {v : Int32} (hf : f = 4 ∨ f = 7 ∨ f = 9 ∨ (f = 8 ∧ (v = -6 ∨ ∃ t, t < 100000 ∧ v = nI t)) ∨ (f = 5 ∧ (v = 0 ∨ v = 1)) ∨ (f = 6 ∧ ∀ k, P i 1 = nI k → k < 100 → ∃ e, e ≤ k ∧ v = nI e)) : cp_PN n (cp_wi P i f v) := by
  intro j hj
  obtain ⟨⟨k, k1, k2, k3, e, e1, e2⟩, h2, h3, h5, h8⟩ := h j hj
  have hn : ∀ g, ¬ (j = i ∧ g = f) → cp_wi P i f v j g = P j g := fun g hg => cp_wi_j _ _ _ _ hg
  refine ⟨⟨k, k1, k2, ?_, ?_⟩, ?_, ?_, ?_, ?_⟩
  · rw [hn 1 (by omega)]; exact k3
  · by_cases hc : j = i ∧ 6 = f
    · obtain ⟨rfl, rfl⟩ := hc
      rw [cp_wi_s]
      rcases hf with hf | hf | hf | hf | hf | hf
      · omega
      · omega
      · omega
      · omega
      · omega
      · exact hf.2 k k3 k2
    · rw [hn 6 hc]; exact ⟨e, e1, e2⟩
  · rw [hn 2 (by omega)]; exact h2
  · rw [hn 3 (by omega)]; exact h3
  · by_cases hc : j = i ∧ 5 = f
    · obtain ⟨rfl, rfl⟩ := hc
      rw [cp_wi_s]
      rcases hf with hf | hf | hf | hf | hf | hf
      · omega
      · omega
      · omega
      · omega
      · exact hf.2
      · omega
    · rw [hn 5 hc]; exact h5
  · by_cases hc : j = i ∧ 8 = f
    · obtain ⟨rfl, rfl⟩ := hc
      rw [cp_wi_s]
      rcases hf with hf | hf | hf | hf | hf | hf
      · omega
      · omega
      · omega
      · exact hf.2
      · omega
      · omega
    · rw [hn 8 hc]; exact h8
def cp_SV (S : Nat → Int32) : Prop := (∃ e, 1 ≤ e ∧ e ≤ 20 ∧ S 0 = nI e) ∧ (∃ e, 1 ≤ e ∧ e ≤ 60 ∧ S 1 = nI e) ∧ (∃ e, 10 ≤ e ∧ e ≤ 400 ∧ S 2 = nI e) ∧ ∃ e, 1 ≤ e ∧ e ≤ 60 ∧ S 3 = nI e
theorem cp_PN_ed {n : Nat} {P : cp_PP} {lq : List Nat} {S : Nat → Int32} {t d : Nat} (h : cp_PN n P) (hS : cp_SV S) (ht : t < 100000) : cp_PN n (cp_ed S (nI t) n d (P, lq)).1 := by
  cases hdq : cp_dq n P d with
  | nil => rw [cp_ed_nil hdq]; exact h
  | cons i tl =>
    have hi := cp_ed_hd hdq
    rw [cp_ed_cons hdq]
    obtain ⟨e0, he0, he1, he⟩ := hS.1
    obtain ⟨k0, k1, k2, k3, e4, e5, e6⟩ := (h i hi.1).1
    have h6 : cp_PN n (cp_wi P i 6 (P i 1)) := cp_PN_wi h (Or.inr (Or.inr (Or.inr (Or.inr (Or.inr ⟨rfl, fun k hk _ => ⟨k, Nat.le_refl _, hk⟩⟩)))))
    split
    · rename_i hlt
      refine cp_PN_wi h (Or.inr (Or.inr (Or.inr (Or.inr (Or.inr ⟨rfl, fun k hk hk2 => ⟨e4 + e0, ?_, ?_⟩⟩)))))
      · rw [e6, he, nI_add, hk, nI_ltI (by omega) (by omega)] at hlt
        omega
      · rw [e6, he, nI_add]
    · split
      · exact cp_PN_wi h6 (Or.inl rfl)
      · exact cp_PN_wi (cp_PN_wi h6 (Or.inl rfl)) (Or.inr (Or.inr (Or.inr (Or.inl ⟨rfl, Or.inr ⟨t, ht, rfl⟩⟩))))
theorem cp_PN_rd {n : Nat} {P : cp_PP} {lq : List Nat} {S : Nat → Int32} {t : Nat} (h : cp_PN n P) (ht : t < 100000) : cp_PN n (cp_rd S (nI t) (P, lq)).1 := by
  cases lq with
  | nil => exact h
  | cons i tl =>
    rw [cp_rd_cons]
    split
    · exact cp_PN_wi (cp_PN_wi (cp_PN_wi h (Or.inr (Or.inl rfl))) (Or.inl rfl)) (Or.inr (Or.inr (Or.inr (Or.inl ⟨rfl, Or.inr ⟨t, ht, rfl⟩⟩))))
    · exact cp_PN_wi h (Or.inr (Or.inl rfl))
theorem cp_PN_eds {n : Nat} {P : cp_PP} {lq : List Nat} {S : Nat → Int32} {t : Nat} (h : cp_PN n P) (hS : cp_SV S) (ht : t < 100000) : ∀ d, cp_PN n (cp_eds S (nI t) n d (P, lq)).1
  | 0 => h
  | d + 1 => cp_PN_ed (d := d) (lq := (cp_eds S (nI t) n d (P, lq)).2) (cp_PN_eds h hS ht d) hS ht
theorem cp_PN_wk {n : Nat} {P : cp_PP} {lq : List Nat} {S : Nat → Int32} {t : Nat} (h : cp_PN n P) (hS : cp_SV S) (ht : t < 100000) : cp_PN n (cp_wk S (nI t) n (P, lq)).1 := cp_PN_rd (lq := (cp_eds S (nI t) n 5 (P, lq)).2) (cp_PN_eds h hS ht 5) ht
/-- a night: settings, minute, pieces (how many, their fields), plates (how many, minute, replate, set), the lawyer's queue -/
abbrev cp_Nt : Type := (Nat → Int32) × Nat × Nat × cp_PP × Nat × cp_PP × List Nat
abbrev cp_tS (N : cp_Nt) : Nat → Int32 := N.1
abbrev cp_tm (N : cp_Nt) : Nat := N.2.1
abbrev cp_tn (N : cp_Nt) : Nat := N.2.2.1
abbrev cp_tP (N : cp_Nt) : cp_PP := N.2.2.2.1
abbrev cp_tp (N : cp_Nt) : Nat := N.2.2.2.2.1
abbrev cp_tQ (N : cp_Nt) : cp_PP := N.2.2.2.2.2.1
abbrev cp_tl (N : cp_Nt) : List Nat := N.2.2.2.2.2.2
/-- what the model's row holds -/
def cp_MA (a : Nat → Int32) (N : cp_Nt) : Prop := (∀ k, k < 4 → a k = cp_tS N k) ∧ a 4 = nI (cp_tm N) ∧ a 5 = nI (cp_tn N) ∧ cp_MW a (cp_tn N) (cp_tP N) (cp_LL (cp_tn N) (cp_tP N) (cp_tl N)) ∧ cp_MQ a (cp_tm N) (cp_tp N) (cp_tQ N)
/-- plates: by their minutes; those that aren't made are empty -/
def cp_QV (mi np : Nat) (Q : cp_PP) : Prop := (∀ i j, i < j → j < np → (Q i 0).toInt < (Q j 0).toInt) ∧ ∀ j, j < np → (Q j 1 = 0 ∨ Q j 1 = 1) ∧ (¬ (Q j 0).toInt < mi → Q j 2 = 0)
def cp_NV (N : cp_Nt) : Prop := cp_SV (cp_tS N) ∧ cp_tm N ≤ 600 ∧ cp_PV (cp_tn N) (cp_tP N) (cp_tl N) ∧ cp_PN (cp_tn N) (cp_tP N) ∧ cp_QV (cp_tm N) (cp_tp N) (cp_tQ N)
/-- taking: the model's two fields -/
def cp_tf (f : Nat → Int32) (s : Int32 × Int32) : Nat → Int32 := upd (upd f 7 s.1) 8 s.2
theorem cp_tf_7 (f : Nat → Int32) (s : Int32 × Int32) : cp_tf f s 7 = s.1 := by simp [cp_tf, upd]
theorem cp_tf_8 (f : Nat → Int32) (s : Int32 × Int32) : cp_tf f s 8 = s.2 := by simp [cp_tf, upd]
theorem cp_tf_o (f : Nat → Int32) (s : Int32 × Int32) {k : Nat} (h7 : k ≠ 7) (h8 : k ≠ 8) : cp_tf f s k = f k := by simp [cp_tf, upd, h7, h8]
theorem cp_tf_2 (f : Nat → Int32) (s : Int32 × Int32) (x y : Int32) : upd (upd (cp_tf f s) 7 x) 8 y = cp_tf f (x, y) := by
  funext k
  unfold cp_tf upd
  by_cases h8 : k = 8
  · simp [h8]
  · by_cases h7 : k = 7
    · simp [h7]
    · simp [h8, h7]
theorem cp_so_v {n : Nat} {P : cp_PP} {k : Nat} (h : k < (cp_so n P).length) : cp_o2i ((cp_so n P)[k]?) = nI ((cp_so n P).getD k 0) := by
  rw [List.getElem?_eq_getElem h, cp_gD h]; rfl
theorem cp_so_6 {n : Nat} {P : cp_PP} {k : Nat} (hn : n ≤ 24) : cp_o2i ((cp_so n P)[k]?) = -6 ↔ (cp_so n P).length ≤ k := by
  constructor
  · intro h
    rcases Nat.lt_or_ge k (cp_so n P).length with h1 | h1
    · rw [cp_so_v h1] at h
      have h2 := (cp_so_mem.mp (cp_getD_in h1)).1
      exact absurd h (cp_nm6 (by omega))
    · exact h1
  · intro h
    rw [List.getElem?_eq_none h]; rfl
end
section
set_option maxHeartbeats 4000000 in
set_option maxRecDepth 100000 in
theorem c_X7_takes {lc : Launch} {E : cp_En} {cnt : Nat} {sh : cp_Shp} {R : cp_Rem} {J : cp_Mem} {m : Nat} {f : Nat → Int32} {r : Nat → Nat → Int32} {a : Nat → Int32} (M : cp_ML sh R m) {n : Nat} {P : cp_PP} (hn24 : n ≤ 24) (hp : ∀ i, i < n → ∀ f, f < 9 → a (158 + 9 * i + f) = P i f) (hN : cp_PN n P) (h5 : a 5 = nI n) {v1 : Int32} : cp_Fn lc E yX7_takes cX7_takes 4 none 3 [.ref m, .int v1] cnt sh (cp_ma J m f r a) R none (cp_ma J m (cp_tf f (cp_tk P v1 (cp_so n P))) r a) := by
  have hle := cp_so_le n P
  refine cp_Fn_v [some (.ref m), some (.int v1), none, none] (by decide +kernel) (Nat.le_of_ble_eq_true rfl) rfl (fun x hxl O hr => ?_)
  subst hxl
  refine cp_aload_n O dX7_takes_0 cp_lg0 ?_
  refine cp_iconst O dX7_takes_1 (v := 0) rfl ?_
  refine mp_X7_76 O M dX7_takes_2 ?_
  refine cp_aload_n O dX7_takes_5 cp_lg0 ?_
  refine cp_iconst O dX7_takes_6 (v := 0) rfl ?_
  refine mp_X7_79 O M dX7_takes_7 ?_
  refine cp_iconst O dX7_takes_10 (v := 0) rfl ?_
  refine cp_istore_n O dX7_takes_11 (by decide) (cp_ls2 rfl) ?_
  have loop12 : ∀ k, k ≤ (cp_so n P).length → cp_G x E 4 0 0 cnt sh (cp_ma J m (cp_tf f (cp_tk P v1 ((cp_so n P).take k))) r a) R 12 [some (.ref m), some (.int v1), some (.int (nI k)), none] [] := by
    refine cp_up (fun k hk ih => ?_)
    refine cp_aload_n O dX7_takes_12 cp_lg0 ?_
    refine cp_iload_n O dX7_takes_13 cp_lg2 ?_
    refine cp_cVi O me_X7_ranked mi_X7_ranked ml_X7_82 cp_cX7 M.s (c_X7_ranked (k := k) M hn24 hp hN h5 rfl (by omega)) dX7_takes_14 rfl rfl ⟨Nat.le_of_ble_eq_true rfl, Nat.le_of_ble_eq_true rfl⟩ ⟨Nat.le_refl _, Nat.le_refl _⟩ (Nat.le_of_ble_eq_true rfl) ?_
    refine cp_bipush O dX7_takes_17 (v := (-6)) rfl ?_
    refine cp_icmp_eq (tgt := 76) O dX7_takes_19 (by decide) (fun c_19 => ?_) (fun c_19 => ?_)
    · have hkl := (cp_so_6 hn24).mp c_19
      exact hr _ _ _ dX7_takes_76 (by rw [show k = (cp_so n P).length by omega, List.take_length])
    · have hkl : k < (cp_so n P).length := Nat.not_le.mp (fun h => c_19 ((cp_so_6 hn24).mpr h))
      have hpn := (cp_so_mem.mp (cp_getD_in hkl)).1
      refine cp_aload_n O dX7_takes_22 cp_lg0 ?_
      refine cp_iload_n O dX7_takes_23 cp_lg2 ?_
      refine cp_cVi O me_X7_ranked mi_X7_ranked ml_X7_82 cp_cX7 M.s (c_X7_ranked (k := k) M hn24 hp hN h5 rfl (by omega)) dX7_takes_24 rfl rfl ⟨Nat.le_of_ble_eq_true rfl, Nat.le_of_ble_eq_true rfl⟩ ⟨Nat.le_refl _, Nat.le_refl _⟩ (Nat.le_of_ble_eq_true rfl) ?_
      rw [cp_so_v hkl]
      refine cp_istore_n O dX7_takes_27 (by decide) (cp_ls3 rfl) ?_
      refine cp_aload_n O dX7_takes_28 cp_lg0 ?_
      refine mg_X7_79 O M dX7_takes_29 ?_
      rw [cp_tf_8]
      refine cp_aload_n O dX7_takes_32 cp_lg0 ?_
      refine cp_iload_n O dX7_takes_33 cp_lg3 ?_
      refine cp_iconst O dX7_takes_34 (v := 1) rfl ?_
      refine cp_cVi O me_X7_of mi_X7_of ml_X7_39 cp_cX7 M.s (c_X7_ofe (w := P ((cp_so n P).getD k 0) 1) (p := ((cp_so n P).getD k 0)) (q := 1) M rfl rfl (by omega) (by omega) (hp ((cp_so n P).getD k 0) (by omega) 1 (by decide))) dX7_takes_35 rfl rfl ⟨Nat.le_of_ble_eq_true rfl, Nat.le_of_ble_eq_true rfl⟩ ⟨Nat.le_refl _, Nat.le_refl _⟩ (Nat.le_of_ble_eq_true rfl) ?_
      refine cp_iadd O dX7_takes_38 ?_
      refine cp_iload_n O dX7_takes_39 cp_lg1 ?_
      refine cp_icmp_gt (tgt := 70) O dX7_takes_40 (by decide) (fun c_40 => ?_) (fun c_40 => ?_)
      · refine cp_iinc O dX7_takes_70 cp_lg2 (cp_inc rfl) (by decide) (cp_ls2 rfl) ?_
        refine cp_goto (tgt := 12) O dX7_takes_73 (by decide) ?_
        have e := cp_tk_s P v1 hkl
        unfold cp_ts1 at e
        first
          | (rw [if_neg (Int32.not_le.mpr c_40)] at e; have ih2 := ih hkl; rw [e] at ih2; exact cp_Gw (cp_lws (cp_lws (cp_lws (cp_lwn cp_lw0)))) ih2)
          | (rw [if_pos (Int32.not_lt.mp c_40)] at e; have ih2 := ih hkl; rw [e] at ih2; rw [cp_tf_2]; exact cp_Gw (cp_lws (cp_lws (cp_lws (cp_lwn cp_lw0)))) ih2)
      · refine cp_aload_n O dX7_takes_43 cp_lg0 ?_
        refine cp_dup O dX7_takes_44 rfl ?_
        refine mg_X7_76 O M dX7_takes_45 ?_
        rw [cp_tf_7]
        refine cp_iconst O dX7_takes_48 (v := 1) rfl ?_
        refine cp_iload_n O dX7_takes_49 cp_lg3 ?_
        refine cp_ishl O dX7_takes_50 ?_
        refine cp_ior O dX7_takes_51 ?_
        refine mp_X7_76 O M dX7_takes_52 ?_
        refine cp_aload_n O dX7_takes_55 cp_lg0 ?_
        refine cp_dup O dX7_takes_56 rfl ?_
        refine mg_X7_79 O M dX7_takes_57 ?_
        rw [cp_upd_n (show 8 ≠ 7 by decide), cp_tf_8]
        refine cp_aload_n O dX7_takes_60 cp_lg0 ?_
        refine cp_iload_n O dX7_takes_61 cp_lg3 ?_
        refine cp_iconst O dX7_takes_62 (v := 1) rfl ?_
        refine cp_cVi O me_X7_of mi_X7_of ml_X7_39 cp_cX7 M.s (c_X7_ofe (w := P ((cp_so n P).getD k 0) 1) (p := ((cp_so n P).getD k 0)) (q := 1) M rfl rfl (by omega) (by omega) (hp ((cp_so n P).getD k 0) (by omega) 1 (by decide))) dX7_takes_63 rfl rfl ⟨Nat.le_of_ble_eq_true rfl, Nat.le_of_ble_eq_true rfl⟩ ⟨Nat.le_refl _, Nat.le_refl _⟩ (Nat.le_of_ble_eq_true rfl) ?_
        refine cp_iadd O dX7_takes_66 ?_
        refine mp_X7_79 O M dX7_takes_67 ?_
        refine cp_iinc O dX7_takes_70 cp_lg2 (cp_inc rfl) (by decide) (cp_ls2 rfl) ?_
        refine cp_goto (tgt := 12) O dX7_takes_73 (by decide) ?_
        have e := cp_tk_s P v1 hkl
        unfold cp_ts1 at e
        first
          | (rw [if_neg (Int32.not_le.mpr c_40)] at e; have ih2 := ih hkl; rw [e] at ih2; exact cp_Gw (cp_lws (cp_lws (cp_lws (cp_lwn cp_lw0)))) ih2)
          | (rw [if_pos (Int32.not_lt.mp c_40)] at e; have ih2 := ih hkl; rw [e] at ih2; rw [cp_tf_2]; exact cp_Gw (cp_lws (cp_lws (cp_lws (cp_lwn cp_lw0)))) ih2)
  exact cp_Gw (cp_lws (cp_lws (cp_lws (cp_lwn cp_lw0)))) (loop12 0 (Nat.zero_le _))
/-- a minute passes -/
def cp_sMin (N : cp_Nt) : Int32 × cp_Nt := match cp_du (cp_tp N) (cp_tQ N) (nI (cp_tm N)) with
  | none => (0, (cp_tS N, cp_tm N + 1, cp_tn N, (cp_wk (cp_tS N) (nI (cp_tm N)) (cp_tn N) (cp_tP N, cp_tl N)).1, cp_tp N, cp_tQ N, (cp_wk (cp_tS N) (nI (cp_tm N)) (cp_tn N) (cp_tP N, cp_tl N)).2))
  | some j => (1, (cp_tS N, cp_tm N + 1, cp_tn N, (cp_wk (cp_tS N) (nI (cp_tm N)) (cp_tn N) (cp_tP N, cp_tl N)).1, cp_tp N, cp_wi (cp_tQ N) j 2 (cp_tk (cp_wk (cp_tS N) (nI (cp_tm N)) (cp_tn N) (cp_tP N, cp_tl N)).1 (cp_tS N 2) (cp_so (cp_tn N) (cp_wk (cp_tS N) (nI (cp_tm N)) (cp_tn N) (cp_tP N, cp_tl N)).1)).1, (cp_wk (cp_tS N) (nI (cp_tm N)) (cp_tn N) (cp_tP N, cp_tl N)).2))
theorem cp_MW_eq {a b : Nat → Int32} {n : Nat} {P : cp_PP} {L : Nat → List Nat} (h : cp_MW a n P L) (hn : n ≤ 24) (e : ∀ x, 8 ≤ x → x < 374 → b x = a x) : cp_MW b n P L :=
  ⟨fun i hi f hf => (e _ (by omega) (by omega)).trans (h.1 i hi f hf), fun q hq => cp_QL_eq (h.2 q hq) (e _ (by omega) (by omega)) (fun k hk => e _ (by omega) (by omega))⟩
theorem cp_du_some {np j : Nat} {Q : cp_PP} {v : Int32} (h : cp_du np Q v = some j) : j < np ∧ Q j 0 = v ∧ ∀ i, i < j → Q i 0 ≠ v := by
  unfold cp_du at h
  rw [List.find?_range_eq_some] at h
  exact ⟨List.mem_range.mp h.2.1, of_decide_eq_true h.1, fun i hi => by simpa using h.2.2 i hi⟩
theorem cp_du_none {np : Nat} {Q : cp_PP} {v : Int32} (h : cp_du np Q v = none) : ∀ j, j < np → Q j 0 ≠ v := by
  unfold cp_du at h
  rw [List.find?_eq_none] at h
  intro j hj
  simpa using h j (List.mem_range.mpr hj)
theorem cp_cnt_eq {q q' : Nat → Bool} : ∀ {n : Nat}, (∀ j, j < n → q j = q' j) → cp_cnt q n = cp_cnt q' n
  | 0, _ => rfl
  | n + 1, h => by
    show cp_cnt q n + (if q n = true then 1 else 0) = cp_cnt q' n + (if q' n = true then 1 else 0)
    rw [cp_cnt_eq (fun j hj => h j (by omega)), h n (by omega)]
theorem cp_cnt_one {q q' : Nat → Bool} {j : Nat} : ∀ {n : Nat}, j < n → q j = false → q' j = true → (∀ i, i < n → i ≠ j → q i = q' i) → cp_cnt q' n = cp_cnt q n + 1
  | 0, h, _, _, _ => absurd h (by omega)
  | n + 1, hj, h0, h1, h => by
    show cp_cnt q' n + (if q' n = true then 1 else 0) = cp_cnt q n + (if q n = true then 1 else 0) + 1
    by_cases e : j = n
    · subst e
      rw [cp_cnt_eq (q := q') (q' := q) (fun i hi => (h i (by omega) (by omega)).symm), h0, h1]
      simp
    · rw [cp_cnt_one (n := n) (by omega) h0 h1 (fun i hi hne => h i (by omega) hne), h n (by omega) (Ne.symm e)]
      omega
/-- the plates' part when the minute has passed -/
theorem cp_MQ_none {a b : Nat → Int32} {mi np : Nat} {Q : cp_PP} (h : cp_MQ a mi np Q) (hm : mi < 100000) (hd : cp_du np Q (nI mi) = none) (e : ∀ x, (374 ≤ x ∨ x = 6 ∨ x = 7) → b x = a x) : cp_MQ b (mi + 1) np Q := by
  obtain ⟨h1, h2, h3, h4⟩ := h
  have key : ∀ j, j < np → decide ((Q j 0).toInt < ((mi + 1 : Nat) : Int)) = decide ((Q j 0).toInt < (mi : Int)) := fun j hj => by
    have hne := cp_du_none hd j hj
    obtain ⟨⟨t, ht, et⟩, -⟩ := h3 j hj
    rw [et] at hne ⊢
    have : t ≠ mi := fun z => hne (by rw [z])
    rw [nI_toInt (by omega)]
    apply decide_eq_decide.mpr
    omega
  refine ⟨h1, (e 6 (by omega)).trans h2, fun j hj => ?_, ?_⟩
  · obtain ⟨g1, g2, g3, g4, g5⟩ := h3 j hj
    exact ⟨g1, (e _ (by omega)).trans g2, by rw [e _ (by omega), g3, key j hj], (e _ (by omega)).trans g4, (e _ (by omega)).trans g5⟩
  · rw [e 7 (by omega), h4]
    congr 1
    exact cp_cnt_eq (fun j hj => (key j hj).symm)
theorem cp_MQ_some {a : Nat → Int32} {mi np j : Nat} {Q : cp_PP} {s : Int32} (h : cp_MQ a mi np Q) (hm : mi < 100000) (hV : cp_QV mi np Q) (hd : cp_du np Q (nI mi) = some j) : cp_MQ (upd (upd (upd (upd a (374 + 4 * j + 1) 1) (374 + 4 * j + 3) s) 7 (a 7 + 1)) 4 (nI (mi + 1))) (mi + 1) np (cp_wi Q j 2 s) := by
  obtain ⟨h1, h2, h3, h4⟩ := h
  obtain ⟨hj, hjv, -⟩ := cp_du_some hd
  have h0 : ∀ i, cp_wi Q j 2 s i 0 = Q i 0 := fun i => cp_wi_j _ _ _ _ (fun z => absurd z.2 (by decide))
  have key : ∀ i, i < np → i ≠ j → decide ((Q i 0).toInt < ((mi + 1 : Nat) : Int)) = decide ((Q i 0).toInt < (mi : Int)) := fun i hi hne => by
    obtain ⟨⟨t, ht, et⟩, -⟩ := h3 i hi
    have hlt : (Q i 0).toInt ≠ (Q j 0).toInt := by
      rcases Nat.lt_or_gt_of_ne hne with q | q
      · have := hV.1 i j q hj; omega
      · have := hV.1 j i q hi; omega
    rw [hjv, nI_toInt (by omega)] at hlt
    apply decide_eq_decide.mpr
    omega
  have kj0 : decide ((Q j 0).toInt < (mi : Int)) = false := by rw [hjv, nI_toInt (by omega)]; simp
  have kj1 : decide ((Q j 0).toInt < ((mi + 1 : Nat) : Int)) = true := by rw [hjv, nI_toInt (by omega)]; apply decide_eq_true; omega
  refine ⟨h1, ?_, fun i hi => ?_, ?_⟩
  · rw [cp_upd_n (by omega), cp_upd_n (by omega), cp_upd_n (by omega), cp_upd_n (by omega)]; exact h2
  · obtain ⟨g1, g2, g3, g4, g5⟩ := h3 i hi
    by_cases hij : i = j
    · subst hij
      refine ⟨by rw [h0]; exact g1, ?_, ?_, ?_, ?_⟩
      · rw [h0, cp_upd_n (by omega), cp_upd_n (by omega), cp_upd_n (by omega), cp_upd_n (by omega)]; exact g2
      · rw [h0, kj1, cp_upd_n (by omega), cp_upd_n (by omega), cp_upd_n (by omega), cp_upd_s]; rfl
      · rw [cp_wi_j _ _ _ _ (fun z => absurd z.2 (by decide)), cp_upd_n (by omega), cp_upd_n (by omega), cp_upd_n (by omega), cp_upd_n (by omega)]; exact g4
      · rw [cp_wi_s, cp_upd_n (by omega), cp_upd_n (by omega), cp_upd_s]
    · refine ⟨by rw [h0]; exact g1, ?_, ?_, ?_, ?_⟩
      · rw [h0, cp_upd_n (by omega), cp_upd_n (by omega), cp_upd_n (by omega), cp_upd_n (by omega)]; exact g2
      · rw [h0, key i hi hij, cp_upd_n (by omega), cp_upd_n (by omega), cp_upd_n (by omega), cp_upd_n (by omega)]; exact g3
      · rw [cp_wi_j _ _ _ _ (fun z => hij z.1), cp_upd_n (by omega), cp_upd_n (by omega), cp_upd_n (by omega), cp_upd_n (by omega)]; exact g4
      · rw [cp_wi_j _ _ _ _ (fun z => hij z.1), cp_upd_n (by omega), cp_upd_n (by omega), cp_upd_n (by omega), cp_upd_n (by omega)]; exact g5
  · rw [cp_upd_n (by decide), cp_upd_s, h4, nI_1]
    congr 1
    refine (cp_cnt_one (j := j) hj kj0 (by rw [h0]; exact kj1) (fun i hi hne => ?_)).symm
    rw [h0, key i hi hne]
end
section
theorem cp_sMin_0 {N : cp_Nt} (h : cp_du (cp_tp N) (cp_tQ N) (nI (cp_tm N)) = none) : cp_sMin N = (0, (cp_tS N, cp_tm N + 1, cp_tn N, (cp_wk (cp_tS N) (nI (cp_tm N)) (cp_tn N) (cp_tP N, cp_tl N)).1, cp_tp N, cp_tQ N, (cp_wk (cp_tS N) (nI (cp_tm N)) (cp_tn N) (cp_tP N, cp_tl N)).2)) := by
  unfold cp_sMin; rw [h]
theorem cp_sMin_1 {N : cp_Nt} {j : Nat} (h : cp_du (cp_tp N) (cp_tQ N) (nI (cp_tm N)) = some j) : cp_sMin N = (1, (cp_tS N, cp_tm N + 1, cp_tn N, (cp_wk (cp_tS N) (nI (cp_tm N)) (cp_tn N) (cp_tP N, cp_tl N)).1, cp_tp N, cp_wi (cp_tQ N) j 2 (cp_tk (cp_wk (cp_tS N) (nI (cp_tm N)) (cp_tn N) (cp_tP N, cp_tl N)).1 (cp_tS N 2) (cp_so (cp_tn N) (cp_wk (cp_tS N) (nI (cp_tm N)) (cp_tn N) (cp_tP N, cp_tl N)).1)).1, (cp_wk (cp_tS N) (nI (cp_tm N)) (cp_tn N) (cp_tP N, cp_tl N)).2)) := by
  unfold cp_sMin; rw [h]
theorem cp_QV_min {mi np : Nat} {Q : cp_PP} (h : cp_QV mi np Q) : cp_QV (mi + 1) np Q := ⟨h.1, fun j hj => ⟨(h.2 j hj).1, fun hn => (h.2 j hj).2 (by omega)⟩⟩
theorem cp_QV_set {mi np j : Nat} {Q : cp_PP} (h : cp_QV mi np Q) (hm : mi < 100000) (hj : Q j 0 = nI mi) (s : Int32) : cp_QV (mi + 1) np (cp_wi Q j 2 s) := by
  have h0 : ∀ i, cp_wi Q j 2 s i 0 = Q i 0 := fun i => cp_wi_j _ _ _ _ (fun z => absurd z.2 (by decide))
  refine ⟨fun i k hik hk => by rw [h0, h0]; exact h.1 i k hik hk, fun i hi => ⟨?_, fun hn => ?_⟩⟩
  · rw [cp_wi_j _ _ _ _ (fun z => absurd z.2 (by decide))]; exact (h.2 i hi).1
  · rw [h0] at hn
    have hne : i ≠ j := fun e => by
      rw [e, hj, nI_toInt (by omega)] at hn
      omega
    rw [cp_wi_j _ _ _ _ (fun z => hne z.1)]
    exact (h.2 i hi).2 (by omega)
theorem cp_NV_min {N : cp_Nt} (h : cp_NV N) (hm : cp_tm N ≤ 599) : cp_NV (cp_sMin N).2 := by
  obtain ⟨h1, h2, h3, h4, h5⟩ := h
  cases hd : cp_du (cp_tp N) (cp_tQ N) (nI (cp_tm N)) with
  | none =>
    rw [cp_sMin_0 hd]
    exact ⟨h1, by show cp_tm N + 1 ≤ 600; omega, cp_PV_wk h3, cp_PN_wk h4 h1 (by omega), cp_QV_min h5⟩
  | some j =>
    rw [cp_sMin_1 hd]
    exact ⟨h1, by show cp_tm N + 1 ≤ 600; omega, cp_PV_wk h3, cp_PN_wk h4 h1 (by omega), cp_QV_set h5 (by omega) (cp_du_some hd).2.1 _⟩
def cp_sMins : Nat → cp_Nt → Nat × cp_Nt
  | 0, N => (0, N)
  | k + 1, N => ((cp_sMins k N).1 + (if cp_du (cp_tp (cp_sMins k N).2) (cp_tQ (cp_sMins k N).2) (nI (cp_tm (cp_sMins k N).2)) = none then 0 else 1), (cp_sMin (cp_sMins k N).2).2)
theorem cp_sMin_v (N : cp_Nt) : (cp_sMin N).1 = nI (if cp_du (cp_tp N) (cp_tQ N) (nI (cp_tm N)) = none then 0 else 1) := by
  cases hd : cp_du (cp_tp N) (cp_tQ N) (nI (cp_tm N)) with
  | none => rw [cp_sMin_0 hd]; rfl
  | some j => rw [cp_sMin_1 hd]; rfl
theorem cp_sMin_m (N : cp_Nt) : cp_tm (cp_sMin N).2 = cp_tm N + 1 := by
  cases hd : cp_du (cp_tp N) (cp_tQ N) (nI (cp_tm N)) with
  | none => rw [cp_sMin_0 hd]
  | some j => rw [cp_sMin_1 hd]
theorem cp_sMins_m (N : cp_Nt) : ∀ k, cp_tm (cp_sMins k N).2 = cp_tm N + k
  | 0 => rfl
  | k + 1 => by
    show cp_tm (cp_sMin (cp_sMins k N).2).2 = _
    rw [cp_sMin_m, cp_sMins_m N k]; omega
theorem cp_sMins_V {N : cp_Nt} (h : cp_NV N) : ∀ k, cp_tm N + k ≤ 600 → cp_NV (cp_sMins k N).2
  | 0, _ => h
  | k + 1, hk => cp_NV_min (cp_sMins_V h k (by omega)) (by rw [cp_sMins_m]; omega)
/-- pass -/
def cp_sPass (N : cp_Nt) (v : Int32) : Int32 × cp_Nt := if v < 1 then (-2, N) else if nI 600 - nI (cp_tm N) < v then (-5, N) else (nI (cp_sMins v.toInt.toNat N).1, (cp_sMins v.toInt.toNat N).2)
set_option maxHeartbeats 4000000 in
set_option maxRecDepth 100000 in
theorem c_X7_passes_0 {lc : Launch} {E : cp_En} {cnt : Nat} {sh : cp_Shp} {R : cp_Rem} {J : cp_Mem} {m : Nat} {f : Nat → Int32} {r : Nat → Nat → Int32} {a : Nat → Int32} (M : cp_ML sh R m) {N : cp_Nt} (hA : cp_MA a N) (hV : cp_NV N) (hm : cp_tm N ≤ 599) (hd : cp_du (cp_tp N) (cp_tQ N) (nI (cp_tm N)) = none) : cp_Fr lc E yX7_passes cX7_passes 2 (some .int) 7 [.ref m] cnt sh (cp_ma J m f r a) R (some (.int ((cp_sMin N).1))) (fun I' => ∃ (f' a' : Nat → Int32), I' = cp_ma J m f' r a' ∧ cp_MA a' (cp_sMin N).2 ∧ ∀ k, k ≠ 7 → k ≠ 8 → f' k = f k) := by
  obtain ⟨hAS, hA4, hA5, hAW, hAQ⟩ := id hA
  obtain ⟨hVS, hVm, hVP, hVN, hVQ⟩ := id hV
  have hn24 := hVP.1
  rw [cp_sMin_0 hd]
  refine cp_Fn_iR [some (.ref m), none] (by decide +kernel) (Nat.le_of_ble_eq_true rfl) rfl rfl (fun x hxl O hr => ?_)
  subst hxl
  refine cp_aload_n O dX7_passes_0 cp_lg0 ?_
  refine cp_cVvr O me_X7_works mi_X7_works ml_X7_94 cp_cX7 M.s (c_X7_works M hAS hA4 hAW hVP) dX7_passes_1 rfl rfl ⟨Nat.le_of_ble_eq_true rfl, Nat.le_of_ble_eq_true rfl⟩ ⟨Nat.le_refl _, Nat.le_refl _⟩ (Nat.le_of_ble_eq_true rfl) (fun I1 hT1 => ?_)
  obtain ⟨a1, rfl, hW1, hx1⟩ := hT1
  refine cp_aload_n O dX7_passes_4 cp_lg0 ?_
  refine cp_aload_n O dX7_passes_5 cp_lg0 ?_
  refine fg_X7_7 O M.s M.f0 dX7_passes_6 ?_
  refine cp_iconst O dX7_passes_9 (v := 4) rfl ?_
  refine cp_ialdA O M (j := 4) rfl (by omega) dX7_passes_10 ?_
  rw [hx1 4 (by omega), hA4]
  refine cp_cVi O me_X7_due mi_X7_due ml_X7_97 cp_cX7 M.s (c_X7_due (np := cp_tp N) (Q := cp_tQ N) M hAQ.1 ((hx1 6 (by omega)).trans hAQ.2.1) (fun j hj => (hx1 _ (by omega)).trans (hAQ.2.2.1 j hj).2.1)) dX7_passes_11 rfl rfl ⟨Nat.le_of_ble_eq_true rfl, Nat.le_of_ble_eq_true rfl⟩ ⟨Nat.le_refl _, Nat.le_refl _⟩ (Nat.le_of_ble_eq_true rfl) ?_
  rw [hd, show cp_o2i none = -6 from rfl]
  refine cp_istore_n O dX7_passes_14 (by decide) (cp_ls1 rfl) ?_
  refine cp_iload_n O dX7_passes_15 cp_lg1 ?_
  refine cp_bipush O dX7_passes_16 (v := (-6)) rfl ?_
  refine cp_icmp_eq (tgt := 75) O dX7_passes_18 (by decide) (fun c_18 => ?_) (fun c_18 => ?_)
  · refine cp_aload_n O dX7_passes_75 cp_lg0 ?_
    refine fg_X7_7 O M.s M.f0 dX7_passes_76 ?_
    refine cp_iconst O dX7_passes_79 (v := 4) rfl ?_
    refine cp_dup2 O dX7_passes_80 rfl rfl ?_
    refine cp_ialdA O M (j := 4) rfl (by omega) dX7_passes_81 ?_
    refine cp_iconst O dX7_passes_82 (v := 1) rfl ?_
    refine cp_iadd O dX7_passes_83 ?_
    rw [hx1 4 (by omega), hA4, nI_1]
    refine cp_iastA O M (j := 4) rfl (by omega) dX7_passes_84 ?_
    refine cp_iload_n O dX7_passes_85 cp_lg1 ?_
    refine cp_bipush O dX7_passes_86 (v := (-6)) rfl ?_
    refine cp_icmp_ne (tgt := 95) O dX7_passes_88 (by decide) (fun c_88 => ?_) (fun c_88 => ?_)
    · exact absurd rfl c_88
    · refine cp_iconst O dX7_passes_91 (v := 0) rfl ?_
      refine cp_goto (tgt := 96) O dX7_passes_92 (by decide) ?_
      exact hr _ _ _ _ dX7_passes_96 rfl ⟨f, _, rfl, ⟨fun k hk => by rw [cp_upd_n (by omega), hx1 k (by omega)]; exact hAS k hk, cp_upd_s, by rw [cp_upd_n (by omega), hx1 5 (by omega)]; exact hA5, cp_MW_eq hW1 hn24 (fun x h1 h2 => cp_upd_n (by omega)), cp_MQ_none hAQ (by omega) hd (fun x hx => by rw [cp_upd_n (by omega), hx1 x (by omega)])⟩, fun _ _ _ => rfl⟩
  · exact absurd rfl c_18
theorem cp_MQ_of {a b : Nat → Int32} {mi np : Nat} {Q : cp_PP} (h : cp_MQ a mi np Q) (e : ∀ x, (374 ≤ x ∨ x = 6 ∨ x = 7) → b x = a x) : cp_MQ b mi np Q :=
  ⟨h.1, (e 6 (by omega)).trans h.2.1, fun j hj => ⟨(h.2.2.1 j hj).1, (e _ (by omega)).trans (h.2.2.1 j hj).2.1, (e _ (by omega)).trans (h.2.2.1 j hj).2.2.1, (e _ (by omega)).trans (h.2.2.1 j hj).2.2.2.1, (e _ (by omega)).trans (h.2.2.1 j hj).2.2.2.2⟩, (e 7 (by omega)).trans h.2.2.2⟩
set_option maxHeartbeats 4000000 in
set_option maxRecDepth 100000 in
theorem c_X7_passes_1 {lc : Launch} {E : cp_En} {cnt : Nat} {sh : cp_Shp} {R : cp_Rem} {J : cp_Mem} {m : Nat} {f : Nat → Int32} {r : Nat → Nat → Int32} {a : Nat → Int32} (M : cp_ML sh R m) {N : cp_Nt} (hA : cp_MA a N) (hV : cp_NV N) {j : Nat} (hm : cp_tm N ≤ 599) (hd : cp_du (cp_tp N) (cp_tQ N) (nI (cp_tm N)) = some j) : cp_Fr lc E yX7_passes cX7_passes 2 (some .int) 7 [.ref m] cnt sh (cp_ma J m f r a) R (some (.int ((cp_sMin N).1))) (fun I' => ∃ (f' a' : Nat → Int32), I' = cp_ma J m f' r a' ∧ cp_MA a' (cp_sMin N).2 ∧ ∀ k, k ≠ 7 → k ≠ 8 → f' k = f k) := by
  obtain ⟨hAS, hA4, hA5, hAW, hAQ⟩ := id hA
  obtain ⟨hVS, hVm, hVP, hVN, hVQ⟩ := id hV
  have hn24 := hVP.1
  rw [cp_sMin_1 hd]
  obtain ⟨hj, hjv, -⟩ := cp_du_some hd
  have hj8 : j < 8 := Nat.lt_of_lt_of_le hj hAQ.1
  refine cp_Fn_iR [some (.ref m), none] (by decide +kernel) (Nat.le_of_ble_eq_true rfl) rfl rfl (fun x hxl O hr => ?_)
  subst hxl
  refine cp_aload_n O dX7_passes_0 cp_lg0 ?_
  refine cp_cVvr O me_X7_works mi_X7_works ml_X7_94 cp_cX7 M.s (c_X7_works M hAS hA4 hAW hVP) dX7_passes_1 rfl rfl ⟨Nat.le_of_ble_eq_true rfl, Nat.le_of_ble_eq_true rfl⟩ ⟨Nat.le_refl _, Nat.le_refl _⟩ (Nat.le_of_ble_eq_true rfl) (fun I1 hT1 => ?_)
  obtain ⟨a1, rfl, hW1, hx1⟩ := hT1
  refine cp_aload_n O dX7_passes_4 cp_lg0 ?_
  refine cp_aload_n O dX7_passes_5 cp_lg0 ?_
  refine fg_X7_7 O M.s M.f0 dX7_passes_6 ?_
  refine cp_iconst O dX7_passes_9 (v := 4) rfl ?_
  refine cp_ialdA O M (j := 4) rfl (by omega) dX7_passes_10 ?_
  rw [hx1 4 (by omega), hA4]
  refine cp_cVi O me_X7_due mi_X7_due ml_X7_97 cp_cX7 M.s (c_X7_due (np := cp_tp N) (Q := cp_tQ N) M hAQ.1 ((hx1 6 (by omega)).trans hAQ.2.1) (fun j hj => (hx1 _ (by omega)).trans (hAQ.2.2.1 j hj).2.1)) dX7_passes_11 rfl rfl ⟨Nat.le_of_ble_eq_true rfl, Nat.le_of_ble_eq_true rfl⟩ ⟨Nat.le_refl _, Nat.le_refl _⟩ (Nat.le_of_ble_eq_true rfl) ?_
  rw [hd, show cp_o2i (some j) = nI j from rfl]
  refine cp_istore_n O dX7_passes_14 (by decide) (cp_ls1 rfl) ?_
  refine cp_iload_n O dX7_passes_15 cp_lg1 ?_
  refine cp_bipush O dX7_passes_16 (v := (-6)) rfl ?_
  refine cp_icmp_eq (tgt := 75) O dX7_passes_18 (by decide) (fun c_18 => ?_) (fun c_18 => ?_)
  · exact absurd c_18 (cp_nm6 (by omega))
  · refine cp_aload_n O dX7_passes_21 cp_lg0 ?_
    refine cp_aload_n O dX7_passes_22 cp_lg0 ?_
    refine fg_X7_7 O M.s M.f0 dX7_passes_23 ?_
    refine cp_iconst O dX7_passes_26 (v := 2) rfl ?_
    refine cp_ialdA O M (j := 2) rfl (by omega) dX7_passes_27 ?_
    rw [hx1 2 (by omega), hAS 2 (by decide)]
    refine cp_cVv O me_X7_takes mi_X7_takes ml_X7_100 cp_cX7 M.s (c_X7_takes M hn24 hW1.1 (cp_PN_wk hVN hVS (by omega)) ((hx1 5 (by omega)).trans hA5)) dX7_passes_28 rfl rfl ⟨Nat.le_of_ble_eq_true rfl, Nat.le_of_ble_eq_true rfl⟩ ⟨Nat.le_refl _, Nat.le_refl _⟩ (Nat.le_of_ble_eq_true rfl) ?_
    refine cp_aload_n O dX7_passes_31 cp_lg0 ?_
    refine fg_X7_7 O M.s M.f0 dX7_passes_32 ?_
    refine cp_sipush O dX7_passes_35 (v := 374) rfl ?_
    refine cp_iconst O dX7_passes_38 (v := 4) rfl ?_
    refine cp_iload_n O dX7_passes_39 cp_lg1 ?_
    refine cp_imul O dX7_passes_40 ?_
    refine cp_iadd O dX7_passes_41 ?_
    refine cp_iconst O dX7_passes_42 (v := 1) rfl ?_
    refine cp_iadd O dX7_passes_43 ?_
    refine cp_iconst O dX7_passes_44 (v := 1) rfl ?_
    refine cp_iastA O M (j := ((374 + (4 * j)) + 1)) (cp_ad (cp_ad rfl (cp_mu rfl rfl)) rfl) (by omega) dX7_passes_45 ?_
    refine cp_aload_n O dX7_passes_46 cp_lg0 ?_
    refine fg_X7_7 O M.s M.f0 dX7_passes_47 ?_
    refine cp_sipush O dX7_passes_50 (v := 374) rfl ?_
    refine cp_iconst O dX7_passes_53 (v := 4) rfl ?_
    refine cp_iload_n O dX7_passes_54 cp_lg1 ?_
    refine cp_imul O dX7_passes_55 ?_
    refine cp_iadd O dX7_passes_56 ?_
    refine cp_iconst O dX7_passes_57 (v := 3) rfl ?_
    refine cp_iadd O dX7_passes_58 ?_
    refine cp_aload_n O dX7_passes_59 cp_lg0 ?_
    refine mg_X7_76 O M dX7_passes_60 ?_
    rw [cp_tf_7]
    refine cp_iastA O M (j := ((374 + (4 * j)) + 3)) (cp_ad (cp_ad rfl (cp_mu rfl rfl)) rfl) (by omega) dX7_passes_63 ?_
    refine cp_aload_n O dX7_passes_64 cp_lg0 ?_
    refine fg_X7_7 O M.s M.f0 dX7_passes_65 ?_
    refine cp_bipush O dX7_passes_68 (v := 7) rfl ?_
    refine cp_dup2 O dX7_passes_70 rfl rfl ?_
    refine cp_ialdA O M (j := 7) rfl (by omega) dX7_passes_71 ?_
    refine cp_iconst O dX7_passes_72 (v := 1) rfl ?_
    refine cp_iadd O dX7_passes_73 ?_
    rw [cp_upd_n (show 7 ≠ 374 + 4 * j + 3 by omega), cp_upd_n (show 7 ≠ 374 + 4 * j + 1 by omega)]
    refine cp_iastA O M (j := 7) rfl (by omega) dX7_passes_74 ?_
    refine cp_aload_n O dX7_passes_75 cp_lg0 ?_
    refine fg_X7_7 O M.s M.f0 dX7_passes_76 ?_
    refine cp_iconst O dX7_passes_79 (v := 4) rfl ?_
    refine cp_dup2 O dX7_passes_80 rfl rfl ?_
    refine cp_ialdA O M (j := 4) rfl (by omega) dX7_passes_81 ?_
    refine cp_iconst O dX7_passes_82 (v := 1) rfl ?_
    refine cp_iadd O dX7_passes_83 ?_
    rw [cp_upd_n (show 4 ≠ 7 by decide), cp_upd_n (show 4 ≠ 374 + 4 * j + 3 by omega), cp_upd_n (show 4 ≠ 374 + 4 * j + 1 by omega), hx1 4 (by omega), hA4, nI_1]
    refine cp_iastA O M (j := 4) rfl (by omega) dX7_passes_84 ?_
    refine cp_iload_n O dX7_passes_85 cp_lg1 ?_
    refine cp_bipush O dX7_passes_86 (v := (-6)) rfl ?_
    refine cp_icmp_ne (tgt := 95) O dX7_passes_88 (by decide) (fun c_88 => ?_) (fun c_88 => ?_)
    · refine cp_iconst O dX7_passes_95 (v := 1) rfl ?_
      exact hr _ _ _ _ dX7_passes_96 rfl ⟨_, _, rfl, ⟨fun k hk => by rw [cp_upd_n (by omega), cp_upd_n (by omega), cp_upd_n (by omega), cp_upd_n (by omega), hx1 k (by omega)]; exact hAS k hk, cp_upd_s, by rw [cp_upd_n (by omega), cp_upd_n (by omega), cp_upd_n (by omega), cp_upd_n (by omega), hx1 5 (by omega)]; exact hA5, cp_MW_eq hW1 hn24 (fun x h1 h2 => by rw [cp_upd_n (by omega), cp_upd_n (by omega), cp_upd_n (by omega), cp_upd_n (by omega)]), cp_MQ_some (cp_MQ_of hAQ (fun x hx => hx1 x (by omega))) (by omega) hVQ hd⟩, fun k h7 h8 => cp_tf_o _ _ h7 h8⟩
    · exact absurd c_88 (cp_nm6 (by omega))
theorem c_X7_passes {lc : Launch} {E : cp_En} {cnt : Nat} {sh : cp_Shp} {R : cp_Rem} {J : cp_Mem} {m : Nat} {f : Nat → Int32} {r : Nat → Nat → Int32} {a : Nat → Int32} (M : cp_ML sh R m) {N : cp_Nt} (hA : cp_MA a N) (hV : cp_NV N) (hm : cp_tm N ≤ 599) : cp_Fr lc E yX7_passes cX7_passes 2 (some .int) 7 [.ref m] cnt sh (cp_ma J m f r a) R (some (.int (cp_sMin N).1)) (fun I' => ∃ (f' a' : Nat → Int32), I' = cp_ma J m f' r a' ∧ cp_MA a' (cp_sMin N).2 ∧ ∀ k, k ≠ 7 → k ≠ 8 → f' k = f k) := by
  cases hd : cp_du (cp_tp N) (cp_tQ N) (nI (cp_tm N)) with
  | none => exact c_X7_passes_0 M hA hV hm hd
  | some j => exact c_X7_passes_1 M hA hV hm hd
end
section
theorem cp_sPass_ok {N : cp_Nt} {c : Nat} (h1 : 1 ≤ c) (h2 : cp_tm N + c ≤ 600) : cp_sPass N (nI c) = (nI (cp_sMins c N).1, (cp_sMins c N).2) := by
  unfold cp_sPass
  rw [if_neg (by rw [show (1 : Int32) = nI 1 from rfl, nI_ltI (by omega) (by omega)]; omega), pk_sub (by omega), if_neg (by rw [nI_ltI (by omega) (by omega)]; omega), nI_toInt (by omega)]
  rfl
theorem cp_pass_c {N : cp_Nt} {v : Int32} (hm : cp_tm N ≤ 600) (h1 : 1 ≤ v) (h2 : v ≤ 600 - nI (cp_tm N)) : ∃ c, v = nI c ∧ 1 ≤ c ∧ cp_tm N + c ≤ 600 := by
  have h3 : (600 : Int32) - nI (cp_tm N) = nI (600 - cp_tm N) := pk_sub (a := 600) hm
  rw [h3, Int32.le_iff_toInt_le, nI_toInt (by omega)] at h2
  rw [Int32.le_iff_toInt_le, show (1 : Int32).toInt = 1 from rfl] at h1
  refine ⟨v.toInt.toNat, ?_, by omega, by omega⟩
  apply Int32.toInt_inj.mp
  rw [nI_toInt (by omega)]
  omega
set_option maxHeartbeats 4000000 in
set_option maxRecDepth 100000 in
theorem c_X7_doPass {lc : Launch} {E : cp_En} {cnt : Nat} {sh : cp_Shp} {R : cp_Rem} {J : cp_Mem} {m : Nat} {f : Nat → Int32} {r : Nat → Nat → Int32} {a : Nat → Int32} (M : cp_ML sh R m) {N : cp_Nt} (hA : cp_MA a N) (hV : cp_NV N) {v1 : Int32} : cp_Fr lc E yX7_doPass cX7_doPass 4 (some .int) 8 [.ref m, .int v1] cnt sh (cp_ma J m f r a) R (some (.int ((cp_sPass N v1).1))) (fun I' => ∃ (f' a' : Nat → Int32), I' = cp_ma J m f' r a' ∧ cp_MA a' (cp_sPass N v1).2 ∧ ∀ k, k ≠ 7 → k ≠ 8 → f' k = f k) := by
  have hm6 := hV.2.1
  refine cp_Fn_iR [some (.ref m), some (.int v1), none, none] (by decide +kernel) (Nat.le_of_ble_eq_true rfl) rfl rfl (fun x hxl O hr => ?_)
  subst hxl
  refine cp_iload_n O dX7_doPass_0 cp_lg1 ?_
  refine cp_iconst O dX7_doPass_1 (v := 1) rfl ?_
  refine cp_icmp_ge (tgt := 8) O dX7_doPass_2 (by decide) (fun c_2 => ?_) (fun c_2 => ?_)
  · refine cp_iload_n O dX7_doPass_8 cp_lg1 ?_
    refine cp_sipush O dX7_doPass_9 (v := 600) rfl ?_
    refine cp_aload_n O dX7_doPass_12 cp_lg0 ?_
    refine fg_X7_7 O M.s M.f0 dX7_doPass_13 ?_
    refine cp_iconst O dX7_doPass_16 (v := 4) rfl ?_
    refine cp_ialdA O M (j := 4) rfl (by omega) dX7_doPass_17 ?_
    rw [hA.2.1]
    refine cp_isub O dX7_doPass_18 ?_
    refine cp_icmp_le (tgt := 25) O dX7_doPass_19 (by decide) (fun c_19 => ?_) (fun c_19 => ?_)
    · obtain ⟨c, rfl, hc1, hc2⟩ := cp_pass_c hm6 c_2 c_19
      rw [cp_sPass_ok hc1 hc2] at hr
      refine cp_iconst O dX7_doPass_25 (v := 0) rfl ?_
      refine cp_istore_n O dX7_doPass_26 (by decide) (cp_ls2 rfl) ?_
      refine cp_iconst O dX7_doPass_27 (v := 0) rfl ?_
      refine cp_istore_n O dX7_doPass_28 (by decide) (cp_ls3 rfl) ?_
      have loop29 : ∀ k, k ≤ c → ∀ f1 a1 : Nat → Int32, cp_MA a1 (cp_sMins k N).2 → (∀ q, q ≠ 7 → q ≠ 8 → f1 q = f q) → cp_G x E 4 0 0 cnt sh (cp_ma J m f1 r a1) R 29 [some (.ref m), some (.int (nI c)), some (.int (nI (cp_sMins k N).1)), some (.int (nI k))] [] := by
        refine cp_up (fun k hk ih f1 a1 hA1 hf1 => ?_)
        have hmk := cp_sMins_m N k
        refine cp_iload_n O dX7_doPass_29 cp_lg3 ?_
        refine cp_iload_n O dX7_doPass_30 cp_lg1 ?_
        refine cp_icmp_geN (tgt := 47) O dX7_doPass_31 (by decide) (a := k) (b := c) rfl rfl (by omega) (by omega) (fun c_31 => ?_) (fun c_31 => ?_)
        · obtain rfl : c = k := by omega
          refine cp_iload_n O dX7_doPass_47 cp_lg2 ?_
          exact hr _ _ _ _ dX7_doPass_48 rfl ⟨f1, a1, rfl, hA1, hf1⟩
        · refine cp_iload_n O dX7_doPass_34 cp_lg2 ?_
          refine cp_aload_n O dX7_doPass_35 cp_lg0 ?_
          refine cp_cVir O me_X7_passes mi_X7_passes ml_X7_124 cp_cX7 M.s (c_X7_passes (N := (cp_sMins k N).2) M hA1 (cp_sMins_V hV k (by omega)) (by omega)) dX7_doPass_36 rfl rfl ⟨Nat.le_of_ble_eq_true rfl, Nat.le_of_ble_eq_true rfl⟩ ⟨Nat.le_refl _, Nat.le_refl _⟩ (Nat.le_of_ble_eq_true rfl) (fun I36 hT36 => ?_)
          refine cp_iadd O dX7_doPass_39 ?_
          refine cp_istore_n O dX7_doPass_40 (by decide) (cp_ls2 rfl) ?_
          refine cp_iinc O dX7_doPass_41 cp_lg3 (cp_inc rfl) (by decide) (cp_ls3 rfl) ?_
          refine cp_goto (tgt := 29) O dX7_doPass_44 (by decide) ?_
          obtain ⟨f2, a2, rfl, hA2, hf2⟩ := hT36
          rw [cp_sMin_v, nI_add]
          exact ih c_31 f2 a2 hA2 (fun q h7 h8 => (hf2 q h7 h8).trans (hf1 q h7 h8))
      exact loop29 0 (Nat.zero_le _) f a hA (fun _ _ _ => rfl)
    · have e : cp_sPass N v1 = (-5, N) := by
        unfold cp_sPass
        rw [if_neg (Int32.not_lt.mpr c_2)]
        exact if_pos (Int32.not_le.mp c_19)
      rw [e] at hr
      refine cp_bipush O dX7_doPass_22 (v := (-5)) rfl ?_
      exact hr _ _ _ _ dX7_doPass_24 rfl ⟨f, a, rfl, hA, fun _ _ _ => rfl⟩
  · have e : cp_sPass N v1 = (-2, N) := by
      unfold cp_sPass
      rw [if_pos (Int32.not_le.mp c_2)]
    rw [e] at hr
    refine cp_bipush O dX7_doPass_5 (v := (-2)) rfl ?_
    exact hr _ _ _ _ dX7_doPass_7 rfl ⟨f, a, rfl, hA, fun _ _ _ => rfl⟩
/-- hold -/
def cp_sHold (N : cp_Nt) (v : Int32) : Int32 × cp_Nt := if cp_ip (cp_tn N) v = true then (if cp_tP N v.toInt.toNat 4 = 3 then (-5, N) else (1 - cp_tP N v.toInt.toNat 5, (cp_tS N, cp_tm N, cp_tn N, cp_wi (cp_tP N) v.toInt.toNat 5 (1 - cp_tP N v.toInt.toNat 5), cp_tp N, cp_tQ N, cp_tl N))) else (-1, N)
theorem cp_nIt {p : Nat} (h : p < 2 ^ 31) : (nI p).toInt.toNat = p := by rw [nI_toInt h]; rfl
theorem cp_LL_wi {n : Nat} {P : cp_PP} {lq : List Nat} {i f : Nat} {v : Int32} (h4 : f ≠ 4) (h0 : f ≠ 0) (q : Nat) : cp_LL n (cp_wi P i f v) lq q = cp_LL n P lq q := by
  unfold cp_LL
  rw [cp_dq_wi _ _ _ _ _ _ h4 h0]
set_option maxHeartbeats 4000000 in
set_option maxRecDepth 100000 in
theorem c_X7_doHold {lc : Launch} {E : cp_En} {cnt : Nat} {sh : cp_Shp} {R : cp_Rem} {J : cp_Mem} {m : Nat} {f : Nat → Int32} {r : Nat → Nat → Int32} {a : Nat → Int32} (M : cp_ML sh R m) {N : cp_Nt} (hA : cp_MA a N) (hV : cp_NV N) {v1 : Int32} : cp_Fr lc E yX7_doHold cX7_doHold 2 (some .int) 2 [.ref m, .int v1] cnt sh (cp_ma J m f r a) R (some (.int ((cp_sHold N v1).1))) (fun I' => ∃ a', I' = cp_ma J m f r a' ∧ cp_MA a' (cp_sHold N v1).2) := by
  obtain ⟨hAS, hA4, hA5, hAW, hAQ⟩ := id hA
  obtain ⟨hVS, hVm, hVP, hVN, hVQ⟩ := id hV
  have hn24 := hVP.1
  refine cp_Fn_iR [some (.ref m), some (.int v1)] (by decide +kernel) (Nat.le_of_ble_eq_true rfl) rfl rfl (fun x hxl O hr => ?_)
  subst hxl
  refine cp_aload_n O dX7_doHold_0 cp_lg0 ?_
  refine cp_iload_n O dX7_doHold_1 cp_lg1 ?_
  refine cp_cVi O me_X7_isPiece mi_X7_isPiece ml_X7_114 cp_cX7 M.s (c_X7_isPiece (n := cp_tn N) M hA5 hn24) dX7_doHold_2 rfl rfl ⟨Nat.le_of_ble_eq_true rfl, Nat.le_of_ble_eq_true rfl⟩ ⟨Nat.le_refl _, Nat.le_refl _⟩ (Nat.le_of_ble_eq_true rfl) ?_
  refine cp_if_neB (tgt := 10) O dX7_doHold_5 (by decide) (fun c_5 => ?_) (fun c_5 => ?_)
  · obtain ⟨p, hp, rfl⟩ := (cp_ip_iff (by omega)).mp c_5
    have hpp := hAW.1 p hp
    refine cp_aload_n O dX7_doHold_10 cp_lg0 ?_
    refine cp_iload_n O dX7_doHold_11 cp_lg1 ?_
    refine cp_iconst O dX7_doHold_12 (v := 4) rfl ?_
    refine cp_cVi O me_X7_of mi_X7_of ml_X7_39 cp_cX7 M.s (c_X7_ofe (w := cp_tP N p 4) (p := p) (q := 4) M rfl rfl (by omega) (by omega) (hpp 4 (by decide))) dX7_doHold_13 rfl rfl ⟨Nat.le_of_ble_eq_true rfl, Nat.le_of_ble_eq_true rfl⟩ ⟨Nat.le_refl _, Nat.le_refl _⟩ (Nat.le_of_ble_eq_true rfl) ?_
    refine cp_iconst O dX7_doHold_16 (v := 3) rfl ?_
    refine cp_icmp_ne (tgt := 23) O dX7_doHold_17 (by decide) (fun c_17 => ?_) (fun c_17 => ?_)
    · have e : cp_sHold N (nI p) = (1 - cp_tP N p 5, (cp_tS N, cp_tm N, cp_tn N, cp_wi (cp_tP N) p 5 (1 - cp_tP N p 5), cp_tp N, cp_tQ N, cp_tl N)) := by
        unfold cp_sHold
        rw [if_pos c_5, cp_nIt (by omega), if_neg c_17]
      rw [e] at hr
      refine cp_aload_n O dX7_doHold_23 cp_lg0 ?_
      refine cp_iload_n O dX7_doHold_24 cp_lg1 ?_
      refine cp_iconst O dX7_doHold_25 (v := 5) rfl ?_
      refine cp_iconst O dX7_doHold_26 (v := 1) rfl ?_
      refine cp_aload_n O dX7_doHold_27 cp_lg0 ?_
      refine cp_iload_n O dX7_doHold_28 cp_lg1 ?_
      refine cp_iconst O dX7_doHold_29 (v := 5) rfl ?_
      refine cp_cVi O me_X7_of mi_X7_of ml_X7_39 cp_cX7 M.s (c_X7_ofe (w := cp_tP N p 5) (p := p) (q := 5) M rfl rfl (by omega) (by omega) (hpp 5 (by decide))) dX7_doHold_30 rfl rfl ⟨Nat.le_of_ble_eq_true rfl, Nat.le_of_ble_eq_true rfl⟩ ⟨Nat.le_refl _, Nat.le_refl _⟩ (Nat.le_of_ble_eq_true rfl) ?_
      refine cp_isub O dX7_doHold_33 ?_
      refine cp_cVv O me_X7_sets mi_X7_sets ml_X7_53 cp_cX7 M.s (c_X7_sets (p := p) (q := 5) M rfl rfl (by omega) (by omega)) dX7_doHold_34 rfl rfl ⟨Nat.le_of_ble_eq_true rfl, Nat.le_of_ble_eq_true rfl⟩ ⟨Nat.le_refl _, Nat.le_refl _⟩ (Nat.le_of_ble_eq_true rfl) ?_
      refine cp_aload_n O dX7_doHold_37 cp_lg0 ?_
      refine cp_iload_n O dX7_doHold_38 cp_lg1 ?_
      refine cp_iconst O dX7_doHold_39 (v := 5) rfl ?_
      refine cp_cVi O me_X7_of mi_X7_of ml_X7_39 cp_cX7 M.s (c_X7_ofe (w := 1 - cp_tP N p 5) (p := p) (q := 5) M rfl rfl (by omega) (by omega) cp_upd_s) dX7_doHold_40 rfl rfl ⟨Nat.le_of_ble_eq_true rfl, Nat.le_of_ble_eq_true rfl⟩ ⟨Nat.le_refl _, Nat.le_refl _⟩ (Nat.le_of_ble_eq_true rfl) ?_
      exact hr _ _ _ _ dX7_doHold_43 rfl ⟨_, rfl, fun k hk => by rw [cp_upd_n (by omega)]; exact hAS k hk, by rw [cp_upd_n (by omega)]; exact hA4, by rw [cp_upd_n (by omega)]; exact hA5, cp_MW_L (cp_MW_set hAW hn24 hp (by decide) _) (fun q hq => cp_LL_wi (by decide) (by decide) q), cp_MQ_of hAQ (fun x hx => cp_upd_n (by omega))⟩
    · have e : cp_sHold N (nI p) = (-5, N) := by
        unfold cp_sHold
        rw [if_pos c_5, cp_nIt (by omega), if_pos c_17]
      rw [e] at hr
      refine cp_bipush O dX7_doHold_20 (v := (-5)) rfl ?_
      exact hr _ _ _ _ dX7_doHold_22 rfl ⟨a, rfl, hA⟩
  · have e : cp_sHold N v1 = (-1, N) := by
      unfold cp_sHold
      rw [if_neg (by rw [c_5]; decide)]
    rw [e] at hr
    refine cp_iconst O dX7_doHold_8 (v := (-1)) rfl ?_
    exact hr _ _ _ _ dX7_doHold_9 rfl ⟨a, rfl, hA⟩
/-- piece -/
def cp_rg (l h : Int) (v : Int32) : Bool := decide (l ≤ v.toInt ∧ v.toInt ≤ h)
theorem cp_in_rg {lo hi : Int64} {l h : Int} (hl : lo.toInt = l) (hh : hi.toInt = h) {v : Int32} : decide (lo ≤ v.toInt64 ∧ v.toInt64 ≤ hi) = cp_rg l h v := by
  unfold cp_rg
  apply decide_eq_decide.mpr
  rw [Int64.le_iff_toInt_le, Int64.le_iff_toInt_le, Int32.toInt_toInt64, hl, hh]
theorem cp_rg_nI {l h : Nat} {v : Int32} (hr : cp_rg l h v = true) : ∃ k, l ≤ k ∧ k ≤ h ∧ v = nI k := by
  unfold cp_rg at hr
  have h1 := of_decide_eq_true hr
  have h2 : v.toInt < 2 ^ 31 := Int32.toInt_lt v
  refine ⟨v.toInt.toNat, by omega, by omega, ?_⟩
  apply Int32.toInt_inj.mp
  rw [nI_toInt (by omega)]
  omega
def cp_np (d l r g : Int32) : Nat → Int32 := fun f => if f = 0 then d else if f = 1 then l else if f = 2 then r else if f = 3 then g else if f = 8 then -6 else 0
def cp_sPiece (N : cp_Nt) (d l r g : Int32) : Int32 × cp_Nt := if cp_rg 0 4 d = true then (if (cp_rg 1 99 l && cp_rg 0 9 r && cp_rg 0 1 g) = true then (if cp_tn N = 24 then (-4, N) else (nI (cp_tn N), (cp_tS N, cp_tm N, cp_tn N + 1, cp_row (cp_tP N) (cp_tn N) (cp_np d l r g), cp_tp N, cp_tQ N, cp_tl N))) else (-2, N)) else (-1, N)
def cp_z (a : Nat → Int32) (n k : Nat) : Nat → Int32 := fun x => if 158 + 9 * n ≤ x ∧ x < 158 + 9 * n + k then 0 else a x
theorem cp_z_0 (a : Nat → Int32) (n : Nat) : cp_z a n 0 = a := by funext x; unfold cp_z; rw [if_neg (by omega)]
theorem cp_z_s (a : Nat → Int32) (n k : Nat) : upd (cp_z a n k) (158 + 9 * n + k) 0 = cp_z a n (k + 1) := by
  funext x
  unfold upd cp_z
  by_cases h : x = 158 + 9 * n + k
  · rw [if_pos h, if_pos (by omega)]
  · rw [if_neg h]
    by_cases h2 : 158 + 9 * n ≤ x ∧ x < 158 + 9 * n + k
    · rw [if_pos h2, if_pos (by omega)]
    · rw [if_neg h2, if_neg (by omega)]
def cp_pz (a : Nat → Int32) (n : Nat) (d l r g : Int32) : Nat → Int32 := upd (upd (upd (upd (upd (cp_z (upd a 5 (nI (n + 1))) n 9) (158 + 9 * n + 0) d) (158 + 9 * n + 1) l) (158 + 9 * n + 2) r) (158 + 9 * n + 3) g) (158 + 9 * n + 8) (-6)
theorem cp_pz_o (a : Nat → Int32) (n : Nat) (d l r g : Int32) {x : Nat} (h : x < 158 + 9 * n ∨ 158 + 9 * n + 9 ≤ x) (h5 : x ≠ 5) : cp_pz a n d l r g x = a x := by
  unfold cp_pz
  rw [cp_upd_n (by omega), cp_upd_n (by omega), cp_upd_n (by omega), cp_upd_n (by omega), cp_upd_n (by omega)]
  unfold cp_z
  rw [if_neg (by omega), cp_upd_n h5]
theorem cp_pz_f (a : Nat → Int32) (n : Nat) (d l r g : Int32) {f : Nat} (h : f < 9) : cp_pz a n d l r g (158 + 9 * n + f) = cp_np d l r g f := by
  unfold cp_pz cp_np
  rcases (show f = 0 ∨ f = 1 ∨ f = 2 ∨ f = 3 ∨ f = 8 ∨ (4 ≤ f ∧ f ≤ 7) by omega) with h | h | h | h | h | h
  · subst h; rw [cp_upd_n (by omega), cp_upd_n (by omega), cp_upd_n (by omega), cp_upd_n (by omega), cp_upd_s]; rfl
  · subst h; rw [cp_upd_n (by omega), cp_upd_n (by omega), cp_upd_n (by omega), cp_upd_s]; rfl
  · subst h; rw [cp_upd_n (by omega), cp_upd_n (by omega), cp_upd_s]; rfl
  · subst h; rw [cp_upd_n (by omega), cp_upd_s]; rfl
  · subst h; rw [cp_upd_s]; rfl
  · rw [cp_upd_n (by omega), cp_upd_n (by omega), cp_upd_n (by omega), cp_upd_n (by omega), cp_upd_n (by omega), if_neg (by omega), if_neg (by omega), if_neg (by omega), if_neg (by omega), if_neg (by omega)]
    unfold cp_z
    rw [if_pos (by omega)]
theorem cp_dq_add {n : Nat} {P : cp_PP} {d : Int32} {l r g : Int32} {k : Nat} (hd : d = nI k) (hk : k < 5) {q : Nat} (hq : q < 5) : cp_dq (n + 1) (cp_row P n (cp_np d l r g)) q = if q = k then cp_dq n P q ++ [n] else cp_dq n P q := by
  unfold cp_dq
  rw [List.range_succ, List.filter_append]
  have e1 : (List.range n).filter (fun i => decide (cp_row P n (cp_np d l r g) i 4 = 0) && decide (cp_row P n (cp_np d l r g) i 0 = nI q)) = (List.range n).filter (fun i => decide (P i 4 = 0) && decide (P i 0 = nI q)) := by
    apply List.filter_congr
    intro i hi
    have hi := List.mem_range.mp hi
    rw [cp_row_n P _ (by omega)]
  rw [e1]
  have e2 : (decide (cp_row P n (cp_np d l r g) n 4 = 0) && decide (cp_row P n (cp_np d l r g) n 0 = nI q)) = decide (q = k) := by
    rw [cp_row_s, show cp_np d l r g 4 = 0 from rfl, show cp_np d l r g 0 = d from rfl, hd]
    simp only [decide_true, Bool.true_and]
    apply decide_eq_decide.mpr
    rw [nI_eq (by omega) (by omega)]
    exact eq_comm
  by_cases h : q = k
  · rw [if_pos h, List.filter_cons_of_pos (by rw [e2]; simpa using h)]; rfl
  · rw [if_neg h, List.filter_cons_of_neg (by rw [e2]; simpa using h)]; simp
theorem cp_MA_piece {a : Nat → Int32} {N : cp_Nt} (hA : cp_MA a N) (hV : cp_NV N) {d l r g : Int32} {k : Nat} (hd : d = nI k) (hk : k < 5) (hn : cp_tn N < 24) :
    cp_MA (cp_cm (cp_pz a (cp_tn N) d l r g) k (cp_dq (cp_tn N) (cp_tP N) k).length (cp_tn N)) (cp_tS N, cp_tm N, cp_tn N + 1, cp_row (cp_tP N) (cp_tn N) (cp_np d l r g), cp_tp N, cp_tQ N, cp_tl N) := by
  obtain ⟨hAS, hA4, hA5, hAW, hAQ⟩ := hA
  have hle := cp_dq_le (cp_tn N) (cp_tP N) k
  have hq := hAW.2
  refine ⟨fun j hj => ?_, ?_, ?_, ⟨fun i hi f hf => ?_, fun q hq6 => ?_⟩, cp_MQ_of hAQ fun x hx => ?_⟩
  · rw [cp_cm_hi (by omega) (by omega) (by omega), cp_pz_o _ _ _ _ _ _ (by omega) (by omega)]; exact hAS j hj
  · rw [cp_cm_hi (by omega) (by omega) (by omega), cp_pz_o _ _ _ _ _ _ (by omega) (by omega)]; exact hA4
  · rw [cp_cm_hi (by omega) (by omega) (by omega)]
    unfold cp_pz
    rw [cp_upd_n (by omega), cp_upd_n (by omega), cp_upd_n (by omega), cp_upd_n (by omega), cp_upd_n (by omega)]
    unfold cp_z
    rw [if_neg (by omega), cp_upd_s]
  · have hi2 : i < cp_tn N + 1 := hi
    rw [cp_cm_hi (by omega) (by omega) (by omega)]
    show _ = cp_row (cp_tP N) (cp_tn N) (cp_np d l r g) i f
    by_cases hin : i = cp_tn N
    · subst hin
      rw [cp_pz_f _ _ _ _ _ _ hf, cp_row_s]
    · rw [cp_pz_o _ _ _ _ _ _ (by omega) (by omega), cp_row_n _ _ hin]
      exact hAW.1 i (by omega) f hf
  · show cp_QL _ q (cp_LL (cp_tn N + 1) (cp_row (cp_tP N) (cp_tn N) (cp_np d l r g)) (cp_tl N) q)
    have h1 : cp_QL (cp_pz a (cp_tn N) d l r g) q (cp_LL (cp_tn N) (cp_tP N) (cp_tl N) q) := cp_QL_eq (hq q hq6) (cp_pz_o _ _ _ _ _ _ (by omega) (by omega)) (fun j hj => cp_pz_o _ _ _ _ _ _ (by omega) (by omega))
    by_cases h5 : q = 5
    · subst h5
      rw [cp_LL5] at h1 ⊢
      exact cp_QL_cmo h1 (by omega) (by omega) (by omega) (by omega)
    · rw [cp_LLd _ _ _ (by omega)] at h1 ⊢
      rw [cp_dq_add hd hk (by omega)]
      by_cases hqk : q = k
      · subst hqk
        rw [if_pos rfl]
        exact cp_QL_cm h1 (by omega) (by omega) _
      · rw [if_neg hqk]
        exact cp_QL_cmo h1 hqk (by omega) (by omega) (by omega)
  · rw [cp_cm_hi (by omega) (by omega) (by omega), cp_pz_o _ _ _ _ _ _ (by have := hn; show _ ∨ _; omega) (by omega)]
set_option maxHeartbeats 4000000 in
set_option maxRecDepth 100000 in
theorem c_X7_doPiece {lc : Launch} {E : cp_En} {cnt : Nat} {sh : cp_Shp} {R : cp_Rem} {J : cp_Mem} {m : Nat} {f : Nat → Int32} {r : Nat → Nat → Int32} {a : Nat → Int32} (M : cp_ML sh R m) {N : cp_Nt} (hA : cp_MA a N) (hV : cp_NV N) {v1 v2 v3 v4 : Int32} : cp_Fr lc E yX7_doPiece cX7_doPiece 7 (some .int) 1 [.ref m, .int v1, .int v2, .int v3, .int v4] cnt sh (cp_ma J m f r a) R (some (.int ((cp_sPiece N v1 v2 v3 v4).1))) (fun I' => ∃ a', I' = cp_ma J m f r a' ∧ cp_MA a' (cp_sPiece N v1 v2 v3 v4).2) := by
  obtain ⟨hAS, hA4, hA5, hAW, hAQ⟩ := id hA
  obtain ⟨hVS, hVm, hVP, hVN, hVQ⟩ := id hV
  have hn24 := hVP.1
  refine cp_Fn_iR [some (.ref m), some (.int v1), some (.int v2), some (.int v3), some (.int v4), none, none] (by decide +kernel) (Nat.le_of_ble_eq_true rfl) rfl rfl (fun x hxl O hr => ?_)
  subst hxl
  refine cp_iload_n O dX7_doPiece_0 cp_lg1 ?_
  refine cp_i2l O dX7_doPiece_1 ?_
  refine cp_lconst O dX7_doPiece_2 (v := 0) rfl ?_
  refine cp_ldc2 O cl_X7_103 dX7_doPiece_3 ?_
  refine cp_cSi O me_X7_in ms_X7_in ml_X7_35 (c_X7_in) dX7_doPiece_6 rfl rfl ⟨Nat.le_of_ble_eq_true rfl, Nat.le_of_ble_eq_true rfl⟩ ⟨Nat.le_refl _, Nat.le_refl _⟩ (Nat.le_of_ble_eq_true rfl) ?_
  rw [cp_in_rg (l := 0) (h := 4) rfl rfl]
  refine cp_if_neB (tgt := 14) O dX7_doPiece_9 (by decide) (fun c_9 => ?_) (fun c_9 => ?_)
  · refine cp_iload_n O dX7_doPiece_14 cp_lg2 ?_
    refine cp_i2l O dX7_doPiece_15 ?_
    refine cp_lconst O dX7_doPiece_16 (v := 1) rfl ?_
    refine cp_ldc2 O cl_X7_105 dX7_doPiece_17 ?_
    refine cp_cSi O me_X7_in ms_X7_in ml_X7_35 (c_X7_in) dX7_doPiece_20 rfl rfl ⟨Nat.le_of_ble_eq_true rfl, Nat.le_of_ble_eq_true rfl⟩ ⟨Nat.le_refl _, Nat.le_refl _⟩ (Nat.le_of_ble_eq_true rfl) ?_
    rw [cp_in_rg (l := 1) (h := 99) rfl rfl]
    refine cp_if_eqB (tgt := 49) O dX7_doPiece_23 (by decide) (fun c_23 => ?_) (fun c_23 => ?_)
    · have e : cp_sPiece N v1 v2 v3 v4 = (-2, N) := by
        unfold cp_sPiece
        rw [if_pos c_9, if_neg]
        first | (rw [c_23]; simp; done) | (rw [c_35]; simp; done) | (rw [c_46]; simp; done)
      rw [e] at hr
      refine cp_bipush O dX7_doPiece_49 (v := (-2)) rfl ?_
      exact hr _ _ _ _ dX7_doPiece_51 rfl ⟨a, rfl, hA⟩
    · refine cp_iload_n O dX7_doPiece_26 cp_lg3 ?_
      refine cp_i2l O dX7_doPiece_27 ?_
      refine cp_lconst O dX7_doPiece_28 (v := 0) rfl ?_
      refine cp_ldc2 O cl_X7_107 dX7_doPiece_29 ?_
      refine cp_cSi O me_X7_in ms_X7_in ml_X7_35 (c_X7_in) dX7_doPiece_32 rfl rfl ⟨Nat.le_of_ble_eq_true rfl, Nat.le_of_ble_eq_true rfl⟩ ⟨Nat.le_refl _, Nat.le_refl _⟩ (Nat.le_of_ble_eq_true rfl) ?_
      rw [cp_in_rg (l := 0) (h := 9) rfl rfl]
      refine cp_if_eqB (tgt := 49) O dX7_doPiece_35 (by decide) (fun c_35 => ?_) (fun c_35 => ?_)
      · have e : cp_sPiece N v1 v2 v3 v4 = (-2, N) := by
          unfold cp_sPiece
          rw [if_pos c_9, if_neg]
          first | (rw [c_23]; simp; done) | (rw [c_35]; simp; done) | (rw [c_46]; simp; done)
        rw [e] at hr
        refine cp_bipush O dX7_doPiece_49 (v := (-2)) rfl ?_
        exact hr _ _ _ _ dX7_doPiece_51 rfl ⟨a, rfl, hA⟩
      · refine cp_iload O dX7_doPiece_38 cp_lg4 ?_
        refine cp_i2l O dX7_doPiece_40 ?_
        refine cp_lconst O dX7_doPiece_41 (v := 0) rfl ?_
        refine cp_lconst O dX7_doPiece_42 (v := 1) rfl ?_
        refine cp_cSi O me_X7_in ms_X7_in ml_X7_35 (c_X7_in) dX7_doPiece_43 rfl rfl ⟨Nat.le_of_ble_eq_true rfl, Nat.le_of_ble_eq_true rfl⟩ ⟨Nat.le_refl _, Nat.le_refl _⟩ (Nat.le_of_ble_eq_true rfl) ?_
        rw [cp_in_rg (l := 0) (h := 1) rfl rfl]
        refine cp_if_neB (tgt := 52) O dX7_doPiece_46 (by decide) (fun c_46 => ?_) (fun c_46 => ?_)
        · have hc : (cp_rg 1 99 v2 && cp_rg 0 9 v3 && cp_rg 0 1 v4) = true := by rw [c_23, c_35, c_46]; rfl
          refine cp_aload_n O dX7_doPiece_52 cp_lg0 ?_
          refine fg_X7_7 O M.s M.f0 dX7_doPiece_53 ?_
          refine cp_iconst O dX7_doPiece_56 (v := 5) rfl ?_
          refine cp_ialdA O M (j := 5) rfl (by omega) dX7_doPiece_57 ?_
          refine cp_bipush O dX7_doPiece_58 (v := 24) rfl ?_
          refine cp_icmp_neN (tgt := 66) O dX7_doPiece_60 (by decide) (a := (cp_tn N)) (b := 24) hA5 rfl (by omega) (by omega) (fun c_60 => ?_) (fun c_60 => ?_)
          · have e : cp_sPiece N v1 v2 v3 v4 = (nI (cp_tn N), (cp_tS N, cp_tm N, cp_tn N + 1, cp_row (cp_tP N) (cp_tn N) (cp_np v1 v2 v3 v4), cp_tp N, cp_tQ N, cp_tl N)) := by
              unfold cp_sPiece
              rw [if_pos c_9, if_pos hc, if_neg c_60]
            rw [e] at hr
            obtain ⟨k, -, hk4, hv1⟩ := cp_rg_nI (l := 0) (h := 4) c_9
            have hq0 := hAW.2 k (by omega)
            rw [cp_LLd _ _ _ (by omega)] at hq0
            have hle := cp_dq_le (cp_tn N) (cp_tP N) k
            refine cp_aload_n O dX7_doPiece_66 cp_lg0 ?_
            refine fg_X7_7 O M.s M.f0 dX7_doPiece_67 ?_
            refine cp_iconst O dX7_doPiece_70 (v := 5) rfl ?_
            refine cp_ialdA O M (j := 5) rfl (by omega) dX7_doPiece_71 ?_
            rw [hA5]
            refine cp_istore O dX7_doPiece_72 (by decide) (cp_ls5 rfl) ?_
            refine cp_aload_n O dX7_doPiece_74 cp_lg0 ?_
            refine fg_X7_7 O M.s M.f0 dX7_doPiece_75 ?_
            refine cp_iconst O dX7_doPiece_78 (v := 5) rfl ?_
            refine cp_dup2 O dX7_doPiece_79 rfl rfl ?_
            refine cp_ialdA O M (j := 5) rfl (by omega) dX7_doPiece_80 ?_
            refine cp_iconst O dX7_doPiece_81 (v := 1) rfl ?_
            refine cp_iadd O dX7_doPiece_82 ?_
            rw [hA5, nI_1]
            refine cp_iastA O M (j := 5) rfl (by omega) dX7_doPiece_83 ?_
            refine cp_iconst O dX7_doPiece_84 (v := 0) rfl ?_
            refine cp_istore O dX7_doPiece_85 (by decide) (cp_ls6 rfl) ?_
            have loop87 : ∀ q, q ≤ 9 → cp_G x E 7 0 0 cnt sh (cp_ma J m f r (cp_z (upd a 5 (nI (cp_tn N + 1))) (cp_tn N) q)) R 87 [some (.ref m), some (.int v1), some (.int v2), some (.int v3), some (.int v4), some (.int (nI (cp_tn N))), some (.int (nI q))] [] := by
              refine cp_up (fun q hq ih => ?_)
              refine cp_iload O dX7_doPiece_87 cp_lg6 ?_
              refine cp_bipush O dX7_doPiece_89 (v := 9) rfl ?_
              refine cp_icmp_geN (tgt := 109) O dX7_doPiece_91 (by decide) (a := q) (b := 9) rfl rfl (by omega) (by omega) (fun c_91 => ?_) (fun c_91 => ?_)
              · obtain rfl : q = 9 := by omega
                refine cp_aload_n O dX7_doPiece_109 cp_lg0 ?_
                refine cp_iload O dX7_doPiece_110 cp_lg5 ?_
                refine cp_iconst O dX7_doPiece_112 (v := 0) rfl ?_
                refine cp_iload_n O dX7_doPiece_113 cp_lg1 ?_
                refine cp_cVv O me_X7_sets mi_X7_sets ml_X7_53 cp_cX7 M.s (c_X7_sets (p := (cp_tn N)) (q := 0) M rfl rfl (by omega) (by omega)) dX7_doPiece_114 rfl rfl ⟨Nat.le_of_ble_eq_true rfl, Nat.le_of_ble_eq_true rfl⟩ ⟨Nat.le_refl _, Nat.le_refl _⟩ (Nat.le_of_ble_eq_true rfl) ?_
                refine cp_aload_n O dX7_doPiece_117 cp_lg0 ?_
                refine cp_iload O dX7_doPiece_118 cp_lg5 ?_
                refine cp_iconst O dX7_doPiece_120 (v := 1) rfl ?_
                refine cp_iload_n O dX7_doPiece_121 cp_lg2 ?_
                refine cp_cVv O me_X7_sets mi_X7_sets ml_X7_53 cp_cX7 M.s (c_X7_sets (p := (cp_tn N)) (q := 1) M rfl rfl (by omega) (by omega)) dX7_doPiece_122 rfl rfl ⟨Nat.le_of_ble_eq_true rfl, Nat.le_of_ble_eq_true rfl⟩ ⟨Nat.le_refl _, Nat.le_refl _⟩ (Nat.le_of_ble_eq_true rfl) ?_
                refine cp_aload_n O dX7_doPiece_125 cp_lg0 ?_
                refine cp_iload O dX7_doPiece_126 cp_lg5 ?_
                refine cp_iconst O dX7_doPiece_128 (v := 2) rfl ?_
                refine cp_iload_n O dX7_doPiece_129 cp_lg3 ?_
                refine cp_cVv O me_X7_sets mi_X7_sets ml_X7_53 cp_cX7 M.s (c_X7_sets (p := (cp_tn N)) (q := 2) M rfl rfl (by omega) (by omega)) dX7_doPiece_130 rfl rfl ⟨Nat.le_of_ble_eq_true rfl, Nat.le_of_ble_eq_true rfl⟩ ⟨Nat.le_refl _, Nat.le_refl _⟩ (Nat.le_of_ble_eq_true rfl) ?_
                refine cp_aload_n O dX7_doPiece_133 cp_lg0 ?_
                refine cp_iload O dX7_doPiece_134 cp_lg5 ?_
                refine cp_iconst O dX7_doPiece_136 (v := 3) rfl ?_
                refine cp_iload O dX7_doPiece_137 cp_lg4 ?_
                refine cp_cVv O me_X7_sets mi_X7_sets ml_X7_53 cp_cX7 M.s (c_X7_sets (p := (cp_tn N)) (q := 3) M rfl rfl (by omega) (by omega)) dX7_doPiece_139 rfl rfl ⟨Nat.le_of_ble_eq_true rfl, Nat.le_of_ble_eq_true rfl⟩ ⟨Nat.le_refl _, Nat.le_refl _⟩ (Nat.le_of_ble_eq_true rfl) ?_
                refine cp_aload_n O dX7_doPiece_142 cp_lg0 ?_
                refine cp_iload O dX7_doPiece_143 cp_lg5 ?_
                refine cp_bipush O dX7_doPiece_145 (v := 8) rfl ?_
                refine cp_bipush O dX7_doPiece_147 (v := (-6)) rfl ?_
                refine cp_cVv O me_X7_sets mi_X7_sets ml_X7_53 cp_cX7 M.s (c_X7_sets (p := (cp_tn N)) (q := 8) M rfl rfl (by omega) (by omega)) dX7_doPiece_149 rfl rfl ⟨Nat.le_of_ble_eq_true rfl, Nat.le_of_ble_eq_true rfl⟩ ⟨Nat.le_refl _, Nat.le_refl _⟩ (Nat.le_of_ble_eq_true rfl) ?_
                refine cp_aload_n O dX7_doPiece_152 cp_lg0 ?_
                refine cp_iload_n O dX7_doPiece_153 cp_lg1 ?_
                refine cp_iload O dX7_doPiece_154 cp_lg5 ?_
                refine cp_cVv O me_X7_comesTo mi_X7_comesTo ml_X7_61 cp_cX7 M.s (c_X7_comesTo (q := k) (p := cp_tn N) M hv1 rfl (by omega) (show cp_pz a (cp_tn N) v1 v2 v3 v4 (8 + k) = _ from (cp_pz_o _ _ _ _ _ _ (by omega) (by omega)).trans hq0.1) (by omega)) dX7_doPiece_156 rfl rfl ⟨Nat.le_of_ble_eq_true rfl, Nat.le_of_ble_eq_true rfl⟩ ⟨Nat.le_refl _, Nat.le_refl _⟩ (Nat.le_of_ble_eq_true rfl) ?_
                refine cp_iload O dX7_doPiece_159 cp_lg5 ?_
                exact hr _ _ _ _ dX7_doPiece_161 rfl ⟨_, rfl, cp_MA_piece hA hV hv1 (by omega) (by omega)⟩
              · refine cp_aload_n O dX7_doPiece_94 cp_lg0 ?_
                refine cp_iload O dX7_doPiece_95 cp_lg5 ?_
                refine cp_iload O dX7_doPiece_97 cp_lg6 ?_
                refine cp_iconst O dX7_doPiece_99 (v := 0) rfl ?_
                refine cp_cVv O me_X7_sets mi_X7_sets ml_X7_53 cp_cX7 M.s (c_X7_sets (p := (cp_tn N)) (q := q) M rfl rfl (by omega) (by omega)) dX7_doPiece_100 rfl rfl ⟨Nat.le_of_ble_eq_true rfl, Nat.le_of_ble_eq_true rfl⟩ ⟨Nat.le_refl _, Nat.le_refl _⟩ (Nat.le_of_ble_eq_true rfl) ?_
                refine cp_iinc O dX7_doPiece_103 cp_lg6 (cp_inc rfl) (by decide) (cp_ls6 rfl) ?_
                refine cp_goto (tgt := 87) O dX7_doPiece_106 (by decide) ?_
                rw [cp_z_s]
                exact ih c_91
            have l0 := loop87 0 (Nat.zero_le _)
            rw [cp_z_0] at l0
            exact l0
          · have e : cp_sPiece N v1 v2 v3 v4 = (-4, N) := by
              unfold cp_sPiece
              rw [if_pos c_9, if_pos hc, if_pos c_60]
            rw [e] at hr
            refine cp_bipush O dX7_doPiece_63 (v := (-4)) rfl ?_
            exact hr _ _ _ _ dX7_doPiece_65 rfl ⟨a, rfl, hA⟩
        · have e : cp_sPiece N v1 v2 v3 v4 = (-2, N) := by
            unfold cp_sPiece
            rw [if_pos c_9, if_neg]
            first | (rw [c_23]; simp; done) | (rw [c_35]; simp; done) | (rw [c_46]; simp; done)
          rw [e] at hr
          refine cp_bipush O dX7_doPiece_49 (v := (-2)) rfl ?_
          exact hr _ _ _ _ dX7_doPiece_51 rfl ⟨a, rfl, hA⟩
  · have e : cp_sPiece N v1 v2 v3 v4 = (-1, N) := by
      unfold cp_sPiece
      rw [if_neg (by rw [c_9]; decide)]
    rw [e] at hr
    refine cp_iconst O dX7_doPiece_12 (v := (-1)) rfl ?_
    exact hr _ _ _ _ dX7_doPiece_13 rfl ⟨a, rfl, hA⟩
end
