section
-- ===== PART A: goes FIRST, ahead of the names: the tables' words, and 'selects' of the private methods out of them =====
/-- a private method of a class that the tables say can be made, by its rows of tables_1 -/
def lw_okq (q : MethodName × Nat) : Prop := (q.1.cls ≠ "java/lang/invoke/MethodHandle" ∧ q.1.cls ≠ "java/lang/invoke/VarHandle") ∧ Cond.instantiable q.1.cls q.2 ∈ tables_1 ∧ Cond.privateMethod q.1 ∈ tables_1 ∧ Cond.instanceMethod q.1 ∈ tables_1
theorem lw_p0 : lw_okq (⟨"CopyPlates$Night", "plateAt", "(I)I"⟩, 6) := ⟨⟨by decide +kernel, by decide +kernel⟩, List.mem_of_getElem? (i := 20) (by decide +kernel), List.mem_of_getElem? (i := 270) (by decide +kernel), List.mem_of_getElem? (i := 271) (by decide +kernel)⟩
theorem lw_p1 : lw_okq (⟨"CopyPlates$Night", "insertPlate", "(IZ)I"⟩, 6) := ⟨⟨by decide +kernel, by decide +kernel⟩, List.mem_of_getElem? (i := 20) (by decide +kernel), List.mem_of_getElem? (i := 274) (by decide +kernel), List.mem_of_getElem? (i := 275) (by decide +kernel)⟩
theorem lw_p2 : lw_okq (⟨"CopyPlates$Night", "isOnLatestMade", "(I)Z"⟩, 6) := ⟨⟨by decide +kernel, by decide +kernel⟩, List.mem_of_getElem? (i := 20) (by decide +kernel), List.mem_of_getElem? (i := 305) (by decide +kernel), List.mem_of_getElem? (i := 306) (by decide +kernel)⟩
theorem lw_p3 : lw_okq (⟨"CopyPlates$Night", "madePlates", "()I"⟩, 6) := ⟨⟨by decide +kernel, by decide +kernel⟩, List.mem_of_getElem? (i := 20) (by decide +kernel), List.mem_of_getElem? (i := 309) (by decide +kernel), List.mem_of_getElem? (i := 310) (by decide +kernel)⟩
theorem lw_p4 : lw_okq (⟨"CopyPlates$Night", "isMade", "(I)Z"⟩, 6) := ⟨⟨by decide +kernel, by decide +kernel⟩, List.mem_of_getElem? (i := 20) (by decide +kernel), List.mem_of_getElem? (i := 313) (by decide +kernel), List.mem_of_getElem? (i := 314) (by decide +kernel)⟩
theorem lw_p5 : lw_okq (⟨"CopyPlates$Night", "tellReplate", "()Z"⟩, 6) := ⟨⟨by decide +kernel, by decide +kernel⟩, List.mem_of_getElem? (i := 20) (by decide +kernel), List.mem_of_getElem? (i := 320) (by decide +kernel), List.mem_of_getElem? (i := 321) (by decide +kernel)⟩
theorem lw_p6 : lw_okq (⟨"CopyPlates$Night", "editAtDesks", "()V"⟩, 6) := ⟨⟨by decide +kernel, by decide +kernel⟩, List.mem_of_getElem? (i := 20) (by decide +kernel), List.mem_of_getElem? (i := 340) (by decide +kernel), List.mem_of_getElem? (i := 341) (by decide +kernel)⟩
theorem lw_p7 : lw_okq (⟨"CopyPlates$Piece", "becomeReady", "(I)V"⟩, 10) := ⟨⟨by decide +kernel, by decide +kernel⟩, List.mem_of_getElem? (i := 36) (by decide +kernel), List.mem_of_getElem? (i := 349) (by decide +kernel), List.mem_of_getElem? (i := 350) (by decide +kernel)⟩
theorem lw_p8 : lw_okq (⟨"CopyPlates$Night", "readAtLawyer", "()V"⟩, 6) := ⟨⟨by decide +kernel, by decide +kernel⟩, List.mem_of_getElem? (i := 20) (by decide +kernel), List.mem_of_getElem? (i := 353) (by decide +kernel), List.mem_of_getElem? (i := 354) (by decide +kernel)⟩
theorem lw_p9 : lw_okq (⟨"CopyPlates$Night", "firstAtLawyer", "()I"⟩, 6) := ⟨⟨by decide +kernel, by decide +kernel⟩, List.mem_of_getElem? (i := 20) (by decide +kernel), List.mem_of_getElem? (i := 357) (by decide +kernel), List.mem_of_getElem? (i := 358) (by decide +kernel)⟩
theorem lw_p10 : lw_okq (⟨"CopyPlates$Night", "firstByRank", "(I)I"⟩, 6) := ⟨⟨by decide +kernel, by decide +kernel⟩, List.mem_of_getElem? (i := 20) (by decide +kernel), List.mem_of_getElem? (i := 377) (by decide +kernel), List.mem_of_getElem? (i := 378) (by decide +kernel)⟩
theorem lw_p11 : lw_okq (⟨"CopyPlates$Night", "goesAhead", "(II)Z"⟩, 6) := ⟨⟨by decide +kernel, by decide +kernel⟩, List.mem_of_getElem? (i := 20) (by decide +kernel), List.mem_of_getElem? (i := 381) (by decide +kernel), List.mem_of_getElem? (i := 382) (by decide +kernel)⟩
theorem lw_p12 : lw_okq (⟨"CopyPlates$Night", "placeInQueue", "(I)I"⟩, 6) := ⟨⟨by decide +kernel, by decide +kernel⟩, List.mem_of_getElem? (i := 20) (by decide +kernel), List.mem_of_getElem? (i := 393) (by decide +kernel), List.mem_of_getElem? (i := 394) (by decide +kernel)⟩
theorem lw_p13 : lw_okq (⟨"CopyPlates$Night", "placeAtDesk", "(I)I"⟩, 6) := ⟨⟨by decide +kernel, by decide +kernel⟩, List.mem_of_getElem? (i := 20) (by decide +kernel), List.mem_of_getElem? (i := 397) (by decide +kernel), List.mem_of_getElem? (i := 398) (by decide +kernel)⟩
theorem lw_p14 : lw_okq (⟨"CopyPlates$Night", "placeAtLawyer", "(I)I"⟩, 6) := ⟨⟨by decide +kernel, by decide +kernel⟩, List.mem_of_getElem? (i := 20) (by decide +kernel), List.mem_of_getElem? (i := 401) (by decide +kernel), List.mem_of_getElem? (i := 402) (by decide +kernel)⟩
theorem lw_p15 : lw_okq (⟨"CopyPlates$Night", "platesWith", "(I)I"⟩, 6) := ⟨⟨by decide +kernel, by decide +kernel⟩, List.mem_of_getElem? (i := 20) (by decide +kernel), List.mem_of_getElem? (i := 405) (by decide +kernel), List.mem_of_getElem? (i := 406) (by decide +kernel)⟩
def lw_privs_1 : List (MethodName × Nat) := [(⟨"CopyPlates$Night", "plateAt", "(I)I"⟩, 6), (⟨"CopyPlates$Night", "insertPlate", "(IZ)I"⟩, 6), (⟨"CopyPlates$Night", "isOnLatestMade", "(I)Z"⟩, 6), (⟨"CopyPlates$Night", "madePlates", "()I"⟩, 6), (⟨"CopyPlates$Night", "isMade", "(I)Z"⟩, 6), (⟨"CopyPlates$Night", "tellReplate", "()Z"⟩, 6), (⟨"CopyPlates$Night", "editAtDesks", "()V"⟩, 6), (⟨"CopyPlates$Piece", "becomeReady", "(I)V"⟩, 10), (⟨"CopyPlates$Night", "readAtLawyer", "()V"⟩, 6), (⟨"CopyPlates$Night", "firstAtLawyer", "()I"⟩, 6), (⟨"CopyPlates$Night", "firstByRank", "(I)I"⟩, 6), (⟨"CopyPlates$Night", "goesAhead", "(II)Z"⟩, 6), (⟨"CopyPlates$Night", "placeInQueue", "(I)I"⟩, 6), (⟨"CopyPlates$Night", "placeAtDesk", "(I)I"⟩, 6), (⟨"CopyPlates$Night", "placeAtLawyer", "(I)I"⟩, 6), (⟨"CopyPlates$Night", "platesWith", "(I)I"⟩, 6)]
theorem lw_r1 : ∀ q ∈ lw_privs_1, lw_okq q := List.forall_mem_cons.mpr ⟨lw_p0, List.forall_mem_cons.mpr ⟨lw_p1, List.forall_mem_cons.mpr ⟨lw_p2, List.forall_mem_cons.mpr ⟨lw_p3, List.forall_mem_cons.mpr ⟨lw_p4, List.forall_mem_cons.mpr ⟨lw_p5, List.forall_mem_cons.mpr ⟨lw_p6, List.forall_mem_cons.mpr ⟨lw_p7, List.forall_mem_cons.mpr ⟨lw_p8, List.forall_mem_cons.mpr ⟨lw_p9, List.forall_mem_cons.mpr ⟨lw_p10, List.forall_mem_cons.mpr ⟨lw_p11, List.forall_mem_cons.mpr ⟨lw_p12, List.forall_mem_cons.mpr ⟨lw_p13, List.forall_mem_cons.mpr ⟨lw_p14, List.forall_mem_cons.mpr ⟨lw_p15, fun _ h => absurd h List.not_mem_nil⟩⟩⟩⟩⟩⟩⟩⟩⟩⟩⟩⟩⟩⟩⟩⟩
theorem lw_p16 : lw_okq (⟨"CopyPlates$Night", "piecesThatAre", "(I)I"⟩, 6) := ⟨⟨by decide +kernel, by decide +kernel⟩, List.mem_of_getElem? (i := 20) (by decide +kernel), List.mem_of_getElem? (i := 429) (by decide +kernel), List.mem_of_getElem? (i := 430) (by decide +kernel)⟩
theorem lw_p17 : lw_okq (⟨"CopyPlates$Night", "heldPieces", "()I"⟩, 6) := ⟨⟨by decide +kernel, by decide +kernel⟩, List.mem_of_getElem? (i := 20) (by decide +kernel), List.mem_of_getElem? (i := 433) (by decide +kernel), List.mem_of_getElem? (i := 434) (by decide +kernel)⟩
theorem lw_p18 : lw_okq (⟨"CopyPlates$Night", "replates", "()I"⟩, 6) := ⟨⟨by decide +kernel, by decide +kernel⟩, List.mem_of_getElem? (i := 20) (by decide +kernel), List.mem_of_getElem? (i := 437) (by decide +kernel), List.mem_of_getElem? (i := 438) (by decide +kernel)⟩
theorem lw_p19 : lw_okq (⟨"CopyPlates$Night", "reasonOf", "(I)I"⟩, 6) := ⟨⟨by decide +kernel, by decide +kernel⟩, List.mem_of_getElem? (i := 20) (by decide +kernel), List.mem_of_getElem? (i := 449) (by decide +kernel), List.mem_of_getElem? (i := 450) (by decide +kernel)⟩
theorem lw_p20 : lw_okq (⟨"CopyPlates$Night", "causeOf", "(I)I"⟩, 6) := ⟨⟨by decide +kernel, by decide +kernel⟩, List.mem_of_getElem? (i := 20) (by decide +kernel), List.mem_of_getElem? (i := 453) (by decide +kernel), List.mem_of_getElem? (i := 454) (by decide +kernel)⟩
theorem lw_p21 : lw_okq (⟨"CopyPlates$Night", "firstAtDesk", "(I)I"⟩, 6) := ⟨⟨by decide +kernel, by decide +kernel⟩, List.mem_of_getElem? (i := 20) (by decide +kernel), List.mem_of_getElem? (i := 457) (by decide +kernel), List.mem_of_getElem? (i := 458) (by decide +kernel)⟩
theorem lw_p22 : lw_okq (⟨"CopyPlates$Night", "lastTakenAheadOf", "(I)I"⟩, 6) := ⟨⟨by decide +kernel, by decide +kernel⟩, List.mem_of_getElem? (i := 20) (by decide +kernel), List.mem_of_getElem? (i := 461) (by decide +kernel), List.mem_of_getElem? (i := 462) (by decide +kernel)⟩
theorem lw_p23 : lw_okq (⟨"CopyPlates", "goAheadToPlate", "(I)V"⟩, 6) := ⟨⟨by decide +kernel, by decide +kernel⟩, List.mem_of_getElem? (i := 12) (by decide +kernel), List.mem_of_getElem? (i := 486) (by decide +kernel), List.mem_of_getElem? (i := 487) (by decide +kernel)⟩
theorem lw_p24 : lw_okq (⟨"CopyPlates$OrderReader", "readPiece", "()Z"⟩, 7) := ⟨⟨by decide +kernel, by decide +kernel⟩, List.mem_of_getElem? (i := 160) (by decide +kernel), List.mem_of_getElem? (i := 547) (by decide +kernel), List.mem_of_getElem? (i := 548) (by decide +kernel)⟩
theorem lw_p25 : lw_okq (⟨"CopyPlates$OrderReader", "digitHere", "()I"⟩, 7) := ⟨⟨by decide +kernel, by decide +kernel⟩, List.mem_of_getElem? (i := 160) (by decide +kernel), List.mem_of_getElem? (i := 551) (by decide +kernel), List.mem_of_getElem? (i := 552) (by decide +kernel)⟩
theorem lw_p26 : lw_okq (⟨"CopyPlates$OrderReader", "readNumber", "()Z"⟩, 7) := ⟨⟨by decide +kernel, by decide +kernel⟩, List.mem_of_getElem? (i := 160) (by decide +kernel), List.mem_of_getElem? (i := 559) (by decide +kernel), List.mem_of_getElem? (i := 560) (by decide +kernel)⟩
theorem lw_p27 : lw_okq (⟨"CopyPlates", "carryOrderOut", "()I"⟩, 6) := ⟨⟨by decide +kernel, by decide +kernel⟩, List.mem_of_getElem? (i := 12) (by decide +kernel), List.mem_of_getElem? (i := 570) (by decide +kernel), List.mem_of_getElem? (i := 571) (by decide +kernel)⟩
theorem lw_p28 : lw_okq (⟨"CopyPlatesModel", "ends", "(I)I"⟩, 15) := ⟨⟨by decide +kernel, by decide +kernel⟩, List.mem_of_getElem? (i := 591) (by decide +kernel), List.mem_of_getElem? (i := 660) (by decide +kernel), List.mem_of_getElem? (i := 661) (by decide +kernel)⟩
theorem lw_p29 : lw_okq (⟨"CopyPlatesModel", "doPiece", "(IIII)I"⟩, 15) := ⟨⟨by decide +kernel, by decide +kernel⟩, List.mem_of_getElem? (i := 591) (by decide +kernel), List.mem_of_getElem? (i := 668) (by decide +kernel), List.mem_of_getElem? (i := 669) (by decide +kernel)⟩
theorem lw_p30 : lw_okq (⟨"CopyPlatesModel", "sets", "(III)V"⟩, 15) := ⟨⟨by decide +kernel, by decide +kernel⟩, List.mem_of_getElem? (i := 591) (by decide +kernel), List.mem_of_getElem? (i := 675) (by decide +kernel), List.mem_of_getElem? (i := 676) (by decide +kernel)⟩
theorem lw_p31 : lw_okq (⟨"CopyPlatesModel", "comesTo", "(II)V"⟩, 15) := ⟨⟨by decide +kernel, by decide +kernel⟩, List.mem_of_getElem? (i := 591) (by decide +kernel), List.mem_of_getElem? (i := 679) (by decide +kernel), List.mem_of_getElem? (i := 680) (by decide +kernel)⟩
def lw_privs_2 : List (MethodName × Nat) := [(⟨"CopyPlates$Night", "piecesThatAre", "(I)I"⟩, 6), (⟨"CopyPlates$Night", "heldPieces", "()I"⟩, 6), (⟨"CopyPlates$Night", "replates", "()I"⟩, 6), (⟨"CopyPlates$Night", "reasonOf", "(I)I"⟩, 6), (⟨"CopyPlates$Night", "causeOf", "(I)I"⟩, 6), (⟨"CopyPlates$Night", "firstAtDesk", "(I)I"⟩, 6), (⟨"CopyPlates$Night", "lastTakenAheadOf", "(I)I"⟩, 6), (⟨"CopyPlates", "goAheadToPlate", "(I)V"⟩, 6), (⟨"CopyPlates$OrderReader", "readPiece", "()Z"⟩, 7), (⟨"CopyPlates$OrderReader", "digitHere", "()I"⟩, 7), (⟨"CopyPlates$OrderReader", "readNumber", "()Z"⟩, 7), (⟨"CopyPlates", "carryOrderOut", "()I"⟩, 6), (⟨"CopyPlatesModel", "ends", "(I)I"⟩, 15), (⟨"CopyPlatesModel", "doPiece", "(IIII)I"⟩, 15), (⟨"CopyPlatesModel", "sets", "(III)V"⟩, 15), (⟨"CopyPlatesModel", "comesTo", "(II)V"⟩, 15)]
theorem lw_r2 : ∀ q ∈ lw_privs_2, lw_okq q := List.forall_mem_cons.mpr ⟨lw_p16, List.forall_mem_cons.mpr ⟨lw_p17, List.forall_mem_cons.mpr ⟨lw_p18, List.forall_mem_cons.mpr ⟨lw_p19, List.forall_mem_cons.mpr ⟨lw_p20, List.forall_mem_cons.mpr ⟨lw_p21, List.forall_mem_cons.mpr ⟨lw_p22, List.forall_mem_cons.mpr ⟨lw_p23, List.forall_mem_cons.mpr ⟨lw_p24, List.forall_mem_cons.mpr ⟨lw_p25, List.forall_mem_cons.mpr ⟨lw_p26, List.forall_mem_cons.mpr ⟨lw_p27, List.forall_mem_cons.mpr ⟨lw_p28, List.forall_mem_cons.mpr ⟨lw_p29, List.forall_mem_cons.mpr ⟨lw_p30, List.forall_mem_cons.mpr ⟨lw_p31, fun _ h => absurd h List.not_mem_nil⟩⟩⟩⟩⟩⟩⟩⟩⟩⟩⟩⟩⟩⟩⟩⟩
theorem lw_p32 : lw_okq (⟨"CopyPlatesModel", "doPlate", "(I)I"⟩, 15) := ⟨⟨by decide +kernel, by decide +kernel⟩, List.mem_of_getElem? (i := 591) (by decide +kernel), List.mem_of_getElem? (i := 687) (by decide +kernel), List.mem_of_getElem? (i := 688) (by decide +kernel)⟩
theorem lw_p33 : lw_okq (⟨"CopyPlatesModel", "due", "(I)I"⟩, 15) := ⟨⟨by decide +kernel, by decide +kernel⟩, List.mem_of_getElem? (i := 591) (by decide +kernel), List.mem_of_getElem? (i := 692) (by decide +kernel), List.mem_of_getElem? (i := 693) (by decide +kernel)⟩
theorem lw_p34 : lw_okq (⟨"CopyPlatesModel", "plateAt", "(II)I"⟩, 15) := ⟨⟨by decide +kernel, by decide +kernel⟩, List.mem_of_getElem? (i := 591) (by decide +kernel), List.mem_of_getElem? (i := 696) (by decide +kernel), List.mem_of_getElem? (i := 697) (by decide +kernel)⟩
theorem lw_p35 : lw_okq (⟨"CopyPlatesModel", "tells", "(II)I"⟩, 15) := ⟨⟨by decide +kernel, by decide +kernel⟩, List.mem_of_getElem? (i := 591) (by decide +kernel), List.mem_of_getElem? (i := 700) (by decide +kernel), List.mem_of_getElem? (i := 701) (by decide +kernel)⟩
theorem lw_p36 : lw_okq (⟨"CopyPlatesModel", "doHold", "(I)I"⟩, 15) := ⟨⟨by decide +kernel, by decide +kernel⟩, List.mem_of_getElem? (i := 591) (by decide +kernel), List.mem_of_getElem? (i := 708) (by decide +kernel), List.mem_of_getElem? (i := 709) (by decide +kernel)⟩
theorem lw_p37 : lw_okq (⟨"CopyPlatesModel", "isPiece", "(I)Z"⟩, 15) := ⟨⟨by decide +kernel, by decide +kernel⟩, List.mem_of_getElem? (i := 591) (by decide +kernel), List.mem_of_getElem? (i := 712) (by decide +kernel), List.mem_of_getElem? (i := 713) (by decide +kernel)⟩
theorem lw_p38 : lw_okq (⟨"CopyPlatesModel", "of", "(II)I"⟩, 15) := ⟨⟨by decide +kernel, by decide +kernel⟩, List.mem_of_getElem? (i := 591) (by decide +kernel), List.mem_of_getElem? (i := 716) (by decide +kernel), List.mem_of_getElem? (i := 717) (by decide +kernel)⟩
theorem lw_p39 : lw_okq (⟨"CopyPlatesModel", "doKill", "(I)I"⟩, 15) := ⟨⟨by decide +kernel, by decide +kernel⟩, List.mem_of_getElem? (i := 591) (by decide +kernel), List.mem_of_getElem? (i := 724) (by decide +kernel), List.mem_of_getElem? (i := 725) (by decide +kernel)⟩
theorem lw_p40 : lw_okq (⟨"CopyPlatesModel", "leaves", "(I)V"⟩, 15) := ⟨⟨by decide +kernel, by decide +kernel⟩, List.mem_of_getElem? (i := 591) (by decide +kernel), List.mem_of_getElem? (i := 728) (by decide +kernel), List.mem_of_getElem? (i := 729) (by decide +kernel)⟩
theorem lw_p41 : lw_okq (⟨"CopyPlatesModel", "queueOf", "(I)I"⟩, 15) := ⟨⟨by decide +kernel, by decide +kernel⟩, List.mem_of_getElem? (i := 591) (by decide +kernel), List.mem_of_getElem? (i := 732) (by decide +kernel), List.mem_of_getElem? (i := 733) (by decide +kernel)⟩
theorem lw_p42 : lw_okq (⟨"CopyPlatesModel", "placeOf", "(I)I"⟩, 15) := ⟨⟨by decide +kernel, by decide +kernel⟩, List.mem_of_getElem? (i := 591) (by decide +kernel), List.mem_of_getElem? (i := 736) (by decide +kernel), List.mem_of_getElem? (i := 737) (by decide +kernel)⟩
theorem lw_p43 : lw_okq (⟨"CopyPlatesModel", "inQueue", "(II)I"⟩, 15) := ⟨⟨by decide +kernel, by decide +kernel⟩, List.mem_of_getElem? (i := 591) (by decide +kernel), List.mem_of_getElem? (i := 740) (by decide +kernel), List.mem_of_getElem? (i := 741) (by decide +kernel)⟩
theorem lw_p44 : lw_okq (⟨"CopyPlatesModel", "isOnLatest", "(I)Z"⟩, 15) := ⟨⟨by decide +kernel, by decide +kernel⟩, List.mem_of_getElem? (i := 591) (by decide +kernel), List.mem_of_getElem? (i := 744) (by decide +kernel), List.mem_of_getElem? (i := 745) (by decide +kernel)⟩
theorem lw_p45 : lw_okq (⟨"CopyPlatesModel", "isDueSoon", "()Z"⟩, 15) := ⟨⟨by decide +kernel, by decide +kernel⟩, List.mem_of_getElem? (i := 591) (by decide +kernel), List.mem_of_getElem? (i := 748) (by decide +kernel), List.mem_of_getElem? (i := 749) (by decide +kernel)⟩
theorem lw_p46 : lw_okq (⟨"CopyPlatesModel", "doPass", "(I)I"⟩, 15) := ⟨⟨by decide +kernel, by decide +kernel⟩, List.mem_of_getElem? (i := 591) (by decide +kernel), List.mem_of_getElem? (i := 756) (by decide +kernel), List.mem_of_getElem? (i := 757) (by decide +kernel)⟩
theorem lw_p47 : lw_okq (⟨"CopyPlatesModel", "passes", "()I"⟩, 15) := ⟨⟨by decide +kernel, by decide +kernel⟩, List.mem_of_getElem? (i := 591) (by decide +kernel), List.mem_of_getElem? (i := 760) (by decide +kernel), List.mem_of_getElem? (i := 761) (by decide +kernel)⟩
def lw_privs_3 : List (MethodName × Nat) := [(⟨"CopyPlatesModel", "doPlate", "(I)I"⟩, 15), (⟨"CopyPlatesModel", "due", "(I)I"⟩, 15), (⟨"CopyPlatesModel", "plateAt", "(II)I"⟩, 15), (⟨"CopyPlatesModel", "tells", "(II)I"⟩, 15), (⟨"CopyPlatesModel", "doHold", "(I)I"⟩, 15), (⟨"CopyPlatesModel", "isPiece", "(I)Z"⟩, 15), (⟨"CopyPlatesModel", "of", "(II)I"⟩, 15), (⟨"CopyPlatesModel", "doKill", "(I)I"⟩, 15), (⟨"CopyPlatesModel", "leaves", "(I)V"⟩, 15), (⟨"CopyPlatesModel", "queueOf", "(I)I"⟩, 15), (⟨"CopyPlatesModel", "placeOf", "(I)I"⟩, 15), (⟨"CopyPlatesModel", "inQueue", "(II)I"⟩, 15), (⟨"CopyPlatesModel", "isOnLatest", "(I)Z"⟩, 15), (⟨"CopyPlatesModel", "isDueSoon", "()Z"⟩, 15), (⟨"CopyPlatesModel", "doPass", "(I)I"⟩, 15), (⟨"CopyPlatesModel", "passes", "()I"⟩, 15)]
theorem lw_r3 : ∀ q ∈ lw_privs_3, lw_okq q := List.forall_mem_cons.mpr ⟨lw_p32, List.forall_mem_cons.mpr ⟨lw_p33, List.forall_mem_cons.mpr ⟨lw_p34, List.forall_mem_cons.mpr ⟨lw_p35, List.forall_mem_cons.mpr ⟨lw_p36, List.forall_mem_cons.mpr ⟨lw_p37, List.forall_mem_cons.mpr ⟨lw_p38, List.forall_mem_cons.mpr ⟨lw_p39, List.forall_mem_cons.mpr ⟨lw_p40, List.forall_mem_cons.mpr ⟨lw_p41, List.forall_mem_cons.mpr ⟨lw_p42, List.forall_mem_cons.mpr ⟨lw_p43, List.forall_mem_cons.mpr ⟨lw_p44, List.forall_mem_cons.mpr ⟨lw_p45, List.forall_mem_cons.mpr ⟨lw_p46, List.forall_mem_cons.mpr ⟨lw_p47, fun _ h => absurd h List.not_mem_nil⟩⟩⟩⟩⟩⟩⟩⟩⟩⟩⟩⟩⟩⟩⟩⟩
theorem lw_p48 : lw_okq (⟨"CopyPlatesModel", "works", "()V"⟩, 15) := ⟨⟨by decide +kernel, by decide +kernel⟩, List.mem_of_getElem? (i := 591) (by decide +kernel), List.mem_of_getElem? (i := 764) (by decide +kernel), List.mem_of_getElem? (i := 765) (by decide +kernel)⟩
theorem lw_p49 : lw_okq (⟨"CopyPlatesModel", "edits", "(I)V"⟩, 15) := ⟨⟨by decide +kernel, by decide +kernel⟩, List.mem_of_getElem? (i := 591) (by decide +kernel), List.mem_of_getElem? (i := 768) (by decide +kernel), List.mem_of_getElem? (i := 769) (by decide +kernel)⟩
theorem lw_p50 : lw_okq (⟨"CopyPlatesModel", "becomesReady", "(I)V"⟩, 15) := ⟨⟨by decide +kernel, by decide +kernel⟩, List.mem_of_getElem? (i := 591) (by decide +kernel), List.mem_of_getElem? (i := 772) (by decide +kernel), List.mem_of_getElem? (i := 773) (by decide +kernel)⟩
theorem lw_p51 : lw_okq (⟨"CopyPlatesModel", "reads", "()V"⟩, 15) := ⟨⟨by decide +kernel, by decide +kernel⟩, List.mem_of_getElem? (i := 591) (by decide +kernel), List.mem_of_getElem? (i := 776) (by decide +kernel), List.mem_of_getElem? (i := 777) (by decide +kernel)⟩
theorem lw_p52 : lw_okq (⟨"CopyPlatesModel", "takes", "(I)V"⟩, 15) := ⟨⟨by decide +kernel, by decide +kernel⟩, List.mem_of_getElem? (i := 591) (by decide +kernel), List.mem_of_getElem? (i := 780) (by decide +kernel), List.mem_of_getElem? (i := 781) (by decide +kernel)⟩
theorem lw_p53 : lw_okq (⟨"CopyPlatesModel", "ranked", "(I)I"⟩, 15) := ⟨⟨by decide +kernel, by decide +kernel⟩, List.mem_of_getElem? (i := 591) (by decide +kernel), List.mem_of_getElem? (i := 784) (by decide +kernel), List.mem_of_getElem? (i := 785) (by decide +kernel)⟩
theorem lw_p54 : lw_okq (⟨"CopyPlatesModel", "isFree", "(I)Z"⟩, 15) := ⟨⟨by decide +kernel, by decide +kernel⟩, List.mem_of_getElem? (i := 591) (by decide +kernel), List.mem_of_getElem? (i := 788) (by decide +kernel), List.mem_of_getElem? (i := 789) (by decide +kernel)⟩
theorem lw_p55 : lw_okq (⟨"CopyPlatesModel", "isAhead", "(II)Z"⟩, 15) := ⟨⟨by decide +kernel, by decide +kernel⟩, List.mem_of_getElem? (i := 591) (by decide +kernel), List.mem_of_getElem? (i := 792) (by decide +kernel), List.mem_of_getElem? (i := 793) (by decide +kernel)⟩
theorem lw_p56 : lw_okq (⟨"CopyPlatesModel", "platesWith", "(I)I"⟩, 15) := ⟨⟨by decide +kernel, by decide +kernel⟩, List.mem_of_getElem? (i := 591) (by decide +kernel), List.mem_of_getElem? (i := 801) (by decide +kernel), List.mem_of_getElem? (i := 802) (by decide +kernel)⟩
theorem lw_p57 : lw_okq (⟨"CopyPlatesModel", "linesOf", "(I)I"⟩, 15) := ⟨⟨by decide +kernel, by decide +kernel⟩, List.mem_of_getElem? (i := 591) (by decide +kernel), List.mem_of_getElem? (i := 810) (by decide +kernel), List.mem_of_getElem? (i := 811) (by decide +kernel)⟩
theorem lw_p58 : lw_okq (⟨"CopyPlatesModel", "manyThat", "(I)I"⟩, 15) := ⟨⟨by decide +kernel, by decide +kernel⟩, List.mem_of_getElem? (i := 591) (by decide +kernel), List.mem_of_getElem? (i := 818) (by decide +kernel), List.mem_of_getElem? (i := 819) (by decide +kernel)⟩
theorem lw_p59 : lw_okq (⟨"CopyPlatesModel", "manyHeld", "()I"⟩, 15) := ⟨⟨by decide +kernel, by decide +kernel⟩, List.mem_of_getElem? (i := 591) (by decide +kernel), List.mem_of_getElem? (i := 823) (by decide +kernel), List.mem_of_getElem? (i := 824) (by decide +kernel)⟩
theorem lw_p60 : lw_okq (⟨"CopyPlatesModel", "replates", "()I"⟩, 15) := ⟨⟨by decide +kernel, by decide +kernel⟩, List.mem_of_getElem? (i := 591) (by decide +kernel), List.mem_of_getElem? (i := 827) (by decide +kernel), List.mem_of_getElem? (i := 828) (by decide +kernel)⟩
theorem lw_p61 : lw_okq (⟨"CopyPlatesModel", "reason", "(I)I"⟩, 15) := ⟨⟨by decide +kernel, by decide +kernel⟩, List.mem_of_getElem? (i := 591) (by decide +kernel), List.mem_of_getElem? (i := 835) (by decide +kernel), List.mem_of_getElem? (i := 836) (by decide +kernel)⟩
theorem lw_p62 : lw_okq (⟨"CopyPlatesModel", "lastAhead", "(I)I"⟩, 15) := ⟨⟨by decide +kernel, by decide +kernel⟩, List.mem_of_getElem? (i := 591) (by decide +kernel), List.mem_of_getElem? (i := 839) (by decide +kernel), List.mem_of_getElem? (i := 840) (by decide +kernel)⟩
theorem lw_p63 : lw_okq (⟨"CopyPlatesModel", "comesToNext", "()Z"⟩, 15) := ⟨⟨by decide +kernel, by decide +kernel⟩, List.mem_of_getElem? (i := 591) (by decide +kernel), List.mem_of_getElem? (i := 855) (by decide +kernel), List.mem_of_getElem? (i := 856) (by decide +kernel)⟩
def lw_privs_4 : List (MethodName × Nat) := [(⟨"CopyPlatesModel", "works", "()V"⟩, 15), (⟨"CopyPlatesModel", "edits", "(I)V"⟩, 15), (⟨"CopyPlatesModel", "becomesReady", "(I)V"⟩, 15), (⟨"CopyPlatesModel", "reads", "()V"⟩, 15), (⟨"CopyPlatesModel", "takes", "(I)V"⟩, 15), (⟨"CopyPlatesModel", "ranked", "(I)I"⟩, 15), (⟨"CopyPlatesModel", "isFree", "(I)Z"⟩, 15), (⟨"CopyPlatesModel", "isAhead", "(II)Z"⟩, 15), (⟨"CopyPlatesModel", "platesWith", "(I)I"⟩, 15), (⟨"CopyPlatesModel", "linesOf", "(I)I"⟩, 15), (⟨"CopyPlatesModel", "manyThat", "(I)I"⟩, 15), (⟨"CopyPlatesModel", "manyHeld", "()I"⟩, 15), (⟨"CopyPlatesModel", "replates", "()I"⟩, 15), (⟨"CopyPlatesModel", "reason", "(I)I"⟩, 15), (⟨"CopyPlatesModel", "lastAhead", "(I)I"⟩, 15), (⟨"CopyPlatesModel", "comesToNext", "()Z"⟩, 15)]
theorem lw_r4 : ∀ q ∈ lw_privs_4, lw_okq q := List.forall_mem_cons.mpr ⟨lw_p48, List.forall_mem_cons.mpr ⟨lw_p49, List.forall_mem_cons.mpr ⟨lw_p50, List.forall_mem_cons.mpr ⟨lw_p51, List.forall_mem_cons.mpr ⟨lw_p52, List.forall_mem_cons.mpr ⟨lw_p53, List.forall_mem_cons.mpr ⟨lw_p54, List.forall_mem_cons.mpr ⟨lw_p55, List.forall_mem_cons.mpr ⟨lw_p56, List.forall_mem_cons.mpr ⟨lw_p57, List.forall_mem_cons.mpr ⟨lw_p58, List.forall_mem_cons.mpr ⟨lw_p59, List.forall_mem_cons.mpr ⟨lw_p60, List.forall_mem_cons.mpr ⟨lw_p61, List.forall_mem_cons.mpr ⟨lw_p62, List.forall_mem_cons.mpr ⟨lw_p63, fun _ h => absurd h List.not_mem_nil⟩⟩⟩⟩⟩⟩⟩⟩⟩⟩⟩⟩⟩⟩⟩⟩
theorem lw_p64 : lw_okq (⟨"CopyPlatesModel", "readsOrder", "()Z"⟩, 15) := ⟨⟨by decide +kernel, by decide +kernel⟩, List.mem_of_getElem? (i := 591) (by decide +kernel), List.mem_of_getElem? (i := 878) (by decide +kernel), List.mem_of_getElem? (i := 879) (by decide +kernel)⟩
theorem lw_p65 : lw_okq (⟨"CopyPlatesModel", "takesOne", "(I)Z"⟩, 15) := ⟨⟨by decide +kernel, by decide +kernel⟩, List.mem_of_getElem? (i := 591) (by decide +kernel), List.mem_of_getElem? (i := 882) (by decide +kernel), List.mem_of_getElem? (i := 883) (by decide +kernel)⟩
theorem lw_p66 : lw_okq (⟨"CopyPlatesModel", "isHere", "(II)Z"⟩, 15) := ⟨⟨by decide +kernel, by decide +kernel⟩, List.mem_of_getElem? (i := 591) (by decide +kernel), List.mem_of_getElem? (i := 886) (by decide +kernel), List.mem_of_getElem? (i := 887) (by decide +kernel)⟩
theorem lw_p67 : lw_okq (⟨"CopyPlatesModel", "readsPiece", "()Z"⟩, 15) := ⟨⟨by decide +kernel, by decide +kernel⟩, List.mem_of_getElem? (i := 591) (by decide +kernel), List.mem_of_getElem? (i := 890) (by decide +kernel), List.mem_of_getElem? (i := 891) (by decide +kernel)⟩
theorem lw_p68 : lw_okq (⟨"CopyPlatesModel", "readsDigit", "(I)Z"⟩, 15) := ⟨⟨by decide +kernel, by decide +kernel⟩, List.mem_of_getElem? (i := 591) (by decide +kernel), List.mem_of_getElem? (i := 894) (by decide +kernel), List.mem_of_getElem? (i := 895) (by decide +kernel)⟩
theorem lw_p69 : lw_okq (⟨"CopyPlatesModel", "readsNumber", "()Z"⟩, 15) := ⟨⟨by decide +kernel, by decide +kernel⟩, List.mem_of_getElem? (i := 591) (by decide +kernel), List.mem_of_getElem? (i := 898) (by decide +kernel), List.mem_of_getElem? (i := 899) (by decide +kernel)⟩
def lw_privs_5 : List (MethodName × Nat) := [(⟨"CopyPlatesModel", "readsOrder", "()Z"⟩, 15), (⟨"CopyPlatesModel", "takesOne", "(I)Z"⟩, 15), (⟨"CopyPlatesModel", "isHere", "(II)Z"⟩, 15), (⟨"CopyPlatesModel", "readsPiece", "()Z"⟩, 15), (⟨"CopyPlatesModel", "readsDigit", "(I)Z"⟩, 15), (⟨"CopyPlatesModel", "readsNumber", "()Z"⟩, 15)]
theorem lw_r5 : ∀ q ∈ lw_privs_5, lw_okq q := List.forall_mem_cons.mpr ⟨lw_p64, List.forall_mem_cons.mpr ⟨lw_p65, List.forall_mem_cons.mpr ⟨lw_p66, List.forall_mem_cons.mpr ⟨lw_p67, List.forall_mem_cons.mpr ⟨lw_p68, List.forall_mem_cons.mpr ⟨lw_p69, fun _ h => absurd h List.not_mem_nil⟩⟩⟩⟩⟩⟩
def lw_privs : List (MethodName × Nat) := lw_privs_1 ++ (lw_privs_2 ++ (lw_privs_3 ++ (lw_privs_4 ++ (lw_privs_5))))
def lw_tbl : List Cond := k2_sels lw_privs ++ tables_1
theorem lw_privs_ok : ∀ q ∈ lw_privs, lw_okq q := by
  show ∀ q ∈ lw_privs_1 ++ (lw_privs_2 ++ (lw_privs_3 ++ (lw_privs_4 ++ (lw_privs_5)))), lw_okq q
  exact List.forall_mem_append.mpr ⟨lw_r1, List.forall_mem_append.mpr ⟨lw_r2, List.forall_mem_append.mpr ⟨lw_r3, List.forall_mem_append.mpr ⟨lw_r4, lw_r5⟩⟩⟩⟩

def RX0 : String := "CopyPlates$History"
def TX0 : u_T := fun k => match k with
  | 0 => ("CopyPlates$History", "states", "[LCopyPlates$Night;", true)
  | 1 => ("CopyPlates$History", "next", "I", false)
  | _ => ("CopyPlates$History", "changes", "I", false)
def tyX0 : Nat → FieldType := fun k => match k with
  | 0 => .array (.object "CopyPlates$Night")
  | 1 => .int
  | _ => .int
abbrev wsX00 : List Cond := u_ws RX0 TX0 3
theorem nmX0 : ∀ a, a < 3 → ∀ b, b < 3 → a ≠ b → (TX0 a).2.1 ≠ (TX0 b).2.1 := by decide +kernel
theorem tyX0_ok : ∀ k, k < 3 → parseFieldDescriptor (TX0 k).2.2.1 = some (tyX0 k) := by decide +kernel
abbrev cX0_init : ByteArray := prog_2_method_1_code
def yX0_init : MethodName := ⟨RX0, "<init>", "()V"⟩
abbrev cX0_prepare : ByteArray := prog_2_method_2_code
def yX0_prepare : MethodName := ⟨RX0, "prepare", "(LCopyPlates$Night;)V"⟩
abbrev cX0_recordUnlessError : ByteArray := prog_2_method_3_code
def yX0_recordUnlessError : MethodName := ⟨RX0, "recordUnlessError", "(I)I"⟩
abbrev cX0_takeBack : ByteArray := prog_2_method_4_code
def yX0_takeBack : MethodName := ⟨RX0, "takeBack", "(LCopyPlates$Night;)V"⟩
def RX1 : String := "CopyPlates$Night"
def TX1 : u_T := fun k => match k with
  | 0 => ("CopyPlates$Night", "settings", "[I", true)
  | 1 => ("CopyPlates$Night", "minute", "I", false)
  | 2 => ("CopyPlates$Night", "pieces", "[LCopyPlates$Piece;", true)
  | 3 => ("CopyPlates$Night", "pieceCount", "I", false)
  | 4 => ("CopyPlates$Night", "plates", "[LCopyPlates$Plate;", true)
  | _ => ("CopyPlates$Night", "plateCount", "I", false)
def tyX1 : Nat → FieldType := fun k => match k with
  | 0 => .array .int
  | 1 => .int
  | 2 => .array (.object "CopyPlates$Piece")
  | 3 => .int
  | 4 => .array (.object "CopyPlates$Plate")
  | _ => .int
abbrev wsX10 : List Cond := u_ws RX1 TX1 6
theorem nmX1 : ∀ a, a < 6 → ∀ b, b < 6 → a ≠ b → (TX1 a).2.1 ≠ (TX1 b).2.1 := by decide +kernel
theorem tyX1_ok : ∀ k, k < 6 → parseFieldDescriptor (TX1 k).2.2.1 = some (tyX1 k) := by decide +kernel
abbrev cX1_init : ByteArray := prog_3_method_1_code
def yX1_init : MethodName := ⟨RX1, "<init>", "()V"⟩
abbrev cX1_copyFrom : ByteArray := prog_3_method_2_code
def yX1_copyFrom : MethodName := ⟨RX1, "copyFrom", "(LCopyPlates$Night;)V"⟩
abbrev cX1_hasPiece : ByteArray := prog_3_method_3_code
def yX1_hasPiece : MethodName := ⟨RX1, "hasPiece", "(I)Z"⟩
abbrev cX1_isPiece : ByteArray := prog_3_method_4_code
def yX1_isPiece : MethodName := ⟨RX1, "isPiece", "(II)Z"⟩
abbrev cX1_changeSetting : ByteArray := prog_3_method_5_code
def yX1_changeSetting : MethodName := ⟨RX1, "changeSetting", "(II)I"⟩
abbrev cX1_addPiece : ByteArray := prog_3_method_6_code
def yX1_addPiece : MethodName := ⟨RX1, "addPiece", "(IIII)I"⟩
abbrev cX1_addPlate : ByteArray := prog_3_method_7_code
def yX1_addPlate : MethodName := ⟨RX1, "addPlate", "(I)I"⟩
abbrev cX1_turnHold : ByteArray := prog_3_method_8_code
def yX1_turnHold : MethodName := ⟨RX1, "turnHold", "(I)I"⟩
abbrev cX1_killPiece : ByteArray := prog_3_method_9_code
def yX1_killPiece : MethodName := ⟨RX1, "killPiece", "(I)I"⟩
abbrev cX1_passMinutes : ByteArray := prog_3_method_10_code
def yX1_passMinutes : MethodName := ⟨RX1, "passMinutes", "(I)I"⟩
abbrev cX1_passMinute : ByteArray := prog_3_method_11_code
def yX1_passMinute : MethodName := ⟨RX1, "passMinute", "()Z"⟩
abbrev cX1_editAtDesks : ByteArray := prog_3_method_12_code
def yX1_editAtDesks : MethodName := ⟨RX1, "editAtDesks", "()V"⟩
abbrev cX1_readAtLawyer : ByteArray := prog_3_method_13_code
def yX1_readAtLawyer : MethodName := ⟨RX1, "readAtLawyer", "()V"⟩
abbrev cX1_firstAtDesk : ByteArray := prog_3_method_14_code
def yX1_firstAtDesk : MethodName := ⟨RX1, "firstAtDesk", "(I)I"⟩
abbrev cX1_firstAtLawyer : ByteArray := prog_3_method_15_code
def yX1_firstAtLawyer : MethodName := ⟨RX1, "firstAtLawyer", "()I"⟩
abbrev cX1_placeInQueue : ByteArray := prog_3_method_16_code
def yX1_placeInQueue : MethodName := ⟨RX1, "placeInQueue", "(I)I"⟩
abbrev cX1_placeAtDesk : ByteArray := prog_3_method_17_code
def yX1_placeAtDesk : MethodName := ⟨RX1, "placeAtDesk", "(I)I"⟩
abbrev cX1_placeAtLawyer : ByteArray := prog_3_method_18_code
def yX1_placeAtLawyer : MethodName := ⟨RX1, "placeAtLawyer", "(I)I"⟩
abbrev cX1_piecesForPlate : ByteArray := prog_3_method_19_code
def yX1_piecesForPlate : MethodName := ⟨RX1, "piecesForPlate", "()I"⟩
abbrev cX1_linesOf : ByteArray := prog_3_method_20_code
def yX1_linesOf : MethodName := ⟨RX1, "linesOf", "(I)I"⟩
abbrev cX1_takenNow : ByteArray := prog_3_method_21_code
def yX1_takenNow : MethodName := ⟨RX1, "takenNow", "()I"⟩
abbrev cX1_firstByRank : ByteArray := prog_3_method_22_code
def yX1_firstByRank : MethodName := ⟨RX1, "firstByRank", "(I)I"⟩
abbrev cX1_lastTakenAheadOf : ByteArray := prog_3_method_23_code
def yX1_lastTakenAheadOf : MethodName := ⟨RX1, "lastTakenAheadOf", "(I)I"⟩
abbrev cX1_goesAhead : ByteArray := prog_3_method_24_code
def yX1_goesAhead : MethodName := ⟨RX1, "goesAhead", "(II)Z"⟩
abbrev cX1_whyNotOnPlate : ByteArray := prog_3_method_25_code
def yX1_whyNotOnPlate : MethodName := ⟨RX1, "whyNotOnPlate", "(II)I"⟩
abbrev cX1_reasonOf : ByteArray := prog_3_method_26_code
def yX1_reasonOf : MethodName := ⟨RX1, "reasonOf", "(I)I"⟩
abbrev cX1_causeOf : ByteArray := prog_3_method_27_code
def yX1_causeOf : MethodName := ⟨RX1, "causeOf", "(I)I"⟩
abbrev cX1_isMade : ByteArray := prog_3_method_28_code
def yX1_isMade : MethodName := ⟨RX1, "isMade", "(I)Z"⟩
abbrev cX1_nextDue : ByteArray := prog_3_method_29_code
def yX1_nextDue : MethodName := ⟨RX1, "nextDue", "()I"⟩
abbrev cX1_minutesToPlate : ByteArray := prog_3_method_30_code
def yX1_minutesToPlate : MethodName := ⟨RX1, "minutesToPlate", "(I)I"⟩
abbrev cX1_madePlates : ByteArray := prog_3_method_31_code
def yX1_madePlates : MethodName := ⟨RX1, "madePlates", "()I"⟩
abbrev cX1_plateAt : ByteArray := prog_3_method_32_code
def yX1_plateAt : MethodName := ⟨RX1, "plateAt", "(I)I"⟩
abbrev cX1_isOnLatestMade : ByteArray := prog_3_method_33_code
def yX1_isOnLatestMade : MethodName := ⟨RX1, "isOnLatestMade", "(I)Z"⟩
abbrev cX1_tellReplate : ByteArray := prog_3_method_34_code
def yX1_tellReplate : MethodName := ⟨RX1, "tellReplate", "()Z"⟩
abbrev cX1_insertPlate : ByteArray := prog_3_method_35_code
def yX1_insertPlate : MethodName := ⟨RX1, "insertPlate", "(IZ)I"⟩
abbrev cX1_factOfPiece : ByteArray := prog_3_method_36_code
def yX1_factOfPiece : MethodName := ⟨RX1, "factOfPiece", "(II)I"⟩
abbrev cX1_platesWith : ByteArray := prog_3_method_37_code
def yX1_platesWith : MethodName := ⟨RX1, "platesWith", "(I)I"⟩
abbrev cX1_factOfPlate : ByteArray := prog_3_method_38_code
def yX1_factOfPlate : MethodName := ⟨RX1, "factOfPlate", "(II)I"⟩
abbrev cX1_factOfNight : ByteArray := prog_3_method_39_code
def yX1_factOfNight : MethodName := ⟨RX1, "factOfNight", "(I)I"⟩
abbrev cX1_piecesThatAre : ByteArray := prog_3_method_40_code
def yX1_piecesThatAre : MethodName := ⟨RX1, "piecesThatAre", "(I)I"⟩
abbrev cX1_heldPieces : ByteArray := prog_3_method_41_code
def yX1_heldPieces : MethodName := ⟨RX1, "heldPieces", "()I"⟩
abbrev cX1_replates : ByteArray := prog_3_method_42_code
def yX1_replates : MethodName := ⟨RX1, "replates", "()I"⟩
def RX2 : String := "CopyPlates$OrderReader"
def TX2 : u_T := fun k => match k with
  | 0 => ("CopyPlates$OrderReader", "pad", "LCopyPlates$Pad;", true)
  | 1 => ("CopyPlates$OrderReader", "place", "I", false)
  | 2 => ("CopyPlates$OrderReader", "kind", "C", false)
  | 3 => ("CopyPlates$OrderReader", "number", "I", false)
  | 4 => ("CopyPlates$OrderReader", "desk", "I", false)
  | 5 => ("CopyPlates$OrderReader", "rank", "I", false)
  | _ => ("CopyPlates$OrderReader", "legal", "I", false)
def tyX2 : Nat → FieldType := fun k => match k with
  | 0 => .object "CopyPlates$Pad"
  | 1 => .int
  | 2 => .char
  | 3 => .int
  | 4 => .int
  | 5 => .int
  | _ => .int
abbrev wsX20 : List Cond := u_ws RX2 TX2 7
theorem nmX2 : ∀ a, a < 7 → ∀ b, b < 7 → a ≠ b → (TX2 a).2.1 ≠ (TX2 b).2.1 := by decide +kernel
theorem tyX2_ok : ∀ k, k < 7 → parseFieldDescriptor (TX2 k).2.2.1 = some (tyX2 k) := by decide +kernel
abbrev cX2_init : ByteArray := prog_4_method_1_code
def yX2_init : MethodName := ⟨RX2, "<init>", "(LCopyPlates$Pad;)V"⟩
abbrev cX2_goToStart : ByteArray := prog_4_method_2_code
def yX2_goToStart : MethodName := ⟨RX2, "goToStart", "()V"⟩
abbrev cX2_findFault : ByteArray := prog_4_method_3_code
def yX2_findFault : MethodName := ⟨RX2, "findFault", "()I"⟩
abbrev cX2_readOrder : ByteArray := prog_4_method_4_code
def yX2_readOrder : MethodName := ⟨RX2, "readOrder", "()Z"⟩
abbrev cX2_readPiece : ByteArray := prog_4_method_5_code
def yX2_readPiece : MethodName := ⟨RX2, "readPiece", "()Z"⟩
abbrev cX2_readNumber : ByteArray := prog_4_method_6_code
def yX2_readNumber : MethodName := ⟨RX2, "readNumber", "()Z"⟩
abbrev cX2_readSign : ByteArray := prog_4_method_7_code
def yX2_readSign : MethodName := ⟨RX2, "readSign", "(C)Z"⟩
abbrev cX2_digitHere : ByteArray := prog_4_method_8_code
def yX2_digitHere : MethodName := ⟨RX2, "digitHere", "()I"⟩
def RX3 : String := "CopyPlates$Pad"
def TX3 : u_T := fun k => match k with
  | 0 => ("CopyPlates$Pad", "characters", "[C", true)
  | _ => ("CopyPlates$Pad", "length", "I", false)
def tyX3 : Nat → FieldType := fun k => match k with
  | 0 => .array .char
  | _ => .int
abbrev wsX30 : List Cond := u_ws RX3 TX3 2
theorem nmX3 : ∀ a, a < 2 → ∀ b, b < 2 → a ≠ b → (TX3 a).2.1 ≠ (TX3 b).2.1 := by decide +kernel
theorem tyX3_ok : ∀ k, k < 2 → parseFieldDescriptor (TX3 k).2.2.1 = some (tyX3 k) := by decide +kernel
abbrev cX3_init : ByteArray := prog_5_method_1_code
def yX3_init : MethodName := ⟨RX3, "<init>", "()V"⟩
abbrev cX3_append : ByteArray := prog_5_method_2_code
def yX3_append : MethodName := ⟨RX3, "append", "(J)I"⟩
abbrev cX3_charactersIn : ByteArray := prog_5_method_3_code
def yX3_charactersIn : MethodName := ⟨RX3, "charactersIn", "(J)I"⟩
abbrev cX3_empty : ByteArray := prog_5_method_4_code
def yX3_empty : MethodName := ⟨RX3, "empty", "()I"⟩
abbrev cX3_characterAt : ByteArray := prog_5_method_5_code
def yX3_characterAt : MethodName := ⟨RX3, "characterAt", "(I)C"⟩
def RX4 : String := "CopyPlates$Piece"
def TX4 : u_T := fun k => match k with
  | 0 => ("CopyPlates$Piece", "desk", "I", false)
  | 1 => ("CopyPlates$Piece", "lines", "I", false)
  | 2 => ("CopyPlates$Piece", "rank", "I", false)
  | 3 => ("CopyPlates$Piece", "legal", "Z", false)
  | 4 => ("CopyPlates$Piece", "state", "I", false)
  | 5 => ("CopyPlates$Piece", "held", "Z", false)
  | 6 => ("CopyPlates$Piece", "edited", "I", false)
  | 7 => ("CopyPlates$Piece", "read", "I", false)
  | 8 => ("CopyPlates$Piece", "readyMinute", "I", false)
  | _ => ("CopyPlates$Piece", "lawyerTurn", "I", false)
def tyX4 : Nat → FieldType := fun k => match k with
  | 0 => .int
  | 1 => .int
  | 2 => .int
  | 3 => .boolean
  | 4 => .int
  | 5 => .boolean
  | 6 => .int
  | 7 => .int
  | 8 => .int
  | _ => .int
abbrev wsX40 : List Cond := u_ws RX4 TX4 10
theorem nmX4 : ∀ a, a < 10 → ∀ b, b < 10 → a ≠ b → (TX4 a).2.1 ≠ (TX4 b).2.1 := by decide +kernel
theorem tyX4_ok : ∀ k, k < 10 → parseFieldDescriptor (TX4 k).2.2.1 = some (tyX4 k) := by decide +kernel
abbrev cX4_init : ByteArray := prog_6_method_1_code
def yX4_init : MethodName := ⟨RX4, "<init>", "()V"⟩
abbrev cX4_come : ByteArray := prog_6_method_2_code
def yX4_come : MethodName := ⟨RX4, "come", "(IIIZ)V"⟩
abbrev cX4_copyFrom : ByteArray := prog_6_method_3_code
def yX4_copyFrom : MethodName := ⟨RX4, "copyFrom", "(LCopyPlates$Piece;)V"⟩
abbrev cX4_editFor : ByteArray := prog_6_method_4_code
def yX4_editFor : MethodName := ⟨RX4, "editFor", "(II)V"⟩
abbrev cX4_readOneMinute : ByteArray := prog_6_method_5_code
def yX4_readOneMinute : MethodName := ⟨RX4, "readOneMinute", "(II)V"⟩
abbrev cX4_becomeReady : ByteArray := prog_6_method_6_code
def yX4_becomeReady : MethodName := ⟨RX4, "becomeReady", "(I)V"⟩
abbrev cX4_isForPlate : ByteArray := prog_6_method_7_code
def yX4_isForPlate : MethodName := ⟨RX4, "isForPlate", "()Z"⟩
def RX5 : String := "CopyPlates$Plate"
def TX5 : u_T := fun k => match k with
  | 0 => ("CopyPlates$Plate", "minute", "I", false)
  | 1 => ("CopyPlates$Plate", "replate", "Z", false)
  | _ => ("CopyPlates$Plate", "pieces", "I", false)
def tyX5 : Nat → FieldType := fun k => match k with
  | 0 => .int
  | 1 => .boolean
  | _ => .int
abbrev wsX50 : List Cond := u_ws RX5 TX5 3
theorem nmX5 : ∀ a, a < 3 → ∀ b, b < 3 → a ≠ b → (TX5 a).2.1 ≠ (TX5 b).2.1 := by decide +kernel
theorem tyX5_ok : ∀ k, k < 3 → parseFieldDescriptor (TX5 k).2.2.1 = some (tyX5 k) := by decide +kernel
abbrev cX5_init : ByteArray := prog_7_method_1_code
def yX5_init : MethodName := ⟨RX5, "<init>", "()V"⟩
abbrev cX5_tell : ByteArray := prog_7_method_2_code
def yX5_tell : MethodName := ⟨RX5, "tell", "(IZ)V"⟩
abbrev cX5_copyFrom : ByteArray := prog_7_method_3_code
def yX5_copyFrom : MethodName := ⟨RX5, "copyFrom", "(LCopyPlates$Plate;)V"⟩
def RX6 : String := "CopyPlates"
def TX6 : u_T := fun k => match k with
  | 0 => ("CopyPlates", "night", "LCopyPlates$Night;", true)
  | 1 => ("CopyPlates", "ahead", "LCopyPlates$Night;", true)
  | 2 => ("CopyPlates", "history", "LCopyPlates$History;", true)
  | 3 => ("CopyPlates", "slots", "[LCopyPlates$Night;", true)
  | 4 => ("CopyPlates", "pad", "LCopyPlates$Pad;", true)
  | _ => ("CopyPlates", "reader", "LCopyPlates$OrderReader;", true)
def tyX6 : Nat → FieldType := fun k => match k with
  | 0 => .object "CopyPlates$Night"
  | 1 => .object "CopyPlates$Night"
  | 2 => .object "CopyPlates$History"
  | 3 => .array (.object "CopyPlates$Night")
  | 4 => .object "CopyPlates$Pad"
  | _ => .object "CopyPlates$OrderReader"
abbrev wsX60 : List Cond := u_ws RX6 TX6 6
theorem nmX6 : ∀ a, a < 6 → ∀ b, b < 6 → a ≠ b → (TX6 a).2.1 ≠ (TX6 b).2.1 := by decide +kernel
theorem tyX6_ok : ∀ k, k < 6 → parseFieldDescriptor (TX6 k).2.2.1 = some (tyX6 k) := by decide +kernel
abbrev cX6_init : ByteArray := prog_1_method_1_code
def yX6_init : MethodName := ⟨RX6, "<init>", "()V"⟩
abbrev cX6_set : ByteArray := prog_1_method_2_code
def yX6_set : MethodName := ⟨RX6, "set", "(II)I"⟩
abbrev cX6_piece : ByteArray := prog_1_method_3_code
def yX6_piece : MethodName := ⟨RX6, "piece", "(IIII)I"⟩
abbrev cX6_plate : ByteArray := prog_1_method_4_code
def yX6_plate : MethodName := ⟨RX6, "plate", "(I)I"⟩
abbrev cX6_hold : ByteArray := prog_1_method_5_code
def yX6_hold : MethodName := ⟨RX6, "hold", "(I)I"⟩
abbrev cX6_kill : ByteArray := prog_1_method_6_code
def yX6_kill : MethodName := ⟨RX6, "kill", "(I)I"⟩
abbrev cX6_pass : ByteArray := prog_1_method_7_code
def yX6_pass : MethodName := ⟨RX6, "pass", "(I)I"⟩
abbrev cX6_ofPiece : ByteArray := prog_1_method_8_code
def yX6_ofPiece : MethodName := ⟨RX6, "ofPiece", "(II)I"⟩
abbrev cX6_ofPlate : ByteArray := prog_1_method_9_code
def yX6_ofPlate : MethodName := ⟨RX6, "ofPlate", "(II)I"⟩
abbrev cX6_count : ByteArray := prog_1_method_10_code
def yX6_count : MethodName := ⟨RX6, "count", "(I)I"⟩
abbrev cX6_why : ByteArray := prog_1_method_11_code
def yX6_why : MethodName := ⟨RX6, "why", "(II)I"⟩
abbrev cX6_plateNow : ByteArray := prog_1_method_12_code
def yX6_plateNow : MethodName := ⟨RX6, "plateNow", "()I"⟩
abbrev cX6_readyIn : ByteArray := prog_1_method_13_code
def yX6_readyIn : MethodName := ⟨RX6, "readyIn", "(I)I"⟩
abbrev cX6_leastRoom : ByteArray := prog_1_method_14_code
def yX6_leastRoom : MethodName := ⟨RX6, "leastRoom", "()I"⟩
abbrev cX6_nextPlate : ByteArray := prog_1_method_15_code
def yX6_nextPlate : MethodName := ⟨RX6, "nextPlate", "()I"⟩
abbrev cX6_goAheadToPlate : ByteArray := prog_1_method_16_code
def yX6_goAheadToPlate : MethodName := ⟨RX6, "goAheadToPlate", "(I)V"⟩
abbrev cX6_put : ByteArray := prog_1_method_17_code
def yX6_put : MethodName := ⟨RX6, "put", "(J)I"⟩
abbrev cX6_wipe : ByteArray := prog_1_method_18_code
def yX6_wipe : MethodName := ⟨RX6, "wipe", "()I"⟩
abbrev cX6_fault : ByteArray := prog_1_method_19_code
def yX6_fault : MethodName := ⟨RX6, "fault", "()I"⟩
abbrev cX6_carryOut : ByteArray := prog_1_method_20_code
def yX6_carryOut : MethodName := ⟨RX6, "carryOut", "()I"⟩
abbrev cX6_carryOrderOut : ByteArray := prog_1_method_21_code
def yX6_carryOrderOut : MethodName := ⟨RX6, "carryOrderOut", "()I"⟩
abbrev cX6_undo : ByteArray := prog_1_method_22_code
def yX6_undo : MethodName := ⟨RX6, "undo", "()I"⟩
abbrev cX6_save : ByteArray := prog_1_method_23_code
def yX6_save : MethodName := ⟨RX6, "save", "(I)I"⟩
abbrev cX6_restore : ByteArray := prog_1_method_24_code
def yX6_restore : MethodName := ⟨RX6, "restore", "(I)I"⟩
abbrev cX6_isInSet : ByteArray := prog_1_method_25_code
def yX6_isInSet : MethodName := ⟨RX6, "isInSet", "(II)Z"⟩
abbrev cX6_oneIf : ByteArray := prog_1_method_26_code
def yX6_oneIf : MethodName := ⟨RX6, "oneIf", "(Z)I"⟩
def RX7 : String := "CopyPlatesModel"
def TX7 : u_T := fun k => match k with
  | 0 => ("CopyPlatesModel", "all", "[I", true)
  | 1 => ("CopyPlatesModel", "kept", "[I", true)
  | 2 => ("CopyPlatesModel", "tried", "[I", true)
  | 3 => ("CopyPlatesModel", "history", "[I", true)
  | 4 => ("CopyPlatesModel", "historyLong", "I", false)
  | 5 => ("CopyPlatesModel", "slots", "[I", true)
  | 6 => ("CopyPlatesModel", "isSaved", "[I", true)
  | 7 => ("CopyPlatesModel", "taken", "I", false)
  | 8 => ("CopyPlatesModel", "takenLines", "I", false)
  | 9 => ("CopyPlatesModel", "pad", "[I", true)
  | 10 => ("CopyPlatesModel", "padLong", "I", false)
  | 11 => ("CopyPlatesModel", "spot", "I", false)
  | 12 => ("CopyPlatesModel", "isDone", "Z", false)
  | 13 => ("CopyPlatesModel", "told", "I", false)
  | _ => ("CopyPlatesModel", "number", "I", false)
def tyX7 : Nat → FieldType := fun k => match k with
  | 0 => .array .int
  | 1 => .array .int
  | 2 => .array .int
  | 3 => .array .int
  | 4 => .int
  | 5 => .array .int
  | 6 => .array .int
  | 7 => .int
  | 8 => .int
  | 9 => .array .int
  | 10 => .int
  | 11 => .int
  | 12 => .boolean
  | 13 => .int
  | _ => .int
abbrev wsX70 : List Cond := u_ws RX7 TX7 15
theorem nmX7 : ∀ a, a < 15 → ∀ b, b < 15 → a ≠ b → (TX7 a).2.1 ≠ (TX7 b).2.1 := by decide +kernel
theorem tyX7_ok : ∀ k, k < 15 → parseFieldDescriptor (TX7 k).2.2.1 = some (tyX7 k) := by decide +kernel
abbrev cX7_init : ByteArray := prog_9_method_1_code
def yX7_init : MethodName := ⟨RX7, "<init>", "()V"⟩
abbrev cX7_in : ByteArray := prog_9_method_3_code
def yX7_in : MethodName := ⟨RX7, "in", "(JJJ)Z"⟩
abbrev cX7_copy : ByteArray := prog_9_method_4_code
def yX7_copy : MethodName := ⟨RX7, "copy", "([I[I)V"⟩
abbrev cX7_ends : ByteArray := prog_9_method_5_code
def yX7_ends : MethodName := ⟨RX7, "ends", "(I)I"⟩
abbrev cX7_isPiece : ByteArray := prog_9_method_6_code
def yX7_isPiece : MethodName := ⟨RX7, "isPiece", "(I)Z"⟩
abbrev cX7_of : ByteArray := prog_9_method_7_code
def yX7_of : MethodName := ⟨RX7, "of", "(II)I"⟩
abbrev cX7_sets : ByteArray := prog_9_method_8_code
def yX7_sets : MethodName := ⟨RX7, "sets", "(III)V"⟩
abbrev cX7_inQueue : ByteArray := prog_9_method_9_code
def yX7_inQueue : MethodName := ⟨RX7, "inQueue", "(II)I"⟩
abbrev cX7_queueOf : ByteArray := prog_9_method_10_code
def yX7_queueOf : MethodName := ⟨RX7, "queueOf", "(I)I"⟩
abbrev cX7_placeOf : ByteArray := prog_9_method_11_code
def yX7_placeOf : MethodName := ⟨RX7, "placeOf", "(I)I"⟩
abbrev cX7_comesTo : ByteArray := prog_9_method_12_code
def yX7_comesTo : MethodName := ⟨RX7, "comesTo", "(II)V"⟩
abbrev cX7_leaves : ByteArray := prog_9_method_13_code
def yX7_leaves : MethodName := ⟨RX7, "leaves", "(I)V"⟩
abbrev cX7_becomesReady : ByteArray := prog_9_method_14_code
def yX7_becomesReady : MethodName := ⟨RX7, "becomesReady", "(I)V"⟩
abbrev cX7_edits : ByteArray := prog_9_method_15_code
def yX7_edits : MethodName := ⟨RX7, "edits", "(I)V"⟩
abbrev cX7_reads : ByteArray := prog_9_method_16_code
def yX7_reads : MethodName := ⟨RX7, "reads", "()V"⟩
abbrev cX7_isFree : ByteArray := prog_9_method_17_code
def yX7_isFree : MethodName := ⟨RX7, "isFree", "(I)Z"⟩
abbrev cX7_isAhead : ByteArray := prog_9_method_18_code
def yX7_isAhead : MethodName := ⟨RX7, "isAhead", "(II)Z"⟩
abbrev cX7_ranked : ByteArray := prog_9_method_19_code
def yX7_ranked : MethodName := ⟨RX7, "ranked", "(I)I"⟩
abbrev cX7_takes : ByteArray := prog_9_method_20_code
def yX7_takes : MethodName := ⟨RX7, "takes", "(I)V"⟩
abbrev cX7_plateAt : ByteArray := prog_9_method_21_code
def yX7_plateAt : MethodName := ⟨RX7, "plateAt", "(II)I"⟩
abbrev cX7_due : ByteArray := prog_9_method_22_code
def yX7_due : MethodName := ⟨RX7, "due", "(I)I"⟩
abbrev cX7_works : ByteArray := prog_9_method_23_code
def yX7_works : MethodName := ⟨RX7, "works", "()V"⟩
abbrev cX7_passes : ByteArray := prog_9_method_24_code
def yX7_passes : MethodName := ⟨RX7, "passes", "()I"⟩
abbrev cX7_doPiece : ByteArray := prog_9_method_25_code
def yX7_doPiece : MethodName := ⟨RX7, "doPiece", "(IIII)I"⟩
abbrev cX7_tells : ByteArray := prog_9_method_26_code
def yX7_tells : MethodName := ⟨RX7, "tells", "(II)I"⟩
abbrev cX7_doPlate : ByteArray := prog_9_method_27_code
def yX7_doPlate : MethodName := ⟨RX7, "doPlate", "(I)I"⟩
abbrev cX7_doHold : ByteArray := prog_9_method_28_code
def yX7_doHold : MethodName := ⟨RX7, "doHold", "(I)I"⟩
abbrev cX7_isOnLatest : ByteArray := prog_9_method_29_code
def yX7_isOnLatest : MethodName := ⟨RX7, "isOnLatest", "(I)Z"⟩
abbrev cX7_isDueSoon : ByteArray := prog_9_method_30_code
def yX7_isDueSoon : MethodName := ⟨RX7, "isDueSoon", "()Z"⟩
abbrev cX7_doKill : ByteArray := prog_9_method_31_code
def yX7_doKill : MethodName := ⟨RX7, "doKill", "(I)I"⟩
abbrev cX7_doPass : ByteArray := prog_9_method_32_code
def yX7_doPass : MethodName := ⟨RX7, "doPass", "(I)I"⟩
abbrev cX7_isSetting : ByteArray := prog_9_method_33_code
def yX7_isSetting : MethodName := ⟨RX7, "isSetting", "(II)Z"⟩
abbrev cX7_set : ByteArray := prog_9_method_34_code
def yX7_set : MethodName := ⟨RX7, "set", "(II)I"⟩
abbrev cX7_piece : ByteArray := prog_9_method_35_code
def yX7_piece : MethodName := ⟨RX7, "piece", "(IIII)I"⟩
abbrev cX7_plate : ByteArray := prog_9_method_36_code
def yX7_plate : MethodName := ⟨RX7, "plate", "(I)I"⟩
abbrev cX7_hold : ByteArray := prog_9_method_37_code
def yX7_hold : MethodName := ⟨RX7, "hold", "(I)I"⟩
abbrev cX7_kill : ByteArray := prog_9_method_38_code
def yX7_kill : MethodName := ⟨RX7, "kill", "(I)I"⟩
abbrev cX7_pass : ByteArray := prog_9_method_39_code
def yX7_pass : MethodName := ⟨RX7, "pass", "(I)I"⟩
abbrev cX7_platesWith : ByteArray := prog_9_method_40_code
def yX7_platesWith : MethodName := ⟨RX7, "platesWith", "(I)I"⟩
abbrev cX7_ofPiece : ByteArray := prog_9_method_41_code
def yX7_ofPiece : MethodName := ⟨RX7, "ofPiece", "(II)I"⟩
abbrev cX7_linesOf : ByteArray := prog_9_method_42_code
def yX7_linesOf : MethodName := ⟨RX7, "linesOf", "(I)I"⟩
abbrev cX7_ofPlate : ByteArray := prog_9_method_43_code
def yX7_ofPlate : MethodName := ⟨RX7, "ofPlate", "(II)I"⟩
abbrev cX7_manyThat : ByteArray := prog_9_method_44_code
def yX7_manyThat : MethodName := ⟨RX7, "manyThat", "(I)I"⟩
abbrev cX7_manyHeld : ByteArray := prog_9_method_45_code
def yX7_manyHeld : MethodName := ⟨RX7, "manyHeld", "()I"⟩
abbrev cX7_replates : ByteArray := prog_9_method_46_code
def yX7_replates : MethodName := ⟨RX7, "replates", "()I"⟩
abbrev cX7_count : ByteArray := prog_9_method_47_code
def yX7_count : MethodName := ⟨RX7, "count", "(I)I"⟩
abbrev cX7_lastAhead : ByteArray := prog_9_method_48_code
def yX7_lastAhead : MethodName := ⟨RX7, "lastAhead", "(I)I"⟩
abbrev cX7_reason : ByteArray := prog_9_method_49_code
def yX7_reason : MethodName := ⟨RX7, "reason", "(I)I"⟩
abbrev cX7_why : ByteArray := prog_9_method_50_code
def yX7_why : MethodName := ⟨RX7, "why", "(II)I"⟩
abbrev cX7_plateNow : ByteArray := prog_9_method_51_code
def yX7_plateNow : MethodName := ⟨RX7, "plateNow", "()I"⟩
abbrev cX7_readyIn : ByteArray := prog_9_method_52_code
def yX7_readyIn : MethodName := ⟨RX7, "readyIn", "(I)I"⟩
abbrev cX7_comesToNext : ByteArray := prog_9_method_53_code
def yX7_comesToNext : MethodName := ⟨RX7, "comesToNext", "()Z"⟩
abbrev cX7_leastRoom : ByteArray := prog_9_method_54_code
def yX7_leastRoom : MethodName := ⟨RX7, "leastRoom", "()I"⟩
abbrev cX7_nextPlate : ByteArray := prog_9_method_55_code
def yX7_nextPlate : MethodName := ⟨RX7, "nextPlate", "()I"⟩
abbrev cX7_put : ByteArray := prog_9_method_56_code
def yX7_put : MethodName := ⟨RX7, "put", "(J)I"⟩
abbrev cX7_wipe : ByteArray := prog_9_method_57_code
def yX7_wipe : MethodName := ⟨RX7, "wipe", "()I"⟩
abbrev cX7_isHere : ByteArray := prog_9_method_58_code
def yX7_isHere : MethodName := ⟨RX7, "isHere", "(II)Z"⟩
abbrev cX7_takesOne : ByteArray := prog_9_method_59_code
def yX7_takesOne : MethodName := ⟨RX7, "takesOne", "(I)Z"⟩
abbrev cX7_readsDigit : ByteArray := prog_9_method_60_code
def yX7_readsDigit : MethodName := ⟨RX7, "readsDigit", "(I)Z"⟩
abbrev cX7_readsNumber : ByteArray := prog_9_method_61_code
def yX7_readsNumber : MethodName := ⟨RX7, "readsNumber", "()Z"⟩
abbrev cX7_readsPiece : ByteArray := prog_9_method_62_code
def yX7_readsPiece : MethodName := ⟨RX7, "readsPiece", "()Z"⟩
abbrev cX7_readsOrder : ByteArray := prog_9_method_63_code
def yX7_readsOrder : MethodName := ⟨RX7, "readsOrder", "()Z"⟩
abbrev cX7_fault : ByteArray := prog_9_method_64_code
def yX7_fault : MethodName := ⟨RX7, "fault", "()I"⟩
abbrev cX7_carryOut : ByteArray := prog_9_method_65_code
def yX7_carryOut : MethodName := ⟨RX7, "carryOut", "()I"⟩
abbrev cX7_undo : ByteArray := prog_9_method_66_code
def yX7_undo : MethodName := ⟨RX7, "undo", "()I"⟩
abbrev cX7_save : ByteArray := prog_9_method_67_code
def yX7_save : MethodName := ⟨RX7, "save", "(I)I"⟩
abbrev cX7_restore : ByteArray := prog_9_method_68_code
def yX7_restore : MethodName := ⟨RX7, "restore", "(I)I"⟩
def RL : String := "CopyPlatesLaw"
abbrev cL_law : ByteArray := code
def yL_law : MethodName := ⟨RL, "law", "([I)Z"⟩
abbrev vwCl : List vw_C := [(RX0, TX0, 3), (RX1, TX1, 6), (RX2, TX2, 7), (RX3, TX3, 2), (RX4, TX4, 10), (RX5, TX5, 3), (RX6, TX6, 6), (RX7, TX7, 15)]
end
section
/-! CORE: one memory of numbers and one of references for all cells that the law makes; a judgement cp_G at a frame over them; rows for the instructions -/
abbrev cp_Mem : Type := Nat → Nat → Int32
abbrev cp_Rem : Type := Nat → Nat → Option Nat
abbrev cp_Shp : Type := Nat → Nat × Nat
/-- the fixed numbers of a run: classes and slots, array classes, the first cell of ours, the cells of the three tables -/
abbrev cp_En : Type := va_G × (Nat → ClassId) × Nat × (Nat → Nat)
abbrev cp_D (E : cp_En) : va_G := E.1
abbrev cp_cs (E : cp_En) : Nat → ClassId := E.2.1
abbrev cp_b0 (E : cp_En) : Nat := E.2.2.1
abbrev cp_ts (E : cp_En) : Nat → Nat := E.2.2.2
def cp_A (E : cp_En) : Nat → Prop := fun q => cp_b0 E ≤ q
def cp_ty (E : cp_En) : List (ClassId × FieldType) := [(cp_cs E 9, .int), (cp_cs E 10, .char), (cp_cs E 11, .object "CopyPlates$Night"), (cp_cs E 12, .object "CopyPlates$Piece"), (cp_cs E 13, .object "CopyPlates$Plate")]
/-- which fields are references -/
def cp_rf (ci j : Nat) : Bool := match ci with
  | 0 => j == 0
  | 1 => j == 0 || j == 2 || j == 4
  | 2 => j == 0
  | 3 => j == 0
  | 6 => true
  | 7 => j == 0 || j == 1 || j == 2 || j == 3 || j == 5 || j == 6 || j == 9
  | _ => false
def cp_nf (ci : Nat) : Nat := match ci with
  | 0 => 3
  | 1 => 6
  | 2 => 7
  | 3 => 2
  | 4 => 10
  | 5 => 3
  | 6 => 6
  | _ => 15
def cp_fv (ci : Nat) (i : Nat → Int32) (r : Nat → Option Nat) (j : Nat) : Value := if cp_rf ci j = true then va_rf (r j) else .int (i j)
def cp_fs (ci : Nat) (i : Nat → Int32) (r : Nat → Option Nat) : List Value := (List.range (cp_nf ci)).map (cp_fv ci i r)
/-- what a cell of kind k holds: 1 to 8 an object of class k - 1, 9 numbers, 10 characters, 11 to 13 references -/
def cp_e (cs : Nat → ClassId) (k : Nat × Nat) (i : Nat → Int32) (r : Nat → Option Nat) : va_E :=
  if k.1 ≤ 8 then .inr (k.1 - 1, cp_fs (k.1 - 1) i r) else if k.1 ≤ 10 then .inl (cs k.1, k.2, .inl i) else .inl (cs k.1, k.2, .inr (.inr (.inr (.inr r))))
def cp_WL (E : cp_En) (cnt : Nat) (sh : cp_Shp) (I : cp_Mem) (R : cp_Rem) : va_W := va_pl (List.range' (cp_b0 E) cnt) (fun a => cp_e (cp_cs E) (sh a) (I a) (R a))
def cp_own (E : cp_En) (cnt : Nat) (sh : cp_Shp) : Prop := ∀ a, (sh a).1 ≠ 0 ↔ (cp_b0 E ≤ a ∧ a < cp_b0 E + cnt)
def cp_PW (E : cp_En) (cnt : Nat) (sh : cp_Shp) (I : cp_Mem) (R : cp_Rem) (H : Heap) : Prop := cp_own E cnt sh ∧ H.size = cp_b0 E + cnt ∧ va_P (cp_D E) vwCl (cp_WL E cnt sh I R) H
theorem cp_WL_get (E : cp_En) (cnt : Nat) (sh : cp_Shp) (I : cp_Mem) (R : cp_Rem) {k : Nat} (h : k < cnt) : (cp_WL E cnt sh I R)[k]? = some (cp_b0 E + k, cp_e (cp_cs E) (sh (cp_b0 E + k)) (I (cp_b0 E + k)) (R (cp_b0 E + k))) := by
  unfold cp_WL va_pl
  rw [List.getElem?_map, List.getElem?_range' h]
  simp
theorem cp_WL_len (E : cp_En) (cnt : Nat) (sh : cp_Shp) (I : cp_Mem) (R : cp_Rem) : (cp_WL E cnt sh I R).length = cnt := by
  simp [cp_WL, va_pl]
theorem cp_WL_at (E : cp_En) (cnt : Nat) (sh : cp_Shp) (I : cp_Mem) (R : cp_Rem) {a : Nat} (h : cp_b0 E ≤ a ∧ a < cp_b0 E + cnt) : (cp_WL E cnt sh I R)[a - cp_b0 E]? = some (a, cp_e (cp_cs E) (sh a) (I a) (R a)) := by
  have h1 := cp_WL_get E cnt sh I R (k := a - cp_b0 E) (by omega)
  rw [show cp_b0 E + (a - cp_b0 E) = a by omega] at h1
  exact h1
theorem cp_WL_D (E : cp_En) (cnt : Nat) (sh : cp_Shp) (I : cp_Mem) (R : cp_Rem) : va_D (cp_A E) (cp_WL E cnt sh I R) := by
  have key : ∀ (k : Nat) (q : Nat × va_E), (cp_WL E cnt sh I R)[k]? = some q → q.1 = cp_b0 E + k := by
    intro k q hk
    have hl := (List.getElem?_eq_some_iff.mp hk).1
    rw [cp_WL_len] at hl
    rw [cp_WL_get E cnt sh I R hl] at hk
    cases hk
    rfl
  refine ⟨fun i j p q hi hj hpq => ?_, fun k q hk => ?_⟩
  · have h1 := key i p hi
    have h2 := key j q hj
    omega
  · have h1 := key k q hk
    show cp_b0 E ≤ q.1
    omega
theorem cp_WL_set {E : cp_En} {cnt : Nat} {sh : cp_Shp} {I I' : cp_Mem} {R R' : cp_Rem} {a : Nat} {e : va_E} (h : cp_b0 E ≤ a ∧ a < cp_b0 E + cnt) (he : e = cp_e (cp_cs E) (sh a) (I' a) (R' a)) (ho : ∀ q, q ≠ a → I' q = I q ∧ R' q = R q) : (cp_WL E cnt sh I R).set (a - cp_b0 E) (a, e) = cp_WL E cnt sh I' R' := by
  apply List.ext_getElem?
  intro k
  by_cases hk : k = a - cp_b0 E
  · subst hk
    rw [List.getElem?_set_self (by rw [cp_WL_len]; omega), cp_WL_at E cnt sh I' R' h, he]
  · rw [List.getElem?_set_ne (Ne.symm hk)]
    by_cases hl : k < cnt
    · rw [cp_WL_get E cnt sh I R hl, cp_WL_get E cnt sh I' R' hl]
      obtain ⟨h1, h2⟩ := ho (cp_b0 E + k) (by omega)
      rw [h1, h2]
    · rw [List.getElem?_eq_none (by rw [cp_WL_len]; omega), List.getElem?_eq_none (by rw [cp_WL_len]; omega)]
/-- writing one number, one reference -/
def cp_wi (I : cp_Mem) (a j : Nat) (v : Int32) : cp_Mem := fun a' j' => if a' = a ∧ j' = j then v else I a' j'
def cp_wr (R : cp_Rem) (a j : Nat) (v : Option Nat) : cp_Rem := fun a' j' => if a' = a ∧ j' = j then v else R a' j'
theorem cp_wi_s (I : cp_Mem) (a j : Nat) (v : Int32) : cp_wi I a j v a j = v := by simp [cp_wi]
theorem cp_wi_a (I : cp_Mem) (a j : Nat) (v : Int32) {a' : Nat} (h : a' ≠ a) : cp_wi I a j v a' = I a' := by
  funext q
  simp [cp_wi, h]
theorem cp_wr_a (R : cp_Rem) (a j : Nat) (v : Option Nat) {a' : Nat} (h : a' ≠ a) : cp_wr R a j v a' = R a' := by
  funext q
  simp [cp_wr, h]
theorem cp_fs_len (ci : Nat) (i : Nat → Int32) (r : Nat → Option Nat) : (cp_fs ci i r).length = cp_nf ci := by simp [cp_fs]
theorem cp_fs_get (ci : Nat) (i : Nat → Int32) (r : Nat → Option Nat) {j : Nat} (h : j < cp_nf ci) : (cp_fs ci i r)[j]? = some (cp_fv ci i r j) := by
  unfold cp_fs
  rw [List.getElem?_map, List.getElem?_range h]
  rfl
theorem cp_fs_set (ci : Nat) {i i' : Nat → Int32} {r r' : Nat → Option Nat} {j : Nat} {v : Value} (hv : v = cp_fv ci i' r' j) (ho : ∀ q, q ≠ j → cp_fv ci i' r' q = cp_fv ci i r q) : (cp_fs ci i r).set j v = cp_fs ci i' r' := by
  apply List.ext_getElem?
  intro k
  by_cases hl : k < cp_nf ci
  · by_cases hk : k = j
    · subst hk
      rw [List.getElem?_set_self (by rw [cp_fs_len]; exact hl), cp_fs_get ci i' r' hl, hv]
    · rw [List.getElem?_set_ne (Ne.symm hk), cp_fs_get ci i r hl, cp_fs_get ci i' r' hl, ho k hk]
  · rw [List.getElem?_eq_none (by rw [List.length_set, cp_fs_len]; omega), List.getElem?_eq_none (by rw [cp_fs_len]; omega)]
/-- the tables' words that stay good -/
def cp_TG : List Cond := lw_tbl.filter goodWord
theorem cp_TG_in {i : Nat} {w : Cond} (h : lw_tbl[i]? = some w) (hg : goodWord w = true) : w ∈ cp_TG := List.mem_filter.mpr ⟨List.mem_of_getElem? h, hg⟩
theorem cp_TG_good : GoodIn cp_TG cp_TG := fun w hw => ⟨hw, good_of_word (List.mem_filter.mp hw).2⟩
/-- words of nest mates, which are carried apart -/
def cp_nF : List (String × Nat × String) := [(RX1, 9, "FIRST_VALUES"), (RX1, 67, "LEAST_VALUES"), (RX1, 70, "GREATEST_VALUES")]
def cp_nM : List (String × Nat × MethodName) := [(RX1, 33, yX4_init), (RX1, 43, yX5_init), (RX1, 89, yX6_oneIf), (RX1, 118, yX6_isInSet), (RX2, 59, yX6_oneIf)]
def cp_nw (U : State) : Prop := (∀ q ∈ cp_nF, va_Nw (.fieldLinkNest q.1 q.2.1 "CopyPlates" q.2.2 "[I" "CopyPlates") U) ∧ (∀ q ∈ cp_nM, va_Nw (.methodLinkNest q.1 q.2.1 q.2.2 "CopyPlates") U) ∧ va_Nw (.castable "[I" "java/lang/Cloneable") U ∧ va_AO "CopyPlates$Night" U ∧ va_AO "CopyPlates$Piece" U ∧ va_AO "CopyPlates$Plate" U
theorem cp_nw_warm {s U : State} (hW : s.WarmedH U.vm) (h : cp_nw s) : cp_nw U := ⟨fun q hq => va_Nw.warmF hW (h.1 q hq), fun q hq => va_Nw.warmM hW (h.2.1 q hq), va_Nw.warmC hW h.2.2.1, h.2.2.2.1.moved hW.alike, h.2.2.2.2.1.moved hW.alike, h.2.2.2.2.2.moved hW.alike⟩
theorem cp_nw_same {u U : State} (hv : u.vm = U.vm) (h : cp_nw u) : cp_nw U := ⟨fun q hq => va_Nw.same rfl hv (h.1 q hq), fun q hq => va_Nw.same rfl hv (h.2.1 q hq), va_Nw.same rfl hv h.2.2.1, h.2.2.2.1.moved (hv ▸ Vm.Alike.refl u.vm), h.2.2.2.2.1.moved (hv ▸ Vm.Alike.refl u.vm), h.2.2.2.2.2.moved (hv ▸ Vm.Alike.refl u.vm)⟩
def cp_sn : Nat → String
  | 0 => "FIRST_VALUES"
  | 1 => "LEAST_VALUES"
  | _ => "GREATEST_VALUES"
def cp_sv (k j : Nat) : Int32 := match k, j with
  | 0, 0 => 4
  | 0, 1 => 10
  | 0, 2 => 60
  | 0, _ => 5
  | 1, 2 => 10
  | 1, _ => 1
  | _, 0 => 20
  | _, 2 => 400
  | _, _ => 60
/-- the first table is as long as it was, and an array of ints -/
def cp_FX (E : cp_En) (H : Heap) : Prop := ∃ cell : Cell, H[cp_ts E 0]? = some cell ∧ cell.slots.size = 4 ∧ cell.cls = cp_cs E 9
def cp_Z (E : cp_En) (U : State) (H : Heap) : Prop := (∀ k, k < 3 → va_Z "CopyPlates" (cp_sn k) "[I" (.ref (cp_ts E k)) (cp_A E) U H ∧ va_T .int (cp_ts E k) 4 (fun j => .int (cp_sv k j)) (cp_A E) U H) ∧ cp_FX E H
theorem cp_Z_moved {E : cp_En} {u U : State} {H : Heap} (hv : u.vm.Alike U.vm) (h : cp_Z E u H) : cp_Z E U H := ⟨fun k hk => ⟨(h.1 k hk).1.moved hv, (h.1 k hk).2.moved hv⟩, h.2⟩
theorem cp_Z_kept {E : cp_En} {U : State} {H H1 : Heap} (hq : ∀ a : Nat, a < H.size → ¬ cp_A E a → H1[a]? = H[a]?) (h : cp_Z E U H) : cp_Z E U H1 := by
  refine ⟨fun k hk => ⟨(h.1 k hk).1.kept hq, (h.1 k hk).2.kept hq⟩, ?_⟩
  obtain ⟨cell, h1, h2, h3⟩ := h.2
  exact ⟨cell, by rw [hq _ (Array.getElem?_eq_some_iff.mp h1).1 (h.1 0 (by decide)).2.out]; exact h1, h2, h3⟩
def cp_K (E : cp_En) (U : State) : Prop := va_K (cp_D E) vwCl (cp_ty E) U ∧ cp_nw U
theorem cp_K_warm {E : cp_En} {s U : State} (hW : s.WarmedH U.vm) (h : cp_K E s) : cp_K E U := ⟨h.1.moved hW.alike, cp_nw_warm hW h.2⟩
/-- a method's room: d calls below it -/
def cp_rm (d mc ms : Nat) : Room := { frames := d, cells := mc, slots := ms, locals := 12 + 32 * d }
abbrev cp_Cx : Type := Program × Launch × Env × Room × State × MethodId × Array Value × List Frame × Method × Code × (State → Prop)
abbrev cp_xp (x : cp_Cx) : Program := x.1
abbrev cp_xl (x : cp_Cx) : Launch := x.2.1
abbrev cp_xe (x : cp_Cx) : Env := x.2.2.1
abbrev cp_xR (x : cp_Cx) : Room := x.2.2.2.1
abbrev cp_xs (x : cp_Cx) : State := x.2.2.2.2.1
abbrev cp_xm (x : cp_Cx) : MethodId := x.2.2.2.2.2.1
abbrev cp_xa (x : cp_Cx) : Array Value := x.2.2.2.2.2.2.1
abbrev cp_xb (x : cp_Cx) : List Frame := x.2.2.2.2.2.2.2.1
abbrev cp_xk (x : cp_Cx) : Method := x.2.2.2.2.2.2.2.2.1
abbrev cp_xc (x : cp_Cx) : Code := x.2.2.2.2.2.2.2.2.2.1
abbrev cp_xQ (x : cp_Cx) : State → Prop := x.2.2.2.2.2.2.2.2.2.2
abbrev cp_W (x : cp_Cx) (H : Heap) (locs : List Loc) (cells slots : Nat) (g : JFrame) : Prop := W (cp_xp x) (cp_xl x) (cp_xe x) (cp_xR x) (cp_xs x) (cp_xm x) (cp_xa x) (cp_xb x) (cp_xk x) (cp_xc x) H locs cells slots (cp_xQ x) g
/-- the locals as a list, a place each -/
def cp_lq : Nat → List (Option Value) → List (Nat × Value)
  | _, [] => []
  | k, none :: t => cp_lq (k + 1) t
  | k, some v :: t => (k, v) :: cp_lq (k + 1) t
theorem cp_lq_in : ∀ (L : List (Option Value)) (k i : Nat) (v : Value), (i, v) ∈ cp_lq k L ↔ k ≤ i ∧ L[i - k]? = some (some v)
  | [], k, i, v => by simp [cp_lq]
  | none :: t, k, i, v => by
    rw [cp_lq, cp_lq_in t (k + 1) i v]
    constructor
    · rintro ⟨h1, h2⟩
      refine ⟨by omega, ?_⟩
      rw [show i - k = (i - (k + 1)) + 1 by omega]
      simpa using h2
    · rintro ⟨h1, h2⟩
      rcases Nat.eq_or_lt_of_le h1 with h | h
      · subst h; simp at h2
      · refine ⟨h, ?_⟩
        rw [show i - k = (i - (k + 1)) + 1 by omega] at h2
        simpa using h2
  | some w :: t, k, i, v => by
    rw [cp_lq, List.mem_cons, cp_lq_in t (k + 1) i v]
    constructor
    · rintro (h | ⟨h1, h2⟩)
      · cases h; simp
      · refine ⟨by omega, ?_⟩
        rw [show i - k = (i - (k + 1)) + 1 by omega]
        simpa using h2
    · rintro ⟨h1, h2⟩
      rcases Nat.eq_or_lt_of_le h1 with h | h
      · subst h; left; simp at h2; rw [h2]
      · right
        refine ⟨h, ?_⟩
        rw [show i - k = (i - (k + 1)) + 1 by omega] at h2
        simpa using h2
def cp_lH (ls : Array Slot) (nL : Nat) (L : List (Option Value)) : Prop := lv_has ls nL (cp_lq 0 L)
theorem cp_lH_at {ls : Array Slot} {nL : Nat} {L : List (Option Value)} (h : cp_lH ls nL L) {i : Nat} {v : Value} (hv : L[i]? = some (some v)) : ls[i]? = some (.val v) := h.2.2 (i, v) ((cp_lq_in L 0 i v).mpr ⟨Nat.zero_le _, hv⟩)
/-- the judgement at a frame -/
def cp_G (x : cp_Cx) (E : cp_En) (nL cells slots cnt : Nat) (sh : cp_Shp) (I : cp_Mem) (R : cp_Rem) (pc : Nat) (L : List (Option Value)) (st : List Value) : Prop :=
  ∀ (H : Heap) (locs : List Loc) (ls : Array Slot), cp_PW E cnt sh I R H → va_S (cp_A E) (cp_xs x).heap H locs → cp_lH ls nL L → cp_W x H locs cells slots (F0 (cp_xm x) pc ls st)
/-- what holds all through a method's run -/
def cp_Ok (x : cp_Cx) (E : cp_En) (own : String) (bc : ByteArray) (nL d mc ms : Nat) : Prop :=
  (cp_xp x).tables.exec = Jvm.exec ∧ (cp_xc x).code = bc ∧ (cp_xc x).maxLocals = nL ∧ (cp_xs x).vm.findClass own = some (cp_xm x).cls ∧ (∀ w ∈ cp_TG, w.before (cp_xa x) (cp_xs x) = true) ∧ cp_K E (cp_xs x) ∧ cp_Z E (cp_xs x) (cp_xs x).heap ∧ cp_b0 E ≤ (cp_xs x).heap.size ∧
  (d ≤ (cp_xR x).frames ∧ 12 + 32 * d ≤ (cp_xR x).locals ∧ mc ≤ (cp_xR x).cells ∧ ms ≤ (cp_xR x).slots)
end
section
section CPR
variable {x : cp_Cx} {E : cp_En} {own : String} {bc : ByteArray} {nL d mc ms : Nat} {cells slots cnt : Nat} {sh : cp_Shp} {I : cp_Mem} {R : cp_Rem} {pc : Nat} {L : List (Option Value)} {st : List Value}
def cp_nl : Option Value → Bool
  | some (.long _) => false
  | some (.double _) => false
  | _ => true
def cp_ls (L : List (Option Value)) (i : Nat) (v : Value) (L' : List (Option Value)) : Prop := i < L.length ∧ L' = L.set i (some v) ∧ (∀ w, 0 < i → L[i - 1]? = some w → cp_nl w = true)
theorem cp_ls0 {b : Option Value} {t : List (Option Value)} {v : Value} : cp_ls (b :: t) 0 v (some v :: t) := ⟨by simp, rfl, fun w h _ => absurd h (by omega)⟩
theorem cp_lg0 {t : List (Option Value)} {v : Value} : (some v :: t)[0]? = some (some v) := rfl
theorem cp_ls1 {b : Option Value} {t : List (Option Value)} {v : Value} {a0 : Option Value} (h : cp_nl a0 = true) : cp_ls (a0 :: b :: t) 1 v (a0 :: some v :: t) := ⟨by simp, rfl, fun w _ hw => by simp at hw; rw [← hw]; exact h⟩
theorem cp_lg1 {t : List (Option Value)} {v : Value} {a0 : Option Value} : (a0 :: some v :: t)[1]? = some (some v) := rfl
theorem cp_ls2 {b : Option Value} {t : List (Option Value)} {v : Value} {a0 : Option Value} {a1 : Option Value} (h : cp_nl a1 = true) : cp_ls (a0 :: a1 :: b :: t) 2 v (a0 :: a1 :: some v :: t) := ⟨by simp, rfl, fun w _ hw => by simp at hw; rw [← hw]; exact h⟩
theorem cp_lg2 {t : List (Option Value)} {v : Value} {a0 : Option Value} {a1 : Option Value} : (a0 :: a1 :: some v :: t)[2]? = some (some v) := rfl
theorem cp_ls3 {b : Option Value} {t : List (Option Value)} {v : Value} {a0 : Option Value} {a1 : Option Value} {a2 : Option Value} (h : cp_nl a2 = true) : cp_ls (a0 :: a1 :: a2 :: b :: t) 3 v (a0 :: a1 :: a2 :: some v :: t) := ⟨by simp, rfl, fun w _ hw => by simp at hw; rw [← hw]; exact h⟩
theorem cp_lg3 {t : List (Option Value)} {v : Value} {a0 : Option Value} {a1 : Option Value} {a2 : Option Value} : (a0 :: a1 :: a2 :: some v :: t)[3]? = some (some v) := rfl
theorem cp_ls4 {b : Option Value} {t : List (Option Value)} {v : Value} {a0 : Option Value} {a1 : Option Value} {a2 : Option Value} {a3 : Option Value} (h : cp_nl a3 = true) : cp_ls (a0 :: a1 :: a2 :: a3 :: b :: t) 4 v (a0 :: a1 :: a2 :: a3 :: some v :: t) := ⟨by simp, rfl, fun w _ hw => by simp at hw; rw [← hw]; exact h⟩
theorem cp_lg4 {t : List (Option Value)} {v : Value} {a0 : Option Value} {a1 : Option Value} {a2 : Option Value} {a3 : Option Value} : (a0 :: a1 :: a2 :: a3 :: some v :: t)[4]? = some (some v) := rfl
theorem cp_ls5 {b : Option Value} {t : List (Option Value)} {v : Value} {a0 : Option Value} {a1 : Option Value} {a2 : Option Value} {a3 : Option Value} {a4 : Option Value} (h : cp_nl a4 = true) : cp_ls (a0 :: a1 :: a2 :: a3 :: a4 :: b :: t) 5 v (a0 :: a1 :: a2 :: a3 :: a4 :: some v :: t) := ⟨by simp, rfl, fun w _ hw => by simp at hw; rw [← hw]; exact h⟩
theorem cp_lg5 {t : List (Option Value)} {v : Value} {a0 : Option Value} {a1 : Option Value} {a2 : Option Value} {a3 : Option Value} {a4 : Option Value} : (a0 :: a1 :: a2 :: a3 :: a4 :: some v :: t)[5]? = some (some v) := rfl
theorem cp_ls6 {b : Option Value} {t : List (Option Value)} {v : Value} {a0 : Option Value} {a1 : Option Value} {a2 : Option Value} {a3 : Option Value} {a4 : Option Value} {a5 : Option Value} (h : cp_nl a5 = true) : cp_ls (a0 :: a1 :: a2 :: a3 :: a4 :: a5 :: b :: t) 6 v (a0 :: a1 :: a2 :: a3 :: a4 :: a5 :: some v :: t) := ⟨by simp, rfl, fun w _ hw => by simp at hw; rw [← hw]; exact h⟩
theorem cp_lg6 {t : List (Option Value)} {v : Value} {a0 : Option Value} {a1 : Option Value} {a2 : Option Value} {a3 : Option Value} {a4 : Option Value} {a5 : Option Value} : (a0 :: a1 :: a2 :: a3 :: a4 :: a5 :: some v :: t)[6]? = some (some v) := rfl
theorem cp_ls7 {b : Option Value} {t : List (Option Value)} {v : Value} {a0 : Option Value} {a1 : Option Value} {a2 : Option Value} {a3 : Option Value} {a4 : Option Value} {a5 : Option Value} {a6 : Option Value} (h : cp_nl a6 = true) : cp_ls (a0 :: a1 :: a2 :: a3 :: a4 :: a5 :: a6 :: b :: t) 7 v (a0 :: a1 :: a2 :: a3 :: a4 :: a5 :: a6 :: some v :: t) := ⟨by simp, rfl, fun w _ hw => by simp at hw; rw [← hw]; exact h⟩
theorem cp_lg7 {t : List (Option Value)} {v : Value} {a0 : Option Value} {a1 : Option Value} {a2 : Option Value} {a3 : Option Value} {a4 : Option Value} {a5 : Option Value} {a6 : Option Value} : (a0 :: a1 :: a2 :: a3 :: a4 :: a5 :: a6 :: some v :: t)[7]? = some (some v) := rfl
theorem cp_ls8 {b : Option Value} {t : List (Option Value)} {v : Value} {a0 : Option Value} {a1 : Option Value} {a2 : Option Value} {a3 : Option Value} {a4 : Option Value} {a5 : Option Value} {a6 : Option Value} {a7 : Option Value} (h : cp_nl a7 = true) : cp_ls (a0 :: a1 :: a2 :: a3 :: a4 :: a5 :: a6 :: a7 :: b :: t) 8 v (a0 :: a1 :: a2 :: a3 :: a4 :: a5 :: a6 :: a7 :: some v :: t) := ⟨by simp, rfl, fun w _ hw => by simp at hw; rw [← hw]; exact h⟩
theorem cp_lg8 {t : List (Option Value)} {v : Value} {a0 : Option Value} {a1 : Option Value} {a2 : Option Value} {a3 : Option Value} {a4 : Option Value} {a5 : Option Value} {a6 : Option Value} {a7 : Option Value} : (a0 :: a1 :: a2 :: a3 :: a4 :: a5 :: a6 :: a7 :: some v :: t)[8]? = some (some v) := rfl
theorem cp_ls9 {b : Option Value} {t : List (Option Value)} {v : Value} {a0 : Option Value} {a1 : Option Value} {a2 : Option Value} {a3 : Option Value} {a4 : Option Value} {a5 : Option Value} {a6 : Option Value} {a7 : Option Value} {a8 : Option Value} (h : cp_nl a8 = true) : cp_ls (a0 :: a1 :: a2 :: a3 :: a4 :: a5 :: a6 :: a7 :: a8 :: b :: t) 9 v (a0 :: a1 :: a2 :: a3 :: a4 :: a5 :: a6 :: a7 :: a8 :: some v :: t) := ⟨by simp, rfl, fun w _ hw => by simp at hw; rw [← hw]; exact h⟩
theorem cp_lg9 {t : List (Option Value)} {v : Value} {a0 : Option Value} {a1 : Option Value} {a2 : Option Value} {a3 : Option Value} {a4 : Option Value} {a5 : Option Value} {a6 : Option Value} {a7 : Option Value} {a8 : Option Value} : (a0 :: a1 :: a2 :: a3 :: a4 :: a5 :: a6 :: a7 :: a8 :: some v :: t)[9]? = some (some v) := rfl
theorem cp_lH_ls {ls : Array Slot} {nL : Nat} {L L' : List (Option Value)} {i : Nat} {v : Value} (h : lv_has ls nL ((i, v) :: (cp_lq 0 L).filter (fun q => !(q.1 == i) && !(q.1 + 1 == i && q.2.category == 2)))) (hs : cp_ls L i v L') : cp_lH ls nL L' := by
  obtain ⟨h1, h2, h3⟩ := hs
  refine ⟨h.1, h.2.1, fun q hq => ?_⟩
  obtain ⟨j, w⟩ := q
  have hj := ((cp_lq_in L' 0 j w).mp hq).2
  rw [Nat.sub_zero, h2] at hj
  by_cases hji : j = i
  · subst hji
    rw [List.getElem?_set_self h1] at hj
    cases hj
    exact h.2.2 _ List.mem_cons_self
  · rw [List.getElem?_set_ne (Ne.symm hji)] at hj
    refine h.2.2 (j, w) (List.mem_cons_of_mem _ (List.mem_filter.mpr ⟨(cp_lq_in L 0 j w).mpr ⟨Nat.zero_le _, hj⟩, ?_⟩))
    by_cases hk : j + 1 = i
    · have h4 := h3 (some w) (by omega) (by rw [show i - 1 = j by omega]; exact hj)
      cases w <;> simp_all [cp_nl, Value.category]
    · simp [hji, hk]
theorem cp_iadd (O : cp_Ok x E own bc nL d mc ms) {a b : Int32} (hd : decode bc pc = .ok (.iadd, 1)) (k : cp_G x E nL cells slots cnt sh I R (pc + 1) L (.int (a + b) :: st)) : cp_G x E nL cells slots cnt sh I R pc L (.int b :: .int a :: st) := fun H locs ls hW hS hl => lv_iadd O.1 O.2.1 hd (k H locs ls hW hS hl)
theorem cp_isub (O : cp_Ok x E own bc nL d mc ms) {a b : Int32} (hd : decode bc pc = .ok (.isub, 1)) (k : cp_G x E nL cells slots cnt sh I R (pc + 1) L (.int (a - b) :: st)) : cp_G x E nL cells slots cnt sh I R pc L (.int b :: .int a :: st) := fun H locs ls hW hS hl => lv_isub O.1 O.2.1 hd (k H locs ls hW hS hl)
theorem cp_imul (O : cp_Ok x E own bc nL d mc ms) {a b : Int32} (hd : decode bc pc = .ok (.imul, 1)) (k : cp_G x E nL cells slots cnt sh I R (pc + 1) L (.int (a * b) :: st)) : cp_G x E nL cells slots cnt sh I R pc L (.int b :: .int a :: st) := fun H locs ls hW hS hl => lv_imul O.1 O.2.1 hd (k H locs ls hW hS hl)
theorem cp_iand (O : cp_Ok x E own bc nL d mc ms) {a b : Int32} (hd : decode bc pc = .ok (.iand, 1)) (k : cp_G x E nL cells slots cnt sh I R (pc + 1) L (.int (a &&& b) :: st)) : cp_G x E nL cells slots cnt sh I R pc L (.int b :: .int a :: st) := fun H locs ls hW hS hl => lv_iand O.1 O.2.1 hd (k H locs ls hW hS hl)
theorem cp_ior (O : cp_Ok x E own bc nL d mc ms) {a b : Int32} (hd : decode bc pc = .ok (.ior, 1)) (k : cp_G x E nL cells slots cnt sh I R (pc + 1) L (.int (a ||| b) :: st)) : cp_G x E nL cells slots cnt sh I R pc L (.int b :: .int a :: st) := fun H locs ls hW hS hl => lv_ior O.1 O.2.1 hd (k H locs ls hW hS hl)
theorem cp_ixor (O : cp_Ok x E own bc nL d mc ms) {a b : Int32} (hd : decode bc pc = .ok (.ixor, 1)) (k : cp_G x E nL cells slots cnt sh I R (pc + 1) L (.int (a ^^^ b) :: st)) : cp_G x E nL cells slots cnt sh I R pc L (.int b :: .int a :: st) := fun H locs ls hW hS hl => lv_ixor O.1 O.2.1 hd (k H locs ls hW hS hl)
theorem cp_ishl (O : cp_Ok x E own bc nL d mc ms) {a b : Int32} (hd : decode bc pc = .ok (.ishl, 1)) (k : cp_G x E nL cells slots cnt sh I R (pc + 1) L (.int (a <<< (b &&& 31)) :: st)) : cp_G x E nL cells slots cnt sh I R pc L (.int b :: .int a :: st) := fun H locs ls hW hS hl => lv_ishl O.1 O.2.1 hd (k H locs ls hW hS hl)
theorem cp_ishr (O : cp_Ok x E own bc nL d mc ms) {a b : Int32} (hd : decode bc pc = .ok (.ishr, 1)) (k : cp_G x E nL cells slots cnt sh I R (pc + 1) L (.int (a >>> (b &&& 31)) :: st)) : cp_G x E nL cells slots cnt sh I R pc L (.int b :: .int a :: st) := fun H locs ls hW hS hl => lv_ishr O.1 O.2.1 hd (k H locs ls hW hS hl)
theorem cp_land (O : cp_Ok x E own bc nL d mc ms) {a b : Int64} (hd : decode bc pc = .ok (.land, 1)) (k : cp_G x E nL cells slots cnt sh I R (pc + 1) L (.long (a &&& b) :: st)) : cp_G x E nL cells slots cnt sh I R pc L (.long b :: .long a :: st) := fun H locs ls hW hS hl => lv_land O.1 O.2.1 hd (k H locs ls hW hS hl)
theorem cp_lor (O : cp_Ok x E own bc nL d mc ms) {a b : Int64} (hd : decode bc pc = .ok (.lor, 1)) (k : cp_G x E nL cells slots cnt sh I R (pc + 1) L (.long (a ||| b) :: st)) : cp_G x E nL cells slots cnt sh I R pc L (.long b :: .long a :: st) := fun H locs ls hW hS hl => lv_lor O.1 O.2.1 hd (k H locs ls hW hS hl)
theorem cp_lsub (O : cp_Ok x E own bc nL d mc ms) {a b : Int64} (hd : decode bc pc = .ok (.lsub, 1)) (k : cp_G x E nL cells slots cnt sh I R (pc + 1) L (.long (a - b) :: st)) : cp_G x E nL cells slots cnt sh I R pc L (.long b :: .long a :: st) := fun H locs ls hW hS hl => lv_lsub O.1 O.2.1 hd (k H locs ls hW hS hl)
theorem cp_lshl (O : cp_Ok x E own bc nL d mc ms) {a : Int64} {b : Int32} (hd : decode bc pc = .ok (.lshl, 1)) (k : cp_G x E nL cells slots cnt sh I R (pc + 1) L (.long (a <<< (b.toInt64 &&& 63)) :: st)) : cp_G x E nL cells slots cnt sh I R pc L (.int b :: .long a :: st) := fun H locs ls hW hS hl => lv_lshl O.1 O.2.1 hd rfl (k H locs ls hW hS hl)
theorem cp_lushr (O : cp_Ok x E own bc nL d mc ms) {a : Int64} {b : Int32} (hd : decode bc pc = .ok (.lushr, 1)) (k : cp_G x E nL cells slots cnt sh I R (pc + 1) L (.long (a.toUInt64 >>> (b.toInt64.toUInt64 &&& Int64.toUInt64 63)).toInt64 :: st)) : cp_G x E nL cells slots cnt sh I R pc L (.int b :: .long a :: st) := fun H locs ls hW hS hl => lv_lushr O.1 O.2.1 hd rfl (k H locs ls hW hS hl)
theorem cp_i2l (O : cp_Ok x E own bc nL d mc ms) {a : Int32} (hd : decode bc pc = .ok (.i2l, 1)) (k : cp_G x E nL cells slots cnt sh I R (pc + 1) L (.long a.toInt64 :: st)) : cp_G x E nL cells slots cnt sh I R pc L (.int a :: st) := fun H locs ls hW hS hl => lv_i2l O.1 O.2.1 hd rfl (k H locs ls hW hS hl)
theorem cp_l2i (O : cp_Ok x E own bc nL d mc ms) {a : Int64} (hd : decode bc pc = .ok (.l2i, 1)) (k : cp_G x E nL cells slots cnt sh I R (pc + 1) L (.int a.toInt32 :: st)) : cp_G x E nL cells slots cnt sh I R pc L (.long a :: st) := fun H locs ls hW hS hl => lv_l2i O.1 O.2.1 hd rfl (k H locs ls hW hS hl)
theorem cp_i2c (O : cp_Ok x E own bc nL d mc ms) {a : Int32} (hd : decode bc pc = .ok (.i2c, 1)) (k : cp_G x E nL cells slots cnt sh I R (pc + 1) L (.int (a.toUInt32 % 65536).toInt32 :: st)) : cp_G x E nL cells slots cnt sh I R pc L (.int a :: st) := fun H locs ls hW hS hl => lv_i2c O.1 O.2.1 hd rfl (k H locs ls hW hS hl)
theorem cp_lcmp (O : cp_Ok x E own bc nL d mc ms) {a b : Int64} (hd : decode bc pc = .ok (.lcmp, 1)) (k : cp_G x E nL cells slots cnt sh I R (pc + 1) L (.int (lg_cmp a b) :: st)) : cp_G x E nL cells slots cnt sh I R pc L (.long b :: .long a :: st) := fun H locs ls hW hS hl => W.lcmp O.1 O.2.1 hd (k H locs ls hW hS hl)
theorem cp_iconst (O : cp_Ok x E own bc nL d mc ms) {n : Int} {v : Int32} (hd : decode bc pc = .ok (.iconst n, 1)) (hv : Int32.ofInt n = v) (k : cp_G x E nL cells slots cnt sh I R (pc + 1) L (.int v :: st)) : cp_G x E nL cells slots cnt sh I R pc L st := fun H locs ls hW hS hl => lv_iconst O.1 O.2.1 hd hv (k H locs ls hW hS hl)
theorem cp_bipush (O : cp_Ok x E own bc nL d mc ms) {n : Int} {v : Int32} (hd : decode bc pc = .ok (.bipush n, 2)) (hv : (Int8.ofInt n).toInt32 = v) (k : cp_G x E nL cells slots cnt sh I R (pc + 2) L (.int v :: st)) : cp_G x E nL cells slots cnt sh I R pc L st := fun H locs ls hW hS hl => lv_bipush O.1 O.2.1 hd hv (k H locs ls hW hS hl)
theorem cp_sipush (O : cp_Ok x E own bc nL d mc ms) {n : Int} {v : Int32} (hd : decode bc pc = .ok (.sipush n, 3)) (hv : (Int16.ofInt n).toInt32 = v) (k : cp_G x E nL cells slots cnt sh I R (pc + 3) L (.int v :: st)) : cp_G x E nL cells slots cnt sh I R pc L st := fun H locs ls hW hS hl => lv_sipush O.1 O.2.1 hd hv (k H locs ls hW hS hl)
theorem cp_lconst (O : cp_Ok x E own bc nL d mc ms) {n : Fin 2} {v : Int64} (hd : decode bc pc = .ok (.lconst n, 1)) (hv : Int64.ofNat (n : Nat) = v) (k : cp_G x E nL cells slots cnt sh I R (pc + 1) L (.long v :: st)) : cp_G x E nL cells slots cnt sh I R pc L st := fun H locs ls hW hS hl => lv_lconst O.1 O.2.1 hd hv (k H locs ls hW hS hl)
theorem cp_dup (O : cp_Ok x E own bc nL d mc ms) {a : Value} (hd : decode bc pc = .ok (.dup, 1)) (hv : a.category = 1) (k : cp_G x E nL cells slots cnt sh I R (pc + 1) L (a :: a :: st)) : cp_G x E nL cells slots cnt sh I R pc L (a :: st) := fun H locs ls hW hS hl => lv_dup O.1 O.2.1 hd hv (k H locs ls hW hS hl)
theorem cp_pop (O : cp_Ok x E own bc nL d mc ms) {a : Value} (hd : decode bc pc = .ok (.pop, 1)) (hv : a.category = 1) (k : cp_G x E nL cells slots cnt sh I R (pc + 1) L st) : cp_G x E nL cells slots cnt sh I R pc L (a :: st) := fun H locs ls hW hS hl => lv_pop O.1 O.2.1 hd hv (k H locs ls hW hS hl)
theorem cp_dup2 (O : cp_Ok x E own bc nL d mc ms) {a b : Value} (hd : decode bc pc = .ok (.dup2, 1)) (hv : a.category = 1) (hv2 : b.category = 1) (k : cp_G x E nL cells slots cnt sh I R (pc + 1) L (a :: b :: a :: b :: st)) : cp_G x E nL cells slots cnt sh I R pc L (a :: b :: st) := fun H locs ls hW hS hl => lv_dup2_11 O.1 O.2.1 hd hv hv2 (k H locs ls hW hS hl)
theorem cp_ldc2 (O : cp_Ok x E own bc nL d mc ms) {index : Nat} {v : Int64} (hw : Cond.constantLong own index v ∈ cp_TG) (hd : decode bc pc = .ok (.ldc2_w index, 3)) (k : cp_G x E nL cells slots cnt sh I R (pc + 3) L (.long v :: st)) : cp_G x E nL cells slots cnt sh I R pc L st := fun H locs ls hW hS hl => lv_ldc2 O.1 O.2.1 O.2.2.2.1 (O.2.2.2.2.1 _ hw) hd (k H locs ls hW hS hl)
theorem cp_iload_n (O : cp_Ok x E own bc nL d mc ms) {n : Fin 4} {a : Int32} (hd : decode bc pc = .ok (.iload_n n, 1)) (hg : L[(n : Nat)]? = some (some (.int a))) (k : cp_G x E nL cells slots cnt sh I R (pc + 1) L (.int a :: st)) : cp_G x E nL cells slots cnt sh I R pc L st := fun H locs ls hW hS hl => lv_iload_n O.1 O.2.1 hd rfl (cp_lH_at hl hg) (k H locs ls hW hS hl)
theorem cp_iload (O : cp_Ok x E own bc nL d mc ms) {n : Nat} {a : Int32} (hd : decode bc pc = .ok (.iload n, 2)) (hg : L[n]? = some (some (.int a))) (k : cp_G x E nL cells slots cnt sh I R (pc + 2) L (.int a :: st)) : cp_G x E nL cells slots cnt sh I R pc L st := fun H locs ls hW hS hl => lv_iload O.1 O.2.1 hd (cp_lH_at hl hg) (k H locs ls hW hS hl)
theorem cp_lload_n (O : cp_Ok x E own bc nL d mc ms) {n : Fin 4} {a : Int64} (hd : decode bc pc = .ok (.lload_n n, 1)) (hg : L[(n : Nat)]? = some (some (.long a))) (k : cp_G x E nL cells slots cnt sh I R (pc + 1) L (.long a :: st)) : cp_G x E nL cells slots cnt sh I R pc L st := fun H locs ls hW hS hl => lv_lload_n O.1 O.2.1 hd rfl (cp_lH_at hl hg) (k H locs ls hW hS hl)
theorem cp_lload (O : cp_Ok x E own bc nL d mc ms) {n : Nat} {a : Int64} (hd : decode bc pc = .ok (.lload n, 2)) (hg : L[n]? = some (some (.long a))) (k : cp_G x E nL cells slots cnt sh I R (pc + 2) L (.long a :: st)) : cp_G x E nL cells slots cnt sh I R pc L st := fun H locs ls hW hS hl => lv_lload O.1 O.2.1 hd (cp_lH_at hl hg) (k H locs ls hW hS hl)
theorem cp_aload_n (O : cp_Ok x E own bc nL d mc ms) {n : Fin 4} {a : Nat} (hd : decode bc pc = .ok (.aload_n n, 1)) (hg : L[(n : Nat)]? = some (some (.ref a))) (k : cp_G x E nL cells slots cnt sh I R (pc + 1) L (.ref a :: st)) : cp_G x E nL cells slots cnt sh I R pc L st := fun H locs ls hW hS hl => lv_aload_n O.1 O.2.1 hd rfl (cp_lH_at hl hg) (k H locs ls hW hS hl)
theorem cp_aload (O : cp_Ok x E own bc nL d mc ms) {n : Nat} {a : Nat} (hd : decode bc pc = .ok (.aload n, 2)) (hg : L[n]? = some (some (.ref a))) (k : cp_G x E nL cells slots cnt sh I R (pc + 2) L (.ref a :: st)) : cp_G x E nL cells slots cnt sh I R pc L st := fun H locs ls hW hS hl => lv_aload O.1 O.2.1 hd (cp_lH_at hl hg) (k H locs ls hW hS hl)
theorem cp_aload_nN (O : cp_Ok x E own bc nL d mc ms) {n : Fin 4} (hd : decode bc pc = .ok (.aload_n n, 1)) (hg : L[(n : Nat)]? = some (some .null)) (k : cp_G x E nL cells slots cnt sh I R (pc + 1) L (.null :: st)) : cp_G x E nL cells slots cnt sh I R pc L st := fun H locs ls hW hS hl => lv_aload_nN O.1 O.2.1 hd rfl (cp_lH_at hl hg) (k H locs ls hW hS hl)
theorem cp_istore_n (O : cp_Ok x E own bc nL d mc ms) {n : Fin 4} {a : Int32} {L' : List (Option Value)} (hd : decode bc pc = .ok (.istore_n n, 1)) (hn : (n : Nat) < nL) (hs : cp_ls L (n : Nat) (.int a) L') (k : cp_G x E nL cells slots cnt sh I R (pc + 1) L' st) : cp_G x E nL cells slots cnt sh I R pc L (.int a :: st) := fun H locs ls hW hS hl => lv_istore_n O.1 O.2.1 hd rfl hl hn rfl (fun ls' hl' => k H locs ls' hW hS (cp_lH_ls hl' hs))
theorem cp_istore (O : cp_Ok x E own bc nL d mc ms) {n : Nat} {a : Int32} {L' : List (Option Value)} (hd : decode bc pc = .ok (.istore n, 2)) (hn : n < nL) (hs : cp_ls L n (.int a) L') (k : cp_G x E nL cells slots cnt sh I R (pc + 2) L' st) : cp_G x E nL cells slots cnt sh I R pc L (.int a :: st) := fun H locs ls hW hS hl => lv_istore O.1 O.2.1 hd hl hn rfl (fun ls' hl' => k H locs ls' hW hS (cp_lH_ls hl' hs))
theorem cp_astore_n (O : cp_Ok x E own bc nL d mc ms) {n : Fin 4} {a : Nat} {L' : List (Option Value)} (hd : decode bc pc = .ok (.astore_n n, 1)) (hn : (n : Nat) < nL) (hs : cp_ls L (n : Nat) (.ref a) L') (k : cp_G x E nL cells slots cnt sh I R (pc + 1) L' st) : cp_G x E nL cells slots cnt sh I R pc L (.ref a :: st) := fun H locs ls hW hS hl => lv_astore_n O.1 O.2.1 hd rfl hl hn rfl (fun ls' hl' => k H locs ls' hW hS (cp_lH_ls hl' hs))
theorem cp_astore (O : cp_Ok x E own bc nL d mc ms) {n : Nat} {a : Nat} {L' : List (Option Value)} (hd : decode bc pc = .ok (.astore n, 2)) (hn : n < nL) (hs : cp_ls L n (.ref a) L') (k : cp_G x E nL cells slots cnt sh I R (pc + 2) L' st) : cp_G x E nL cells slots cnt sh I R pc L (.ref a :: st) := fun H locs ls hW hS hl => lv_astore O.1 O.2.1 hd hl hn rfl (fun ls' hl' => k H locs ls' hW hS (cp_lH_ls hl' hs))
theorem cp_astore_nN (O : cp_Ok x E own bc nL d mc ms) {n : Fin 4} {L' : List (Option Value)} (hd : decode bc pc = .ok (.astore_n n, 1)) (hn : (n : Nat) < nL) (hs : cp_ls L (n : Nat) .null L') (k : cp_G x E nL cells slots cnt sh I R (pc + 1) L' st) : cp_G x E nL cells slots cnt sh I R pc L (.null :: st) := fun H locs ls hW hS hl => lv_astore_nN O.1 O.2.1 hd rfl hl hn rfl (fun ls' hl' => k H locs ls' hW hS (cp_lH_ls hl' hs))
theorem cp_iinc (O : cp_Ok x E own bc nL d mc ms) {i : Nat} {n : Int} {a v : Int32} {L' : List (Option Value)} (hd : decode bc pc = .ok (.iinc i n, 3)) (hg : L[i]? = some (some (.int a))) (hv : a + Int32.ofInt n = v) (hn : i < nL) (hs : cp_ls L i (.int v) L') (k : cp_G x E nL cells slots cnt sh I R (pc + 3) L' st) : cp_G x E nL cells slots cnt sh I R pc L st := fun H locs ls hW hS hl => by
  obtain ⟨q, hq⟩ := List.getElem?_of_mem ((cp_lq_in L 0 i (.int a)).mpr ⟨Nat.zero_le _, hg⟩)
  exact lv_iinc O.1 O.2.1 hd hl hq hv hn rfl (fun ls' hl' => k H locs ls' hW hS (cp_lH_ls hl' hs))
def cp_lls (L : List (Option Value)) (i : Nat) (v : Value) (L' : List (Option Value)) : Prop := i + 1 < L.length ∧ L' = (L.set i (some v)).set (i + 1) none ∧ (∀ w, 0 < i → L[i - 1]? = some w → cp_nl w = true)
theorem cp_lH_ls2 {ls : Array Slot} {nL : Nat} {L L' : List (Option Value)} {i : Nat} {v : Value} (h : lv_has ls nL ((i, v) :: (cp_lq 0 L).filter (fun q => !(q.1 == i) && (!(q.1 == i + 1) && !(q.1 + 1 == i && q.2.category == 2))))) (hs : cp_lls L i v L') : cp_lH ls nL L' := by
  obtain ⟨h1, h2, h3⟩ := hs
  refine ⟨h.1, h.2.1, fun q hq => ?_⟩
  obtain ⟨j, w⟩ := q
  have hj := ((cp_lq_in L' 0 j w).mp hq).2
  rw [Nat.sub_zero, h2] at hj
  by_cases hj2 : j = i + 1
  · subst hj2
    rw [List.getElem?_set_self (by rw [List.length_set]; omega)] at hj
    cases hj
  · rw [List.getElem?_set_ne (Ne.symm hj2)] at hj
    by_cases hji : j = i
    · subst hji
      rw [List.getElem?_set_self (by omega)] at hj
      cases hj
      exact h.2.2 _ List.mem_cons_self
    · rw [List.getElem?_set_ne (Ne.symm hji)] at hj
      refine h.2.2 (j, w) (List.mem_cons_of_mem _ (List.mem_filter.mpr ⟨(cp_lq_in L 0 j w).mpr ⟨Nat.zero_le _, hj⟩, ?_⟩))
      by_cases hk : j + 1 = i
      · have h4 := h3 (some w) (by omega) (by rw [show i - 1 = j by omega]; exact hj)
        cases w <;> simp_all [cp_nl, Value.category]
      · simp [hji, hk, hj2]
theorem cp_lls0 {b c : Option Value} {t : List (Option Value)} {v : Value} : cp_lls (b :: c :: t) 0 v (some v :: none :: t) := ⟨by simp, rfl, fun w h _ => absurd h (by omega)⟩
theorem cp_lls1 {b c : Option Value} {t : List (Option Value)} {v : Value} {a0 : Option Value} (h : cp_nl a0 = true) : cp_lls (a0 :: b :: c :: t) 1 v (a0 :: some v :: none :: t) := ⟨by simp, rfl, fun w _ hw => by simp at hw; rw [← hw]; exact h⟩
theorem cp_lls2 {b c : Option Value} {t : List (Option Value)} {v : Value} {a0 : Option Value} {a1 : Option Value} (h : cp_nl a1 = true) : cp_lls (a0 :: a1 :: b :: c :: t) 2 v (a0 :: a1 :: some v :: none :: t) := ⟨by simp, rfl, fun w _ hw => by simp at hw; rw [← hw]; exact h⟩
theorem cp_lls3 {b c : Option Value} {t : List (Option Value)} {v : Value} {a0 : Option Value} {a1 : Option Value} {a2 : Option Value} (h : cp_nl a2 = true) : cp_lls (a0 :: a1 :: a2 :: b :: c :: t) 3 v (a0 :: a1 :: a2 :: some v :: none :: t) := ⟨by simp, rfl, fun w _ hw => by simp at hw; rw [← hw]; exact h⟩
theorem cp_lls4 {b c : Option Value} {t : List (Option Value)} {v : Value} {a0 : Option Value} {a1 : Option Value} {a2 : Option Value} {a3 : Option Value} (h : cp_nl a3 = true) : cp_lls (a0 :: a1 :: a2 :: a3 :: b :: c :: t) 4 v (a0 :: a1 :: a2 :: a3 :: some v :: none :: t) := ⟨by simp, rfl, fun w _ hw => by simp at hw; rw [← hw]; exact h⟩
theorem cp_lls5 {b c : Option Value} {t : List (Option Value)} {v : Value} {a0 : Option Value} {a1 : Option Value} {a2 : Option Value} {a3 : Option Value} {a4 : Option Value} (h : cp_nl a4 = true) : cp_lls (a0 :: a1 :: a2 :: a3 :: a4 :: b :: c :: t) 5 v (a0 :: a1 :: a2 :: a3 :: a4 :: some v :: none :: t) := ⟨by simp, rfl, fun w _ hw => by simp at hw; rw [← hw]; exact h⟩
theorem cp_lls6 {b c : Option Value} {t : List (Option Value)} {v : Value} {a0 : Option Value} {a1 : Option Value} {a2 : Option Value} {a3 : Option Value} {a4 : Option Value} {a5 : Option Value} (h : cp_nl a5 = true) : cp_lls (a0 :: a1 :: a2 :: a3 :: a4 :: a5 :: b :: c :: t) 6 v (a0 :: a1 :: a2 :: a3 :: a4 :: a5 :: some v :: none :: t) := ⟨by simp, rfl, fun w _ hw => by simp at hw; rw [← hw]; exact h⟩
theorem cp_lls7 {b c : Option Value} {t : List (Option Value)} {v : Value} {a0 : Option Value} {a1 : Option Value} {a2 : Option Value} {a3 : Option Value} {a4 : Option Value} {a5 : Option Value} {a6 : Option Value} (h : cp_nl a6 = true) : cp_lls (a0 :: a1 :: a2 :: a3 :: a4 :: a5 :: a6 :: b :: c :: t) 7 v (a0 :: a1 :: a2 :: a3 :: a4 :: a5 :: a6 :: some v :: none :: t) := ⟨by simp, rfl, fun w _ hw => by simp at hw; rw [← hw]; exact h⟩
theorem cp_lstore_n (O : cp_Ok x E own bc nL d mc ms) {n : Fin 4} {a : Int64} {L' : List (Option Value)} (hd : decode bc pc = .ok (.lstore_n n, 1)) (hn : (n : Nat) + 1 < nL) (hs : cp_lls L (n : Nat) (.long a) L') (k : cp_G x E nL cells slots cnt sh I R (pc + 1) L' st) : cp_G x E nL cells slots cnt sh I R pc L (.long a :: st) := fun H locs ls hW hS hl => lv_lstore_n O.1 O.2.1 hd rfl hl hn rfl (fun ls' hl' => k H locs ls' hW hS (cp_lH_ls2 hl' hs))
theorem cp_lstore (O : cp_Ok x E own bc nL d mc ms) {n : Nat} {a : Int64} {L' : List (Option Value)} (hd : decode bc pc = .ok (.lstore n, 2)) (hn : n + 1 < nL) (hs : cp_lls L n (.long a) L') (k : cp_G x E nL cells slots cnt sh I R (pc + 2) L' st) : cp_G x E nL cells slots cnt sh I R pc L (.long a :: st) := fun H locs ls hW hS hl => lv_lstore O.1 O.2.1 hd hl hn rfl (fun ls' hl' => k H locs ls' hW hS (cp_lH_ls2 hl' hs))
theorem cp_if_eq (O : cp_Ok x E own bc nL d mc ms) {a : Int32} {off : Int} {tgt : Nat} (hd : decode bc pc = .ok (.ifCond .eq off, 3)) (ht : (pc : Int) + off = (tgt : Int)) (kt : a = 0 → cp_G x E nL cells slots cnt sh I R tgt L st) (kf : ¬ a = 0 → cp_G x E nL cells slots cnt sh I R (pc + 3) L st) : cp_G x E nL cells slots cnt sh I R pc L (.int a :: st) := fun H locs ls hW hS hl => lv_if_eq O.1 O.2.1 hd ht (fun h => kt h H locs ls hW hS hl) (fun h => kf h H locs ls hW hS hl)
theorem cp_icmp_eq (O : cp_Ok x E own bc nL d mc ms) {a b : Int32} {off : Int} {tgt : Nat} (hd : decode bc pc = .ok (.if_icmp .eq off, 3)) (ht : (pc : Int) + off = (tgt : Int)) (kt : a = b → cp_G x E nL cells slots cnt sh I R tgt L st) (kf : ¬ a = b → cp_G x E nL cells slots cnt sh I R (pc + 3) L st) : cp_G x E nL cells slots cnt sh I R pc L (.int b :: .int a :: st) := fun H locs ls hW hS hl => lv_icmp_eq O.1 O.2.1 hd ht (fun h => kt h H locs ls hW hS hl) (fun h => kf h H locs ls hW hS hl)
theorem cp_if_ne (O : cp_Ok x E own bc nL d mc ms) {a : Int32} {off : Int} {tgt : Nat} (hd : decode bc pc = .ok (.ifCond .ne off, 3)) (ht : (pc : Int) + off = (tgt : Int)) (kt : ¬ a = 0 → cp_G x E nL cells slots cnt sh I R tgt L st) (kf : a = 0 → cp_G x E nL cells slots cnt sh I R (pc + 3) L st) : cp_G x E nL cells slots cnt sh I R pc L (.int a :: st) := fun H locs ls hW hS hl => lv_if_ne O.1 O.2.1 hd ht (fun h => kt h H locs ls hW hS hl) (fun h => kf h H locs ls hW hS hl)
theorem cp_icmp_ne (O : cp_Ok x E own bc nL d mc ms) {a b : Int32} {off : Int} {tgt : Nat} (hd : decode bc pc = .ok (.if_icmp .ne off, 3)) (ht : (pc : Int) + off = (tgt : Int)) (kt : ¬ a = b → cp_G x E nL cells slots cnt sh I R tgt L st) (kf : a = b → cp_G x E nL cells slots cnt sh I R (pc + 3) L st) : cp_G x E nL cells slots cnt sh I R pc L (.int b :: .int a :: st) := fun H locs ls hW hS hl => lv_icmp_ne O.1 O.2.1 hd ht (fun h => kt h H locs ls hW hS hl) (fun h => kf h H locs ls hW hS hl)
theorem cp_if_lt (O : cp_Ok x E own bc nL d mc ms) {a : Int32} {off : Int} {tgt : Nat} (hd : decode bc pc = .ok (.ifCond .lt off, 3)) (ht : (pc : Int) + off = (tgt : Int)) (kt : a < 0 → cp_G x E nL cells slots cnt sh I R tgt L st) (kf : ¬ a < 0 → cp_G x E nL cells slots cnt sh I R (pc + 3) L st) : cp_G x E nL cells slots cnt sh I R pc L (.int a :: st) := fun H locs ls hW hS hl => lv_if_lt O.1 O.2.1 hd ht (fun h => kt h H locs ls hW hS hl) (fun h => kf h H locs ls hW hS hl)
theorem cp_icmp_lt (O : cp_Ok x E own bc nL d mc ms) {a b : Int32} {off : Int} {tgt : Nat} (hd : decode bc pc = .ok (.if_icmp .lt off, 3)) (ht : (pc : Int) + off = (tgt : Int)) (kt : a < b → cp_G x E nL cells slots cnt sh I R tgt L st) (kf : ¬ a < b → cp_G x E nL cells slots cnt sh I R (pc + 3) L st) : cp_G x E nL cells slots cnt sh I R pc L (.int b :: .int a :: st) := fun H locs ls hW hS hl => lv_icmp_lt O.1 O.2.1 hd ht (fun h => kt h H locs ls hW hS hl) (fun h => kf h H locs ls hW hS hl)
theorem cp_if_ge (O : cp_Ok x E own bc nL d mc ms) {a : Int32} {off : Int} {tgt : Nat} (hd : decode bc pc = .ok (.ifCond .ge off, 3)) (ht : (pc : Int) + off = (tgt : Int)) (kt : 0 ≤ a → cp_G x E nL cells slots cnt sh I R tgt L st) (kf : ¬ 0 ≤ a → cp_G x E nL cells slots cnt sh I R (pc + 3) L st) : cp_G x E nL cells slots cnt sh I R pc L (.int a :: st) := fun H locs ls hW hS hl => lv_if_ge O.1 O.2.1 hd ht (fun h => kt h H locs ls hW hS hl) (fun h => kf h H locs ls hW hS hl)
theorem cp_icmp_ge (O : cp_Ok x E own bc nL d mc ms) {a b : Int32} {off : Int} {tgt : Nat} (hd : decode bc pc = .ok (.if_icmp .ge off, 3)) (ht : (pc : Int) + off = (tgt : Int)) (kt : b ≤ a → cp_G x E nL cells slots cnt sh I R tgt L st) (kf : ¬ b ≤ a → cp_G x E nL cells slots cnt sh I R (pc + 3) L st) : cp_G x E nL cells slots cnt sh I R pc L (.int b :: .int a :: st) := fun H locs ls hW hS hl => lv_icmp_ge O.1 O.2.1 hd ht (fun h => kt h H locs ls hW hS hl) (fun h => kf h H locs ls hW hS hl)
theorem cp_if_gt (O : cp_Ok x E own bc nL d mc ms) {a : Int32} {off : Int} {tgt : Nat} (hd : decode bc pc = .ok (.ifCond .gt off, 3)) (ht : (pc : Int) + off = (tgt : Int)) (kt : 0 < a → cp_G x E nL cells slots cnt sh I R tgt L st) (kf : ¬ 0 < a → cp_G x E nL cells slots cnt sh I R (pc + 3) L st) : cp_G x E nL cells slots cnt sh I R pc L (.int a :: st) := fun H locs ls hW hS hl => lv_if_gt O.1 O.2.1 hd ht (fun h => kt h H locs ls hW hS hl) (fun h => kf h H locs ls hW hS hl)
theorem cp_icmp_gt (O : cp_Ok x E own bc nL d mc ms) {a b : Int32} {off : Int} {tgt : Nat} (hd : decode bc pc = .ok (.if_icmp .gt off, 3)) (ht : (pc : Int) + off = (tgt : Int)) (kt : b < a → cp_G x E nL cells slots cnt sh I R tgt L st) (kf : ¬ b < a → cp_G x E nL cells slots cnt sh I R (pc + 3) L st) : cp_G x E nL cells slots cnt sh I R pc L (.int b :: .int a :: st) := fun H locs ls hW hS hl => lv_icmp_gt O.1 O.2.1 hd ht (fun h => kt h H locs ls hW hS hl) (fun h => kf h H locs ls hW hS hl)
theorem cp_if_le (O : cp_Ok x E own bc nL d mc ms) {a : Int32} {off : Int} {tgt : Nat} (hd : decode bc pc = .ok (.ifCond .le off, 3)) (ht : (pc : Int) + off = (tgt : Int)) (kt : a ≤ 0 → cp_G x E nL cells slots cnt sh I R tgt L st) (kf : ¬ a ≤ 0 → cp_G x E nL cells slots cnt sh I R (pc + 3) L st) : cp_G x E nL cells slots cnt sh I R pc L (.int a :: st) := fun H locs ls hW hS hl => lv_if_le O.1 O.2.1 hd ht (fun h => kt h H locs ls hW hS hl) (fun h => kf h H locs ls hW hS hl)
theorem cp_icmp_le (O : cp_Ok x E own bc nL d mc ms) {a b : Int32} {off : Int} {tgt : Nat} (hd : decode bc pc = .ok (.if_icmp .le off, 3)) (ht : (pc : Int) + off = (tgt : Int)) (kt : a ≤ b → cp_G x E nL cells slots cnt sh I R tgt L st) (kf : ¬ a ≤ b → cp_G x E nL cells slots cnt sh I R (pc + 3) L st) : cp_G x E nL cells slots cnt sh I R pc L (.int b :: .int a :: st) := fun H locs ls hW hS hl => lv_icmp_le O.1 O.2.1 hd ht (fun h => kt h H locs ls hW hS hl) (fun h => kf h H locs ls hW hS hl)
theorem cp_goto (O : cp_Ok x E own bc nL d mc ms) {off : Int} {tgt : Nat} (hd : decode bc pc = .ok (.goto off, 3)) (ht : (pc : Int) + off = (tgt : Int)) (k : cp_G x E nL cells slots cnt sh I R tgt L st) : cp_G x E nL cells slots cnt sh I R pc L st := fun H locs ls hW hS hl => lv_goto O.1 O.2.1 hd ht (k H locs ls hW hS hl)
theorem cp_ifnonnull (O : cp_Ok x E own bc nL d mc ms) {a : Nat} {off : Int} {tgt : Nat} (hd : decode bc pc = .ok (.ifnonnull off, 3)) (ht : (pc : Int) + off = (tgt : Int)) (k : cp_G x E nL cells slots cnt sh I R tgt L st) : cp_G x E nL cells slots cnt sh I R pc L (.ref a :: st) := fun H locs ls hW hS hl => lv_ifnonnull O.1 O.2.1 hd ht (k H locs ls hW hS hl)
theorem cp_ifnonnullN (O : cp_Ok x E own bc nL d mc ms) {off : Int} (hd : decode bc pc = .ok (.ifnonnull off, 3)) (k : cp_G x E nL cells slots cnt sh I R (pc + 3) L st) : cp_G x E nL cells slots cnt sh I R pc L (.null :: st) := fun H locs ls hW hS hl => lv_ifnonnullN O.1 O.2.1 hd (k H locs ls hW hS hl)
theorem cp_tableOut (O : cp_Ok x E own bc nL d mc ms) {dflt lo hi : Int} {offs : Array Int} {len tgt : Nat} {a : Int32} (hd : decode bc pc = .ok (.tableswitch dflt lo hi offs, len)) (h : a.toInt < lo ∨ hi < a.toInt) (ht : (pc : Int) + dflt = (tgt : Int)) (k : cp_G x E nL cells slots cnt sh I R tgt L st) : cp_G x E nL cells slots cnt sh I R pc L (.int a :: st) := fun H locs ls hW hS hl => lv_tableOut O.1 O.2.1 hd h ht (k H locs ls hW hS hl)
theorem cp_tableIn (O : cp_Ok x E own bc nL d mc ms) {dflt lo hi off : Int} {offs : Array Int} {len tgt : Nat} {a : Int32} (hd : decode bc pc = .ok (.tableswitch dflt lo hi offs, len)) (h1 : ¬ a.toInt < lo) (h2 : ¬ hi < a.toInt) (ho : offs[(a.toInt - lo).toNat]? = some off) (ht : (pc : Int) + off = (tgt : Int)) (k : cp_G x E nL cells slots cnt sh I R tgt L st) : cp_G x E nL cells slots cnt sh I R pc L (.int a :: st) := fun H locs ls hW hS hl => lv_tableIn O.1 O.2.1 hd h1 h2 ho ht (k H locs ls hW hS hl)
end CPR
end
section
/-! MEMORY: fields, arrays, tables -/
def cp_clf (ci : Nat) (C : String) (T : u_T) (N : Nat) (ty0 : Nat → FieldType) : Prop := vwCl[ci]? = some (C, T, N) ∧ (∀ w ∈ u_ws C T N, w ∈ cp_TG) ∧ (∀ k, k < N → parseFieldDescriptor (T k).2.2.1 = some (ty0 k)) ∧ (∀ a, a < N → ∀ b, b < N → a ≠ b → (T a).2.1 ≠ (T b).2.1) ∧ ci < 8 ∧ cp_nf ci = N
def cp_lk (own : String) (index : Nat) (T : u_T) (j : Nat) : Prop := Cond.fieldLink own index (T j).1 (T j).2.1 (T j).2.2.1 ∈ cp_TG
theorem cp_e_obj (cs : Nat → ClassId) (ci : Nat) (i : Nat → Int32) (r : Nat → Option Nat) (h : ci < 8) : cp_e cs (ci + 1, 0) i r = .inr (ci, cp_fs ci i r) := by
  unfold cp_e
  rw [if_pos (show (ci + 1, 0).1 ≤ 8 from h)]
  rfl
theorem cp_narb {v : Int32} (h : v = 0 ∨ v = 1) : narrow .boolean (.int v) = .int v ∧ fits .boolean (.int v) = true := by
  rcases h with rfl | rfl <;> exact ⟨rfl, rfl⟩
section CPM
variable {x : cp_Cx} {E : cp_En} {own : String} {bc : ByteArray} {nL d mc ms : Nat} {cells slots cnt : Nat} {sh : cp_Shp} {I : cp_Mem} {R : cp_Rem} {pc : Nat} {L : List (Option Value)} {st : List Value}
theorem cp_PW_in {H : Heap} (hW : cp_PW E cnt sh I R H) {a k n : Nat} (hs : sh a = (k + 1, n)) : cp_b0 E ≤ a ∧ a < cp_b0 E + cnt := (hW.1 a).mp (by rw [hs]; simp)
theorem cp_get (O : cp_Ok x E own bc nL d mc ms) {ci j index a : Nat} {C : String} {T : u_T} {N : Nat} {ty0 : Nat → FieldType} (hc : cp_clf ci C T N ty0) (hj : j < N) (hlk : cp_lk own index T j) (hs : sh a = (ci + 1, 0)) (hd : decode bc pc = .ok (.getfield index, 3))
    (k : cp_G x E nL cells slots cnt sh I R (pc + 3) L (cp_fv ci (I a) (R a) j :: st)) : cp_G x E nL cells slots cnt sh I R pc L (.ref a :: st) := by
  intro H locs ls hW hS hl
  obtain ⟨c1, c2, c3, c4, c5, c6⟩ := hc
  have ha := cp_PW_in hW hs
  have he := cp_WL_at E cnt sh I R ha
  rw [hs, cp_e_obj _ _ _ _ c5] at he
  exact va_get O.1 O.2.1 O.2.2.2.2.1 c2 O.2.2.2.1 O.2.2.2.2.2.1.1 hW.2.2 _ he c1 j hj (O.2.2.2.2.1 _ hlk) (fun _ h => h) (cp_fs_get ci _ _ (by rw [c6]; exact hj)) hd (k H locs ls hW hS hl)
theorem cp_getr (O : cp_Ok x E own bc nL d mc ms) {ci j index a y : Nat} {C : String} {T : u_T} {N : Nat} {ty0 : Nat → FieldType} (hc : cp_clf ci C T N ty0) (hj : j < N) (hlk : cp_lk own index T j) (hrf : cp_rf ci j = true) (hs : sh a = (ci + 1, 0)) (hr : R a j = some y) (hd : decode bc pc = .ok (.getfield index, 3))
    (k : cp_G x E nL cells slots cnt sh I R (pc + 3) L (.ref y :: st)) : cp_G x E nL cells slots cnt sh I R pc L (.ref a :: st) := by
  refine cp_get O hc hj hlk hs hd ?_
  rw [show cp_fv ci (I a) (R a) j = .ref y by unfold cp_fv; rw [if_pos hrf, hr]; rfl]
  exact k
/-- a number in a field -/
theorem cp_put (O : cp_Ok x E own bc nL d mc ms) {ci j index a : Nat} {v : Int32} {C : String} {T : u_T} {N : Nat} {ty0 : Nat → FieldType} (hc : cp_clf ci C T N ty0) (hj : j < N) (hlk : cp_lk own index T j) (hfin : (T j).2.2.2 = false) {ty : FieldType} (hd0 : parseFieldDescriptor (T j).2.2.1 = some ty) (hn : narrow ty (.int v) = .int v ∧ fits ty (.int v) = true) (hrf : cp_rf ci j = false) (hs : sh a = (ci + 1, 0)) (hd : decode bc pc = .ok (.putfield index, 3))
    (k : cp_G x E nL cells slots cnt sh (cp_wi I a j v) R (pc + 3) L st) : cp_G x E nL cells slots cnt sh I R pc L (.int v :: .ref a :: st) := by
  intro H locs ls hW hS hl
  obtain ⟨c1, c2, c3, c4, c5, c6⟩ := hc
  have ha := cp_PW_in hW hs
  have he := cp_WL_at E cnt sh I R ha
  rw [hs, cp_e_obj _ _ _ _ c5] at he
  have hK := O.2.2.2.2.2.1.1
  have hts := O.2.2.2.2.1
  have hD := cp_WL_D E cnt sh I R
  have hap := va_apart (own := own) hts c2 ty0 c3 c4 hK c1
  obtain ⟨r, h1, cell, q1, q2, q3, q4⟩ := hW.2.2 _ _ he
  have hr : r = (C, T, N) := Option.some.inj (h1.symm.trans c1)
  subst hr
  obtain ⟨hSl, hfc, kC, hkC, hkind⟩ := hK.1 ci _ c1
  obtain ⟨cf, kf, fi, f, hi, hsl⟩ := hSl j hj
  have hlay := hts _ (c2 _ (u_in_lay hj))
  unfold u_lay at hlay
  rw [if_neg (by rw [hfin]; decide)] at hlay
  have hst := (u_facts hfc hkC (u_lays hts c2 hj) hi).1
  have h6 := u_store hfc hkC hkind hlay hi hd0 hn.1 hn.2
  refine W.putK O.1 O.2.1 (f := f) ⟨O.2.2.2.1, O.2.2.2.2.1 _ hlk, ⟨_, _, _, hi⟩, hst⟩ (by rw [q2]; exact h6) q1 q3 (by rw [hsl]; exact k2_hasslot (q4 j hj)) rfl rfl hd fun H' e1 e2 e3 => ?_
  rw [hsl] at e1 ⊢
  have hlen : j < (cp_fs ci (I a) (R a)).length := by rw [cp_fs_len, c6]; exact hj
  have hP := hW.2.2.set (H1 := H') (e := .inr (ci, (cp_fs ci (I a) (R a)).set j (.int v))) hD he ⟨_, c1, t_OB.to (V := updV (vp_V (cp_fs ci (I a) (R a))) j (.int v)) ⟨_, e1, q2, q3, t_set q4 hap hj (.int v)⟩ (fun i _ => vp_updV_set hlen (.int v) i)⟩ e3
  rw [cp_WL_set (I' := cp_wi I a j v) (R' := R) ha (by
    rw [hs, cp_e_obj _ _ _ _ c5, cp_fs_set ci (i' := cp_wi I a j v a) (r' := R a) (by unfold cp_fv; rw [if_neg (by rw [hrf]; decide), cp_wi_s]) (fun q hq => by unfold cp_fv; simp [cp_wi, hq])]) (fun q hq => ⟨cp_wi_a I a j v hq, rfl⟩)] at hP
  exact k H' _ ls ⟨hW.1, by rw [e2]; exact hW.2.1, hP⟩ (hS.put e2 e3 ha.1) hl
/-- arrays of numbers -/
theorem cp_e_int (cs : Nat → ClassId) (n : Nat) (i : Nat → Int32) (r : Nat → Option Nat) : cp_e cs (9, n) i r = .inl (cs 9, n, .inl i) := by
  simp [cp_e]
theorem cp_e_chr (cs : Nat → ClassId) (n : Nat) (i : Nat → Int32) (r : Nat → Option Nat) : cp_e cs (10, n) i r = .inl (cs 10, n, .inl i) := by
  simp [cp_e]
theorem cp_e_ref (cs : Nat → ClassId) (k n : Nat) (i : Nat → Int32) (r : Nat → Option Nat) (h : 10 < k) : cp_e cs (k, n) i r = .inl (cs k, n, .inr (.inr (.inr (.inr r)))) := by
  simp [cp_e, show ¬ k ≤ 8 by omega, show ¬ k ≤ 10 by omega]
theorem cp_iald (O : cp_Ok x E own bc nL d mc ms) {a n j : Nat} {i : Int32} (hs : sh a = (9, n)) (hi : i = nI j) (hj : j < n) (hn : n < 2 ^ 31) (hd : decode bc pc = .ok (.iaload, 1))
    (k : cp_G x E nL cells slots cnt sh I R (pc + 1) L (.int (I a j) :: st)) : cp_G x E nL cells slots cnt sh I R pc L (.int i :: .ref a :: st) := by
  intro H locs ls hW hS hl
  have ha := cp_PW_in hW hs
  have he := cp_WL_at E cnt sh I R ha
  rw [hs, cp_e_int] at he
  subst hi
  refine va_iald O.1 O.2.1 O.2.2.2.2.2.1.1 hW.2.2 _ 0 he rfl (vp_in_nI hj hn) hd ?_
  rw [nI_clamp (Nat.lt_trans hj hn)]
  exact k H locs ls hW hS hl
theorem cp_cald (O : cp_Ok x E own bc nL d mc ms) {a n j : Nat} {i : Int32} (hs : sh a = (10, n)) (hi : i = nI j) (hj : j < n) (hn : n < 2 ^ 31) (hd : decode bc pc = .ok (.caload, 1))
    (k : cp_G x E nL cells slots cnt sh I R (pc + 1) L (.int (I a j) :: st)) : cp_G x E nL cells slots cnt sh I R pc L (.int i :: .ref a :: st) := by
  intro H locs ls hW hS hl
  have ha := cp_PW_in hW hs
  have he := cp_WL_at E cnt sh I R ha
  rw [hs, cp_e_chr] at he
  subst hi
  refine va_cald O.1 O.2.1 O.2.2.2.2.2.1.1 hW.2.2 _ 1 he rfl (vp_in_nI hj hn) hd ?_
  rw [nI_clamp (Nat.lt_trans hj hn)]
  exact k H locs ls hW hS hl
theorem cp_refT {E : cp_En} {k : Nat} {C : String} (hk : (k = 11 ∧ C = "CopyPlates$Night") ∨ (k = 12 ∧ C = "CopyPlates$Piece") ∨ (k = 13 ∧ C = "CopyPlates$Plate")) : (cp_ty E)[k - 9]? = some (cp_cs E k, .object C) := by
  rcases hk with ⟨rfl, rfl⟩ | ⟨rfl, rfl⟩ | ⟨rfl, rfl⟩ <;> rfl
theorem cp_aald (O : cp_Ok x E own bc nL d mc ms) {a k n j : Nat} {i : Int32} {C : String} (hk : (k = 11 ∧ C = "CopyPlates$Night") ∨ (k = 12 ∧ C = "CopyPlates$Piece") ∨ (k = 13 ∧ C = "CopyPlates$Plate")) (hs : sh a = (k, n)) (hi : i = nI j) (hj : j < n) (hn : n < 2 ^ 31) (hd : decode bc pc = .ok (.aaload, 1))
    (kk : cp_G x E nL cells slots cnt sh I R (pc + 1) L (va_rf (R a j) :: st)) : cp_G x E nL cells slots cnt sh I R pc L (.int i :: .ref a :: st) := by
  intro H locs ls hW hS hl
  have h10 : 10 < k := by omega
  have ha := (hW.1 a).mp (by rw [hs]; show k ≠ 0; omega)
  have he := cp_WL_at E cnt sh I R ha
  rw [hs, cp_e_ref _ _ _ _ _ h10] at he
  subst hi
  refine va_aldq O.1 O.2.1 O.2.2.2.2.2.1.1 hW.2.2 _ (k - 9) he (cp_refT hk) (vp_in_nI hj hn) hd ?_
  rw [nI_clamp (Nat.lt_trans hj hn)]
  exact kk H locs ls hW hS hl
theorem cp_aaldr (O : cp_Ok x E own bc nL d mc ms) {a k n j y : Nat} {i : Int32} {C : String} (hk : (k = 11 ∧ C = "CopyPlates$Night") ∨ (k = 12 ∧ C = "CopyPlates$Piece") ∨ (k = 13 ∧ C = "CopyPlates$Plate")) (hs : sh a = (k, n)) (hi : i = nI j) (hj : j < n) (hn : n < 2 ^ 31) (hr : R a j = some y) (hd : decode bc pc = .ok (.aaload, 1))
    (kk : cp_G x E nL cells slots cnt sh I R (pc + 1) L (.ref y :: st)) : cp_G x E nL cells slots cnt sh I R pc L (.int i :: .ref a :: st) := by
  refine cp_aald O hk hs hi hj hn hd ?_
  rw [hr]
  exact kk
theorem cp_iast (O : cp_Ok x E own bc nL d mc ms) {a n j : Nat} {i v : Int32} (hs : sh a = (9, n)) (hi : i = nI j) (hj : j < n) (hn : n < 2 ^ 31) (hd : decode bc pc = .ok (.iastore, 1))
    (k : cp_G x E nL cells slots cnt sh (cp_wi I a j v) R (pc + 1) L st) : cp_G x E nL cells slots cnt sh I R pc L (.int v :: .int i :: .ref a :: st) := by
  intro H locs ls hW hS hl
  have ha := cp_PW_in hW hs
  have he := cp_WL_at E cnt sh I R ha
  rw [hs, cp_e_int] at he
  subst hi
  refine W.iast O.1 O.2.1 (hW.2.2 _ _ he) ((O.2.2.2.2.2.1.1.2 0 _ rfl).1 n (fun q => .int (I a q))) (fun q => by cases q) (by show ¬ (nI j < 0 ∨ (arrV _ _ _).slots.size ≤ _); rw [arrV_size]; exact vp_in_nI hj hn) rfl rfl hd fun H1 e z oq => ?_
  have hc : (nI j).toNatClampNeg = j := nI_clamp (Nat.lt_trans hj hn)
  have hP := hW.2.2.set (e := .inl (cp_cs E 9, n, .inl (cp_wi I a j v a))) (cp_WL_D E cnt sh I R) he (by
    show H1[a]? = some (vp_cell _ _)
    rw [e, vp_cell_i, vp_cell_i, arrV_store]
    congr 2
    funext q
    rw [hc]
    by_cases hq : q = j
    · subst hq; simp [updV, cp_wi]
    · simp [updV, cp_wi, hq]) oq
  rw [cp_WL_set (I' := cp_wi I a j v) (R' := R) ha (by rw [hs, cp_e_int]) (fun q hq => ⟨cp_wi_a I a j v hq, rfl⟩)] at hP
  exact k H1 _ ls ⟨hW.1, by rw [z]; exact hW.2.1, hP⟩ (hS.put z oq ha.1) hl
theorem cp_cast (O : cp_Ok x E own bc nL d mc ms) {a n j q0 : Nat} {i v : Int32} (hs : sh a = (10, n)) (hi : i = nI j) (hj : j < n) (hn : n < 2 ^ 31) (hv : v = nI q0) (hq0 : q0 < 65536) (hd : decode bc pc = .ok (.castore, 1))
    (k : cp_G x E nL cells slots cnt sh (cp_wi I a j v) R (pc + 1) L st) : cp_G x E nL cells slots cnt sh I R pc L (.int v :: .int i :: .ref a :: st) := by
  intro H locs ls hW hS hl
  have ha := cp_PW_in hW hs
  have he := cp_WL_at E cnt sh I R ha
  rw [hs, cp_e_chr] at he
  subst hi
  refine W.cast O.1 O.2.1 (hW.2.2 _ _ he) ((O.2.2.2.2.2.1.1.2 1 _ rfl).1 n (fun q => .int (I a q))) (fun q => by cases q) (by show ¬ (nI j < 0 ∨ (arrV _ _ _).slots.size ≤ _); rw [arrV_size]; exact vp_in_nI hj hn) rfl rfl hd fun H1 e z oq => ?_
  have hc : (nI j).toNatClampNeg = j := nI_clamp (Nat.lt_trans hj hn)
  have hP := hW.2.2.set (e := .inl (cp_cs E 10, n, .inl (cp_wi I a j v a))) (cp_WL_D E cnt sh I R) he (by
    show H1[a]? = some (vp_cell _ _)
    rw [e, hv, (pk_charN hq0).1, vp_cell_i, vp_cell_i, arrV_store]
    congr 2
    funext q
    rw [hc]
    by_cases hq : q = j
    · subst hq; simp [updV, cp_wi]
    · simp [updV, cp_wi, hq]) oq
  rw [cp_WL_set (I' := cp_wi I a j v) (R' := R) ha (by rw [hs, cp_e_chr]) (fun q hq => ⟨cp_wi_a I a j v hq, rfl⟩)] at hP
  exact k H1 _ ls ⟨hW.1, by rw [z]; exact hW.2.1, hP⟩ (hS.put z oq ha.1) hl
/-- the tables of numbers that nobody writes -/
theorem cp_gets (O : cp_Ok x E own bc nL d mc ms) {q index : Nat} (hq : q < 3) (hlk : Cond.fieldLink own index "CopyPlates" (cp_sn q) "[I" ∈ cp_TG) (hd : decode bc pc = .ok (.getstatic index, 3))
    (k : cp_G x E nL cells slots cnt sh I R (pc + 3) L (.ref (cp_ts E q) :: st)) : cp_G x E nL cells slots cnt sh I R pc L st := fun H locs ls hW hS hl =>
  va_gets O.1 O.2.1 (O.2.2.2.2.2.2.1.1 q hq).1 hS O.2.2.2.1 (O.2.2.2.2.1 _ hlk) (fun _ h => h) hd (k H locs ls hW hS hl)
theorem cp_getsN (O : cp_Ok x E own bc nL d mc ms) {q index : Nat} (hq : q < 3) (hlk : (own, index, cp_sn q) ∈ cp_nF) (hd : decode bc pc = .ok (.getstatic index, 3))
    (k : cp_G x E nL cells slots cnt sh I R (pc + 3) L (.ref (cp_ts E q) :: st)) : cp_G x E nL cells slots cnt sh I R pc L st := fun H locs ls hW hS hl =>
  va_getsN O.1 O.2.1 (O.2.2.2.2.2.2.1.1 q hq).1 hS O.2.2.2.1 (va_Nw.use rfl (O.2.2.2.2.2.1.2.1 _ hlk)) (fun _ h => h) hd (k H locs ls hW hS hl)
theorem cp_tald (O : cp_Ok x E own bc nL d mc ms) {q j : Nat} {i : Int32} (hq : q < 3) (hi : i = nI j) (hj : j < 4) (hd : decode bc pc = .ok (.iaload, 1))
    (k : cp_G x E nL cells slots cnt sh I R (pc + 1) L (.int (cp_sv q j) :: st)) : cp_G x E nL cells slots cnt sh I R pc L (.int i :: .ref (cp_ts E q) :: st) := fun H locs ls hW hS hl => by
  subst hi
  refine va_ti O.1 O.2.1 (O.2.2.2.2.2.2.1.1 q hq).2 hS (vp_in_nI hj (by decide)) (v := .int (cp_sv q j)) (by rw [nI_clamp (by omega)]) hd (k H locs ls hW hS hl)
end CPM
end
section
/-! CONTRACTS AND CALLS -/
def cp_Pre (E : cp_En) (cnt : Nat) (sh : cp_Shp) (I : cp_Mem) (R : cp_Rem) (U : State) : Prop := cp_PW E cnt sh I R U.heap ∧ cp_K E U ∧ cp_Z E U U.heap
def cp_Qc (E : cp_En) (Post : Option Value → Nat → cp_Shp → cp_Mem → cp_Rem → Prop) : Array Value → State → Outcome → State → Prop := fun _ st oc t => (∃ (v : Option Value) (cnt' : Nat) (sh' : cp_Shp) (I' : cp_Mem) (R' : cp_Rem), oc = .returned v ∧ Post v cnt' sh' I' R' ∧ cp_PW E cnt' sh' I' R' t.heap) ∧ va_F (cp_A E) st t
def cp_Ct (l : Launch) (E : cp_En) (y : MethodName) (bc : ByteArray) (nL : Nat) (ret : Option FieldType) (d mc ms : Nat) (as : List Value) (cnt : Nat) (sh : cp_Shp) (I : cp_Mem) (R : cp_Rem) (Post : Option Value → Nat → cp_Shp → cp_Mem → cp_Rem → Prop) : Prop :=
  Met l y (.code y bc nL ret :: cp_TG) (cp_rm d mc ms) (va_Pc as (cp_Pre E cnt sh I R)) (cp_Qc E Post) mc ms (cp_A E)
/-- a method that makes nothing: its answer and the numbers behind it -/
def cp_Fn (l : Launch) (E : cp_En) (y : MethodName) (bc : ByteArray) (nL : Nat) (ret : Option FieldType) (d : Nat) (as : List Value) (cnt : Nat) (sh : cp_Shp) (I : cp_Mem) (R : cp_Rem) (v : Option Value) (I' : cp_Mem) : Prop :=
  cp_Ct l E y bc nL ret d 0 0 as cnt sh I R (fun v' c s i r => v' = v ∧ c = cnt ∧ s = sh ∧ i = I' ∧ r = R)
theorem cp_Ct_of {l : Launch} {E : cp_En} {y : MethodName} {bc : ByteArray} {nL : Nat} {ret : Option FieldType} {d mc ms : Nat} {as : List Value} {cnt : Nat} {sh : cp_Shp} {I : cp_Mem} {R : cp_Rem} {Post : Option Value → Nat → cp_Shp → cp_Mem → cp_Rem → Prop} {L0 : List (Option Value)}
    (hy : plainName y.cls = true) (hlen : (lg_sl as).length ≤ nL) (hL : cp_lq 0 L0 = lv_args 0 as)
    (body : ∀ x : cp_Cx, cp_xl x = l → cp_Ok x E y.cls bc nL d mc ms → (y.name = "<init>" → (cp_xk x).name = "<init>") →
      (∀ (rt : FieldType) (v : Int32) (cnt' : Nat) (sh' : cp_Shp) (I' : cp_Mem) (R' : cp_Rem) (pc : Nat) (L : List (Option Value)), ret = some rt → narrow rt (.int v) = .int v → decode bc pc = .ok (.ireturn, 1) → Post (some (.int v)) cnt' sh' I' R' → cp_G x E nL mc ms cnt' sh' I' R' pc L [.int v]) →
      (∀ (cnt' : Nat) (sh' : cp_Shp) (I' : cp_Mem) (R' : cp_Rem) (pc : Nat) (L : List (Option Value)), ret = none → decode bc pc = .ok (.return_, 1) → Post none cnt' sh' I' R' → cp_G x E nL mc ms cnt' sh' I' R' pc L []) →
      cp_G x E nL 0 0 cnt sh I R 0 L0 []) : cp_Ct l E y bc nL ret d mc ms as cnt sh I R Post := by
  refine Met.ofW (cc := bc) (maxL := nL) (ret := ret) hy rfl ?_
  intro p e s m args below meth c s₁ B hml hv
  obtain ⟨rfl, hW, hK, hZ⟩ := hv
  have hts := atoms_spec (ws := .code y bc nL ret :: cp_TG) B.pre
  have hown : s.vm.findClass y.cls = some m.cls := findClass_of_methodNamed B.named
  have hlocks := B.notSynchronized
  rw [lg_entry_eq]
  have hl := lv_entry as hlen
  generalize (lg_sl as ++ List.replicate (nL - (lg_sl as).length) Slot.unset).toArray = ls at hl ⊢
  refine body (p, l, e, (headSpec (.code y bc nL ret :: cp_TG) (cp_rm d mc ms)).room, s, m, as.toArray, below, meth, c, MQ below (cp_Qc E Post) as.toArray s mc ms (cp_A E)) rfl
    ⟨B.exec, B.bytes, hml, hown, fun w hw => hts w (List.mem_cons_of_mem _ hw), hK, hZ, by rw [hW.2.1]; exact Nat.le_add_right _ _, Nat.le_refl _, Nat.le_refl _, Nat.le_refl _, Nat.le_refl _⟩ (fun hi => (name_of_methodNamed B.named B.method).1.trans hi) ?_ ?_ s.heap [] ls hW va_S.rf (by show lv_has ls nL (cp_lq 0 L0); rw [hL]; exact hl)
  · intro rt v cnt' sh' I' R' pc L hrt hn hd hp H locs ls' hW' hS hl'
    exact W.zret (Qc := cp_Qc E Post) B.exec B.bytes (B.returns.trans hrt) hn (fun t ht hw => ⟨⟨_, _, _, _, _, rfl, hp, by rw [ht]; exact hW'⟩, hS.F ht⟩) hS.2.2 hd
  · intro cnt' sh' I' R' pc L hrt hd hp H locs ls' hW' hS hl'
    exact W.vret (Qc := cp_Qc E Post) B.exec B.bytes (B.returns.trans hrt) (fun t ht hw => ⟨⟨_, _, _, _, _, rfl, hp, by rw [ht]; exact hW'⟩, hS.F ht⟩) hS.2.2 hd
/-- the same for a method that makes nothing: an int (a boolean, a character) comes back -/
theorem cp_Fn_i {l : Launch} {E : cp_En} {y : MethodName} {bc : ByteArray} {nL : Nat} {rt : FieldType} {d : Nat} {as : List Value} {cnt : Nat} {sh : cp_Shp} {I : cp_Mem} {R : cp_Rem} {r : Int32} {I' : cp_Mem} (L0 : List (Option Value))
    (hy : plainName y.cls = true) (hlen : (lg_sl as).length ≤ nL) (hL : cp_lq 0 L0 = lv_args 0 as) (hn : narrow rt (.int r) = .int r)
    (body : ∀ x : cp_Cx, cp_xl x = l → cp_Ok x E y.cls bc nL d 0 0 →
      (∀ (v : Int32) (I1 : cp_Mem) (pc : Nat) (L : List (Option Value)), decode bc pc = .ok (.ireturn, 1) → v = r → I1 = I' → cp_G x E nL 0 0 cnt sh I1 R pc L [.int v]) →
      cp_G x E nL 0 0 cnt sh I R 0 L0 []) : cp_Fn l E y bc nL (some rt) d as cnt sh I R (some (.int r)) I' :=
  cp_Ct_of hy hlen hL fun x h1 h2 _ h4 _ => body x h1 h2 fun v I1 pc L hd hv hI => h4 rt v cnt sh I1 R pc L rfl (by rw [hv]; exact hn) hd ⟨by rw [hv], rfl, rfl, hI, rfl⟩
theorem cp_Fn_v {l : Launch} {E : cp_En} {y : MethodName} {bc : ByteArray} {nL : Nat} {d : Nat} {as : List Value} {cnt : Nat} {sh : cp_Shp} {I : cp_Mem} {R : cp_Rem} {I' : cp_Mem} (L0 : List (Option Value))
    (hy : plainName y.cls = true) (hlen : (lg_sl as).length ≤ nL) (hL : cp_lq 0 L0 = lv_args 0 as)
    (body : ∀ x : cp_Cx, cp_xl x = l → cp_Ok x E y.cls bc nL d 0 0 →
      (∀ (I1 : cp_Mem) (pc : Nat) (L : List (Option Value)), decode bc pc = .ok (.return_, 1) → I1 = I' → cp_G x E nL 0 0 cnt sh I1 R pc L []) →
      cp_G x E nL 0 0 cnt sh I R 0 L0 []) : cp_Fn l E y bc nL none d as cnt sh I R none I' :=
  cp_Ct_of hy hlen hL fun x h1 h2 _ _ h5 => body x h1 h2 fun I1 pc L hd hI => h5 cnt sh I1 R pc L rfl hd ⟨rfl, rfl, rfl, hI, rfl⟩
/-- what the words say of a method that is called: its code; of a call of it -/
def cp_me (y : MethodName) (cb : ByteArray) (nLc : Nat) (ret : Option FieldType) (n : Nat) : Prop := Cond.code y cb nLc ret ∈ cp_TG ∧ Cond.initialized y.cls ∈ cp_TG ∧ y.cls ≠ "java/lang/invoke/MethodHandle" ∧ y.cls ≠ "java/lang/invoke/VarHandle" ∧ (parseMethodDescriptor y.desc).map (fun d => d.parameters.length) = some n
def cp_mi (y : MethodName) : Prop := Cond.instanceMethod y ∈ cp_TG ∧ Cond.selects y.cls y y ∈ cp_TG
def cp_rl (d nLc dc : Nat) : Prop := dc + 1 ≤ d ∧ 8 + (nLc + 11) + (12 + 32 * dc) ≤ 12 + 32 * d
section CPC
variable {x : cp_Cx} {E : cp_En} {own : String} {bc : ByteArray} {nL d mc ms : Nat} {cells slots cnt : Nat} {sh : cp_Shp} {I : cp_Mem} {R : cp_Rem} {pc : Nat} {L : List (Option Value)} {st stk rest As : List Value} {y : MethodName} {cb : ByteArray} {nLc n index dc mcc msc b : Nat} {ret : Option FieldType} {Post : Option Value → Nat → cp_Shp → cp_Mem → cp_Rem → Prop}
theorem cp_good {w : Cond} (h : w ∈ cp_TG) : w ∈ cp_TG ∧ ((w.onTables && w.keeps) = true ∨ ∃ ty, w = .arrayClass ty) := ⟨h, good_of_word (List.mem_filter.mp h).2⟩
theorem cp_goodIn (hc : Cond.code y cb nLc ret ∈ cp_TG) : GoodIn cp_TG (.code y cb nLc ret :: cp_TG) := fun w hw => by
  rcases List.mem_cons.mp hw with h | h
  · subst h; exact cp_good hc
  · exact cp_good h
theorem cp_room (O : cp_Ok x E own bc nL d mc ms) (hr : cp_rl d nLc dc) : (cp_rm dc mcc msc).frames + 1 ≤ (cp_xR x).frames ∧ 8 + (nLc + 11) + (cp_rm dc mcc msc).locals ≤ (cp_xR x).locals :=
  ⟨Nat.le_trans hr.1 O.2.2.2.2.2.2.2.2.1, Nat.le_trans hr.2 O.2.2.2.2.2.2.2.2.2.1⟩
theorem cp_blind {as : List Value} : FrameBlind (va_Pc as (cp_Pre E cnt sh I R)) := fun a U g mk q => by
  obtain ⟨q1, q2, q3, q4⟩ := q
  exact ⟨q1, q2, ⟨va_K.moved (u := U) (U := U.calling g mk a) (Vm.Alike.refl U.vm) q3.1, cp_nw_same rfl q3.2⟩, cp_Z_moved (u := U) (U := U.calling g mk a) (Vm.Alike.refl U.vm) q4⟩
theorem cp_pre (O : cp_Ok x E own bc nL d mc ms) {H : Heap} {locs : List Loc} (hW : cp_PW E cnt sh I R H) (hS : va_S (cp_A E) (cp_xs x).heap H locs) {as : List Value} : ∀ U : State, U.heap = H → (cp_xs x).WarmedH U.vm → va_Pc as (cp_Pre E cnt sh I R) as.toArray U := fun U hU hw => by
  refine ⟨rfl, by rw [hU]; exact hW, cp_K_warm hw O.2.2.2.2.2.1, ?_⟩
  rw [hU]
  exact cp_Z_kept (fun a h1 h2 => hS.2.1 a h1 h2) (cp_Z_moved hw.alike O.2.2.2.2.2.2.1)
theorem cp_after (O : cp_Ok x E own bc nL d mc ms) {H : Heap} {locs : List Loc} {ls : Array Slot} {a : Array Value} {st0 : List Value} (hW : cp_PW E cnt sh I R H) (hS : va_S (cp_A E) (cp_xs x).heap H locs) (hl : cp_lH ls nL L)
    (hr : va_Run (cp_xp x) (cp_xl x) (cp_xe x) (cp_xR x) (cp_xs x) (cp_xm x) (cp_xa x) (cp_xb x) (cp_xk x) (cp_xc x) H locs cells slots mcc msc (F0 (cp_xm x) pc ls st0) rest (cp_Qc E Post a) (cp_A E))
    (k : ∀ v cnt' sh' I' R', Post v cnt' sh' I' R' → cp_G x E nL (cells + mcc) (slots + msc) cnt' sh' I' R' (pc + 3) L (v.toList ++ rest)) : cp_W x H locs cells slots (F0 (cp_xm x) pc ls st0) := by
  intro T hT X
  obtain ⟨v, st₀, t, T', L', h0, X', hL, e1, e2, ⟨⟨v', cnt', sh', I', R', hv, hp, hW'⟩, hz, hk⟩, stp⟩ := hr T hT X
  cases hv
  rw [h0] at hz hk
  obtain ⟨t2, a1, b1⟩ := k v cnt' sh' I' R' hp T'.heap (locs ++ L') ls (by rw [e1]; exact hW') ⟨Nat.le_trans hS.1 (by rw [e1]; exact hz), fun q h1 h2 => by rw [e1, hk q (Nat.lt_of_lt_of_le h1 hS.1) h2]; exact hS.2.1 q h1 h2, fun q hq => by
      rcases List.mem_append.mp hq with h | h
      · exact hS.2.2 q h
      · exact hL q h⟩ hl T' rfl X'
  exact ⟨t2, stp t2 a1, b1⟩
theorem cp_recv (O : cp_Ok x E own bc nL d mc ms) {H : Heap} (hW : cp_PW E cnt sh I R H) {ci : Nat} {C : String} {T : u_T} {N : Nat} {ty0 : Nat → FieldType} (hc : cp_clf ci C T N ty0) (hs : sh b = (ci + 1, 0)) : ∃ cell : Cell, H[b]? = some cell ∧ cell.vm.isStatics = false ∧ (cp_xs x).vm.findClass C = some cell.cls := by
  obtain ⟨c1, c2, c3, c4, c5, c6⟩ := hc
  have he := cp_WL_at E cnt sh I R (cp_PW_in hW hs)
  rw [hs, cp_e_obj _ _ _ _ c5] at he
  exact va_recv O.2.2.2.2.2.1.1 hW.2.2 c1 he
theorem cp_callV (O : cp_Ok x E own bc nL d mc ms) (hM : cp_me y cb nLc ret n) (hI : cp_mi y) (hlk : Cond.methodLink own index y ∈ cp_TG) {ci : Nat} {T : u_T} {N : Nat} {ty0 : Nat → FieldType} (hc : cp_clf ci y.cls T N ty0) (hs : sh b = (ci + 1, 0))
    (hC : cp_Ct (cp_xl x) E y cb nLc ret dc mcc msc (.ref b :: As) cnt sh I R Post) (hd : decode bc pc = .ok (.invokevirtual index, 3)) (hn : As.length = n) (hst : stk = As.reverse ++ .ref b :: rest) (hr : cp_rl d nLc dc) (hcs : cells + mcc ≤ mc ∧ slots + msc ≤ ms) (hrest : (rest.map fun v => v.category).sum ≤ 8)
    (k : ∀ v cnt' sh' I' R', Post v cnt' sh' I' R' → cp_G x E nL (cells + mcc) (slots + msc) cnt' sh' I' R' (pc + 3) L (v.toList ++ rest)) : cp_G x E nL cells slots cnt sh I R pc L stk := by
  intro H locs ls hW hS hl
  subst hst
  refine cp_after O (a := (Value.ref b :: As).toArray) hW hS hl (va_runV (As := As) (rest := rest) ⟨O.1, O.2.1, O.2.2.1, O.2.2.2.1, O.2.2.2.2.1⟩ hC (cwV n O.2.2.2.2.1 (fun w hw => ?_) rfl rfl rfl ⟨rfl, hM.2.2.1, hM.2.2.2.1, hM.2.2.2.2⟩ (cp_room O hr)) ⟨cp_blind, cp_recv O hW hc hs, cp_pre O hW hS⟩ rfl hn hl.1 rfl (lv_room hrest) hd ⟨Nat.le_trans hcs.1 O.2.2.2.2.2.2.2.2.2.2.1, Nat.le_trans hcs.2 O.2.2.2.2.2.2.2.2.2.2.2⟩) k
  unfold wsV at hw
  rcases List.mem_append.mp hw with h | h
  · simp only [List.mem_cons, List.not_mem_nil, or_false] at h
    rcases h with h | h | h | h <;> subst h
    · exact cp_good hlk
    · exact cp_good hI.1
    · exact cp_good hI.2
    · exact cp_good hM.2.1
  · exact cp_goodIn hM.1 w h
theorem cp_callS (O : cp_Ok x E own bc nL d mc ms) (hM : cp_me y cb nLc ret n) (hst0 : Cond.static y ∈ cp_TG) (hlk : Cond.methodLink own index y ∈ cp_TG)
    (hC : cp_Ct (cp_xl x) E y cb nLc ret dc mcc msc As cnt sh I R Post) (hd : decode bc pc = .ok (.invokestatic index, 3)) (hn : As.length = n) (hst : stk = As.reverse ++ rest) (hr : cp_rl d nLc dc) (hcs : cells + mcc ≤ mc ∧ slots + msc ≤ ms) (hrest : (rest.map fun v => v.category).sum ≤ 8)
    (k : ∀ v cnt' sh' I' R', Post v cnt' sh' I' R' → cp_G x E nL (cells + mcc) (slots + msc) cnt' sh' I' R' (pc + 3) L (v.toList ++ rest)) : cp_G x E nL cells slots cnt sh I R pc L stk := by
  intro H locs ls hW hS hl
  subst hst
  refine cp_after O (a := As.toArray) hW hS hl (va_runS (As := As) (rest := rest) ⟨O.1, O.2.1, O.2.2.1, O.2.2.2.1, O.2.2.2.2.1⟩ hC (va_cwS n O.2.2.2.2.1 (fun w hw => ?_) rfl rfl rfl ⟨hM.2.2.1, hM.2.2.2.1, hM.2.2.2.2⟩ (cp_room O hr)) ⟨cp_blind, cp_pre O hW hS⟩ rfl hn hl.1 rfl (lv_room hrest) hd ⟨Nat.le_trans hcs.1 O.2.2.2.2.2.2.2.2.2.2.1, Nat.le_trans hcs.2 O.2.2.2.2.2.2.2.2.2.2.2⟩) k
  unfold va_wsS at hw
  rcases List.mem_append.mp hw with h | h
  · simp only [List.mem_cons, List.not_mem_nil, or_false] at h
    rcases h with h | h | h <;> subst h
    · exact cp_good hlk
    · exact cp_good hst0
    · exact cp_good hM.2.1
  · exact cp_goodIn hM.1 w h
theorem cp_callSN (O : cp_Ok x E own bc nL d mc ms) (hM : cp_me y cb nLc ret n) (hst0 : Cond.static y ∈ cp_TG) (hlk : (own, index, y) ∈ cp_nM)
    (hC : cp_Ct (cp_xl x) E y cb nLc ret dc mcc msc As cnt sh I R Post) (hd : decode bc pc = .ok (.invokestatic index, 3)) (hn : As.length = n) (hst : stk = As.reverse ++ rest) (hr : cp_rl d nLc dc) (hcs : cells + mcc ≤ mc ∧ slots + msc ≤ ms) (hrest : (rest.map fun v => v.category).sum ≤ 8)
    (k : ∀ v cnt' sh' I' R', Post v cnt' sh' I' R' → cp_G x E nL (cells + mcc) (slots + msc) cnt' sh' I' R' (pc + 3) L (v.toList ++ rest)) : cp_G x E nL cells slots cnt sh I R pc L stk := by
  intro H locs ls hW hS hl
  subst hst
  exact cp_after O (a := As.toArray) hW hS hl (va_runSN (As := As) (rest := rest) ⟨O.1, O.2.1, O.2.2.1, O.2.2.2.1, O.2.2.2.2.1⟩ hC ⟨va_cnB n O.2.2.2.2.1 (cp_goodIn hM.1) rfl rfl rfl (O.2.2.2.2.2.1.2.2.1 _ hlk) (O.2.2.2.2.1 _ hM.2.1) ⟨hM.2.2.1, hM.2.2.2.1, hM.2.2.2.2⟩ (cp_room O hr), O.2.2.2.2.1 _ hst0, trivial⟩ ⟨cp_blind, cp_pre O hW hS⟩ rfl hn hl.1 rfl (lv_room hrest) hd ⟨Nat.le_trans hcs.1 O.2.2.2.2.2.2.2.2.2.2.1, Nat.le_trans hcs.2 O.2.2.2.2.2.2.2.2.2.2.2⟩) k
/-- calls of methods that make nothing -/
theorem cp_cVi (O : cp_Ok x E own bc nL d mc ms) {r : Int32} {I' : cp_Mem} (hM : cp_me y cb nLc ret n) (hI : cp_mi y) (hlk : Cond.methodLink own index y ∈ cp_TG) {ci : Nat} {T : u_T} {N : Nat} {ty0 : Nat → FieldType} (hc : cp_clf ci y.cls T N ty0) (hs : sh b = (ci + 1, 0))
    (hC : cp_Fn (cp_xl x) E y cb nLc ret dc (.ref b :: As) cnt sh I R (some (.int r)) I') (hd : decode bc pc = .ok (.invokevirtual index, 3)) (hn : As.length = n) (hst : stk = As.reverse ++ .ref b :: rest) (hr : cp_rl d nLc dc) (hcs : cells ≤ mc ∧ slots ≤ ms) (hrest : (rest.map fun v => v.category).sum ≤ 8)
    (k : cp_G x E nL cells slots cnt sh I' R (pc + 3) L (.int r :: rest)) : cp_G x E nL cells slots cnt sh I R pc L stk :=
  cp_callV O hM hI hlk hc hs hC hd hn hst hr hcs hrest fun v c s i r h => by
    obtain ⟨rfl, rfl, rfl, rfl, rfl⟩ := h
    exact k
theorem cp_cVv (O : cp_Ok x E own bc nL d mc ms) {I' : cp_Mem} (hM : cp_me y cb nLc ret n) (hI : cp_mi y) (hlk : Cond.methodLink own index y ∈ cp_TG) {ci : Nat} {T : u_T} {N : Nat} {ty0 : Nat → FieldType} (hc : cp_clf ci y.cls T N ty0) (hs : sh b = (ci + 1, 0))
    (hC : cp_Fn (cp_xl x) E y cb nLc ret dc (.ref b :: As) cnt sh I R none I') (hd : decode bc pc = .ok (.invokevirtual index, 3)) (hn : As.length = n) (hst : stk = As.reverse ++ .ref b :: rest) (hr : cp_rl d nLc dc) (hcs : cells ≤ mc ∧ slots ≤ ms) (hrest : (rest.map fun v => v.category).sum ≤ 8)
    (k : cp_G x E nL cells slots cnt sh I' R (pc + 3) L rest) : cp_G x E nL cells slots cnt sh I R pc L stk :=
  cp_callV O hM hI hlk hc hs hC hd hn hst hr hcs hrest fun v c s i r h => by
    obtain ⟨rfl, rfl, rfl, rfl, rfl⟩ := h
    exact k
theorem cp_cSi (O : cp_Ok x E own bc nL d mc ms) {r : Int32} {I' : cp_Mem} (hM : cp_me y cb nLc ret n) (hst0 : Cond.static y ∈ cp_TG) (hlk : Cond.methodLink own index y ∈ cp_TG)
    (hC : cp_Fn (cp_xl x) E y cb nLc ret dc As cnt sh I R (some (.int r)) I') (hd : decode bc pc = .ok (.invokestatic index, 3)) (hn : As.length = n) (hst : stk = As.reverse ++ rest) (hr : cp_rl d nLc dc) (hcs : cells ≤ mc ∧ slots ≤ ms) (hrest : (rest.map fun v => v.category).sum ≤ 8)
    (k : cp_G x E nL cells slots cnt sh I' R (pc + 3) L (.int r :: rest)) : cp_G x E nL cells slots cnt sh I R pc L stk :=
  cp_callS O hM hst0 hlk hC hd hn hst hr hcs hrest fun v c s i r h => by
    obtain ⟨rfl, rfl, rfl, rfl, rfl⟩ := h
    exact k
theorem cp_cSv (O : cp_Ok x E own bc nL d mc ms) {I' : cp_Mem} (hM : cp_me y cb nLc ret n) (hst0 : Cond.static y ∈ cp_TG) (hlk : Cond.methodLink own index y ∈ cp_TG)
    (hC : cp_Fn (cp_xl x) E y cb nLc ret dc As cnt sh I R none I') (hd : decode bc pc = .ok (.invokestatic index, 3)) (hn : As.length = n) (hst : stk = As.reverse ++ rest) (hr : cp_rl d nLc dc) (hcs : cells ≤ mc ∧ slots ≤ ms) (hrest : (rest.map fun v => v.category).sum ≤ 8)
    (k : cp_G x E nL cells slots cnt sh I' R (pc + 3) L rest) : cp_G x E nL cells slots cnt sh I R pc L stk :=
  cp_callS O hM hst0 hlk hC hd hn hst hr hcs hrest fun v c s i r h => by
    obtain ⟨rfl, rfl, rfl, rfl, rfl⟩ := h
    exact k
theorem cp_cSNi (O : cp_Ok x E own bc nL d mc ms) {r : Int32} {I' : cp_Mem} (hM : cp_me y cb nLc ret n) (hst0 : Cond.static y ∈ cp_TG) (hlk : (own, index, y) ∈ cp_nM)
    (hC : cp_Fn (cp_xl x) E y cb nLc ret dc As cnt sh I R (some (.int r)) I') (hd : decode bc pc = .ok (.invokestatic index, 3)) (hn : As.length = n) (hst : stk = As.reverse ++ rest) (hr : cp_rl d nLc dc) (hcs : cells ≤ mc ∧ slots ≤ ms) (hrest : (rest.map fun v => v.category).sum ≤ 8)
    (k : cp_G x E nL cells slots cnt sh I' R (pc + 3) L (.int r :: rest)) : cp_G x E nL cells slots cnt sh I R pc L stk :=
  cp_callSN O hM hst0 hlk hC hd hn hst hr hcs hrest fun v c s i r h => by
    obtain ⟨rfl, rfl, rfl, rfl, rfl⟩ := h
    exact k
end CPC
end
section
theorem cp_sub {big : List Cond} (ws : List Cond) (ps : List Nat) (hp : ws = ps.filterMap (fun i => big[i]?)) : ∀ w ∈ ws, w ∈ big := by
  intro w hw
  rw [hp] at hw
  obtain ⟨i, -, hi⟩ := List.mem_filterMap.mp hw
  exact List.mem_of_getElem? hi
theorem cp_inX0 : ∀ w ∈ wsX00, w ∈ cp_TG := fun w h => List.mem_filter.mpr ⟨cp_sub (big := lw_tbl) wsX00 [206, 208, 210] (by decide +kernel) w h, List.all_eq_true.mp (by decide +kernel : wsX00.all goodWord = true) w h⟩
theorem cp_cX0 : cp_clf 0 RX0 TX0 3 tyX0 := ⟨rfl, cp_inX0, tyX0_ok, nmX0, by decide, rfl⟩
theorem cp_inX1 : ∀ w ∈ wsX10, w ∈ cp_TG := fun w h => List.mem_filter.mpr ⟨cp_sub (big := lw_tbl) wsX10 [180, 182, 184, 186, 188, 190] (by decide +kernel) w h, List.all_eq_true.mp (by decide +kernel : wsX10.all goodWord = true) w h⟩
theorem cp_cX1 : cp_clf 1 RX1 TX1 6 tyX1 := ⟨rfl, cp_inX1, tyX1_ok, nmX1, by decide, rfl⟩
theorem cp_inX2 : ∀ w ∈ wsX20, w ∈ cp_TG := fun w h => List.mem_filter.mpr ⟨cp_sub (big := lw_tbl) wsX20 [247, 249, 251, 253, 255, 257, 259] (by decide +kernel) w h, List.all_eq_true.mp (by decide +kernel : wsX20.all goodWord = true) w h⟩
theorem cp_cX2 : cp_clf 2 RX2 TX2 7 tyX2 := ⟨rfl, cp_inX2, tyX2_ok, nmX2, by decide, rfl⟩
theorem cp_inX3 : ∀ w ∈ wsX30, w ∈ cp_TG := fun w h => List.mem_filter.mpr ⟨cp_sub (big := lw_tbl) wsX30 [223, 225] (by decide +kernel) w h, List.all_eq_true.mp (by decide +kernel : wsX30.all goodWord = true) w h⟩
theorem cp_cX3 : cp_clf 3 RX3 TX3 2 tyX3 := ⟨rfl, cp_inX3, tyX3_ok, nmX3, by decide, rfl⟩
theorem cp_inX4 : ∀ w ∈ wsX40, w ∈ cp_TG := fun w h => List.mem_filter.mpr ⟨cp_sub (big := lw_tbl) wsX40 [131, 133, 135, 137, 139, 141, 143, 145, 147, 149] (by decide +kernel) w h, List.all_eq_true.mp (by decide +kernel : wsX40.all goodWord = true) w h⟩
theorem cp_cX4 : cp_clf 4 RX4 TX4 10 tyX4 := ⟨rfl, cp_inX4, tyX4_ok, nmX4, by decide, rfl⟩
theorem cp_inX5 : ∀ w ∈ wsX50, w ∈ cp_TG := fun w h => List.mem_filter.mpr ⟨cp_sub (big := lw_tbl) wsX50 [166, 168, 170] (by decide +kernel) w h, List.all_eq_true.mp (by decide +kernel : wsX50.all goodWord = true) w h⟩
theorem cp_cX5 : cp_clf 5 RX5 TX5 3 tyX5 := ⟨rfl, cp_inX5, tyX5_ok, nmX5, by decide, rfl⟩
theorem cp_inX6 : ∀ w ∈ wsX60, w ∈ cp_TG := fun w h => List.mem_filter.mpr ⟨cp_sub (big := lw_tbl) wsX60 [268, 270, 272, 274, 276, 278] (by decide +kernel) w h, List.all_eq_true.mp (by decide +kernel : wsX60.all goodWord = true) w h⟩
theorem cp_cX6 : cp_clf 6 RX6 TX6 6 tyX6 := ⟨rfl, cp_inX6, tyX6_ok, nmX6, by decide, rfl⟩
theorem cp_inX7 : ∀ w ∈ wsX70, w ∈ cp_TG := fun w h => List.mem_filter.mpr ⟨cp_sub (big := lw_tbl) wsX70 [681, 683, 685, 687, 689, 691, 693, 695, 697, 699, 701, 703, 705, 707, 709] (by decide +kernel) w h, List.all_eq_true.mp (by decide +kernel : wsX70.all goodWord = true) w h⟩
theorem cp_cX7 : cp_clf 7 RX7 TX7 15 tyX7 := ⟨rfl, cp_inX7, tyX7_ok, nmX7, by decide, rfl⟩
theorem me_X0_init : cp_me yX0_init cX0_init 2 none 0 := ⟨cp_TG_in (i := 197) (by decide +kernel) (by decide +kernel), cp_TG_in (i := 75) (by decide +kernel) (by decide +kernel), by decide, by decide, by decide +kernel⟩
theorem me_X0_prepare : cp_me yX0_prepare cX0_prepare 2 none 1 := ⟨cp_TG_in (i := 288) (by decide +kernel) (by decide +kernel), cp_TG_in (i := 75) (by decide +kernel) (by decide +kernel), by decide, by decide, by decide +kernel⟩
theorem mi_X0_prepare : cp_mi yX0_prepare := ⟨cp_TG_in (i := 286) (by decide +kernel) (by decide +kernel), cp_TG_in (i := 287) (by decide +kernel) (by decide +kernel)⟩
theorem me_X0_recordUnlessError : cp_me yX0_recordUnlessError cX0_recordUnlessError 2 (some .int) 1 := ⟨cp_TG_in (i := 315) (by decide +kernel) (by decide +kernel), cp_TG_in (i := 75) (by decide +kernel) (by decide +kernel), by decide, by decide, by decide +kernel⟩
theorem mi_X0_recordUnlessError : cp_mi yX0_recordUnlessError := ⟨cp_TG_in (i := 313) (by decide +kernel) (by decide +kernel), cp_TG_in (i := 314) (by decide +kernel) (by decide +kernel)⟩
theorem me_X0_takeBack : cp_me yX0_takeBack cX0_takeBack 2 none 1 := ⟨cp_TG_in (i := 651) (by decide +kernel) (by decide +kernel), cp_TG_in (i := 75) (by decide +kernel) (by decide +kernel), by decide, by decide, by decide +kernel⟩
theorem mi_X0_takeBack : cp_mi yX0_takeBack := ⟨cp_TG_in (i := 649) (by decide +kernel) (by decide +kernel), cp_TG_in (i := 650) (by decide +kernel) (by decide +kernel)⟩
theorem me_X1_init : cp_me yX1_init cX1_init 2 none 0 := ⟨cp_TG_in (i := 93) (by decide +kernel) (by decide +kernel), cp_TG_in (i := 72) (by decide +kernel) (by decide +kernel), by decide, by decide, by decide +kernel⟩
theorem me_X1_copyFrom : cp_me yX1_copyFrom cX1_copyFrom 3 none 1 := ⟨cp_TG_in (i := 292) (by decide +kernel) (by decide +kernel), cp_TG_in (i := 72) (by decide +kernel) (by decide +kernel), by decide, by decide, by decide +kernel⟩
theorem mi_X1_copyFrom : cp_mi yX1_copyFrom := ⟨cp_TG_in (i := 290) (by decide +kernel) (by decide +kernel), cp_TG_in (i := 291) (by decide +kernel) (by decide +kernel)⟩
theorem me_X1_hasPiece : cp_me yX1_hasPiece cX1_hasPiece 2 (some .boolean) 1 := ⟨cp_TG_in (i := 362) (by decide +kernel) (by decide +kernel), cp_TG_in (i := 72) (by decide +kernel) (by decide +kernel), by decide, by decide, by decide +kernel⟩
theorem mi_X1_hasPiece : cp_mi yX1_hasPiece := ⟨cp_TG_in (i := 360) (by decide +kernel) (by decide +kernel), cp_TG_in (i := 361) (by decide +kernel) (by decide +kernel)⟩
theorem me_X1_isPiece : cp_me yX1_isPiece cX1_isPiece 3 (some .boolean) 2 := ⟨cp_TG_in (i := 547) (by decide +kernel) (by decide +kernel), cp_TG_in (i := 72) (by decide +kernel) (by decide +kernel), by decide, by decide, by decide +kernel⟩
theorem mi_X1_isPiece : cp_mi yX1_isPiece := ⟨cp_TG_in (i := 545) (by decide +kernel) (by decide +kernel), cp_TG_in (i := 546) (by decide +kernel) (by decide +kernel)⟩
theorem me_X1_changeSetting : cp_me yX1_changeSetting cX1_changeSetting 4 (some .int) 2 := ⟨cp_TG_in (i := 307) (by decide +kernel) (by decide +kernel), cp_TG_in (i := 72) (by decide +kernel) (by decide +kernel), by decide, by decide, by decide +kernel⟩
theorem mi_X1_changeSetting : cp_mi yX1_changeSetting := ⟨cp_TG_in (i := 305) (by decide +kernel) (by decide +kernel), cp_TG_in (i := 306) (by decide +kernel) (by decide +kernel)⟩
theorem me_X1_addPiece : cp_me yX1_addPiece cX1_addPiece 6 (some .int) 4 := ⟨cp_TG_in (i := 326) (by decide +kernel) (by decide +kernel), cp_TG_in (i := 72) (by decide +kernel) (by decide +kernel), by decide, by decide, by decide +kernel⟩
theorem mi_X1_addPiece : cp_mi yX1_addPiece := ⟨cp_TG_in (i := 324) (by decide +kernel) (by decide +kernel), cp_TG_in (i := 325) (by decide +kernel) (by decide +kernel)⟩
theorem me_X1_addPlate : cp_me yX1_addPlate cX1_addPlate 2 (some .int) 1 := ⟨cp_TG_in (i := 338) (by decide +kernel) (by decide +kernel), cp_TG_in (i := 72) (by decide +kernel) (by decide +kernel), by decide, by decide, by decide +kernel⟩
theorem mi_X1_addPlate : cp_mi yX1_addPlate := ⟨cp_TG_in (i := 336) (by decide +kernel) (by decide +kernel), cp_TG_in (i := 337) (by decide +kernel) (by decide +kernel)⟩
theorem me_X1_turnHold : cp_me yX1_turnHold cX1_turnHold 3 (some .int) 1 := ⟨cp_TG_in (i := 358) (by decide +kernel) (by decide +kernel), cp_TG_in (i := 72) (by decide +kernel) (by decide +kernel), by decide, by decide, by decide +kernel⟩
theorem mi_X1_turnHold : cp_mi yX1_turnHold := ⟨cp_TG_in (i := 356) (by decide +kernel) (by decide +kernel), cp_TG_in (i := 357) (by decide +kernel) (by decide +kernel)⟩
theorem me_X1_killPiece : cp_me yX1_killPiece cX1_killPiece 3 (some .int) 1 := ⟨cp_TG_in (i := 373) (by decide +kernel) (by decide +kernel), cp_TG_in (i := 72) (by decide +kernel) (by decide +kernel), by decide, by decide, by decide +kernel⟩
theorem mi_X1_killPiece : cp_mi yX1_killPiece := ⟨cp_TG_in (i := 371) (by decide +kernel) (by decide +kernel), cp_TG_in (i := 372) (by decide +kernel) (by decide +kernel)⟩
theorem me_X1_passMinutes : cp_me yX1_passMinutes cX1_passMinutes 4 (some .int) 1 := ⟨cp_TG_in (i := 404) (by decide +kernel) (by decide +kernel), cp_TG_in (i := 72) (by decide +kernel) (by decide +kernel), by decide, by decide, by decide +kernel⟩
theorem mi_X1_passMinutes : cp_mi yX1_passMinutes := ⟨cp_TG_in (i := 402) (by decide +kernel) (by decide +kernel), cp_TG_in (i := 403) (by decide +kernel) (by decide +kernel)⟩
theorem me_X1_passMinute : cp_me yX1_passMinute cX1_passMinute 2 (some .boolean) 0 := ⟨cp_TG_in (i := 408) (by decide +kernel) (by decide +kernel), cp_TG_in (i := 72) (by decide +kernel) (by decide +kernel), by decide, by decide, by decide +kernel⟩
theorem mi_X1_passMinute : cp_mi yX1_passMinute := ⟨cp_TG_in (i := 406) (by decide +kernel) (by decide +kernel), cp_TG_in (i := 407) (by decide +kernel) (by decide +kernel)⟩
theorem me_X1_editAtDesks : cp_me yX1_editAtDesks cX1_editAtDesks 4 none 0 := ⟨cp_TG_in (i := 412) (by decide +kernel) (by decide +kernel), cp_TG_in (i := 72) (by decide +kernel) (by decide +kernel), by decide, by decide, by decide +kernel⟩
theorem mi_X1_editAtDesks : cp_mi yX1_editAtDesks := ⟨cp_TG_in (i := 411) (by decide +kernel) (by decide +kernel), cp_TG_in (i := 6) (by decide +kernel) (by decide +kernel)⟩
theorem me_X1_readAtLawyer : cp_me yX1_readAtLawyer cX1_readAtLawyer 2 none 0 := ⟨cp_TG_in (i := 425) (by decide +kernel) (by decide +kernel), cp_TG_in (i := 72) (by decide +kernel) (by decide +kernel), by decide, by decide, by decide +kernel⟩
theorem mi_X1_readAtLawyer : cp_mi yX1_readAtLawyer := ⟨cp_TG_in (i := 424) (by decide +kernel) (by decide +kernel), cp_TG_in (i := 8) (by decide +kernel) (by decide +kernel)⟩
theorem me_X1_firstAtDesk : cp_me yX1_firstAtDesk cX1_firstAtDesk 3 (some .int) 1 := ⟨cp_TG_in (i := 529) (by decide +kernel) (by decide +kernel), cp_TG_in (i := 72) (by decide +kernel) (by decide +kernel), by decide, by decide, by decide +kernel⟩
theorem mi_X1_firstAtDesk : cp_mi yX1_firstAtDesk := ⟨cp_TG_in (i := 528) (by decide +kernel) (by decide +kernel), cp_TG_in (i := 21) (by decide +kernel) (by decide +kernel)⟩
theorem me_X1_firstAtLawyer : cp_me yX1_firstAtLawyer cX1_firstAtLawyer 3 (some .int) 0 := ⟨cp_TG_in (i := 429) (by decide +kernel) (by decide +kernel), cp_TG_in (i := 72) (by decide +kernel) (by decide +kernel), by decide, by decide, by decide +kernel⟩
theorem mi_X1_firstAtLawyer : cp_mi yX1_firstAtLawyer := ⟨cp_TG_in (i := 428) (by decide +kernel) (by decide +kernel), cp_TG_in (i := 9) (by decide +kernel) (by decide +kernel)⟩
theorem me_X1_placeInQueue : cp_me yX1_placeInQueue cX1_placeInQueue 2 (some .int) 1 := ⟨cp_TG_in (i := 465) (by decide +kernel) (by decide +kernel), cp_TG_in (i := 72) (by decide +kernel) (by decide +kernel), by decide, by decide, by decide +kernel⟩
theorem mi_X1_placeInQueue : cp_mi yX1_placeInQueue := ⟨cp_TG_in (i := 464) (by decide +kernel) (by decide +kernel), cp_TG_in (i := 12) (by decide +kernel) (by decide +kernel)⟩
theorem me_X1_placeAtDesk : cp_me yX1_placeAtDesk cX1_placeAtDesk 4 (some .int) 1 := ⟨cp_TG_in (i := 469) (by decide +kernel) (by decide +kernel), cp_TG_in (i := 72) (by decide +kernel) (by decide +kernel), by decide, by decide, by decide +kernel⟩
theorem mi_X1_placeAtDesk : cp_mi yX1_placeAtDesk := ⟨cp_TG_in (i := 468) (by decide +kernel) (by decide +kernel), cp_TG_in (i := 13) (by decide +kernel) (by decide +kernel)⟩
theorem me_X1_placeAtLawyer : cp_me yX1_placeAtLawyer cX1_placeAtLawyer 4 (some .int) 1 := ⟨cp_TG_in (i := 473) (by decide +kernel) (by decide +kernel), cp_TG_in (i := 72) (by decide +kernel) (by decide +kernel), by decide, by decide, by decide +kernel⟩
theorem mi_X1_placeAtLawyer : cp_mi yX1_placeAtLawyer := ⟨cp_TG_in (i := 472) (by decide +kernel) (by decide +kernel), cp_TG_in (i := 14) (by decide +kernel) (by decide +kernel)⟩
theorem me_X1_piecesForPlate : cp_me yX1_piecesForPlate cX1_piecesForPlate 3 (some .int) 0 := ⟨cp_TG_in (i := 441) (by decide +kernel) (by decide +kernel), cp_TG_in (i := 72) (by decide +kernel) (by decide +kernel), by decide, by decide, by decide +kernel⟩
theorem mi_X1_piecesForPlate : cp_mi yX1_piecesForPlate := ⟨cp_TG_in (i := 439) (by decide +kernel) (by decide +kernel), cp_TG_in (i := 440) (by decide +kernel) (by decide +kernel)⟩
theorem me_X1_linesOf : cp_me yX1_linesOf cX1_linesOf 4 (some .int) 1 := ⟨cp_TG_in (i := 489) (by decide +kernel) (by decide +kernel), cp_TG_in (i := 72) (by decide +kernel) (by decide +kernel), by decide, by decide, by decide +kernel⟩
theorem mi_X1_linesOf : cp_mi yX1_linesOf := ⟨cp_TG_in (i := 487) (by decide +kernel) (by decide +kernel), cp_TG_in (i := 488) (by decide +kernel) (by decide +kernel)⟩
theorem me_X1_takenNow : cp_me yX1_takenNow cX1_takenNow 6 (some .int) 0 := ⟨cp_TG_in (i := 437) (by decide +kernel) (by decide +kernel), cp_TG_in (i := 72) (by decide +kernel) (by decide +kernel), by decide, by decide, by decide +kernel⟩
theorem mi_X1_takenNow : cp_mi yX1_takenNow := ⟨cp_TG_in (i := 435) (by decide +kernel) (by decide +kernel), cp_TG_in (i := 436) (by decide +kernel) (by decide +kernel)⟩
theorem me_X1_firstByRank : cp_me yX1_firstByRank cX1_firstByRank 4 (some .int) 1 := ⟨cp_TG_in (i := 449) (by decide +kernel) (by decide +kernel), cp_TG_in (i := 72) (by decide +kernel) (by decide +kernel), by decide, by decide, by decide +kernel⟩
theorem mi_X1_firstByRank : cp_mi yX1_firstByRank := ⟨cp_TG_in (i := 448) (by decide +kernel) (by decide +kernel), cp_TG_in (i := 10) (by decide +kernel) (by decide +kernel)⟩
theorem me_X1_lastTakenAheadOf : cp_me yX1_lastTakenAheadOf cX1_lastTakenAheadOf 5 (some .int) 1 := ⟨cp_TG_in (i := 533) (by decide +kernel) (by decide +kernel), cp_TG_in (i := 72) (by decide +kernel) (by decide +kernel), by decide, by decide, by decide +kernel⟩
theorem mi_X1_lastTakenAheadOf : cp_mi yX1_lastTakenAheadOf := ⟨cp_TG_in (i := 532) (by decide +kernel) (by decide +kernel), cp_TG_in (i := 22) (by decide +kernel) (by decide +kernel)⟩
theorem me_X1_goesAhead : cp_me yX1_goesAhead cX1_goesAhead 5 (some .boolean) 2 := ⟨cp_TG_in (i := 453) (by decide +kernel) (by decide +kernel), cp_TG_in (i := 72) (by decide +kernel) (by decide +kernel), by decide, by decide, by decide +kernel⟩
theorem mi_X1_goesAhead : cp_mi yX1_goesAhead := ⟨cp_TG_in (i := 452) (by decide +kernel) (by decide +kernel), cp_TG_in (i := 11) (by decide +kernel) (by decide +kernel)⟩
theorem me_X1_whyNotOnPlate : cp_me yX1_whyNotOnPlate cX1_whyNotOnPlate 3 (some .int) 2 := ⟨cp_TG_in (i := 517) (by decide +kernel) (by decide +kernel), cp_TG_in (i := 72) (by decide +kernel) (by decide +kernel), by decide, by decide, by decide +kernel⟩
theorem mi_X1_whyNotOnPlate : cp_mi yX1_whyNotOnPlate := ⟨cp_TG_in (i := 515) (by decide +kernel) (by decide +kernel), cp_TG_in (i := 516) (by decide +kernel) (by decide +kernel)⟩
theorem me_X1_reasonOf : cp_me yX1_reasonOf cX1_reasonOf 3 (some .int) 1 := ⟨cp_TG_in (i := 521) (by decide +kernel) (by decide +kernel), cp_TG_in (i := 72) (by decide +kernel) (by decide +kernel), by decide, by decide, by decide +kernel⟩
theorem mi_X1_reasonOf : cp_mi yX1_reasonOf := ⟨cp_TG_in (i := 520) (by decide +kernel) (by decide +kernel), cp_TG_in (i := 19) (by decide +kernel) (by decide +kernel)⟩
theorem me_X1_causeOf : cp_me yX1_causeOf cX1_causeOf 2 (some .int) 1 := ⟨cp_TG_in (i := 525) (by decide +kernel) (by decide +kernel), cp_TG_in (i := 72) (by decide +kernel) (by decide +kernel), by decide, by decide, by decide +kernel⟩
theorem mi_X1_causeOf : cp_mi yX1_causeOf := ⟨cp_TG_in (i := 524) (by decide +kernel) (by decide +kernel), cp_TG_in (i := 20) (by decide +kernel) (by decide +kernel)⟩
theorem me_X1_isMade : cp_me yX1_isMade cX1_isMade 2 (some .boolean) 1 := ⟨cp_TG_in (i := 385) (by decide +kernel) (by decide +kernel), cp_TG_in (i := 72) (by decide +kernel) (by decide +kernel), by decide, by decide, by decide +kernel⟩
theorem mi_X1_isMade : cp_mi yX1_isMade := ⟨cp_TG_in (i := 384) (by decide +kernel) (by decide +kernel), cp_TG_in (i := 4) (by decide +kernel) (by decide +kernel)⟩
theorem me_X1_nextDue : cp_me yX1_nextDue cX1_nextDue 2 (some .int) 0 := ⟨cp_TG_in (i := 396) (by decide +kernel) (by decide +kernel), cp_TG_in (i := 72) (by decide +kernel) (by decide +kernel), by decide, by decide, by decide +kernel⟩
theorem mi_X1_nextDue : cp_mi yX1_nextDue := ⟨cp_TG_in (i := 394) (by decide +kernel) (by decide +kernel), cp_TG_in (i := 395) (by decide +kernel) (by decide +kernel)⟩
theorem me_X1_minutesToPlate : cp_me yX1_minutesToPlate cX1_minutesToPlate 2 (some .int) 1 := ⟨cp_TG_in (i := 562) (by decide +kernel) (by decide +kernel), cp_TG_in (i := 72) (by decide +kernel) (by decide +kernel), by decide, by decide, by decide +kernel⟩
theorem mi_X1_minutesToPlate : cp_mi yX1_minutesToPlate := ⟨cp_TG_in (i := 560) (by decide +kernel) (by decide +kernel), cp_TG_in (i := 561) (by decide +kernel) (by decide +kernel)⟩
theorem me_X1_madePlates : cp_me yX1_madePlates cX1_madePlates 3 (some .int) 0 := ⟨cp_TG_in (i := 381) (by decide +kernel) (by decide +kernel), cp_TG_in (i := 72) (by decide +kernel) (by decide +kernel), by decide, by decide, by decide +kernel⟩
theorem mi_X1_madePlates : cp_mi yX1_madePlates := ⟨cp_TG_in (i := 380) (by decide +kernel) (by decide +kernel), cp_TG_in (i := 3) (by decide +kernel) (by decide +kernel)⟩
theorem me_X1_plateAt : cp_me yX1_plateAt cX1_plateAt 3 (some .int) 1 := ⟨cp_TG_in (i := 342) (by decide +kernel) (by decide +kernel), cp_TG_in (i := 72) (by decide +kernel) (by decide +kernel), by decide, by decide, by decide +kernel⟩
theorem mi_X1_plateAt : cp_mi yX1_plateAt := ⟨cp_TG_in (i := 341) (by decide +kernel) (by decide +kernel), cp_TG_in (i := 0) (by decide +kernel) (by decide +kernel)⟩
theorem me_X1_isOnLatestMade : cp_me yX1_isOnLatestMade cX1_isOnLatestMade 3 (some .boolean) 1 := ⟨cp_TG_in (i := 377) (by decide +kernel) (by decide +kernel), cp_TG_in (i := 72) (by decide +kernel) (by decide +kernel), by decide, by decide, by decide +kernel⟩
theorem mi_X1_isOnLatestMade : cp_mi yX1_isOnLatestMade := ⟨cp_TG_in (i := 376) (by decide +kernel) (by decide +kernel), cp_TG_in (i := 2) (by decide +kernel) (by decide +kernel)⟩
theorem me_X1_tellReplate : cp_me yX1_tellReplate cX1_tellReplate 3 (some .boolean) 0 := ⟨cp_TG_in (i := 392) (by decide +kernel) (by decide +kernel), cp_TG_in (i := 72) (by decide +kernel) (by decide +kernel), by decide, by decide, by decide +kernel⟩
theorem mi_X1_tellReplate : cp_mi yX1_tellReplate := ⟨cp_TG_in (i := 391) (by decide +kernel) (by decide +kernel), cp_TG_in (i := 5) (by decide +kernel) (by decide +kernel)⟩
theorem me_X1_insertPlate : cp_me yX1_insertPlate cX1_insertPlate 4 (some .int) 2 := ⟨cp_TG_in (i := 346) (by decide +kernel) (by decide +kernel), cp_TG_in (i := 72) (by decide +kernel) (by decide +kernel), by decide, by decide, by decide +kernel⟩
theorem mi_X1_insertPlate : cp_mi yX1_insertPlate := ⟨cp_TG_in (i := 345) (by decide +kernel) (by decide +kernel), cp_TG_in (i := 1) (by decide +kernel) (by decide +kernel)⟩
theorem me_X1_factOfPiece : cp_me yX1_factOfPiece cX1_factOfPiece 4 (some .int) 2 := ⟨cp_TG_in (i := 461) (by decide +kernel) (by decide +kernel), cp_TG_in (i := 72) (by decide +kernel) (by decide +kernel), by decide, by decide, by decide +kernel⟩
theorem mi_X1_factOfPiece : cp_mi yX1_factOfPiece := ⟨cp_TG_in (i := 459) (by decide +kernel) (by decide +kernel), cp_TG_in (i := 460) (by decide +kernel) (by decide +kernel)⟩
theorem me_X1_platesWith : cp_me yX1_platesWith cX1_platesWith 4 (some .int) 1 := ⟨cp_TG_in (i := 477) (by decide +kernel) (by decide +kernel), cp_TG_in (i := 72) (by decide +kernel) (by decide +kernel), by decide, by decide, by decide +kernel⟩
theorem mi_X1_platesWith : cp_mi yX1_platesWith := ⟨cp_TG_in (i := 476) (by decide +kernel) (by decide +kernel), cp_TG_in (i := 15) (by decide +kernel) (by decide +kernel)⟩
theorem me_X1_factOfPlate : cp_me yX1_factOfPlate cX1_factOfPlate 3 (some .int) 2 := ⟨cp_TG_in (i := 485) (by decide +kernel) (by decide +kernel), cp_TG_in (i := 72) (by decide +kernel) (by decide +kernel), by decide, by decide, by decide +kernel⟩
theorem mi_X1_factOfPlate : cp_mi yX1_factOfPlate := ⟨cp_TG_in (i := 483) (by decide +kernel) (by decide +kernel), cp_TG_in (i := 484) (by decide +kernel) (by decide +kernel)⟩
theorem me_X1_factOfNight : cp_me yX1_factOfNight cX1_factOfNight 2 (some .int) 1 := ⟨cp_TG_in (i := 497) (by decide +kernel) (by decide +kernel), cp_TG_in (i := 72) (by decide +kernel) (by decide +kernel), by decide, by decide, by decide +kernel⟩
theorem mi_X1_factOfNight : cp_mi yX1_factOfNight := ⟨cp_TG_in (i := 495) (by decide +kernel) (by decide +kernel), cp_TG_in (i := 496) (by decide +kernel) (by decide +kernel)⟩
theorem me_X1_piecesThatAre : cp_me yX1_piecesThatAre cX1_piecesThatAre 4 (some .int) 1 := ⟨cp_TG_in (i := 501) (by decide +kernel) (by decide +kernel), cp_TG_in (i := 72) (by decide +kernel) (by decide +kernel), by decide, by decide, by decide +kernel⟩
theorem mi_X1_piecesThatAre : cp_mi yX1_piecesThatAre := ⟨cp_TG_in (i := 500) (by decide +kernel) (by decide +kernel), cp_TG_in (i := 16) (by decide +kernel) (by decide +kernel)⟩
theorem me_X1_heldPieces : cp_me yX1_heldPieces cX1_heldPieces 3 (some .int) 0 := ⟨cp_TG_in (i := 505) (by decide +kernel) (by decide +kernel), cp_TG_in (i := 72) (by decide +kernel) (by decide +kernel), by decide, by decide, by decide +kernel⟩
theorem mi_X1_heldPieces : cp_mi yX1_heldPieces := ⟨cp_TG_in (i := 504) (by decide +kernel) (by decide +kernel), cp_TG_in (i := 17) (by decide +kernel) (by decide +kernel)⟩
theorem me_X1_replates : cp_me yX1_replates cX1_replates 3 (some .int) 0 := ⟨cp_TG_in (i := 509) (by decide +kernel) (by decide +kernel), cp_TG_in (i := 72) (by decide +kernel) (by decide +kernel), by decide, by decide, by decide +kernel⟩
theorem mi_X1_replates : cp_mi yX1_replates := ⟨cp_TG_in (i := 508) (by decide +kernel) (by decide +kernel), cp_TG_in (i := 18) (by decide +kernel) (by decide +kernel)⟩
theorem me_X2_init : cp_me yX2_init cX2_init 2 none 1 := ⟨cp_TG_in (i := 233) (by decide +kernel) (by decide +kernel), cp_TG_in (i := 77) (by decide +kernel) (by decide +kernel), by decide, by decide, by decide +kernel⟩
theorem me_X2_goToStart : cp_me yX2_goToStart cX2_goToStart 1 none 0 := ⟨cp_TG_in (i := 607) (by decide +kernel) (by decide +kernel), cp_TG_in (i := 77) (by decide +kernel) (by decide +kernel), by decide, by decide, by decide +kernel⟩
theorem mi_X2_goToStart : cp_mi yX2_goToStart := ⟨cp_TG_in (i := 605) (by decide +kernel) (by decide +kernel), cp_TG_in (i := 606) (by decide +kernel) (by decide +kernel)⟩
theorem me_X2_findFault : cp_me yX2_findFault cX2_findFault 2 (some .int) 0 := ⟨cp_TG_in (i := 603) (by decide +kernel) (by decide +kernel), cp_TG_in (i := 77) (by decide +kernel) (by decide +kernel), by decide, by decide, by decide +kernel⟩
theorem mi_X2_findFault : cp_mi yX2_findFault := ⟨cp_TG_in (i := 601) (by decide +kernel) (by decide +kernel), cp_TG_in (i := 602) (by decide +kernel) (by decide +kernel)⟩
theorem me_X2_readOrder : cp_me yX2_readOrder cX2_readOrder 1 (some .boolean) 0 := ⟨cp_TG_in (i := 611) (by decide +kernel) (by decide +kernel), cp_TG_in (i := 77) (by decide +kernel) (by decide +kernel), by decide, by decide, by decide +kernel⟩
theorem mi_X2_readOrder : cp_mi yX2_readOrder := ⟨cp_TG_in (i := 609) (by decide +kernel) (by decide +kernel), cp_TG_in (i := 610) (by decide +kernel) (by decide +kernel)⟩
theorem me_X2_readPiece : cp_me yX2_readPiece cX2_readPiece 1 (some .boolean) 0 := ⟨cp_TG_in (i := 619) (by decide +kernel) (by decide +kernel), cp_TG_in (i := 77) (by decide +kernel) (by decide +kernel), by decide, by decide, by decide +kernel⟩
theorem mi_X2_readPiece : cp_mi yX2_readPiece := ⟨cp_TG_in (i := 618) (by decide +kernel) (by decide +kernel), cp_TG_in (i := 24) (by decide +kernel) (by decide +kernel)⟩
theorem me_X2_readNumber : cp_me yX2_readNumber cX2_readNumber 3 (some .boolean) 0 := ⟨cp_TG_in (i := 631) (by decide +kernel) (by decide +kernel), cp_TG_in (i := 77) (by decide +kernel) (by decide +kernel), by decide, by decide, by decide +kernel⟩
theorem mi_X2_readNumber : cp_mi yX2_readNumber := ⟨cp_TG_in (i := 630) (by decide +kernel) (by decide +kernel), cp_TG_in (i := 26) (by decide +kernel) (by decide +kernel)⟩
theorem me_X2_readSign : cp_me yX2_readSign cX2_readSign 2 (some .boolean) 1 := ⟨cp_TG_in (i := 627) (by decide +kernel) (by decide +kernel), cp_TG_in (i := 77) (by decide +kernel) (by decide +kernel), by decide, by decide, by decide +kernel⟩
theorem mi_X2_readSign : cp_mi yX2_readSign := ⟨cp_TG_in (i := 625) (by decide +kernel) (by decide +kernel), cp_TG_in (i := 626) (by decide +kernel) (by decide +kernel)⟩
theorem me_X2_digitHere : cp_me yX2_digitHere cX2_digitHere 2 (some .int) 0 := ⟨cp_TG_in (i := 623) (by decide +kernel) (by decide +kernel), cp_TG_in (i := 77) (by decide +kernel) (by decide +kernel), by decide, by decide, by decide +kernel⟩
theorem mi_X2_digitHere : cp_mi yX2_digitHere := ⟨cp_TG_in (i := 622) (by decide +kernel) (by decide +kernel), cp_TG_in (i := 25) (by decide +kernel) (by decide +kernel)⟩
theorem me_X3_init : cp_me yX3_init cX3_init 1 none 0 := ⟨cp_TG_in (i := 217) (by decide +kernel) (by decide +kernel), cp_TG_in (i := 76) (by decide +kernel) (by decide +kernel), by decide, by decide, by decide +kernel⟩
theorem me_X3_append : cp_me yX3_append cX3_append 7 (some .int) 1 := ⟨cp_TG_in (i := 581) (by decide +kernel) (by decide +kernel), cp_TG_in (i := 76) (by decide +kernel) (by decide +kernel), by decide, by decide, by decide +kernel⟩
theorem mi_X3_append : cp_mi yX3_append := ⟨cp_TG_in (i := 579) (by decide +kernel) (by decide +kernel), cp_TG_in (i := 580) (by decide +kernel) (by decide +kernel)⟩
theorem me_X3_charactersIn : cp_me yX3_charactersIn cX3_charactersIn 7 (some .int) 1 := ⟨cp_TG_in (i := 584) (by decide +kernel) (by decide +kernel), cp_TG_in (i := 76) (by decide +kernel) (by decide +kernel), by decide, by decide, by decide +kernel⟩
theorem ms_X3_charactersIn : Cond.static yX3_charactersIn ∈ cp_TG := cp_TG_in (i := 583) (by decide +kernel) (by decide +kernel)
theorem me_X3_empty : cp_me yX3_empty cX3_empty 2 (some .int) 0 := ⟨cp_TG_in (i := 595) (by decide +kernel) (by decide +kernel), cp_TG_in (i := 76) (by decide +kernel) (by decide +kernel), by decide, by decide, by decide +kernel⟩
theorem mi_X3_empty : cp_mi yX3_empty := ⟨cp_TG_in (i := 593) (by decide +kernel) (by decide +kernel), cp_TG_in (i := 594) (by decide +kernel) (by decide +kernel)⟩
theorem me_X3_characterAt : cp_me yX3_characterAt cX3_characterAt 2 (some .char) 1 := ⟨cp_TG_in (i := 615) (by decide +kernel) (by decide +kernel), cp_TG_in (i := 76) (by decide +kernel) (by decide +kernel), by decide, by decide, by decide +kernel⟩
theorem mi_X3_characterAt : cp_mi yX3_characterAt := ⟨cp_TG_in (i := 613) (by decide +kernel) (by decide +kernel), cp_TG_in (i := 614) (by decide +kernel) (by decide +kernel)⟩
theorem me_X4_init : cp_me yX4_init cX4_init 1 none 0 := ⟨cp_TG_in (i := 109) (by decide +kernel) (by decide +kernel), cp_TG_in (i := 73) (by decide +kernel) (by decide +kernel), by decide, by decide, by decide +kernel⟩
theorem me_X4_come : cp_me yX4_come cX4_come 5 none 4 := ⟨cp_TG_in (i := 330) (by decide +kernel) (by decide +kernel), cp_TG_in (i := 73) (by decide +kernel) (by decide +kernel), by decide, by decide, by decide +kernel⟩
theorem mi_X4_come : cp_mi yX4_come := ⟨cp_TG_in (i := 328) (by decide +kernel) (by decide +kernel), cp_TG_in (i := 329) (by decide +kernel) (by decide +kernel)⟩
theorem me_X4_copyFrom : cp_me yX4_copyFrom cX4_copyFrom 2 none 1 := ⟨cp_TG_in (i := 299) (by decide +kernel) (by decide +kernel), cp_TG_in (i := 73) (by decide +kernel) (by decide +kernel), by decide, by decide, by decide +kernel⟩
theorem mi_X4_copyFrom : cp_mi yX4_copyFrom := ⟨cp_TG_in (i := 297) (by decide +kernel) (by decide +kernel), cp_TG_in (i := 298) (by decide +kernel) (by decide +kernel)⟩
theorem me_X4_editFor : cp_me yX4_editFor cX4_editFor 3 none 2 := ⟨cp_TG_in (i := 416) (by decide +kernel) (by decide +kernel), cp_TG_in (i := 73) (by decide +kernel) (by decide +kernel), by decide, by decide, by decide +kernel⟩
theorem mi_X4_editFor : cp_mi yX4_editFor := ⟨cp_TG_in (i := 414) (by decide +kernel) (by decide +kernel), cp_TG_in (i := 415) (by decide +kernel) (by decide +kernel)⟩
theorem me_X4_readOneMinute : cp_me yX4_readOneMinute cX4_readOneMinute 3 none 2 := ⟨cp_TG_in (i := 433) (by decide +kernel) (by decide +kernel), cp_TG_in (i := 73) (by decide +kernel) (by decide +kernel), by decide, by decide, by decide +kernel⟩
theorem mi_X4_readOneMinute : cp_mi yX4_readOneMinute := ⟨cp_TG_in (i := 431) (by decide +kernel) (by decide +kernel), cp_TG_in (i := 432) (by decide +kernel) (by decide +kernel)⟩
theorem me_X4_becomeReady : cp_me yX4_becomeReady cX4_becomeReady 2 none 1 := ⟨cp_TG_in (i := 421) (by decide +kernel) (by decide +kernel), cp_TG_in (i := 73) (by decide +kernel) (by decide +kernel), by decide, by decide, by decide +kernel⟩
theorem mi_X4_becomeReady : cp_mi yX4_becomeReady := ⟨cp_TG_in (i := 420) (by decide +kernel) (by decide +kernel), cp_TG_in (i := 7) (by decide +kernel) (by decide +kernel)⟩
theorem me_X4_isForPlate : cp_me yX4_isForPlate cX4_isForPlate 1 (some .boolean) 0 := ⟨cp_TG_in (i := 445) (by decide +kernel) (by decide +kernel), cp_TG_in (i := 73) (by decide +kernel) (by decide +kernel), by decide, by decide, by decide +kernel⟩
theorem mi_X4_isForPlate : cp_mi yX4_isForPlate := ⟨cp_TG_in (i := 443) (by decide +kernel) (by decide +kernel), cp_TG_in (i := 444) (by decide +kernel) (by decide +kernel)⟩
theorem me_X5_init : cp_me yX5_init cX5_init 1 none 0 := ⟨cp_TG_in (i := 158) (by decide +kernel) (by decide +kernel), cp_TG_in (i := 74) (by decide +kernel) (by decide +kernel), by decide, by decide, by decide +kernel⟩
theorem me_X5_tell : cp_me yX5_tell cX5_tell 3 none 2 := ⟨cp_TG_in (i := 350) (by decide +kernel) (by decide +kernel), cp_TG_in (i := 74) (by decide +kernel) (by decide +kernel), by decide, by decide, by decide +kernel⟩
theorem mi_X5_tell : cp_mi yX5_tell := ⟨cp_TG_in (i := 348) (by decide +kernel) (by decide +kernel), cp_TG_in (i := 349) (by decide +kernel) (by decide +kernel)⟩
theorem me_X5_copyFrom : cp_me yX5_copyFrom cX5_copyFrom 2 none 1 := ⟨cp_TG_in (i := 303) (by decide +kernel) (by decide +kernel), cp_TG_in (i := 74) (by decide +kernel) (by decide +kernel), by decide, by decide, by decide +kernel⟩
theorem mi_X5_copyFrom : cp_mi yX5_copyFrom := ⟨cp_TG_in (i := 301) (by decide +kernel) (by decide +kernel), cp_TG_in (i := 302) (by decide +kernel) (by decide +kernel)⟩
theorem me_X6_init : cp_me yX6_init cX6_init 1 none 0 := ⟨cp_TG_in (i := 85) (by decide +kernel) (by decide +kernel), cp_TG_in (i := 71) (by decide +kernel) (by decide +kernel), by decide, by decide, by decide +kernel⟩
theorem me_X6_set : cp_me yX6_set cX6_set 3 (some .int) 2 := ⟨cp_TG_in (i := 284) (by decide +kernel) (by decide +kernel), cp_TG_in (i := 71) (by decide +kernel) (by decide +kernel), by decide, by decide, by decide +kernel⟩
theorem mi_X6_set : cp_mi yX6_set := ⟨cp_TG_in (i := 282) (by decide +kernel) (by decide +kernel), cp_TG_in (i := 283) (by decide +kernel) (by decide +kernel)⟩
theorem me_X6_piece : cp_me yX6_piece cX6_piece 5 (some .int) 4 := ⟨cp_TG_in (i := 322) (by decide +kernel) (by decide +kernel), cp_TG_in (i := 71) (by decide +kernel) (by decide +kernel), by decide, by decide, by decide +kernel⟩
theorem mi_X6_piece : cp_mi yX6_piece := ⟨cp_TG_in (i := 320) (by decide +kernel) (by decide +kernel), cp_TG_in (i := 321) (by decide +kernel) (by decide +kernel)⟩
theorem me_X6_plate : cp_me yX6_plate cX6_plate 2 (some .int) 1 := ⟨cp_TG_in (i := 334) (by decide +kernel) (by decide +kernel), cp_TG_in (i := 71) (by decide +kernel) (by decide +kernel), by decide, by decide, by decide +kernel⟩
theorem mi_X6_plate : cp_mi yX6_plate := ⟨cp_TG_in (i := 332) (by decide +kernel) (by decide +kernel), cp_TG_in (i := 333) (by decide +kernel) (by decide +kernel)⟩
theorem me_X6_hold : cp_me yX6_hold cX6_hold 2 (some .int) 1 := ⟨cp_TG_in (i := 354) (by decide +kernel) (by decide +kernel), cp_TG_in (i := 71) (by decide +kernel) (by decide +kernel), by decide, by decide, by decide +kernel⟩
theorem mi_X6_hold : cp_mi yX6_hold := ⟨cp_TG_in (i := 352) (by decide +kernel) (by decide +kernel), cp_TG_in (i := 353) (by decide +kernel) (by decide +kernel)⟩
theorem me_X6_kill : cp_me yX6_kill cX6_kill 2 (some .int) 1 := ⟨cp_TG_in (i := 369) (by decide +kernel) (by decide +kernel), cp_TG_in (i := 71) (by decide +kernel) (by decide +kernel), by decide, by decide, by decide +kernel⟩
theorem mi_X6_kill : cp_mi yX6_kill := ⟨cp_TG_in (i := 367) (by decide +kernel) (by decide +kernel), cp_TG_in (i := 368) (by decide +kernel) (by decide +kernel)⟩
theorem me_X6_pass : cp_me yX6_pass cX6_pass 2 (some .int) 1 := ⟨cp_TG_in (i := 400) (by decide +kernel) (by decide +kernel), cp_TG_in (i := 71) (by decide +kernel) (by decide +kernel), by decide, by decide, by decide +kernel⟩
theorem mi_X6_pass : cp_mi yX6_pass := ⟨cp_TG_in (i := 398) (by decide +kernel) (by decide +kernel), cp_TG_in (i := 399) (by decide +kernel) (by decide +kernel)⟩
theorem me_X6_ofPiece : cp_me yX6_ofPiece cX6_ofPiece 3 (some .int) 2 := ⟨cp_TG_in (i := 457) (by decide +kernel) (by decide +kernel), cp_TG_in (i := 71) (by decide +kernel) (by decide +kernel), by decide, by decide, by decide +kernel⟩
theorem mi_X6_ofPiece : cp_mi yX6_ofPiece := ⟨cp_TG_in (i := 455) (by decide +kernel) (by decide +kernel), cp_TG_in (i := 456) (by decide +kernel) (by decide +kernel)⟩
theorem me_X6_ofPlate : cp_me yX6_ofPlate cX6_ofPlate 3 (some .int) 2 := ⟨cp_TG_in (i := 481) (by decide +kernel) (by decide +kernel), cp_TG_in (i := 71) (by decide +kernel) (by decide +kernel), by decide, by decide, by decide +kernel⟩
theorem mi_X6_ofPlate : cp_mi yX6_ofPlate := ⟨cp_TG_in (i := 479) (by decide +kernel) (by decide +kernel), cp_TG_in (i := 480) (by decide +kernel) (by decide +kernel)⟩
theorem me_X6_count : cp_me yX6_count cX6_count 2 (some .int) 1 := ⟨cp_TG_in (i := 493) (by decide +kernel) (by decide +kernel), cp_TG_in (i := 71) (by decide +kernel) (by decide +kernel), by decide, by decide, by decide +kernel⟩
theorem mi_X6_count : cp_mi yX6_count := ⟨cp_TG_in (i := 491) (by decide +kernel) (by decide +kernel), cp_TG_in (i := 492) (by decide +kernel) (by decide +kernel)⟩
theorem me_X6_why : cp_me yX6_why cX6_why 3 (some .int) 2 := ⟨cp_TG_in (i := 513) (by decide +kernel) (by decide +kernel), cp_TG_in (i := 71) (by decide +kernel) (by decide +kernel), by decide, by decide, by decide +kernel⟩
theorem mi_X6_why : cp_mi yX6_why := ⟨cp_TG_in (i := 511) (by decide +kernel) (by decide +kernel), cp_TG_in (i := 512) (by decide +kernel) (by decide +kernel)⟩
theorem me_X6_plateNow : cp_me yX6_plateNow cX6_plateNow 1 (some .int) 0 := ⟨cp_TG_in (i := 537) (by decide +kernel) (by decide +kernel), cp_TG_in (i := 71) (by decide +kernel) (by decide +kernel), by decide, by decide, by decide +kernel⟩
theorem mi_X6_plateNow : cp_mi yX6_plateNow := ⟨cp_TG_in (i := 535) (by decide +kernel) (by decide +kernel), cp_TG_in (i := 536) (by decide +kernel) (by decide +kernel)⟩
theorem me_X6_readyIn : cp_me yX6_readyIn cX6_readyIn 3 (some .int) 1 := ⟨cp_TG_in (i := 542) (by decide +kernel) (by decide +kernel), cp_TG_in (i := 71) (by decide +kernel) (by decide +kernel), by decide, by decide, by decide +kernel⟩
theorem mi_X6_readyIn : cp_mi yX6_readyIn := ⟨cp_TG_in (i := 540) (by decide +kernel) (by decide +kernel), cp_TG_in (i := 541) (by decide +kernel) (by decide +kernel)⟩
theorem me_X6_leastRoom : cp_me yX6_leastRoom cX6_leastRoom 3 (some .int) 0 := ⟨cp_TG_in (i := 553) (by decide +kernel) (by decide +kernel), cp_TG_in (i := 71) (by decide +kernel) (by decide +kernel), by decide, by decide, by decide +kernel⟩
theorem mi_X6_leastRoom : cp_mi yX6_leastRoom := ⟨cp_TG_in (i := 551) (by decide +kernel) (by decide +kernel), cp_TG_in (i := 552) (by decide +kernel) (by decide +kernel)⟩
theorem me_X6_nextPlate : cp_me yX6_nextPlate cX6_nextPlate 2 (some .int) 0 := ⟨cp_TG_in (i := 573) (by decide +kernel) (by decide +kernel), cp_TG_in (i := 71) (by decide +kernel) (by decide +kernel), by decide, by decide, by decide +kernel⟩
theorem mi_X6_nextPlate : cp_mi yX6_nextPlate := ⟨cp_TG_in (i := 571) (by decide +kernel) (by decide +kernel), cp_TG_in (i := 572) (by decide +kernel) (by decide +kernel)⟩
theorem me_X6_goAheadToPlate : cp_me yX6_goAheadToPlate cX6_goAheadToPlate 2 none 1 := ⟨cp_TG_in (i := 558) (by decide +kernel) (by decide +kernel), cp_TG_in (i := 71) (by decide +kernel) (by decide +kernel), by decide, by decide, by decide +kernel⟩
theorem mi_X6_goAheadToPlate : cp_mi yX6_goAheadToPlate := ⟨cp_TG_in (i := 557) (by decide +kernel) (by decide +kernel), cp_TG_in (i := 23) (by decide +kernel) (by decide +kernel)⟩
theorem me_X6_put : cp_me yX6_put cX6_put 3 (some .int) 1 := ⟨cp_TG_in (i := 577) (by decide +kernel) (by decide +kernel), cp_TG_in (i := 71) (by decide +kernel) (by decide +kernel), by decide, by decide, by decide +kernel⟩
theorem mi_X6_put : cp_mi yX6_put := ⟨cp_TG_in (i := 575) (by decide +kernel) (by decide +kernel), cp_TG_in (i := 576) (by decide +kernel) (by decide +kernel)⟩
theorem me_X6_wipe : cp_me yX6_wipe cX6_wipe 1 (some .int) 0 := ⟨cp_TG_in (i := 591) (by decide +kernel) (by decide +kernel), cp_TG_in (i := 71) (by decide +kernel) (by decide +kernel), by decide, by decide, by decide +kernel⟩
theorem mi_X6_wipe : cp_mi yX6_wipe := ⟨cp_TG_in (i := 589) (by decide +kernel) (by decide +kernel), cp_TG_in (i := 590) (by decide +kernel) (by decide +kernel)⟩
theorem me_X6_fault : cp_me yX6_fault cX6_fault 1 (some .int) 0 := ⟨cp_TG_in (i := 599) (by decide +kernel) (by decide +kernel), cp_TG_in (i := 71) (by decide +kernel) (by decide +kernel), by decide, by decide, by decide +kernel⟩
theorem mi_X6_fault : cp_mi yX6_fault := ⟨cp_TG_in (i := 597) (by decide +kernel) (by decide +kernel), cp_TG_in (i := 598) (by decide +kernel) (by decide +kernel)⟩
theorem me_X6_carryOut : cp_me yX6_carryOut cX6_carryOut 3 (some .int) 0 := ⟨cp_TG_in (i := 636) (by decide +kernel) (by decide +kernel), cp_TG_in (i := 71) (by decide +kernel) (by decide +kernel), by decide, by decide, by decide +kernel⟩
theorem mi_X6_carryOut : cp_mi yX6_carryOut := ⟨cp_TG_in (i := 634) (by decide +kernel) (by decide +kernel), cp_TG_in (i := 635) (by decide +kernel) (by decide +kernel)⟩
theorem me_X6_carryOrderOut : cp_me yX6_carryOrderOut cX6_carryOrderOut 1 (some .int) 0 := ⟨cp_TG_in (i := 642) (by decide +kernel) (by decide +kernel), cp_TG_in (i := 71) (by decide +kernel) (by decide +kernel), by decide, by decide, by decide +kernel⟩
theorem mi_X6_carryOrderOut : cp_mi yX6_carryOrderOut := ⟨cp_TG_in (i := 641) (by decide +kernel) (by decide +kernel), cp_TG_in (i := 27) (by decide +kernel) (by decide +kernel)⟩
theorem me_X6_undo : cp_me yX6_undo cX6_undo 1 (some .int) 0 := ⟨cp_TG_in (i := 647) (by decide +kernel) (by decide +kernel), cp_TG_in (i := 71) (by decide +kernel) (by decide +kernel), by decide, by decide, by decide +kernel⟩
theorem mi_X6_undo : cp_mi yX6_undo := ⟨cp_TG_in (i := 645) (by decide +kernel) (by decide +kernel), cp_TG_in (i := 646) (by decide +kernel) (by decide +kernel)⟩
theorem me_X6_save : cp_me yX6_save cX6_save 3 (some .int) 1 := ⟨cp_TG_in (i := 655) (by decide +kernel) (by decide +kernel), cp_TG_in (i := 71) (by decide +kernel) (by decide +kernel), by decide, by decide, by decide +kernel⟩
theorem mi_X6_save : cp_mi yX6_save := ⟨cp_TG_in (i := 653) (by decide +kernel) (by decide +kernel), cp_TG_in (i := 654) (by decide +kernel) (by decide +kernel)⟩
theorem me_X6_restore : cp_me yX6_restore cX6_restore 3 (some .int) 1 := ⟨cp_TG_in (i := 659) (by decide +kernel) (by decide +kernel), cp_TG_in (i := 71) (by decide +kernel) (by decide +kernel), by decide, by decide, by decide +kernel⟩
theorem mi_X6_restore : cp_mi yX6_restore := ⟨cp_TG_in (i := 657) (by decide +kernel) (by decide +kernel), cp_TG_in (i := 658) (by decide +kernel) (by decide +kernel)⟩
theorem me_X6_isInSet : cp_me yX6_isInSet cX6_isInSet 2 (some .boolean) 2 := ⟨cp_TG_in (i := 388) (by decide +kernel) (by decide +kernel), cp_TG_in (i := 71) (by decide +kernel) (by decide +kernel), by decide, by decide, by decide +kernel⟩
theorem ms_X6_isInSet : Cond.static yX6_isInSet ∈ cp_TG := cp_TG_in (i := 387) (by decide +kernel) (by decide +kernel)
theorem me_X6_oneIf : cp_me yX6_oneIf cX6_oneIf 1 (some .int) 1 := ⟨cp_TG_in (i := 365) (by decide +kernel) (by decide +kernel), cp_TG_in (i := 71) (by decide +kernel) (by decide +kernel), by decide, by decide, by decide +kernel⟩
theorem ms_X6_oneIf : Cond.static yX6_oneIf ∈ cp_TG := cp_TG_in (i := 364) (by decide +kernel) (by decide +kernel)
theorem me_X7_init : cp_me yX7_init cX7_init 1 none 0 := ⟨cp_TG_in (i := 664) (by decide +kernel) (by decide +kernel), cp_TG_in (i := 78) (by decide +kernel) (by decide +kernel), by decide, by decide, by decide +kernel⟩
theorem me_X7_in : cp_me yX7_in cX7_in 6 (some .boolean) 3 := ⟨cp_TG_in (i := 722) (by decide +kernel) (by decide +kernel), cp_TG_in (i := 78) (by decide +kernel) (by decide +kernel), by decide, by decide, by decide +kernel⟩
theorem ms_X7_in : Cond.static yX7_in ∈ cp_TG := cp_TG_in (i := 721) (by decide +kernel) (by decide +kernel)
theorem me_X7_copy : cp_me yX7_copy cX7_copy 3 none 2 := ⟨cp_TG_in (i := 728) (by decide +kernel) (by decide +kernel), cp_TG_in (i := 78) (by decide +kernel) (by decide +kernel), by decide, by decide, by decide +kernel⟩
theorem ms_X7_copy : Cond.static yX7_copy ∈ cp_TG := cp_TG_in (i := 727) (by decide +kernel) (by decide +kernel)
theorem me_X7_ends : cp_me yX7_ends cX7_ends 3 (some .int) 1 := ⟨cp_TG_in (i := 732) (by decide +kernel) (by decide +kernel), cp_TG_in (i := 78) (by decide +kernel) (by decide +kernel), by decide, by decide, by decide +kernel⟩
theorem mi_X7_ends : cp_mi yX7_ends := ⟨cp_TG_in (i := 731) (by decide +kernel) (by decide +kernel), cp_TG_in (i := 28) (by decide +kernel) (by decide +kernel)⟩
theorem me_X7_isPiece : cp_me yX7_isPiece cX7_isPiece 2 (some .boolean) 1 := ⟨cp_TG_in (i := 784) (by decide +kernel) (by decide +kernel), cp_TG_in (i := 78) (by decide +kernel) (by decide +kernel), by decide, by decide, by decide +kernel⟩
theorem mi_X7_isPiece : cp_mi yX7_isPiece := ⟨cp_TG_in (i := 783) (by decide +kernel) (by decide +kernel), cp_TG_in (i := 37) (by decide +kernel) (by decide +kernel)⟩
theorem me_X7_of : cp_me yX7_of cX7_of 3 (some .int) 2 := ⟨cp_TG_in (i := 788) (by decide +kernel) (by decide +kernel), cp_TG_in (i := 78) (by decide +kernel) (by decide +kernel), by decide, by decide, by decide +kernel⟩
theorem mi_X7_of : cp_mi yX7_of := ⟨cp_TG_in (i := 787) (by decide +kernel) (by decide +kernel), cp_TG_in (i := 38) (by decide +kernel) (by decide +kernel)⟩
theorem me_X7_sets : cp_me yX7_sets cX7_sets 4 none 3 := ⟨cp_TG_in (i := 747) (by decide +kernel) (by decide +kernel), cp_TG_in (i := 78) (by decide +kernel) (by decide +kernel), by decide, by decide, by decide +kernel⟩
theorem mi_X7_sets : cp_mi yX7_sets := ⟨cp_TG_in (i := 746) (by decide +kernel) (by decide +kernel), cp_TG_in (i := 30) (by decide +kernel) (by decide +kernel)⟩
theorem me_X7_inQueue : cp_me yX7_inQueue cX7_inQueue 3 (some .int) 2 := ⟨cp_TG_in (i := 812) (by decide +kernel) (by decide +kernel), cp_TG_in (i := 78) (by decide +kernel) (by decide +kernel), by decide, by decide, by decide +kernel⟩
theorem mi_X7_inQueue : cp_mi yX7_inQueue := ⟨cp_TG_in (i := 811) (by decide +kernel) (by decide +kernel), cp_TG_in (i := 43) (by decide +kernel) (by decide +kernel)⟩
theorem me_X7_queueOf : cp_me yX7_queueOf cX7_queueOf 2 (some .int) 1 := ⟨cp_TG_in (i := 804) (by decide +kernel) (by decide +kernel), cp_TG_in (i := 78) (by decide +kernel) (by decide +kernel), by decide, by decide, by decide +kernel⟩
theorem mi_X7_queueOf : cp_mi yX7_queueOf := ⟨cp_TG_in (i := 803) (by decide +kernel) (by decide +kernel), cp_TG_in (i := 41) (by decide +kernel) (by decide +kernel)⟩
theorem me_X7_placeOf : cp_me yX7_placeOf cX7_placeOf 4 (some .int) 1 := ⟨cp_TG_in (i := 808) (by decide +kernel) (by decide +kernel), cp_TG_in (i := 78) (by decide +kernel) (by decide +kernel), by decide, by decide, by decide +kernel⟩
theorem mi_X7_placeOf : cp_mi yX7_placeOf := ⟨cp_TG_in (i := 807) (by decide +kernel) (by decide +kernel), cp_TG_in (i := 42) (by decide +kernel) (by decide +kernel)⟩
theorem me_X7_comesTo : cp_me yX7_comesTo cX7_comesTo 3 none 2 := ⟨cp_TG_in (i := 751) (by decide +kernel) (by decide +kernel), cp_TG_in (i := 78) (by decide +kernel) (by decide +kernel), by decide, by decide, by decide +kernel⟩
theorem mi_X7_comesTo : cp_mi yX7_comesTo := ⟨cp_TG_in (i := 750) (by decide +kernel) (by decide +kernel), cp_TG_in (i := 31) (by decide +kernel) (by decide +kernel)⟩
theorem me_X7_leaves : cp_me yX7_leaves cX7_leaves 6 none 1 := ⟨cp_TG_in (i := 800) (by decide +kernel) (by decide +kernel), cp_TG_in (i := 78) (by decide +kernel) (by decide +kernel), by decide, by decide, by decide +kernel⟩
theorem mi_X7_leaves : cp_mi yX7_leaves := ⟨cp_TG_in (i := 799) (by decide +kernel) (by decide +kernel), cp_TG_in (i := 40) (by decide +kernel) (by decide +kernel)⟩
theorem me_X7_becomesReady : cp_me yX7_becomesReady cX7_becomesReady 2 none 1 := ⟨cp_TG_in (i := 844) (by decide +kernel) (by decide +kernel), cp_TG_in (i := 78) (by decide +kernel) (by decide +kernel), by decide, by decide, by decide +kernel⟩
theorem mi_X7_becomesReady : cp_mi yX7_becomesReady := ⟨cp_TG_in (i := 843) (by decide +kernel) (by decide +kernel), cp_TG_in (i := 50) (by decide +kernel) (by decide +kernel)⟩
theorem me_X7_edits : cp_me yX7_edits cX7_edits 4 none 1 := ⟨cp_TG_in (i := 840) (by decide +kernel) (by decide +kernel), cp_TG_in (i := 78) (by decide +kernel) (by decide +kernel), by decide, by decide, by decide +kernel⟩
theorem mi_X7_edits : cp_mi yX7_edits := ⟨cp_TG_in (i := 839) (by decide +kernel) (by decide +kernel), cp_TG_in (i := 49) (by decide +kernel) (by decide +kernel)⟩
theorem me_X7_reads : cp_me yX7_reads cX7_reads 2 none 0 := ⟨cp_TG_in (i := 848) (by decide +kernel) (by decide +kernel), cp_TG_in (i := 78) (by decide +kernel) (by decide +kernel), by decide, by decide, by decide +kernel⟩
theorem mi_X7_reads : cp_mi yX7_reads := ⟨cp_TG_in (i := 847) (by decide +kernel) (by decide +kernel), cp_TG_in (i := 51) (by decide +kernel) (by decide +kernel)⟩
theorem me_X7_isFree : cp_me yX7_isFree cX7_isFree 2 (some .boolean) 1 := ⟨cp_TG_in (i := 860) (by decide +kernel) (by decide +kernel), cp_TG_in (i := 78) (by decide +kernel) (by decide +kernel), by decide, by decide, by decide +kernel⟩
theorem mi_X7_isFree : cp_mi yX7_isFree := ⟨cp_TG_in (i := 859) (by decide +kernel) (by decide +kernel), cp_TG_in (i := 54) (by decide +kernel) (by decide +kernel)⟩
theorem me_X7_isAhead : cp_me yX7_isAhead cX7_isAhead 5 (some .boolean) 2 := ⟨cp_TG_in (i := 864) (by decide +kernel) (by decide +kernel), cp_TG_in (i := 78) (by decide +kernel) (by decide +kernel), by decide, by decide, by decide +kernel⟩
theorem mi_X7_isAhead : cp_mi yX7_isAhead := ⟨cp_TG_in (i := 863) (by decide +kernel) (by decide +kernel), cp_TG_in (i := 55) (by decide +kernel) (by decide +kernel)⟩
theorem me_X7_ranked : cp_me yX7_ranked cX7_ranked 5 (some .int) 1 := ⟨cp_TG_in (i := 856) (by decide +kernel) (by decide +kernel), cp_TG_in (i := 78) (by decide +kernel) (by decide +kernel), by decide, by decide, by decide +kernel⟩
theorem mi_X7_ranked : cp_mi yX7_ranked := ⟨cp_TG_in (i := 855) (by decide +kernel) (by decide +kernel), cp_TG_in (i := 53) (by decide +kernel) (by decide +kernel)⟩
theorem me_X7_takes : cp_me yX7_takes cX7_takes 4 none 1 := ⟨cp_TG_in (i := 852) (by decide +kernel) (by decide +kernel), cp_TG_in (i := 78) (by decide +kernel) (by decide +kernel), by decide, by decide, by decide +kernel⟩
theorem mi_X7_takes : cp_mi yX7_takes := ⟨cp_TG_in (i := 851) (by decide +kernel) (by decide +kernel), cp_TG_in (i := 52) (by decide +kernel) (by decide +kernel)⟩
theorem me_X7_plateAt : cp_me yX7_plateAt cX7_plateAt 3 (some .int) 2 := ⟨cp_TG_in (i := 768) (by decide +kernel) (by decide +kernel), cp_TG_in (i := 78) (by decide +kernel) (by decide +kernel), by decide, by decide, by decide +kernel⟩
theorem mi_X7_plateAt : cp_mi yX7_plateAt := ⟨cp_TG_in (i := 767) (by decide +kernel) (by decide +kernel), cp_TG_in (i := 34) (by decide +kernel) (by decide +kernel)⟩
theorem me_X7_due : cp_me yX7_due cX7_due 3 (some .int) 1 := ⟨cp_TG_in (i := 764) (by decide +kernel) (by decide +kernel), cp_TG_in (i := 78) (by decide +kernel) (by decide +kernel), by decide, by decide, by decide +kernel⟩
theorem mi_X7_due : cp_mi yX7_due := ⟨cp_TG_in (i := 763) (by decide +kernel) (by decide +kernel), cp_TG_in (i := 33) (by decide +kernel) (by decide +kernel)⟩
theorem me_X7_works : cp_me yX7_works cX7_works 2 none 0 := ⟨cp_TG_in (i := 836) (by decide +kernel) (by decide +kernel), cp_TG_in (i := 78) (by decide +kernel) (by decide +kernel), by decide, by decide, by decide +kernel⟩
theorem mi_X7_works : cp_mi yX7_works := ⟨cp_TG_in (i := 835) (by decide +kernel) (by decide +kernel), cp_TG_in (i := 48) (by decide +kernel) (by decide +kernel)⟩
theorem me_X7_passes : cp_me yX7_passes cX7_passes 2 (some .int) 0 := ⟨cp_TG_in (i := 832) (by decide +kernel) (by decide +kernel), cp_TG_in (i := 78) (by decide +kernel) (by decide +kernel), by decide, by decide, by decide +kernel⟩
theorem mi_X7_passes : cp_mi yX7_passes := ⟨cp_TG_in (i := 831) (by decide +kernel) (by decide +kernel), cp_TG_in (i := 47) (by decide +kernel) (by decide +kernel)⟩
theorem me_X7_doPiece : cp_me yX7_doPiece cX7_doPiece 7 (some .int) 4 := ⟨cp_TG_in (i := 740) (by decide +kernel) (by decide +kernel), cp_TG_in (i := 78) (by decide +kernel) (by decide +kernel), by decide, by decide, by decide +kernel⟩
theorem mi_X7_doPiece : cp_mi yX7_doPiece := ⟨cp_TG_in (i := 739) (by decide +kernel) (by decide +kernel), cp_TG_in (i := 29) (by decide +kernel) (by decide +kernel)⟩
theorem me_X7_tells : cp_me yX7_tells cX7_tells 5 (some .int) 2 := ⟨cp_TG_in (i := 772) (by decide +kernel) (by decide +kernel), cp_TG_in (i := 78) (by decide +kernel) (by decide +kernel), by decide, by decide, by decide +kernel⟩
theorem mi_X7_tells : cp_mi yX7_tells := ⟨cp_TG_in (i := 771) (by decide +kernel) (by decide +kernel), cp_TG_in (i := 35) (by decide +kernel) (by decide +kernel)⟩
theorem me_X7_doPlate : cp_me yX7_doPlate cX7_doPlate 2 (some .int) 1 := ⟨cp_TG_in (i := 759) (by decide +kernel) (by decide +kernel), cp_TG_in (i := 78) (by decide +kernel) (by decide +kernel), by decide, by decide, by decide +kernel⟩
theorem mi_X7_doPlate : cp_mi yX7_doPlate := ⟨cp_TG_in (i := 758) (by decide +kernel) (by decide +kernel), cp_TG_in (i := 32) (by decide +kernel) (by decide +kernel)⟩
theorem me_X7_doHold : cp_me yX7_doHold cX7_doHold 2 (some .int) 1 := ⟨cp_TG_in (i := 780) (by decide +kernel) (by decide +kernel), cp_TG_in (i := 78) (by decide +kernel) (by decide +kernel), by decide, by decide, by decide +kernel⟩
theorem mi_X7_doHold : cp_mi yX7_doHold := ⟨cp_TG_in (i := 779) (by decide +kernel) (by decide +kernel), cp_TG_in (i := 36) (by decide +kernel) (by decide +kernel)⟩
theorem me_X7_isOnLatest : cp_me yX7_isOnLatest cX7_isOnLatest 2 (some .boolean) 1 := ⟨cp_TG_in (i := 816) (by decide +kernel) (by decide +kernel), cp_TG_in (i := 78) (by decide +kernel) (by decide +kernel), by decide, by decide, by decide +kernel⟩
theorem mi_X7_isOnLatest : cp_mi yX7_isOnLatest := ⟨cp_TG_in (i := 815) (by decide +kernel) (by decide +kernel), cp_TG_in (i := 44) (by decide +kernel) (by decide +kernel)⟩
theorem me_X7_isDueSoon : cp_me yX7_isDueSoon cX7_isDueSoon 3 (some .boolean) 0 := ⟨cp_TG_in (i := 820) (by decide +kernel) (by decide +kernel), cp_TG_in (i := 78) (by decide +kernel) (by decide +kernel), by decide, by decide, by decide +kernel⟩
theorem mi_X7_isDueSoon : cp_mi yX7_isDueSoon := ⟨cp_TG_in (i := 819) (by decide +kernel) (by decide +kernel), cp_TG_in (i := 45) (by decide +kernel) (by decide +kernel)⟩
theorem me_X7_doKill : cp_me yX7_doKill cX7_doKill 4 (some .int) 1 := ⟨cp_TG_in (i := 796) (by decide +kernel) (by decide +kernel), cp_TG_in (i := 78) (by decide +kernel) (by decide +kernel), by decide, by decide, by decide +kernel⟩
theorem mi_X7_doKill : cp_mi yX7_doKill := ⟨cp_TG_in (i := 795) (by decide +kernel) (by decide +kernel), cp_TG_in (i := 39) (by decide +kernel) (by decide +kernel)⟩
theorem me_X7_doPass : cp_me yX7_doPass cX7_doPass 4 (some .int) 1 := ⟨cp_TG_in (i := 828) (by decide +kernel) (by decide +kernel), cp_TG_in (i := 78) (by decide +kernel) (by decide +kernel), by decide, by decide, by decide +kernel⟩
theorem mi_X7_doPass : cp_mi yX7_doPass := ⟨cp_TG_in (i := 827) (by decide +kernel) (by decide +kernel), cp_TG_in (i := 46) (by decide +kernel) (by decide +kernel)⟩
theorem me_X7_isSetting : cp_me yX7_isSetting cX7_isSetting 2 (some .boolean) 2 := ⟨cp_TG_in (i := 718) (by decide +kernel) (by decide +kernel), cp_TG_in (i := 78) (by decide +kernel) (by decide +kernel), by decide, by decide, by decide +kernel⟩
theorem ms_X7_isSetting : Cond.static yX7_isSetting ∈ cp_TG := cp_TG_in (i := 717) (by decide +kernel) (by decide +kernel)
theorem me_X7_set : cp_me yX7_set cX7_set 4 (some .int) 2 := ⟨cp_TG_in (i := 715) (by decide +kernel) (by decide +kernel), cp_TG_in (i := 78) (by decide +kernel) (by decide +kernel), by decide, by decide, by decide +kernel⟩
theorem mi_X7_set : cp_mi yX7_set := ⟨cp_TG_in (i := 713) (by decide +kernel) (by decide +kernel), cp_TG_in (i := 714) (by decide +kernel) (by decide +kernel)⟩
theorem me_X7_piece : cp_me yX7_piece cX7_piece 5 (some .int) 4 := ⟨cp_TG_in (i := 736) (by decide +kernel) (by decide +kernel), cp_TG_in (i := 78) (by decide +kernel) (by decide +kernel), by decide, by decide, by decide +kernel⟩
theorem mi_X7_piece : cp_mi yX7_piece := ⟨cp_TG_in (i := 734) (by decide +kernel) (by decide +kernel), cp_TG_in (i := 735) (by decide +kernel) (by decide +kernel)⟩
theorem me_X7_plate : cp_me yX7_plate cX7_plate 2 (some .int) 1 := ⟨cp_TG_in (i := 755) (by decide +kernel) (by decide +kernel), cp_TG_in (i := 78) (by decide +kernel) (by decide +kernel), by decide, by decide, by decide +kernel⟩
theorem mi_X7_plate : cp_mi yX7_plate := ⟨cp_TG_in (i := 753) (by decide +kernel) (by decide +kernel), cp_TG_in (i := 754) (by decide +kernel) (by decide +kernel)⟩
theorem me_X7_hold : cp_me yX7_hold cX7_hold 2 (some .int) 1 := ⟨cp_TG_in (i := 776) (by decide +kernel) (by decide +kernel), cp_TG_in (i := 78) (by decide +kernel) (by decide +kernel), by decide, by decide, by decide +kernel⟩
theorem mi_X7_hold : cp_mi yX7_hold := ⟨cp_TG_in (i := 774) (by decide +kernel) (by decide +kernel), cp_TG_in (i := 775) (by decide +kernel) (by decide +kernel)⟩
theorem me_X7_kill : cp_me yX7_kill cX7_kill 2 (some .int) 1 := ⟨cp_TG_in (i := 792) (by decide +kernel) (by decide +kernel), cp_TG_in (i := 78) (by decide +kernel) (by decide +kernel), by decide, by decide, by decide +kernel⟩
theorem mi_X7_kill : cp_mi yX7_kill := ⟨cp_TG_in (i := 790) (by decide +kernel) (by decide +kernel), cp_TG_in (i := 791) (by decide +kernel) (by decide +kernel)⟩
theorem me_X7_pass : cp_me yX7_pass cX7_pass 2 (some .int) 1 := ⟨cp_TG_in (i := 824) (by decide +kernel) (by decide +kernel), cp_TG_in (i := 78) (by decide +kernel) (by decide +kernel), by decide, by decide, by decide +kernel⟩
theorem mi_X7_pass : cp_mi yX7_pass := ⟨cp_TG_in (i := 822) (by decide +kernel) (by decide +kernel), cp_TG_in (i := 823) (by decide +kernel) (by decide +kernel)⟩
theorem me_X7_platesWith : cp_me yX7_platesWith cX7_platesWith 4 (some .int) 1 := ⟨cp_TG_in (i := 873) (by decide +kernel) (by decide +kernel), cp_TG_in (i := 78) (by decide +kernel) (by decide +kernel), by decide, by decide, by decide +kernel⟩
theorem mi_X7_platesWith : cp_mi yX7_platesWith := ⟨cp_TG_in (i := 872) (by decide +kernel) (by decide +kernel), cp_TG_in (i := 56) (by decide +kernel) (by decide +kernel)⟩
theorem me_X7_ofPiece : cp_me yX7_ofPiece cX7_ofPiece 3 (some .int) 2 := ⟨cp_TG_in (i := 868) (by decide +kernel) (by decide +kernel), cp_TG_in (i := 78) (by decide +kernel) (by decide +kernel), by decide, by decide, by decide +kernel⟩
theorem mi_X7_ofPiece : cp_mi yX7_ofPiece := ⟨cp_TG_in (i := 866) (by decide +kernel) (by decide +kernel), cp_TG_in (i := 867) (by decide +kernel) (by decide +kernel)⟩
theorem me_X7_linesOf : cp_me yX7_linesOf cX7_linesOf 4 (some .int) 1 := ⟨cp_TG_in (i := 882) (by decide +kernel) (by decide +kernel), cp_TG_in (i := 78) (by decide +kernel) (by decide +kernel), by decide, by decide, by decide +kernel⟩
theorem mi_X7_linesOf : cp_mi yX7_linesOf := ⟨cp_TG_in (i := 881) (by decide +kernel) (by decide +kernel), cp_TG_in (i := 57) (by decide +kernel) (by decide +kernel)⟩
theorem me_X7_ofPlate : cp_me yX7_ofPlate cX7_ofPlate 3 (some .int) 2 := ⟨cp_TG_in (i := 877) (by decide +kernel) (by decide +kernel), cp_TG_in (i := 78) (by decide +kernel) (by decide +kernel), by decide, by decide, by decide +kernel⟩
theorem mi_X7_ofPlate : cp_mi yX7_ofPlate := ⟨cp_TG_in (i := 875) (by decide +kernel) (by decide +kernel), cp_TG_in (i := 876) (by decide +kernel) (by decide +kernel)⟩
theorem me_X7_manyThat : cp_me yX7_manyThat cX7_manyThat 4 (some .int) 1 := ⟨cp_TG_in (i := 890) (by decide +kernel) (by decide +kernel), cp_TG_in (i := 78) (by decide +kernel) (by decide +kernel), by decide, by decide, by decide +kernel⟩
theorem mi_X7_manyThat : cp_mi yX7_manyThat := ⟨cp_TG_in (i := 889) (by decide +kernel) (by decide +kernel), cp_TG_in (i := 58) (by decide +kernel) (by decide +kernel)⟩
theorem me_X7_manyHeld : cp_me yX7_manyHeld cX7_manyHeld 3 (some .int) 0 := ⟨cp_TG_in (i := 895) (by decide +kernel) (by decide +kernel), cp_TG_in (i := 78) (by decide +kernel) (by decide +kernel), by decide, by decide, by decide +kernel⟩
theorem mi_X7_manyHeld : cp_mi yX7_manyHeld := ⟨cp_TG_in (i := 894) (by decide +kernel) (by decide +kernel), cp_TG_in (i := 59) (by decide +kernel) (by decide +kernel)⟩
theorem me_X7_replates : cp_me yX7_replates cX7_replates 3 (some .int) 0 := ⟨cp_TG_in (i := 899) (by decide +kernel) (by decide +kernel), cp_TG_in (i := 78) (by decide +kernel) (by decide +kernel), by decide, by decide, by decide +kernel⟩
theorem mi_X7_replates : cp_mi yX7_replates := ⟨cp_TG_in (i := 898) (by decide +kernel) (by decide +kernel), cp_TG_in (i := 60) (by decide +kernel) (by decide +kernel)⟩
theorem me_X7_count : cp_me yX7_count cX7_count 2 (some .int) 1 := ⟨cp_TG_in (i := 886) (by decide +kernel) (by decide +kernel), cp_TG_in (i := 78) (by decide +kernel) (by decide +kernel), by decide, by decide, by decide +kernel⟩
theorem mi_X7_count : cp_mi yX7_count := ⟨cp_TG_in (i := 884) (by decide +kernel) (by decide +kernel), cp_TG_in (i := 885) (by decide +kernel) (by decide +kernel)⟩
theorem me_X7_lastAhead : cp_me yX7_lastAhead cX7_lastAhead 5 (some .int) 1 := ⟨cp_TG_in (i := 911) (by decide +kernel) (by decide +kernel), cp_TG_in (i := 78) (by decide +kernel) (by decide +kernel), by decide, by decide, by decide +kernel⟩
theorem mi_X7_lastAhead : cp_mi yX7_lastAhead := ⟨cp_TG_in (i := 910) (by decide +kernel) (by decide +kernel), cp_TG_in (i := 62) (by decide +kernel) (by decide +kernel)⟩
theorem me_X7_reason : cp_me yX7_reason cX7_reason 3 (some .int) 1 := ⟨cp_TG_in (i := 907) (by decide +kernel) (by decide +kernel), cp_TG_in (i := 78) (by decide +kernel) (by decide +kernel), by decide, by decide, by decide +kernel⟩
theorem mi_X7_reason : cp_mi yX7_reason := ⟨cp_TG_in (i := 906) (by decide +kernel) (by decide +kernel), cp_TG_in (i := 61) (by decide +kernel) (by decide +kernel)⟩
theorem me_X7_why : cp_me yX7_why cX7_why 4 (some .int) 2 := ⟨cp_TG_in (i := 903) (by decide +kernel) (by decide +kernel), cp_TG_in (i := 78) (by decide +kernel) (by decide +kernel), by decide, by decide, by decide +kernel⟩
theorem mi_X7_why : cp_mi yX7_why := ⟨cp_TG_in (i := 901) (by decide +kernel) (by decide +kernel), cp_TG_in (i := 902) (by decide +kernel) (by decide +kernel)⟩
theorem me_X7_plateNow : cp_me yX7_plateNow cX7_plateNow 1 (some .int) 0 := ⟨cp_TG_in (i := 915) (by decide +kernel) (by decide +kernel), cp_TG_in (i := 78) (by decide +kernel) (by decide +kernel), by decide, by decide, by decide +kernel⟩
theorem mi_X7_plateNow : cp_mi yX7_plateNow := ⟨cp_TG_in (i := 913) (by decide +kernel) (by decide +kernel), cp_TG_in (i := 914) (by decide +kernel) (by decide +kernel)⟩
theorem me_X7_readyIn : cp_me yX7_readyIn cX7_readyIn 3 (some .int) 1 := ⟨cp_TG_in (i := 919) (by decide +kernel) (by decide +kernel), cp_TG_in (i := 78) (by decide +kernel) (by decide +kernel), by decide, by decide, by decide +kernel⟩
theorem mi_X7_readyIn : cp_mi yX7_readyIn := ⟨cp_TG_in (i := 917) (by decide +kernel) (by decide +kernel), cp_TG_in (i := 918) (by decide +kernel) (by decide +kernel)⟩
theorem me_X7_comesToNext : cp_me yX7_comesToNext cX7_comesToNext 2 (some .boolean) 0 := ⟨cp_TG_in (i := 927) (by decide +kernel) (by decide +kernel), cp_TG_in (i := 78) (by decide +kernel) (by decide +kernel), by decide, by decide, by decide +kernel⟩
theorem mi_X7_comesToNext : cp_mi yX7_comesToNext := ⟨cp_TG_in (i := 926) (by decide +kernel) (by decide +kernel), cp_TG_in (i := 63) (by decide +kernel) (by decide +kernel)⟩
theorem me_X7_leastRoom : cp_me yX7_leastRoom cX7_leastRoom 4 (some .int) 0 := ⟨cp_TG_in (i := 923) (by decide +kernel) (by decide +kernel), cp_TG_in (i := 78) (by decide +kernel) (by decide +kernel), by decide, by decide, by decide +kernel⟩
theorem mi_X7_leastRoom : cp_mi yX7_leastRoom := ⟨cp_TG_in (i := 921) (by decide +kernel) (by decide +kernel), cp_TG_in (i := 922) (by decide +kernel) (by decide +kernel)⟩
theorem me_X7_nextPlate : cp_me yX7_nextPlate cX7_nextPlate 2 (some .int) 0 := ⟨cp_TG_in (i := 931) (by decide +kernel) (by decide +kernel), cp_TG_in (i := 78) (by decide +kernel) (by decide +kernel), by decide, by decide, by decide +kernel⟩
theorem mi_X7_nextPlate : cp_mi yX7_nextPlate := ⟨cp_TG_in (i := 929) (by decide +kernel) (by decide +kernel), cp_TG_in (i := 930) (by decide +kernel) (by decide +kernel)⟩
theorem me_X7_put : cp_me yX7_put cX7_put 8 (some .int) 1 := ⟨cp_TG_in (i := 935) (by decide +kernel) (by decide +kernel), cp_TG_in (i := 78) (by decide +kernel) (by decide +kernel), by decide, by decide, by decide +kernel⟩
theorem mi_X7_put : cp_mi yX7_put := ⟨cp_TG_in (i := 933) (by decide +kernel) (by decide +kernel), cp_TG_in (i := 934) (by decide +kernel) (by decide +kernel)⟩
theorem me_X7_wipe : cp_me yX7_wipe cX7_wipe 2 (some .int) 0 := ⟨cp_TG_in (i := 942) (by decide +kernel) (by decide +kernel), cp_TG_in (i := 78) (by decide +kernel) (by decide +kernel), by decide, by decide, by decide +kernel⟩
theorem mi_X7_wipe : cp_mi yX7_wipe := ⟨cp_TG_in (i := 940) (by decide +kernel) (by decide +kernel), cp_TG_in (i := 941) (by decide +kernel) (by decide +kernel)⟩
theorem me_X7_isHere : cp_me yX7_isHere cX7_isHere 3 (some .boolean) 2 := ⟨cp_TG_in (i := 958) (by decide +kernel) (by decide +kernel), cp_TG_in (i := 78) (by decide +kernel) (by decide +kernel), by decide, by decide, by decide +kernel⟩
theorem mi_X7_isHere : cp_mi yX7_isHere := ⟨cp_TG_in (i := 957) (by decide +kernel) (by decide +kernel), cp_TG_in (i := 66) (by decide +kernel) (by decide +kernel)⟩
theorem me_X7_takesOne : cp_me yX7_takesOne cX7_takesOne 3 (some .boolean) 1 := ⟨cp_TG_in (i := 954) (by decide +kernel) (by decide +kernel), cp_TG_in (i := 78) (by decide +kernel) (by decide +kernel), by decide, by decide, by decide +kernel⟩
theorem mi_X7_takesOne : cp_mi yX7_takesOne := ⟨cp_TG_in (i := 953) (by decide +kernel) (by decide +kernel), cp_TG_in (i := 65) (by decide +kernel) (by decide +kernel)⟩
theorem me_X7_readsDigit : cp_me yX7_readsDigit cX7_readsDigit 3 (some .boolean) 1 := ⟨cp_TG_in (i := 966) (by decide +kernel) (by decide +kernel), cp_TG_in (i := 78) (by decide +kernel) (by decide +kernel), by decide, by decide, by decide +kernel⟩
theorem mi_X7_readsDigit : cp_mi yX7_readsDigit := ⟨cp_TG_in (i := 965) (by decide +kernel) (by decide +kernel), cp_TG_in (i := 68) (by decide +kernel) (by decide +kernel)⟩
theorem me_X7_readsNumber : cp_me yX7_readsNumber cX7_readsNumber 1 (some .boolean) 0 := ⟨cp_TG_in (i := 970) (by decide +kernel) (by decide +kernel), cp_TG_in (i := 78) (by decide +kernel) (by decide +kernel), by decide, by decide, by decide +kernel⟩
theorem mi_X7_readsNumber : cp_mi yX7_readsNumber := ⟨cp_TG_in (i := 969) (by decide +kernel) (by decide +kernel), cp_TG_in (i := 69) (by decide +kernel) (by decide +kernel)⟩
theorem me_X7_readsPiece : cp_me yX7_readsPiece cX7_readsPiece 5 (some .boolean) 0 := ⟨cp_TG_in (i := 962) (by decide +kernel) (by decide +kernel), cp_TG_in (i := 78) (by decide +kernel) (by decide +kernel), by decide, by decide, by decide +kernel⟩
theorem mi_X7_readsPiece : cp_mi yX7_readsPiece := ⟨cp_TG_in (i := 961) (by decide +kernel) (by decide +kernel), cp_TG_in (i := 67) (by decide +kernel) (by decide +kernel)⟩
theorem me_X7_readsOrder : cp_me yX7_readsOrder cX7_readsOrder 2 (some .boolean) 0 := ⟨cp_TG_in (i := 950) (by decide +kernel) (by decide +kernel), cp_TG_in (i := 78) (by decide +kernel) (by decide +kernel), by decide, by decide, by decide +kernel⟩
theorem mi_X7_readsOrder : cp_mi yX7_readsOrder := ⟨cp_TG_in (i := 949) (by decide +kernel) (by decide +kernel), cp_TG_in (i := 64) (by decide +kernel) (by decide +kernel)⟩
theorem me_X7_fault : cp_me yX7_fault cX7_fault 2 (some .int) 0 := ⟨cp_TG_in (i := 946) (by decide +kernel) (by decide +kernel), cp_TG_in (i := 78) (by decide +kernel) (by decide +kernel), by decide, by decide, by decide +kernel⟩
theorem mi_X7_fault : cp_mi yX7_fault := ⟨cp_TG_in (i := 944) (by decide +kernel) (by decide +kernel), cp_TG_in (i := 945) (by decide +kernel) (by decide +kernel)⟩
theorem me_X7_carryOut : cp_me yX7_carryOut cX7_carryOut 4 (some .int) 0 := ⟨cp_TG_in (i := 974) (by decide +kernel) (by decide +kernel), cp_TG_in (i := 78) (by decide +kernel) (by decide +kernel), by decide, by decide, by decide +kernel⟩
theorem mi_X7_carryOut : cp_mi yX7_carryOut := ⟨cp_TG_in (i := 972) (by decide +kernel) (by decide +kernel), cp_TG_in (i := 973) (by decide +kernel) (by decide +kernel)⟩
theorem me_X7_undo : cp_me yX7_undo cX7_undo 2 (some .int) 0 := ⟨cp_TG_in (i := 979) (by decide +kernel) (by decide +kernel), cp_TG_in (i := 78) (by decide +kernel) (by decide +kernel), by decide, by decide, by decide +kernel⟩
theorem mi_X7_undo : cp_mi yX7_undo := ⟨cp_TG_in (i := 977) (by decide +kernel) (by decide +kernel), cp_TG_in (i := 978) (by decide +kernel) (by decide +kernel)⟩
theorem me_X7_save : cp_me yX7_save cX7_save 3 (some .int) 1 := ⟨cp_TG_in (i := 983) (by decide +kernel) (by decide +kernel), cp_TG_in (i := 78) (by decide +kernel) (by decide +kernel), by decide, by decide, by decide +kernel⟩
theorem mi_X7_save : cp_mi yX7_save := ⟨cp_TG_in (i := 981) (by decide +kernel) (by decide +kernel), cp_TG_in (i := 982) (by decide +kernel) (by decide +kernel)⟩
theorem me_X7_restore : cp_me yX7_restore cX7_restore 3 (some .int) 1 := ⟨cp_TG_in (i := 987) (by decide +kernel) (by decide +kernel), cp_TG_in (i := 78) (by decide +kernel) (by decide +kernel), by decide, by decide, by decide +kernel⟩
theorem mi_X7_restore : cp_mi yX7_restore := ⟨cp_TG_in (i := 985) (by decide +kernel) (by decide +kernel), cp_TG_in (i := 986) (by decide +kernel) (by decide +kernel)⟩
theorem ml_L_9 : Cond.methodLink RL 9 yX6_init ∈ cp_TG := cp_TG_in (i := 83) (by decide +kernel) (by decide +kernel)
theorem ml_X6_9 : Cond.methodLink RX6 9 yX1_init ∈ cp_TG := cp_TG_in (i := 91) (by decide +kernel) (by decide +kernel)
theorem ml_X1_33 : (RX1, 33, yX4_init) ∈ cp_nM := by decide +kernel
theorem ml_X1_43 : (RX1, 43, yX5_init) ∈ cp_nM := by decide +kernel
theorem ml_X6_21 : Cond.methodLink RX6 21 yX0_init ∈ cp_TG := cp_TG_in (i := 195) (by decide +kernel) (by decide +kernel)
theorem ml_X0_17 : Cond.methodLink RX0 17 yX1_init ∈ cp_TG := cp_TG_in (i := 201) (by decide +kernel) (by decide +kernel)
theorem ml_X6_32 : Cond.methodLink RX6 32 yX3_init ∈ cp_TG := cp_TG_in (i := 215) (by decide +kernel) (by decide +kernel)
theorem ml_X6_39 : Cond.methodLink RX6 39 yX2_init ∈ cp_TG := cp_TG_in (i := 231) (by decide +kernel) (by decide +kernel)
theorem ml_L_13 : Cond.methodLink RL 13 yX6_set ∈ cp_TG := cp_TG_in (i := 281) (by decide +kernel) (by decide +kernel)
theorem ml_X6_46 : Cond.methodLink RX6 46 yX0_prepare ∈ cp_TG := cp_TG_in (i := 285) (by decide +kernel) (by decide +kernel)
theorem ml_X0_25 : Cond.methodLink RX0 25 yX1_copyFrom ∈ cp_TG := cp_TG_in (i := 289) (by decide +kernel) (by decide +kernel)
theorem ml_X1_53 : Cond.methodLink RX1 53 yX4_copyFrom ∈ cp_TG := cp_TG_in (i := 296) (by decide +kernel) (by decide +kernel)
theorem ml_X1_57 : Cond.methodLink RX1 57 yX5_copyFrom ∈ cp_TG := cp_TG_in (i := 300) (by decide +kernel) (by decide +kernel)
theorem ml_X6_50 : Cond.methodLink RX6 50 yX1_changeSetting ∈ cp_TG := cp_TG_in (i := 304) (by decide +kernel) (by decide +kernel)
theorem ml_X6_54 : Cond.methodLink RX6 54 yX0_recordUnlessError ∈ cp_TG := cp_TG_in (i := 312) (by decide +kernel) (by decide +kernel)
theorem ml_L_18 : Cond.methodLink RL 18 yX6_piece ∈ cp_TG := cp_TG_in (i := 319) (by decide +kernel) (by decide +kernel)
theorem ml_X6_58 : Cond.methodLink RX6 58 yX1_addPiece ∈ cp_TG := cp_TG_in (i := 323) (by decide +kernel) (by decide +kernel)
theorem ml_X1_73 : Cond.methodLink RX1 73 yX4_come ∈ cp_TG := cp_TG_in (i := 327) (by decide +kernel) (by decide +kernel)
theorem ml_L_23 : Cond.methodLink RL 23 yX6_plate ∈ cp_TG := cp_TG_in (i := 331) (by decide +kernel) (by decide +kernel)
theorem ml_X6_62 : Cond.methodLink RX6 62 yX1_addPlate ∈ cp_TG := cp_TG_in (i := 335) (by decide +kernel) (by decide +kernel)
theorem ml_X1_77 : Cond.methodLink RX1 77 yX1_plateAt ∈ cp_TG := cp_TG_in (i := 339) (by decide +kernel) (by decide +kernel)
theorem ml_X1_81 : Cond.methodLink RX1 81 yX1_insertPlate ∈ cp_TG := cp_TG_in (i := 343) (by decide +kernel) (by decide +kernel)
theorem ml_X1_184 : Cond.methodLink RX1 184 yX5_tell ∈ cp_TG := cp_TG_in (i := 347) (by decide +kernel) (by decide +kernel)
theorem ml_L_28 : Cond.methodLink RL 28 yX6_hold ∈ cp_TG := cp_TG_in (i := 351) (by decide +kernel) (by decide +kernel)
theorem ml_X6_65 : Cond.methodLink RX6 65 yX1_turnHold ∈ cp_TG := cp_TG_in (i := 355) (by decide +kernel) (by decide +kernel)
theorem ml_X1_60 : Cond.methodLink RX1 60 yX1_hasPiece ∈ cp_TG := cp_TG_in (i := 359) (by decide +kernel) (by decide +kernel)
theorem ml_X1_89 : (RX1, 89, yX6_oneIf) ∈ cp_nM := by decide +kernel
theorem ml_L_32 : Cond.methodLink RL 32 yX6_kill ∈ cp_TG := cp_TG_in (i := 366) (by decide +kernel) (by decide +kernel)
theorem ml_X6_68 : Cond.methodLink RX6 68 yX1_killPiece ∈ cp_TG := cp_TG_in (i := 370) (by decide +kernel) (by decide +kernel)
theorem ml_X1_93 : Cond.methodLink RX1 93 yX1_isOnLatestMade ∈ cp_TG := cp_TG_in (i := 374) (by decide +kernel) (by decide +kernel)
theorem ml_X1_175 : Cond.methodLink RX1 175 yX1_madePlates ∈ cp_TG := cp_TG_in (i := 378) (by decide +kernel) (by decide +kernel)
theorem ml_X1_178 : Cond.methodLink RX1 178 yX1_isMade ∈ cp_TG := cp_TG_in (i := 382) (by decide +kernel) (by decide +kernel)
theorem ml_X1_118 : (RX1, 118, yX6_isInSet) ∈ cp_nM := by decide +kernel
theorem ml_X1_96 : Cond.methodLink RX1 96 yX1_tellReplate ∈ cp_TG := cp_TG_in (i := 389) (by decide +kernel) (by decide +kernel)
theorem ml_X1_181 : Cond.methodLink RX1 181 yX1_nextDue ∈ cp_TG := cp_TG_in (i := 393) (by decide +kernel) (by decide +kernel)
theorem ml_L_36 : Cond.methodLink RL 36 yX6_pass ∈ cp_TG := cp_TG_in (i := 397) (by decide +kernel) (by decide +kernel)
theorem ml_X6_71 : Cond.methodLink RX6 71 yX1_passMinutes ∈ cp_TG := cp_TG_in (i := 401) (by decide +kernel) (by decide +kernel)
theorem ml_X1_100 : Cond.methodLink RX1 100 yX1_passMinute ∈ cp_TG := cp_TG_in (i := 405) (by decide +kernel) (by decide +kernel)
theorem ml_X1_103 : Cond.methodLink RX1 103 yX1_editAtDesks ∈ cp_TG := cp_TG_in (i := 409) (by decide +kernel) (by decide +kernel)
theorem ml_X1_122 : Cond.methodLink RX1 122 yX4_editFor ∈ cp_TG := cp_TG_in (i := 413) (by decide +kernel) (by decide +kernel)
theorem ml_X4_49 : Cond.methodLink RX4 49 yX4_becomeReady ∈ cp_TG := cp_TG_in (i := 418) (by decide +kernel) (by decide +kernel)
theorem ml_X1_106 : Cond.methodLink RX1 106 yX1_readAtLawyer ∈ cp_TG := cp_TG_in (i := 422) (by decide +kernel) (by decide +kernel)
theorem ml_X1_126 : Cond.methodLink RX1 126 yX1_firstAtLawyer ∈ cp_TG := cp_TG_in (i := 426) (by decide +kernel) (by decide +kernel)
theorem ml_X1_129 : Cond.methodLink RX1 129 yX4_readOneMinute ∈ cp_TG := cp_TG_in (i := 430) (by decide +kernel) (by decide +kernel)
theorem ml_X1_109 : Cond.methodLink RX1 109 yX1_takenNow ∈ cp_TG := cp_TG_in (i := 434) (by decide +kernel) (by decide +kernel)
theorem ml_X1_147 : Cond.methodLink RX1 147 yX1_piecesForPlate ∈ cp_TG := cp_TG_in (i := 438) (by decide +kernel) (by decide +kernel)
theorem ml_X1_141 : Cond.methodLink RX1 141 yX4_isForPlate ∈ cp_TG := cp_TG_in (i := 442) (by decide +kernel) (by decide +kernel)
theorem ml_X1_150 : Cond.methodLink RX1 150 yX1_firstByRank ∈ cp_TG := cp_TG_in (i := 446) (by decide +kernel) (by decide +kernel)
theorem ml_X1_153 : Cond.methodLink RX1 153 yX1_goesAhead ∈ cp_TG := cp_TG_in (i := 450) (by decide +kernel) (by decide +kernel)
theorem ml_L_40 : Cond.methodLink RL 40 yX6_ofPiece ∈ cp_TG := cp_TG_in (i := 454) (by decide +kernel) (by decide +kernel)
theorem ml_X6_74 : Cond.methodLink RX6 74 yX1_factOfPiece ∈ cp_TG := cp_TG_in (i := 458) (by decide +kernel) (by decide +kernel)
theorem ml_X1_197 : Cond.methodLink RX1 197 yX1_placeInQueue ∈ cp_TG := cp_TG_in (i := 462) (by decide +kernel) (by decide +kernel)
theorem ml_X1_135 : Cond.methodLink RX1 135 yX1_placeAtDesk ∈ cp_TG := cp_TG_in (i := 466) (by decide +kernel) (by decide +kernel)
theorem ml_X1_138 : Cond.methodLink RX1 138 yX1_placeAtLawyer ∈ cp_TG := cp_TG_in (i := 470) (by decide +kernel) (by decide +kernel)
theorem ml_X1_200 : Cond.methodLink RX1 200 yX1_platesWith ∈ cp_TG := cp_TG_in (i := 474) (by decide +kernel) (by decide +kernel)
theorem ml_L_44 : Cond.methodLink RL 44 yX6_ofPlate ∈ cp_TG := cp_TG_in (i := 478) (by decide +kernel) (by decide +kernel)
theorem ml_X6_77 : Cond.methodLink RX6 77 yX1_factOfPlate ∈ cp_TG := cp_TG_in (i := 482) (by decide +kernel) (by decide +kernel)
theorem ml_X1_206 : Cond.methodLink RX1 206 yX1_linesOf ∈ cp_TG := cp_TG_in (i := 486) (by decide +kernel) (by decide +kernel)
theorem ml_L_48 : Cond.methodLink RL 48 yX6_count ∈ cp_TG := cp_TG_in (i := 490) (by decide +kernel) (by decide +kernel)
theorem ml_X6_87 : Cond.methodLink RX6 87 yX1_factOfNight ∈ cp_TG := cp_TG_in (i := 494) (by decide +kernel) (by decide +kernel)
theorem ml_X1_209 : Cond.methodLink RX1 209 yX1_piecesThatAre ∈ cp_TG := cp_TG_in (i := 498) (by decide +kernel) (by decide +kernel)
theorem ml_X1_212 : Cond.methodLink RX1 212 yX1_heldPieces ∈ cp_TG := cp_TG_in (i := 502) (by decide +kernel) (by decide +kernel)
theorem ml_X1_215 : Cond.methodLink RX1 215 yX1_replates ∈ cp_TG := cp_TG_in (i := 506) (by decide +kernel) (by decide +kernel)
theorem ml_L_52 : Cond.methodLink RL 52 yX6_why ∈ cp_TG := cp_TG_in (i := 510) (by decide +kernel) (by decide +kernel)
theorem ml_X6_90 : Cond.methodLink RX6 90 yX1_whyNotOnPlate ∈ cp_TG := cp_TG_in (i := 514) (by decide +kernel) (by decide +kernel)
theorem ml_X1_162 : Cond.methodLink RX1 162 yX1_reasonOf ∈ cp_TG := cp_TG_in (i := 518) (by decide +kernel) (by decide +kernel)
theorem ml_X1_165 : Cond.methodLink RX1 165 yX1_causeOf ∈ cp_TG := cp_TG_in (i := 522) (by decide +kernel) (by decide +kernel)
theorem ml_X1_168 : Cond.methodLink RX1 168 yX1_firstAtDesk ∈ cp_TG := cp_TG_in (i := 526) (by decide +kernel) (by decide +kernel)
theorem ml_X1_171 : Cond.methodLink RX1 171 yX1_lastTakenAheadOf ∈ cp_TG := cp_TG_in (i := 530) (by decide +kernel) (by decide +kernel)
theorem ml_L_56 : Cond.methodLink RL 56 yX6_plateNow ∈ cp_TG := cp_TG_in (i := 534) (by decide +kernel) (by decide +kernel)
theorem ml_X6_93 : Cond.methodLink RX6 93 yX1_takenNow ∈ cp_TG := cp_TG_in (i := 538) (by decide +kernel) (by decide +kernel)
theorem ml_L_61 : Cond.methodLink RL 61 yX6_readyIn ∈ cp_TG := cp_TG_in (i := 539) (by decide +kernel) (by decide +kernel)
theorem ml_X6_97 : Cond.methodLink RX6 97 yX1_hasPiece ∈ cp_TG := cp_TG_in (i := 543) (by decide +kernel) (by decide +kernel)
theorem ml_X6_101 : Cond.methodLink RX6 101 yX1_isPiece ∈ cp_TG := cp_TG_in (i := 544) (by decide +kernel) (by decide +kernel)
theorem ml_X6_105 : Cond.methodLink RX6 105 yX1_copyFrom ∈ cp_TG := cp_TG_in (i := 548) (by decide +kernel) (by decide +kernel)
theorem ml_X6_108 : Cond.methodLink RX6 108 yX1_passMinute ∈ cp_TG := cp_TG_in (i := 549) (by decide +kernel) (by decide +kernel)
theorem ml_L_65 : Cond.methodLink RL 65 yX6_leastRoom ∈ cp_TG := cp_TG_in (i := 550) (by decide +kernel) (by decide +kernel)
theorem ml_X6_112 : Cond.methodLink RX6 112 yX1_nextDue ∈ cp_TG := cp_TG_in (i := 554) (by decide +kernel) (by decide +kernel)
theorem ml_X6_115 : Cond.methodLink RX6 115 yX6_goAheadToPlate ∈ cp_TG := cp_TG_in (i := 555) (by decide +kernel) (by decide +kernel)
theorem ml_X6_137 : Cond.methodLink RX6 137 yX1_minutesToPlate ∈ cp_TG := cp_TG_in (i := 559) (by decide +kernel) (by decide +kernel)
theorem ml_X6_119 : Cond.methodLink RX6 119 yX1_piecesForPlate ∈ cp_TG := cp_TG_in (i := 563) (by decide +kernel) (by decide +kernel)
theorem ml_X6_122 : Cond.methodLink RX6 122 yX1_linesOf ∈ cp_TG := cp_TG_in (i := 564) (by decide +kernel) (by decide +kernel)
theorem ml_L_69 : Cond.methodLink RL 69 yX6_nextPlate ∈ cp_TG := cp_TG_in (i := 570) (by decide +kernel) (by decide +kernel)
theorem ml_L_75 : Cond.methodLink RL 75 yX6_put ∈ cp_TG := cp_TG_in (i := 574) (by decide +kernel) (by decide +kernel)
theorem ml_X6_140 : Cond.methodLink RX6 140 yX3_append ∈ cp_TG := cp_TG_in (i := 578) (by decide +kernel) (by decide +kernel)
theorem ml_X3_19 : Cond.methodLink RX3 19 yX3_charactersIn ∈ cp_TG := cp_TG_in (i := 582) (by decide +kernel) (by decide +kernel)
theorem ml_L_80 : Cond.methodLink RL 80 yX6_wipe ∈ cp_TG := cp_TG_in (i := 588) (by decide +kernel) (by decide +kernel)
theorem ml_X6_144 : Cond.methodLink RX6 144 yX3_empty ∈ cp_TG := cp_TG_in (i := 592) (by decide +kernel) (by decide +kernel)
theorem ml_L_84 : Cond.methodLink RL 84 yX6_fault ∈ cp_TG := cp_TG_in (i := 596) (by decide +kernel) (by decide +kernel)
theorem ml_X6_147 : Cond.methodLink RX6 147 yX2_findFault ∈ cp_TG := cp_TG_in (i := 600) (by decide +kernel) (by decide +kernel)
theorem ml_X2_19 : Cond.methodLink RX2 19 yX2_goToStart ∈ cp_TG := cp_TG_in (i := 604) (by decide +kernel) (by decide +kernel)
theorem ml_X2_22 : Cond.methodLink RX2 22 yX2_readOrder ∈ cp_TG := cp_TG_in (i := 608) (by decide +kernel) (by decide +kernel)
theorem ml_X2_35 : Cond.methodLink RX2 35 yX3_characterAt ∈ cp_TG := cp_TG_in (i := 612) (by decide +kernel) (by decide +kernel)
theorem ml_X2_43 : Cond.methodLink RX2 43 yX2_readPiece ∈ cp_TG := cp_TG_in (i := 616) (by decide +kernel) (by decide +kernel)
theorem ml_X2_49 : Cond.methodLink RX2 49 yX2_digitHere ∈ cp_TG := cp_TG_in (i := 620) (by decide +kernel) (by decide +kernel)
theorem ml_X2_31 : Cond.methodLink RX2 31 yX2_readSign ∈ cp_TG := cp_TG_in (i := 624) (by decide +kernel) (by decide +kernel)
theorem ml_X2_46 : Cond.methodLink RX2 46 yX2_readNumber ∈ cp_TG := cp_TG_in (i := 628) (by decide +kernel) (by decide +kernel)
theorem ml_X2_59 : (RX2, 59, yX6_oneIf) ∈ cp_nM := by decide +kernel
theorem ml_L_88 : Cond.methodLink RL 88 yX6_carryOut ∈ cp_TG := cp_TG_in (i := 633) (by decide +kernel) (by decide +kernel)
theorem ml_X6_150 : Cond.methodLink RX6 150 yX2_goToStart ∈ cp_TG := cp_TG_in (i := 637) (by decide +kernel) (by decide +kernel)
theorem ml_X6_153 : Cond.methodLink RX6 153 yX2_readOrder ∈ cp_TG := cp_TG_in (i := 638) (by decide +kernel) (by decide +kernel)
theorem ml_X6_156 : Cond.methodLink RX6 156 yX6_carryOrderOut ∈ cp_TG := cp_TG_in (i := 639) (by decide +kernel) (by decide +kernel)
theorem ml_X6_159 : Cond.methodLink RX6 159 yX2_readSign ∈ cp_TG := cp_TG_in (i := 643) (by decide +kernel) (by decide +kernel)
theorem ml_L_92 : Cond.methodLink RL 92 yX6_undo ∈ cp_TG := cp_TG_in (i := 644) (by decide +kernel) (by decide +kernel)
theorem ml_X6_179 : Cond.methodLink RX6 179 yX0_takeBack ∈ cp_TG := cp_TG_in (i := 648) (by decide +kernel) (by decide +kernel)
theorem ml_L_96 : Cond.methodLink RL 96 yX6_save ∈ cp_TG := cp_TG_in (i := 652) (by decide +kernel) (by decide +kernel)
theorem ml_L_100 : Cond.methodLink RL 100 yX6_restore ∈ cp_TG := cp_TG_in (i := 656) (by decide +kernel) (by decide +kernel)
theorem ml_L_12 : Cond.methodLink RL 12 yX7_init ∈ cp_TG := cp_TG_in (i := 662) (by decide +kernel) (by decide +kernel)
theorem ml_L_17 : Cond.methodLink RL 17 yX7_set ∈ cp_TG := cp_TG_in (i := 712) (by decide +kernel) (by decide +kernel)
theorem ml_X7_136 : Cond.methodLink RX7 136 yX7_isSetting ∈ cp_TG := cp_TG_in (i := 716) (by decide +kernel) (by decide +kernel)
theorem ml_X7_35 : Cond.methodLink RX7 35 yX7_in ∈ cp_TG := cp_TG_in (i := 720) (by decide +kernel) (by decide +kernel)
theorem ml_X7_139 : Cond.methodLink RX7 139 yX7_copy ∈ cp_TG := cp_TG_in (i := 726) (by decide +kernel) (by decide +kernel)
theorem ml_X7_143 : Cond.methodLink RX7 143 yX7_ends ∈ cp_TG := cp_TG_in (i := 729) (by decide +kernel) (by decide +kernel)
theorem ml_L_22 : Cond.methodLink RL 22 yX7_piece ∈ cp_TG := cp_TG_in (i := 733) (by decide +kernel) (by decide +kernel)
theorem ml_X7_146 : Cond.methodLink RX7 146 yX7_doPiece ∈ cp_TG := cp_TG_in (i := 737) (by decide +kernel) (by decide +kernel)
theorem ml_X7_53 : Cond.methodLink RX7 53 yX7_sets ∈ cp_TG := cp_TG_in (i := 744) (by decide +kernel) (by decide +kernel)
theorem ml_X7_61 : Cond.methodLink RX7 61 yX7_comesTo ∈ cp_TG := cp_TG_in (i := 748) (by decide +kernel) (by decide +kernel)
theorem ml_L_27 : Cond.methodLink RL 27 yX7_plate ∈ cp_TG := cp_TG_in (i := 752) (by decide +kernel) (by decide +kernel)
theorem ml_X7_150 : Cond.methodLink RX7 150 yX7_doPlate ∈ cp_TG := cp_TG_in (i := 756) (by decide +kernel) (by decide +kernel)
theorem ml_X7_97 : Cond.methodLink RX7 97 yX7_due ∈ cp_TG := cp_TG_in (i := 761) (by decide +kernel) (by decide +kernel)
theorem ml_X7_85 : Cond.methodLink RX7 85 yX7_plateAt ∈ cp_TG := cp_TG_in (i := 765) (by decide +kernel) (by decide +kernel)
theorem ml_X7_111 : Cond.methodLink RX7 111 yX7_tells ∈ cp_TG := cp_TG_in (i := 769) (by decide +kernel) (by decide +kernel)
theorem ml_L_31 : Cond.methodLink RL 31 yX7_hold ∈ cp_TG := cp_TG_in (i := 773) (by decide +kernel) (by decide +kernel)
theorem ml_X7_153 : Cond.methodLink RX7 153 yX7_doHold ∈ cp_TG := cp_TG_in (i := 777) (by decide +kernel) (by decide +kernel)
theorem ml_X7_114 : Cond.methodLink RX7 114 yX7_isPiece ∈ cp_TG := cp_TG_in (i := 781) (by decide +kernel) (by decide +kernel)
theorem ml_X7_39 : Cond.methodLink RX7 39 yX7_of ∈ cp_TG := cp_TG_in (i := 785) (by decide +kernel) (by decide +kernel)
theorem ml_L_35 : Cond.methodLink RL 35 yX7_kill ∈ cp_TG := cp_TG_in (i := 789) (by decide +kernel) (by decide +kernel)
theorem ml_X7_156 : Cond.methodLink RX7 156 yX7_doKill ∈ cp_TG := cp_TG_in (i := 793) (by decide +kernel) (by decide +kernel)
theorem ml_X7_57 : Cond.methodLink RX7 57 yX7_leaves ∈ cp_TG := cp_TG_in (i := 797) (by decide +kernel) (by decide +kernel)
theorem ml_X7_43 : Cond.methodLink RX7 43 yX7_queueOf ∈ cp_TG := cp_TG_in (i := 801) (by decide +kernel) (by decide +kernel)
theorem ml_X7_50 : Cond.methodLink RX7 50 yX7_placeOf ∈ cp_TG := cp_TG_in (i := 805) (by decide +kernel) (by decide +kernel)
theorem ml_X7_47 : Cond.methodLink RX7 47 yX7_inQueue ∈ cp_TG := cp_TG_in (i := 809) (by decide +kernel) (by decide +kernel)
theorem ml_X7_117 : Cond.methodLink RX7 117 yX7_isOnLatest ∈ cp_TG := cp_TG_in (i := 813) (by decide +kernel) (by decide +kernel)
theorem ml_X7_120 : Cond.methodLink RX7 120 yX7_isDueSoon ∈ cp_TG := cp_TG_in (i := 817) (by decide +kernel) (by decide +kernel)
theorem ml_L_39 : Cond.methodLink RL 39 yX7_pass ∈ cp_TG := cp_TG_in (i := 821) (by decide +kernel) (by decide +kernel)
theorem ml_X7_159 : Cond.methodLink RX7 159 yX7_doPass ∈ cp_TG := cp_TG_in (i := 825) (by decide +kernel) (by decide +kernel)
theorem ml_X7_124 : Cond.methodLink RX7 124 yX7_passes ∈ cp_TG := cp_TG_in (i := 829) (by decide +kernel) (by decide +kernel)
theorem ml_X7_94 : Cond.methodLink RX7 94 yX7_works ∈ cp_TG := cp_TG_in (i := 833) (by decide +kernel) (by decide +kernel)
theorem ml_X7_88 : Cond.methodLink RX7 88 yX7_edits ∈ cp_TG := cp_TG_in (i := 837) (by decide +kernel) (by decide +kernel)
theorem ml_X7_65 : Cond.methodLink RX7 65 yX7_becomesReady ∈ cp_TG := cp_TG_in (i := 841) (by decide +kernel) (by decide +kernel)
theorem ml_X7_91 : Cond.methodLink RX7 91 yX7_reads ∈ cp_TG := cp_TG_in (i := 845) (by decide +kernel) (by decide +kernel)
theorem ml_X7_100 : Cond.methodLink RX7 100 yX7_takes ∈ cp_TG := cp_TG_in (i := 849) (by decide +kernel) (by decide +kernel)
theorem ml_X7_82 : Cond.methodLink RX7 82 yX7_ranked ∈ cp_TG := cp_TG_in (i := 853) (by decide +kernel) (by decide +kernel)
theorem ml_X7_68 : Cond.methodLink RX7 68 yX7_isFree ∈ cp_TG := cp_TG_in (i := 857) (by decide +kernel) (by decide +kernel)
theorem ml_X7_72 : Cond.methodLink RX7 72 yX7_isAhead ∈ cp_TG := cp_TG_in (i := 861) (by decide +kernel) (by decide +kernel)
theorem ml_L_43 : Cond.methodLink RL 43 yX7_ofPiece ∈ cp_TG := cp_TG_in (i := 865) (by decide +kernel) (by decide +kernel)
theorem ml_X7_164 : Cond.methodLink RX7 164 yX7_platesWith ∈ cp_TG := cp_TG_in (i := 870) (by decide +kernel) (by decide +kernel)
theorem ml_L_47 : Cond.methodLink RL 47 yX7_ofPlate ∈ cp_TG := cp_TG_in (i := 874) (by decide +kernel) (by decide +kernel)
theorem ml_X7_169 : Cond.methodLink RX7 169 yX7_linesOf ∈ cp_TG := cp_TG_in (i := 879) (by decide +kernel) (by decide +kernel)
theorem ml_L_51 : Cond.methodLink RL 51 yX7_count ∈ cp_TG := cp_TG_in (i := 883) (by decide +kernel) (by decide +kernel)
theorem ml_X7_172 : Cond.methodLink RX7 172 yX7_manyThat ∈ cp_TG := cp_TG_in (i := 887) (by decide +kernel) (by decide +kernel)
theorem ml_X7_177 : Cond.methodLink RX7 177 yX7_manyHeld ∈ cp_TG := cp_TG_in (i := 892) (by decide +kernel) (by decide +kernel)
theorem ml_X7_180 : Cond.methodLink RX7 180 yX7_replates ∈ cp_TG := cp_TG_in (i := 896) (by decide +kernel) (by decide +kernel)
theorem ml_L_55 : Cond.methodLink RL 55 yX7_why ∈ cp_TG := cp_TG_in (i := 900) (by decide +kernel) (by decide +kernel)
theorem ml_X7_186 : Cond.methodLink RX7 186 yX7_reason ∈ cp_TG := cp_TG_in (i := 904) (by decide +kernel) (by decide +kernel)
theorem ml_X7_189 : Cond.methodLink RX7 189 yX7_lastAhead ∈ cp_TG := cp_TG_in (i := 908) (by decide +kernel) (by decide +kernel)
theorem ml_L_60 : Cond.methodLink RL 60 yX7_plateNow ∈ cp_TG := cp_TG_in (i := 912) (by decide +kernel) (by decide +kernel)
theorem ml_L_64 : Cond.methodLink RL 64 yX7_readyIn ∈ cp_TG := cp_TG_in (i := 916) (by decide +kernel) (by decide +kernel)
theorem ml_L_68 : Cond.methodLink RL 68 yX7_leastRoom ∈ cp_TG := cp_TG_in (i := 920) (by decide +kernel) (by decide +kernel)
theorem ml_X7_192 : Cond.methodLink RX7 192 yX7_comesToNext ∈ cp_TG := cp_TG_in (i := 924) (by decide +kernel) (by decide +kernel)
theorem ml_L_72 : Cond.methodLink RL 72 yX7_nextPlate ∈ cp_TG := cp_TG_in (i := 928) (by decide +kernel) (by decide +kernel)
theorem ml_L_79 : Cond.methodLink RL 79 yX7_put ∈ cp_TG := cp_TG_in (i := 932) (by decide +kernel) (by decide +kernel)
theorem ml_L_83 : Cond.methodLink RL 83 yX7_wipe ∈ cp_TG := cp_TG_in (i := 939) (by decide +kernel) (by decide +kernel)
theorem ml_L_87 : Cond.methodLink RL 87 yX7_fault ∈ cp_TG := cp_TG_in (i := 943) (by decide +kernel) (by decide +kernel)
theorem ml_X7_229 : Cond.methodLink RX7 229 yX7_readsOrder ∈ cp_TG := cp_TG_in (i := 947) (by decide +kernel) (by decide +kernel)
theorem ml_X7_213 : Cond.methodLink RX7 213 yX7_takesOne ∈ cp_TG := cp_TG_in (i := 951) (by decide +kernel) (by decide +kernel)
theorem ml_X7_204 : Cond.methodLink RX7 204 yX7_isHere ∈ cp_TG := cp_TG_in (i := 955) (by decide +kernel) (by decide +kernel)
theorem ml_X7_226 : Cond.methodLink RX7 226 yX7_readsPiece ∈ cp_TG := cp_TG_in (i := 959) (by decide +kernel) (by decide +kernel)
theorem ml_X7_210 : Cond.methodLink RX7 210 yX7_readsDigit ∈ cp_TG := cp_TG_in (i := 963) (by decide +kernel) (by decide +kernel)
theorem ml_X7_216 : Cond.methodLink RX7 216 yX7_readsNumber ∈ cp_TG := cp_TG_in (i := 967) (by decide +kernel) (by decide +kernel)
theorem ml_L_91 : Cond.methodLink RL 91 yX7_carryOut ∈ cp_TG := cp_TG_in (i := 971) (by decide +kernel) (by decide +kernel)
theorem ml_X7_232 : Cond.methodLink RX7 232 yX7_fault ∈ cp_TG := cp_TG_in (i := 975) (by decide +kernel) (by decide +kernel)
theorem ml_L_95 : Cond.methodLink RL 95 yX7_undo ∈ cp_TG := cp_TG_in (i := 976) (by decide +kernel) (by decide +kernel)
theorem ml_L_99 : Cond.methodLink RL 99 yX7_save ∈ cp_TG := cp_TG_in (i := 980) (by decide +kernel) (by decide +kernel)
theorem ml_L_103 : Cond.methodLink RL 103 yX7_restore ∈ cp_TG := cp_TG_in (i := 984) (by decide +kernel) (by decide +kernel)
theorem cl_X3_23 : Cond.constantLong RX3 23 (255 : Int64) ∈ cp_TG := cp_TG_in (i := 585) (by decide +kernel) (by decide +kernel)
theorem cl_X3_25 : Cond.constantLong RX3 25 (33 : Int64) ∈ cp_TG := cp_TG_in (i := 586) (by decide +kernel) (by decide +kernel)
theorem cl_X3_27 : Cond.constantLong RX3 27 (126 : Int64) ∈ cp_TG := cp_TG_in (i := 587) (by decide +kernel) (by decide +kernel)
theorem cl_X7_128 : Cond.constantLong RX7 128 (20 : Int64) ∈ cp_TG := cp_TG_in (i := 719) (by decide +kernel) (by decide +kernel)
theorem cl_X7_130 : Cond.constantLong RX7 130 (60 : Int64) ∈ cp_TG := cp_TG_in (i := 723) (by decide +kernel) (by decide +kernel)
theorem cl_X7_132 : Cond.constantLong RX7 132 (10 : Int64) ∈ cp_TG := cp_TG_in (i := 724) (by decide +kernel) (by decide +kernel)
theorem cl_X7_134 : Cond.constantLong RX7 134 (400 : Int64) ∈ cp_TG := cp_TG_in (i := 725) (by decide +kernel) (by decide +kernel)
theorem cl_X7_103 : Cond.constantLong RX7 103 (4 : Int64) ∈ cp_TG := cp_TG_in (i := 741) (by decide +kernel) (by decide +kernel)
theorem cl_X7_105 : Cond.constantLong RX7 105 (99 : Int64) ∈ cp_TG := cp_TG_in (i := 742) (by decide +kernel) (by decide +kernel)
theorem cl_X7_107 : Cond.constantLong RX7 107 (9 : Int64) ∈ cp_TG := cp_TG_in (i := 743) (by decide +kernel) (by decide +kernel)
theorem cl_X7_109 : Cond.constantLong RX7 109 (599 : Int64) ∈ cp_TG := cp_TG_in (i := 760) (by decide +kernel) (by decide +kernel)
theorem cl_X7_162 : Cond.constantLong RX7 162 (7 : Int64) ∈ cp_TG := cp_TG_in (i := 869) (by decide +kernel) (by decide +kernel)
theorem cl_X7_167 : Cond.constantLong RX7 167 (3 : Int64) ∈ cp_TG := cp_TG_in (i := 878) (by decide +kernel) (by decide +kernel)
theorem cl_X7_175 : Cond.constantLong RX7 175 (13 : Int64) ∈ cp_TG := cp_TG_in (i := 891) (by decide +kernel) (by decide +kernel)
theorem cl_X7_195 : Cond.constantLong RX7 195 (255 : Int64) ∈ cp_TG := cp_TG_in (i := 936) (by decide +kernel) (by decide +kernel)
theorem cl_X7_197 : Cond.constantLong RX7 197 (33 : Int64) ∈ cp_TG := cp_TG_in (i := 937) (by decide +kernel) (by decide +kernel)
theorem cl_X7_199 : Cond.constantLong RX7 199 (126 : Int64) ∈ cp_TG := cp_TG_in (i := 938) (by decide +kernel) (by decide +kernel)
theorem cl_L_73 : Cond.constantLong RL 73 (4294967295 : Int64) ∈ cp_TG := cp_TG_in (i := 988) (by decide +kernel) (by decide +kernel)
section CPF
variable {x : cp_Cx} {E : cp_En} {bc : ByteArray} {nL d mc ms cells slots cnt : Nat} {sh : cp_Shp} {I : cp_Mem} {R : cp_Rem} {pc : Nat} {L : List (Option Value)} {st : List Value}
theorem fs_X1_9 (O : cp_Ok x E RX1 bc nL d mc ms) (hd : decode bc pc = .ok (.getstatic 9, 3)) (k : cp_G x E nL cells slots cnt sh I R (pc + 3) L (.ref (cp_ts E 0) :: st)) : cp_G x E nL cells slots cnt sh I R pc L st := cp_getsN O (by decide) (by decide +kernel) hd k
theorem fl_X4_9 : cp_lk RX4 9 TX4 0 := cp_TG_in (i := 111) (by decide +kernel) (by decide +kernel)
theorem fg_X4_9 (O : cp_Ok x E RX4 bc nL d mc ms) {a : Nat} (hs : sh a = (5, 0)) (hd : decode bc pc = .ok (.getfield 9, 3)) (k : cp_G x E nL cells slots cnt sh I R (pc + 3) L (.int (I a 0) :: st)) : cp_G x E nL cells slots cnt sh I R pc L (.ref a :: st) := cp_get O cp_cX4 (j := 0) (by decide) fl_X4_9 hs hd k
theorem fp_X4_9 (O : cp_Ok x E RX4 bc nL d mc ms) {a : Nat} {v : Int32} (hs : sh a = (5, 0)) (hd : decode bc pc = .ok (.putfield 9, 3)) (k : cp_G x E nL cells slots cnt sh (cp_wi I a 0 v) R (pc + 3) L st) : cp_G x E nL cells slots cnt sh I R pc L (.int v :: .ref a :: st) := cp_put O cp_cX4 (j := 0) (by decide) fl_X4_9 rfl (ty := .int) (by decide +kernel) ⟨rfl, rfl⟩ rfl hs hd k
theorem fl_X1_115 : cp_lk RX1 115 TX4 0 := cp_TG_in (i := 112) (by decide +kernel) (by decide +kernel)
theorem fg_X1_115 (O : cp_Ok x E RX1 bc nL d mc ms) {a : Nat} (hs : sh a = (5, 0)) (hd : decode bc pc = .ok (.getfield 115, 3)) (k : cp_G x E nL cells slots cnt sh I R (pc + 3) L (.int (I a 0) :: st)) : cp_G x E nL cells slots cnt sh I R pc L (.ref a :: st) := cp_get O cp_cX4 (j := 0) (by decide) fl_X1_115 hs hd k
theorem fp_X1_115 (O : cp_Ok x E RX1 bc nL d mc ms) {a : Nat} {v : Int32} (hs : sh a = (5, 0)) (hd : decode bc pc = .ok (.putfield 115, 3)) (k : cp_G x E nL cells slots cnt sh (cp_wi I a 0 v) R (pc + 3) L st) : cp_G x E nL cells slots cnt sh I R pc L (.int v :: .ref a :: st) := cp_put O cp_cX4 (j := 0) (by decide) fl_X1_115 rfl (ty := .int) (by decide +kernel) ⟨rfl, rfl⟩ rfl hs hd k
theorem fl_X4_15 : cp_lk RX4 15 TX4 1 := cp_TG_in (i := 113) (by decide +kernel) (by decide +kernel)
theorem fg_X4_15 (O : cp_Ok x E RX4 bc nL d mc ms) {a : Nat} (hs : sh a = (5, 0)) (hd : decode bc pc = .ok (.getfield 15, 3)) (k : cp_G x E nL cells slots cnt sh I R (pc + 3) L (.int (I a 1) :: st)) : cp_G x E nL cells slots cnt sh I R pc L (.ref a :: st) := cp_get O cp_cX4 (j := 1) (by decide) fl_X4_15 hs hd k
theorem fp_X4_15 (O : cp_Ok x E RX4 bc nL d mc ms) {a : Nat} {v : Int32} (hs : sh a = (5, 0)) (hd : decode bc pc = .ok (.putfield 15, 3)) (k : cp_G x E nL cells slots cnt sh (cp_wi I a 1 v) R (pc + 3) L st) : cp_G x E nL cells slots cnt sh I R pc L (.int v :: .ref a :: st) := cp_put O cp_cX4 (j := 1) (by decide) fl_X4_15 rfl (ty := .int) (by decide +kernel) ⟨rfl, rfl⟩ rfl hs hd k
theorem fl_X1_144 : cp_lk RX1 144 TX4 1 := cp_TG_in (i := 114) (by decide +kernel) (by decide +kernel)
theorem fg_X1_144 (O : cp_Ok x E RX1 bc nL d mc ms) {a : Nat} (hs : sh a = (5, 0)) (hd : decode bc pc = .ok (.getfield 144, 3)) (k : cp_G x E nL cells slots cnt sh I R (pc + 3) L (.int (I a 1) :: st)) : cp_G x E nL cells slots cnt sh I R pc L (.ref a :: st) := cp_get O cp_cX4 (j := 1) (by decide) fl_X1_144 hs hd k
theorem fp_X1_144 (O : cp_Ok x E RX1 bc nL d mc ms) {a : Nat} {v : Int32} (hs : sh a = (5, 0)) (hd : decode bc pc = .ok (.putfield 144, 3)) (k : cp_G x E nL cells slots cnt sh (cp_wi I a 1 v) R (pc + 3) L st) : cp_G x E nL cells slots cnt sh I R pc L (.int v :: .ref a :: st) := cp_put O cp_cX4 (j := 1) (by decide) fl_X1_144 rfl (ty := .int) (by decide +kernel) ⟨rfl, rfl⟩ rfl hs hd k
theorem fl_X4_18 : cp_lk RX4 18 TX4 2 := cp_TG_in (i := 115) (by decide +kernel) (by decide +kernel)
theorem fg_X4_18 (O : cp_Ok x E RX4 bc nL d mc ms) {a : Nat} (hs : sh a = (5, 0)) (hd : decode bc pc = .ok (.getfield 18, 3)) (k : cp_G x E nL cells slots cnt sh I R (pc + 3) L (.int (I a 2) :: st)) : cp_G x E nL cells slots cnt sh I R pc L (.ref a :: st) := cp_get O cp_cX4 (j := 2) (by decide) fl_X4_18 hs hd k
theorem fp_X4_18 (O : cp_Ok x E RX4 bc nL d mc ms) {a : Nat} {v : Int32} (hs : sh a = (5, 0)) (hd : decode bc pc = .ok (.putfield 18, 3)) (k : cp_G x E nL cells slots cnt sh (cp_wi I a 2 v) R (pc + 3) L st) : cp_G x E nL cells slots cnt sh I R pc L (.int v :: .ref a :: st) := cp_put O cp_cX4 (j := 2) (by decide) fl_X4_18 rfl (ty := .int) (by decide +kernel) ⟨rfl, rfl⟩ rfl hs hd k
theorem fl_X1_156 : cp_lk RX1 156 TX4 2 := cp_TG_in (i := 116) (by decide +kernel) (by decide +kernel)
theorem fg_X1_156 (O : cp_Ok x E RX1 bc nL d mc ms) {a : Nat} (hs : sh a = (5, 0)) (hd : decode bc pc = .ok (.getfield 156, 3)) (k : cp_G x E nL cells slots cnt sh I R (pc + 3) L (.int (I a 2) :: st)) : cp_G x E nL cells slots cnt sh I R pc L (.ref a :: st) := cp_get O cp_cX4 (j := 2) (by decide) fl_X1_156 hs hd k
theorem fp_X1_156 (O : cp_Ok x E RX1 bc nL d mc ms) {a : Nat} {v : Int32} (hs : sh a = (5, 0)) (hd : decode bc pc = .ok (.putfield 156, 3)) (k : cp_G x E nL cells slots cnt sh (cp_wi I a 2 v) R (pc + 3) L st) : cp_G x E nL cells slots cnt sh I R pc L (.int v :: .ref a :: st) := cp_put O cp_cX4 (j := 2) (by decide) fl_X1_156 rfl (ty := .int) (by decide +kernel) ⟨rfl, rfl⟩ rfl hs hd k
theorem fl_X4_21 : cp_lk RX4 21 TX4 3 := cp_TG_in (i := 117) (by decide +kernel) (by decide +kernel)
theorem fg_X4_21 (O : cp_Ok x E RX4 bc nL d mc ms) {a : Nat} (hs : sh a = (5, 0)) (hd : decode bc pc = .ok (.getfield 21, 3)) (k : cp_G x E nL cells slots cnt sh I R (pc + 3) L (.int (I a 3) :: st)) : cp_G x E nL cells slots cnt sh I R pc L (.ref a :: st) := cp_get O cp_cX4 (j := 3) (by decide) fl_X4_21 hs hd k
theorem fp_X4_21 (O : cp_Ok x E RX4 bc nL d mc ms) {a : Nat} {v : Int32} (hs : sh a = (5, 0)) (hv : v = 0 ∨ v = 1) (hd : decode bc pc = .ok (.putfield 21, 3)) (k : cp_G x E nL cells slots cnt sh (cp_wi I a 3 v) R (pc + 3) L st) : cp_G x E nL cells slots cnt sh I R pc L (.int v :: .ref a :: st) := cp_put O cp_cX4 (j := 3) (by decide) fl_X4_21 rfl (ty := .boolean) (by decide +kernel) (cp_narb hv) rfl hs hd k
theorem fl_X1_188 : cp_lk RX1 188 TX4 3 := cp_TG_in (i := 118) (by decide +kernel) (by decide +kernel)
theorem fg_X1_188 (O : cp_Ok x E RX1 bc nL d mc ms) {a : Nat} (hs : sh a = (5, 0)) (hd : decode bc pc = .ok (.getfield 188, 3)) (k : cp_G x E nL cells slots cnt sh I R (pc + 3) L (.int (I a 3) :: st)) : cp_G x E nL cells slots cnt sh I R pc L (.ref a :: st) := cp_get O cp_cX4 (j := 3) (by decide) fl_X1_188 hs hd k
theorem fp_X1_188 (O : cp_Ok x E RX1 bc nL d mc ms) {a : Nat} {v : Int32} (hs : sh a = (5, 0)) (hv : v = 0 ∨ v = 1) (hd : decode bc pc = .ok (.putfield 188, 3)) (k : cp_G x E nL cells slots cnt sh (cp_wi I a 3 v) R (pc + 3) L st) : cp_G x E nL cells slots cnt sh I R pc L (.int v :: .ref a :: st) := cp_put O cp_cX4 (j := 3) (by decide) fl_X1_188 rfl (ty := .boolean) (by decide +kernel) (cp_narb hv) rfl hs hd k
theorem fl_X4_25 : cp_lk RX4 25 TX4 4 := cp_TG_in (i := 119) (by decide +kernel) (by decide +kernel)
theorem fg_X4_25 (O : cp_Ok x E RX4 bc nL d mc ms) {a : Nat} (hs : sh a = (5, 0)) (hd : decode bc pc = .ok (.getfield 25, 3)) (k : cp_G x E nL cells slots cnt sh I R (pc + 3) L (.int (I a 4) :: st)) : cp_G x E nL cells slots cnt sh I R pc L (.ref a :: st) := cp_get O cp_cX4 (j := 4) (by decide) fl_X4_25 hs hd k
theorem fp_X4_25 (O : cp_Ok x E RX4 bc nL d mc ms) {a : Nat} {v : Int32} (hs : sh a = (5, 0)) (hd : decode bc pc = .ok (.putfield 25, 3)) (k : cp_G x E nL cells slots cnt sh (cp_wi I a 4 v) R (pc + 3) L st) : cp_G x E nL cells slots cnt sh I R pc L (.int v :: .ref a :: st) := cp_put O cp_cX4 (j := 4) (by decide) fl_X4_25 rfl (ty := .int) (by decide +kernel) ⟨rfl, rfl⟩ rfl hs hd k
theorem fl_X1_64 : cp_lk RX1 64 TX4 4 := cp_TG_in (i := 120) (by decide +kernel) (by decide +kernel)
theorem fg_X1_64 (O : cp_Ok x E RX1 bc nL d mc ms) {a : Nat} (hs : sh a = (5, 0)) (hd : decode bc pc = .ok (.getfield 64, 3)) (k : cp_G x E nL cells slots cnt sh I R (pc + 3) L (.int (I a 4) :: st)) : cp_G x E nL cells slots cnt sh I R pc L (.ref a :: st) := cp_get O cp_cX4 (j := 4) (by decide) fl_X1_64 hs hd k
theorem fp_X1_64 (O : cp_Ok x E RX1 bc nL d mc ms) {a : Nat} {v : Int32} (hs : sh a = (5, 0)) (hd : decode bc pc = .ok (.putfield 64, 3)) (k : cp_G x E nL cells slots cnt sh (cp_wi I a 4 v) R (pc + 3) L st) : cp_G x E nL cells slots cnt sh I R pc L (.int v :: .ref a :: st) := cp_put O cp_cX4 (j := 4) (by decide) fl_X1_64 rfl (ty := .int) (by decide +kernel) ⟨rfl, rfl⟩ rfl hs hd k
theorem fl_X4_28 : cp_lk RX4 28 TX4 5 := cp_TG_in (i := 121) (by decide +kernel) (by decide +kernel)
theorem fg_X4_28 (O : cp_Ok x E RX4 bc nL d mc ms) {a : Nat} (hs : sh a = (5, 0)) (hd : decode bc pc = .ok (.getfield 28, 3)) (k : cp_G x E nL cells slots cnt sh I R (pc + 3) L (.int (I a 5) :: st)) : cp_G x E nL cells slots cnt sh I R pc L (.ref a :: st) := cp_get O cp_cX4 (j := 5) (by decide) fl_X4_28 hs hd k
theorem fp_X4_28 (O : cp_Ok x E RX4 bc nL d mc ms) {a : Nat} {v : Int32} (hs : sh a = (5, 0)) (hv : v = 0 ∨ v = 1) (hd : decode bc pc = .ok (.putfield 28, 3)) (k : cp_G x E nL cells slots cnt sh (cp_wi I a 5 v) R (pc + 3) L st) : cp_G x E nL cells slots cnt sh I R pc L (.int v :: .ref a :: st) := cp_put O cp_cX4 (j := 5) (by decide) fl_X4_28 rfl (ty := .boolean) (by decide +kernel) (cp_narb hv) rfl hs hd k
theorem fl_X1_85 : cp_lk RX1 85 TX4 5 := cp_TG_in (i := 122) (by decide +kernel) (by decide +kernel)
theorem fg_X1_85 (O : cp_Ok x E RX1 bc nL d mc ms) {a : Nat} (hs : sh a = (5, 0)) (hd : decode bc pc = .ok (.getfield 85, 3)) (k : cp_G x E nL cells slots cnt sh I R (pc + 3) L (.int (I a 5) :: st)) : cp_G x E nL cells slots cnt sh I R pc L (.ref a :: st) := cp_get O cp_cX4 (j := 5) (by decide) fl_X1_85 hs hd k
theorem fp_X1_85 (O : cp_Ok x E RX1 bc nL d mc ms) {a : Nat} {v : Int32} (hs : sh a = (5, 0)) (hv : v = 0 ∨ v = 1) (hd : decode bc pc = .ok (.putfield 85, 3)) (k : cp_G x E nL cells slots cnt sh (cp_wi I a 5 v) R (pc + 3) L st) : cp_G x E nL cells slots cnt sh I R pc L (.int v :: .ref a :: st) := cp_put O cp_cX4 (j := 5) (by decide) fl_X1_85 rfl (ty := .boolean) (by decide +kernel) (cp_narb hv) rfl hs hd k
theorem fl_X4_31 : cp_lk RX4 31 TX4 6 := cp_TG_in (i := 123) (by decide +kernel) (by decide +kernel)
theorem fg_X4_31 (O : cp_Ok x E RX4 bc nL d mc ms) {a : Nat} (hs : sh a = (5, 0)) (hd : decode bc pc = .ok (.getfield 31, 3)) (k : cp_G x E nL cells slots cnt sh I R (pc + 3) L (.int (I a 6) :: st)) : cp_G x E nL cells slots cnt sh I R pc L (.ref a :: st) := cp_get O cp_cX4 (j := 6) (by decide) fl_X4_31 hs hd k
theorem fp_X4_31 (O : cp_Ok x E RX4 bc nL d mc ms) {a : Nat} {v : Int32} (hs : sh a = (5, 0)) (hd : decode bc pc = .ok (.putfield 31, 3)) (k : cp_G x E nL cells slots cnt sh (cp_wi I a 6 v) R (pc + 3) L st) : cp_G x E nL cells slots cnt sh I R pc L (.int v :: .ref a :: st) := cp_put O cp_cX4 (j := 6) (by decide) fl_X4_31 rfl (ty := .int) (by decide +kernel) ⟨rfl, rfl⟩ rfl hs hd k
theorem fl_X1_191 : cp_lk RX1 191 TX4 6 := cp_TG_in (i := 124) (by decide +kernel) (by decide +kernel)
theorem fg_X1_191 (O : cp_Ok x E RX1 bc nL d mc ms) {a : Nat} (hs : sh a = (5, 0)) (hd : decode bc pc = .ok (.getfield 191, 3)) (k : cp_G x E nL cells slots cnt sh I R (pc + 3) L (.int (I a 6) :: st)) : cp_G x E nL cells slots cnt sh I R pc L (.ref a :: st) := cp_get O cp_cX4 (j := 6) (by decide) fl_X1_191 hs hd k
theorem fp_X1_191 (O : cp_Ok x E RX1 bc nL d mc ms) {a : Nat} {v : Int32} (hs : sh a = (5, 0)) (hd : decode bc pc = .ok (.putfield 191, 3)) (k : cp_G x E nL cells slots cnt sh (cp_wi I a 6 v) R (pc + 3) L st) : cp_G x E nL cells slots cnt sh I R pc L (.int v :: .ref a :: st) := cp_put O cp_cX4 (j := 6) (by decide) fl_X1_191 rfl (ty := .int) (by decide +kernel) ⟨rfl, rfl⟩ rfl hs hd k
theorem fl_X4_34 : cp_lk RX4 34 TX4 7 := cp_TG_in (i := 125) (by decide +kernel) (by decide +kernel)
theorem fg_X4_34 (O : cp_Ok x E RX4 bc nL d mc ms) {a : Nat} (hs : sh a = (5, 0)) (hd : decode bc pc = .ok (.getfield 34, 3)) (k : cp_G x E nL cells slots cnt sh I R (pc + 3) L (.int (I a 7) :: st)) : cp_G x E nL cells slots cnt sh I R pc L (.ref a :: st) := cp_get O cp_cX4 (j := 7) (by decide) fl_X4_34 hs hd k
theorem fp_X4_34 (O : cp_Ok x E RX4 bc nL d mc ms) {a : Nat} {v : Int32} (hs : sh a = (5, 0)) (hd : decode bc pc = .ok (.putfield 34, 3)) (k : cp_G x E nL cells slots cnt sh (cp_wi I a 7 v) R (pc + 3) L st) : cp_G x E nL cells slots cnt sh I R pc L (.int v :: .ref a :: st) := cp_put O cp_cX4 (j := 7) (by decide) fl_X4_34 rfl (ty := .int) (by decide +kernel) ⟨rfl, rfl⟩ rfl hs hd k
theorem fl_X1_194 : cp_lk RX1 194 TX4 7 := cp_TG_in (i := 126) (by decide +kernel) (by decide +kernel)
theorem fg_X1_194 (O : cp_Ok x E RX1 bc nL d mc ms) {a : Nat} (hs : sh a = (5, 0)) (hd : decode bc pc = .ok (.getfield 194, 3)) (k : cp_G x E nL cells slots cnt sh I R (pc + 3) L (.int (I a 7) :: st)) : cp_G x E nL cells slots cnt sh I R pc L (.ref a :: st) := cp_get O cp_cX4 (j := 7) (by decide) fl_X1_194 hs hd k
theorem fp_X1_194 (O : cp_Ok x E RX1 bc nL d mc ms) {a : Nat} {v : Int32} (hs : sh a = (5, 0)) (hd : decode bc pc = .ok (.putfield 194, 3)) (k : cp_G x E nL cells slots cnt sh (cp_wi I a 7 v) R (pc + 3) L st) : cp_G x E nL cells slots cnt sh I R pc L (.int v :: .ref a :: st) := cp_put O cp_cX4 (j := 7) (by decide) fl_X1_194 rfl (ty := .int) (by decide +kernel) ⟨rfl, rfl⟩ rfl hs hd k
theorem fl_X4_37 : cp_lk RX4 37 TX4 8 := cp_TG_in (i := 127) (by decide +kernel) (by decide +kernel)
theorem fg_X4_37 (O : cp_Ok x E RX4 bc nL d mc ms) {a : Nat} (hs : sh a = (5, 0)) (hd : decode bc pc = .ok (.getfield 37, 3)) (k : cp_G x E nL cells slots cnt sh I R (pc + 3) L (.int (I a 8) :: st)) : cp_G x E nL cells slots cnt sh I R pc L (.ref a :: st) := cp_get O cp_cX4 (j := 8) (by decide) fl_X4_37 hs hd k
theorem fp_X4_37 (O : cp_Ok x E RX4 bc nL d mc ms) {a : Nat} {v : Int32} (hs : sh a = (5, 0)) (hd : decode bc pc = .ok (.putfield 37, 3)) (k : cp_G x E nL cells slots cnt sh (cp_wi I a 8 v) R (pc + 3) L st) : cp_G x E nL cells slots cnt sh I R pc L (.int v :: .ref a :: st) := cp_put O cp_cX4 (j := 8) (by decide) fl_X4_37 rfl (ty := .int) (by decide +kernel) ⟨rfl, rfl⟩ rfl hs hd k
theorem fl_X1_159 : cp_lk RX1 159 TX4 8 := cp_TG_in (i := 128) (by decide +kernel) (by decide +kernel)
theorem fg_X1_159 (O : cp_Ok x E RX1 bc nL d mc ms) {a : Nat} (hs : sh a = (5, 0)) (hd : decode bc pc = .ok (.getfield 159, 3)) (k : cp_G x E nL cells slots cnt sh I R (pc + 3) L (.int (I a 8) :: st)) : cp_G x E nL cells slots cnt sh I R pc L (.ref a :: st) := cp_get O cp_cX4 (j := 8) (by decide) fl_X1_159 hs hd k
theorem fp_X1_159 (O : cp_Ok x E RX1 bc nL d mc ms) {a : Nat} {v : Int32} (hs : sh a = (5, 0)) (hd : decode bc pc = .ok (.putfield 159, 3)) (k : cp_G x E nL cells slots cnt sh (cp_wi I a 8 v) R (pc + 3) L st) : cp_G x E nL cells slots cnt sh I R pc L (.int v :: .ref a :: st) := cp_put O cp_cX4 (j := 8) (by decide) fl_X1_159 rfl (ty := .int) (by decide +kernel) ⟨rfl, rfl⟩ rfl hs hd k
theorem fl_X4_40 : cp_lk RX4 40 TX4 9 := cp_TG_in (i := 129) (by decide +kernel) (by decide +kernel)
theorem fg_X4_40 (O : cp_Ok x E RX4 bc nL d mc ms) {a : Nat} (hs : sh a = (5, 0)) (hd : decode bc pc = .ok (.getfield 40, 3)) (k : cp_G x E nL cells slots cnt sh I R (pc + 3) L (.int (I a 9) :: st)) : cp_G x E nL cells slots cnt sh I R pc L (.ref a :: st) := cp_get O cp_cX4 (j := 9) (by decide) fl_X4_40 hs hd k
theorem fp_X4_40 (O : cp_Ok x E RX4 bc nL d mc ms) {a : Nat} {v : Int32} (hs : sh a = (5, 0)) (hd : decode bc pc = .ok (.putfield 40, 3)) (k : cp_G x E nL cells slots cnt sh (cp_wi I a 9 v) R (pc + 3) L st) : cp_G x E nL cells slots cnt sh I R pc L (.int v :: .ref a :: st) := cp_put O cp_cX4 (j := 9) (by decide) fl_X4_40 rfl (ty := .int) (by decide +kernel) ⟨rfl, rfl⟩ rfl hs hd k
theorem fl_X1_132 : cp_lk RX1 132 TX4 9 := cp_TG_in (i := 130) (by decide +kernel) (by decide +kernel)
theorem fg_X1_132 (O : cp_Ok x E RX1 bc nL d mc ms) {a : Nat} (hs : sh a = (5, 0)) (hd : decode bc pc = .ok (.getfield 132, 3)) (k : cp_G x E nL cells slots cnt sh I R (pc + 3) L (.int (I a 9) :: st)) : cp_G x E nL cells slots cnt sh I R pc L (.ref a :: st) := cp_get O cp_cX4 (j := 9) (by decide) fl_X1_132 hs hd k
theorem fp_X1_132 (O : cp_Ok x E RX1 bc nL d mc ms) {a : Nat} {v : Int32} (hs : sh a = (5, 0)) (hd : decode bc pc = .ok (.putfield 132, 3)) (k : cp_G x E nL cells slots cnt sh (cp_wi I a 9 v) R (pc + 3) L st) : cp_G x E nL cells slots cnt sh I R pc L (.int v :: .ref a :: st) := cp_put O cp_cX4 (j := 9) (by decide) fl_X1_132 rfl (ty := .int) (by decide +kernel) ⟨rfl, rfl⟩ rfl hs hd k
theorem fl_X5_7 : cp_lk RX5 7 TX5 0 := cp_TG_in (i := 160) (by decide +kernel) (by decide +kernel)
theorem fg_X5_7 (O : cp_Ok x E RX5 bc nL d mc ms) {a : Nat} (hs : sh a = (6, 0)) (hd : decode bc pc = .ok (.getfield 7, 3)) (k : cp_G x E nL cells slots cnt sh I R (pc + 3) L (.int (I a 0) :: st)) : cp_G x E nL cells slots cnt sh I R pc L (.ref a :: st) := cp_get O cp_cX5 (j := 0) (by decide) fl_X5_7 hs hd k
theorem fp_X5_7 (O : cp_Ok x E RX5 bc nL d mc ms) {a : Nat} {v : Int32} (hs : sh a = (6, 0)) (hd : decode bc pc = .ok (.putfield 7, 3)) (k : cp_G x E nL cells slots cnt sh (cp_wi I a 0 v) R (pc + 3) L st) : cp_G x E nL cells slots cnt sh I R pc L (.int v :: .ref a :: st) := cp_put O cp_cX5 (j := 0) (by decide) fl_X5_7 rfl (ty := .int) (by decide +kernel) ⟨rfl, rfl⟩ rfl hs hd k
theorem fl_X1_174 : cp_lk RX1 174 TX5 0 := cp_TG_in (i := 161) (by decide +kernel) (by decide +kernel)
theorem fg_X1_174 (O : cp_Ok x E RX1 bc nL d mc ms) {a : Nat} (hs : sh a = (6, 0)) (hd : decode bc pc = .ok (.getfield 174, 3)) (k : cp_G x E nL cells slots cnt sh I R (pc + 3) L (.int (I a 0) :: st)) : cp_G x E nL cells slots cnt sh I R pc L (.ref a :: st) := cp_get O cp_cX5 (j := 0) (by decide) fl_X1_174 hs hd k
theorem fp_X1_174 (O : cp_Ok x E RX1 bc nL d mc ms) {a : Nat} {v : Int32} (hs : sh a = (6, 0)) (hd : decode bc pc = .ok (.putfield 174, 3)) (k : cp_G x E nL cells slots cnt sh (cp_wi I a 0 v) R (pc + 3) L st) : cp_G x E nL cells slots cnt sh I R pc L (.int v :: .ref a :: st) := cp_put O cp_cX5 (j := 0) (by decide) fl_X1_174 rfl (ty := .int) (by decide +kernel) ⟨rfl, rfl⟩ rfl hs hd k
theorem fl_X5_13 : cp_lk RX5 13 TX5 1 := cp_TG_in (i := 162) (by decide +kernel) (by decide +kernel)
theorem fg_X5_13 (O : cp_Ok x E RX5 bc nL d mc ms) {a : Nat} (hs : sh a = (6, 0)) (hd : decode bc pc = .ok (.getfield 13, 3)) (k : cp_G x E nL cells slots cnt sh I R (pc + 3) L (.int (I a 1) :: st)) : cp_G x E nL cells slots cnt sh I R pc L (.ref a :: st) := cp_get O cp_cX5 (j := 1) (by decide) fl_X5_13 hs hd k
theorem fp_X5_13 (O : cp_Ok x E RX5 bc nL d mc ms) {a : Nat} {v : Int32} (hs : sh a = (6, 0)) (hv : v = 0 ∨ v = 1) (hd : decode bc pc = .ok (.putfield 13, 3)) (k : cp_G x E nL cells slots cnt sh (cp_wi I a 1 v) R (pc + 3) L st) : cp_G x E nL cells slots cnt sh I R pc L (.int v :: .ref a :: st) := cp_put O cp_cX5 (j := 1) (by decide) fl_X5_13 rfl (ty := .boolean) (by decide +kernel) (cp_narb hv) rfl hs hd k
theorem fl_X1_203 : cp_lk RX1 203 TX5 1 := cp_TG_in (i := 163) (by decide +kernel) (by decide +kernel)
theorem fg_X1_203 (O : cp_Ok x E RX1 bc nL d mc ms) {a : Nat} (hs : sh a = (6, 0)) (hd : decode bc pc = .ok (.getfield 203, 3)) (k : cp_G x E nL cells slots cnt sh I R (pc + 3) L (.int (I a 1) :: st)) : cp_G x E nL cells slots cnt sh I R pc L (.ref a :: st) := cp_get O cp_cX5 (j := 1) (by decide) fl_X1_203 hs hd k
theorem fp_X1_203 (O : cp_Ok x E RX1 bc nL d mc ms) {a : Nat} {v : Int32} (hs : sh a = (6, 0)) (hv : v = 0 ∨ v = 1) (hd : decode bc pc = .ok (.putfield 203, 3)) (k : cp_G x E nL cells slots cnt sh (cp_wi I a 1 v) R (pc + 3) L st) : cp_G x E nL cells slots cnt sh I R pc L (.int v :: .ref a :: st) := cp_put O cp_cX5 (j := 1) (by decide) fl_X1_203 rfl (ty := .boolean) (by decide +kernel) (cp_narb hv) rfl hs hd k
theorem fl_X5_17 : cp_lk RX5 17 TX5 2 := cp_TG_in (i := 164) (by decide +kernel) (by decide +kernel)
theorem fg_X5_17 (O : cp_Ok x E RX5 bc nL d mc ms) {a : Nat} (hs : sh a = (6, 0)) (hd : decode bc pc = .ok (.getfield 17, 3)) (k : cp_G x E nL cells slots cnt sh I R (pc + 3) L (.int (I a 2) :: st)) : cp_G x E nL cells slots cnt sh I R pc L (.ref a :: st) := cp_get O cp_cX5 (j := 2) (by decide) fl_X5_17 hs hd k
theorem fp_X5_17 (O : cp_Ok x E RX5 bc nL d mc ms) {a : Nat} {v : Int32} (hs : sh a = (6, 0)) (hd : decode bc pc = .ok (.putfield 17, 3)) (k : cp_G x E nL cells slots cnt sh (cp_wi I a 2 v) R (pc + 3) L st) : cp_G x E nL cells slots cnt sh I R pc L (.int v :: .ref a :: st) := cp_put O cp_cX5 (j := 2) (by decide) fl_X5_17 rfl (ty := .int) (by decide +kernel) ⟨rfl, rfl⟩ rfl hs hd k
theorem fl_X1_113 : cp_lk RX1 113 TX5 2 := cp_TG_in (i := 165) (by decide +kernel) (by decide +kernel)
theorem fg_X1_113 (O : cp_Ok x E RX1 bc nL d mc ms) {a : Nat} (hs : sh a = (6, 0)) (hd : decode bc pc = .ok (.getfield 113, 3)) (k : cp_G x E nL cells slots cnt sh I R (pc + 3) L (.int (I a 2) :: st)) : cp_G x E nL cells slots cnt sh I R pc L (.ref a :: st) := cp_get O cp_cX5 (j := 2) (by decide) fl_X1_113 hs hd k
theorem fp_X1_113 (O : cp_Ok x E RX1 bc nL d mc ms) {a : Nat} {v : Int32} (hs : sh a = (6, 0)) (hd : decode bc pc = .ok (.putfield 113, 3)) (k : cp_G x E nL cells slots cnt sh (cp_wi I a 2 v) R (pc + 3) L st) : cp_G x E nL cells slots cnt sh I R pc L (.int v :: .ref a :: st) := cp_put O cp_cX5 (j := 2) (by decide) fl_X1_113 rfl (ty := .int) (by decide +kernel) ⟨rfl, rfl⟩ rfl hs hd k
theorem fl_X1_18 : cp_lk RX1 18 TX1 0 := cp_TG_in (i := 173) (by decide +kernel) (by decide +kernel)
theorem fg_X1_18 (O : cp_Ok x E RX1 bc nL d mc ms) {a y : Nat} (hs : sh a = (2, 0)) (hr : R a 0 = some y) (hd : decode bc pc = .ok (.getfield 18, 3)) (k : cp_G x E nL cells slots cnt sh I R (pc + 3) L (.ref y :: st)) : cp_G x E nL cells slots cnt sh I R pc L (.ref a :: st) := cp_getr O cp_cX1 (j := 0) (by decide) fl_X1_18 rfl hs hr hd k
theorem fl_X1_23 : cp_lk RX1 23 TX1 1 := cp_TG_in (i := 174) (by decide +kernel) (by decide +kernel)
theorem fg_X1_23 (O : cp_Ok x E RX1 bc nL d mc ms) {a : Nat} (hs : sh a = (2, 0)) (hd : decode bc pc = .ok (.getfield 23, 3)) (k : cp_G x E nL cells slots cnt sh I R (pc + 3) L (.int (I a 1) :: st)) : cp_G x E nL cells slots cnt sh I R pc L (.ref a :: st) := cp_get O cp_cX1 (j := 1) (by decide) fl_X1_23 hs hd k
theorem fp_X1_23 (O : cp_Ok x E RX1 bc nL d mc ms) {a : Nat} {v : Int32} (hs : sh a = (2, 0)) (hd : decode bc pc = .ok (.putfield 23, 3)) (k : cp_G x E nL cells slots cnt sh (cp_wi I a 1 v) R (pc + 3) L st) : cp_G x E nL cells slots cnt sh I R pc L (.int v :: .ref a :: st) := cp_put O cp_cX1 (j := 1) (by decide) fl_X1_23 rfl (ty := .int) (by decide +kernel) ⟨rfl, rfl⟩ rfl hs hd k
theorem fl_X1_29 : cp_lk RX1 29 TX1 2 := cp_TG_in (i := 175) (by decide +kernel) (by decide +kernel)
theorem fg_X1_29 (O : cp_Ok x E RX1 bc nL d mc ms) {a y : Nat} (hs : sh a = (2, 0)) (hr : R a 2 = some y) (hd : decode bc pc = .ok (.getfield 29, 3)) (k : cp_G x E nL cells slots cnt sh I R (pc + 3) L (.ref y :: st)) : cp_G x E nL cells slots cnt sh I R pc L (.ref a :: st) := cp_getr O cp_cX1 (j := 2) (by decide) fl_X1_29 rfl hs hr hd k
theorem fl_X1_34 : cp_lk RX1 34 TX1 3 := cp_TG_in (i := 176) (by decide +kernel) (by decide +kernel)
theorem fg_X1_34 (O : cp_Ok x E RX1 bc nL d mc ms) {a : Nat} (hs : sh a = (2, 0)) (hd : decode bc pc = .ok (.getfield 34, 3)) (k : cp_G x E nL cells slots cnt sh I R (pc + 3) L (.int (I a 3) :: st)) : cp_G x E nL cells slots cnt sh I R pc L (.ref a :: st) := cp_get O cp_cX1 (j := 3) (by decide) fl_X1_34 hs hd k
theorem fp_X1_34 (O : cp_Ok x E RX1 bc nL d mc ms) {a : Nat} {v : Int32} (hs : sh a = (2, 0)) (hd : decode bc pc = .ok (.putfield 34, 3)) (k : cp_G x E nL cells slots cnt sh (cp_wi I a 3 v) R (pc + 3) L st) : cp_G x E nL cells slots cnt sh I R pc L (.int v :: .ref a :: st) := cp_put O cp_cX1 (j := 3) (by decide) fl_X1_34 rfl (ty := .int) (by decide +kernel) ⟨rfl, rfl⟩ rfl hs hd k
theorem fl_X6_182 : cp_lk RX6 182 TX1 3 := cp_TG_in (i := 177) (by decide +kernel) (by decide +kernel)
theorem fg_X6_182 (O : cp_Ok x E RX6 bc nL d mc ms) {a : Nat} (hs : sh a = (2, 0)) (hd : decode bc pc = .ok (.getfield 182, 3)) (k : cp_G x E nL cells slots cnt sh I R (pc + 3) L (.int (I a 3) :: st)) : cp_G x E nL cells slots cnt sh I R pc L (.ref a :: st) := cp_get O cp_cX1 (j := 3) (by decide) fl_X6_182 hs hd k
theorem fp_X6_182 (O : cp_Ok x E RX6 bc nL d mc ms) {a : Nat} {v : Int32} (hs : sh a = (2, 0)) (hd : decode bc pc = .ok (.putfield 182, 3)) (k : cp_G x E nL cells slots cnt sh (cp_wi I a 3 v) R (pc + 3) L st) : cp_G x E nL cells slots cnt sh I R pc L (.int v :: .ref a :: st) := cp_put O cp_cX1 (j := 3) (by decide) fl_X6_182 rfl (ty := .int) (by decide +kernel) ⟨rfl, rfl⟩ rfl hs hd k
theorem fl_X1_39 : cp_lk RX1 39 TX1 4 := cp_TG_in (i := 178) (by decide +kernel) (by decide +kernel)
theorem fg_X1_39 (O : cp_Ok x E RX1 bc nL d mc ms) {a y : Nat} (hs : sh a = (2, 0)) (hr : R a 4 = some y) (hd : decode bc pc = .ok (.getfield 39, 3)) (k : cp_G x E nL cells slots cnt sh I R (pc + 3) L (.ref y :: st)) : cp_G x E nL cells slots cnt sh I R pc L (.ref a :: st) := cp_getr O cp_cX1 (j := 4) (by decide) fl_X1_39 rfl hs hr hd k
theorem fl_X1_44 : cp_lk RX1 44 TX1 5 := cp_TG_in (i := 179) (by decide +kernel) (by decide +kernel)
theorem fg_X1_44 (O : cp_Ok x E RX1 bc nL d mc ms) {a : Nat} (hs : sh a = (2, 0)) (hd : decode bc pc = .ok (.getfield 44, 3)) (k : cp_G x E nL cells slots cnt sh I R (pc + 3) L (.int (I a 5) :: st)) : cp_G x E nL cells slots cnt sh I R pc L (.ref a :: st) := cp_get O cp_cX1 (j := 5) (by decide) fl_X1_44 hs hd k
theorem fp_X1_44 (O : cp_Ok x E RX1 bc nL d mc ms) {a : Nat} {v : Int32} (hs : sh a = (2, 0)) (hd : decode bc pc = .ok (.putfield 44, 3)) (k : cp_G x E nL cells slots cnt sh (cp_wi I a 5 v) R (pc + 3) L st) : cp_G x E nL cells slots cnt sh I R pc L (.int v :: .ref a :: st) := cp_put O cp_cX1 (j := 5) (by decide) fl_X1_44 rfl (ty := .int) (by decide +kernel) ⟨rfl, rfl⟩ rfl hs hd k
theorem fl_X0_11 : cp_lk RX0 11 TX0 0 := cp_TG_in (i := 202) (by decide +kernel) (by decide +kernel)
theorem fg_X0_11 (O : cp_Ok x E RX0 bc nL d mc ms) {a y : Nat} (hs : sh a = (1, 0)) (hr : R a 0 = some y) (hd : decode bc pc = .ok (.getfield 11, 3)) (k : cp_G x E nL cells slots cnt sh I R (pc + 3) L (.ref y :: st)) : cp_G x E nL cells slots cnt sh I R pc L (.ref a :: st) := cp_getr O cp_cX0 (j := 0) (by decide) fl_X0_11 rfl hs hr hd k
theorem fl_X0_18 : cp_lk RX0 18 TX0 1 := cp_TG_in (i := 203) (by decide +kernel) (by decide +kernel)
theorem fg_X0_18 (O : cp_Ok x E RX0 bc nL d mc ms) {a : Nat} (hs : sh a = (1, 0)) (hd : decode bc pc = .ok (.getfield 18, 3)) (k : cp_G x E nL cells slots cnt sh I R (pc + 3) L (.int (I a 1) :: st)) : cp_G x E nL cells slots cnt sh I R pc L (.ref a :: st) := cp_get O cp_cX0 (j := 1) (by decide) fl_X0_18 hs hd k
theorem fp_X0_18 (O : cp_Ok x E RX0 bc nL d mc ms) {a : Nat} {v : Int32} (hs : sh a = (1, 0)) (hd : decode bc pc = .ok (.putfield 18, 3)) (k : cp_G x E nL cells slots cnt sh (cp_wi I a 1 v) R (pc + 3) L st) : cp_G x E nL cells slots cnt sh I R pc L (.int v :: .ref a :: st) := cp_put O cp_cX0 (j := 1) (by decide) fl_X0_18 rfl (ty := .int) (by decide +kernel) ⟨rfl, rfl⟩ rfl hs hd k
theorem fl_X0_22 : cp_lk RX0 22 TX0 2 := cp_TG_in (i := 204) (by decide +kernel) (by decide +kernel)
theorem fg_X0_22 (O : cp_Ok x E RX0 bc nL d mc ms) {a : Nat} (hs : sh a = (1, 0)) (hd : decode bc pc = .ok (.getfield 22, 3)) (k : cp_G x E nL cells slots cnt sh I R (pc + 3) L (.int (I a 2) :: st)) : cp_G x E nL cells slots cnt sh I R pc L (.ref a :: st) := cp_get O cp_cX0 (j := 2) (by decide) fl_X0_22 hs hd k
theorem fp_X0_22 (O : cp_Ok x E RX0 bc nL d mc ms) {a : Nat} {v : Int32} (hs : sh a = (1, 0)) (hd : decode bc pc = .ok (.putfield 22, 3)) (k : cp_G x E nL cells slots cnt sh (cp_wi I a 2 v) R (pc + 3) L st) : cp_G x E nL cells slots cnt sh I R pc L (.int v :: .ref a :: st) := cp_put O cp_cX0 (j := 2) (by decide) fl_X0_22 rfl (ty := .int) (by decide +kernel) ⟨rfl, rfl⟩ rfl hs hd k
theorem fl_X6_84 : cp_lk RX6 84 TX0 2 := cp_TG_in (i := 205) (by decide +kernel) (by decide +kernel)
theorem fg_X6_84 (O : cp_Ok x E RX6 bc nL d mc ms) {a : Nat} (hs : sh a = (1, 0)) (hd : decode bc pc = .ok (.getfield 84, 3)) (k : cp_G x E nL cells slots cnt sh I R (pc + 3) L (.int (I a 2) :: st)) : cp_G x E nL cells slots cnt sh I R pc L (.ref a :: st) := cp_get O cp_cX0 (j := 2) (by decide) fl_X6_84 hs hd k
theorem fp_X6_84 (O : cp_Ok x E RX6 bc nL d mc ms) {a : Nat} {v : Int32} (hs : sh a = (1, 0)) (hd : decode bc pc = .ok (.putfield 84, 3)) (k : cp_G x E nL cells slots cnt sh (cp_wi I a 2 v) R (pc + 3) L st) : cp_G x E nL cells slots cnt sh I R pc L (.int v :: .ref a :: st) := cp_put O cp_cX0 (j := 2) (by decide) fl_X6_84 rfl (ty := .int) (by decide +kernel) ⟨rfl, rfl⟩ rfl hs hd k
theorem fl_X3_9 : cp_lk RX3 9 TX3 0 := cp_TG_in (i := 219) (by decide +kernel) (by decide +kernel)
theorem fg_X3_9 (O : cp_Ok x E RX3 bc nL d mc ms) {a y : Nat} (hs : sh a = (4, 0)) (hr : R a 0 = some y) (hd : decode bc pc = .ok (.getfield 9, 3)) (k : cp_G x E nL cells slots cnt sh I R (pc + 3) L (.ref y :: st)) : cp_G x E nL cells slots cnt sh I R pc L (.ref a :: st) := cp_getr O cp_cX3 (j := 0) (by decide) fl_X3_9 rfl hs hr hd k
theorem fl_X3_15 : cp_lk RX3 15 TX3 1 := cp_TG_in (i := 220) (by decide +kernel) (by decide +kernel)
theorem fg_X3_15 (O : cp_Ok x E RX3 bc nL d mc ms) {a : Nat} (hs : sh a = (4, 0)) (hd : decode bc pc = .ok (.getfield 15, 3)) (k : cp_G x E nL cells slots cnt sh I R (pc + 3) L (.int (I a 1) :: st)) : cp_G x E nL cells slots cnt sh I R pc L (.ref a :: st) := cp_get O cp_cX3 (j := 1) (by decide) fl_X3_15 hs hd k
theorem fp_X3_15 (O : cp_Ok x E RX3 bc nL d mc ms) {a : Nat} {v : Int32} (hs : sh a = (4, 0)) (hd : decode bc pc = .ok (.putfield 15, 3)) (k : cp_G x E nL cells slots cnt sh (cp_wi I a 1 v) R (pc + 3) L st) : cp_G x E nL cells slots cnt sh I R pc L (.int v :: .ref a :: st) := cp_put O cp_cX3 (j := 1) (by decide) fl_X3_15 rfl (ty := .int) (by decide +kernel) ⟨rfl, rfl⟩ rfl hs hd k
theorem fl_X2_26 : cp_lk RX2 26 TX3 1 := cp_TG_in (i := 221) (by decide +kernel) (by decide +kernel)
theorem fg_X2_26 (O : cp_Ok x E RX2 bc nL d mc ms) {a : Nat} (hs : sh a = (4, 0)) (hd : decode bc pc = .ok (.getfield 26, 3)) (k : cp_G x E nL cells slots cnt sh I R (pc + 3) L (.int (I a 1) :: st)) : cp_G x E nL cells slots cnt sh I R pc L (.ref a :: st) := cp_get O cp_cX3 (j := 1) (by decide) fl_X2_26 hs hd k
theorem fp_X2_26 (O : cp_Ok x E RX2 bc nL d mc ms) {a : Nat} {v : Int32} (hs : sh a = (4, 0)) (hd : decode bc pc = .ok (.putfield 26, 3)) (k : cp_G x E nL cells slots cnt sh (cp_wi I a 1 v) R (pc + 3) L st) : cp_G x E nL cells slots cnt sh I R pc L (.int v :: .ref a :: st) := cp_put O cp_cX3 (j := 1) (by decide) fl_X2_26 rfl (ty := .int) (by decide +kernel) ⟨rfl, rfl⟩ rfl hs hd k
theorem fl_X6_80 : cp_lk RX6 80 TX3 1 := cp_TG_in (i := 222) (by decide +kernel) (by decide +kernel)
theorem fg_X6_80 (O : cp_Ok x E RX6 bc nL d mc ms) {a : Nat} (hs : sh a = (4, 0)) (hd : decode bc pc = .ok (.getfield 80, 3)) (k : cp_G x E nL cells slots cnt sh I R (pc + 3) L (.int (I a 1) :: st)) : cp_G x E nL cells slots cnt sh I R pc L (.ref a :: st) := cp_get O cp_cX3 (j := 1) (by decide) fl_X6_80 hs hd k
theorem fp_X6_80 (O : cp_Ok x E RX6 bc nL d mc ms) {a : Nat} {v : Int32} (hs : sh a = (4, 0)) (hd : decode bc pc = .ok (.putfield 80, 3)) (k : cp_G x E nL cells slots cnt sh (cp_wi I a 1 v) R (pc + 3) L st) : cp_G x E nL cells slots cnt sh I R pc L (.int v :: .ref a :: st) := cp_put O cp_cX3 (j := 1) (by decide) fl_X6_80 rfl (ty := .int) (by decide +kernel) ⟨rfl, rfl⟩ rfl hs hd k
theorem fl_X2_9 : cp_lk RX2 9 TX2 0 := cp_TG_in (i := 235) (by decide +kernel) (by decide +kernel)
theorem fg_X2_9 (O : cp_Ok x E RX2 bc nL d mc ms) {a y : Nat} (hs : sh a = (3, 0)) (hr : R a 0 = some y) (hd : decode bc pc = .ok (.getfield 9, 3)) (k : cp_G x E nL cells slots cnt sh I R (pc + 3) L (.ref y :: st)) : cp_G x E nL cells slots cnt sh I R pc L (.ref a :: st) := cp_getr O cp_cX2 (j := 0) (by decide) fl_X2_9 rfl hs hr hd k
theorem fl_X2_15 : cp_lk RX2 15 TX2 1 := cp_TG_in (i := 236) (by decide +kernel) (by decide +kernel)
theorem fg_X2_15 (O : cp_Ok x E RX2 bc nL d mc ms) {a : Nat} (hs : sh a = (3, 0)) (hd : decode bc pc = .ok (.getfield 15, 3)) (k : cp_G x E nL cells slots cnt sh I R (pc + 3) L (.int (I a 1) :: st)) : cp_G x E nL cells slots cnt sh I R pc L (.ref a :: st) := cp_get O cp_cX2 (j := 1) (by decide) fl_X2_15 hs hd k
theorem fp_X2_15 (O : cp_Ok x E RX2 bc nL d mc ms) {a : Nat} {v : Int32} (hs : sh a = (3, 0)) (hd : decode bc pc = .ok (.putfield 15, 3)) (k : cp_G x E nL cells slots cnt sh (cp_wi I a 1 v) R (pc + 3) L st) : cp_G x E nL cells slots cnt sh I R pc L (.int v :: .ref a :: st) := cp_put O cp_cX2 (j := 1) (by decide) fl_X2_15 rfl (ty := .int) (by decide +kernel) ⟨rfl, rfl⟩ rfl hs hd k
theorem fl_X2_39 : cp_lk RX2 39 TX2 2 := cp_TG_in (i := 237) (by decide +kernel) (by decide +kernel)
theorem fg_X2_39 (O : cp_Ok x E RX2 bc nL d mc ms) {a : Nat} (hs : sh a = (3, 0)) (hd : decode bc pc = .ok (.getfield 39, 3)) (k : cp_G x E nL cells slots cnt sh I R (pc + 3) L (.int (I a 2) :: st)) : cp_G x E nL cells slots cnt sh I R pc L (.ref a :: st) := cp_get O cp_cX2 (j := 2) (by decide) fl_X2_39 hs hd k
theorem fp_X2_39 (O : cp_Ok x E RX2 bc nL d mc ms) {a : Nat} {v : Int32} (hs : sh a = (3, 0)) {q0 : Nat} (hv : v = nI q0) (hq0 : q0 < 65536) (hd : decode bc pc = .ok (.putfield 39, 3)) (k : cp_G x E nL cells slots cnt sh (cp_wi I a 2 v) R (pc + 3) L st) : cp_G x E nL cells slots cnt sh I R pc L (.int v :: .ref a :: st) := cp_put O cp_cX2 (j := 2) (by decide) fl_X2_39 rfl (ty := .char) (by decide +kernel) (by rw [hv]; exact pk_charN hq0) rfl hs hd k
theorem fl_X6_163 : cp_lk RX6 163 TX2 2 := cp_TG_in (i := 238) (by decide +kernel) (by decide +kernel)
theorem fg_X6_163 (O : cp_Ok x E RX6 bc nL d mc ms) {a : Nat} (hs : sh a = (3, 0)) (hd : decode bc pc = .ok (.getfield 163, 3)) (k : cp_G x E nL cells slots cnt sh I R (pc + 3) L (.int (I a 2) :: st)) : cp_G x E nL cells slots cnt sh I R pc L (.ref a :: st) := cp_get O cp_cX2 (j := 2) (by decide) fl_X6_163 hs hd k
theorem fp_X6_163 (O : cp_Ok x E RX6 bc nL d mc ms) {a : Nat} {v : Int32} (hs : sh a = (3, 0)) {q0 : Nat} (hv : v = nI q0) (hq0 : q0 < 65536) (hd : decode bc pc = .ok (.putfield 163, 3)) (k : cp_G x E nL cells slots cnt sh (cp_wi I a 2 v) R (pc + 3) L st) : cp_G x E nL cells slots cnt sh I R pc L (.int v :: .ref a :: st) := cp_put O cp_cX2 (j := 2) (by decide) fl_X6_163 rfl (ty := .char) (by decide +kernel) (by rw [hv]; exact pk_charN hq0) rfl hs hd k
theorem fl_X2_66 : cp_lk RX2 66 TX2 3 := cp_TG_in (i := 239) (by decide +kernel) (by decide +kernel)
theorem fg_X2_66 (O : cp_Ok x E RX2 bc nL d mc ms) {a : Nat} (hs : sh a = (3, 0)) (hd : decode bc pc = .ok (.getfield 66, 3)) (k : cp_G x E nL cells slots cnt sh I R (pc + 3) L (.int (I a 3) :: st)) : cp_G x E nL cells slots cnt sh I R pc L (.ref a :: st) := cp_get O cp_cX2 (j := 3) (by decide) fl_X2_66 hs hd k
theorem fp_X2_66 (O : cp_Ok x E RX2 bc nL d mc ms) {a : Nat} {v : Int32} (hs : sh a = (3, 0)) (hd : decode bc pc = .ok (.putfield 66, 3)) (k : cp_G x E nL cells slots cnt sh (cp_wi I a 3 v) R (pc + 3) L st) : cp_G x E nL cells slots cnt sh I R pc L (.int v :: .ref a :: st) := cp_put O cp_cX2 (j := 3) (by decide) fl_X2_66 rfl (ty := .int) (by decide +kernel) ⟨rfl, rfl⟩ rfl hs hd k
theorem fl_X6_170 : cp_lk RX6 170 TX2 3 := cp_TG_in (i := 240) (by decide +kernel) (by decide +kernel)
theorem fg_X6_170 (O : cp_Ok x E RX6 bc nL d mc ms) {a : Nat} (hs : sh a = (3, 0)) (hd : decode bc pc = .ok (.getfield 170, 3)) (k : cp_G x E nL cells slots cnt sh I R (pc + 3) L (.int (I a 3) :: st)) : cp_G x E nL cells slots cnt sh I R pc L (.ref a :: st) := cp_get O cp_cX2 (j := 3) (by decide) fl_X6_170 hs hd k
theorem fp_X6_170 (O : cp_Ok x E RX6 bc nL d mc ms) {a : Nat} {v : Int32} (hs : sh a = (3, 0)) (hd : decode bc pc = .ok (.putfield 170, 3)) (k : cp_G x E nL cells slots cnt sh (cp_wi I a 3 v) R (pc + 3) L st) : cp_G x E nL cells slots cnt sh I R pc L (.int v :: .ref a :: st) := cp_put O cp_cX2 (j := 3) (by decide) fl_X6_170 rfl (ty := .int) (by decide +kernel) ⟨rfl, rfl⟩ rfl hs hd k
theorem fl_X2_53 : cp_lk RX2 53 TX2 4 := cp_TG_in (i := 241) (by decide +kernel) (by decide +kernel)
theorem fg_X2_53 (O : cp_Ok x E RX2 bc nL d mc ms) {a : Nat} (hs : sh a = (3, 0)) (hd : decode bc pc = .ok (.getfield 53, 3)) (k : cp_G x E nL cells slots cnt sh I R (pc + 3) L (.int (I a 4) :: st)) : cp_G x E nL cells slots cnt sh I R pc L (.ref a :: st) := cp_get O cp_cX2 (j := 4) (by decide) fl_X2_53 hs hd k
theorem fp_X2_53 (O : cp_Ok x E RX2 bc nL d mc ms) {a : Nat} {v : Int32} (hs : sh a = (3, 0)) (hd : decode bc pc = .ok (.putfield 53, 3)) (k : cp_G x E nL cells slots cnt sh (cp_wi I a 4 v) R (pc + 3) L st) : cp_G x E nL cells slots cnt sh I R pc L (.int v :: .ref a :: st) := cp_put O cp_cX2 (j := 4) (by decide) fl_X2_53 rfl (ty := .int) (by decide +kernel) ⟨rfl, rfl⟩ rfl hs hd k
theorem fl_X6_167 : cp_lk RX6 167 TX2 4 := cp_TG_in (i := 242) (by decide +kernel) (by decide +kernel)
theorem fg_X6_167 (O : cp_Ok x E RX6 bc nL d mc ms) {a : Nat} (hs : sh a = (3, 0)) (hd : decode bc pc = .ok (.getfield 167, 3)) (k : cp_G x E nL cells slots cnt sh I R (pc + 3) L (.int (I a 4) :: st)) : cp_G x E nL cells slots cnt sh I R pc L (.ref a :: st) := cp_get O cp_cX2 (j := 4) (by decide) fl_X6_167 hs hd k
theorem fp_X6_167 (O : cp_Ok x E RX6 bc nL d mc ms) {a : Nat} {v : Int32} (hs : sh a = (3, 0)) (hd : decode bc pc = .ok (.putfield 167, 3)) (k : cp_G x E nL cells slots cnt sh (cp_wi I a 4 v) R (pc + 3) L st) : cp_G x E nL cells slots cnt sh I R pc L (.int v :: .ref a :: st) := cp_put O cp_cX2 (j := 4) (by decide) fl_X6_167 rfl (ty := .int) (by decide +kernel) ⟨rfl, rfl⟩ rfl hs hd k
theorem fl_X2_56 : cp_lk RX2 56 TX2 5 := cp_TG_in (i := 243) (by decide +kernel) (by decide +kernel)
theorem fg_X2_56 (O : cp_Ok x E RX2 bc nL d mc ms) {a : Nat} (hs : sh a = (3, 0)) (hd : decode bc pc = .ok (.getfield 56, 3)) (k : cp_G x E nL cells slots cnt sh I R (pc + 3) L (.int (I a 5) :: st)) : cp_G x E nL cells slots cnt sh I R pc L (.ref a :: st) := cp_get O cp_cX2 (j := 5) (by decide) fl_X2_56 hs hd k
theorem fp_X2_56 (O : cp_Ok x E RX2 bc nL d mc ms) {a : Nat} {v : Int32} (hs : sh a = (3, 0)) (hd : decode bc pc = .ok (.putfield 56, 3)) (k : cp_G x E nL cells slots cnt sh (cp_wi I a 5 v) R (pc + 3) L st) : cp_G x E nL cells slots cnt sh I R pc L (.int v :: .ref a :: st) := cp_put O cp_cX2 (j := 5) (by decide) fl_X2_56 rfl (ty := .int) (by decide +kernel) ⟨rfl, rfl⟩ rfl hs hd k
theorem fl_X6_173 : cp_lk RX6 173 TX2 5 := cp_TG_in (i := 244) (by decide +kernel) (by decide +kernel)
theorem fg_X6_173 (O : cp_Ok x E RX6 bc nL d mc ms) {a : Nat} (hs : sh a = (3, 0)) (hd : decode bc pc = .ok (.getfield 173, 3)) (k : cp_G x E nL cells slots cnt sh I R (pc + 3) L (.int (I a 5) :: st)) : cp_G x E nL cells slots cnt sh I R pc L (.ref a :: st) := cp_get O cp_cX2 (j := 5) (by decide) fl_X6_173 hs hd k
theorem fp_X6_173 (O : cp_Ok x E RX6 bc nL d mc ms) {a : Nat} {v : Int32} (hs : sh a = (3, 0)) (hd : decode bc pc = .ok (.putfield 173, 3)) (k : cp_G x E nL cells slots cnt sh (cp_wi I a 5 v) R (pc + 3) L st) : cp_G x E nL cells slots cnt sh I R pc L (.int v :: .ref a :: st) := cp_put O cp_cX2 (j := 5) (by decide) fl_X6_173 rfl (ty := .int) (by decide +kernel) ⟨rfl, rfl⟩ rfl hs hd k
theorem fl_X2_63 : cp_lk RX2 63 TX2 6 := cp_TG_in (i := 245) (by decide +kernel) (by decide +kernel)
theorem fg_X2_63 (O : cp_Ok x E RX2 bc nL d mc ms) {a : Nat} (hs : sh a = (3, 0)) (hd : decode bc pc = .ok (.getfield 63, 3)) (k : cp_G x E nL cells slots cnt sh I R (pc + 3) L (.int (I a 6) :: st)) : cp_G x E nL cells slots cnt sh I R pc L (.ref a :: st) := cp_get O cp_cX2 (j := 6) (by decide) fl_X2_63 hs hd k
theorem fp_X2_63 (O : cp_Ok x E RX2 bc nL d mc ms) {a : Nat} {v : Int32} (hs : sh a = (3, 0)) (hd : decode bc pc = .ok (.putfield 63, 3)) (k : cp_G x E nL cells slots cnt sh (cp_wi I a 6 v) R (pc + 3) L st) : cp_G x E nL cells slots cnt sh I R pc L (.int v :: .ref a :: st) := cp_put O cp_cX2 (j := 6) (by decide) fl_X2_63 rfl (ty := .int) (by decide +kernel) ⟨rfl, rfl⟩ rfl hs hd k
theorem fl_X6_176 : cp_lk RX6 176 TX2 6 := cp_TG_in (i := 246) (by decide +kernel) (by decide +kernel)
theorem fg_X6_176 (O : cp_Ok x E RX6 bc nL d mc ms) {a : Nat} (hs : sh a = (3, 0)) (hd : decode bc pc = .ok (.getfield 176, 3)) (k : cp_G x E nL cells slots cnt sh I R (pc + 3) L (.int (I a 6) :: st)) : cp_G x E nL cells slots cnt sh I R pc L (.ref a :: st) := cp_get O cp_cX2 (j := 6) (by decide) fl_X6_176 hs hd k
theorem fp_X6_176 (O : cp_Ok x E RX6 bc nL d mc ms) {a : Nat} {v : Int32} (hs : sh a = (3, 0)) (hd : decode bc pc = .ok (.putfield 176, 3)) (k : cp_G x E nL cells slots cnt sh (cp_wi I a 6 v) R (pc + 3) L st) : cp_G x E nL cells slots cnt sh I R pc L (.int v :: .ref a :: st) := cp_put O cp_cX2 (j := 6) (by decide) fl_X6_176 rfl (ty := .int) (by decide +kernel) ⟨rfl, rfl⟩ rfl hs hd k
theorem fl_X6_10 : cp_lk RX6 10 TX6 0 := cp_TG_in (i := 262) (by decide +kernel) (by decide +kernel)
theorem fg_X6_10 (O : cp_Ok x E RX6 bc nL d mc ms) {a y : Nat} (hs : sh a = (7, 0)) (hr : R a 0 = some y) (hd : decode bc pc = .ok (.getfield 10, 3)) (k : cp_G x E nL cells slots cnt sh I R (pc + 3) L (.ref y :: st)) : cp_G x E nL cells slots cnt sh I R pc L (.ref a :: st) := cp_getr O cp_cX6 (j := 0) (by decide) fl_X6_10 rfl hs hr hd k
theorem fl_X6_16 : cp_lk RX6 16 TX6 1 := cp_TG_in (i := 263) (by decide +kernel) (by decide +kernel)
theorem fg_X6_16 (O : cp_Ok x E RX6 bc nL d mc ms) {a y : Nat} (hs : sh a = (7, 0)) (hr : R a 1 = some y) (hd : decode bc pc = .ok (.getfield 16, 3)) (k : cp_G x E nL cells slots cnt sh I R (pc + 3) L (.ref y :: st)) : cp_G x E nL cells slots cnt sh I R pc L (.ref a :: st) := cp_getr O cp_cX6 (j := 1) (by decide) fl_X6_16 rfl hs hr hd k
theorem fl_X6_22 : cp_lk RX6 22 TX6 2 := cp_TG_in (i := 264) (by decide +kernel) (by decide +kernel)
theorem fg_X6_22 (O : cp_Ok x E RX6 bc nL d mc ms) {a y : Nat} (hs : sh a = (7, 0)) (hr : R a 2 = some y) (hd : decode bc pc = .ok (.getfield 22, 3)) (k : cp_G x E nL cells slots cnt sh I R (pc + 3) L (.ref y :: st)) : cp_G x E nL cells slots cnt sh I R pc L (.ref a :: st) := cp_getr O cp_cX6 (j := 2) (by decide) fl_X6_22 rfl hs hr hd k
theorem fl_X6_26 : cp_lk RX6 26 TX6 3 := cp_TG_in (i := 265) (by decide +kernel) (by decide +kernel)
theorem fg_X6_26 (O : cp_Ok x E RX6 bc nL d mc ms) {a y : Nat} (hs : sh a = (7, 0)) (hr : R a 3 = some y) (hd : decode bc pc = .ok (.getfield 26, 3)) (k : cp_G x E nL cells slots cnt sh I R (pc + 3) L (.ref y :: st)) : cp_G x E nL cells slots cnt sh I R pc L (.ref a :: st) := cp_getr O cp_cX6 (j := 3) (by decide) fl_X6_26 rfl hs hr hd k
theorem fl_X6_33 : cp_lk RX6 33 TX6 4 := cp_TG_in (i := 266) (by decide +kernel) (by decide +kernel)
theorem fg_X6_33 (O : cp_Ok x E RX6 bc nL d mc ms) {a y : Nat} (hs : sh a = (7, 0)) (hr : R a 4 = some y) (hd : decode bc pc = .ok (.getfield 33, 3)) (k : cp_G x E nL cells slots cnt sh I R (pc + 3) L (.ref y :: st)) : cp_G x E nL cells slots cnt sh I R pc L (.ref a :: st) := cp_getr O cp_cX6 (j := 4) (by decide) fl_X6_33 rfl hs hr hd k
theorem fl_X6_42 : cp_lk RX6 42 TX6 5 := cp_TG_in (i := 267) (by decide +kernel) (by decide +kernel)
theorem fg_X6_42 (O : cp_Ok x E RX6 bc nL d mc ms) {a y : Nat} (hs : sh a = (7, 0)) (hr : R a 5 = some y) (hd : decode bc pc = .ok (.getfield 42, 3)) (k : cp_G x E nL cells slots cnt sh I R (pc + 3) L (.ref y :: st)) : cp_G x E nL cells slots cnt sh I R pc L (.ref a :: st) := cp_getr O cp_cX6 (j := 5) (by decide) fl_X6_42 rfl hs hr hd k
theorem fs_X1_67 (O : cp_Ok x E RX1 bc nL d mc ms) (hd : decode bc pc = .ok (.getstatic 67, 3)) (k : cp_G x E nL cells slots cnt sh I R (pc + 3) L (.ref (cp_ts E 1) :: st)) : cp_G x E nL cells slots cnt sh I R pc L st := cp_getsN O (by decide) (by decide +kernel) hd k
theorem fs_X1_70 (O : cp_Ok x E RX1 bc nL d mc ms) (hd : decode bc pc = .ok (.getstatic 70, 3)) (k : cp_G x E nL cells slots cnt sh I R (pc + 3) L (.ref (cp_ts E 2) :: st)) : cp_G x E nL cells slots cnt sh I R pc L st := cp_getsN O (by decide) (by decide +kernel) hd k
theorem fs_X6_125 (O : cp_Ok x E RX6 bc nL d mc ms) (hd : decode bc pc = .ok (.getstatic 125, 3)) (k : cp_G x E nL cells slots cnt sh I R (pc + 3) L (.ref (cp_ts E 2) :: st)) : cp_G x E nL cells slots cnt sh I R pc L st := cp_gets (q := 2) O (by decide) (cp_TG_in (i := 565) (by decide +kernel) (by decide +kernel)) hd k
theorem fs_X6_129 (O : cp_Ok x E RX6 bc nL d mc ms) (hd : decode bc pc = .ok (.getstatic 129, 3)) (k : cp_G x E nL cells slots cnt sh I R (pc + 3) L (.ref (cp_ts E 1) :: st)) : cp_G x E nL cells slots cnt sh I R pc L st := cp_gets (q := 1) O (by decide) (cp_TG_in (i := 566) (by decide +kernel) (by decide +kernel)) hd k
theorem fl_X7_7 : cp_lk RX7 7 TX7 0 := cp_TG_in (i := 666) (by decide +kernel) (by decide +kernel)
theorem fg_X7_7 (O : cp_Ok x E RX7 bc nL d mc ms) {a y : Nat} (hs : sh a = (8, 0)) (hr : R a 0 = some y) (hd : decode bc pc = .ok (.getfield 7, 3)) (k : cp_G x E nL cells slots cnt sh I R (pc + 3) L (.ref y :: st)) : cp_G x E nL cells slots cnt sh I R pc L (.ref a :: st) := cp_getr O cp_cX7 (j := 0) (by decide) fl_X7_7 rfl hs hr hd k
theorem fl_X7_13 : cp_lk RX7 13 TX7 1 := cp_TG_in (i := 667) (by decide +kernel) (by decide +kernel)
theorem fg_X7_13 (O : cp_Ok x E RX7 bc nL d mc ms) {a y : Nat} (hs : sh a = (8, 0)) (hr : R a 1 = some y) (hd : decode bc pc = .ok (.getfield 13, 3)) (k : cp_G x E nL cells slots cnt sh I R (pc + 3) L (.ref y :: st)) : cp_G x E nL cells slots cnt sh I R pc L (.ref a :: st) := cp_getr O cp_cX7 (j := 1) (by decide) fl_X7_13 rfl hs hr hd k
theorem fl_X7_16 : cp_lk RX7 16 TX7 2 := cp_TG_in (i := 668) (by decide +kernel) (by decide +kernel)
theorem fg_X7_16 (O : cp_Ok x E RX7 bc nL d mc ms) {a y : Nat} (hs : sh a = (8, 0)) (hr : R a 2 = some y) (hd : decode bc pc = .ok (.getfield 16, 3)) (k : cp_G x E nL cells slots cnt sh I R (pc + 3) L (.ref y :: st)) : cp_G x E nL cells slots cnt sh I R pc L (.ref a :: st) := cp_getr O cp_cX7 (j := 2) (by decide) fl_X7_16 rfl hs hr hd k
theorem fl_X7_19 : cp_lk RX7 19 TX7 3 := cp_TG_in (i := 669) (by decide +kernel) (by decide +kernel)
theorem fg_X7_19 (O : cp_Ok x E RX7 bc nL d mc ms) {a y : Nat} (hs : sh a = (8, 0)) (hr : R a 3 = some y) (hd : decode bc pc = .ok (.getfield 19, 3)) (k : cp_G x E nL cells slots cnt sh I R (pc + 3) L (.ref y :: st)) : cp_G x E nL cells slots cnt sh I R pc L (.ref a :: st) := cp_getr O cp_cX7 (j := 3) (by decide) fl_X7_19 rfl hs hr hd k
theorem fl_X7_31 : cp_lk RX7 31 TX7 4 := cp_TG_in (i := 670) (by decide +kernel) (by decide +kernel)
theorem fg_X7_31 (O : cp_Ok x E RX7 bc nL d mc ms) {a : Nat} (hs : sh a = (8, 0)) (hd : decode bc pc = .ok (.getfield 31, 3)) (k : cp_G x E nL cells slots cnt sh I R (pc + 3) L (.int (I a 4) :: st)) : cp_G x E nL cells slots cnt sh I R pc L (.ref a :: st) := cp_get O cp_cX7 (j := 4) (by decide) fl_X7_31 hs hd k
theorem fp_X7_31 (O : cp_Ok x E RX7 bc nL d mc ms) {a : Nat} {v : Int32} (hs : sh a = (8, 0)) (hd : decode bc pc = .ok (.putfield 31, 3)) (k : cp_G x E nL cells slots cnt sh (cp_wi I a 4 v) R (pc + 3) L st) : cp_G x E nL cells slots cnt sh I R pc L (.int v :: .ref a :: st) := cp_put O cp_cX7 (j := 4) (by decide) fl_X7_31 rfl (ty := .int) (by decide +kernel) ⟨rfl, rfl⟩ rfl hs hd k
theorem fl_X7_22 : cp_lk RX7 22 TX7 5 := cp_TG_in (i := 671) (by decide +kernel) (by decide +kernel)
theorem fg_X7_22 (O : cp_Ok x E RX7 bc nL d mc ms) {a y : Nat} (hs : sh a = (8, 0)) (hr : R a 5 = some y) (hd : decode bc pc = .ok (.getfield 22, 3)) (k : cp_G x E nL cells slots cnt sh I R (pc + 3) L (.ref y :: st)) : cp_G x E nL cells slots cnt sh I R pc L (.ref a :: st) := cp_getr O cp_cX7 (j := 5) (by decide) fl_X7_22 rfl hs hr hd k
theorem fl_X7_25 : cp_lk RX7 25 TX7 6 := cp_TG_in (i := 672) (by decide +kernel) (by decide +kernel)
theorem fg_X7_25 (O : cp_Ok x E RX7 bc nL d mc ms) {a y : Nat} (hs : sh a = (8, 0)) (hr : R a 6 = some y) (hd : decode bc pc = .ok (.getfield 25, 3)) (k : cp_G x E nL cells slots cnt sh I R (pc + 3) L (.ref y :: st)) : cp_G x E nL cells slots cnt sh I R pc L (.ref a :: st) := cp_getr O cp_cX7 (j := 6) (by decide) fl_X7_25 rfl hs hr hd k
theorem fl_X7_76 : cp_lk RX7 76 TX7 7 := cp_TG_in (i := 673) (by decide +kernel) (by decide +kernel)
theorem fg_X7_76 (O : cp_Ok x E RX7 bc nL d mc ms) {a : Nat} (hs : sh a = (8, 0)) (hd : decode bc pc = .ok (.getfield 76, 3)) (k : cp_G x E nL cells slots cnt sh I R (pc + 3) L (.int (I a 7) :: st)) : cp_G x E nL cells slots cnt sh I R pc L (.ref a :: st) := cp_get O cp_cX7 (j := 7) (by decide) fl_X7_76 hs hd k
theorem fp_X7_76 (O : cp_Ok x E RX7 bc nL d mc ms) {a : Nat} {v : Int32} (hs : sh a = (8, 0)) (hd : decode bc pc = .ok (.putfield 76, 3)) (k : cp_G x E nL cells slots cnt sh (cp_wi I a 7 v) R (pc + 3) L st) : cp_G x E nL cells slots cnt sh I R pc L (.int v :: .ref a :: st) := cp_put O cp_cX7 (j := 7) (by decide) fl_X7_76 rfl (ty := .int) (by decide +kernel) ⟨rfl, rfl⟩ rfl hs hd k
theorem fl_X7_79 : cp_lk RX7 79 TX7 8 := cp_TG_in (i := 674) (by decide +kernel) (by decide +kernel)
theorem fg_X7_79 (O : cp_Ok x E RX7 bc nL d mc ms) {a : Nat} (hs : sh a = (8, 0)) (hd : decode bc pc = .ok (.getfield 79, 3)) (k : cp_G x E nL cells slots cnt sh I R (pc + 3) L (.int (I a 8) :: st)) : cp_G x E nL cells slots cnt sh I R pc L (.ref a :: st) := cp_get O cp_cX7 (j := 8) (by decide) fl_X7_79 hs hd k
theorem fp_X7_79 (O : cp_Ok x E RX7 bc nL d mc ms) {a : Nat} {v : Int32} (hs : sh a = (8, 0)) (hd : decode bc pc = .ok (.putfield 79, 3)) (k : cp_G x E nL cells slots cnt sh (cp_wi I a 8 v) R (pc + 3) L st) : cp_G x E nL cells slots cnt sh I R pc L (.int v :: .ref a :: st) := cp_put O cp_cX7 (j := 8) (by decide) fl_X7_79 rfl (ty := .int) (by decide +kernel) ⟨rfl, rfl⟩ rfl hs hd k
theorem fl_X7_28 : cp_lk RX7 28 TX7 9 := cp_TG_in (i := 675) (by decide +kernel) (by decide +kernel)
theorem fg_X7_28 (O : cp_Ok x E RX7 bc nL d mc ms) {a y : Nat} (hs : sh a = (8, 0)) (hr : R a 9 = some y) (hd : decode bc pc = .ok (.getfield 28, 3)) (k : cp_G x E nL cells slots cnt sh I R (pc + 3) L (.ref y :: st)) : cp_G x E nL cells slots cnt sh I R pc L (.ref a :: st) := cp_getr O cp_cX7 (j := 9) (by decide) fl_X7_28 rfl hs hr hd k
theorem fl_X7_183 : cp_lk RX7 183 TX7 10 := cp_TG_in (i := 676) (by decide +kernel) (by decide +kernel)
theorem fg_X7_183 (O : cp_Ok x E RX7 bc nL d mc ms) {a : Nat} (hs : sh a = (8, 0)) (hd : decode bc pc = .ok (.getfield 183, 3)) (k : cp_G x E nL cells slots cnt sh I R (pc + 3) L (.int (I a 10) :: st)) : cp_G x E nL cells slots cnt sh I R pc L (.ref a :: st) := cp_get O cp_cX7 (j := 10) (by decide) fl_X7_183 hs hd k
theorem fp_X7_183 (O : cp_Ok x E RX7 bc nL d mc ms) {a : Nat} {v : Int32} (hs : sh a = (8, 0)) (hd : decode bc pc = .ok (.putfield 183, 3)) (k : cp_G x E nL cells slots cnt sh (cp_wi I a 10 v) R (pc + 3) L st) : cp_G x E nL cells slots cnt sh I R pc L (.int v :: .ref a :: st) := cp_put O cp_cX7 (j := 10) (by decide) fl_X7_183 rfl (ty := .int) (by decide +kernel) ⟨rfl, rfl⟩ rfl hs hd k
theorem fl_X7_201 : cp_lk RX7 201 TX7 11 := cp_TG_in (i := 677) (by decide +kernel) (by decide +kernel)
theorem fg_X7_201 (O : cp_Ok x E RX7 bc nL d mc ms) {a : Nat} (hs : sh a = (8, 0)) (hd : decode bc pc = .ok (.getfield 201, 3)) (k : cp_G x E nL cells slots cnt sh I R (pc + 3) L (.int (I a 11) :: st)) : cp_G x E nL cells slots cnt sh I R pc L (.ref a :: st) := cp_get O cp_cX7 (j := 11) (by decide) fl_X7_201 hs hd k
theorem fp_X7_201 (O : cp_Ok x E RX7 bc nL d mc ms) {a : Nat} {v : Int32} (hs : sh a = (8, 0)) (hd : decode bc pc = .ok (.putfield 201, 3)) (k : cp_G x E nL cells slots cnt sh (cp_wi I a 11 v) R (pc + 3) L st) : cp_G x E nL cells slots cnt sh I R pc L (.int v :: .ref a :: st) := cp_put O cp_cX7 (j := 11) (by decide) fl_X7_201 rfl (ty := .int) (by decide +kernel) ⟨rfl, rfl⟩ rfl hs hd k
theorem fl_X7_219 : cp_lk RX7 219 TX7 12 := cp_TG_in (i := 678) (by decide +kernel) (by decide +kernel)
theorem fg_X7_219 (O : cp_Ok x E RX7 bc nL d mc ms) {a : Nat} (hs : sh a = (8, 0)) (hd : decode bc pc = .ok (.getfield 219, 3)) (k : cp_G x E nL cells slots cnt sh I R (pc + 3) L (.int (I a 12) :: st)) : cp_G x E nL cells slots cnt sh I R pc L (.ref a :: st) := cp_get O cp_cX7 (j := 12) (by decide) fl_X7_219 hs hd k
theorem fp_X7_219 (O : cp_Ok x E RX7 bc nL d mc ms) {a : Nat} {v : Int32} (hs : sh a = (8, 0)) (hv : v = 0 ∨ v = 1) (hd : decode bc pc = .ok (.putfield 219, 3)) (k : cp_G x E nL cells slots cnt sh (cp_wi I a 12 v) R (pc + 3) L st) : cp_G x E nL cells slots cnt sh I R pc L (.int v :: .ref a :: st) := cp_put O cp_cX7 (j := 12) (by decide) fl_X7_219 rfl (ty := .boolean) (by decide +kernel) (cp_narb hv) rfl hs hd k
theorem fl_X7_223 : cp_lk RX7 223 TX7 13 := cp_TG_in (i := 679) (by decide +kernel) (by decide +kernel)
theorem fg_X7_223 (O : cp_Ok x E RX7 bc nL d mc ms) {a : Nat} (hs : sh a = (8, 0)) (hd : decode bc pc = .ok (.getfield 223, 3)) (k : cp_G x E nL cells slots cnt sh I R (pc + 3) L (.int (I a 13) :: st)) : cp_G x E nL cells slots cnt sh I R pc L (.ref a :: st) := cp_get O cp_cX7 (j := 13) (by decide) fl_X7_223 hs hd k
theorem fp_X7_223 (O : cp_Ok x E RX7 bc nL d mc ms) {a : Nat} {v : Int32} (hs : sh a = (8, 0)) (hd : decode bc pc = .ok (.putfield 223, 3)) (k : cp_G x E nL cells slots cnt sh (cp_wi I a 13 v) R (pc + 3) L st) : cp_G x E nL cells slots cnt sh I R pc L (.int v :: .ref a :: st) := cp_put O cp_cX7 (j := 13) (by decide) fl_X7_223 rfl (ty := .int) (by decide +kernel) ⟨rfl, rfl⟩ rfl hs hd k
theorem fl_X7_207 : cp_lk RX7 207 TX7 14 := cp_TG_in (i := 680) (by decide +kernel) (by decide +kernel)
theorem fg_X7_207 (O : cp_Ok x E RX7 bc nL d mc ms) {a : Nat} (hs : sh a = (8, 0)) (hd : decode bc pc = .ok (.getfield 207, 3)) (k : cp_G x E nL cells slots cnt sh I R (pc + 3) L (.int (I a 14) :: st)) : cp_G x E nL cells slots cnt sh I R pc L (.ref a :: st) := cp_get O cp_cX7 (j := 14) (by decide) fl_X7_207 hs hd k
theorem fp_X7_207 (O : cp_Ok x E RX7 bc nL d mc ms) {a : Nat} {v : Int32} (hs : sh a = (8, 0)) (hd : decode bc pc = .ok (.putfield 207, 3)) (k : cp_G x E nL cells slots cnt sh (cp_wi I a 14 v) R (pc + 3) L st) : cp_G x E nL cells slots cnt sh I R pc L (.int v :: .ref a :: st) := cp_put O cp_cX7 (j := 14) (by decide) fl_X7_207 rfl (ty := .int) (by decide +kernel) ⟨rfl, rfl⟩ rfl hs hd k
end CPF
end
section
theorem cp_nn00 {k : Nat} (h : k < 2 ^ 31) : ¬ nI k < 0 := nI_pos h
theorem cp_oi_i : Cond.instanceMethod Lib.objectInit ∈ cp_TG := cp_TG_in (i := 87) (by decide +kernel) (by decide +kernel)
theorem cp_oi_c : Cond.code Lib.objectInit ⟨#[0xb1]⟩ 1 none ∈ cp_TG := cp_TG_in (i := 88) (by decide +kernel) (by decide +kernel)
theorem cp_cl_l : Cond.methodLink RX1 13 ⟨"[I", "clone", "()Ljava/lang/Object;"⟩ ∈ cp_TG := cp_TG_in (i := 97) (by decide +kernel) (by decide +kernel)
theorem cp_cl_s : Cond.sameMethod "[I" "java/lang/Object" "clone" "()Ljava/lang/Object;" ∈ cp_TG := cp_TG_in (i := 98) (by decide +kernel) (by decide +kernel)
theorem cp_cl_n : Cond.native ⟨"java/lang/Object", "clone", "()Ljava/lang/Object;"⟩ ∈ cp_TG := cp_TG_in (i := 99) (by decide +kernel) (by decide +kernel)
theorem cp_cl_i : Cond.instanceMethod ⟨"java/lang/Object", "clone", "()Ljava/lang/Object;"⟩ ∈ cp_TG := cp_TG_in (i := 100) (by decide +kernel) (by decide +kernel)
theorem cp_cl_e : Cond.selects "[I" ⟨"[I", "clone", "()Ljava/lang/Object;"⟩ ⟨"java/lang/Object", "clone", "()Ljava/lang/Object;"⟩ ∈ cp_TG := cp_TG_in (i := 101) (by decide +kernel) (by decide +kernel)
theorem cp_ca_l : Cond.classLink RX1 14 "[I" ∈ cp_TG := cp_TG_in (i := 103) (by decide +kernel) (by decide +kernel)
theorem cp_ac_9 : Cond.arrayClass .int ∈ cp_TG := cp_TG_in (i := 152) (by decide +kernel) (by decide +kernel)
theorem cp_ac_10 : Cond.arrayClass .char ∈ cp_TG := cp_TG_in (i := 228) (by decide +kernel) (by decide +kernel)
/-! MAKING: new objects and arrays come behind all cells; where nothing lies yet numbers are 0 and references null -/
def cp_sN (sh : cp_Shp) (a : Nat) (k : Nat × Nat) : cp_Shp := fun x => if x = a then k else sh x
theorem cp_sN_s {sh : cp_Shp} {a : Nat} {k : Nat × Nat} : cp_sN sh a k a = k := by simp [cp_sN]
theorem cp_sN_n {sh : cp_Shp} {a x : Nat} {k : Nat × Nat} (h : x ≠ a) : cp_sN sh a k x = sh x := by simp [cp_sN, h]
section CPMK
variable {x : cp_Cx} {E : cp_En} {own : String} {bc : ByteArray} {nL d mc ms : Nat} {cells slots cnt : Nat} {sh : cp_Shp} {I : cp_Mem} {R : cp_Rem} {pc : Nat} {L : List (Option Value)} {st : List Value}
theorem cp_PW_push {H H1 : Heap} {k : Nat × Nat} (hW : cp_PW E cnt sh I R H) (hk : k.1 ≠ 0) (z1 : H1.size = H.size + 1) (o1 : ∀ q : Nat, q < H.size → H1[q]? = H[q]?) (hat : va_at (cp_D E) vwCl (cp_b0 E + cnt, cp_e (cp_cs E) k (I (cp_b0 E + cnt)) (R (cp_b0 E + cnt))) H1) : cp_PW E (cnt + 1) (cp_sN sh (cp_b0 E + cnt) k) I R H1 := by
  refine ⟨fun a => ?_, by rw [z1, hW.2.1]; omega, fun q p hq => ?_⟩
  · by_cases e : a = cp_b0 E + cnt
    · subst e
      rw [cp_sN_s]
      exact ⟨fun _ => by omega, fun _ => hk⟩
    · rw [cp_sN_n e, hW.1 a]
      omega
  · have hl := (List.getElem?_eq_some_iff.mp hq).1
    rw [cp_WL_len] at hl
    rw [cp_WL_get E (cnt + 1) _ I R hl] at hq
    cases hq
    by_cases e : q = cnt
    · subst e
      rw [cp_sN_s]
      exact hat
    · rw [cp_sN_n (by omega)]
      exact (hW.2.2 q _ (cp_WL_get E cnt sh I R (show q < cnt by omega))).kept (o1 _ (by rw [hW.2.1]; show cp_b0 E + q < _; omega))
theorem cp_S_push {H H1 : Heap} {locs : List Loc} (hS : va_S (cp_A E) (cp_xs x).heap H locs) (z1 : H1.size = H.size + 1) (o1 : ∀ q : Nat, q < H.size → H1[q]? = H[q]?) : va_S (cp_A E) (cp_xs x).heap H1 locs :=
  ⟨Nat.le_trans hS.1 (by omega), fun q h1 h2 => (o1 q (Nat.lt_of_lt_of_le h1 hS.1)).trans (hS.2.1 q h1 h2), hS.2.2⟩
theorem cp_new (O : cp_Ok x E own bc nL d mc ms) {ci index : Nat} {C : String} {T : u_T} {N : Nat} {ty0 : Nat → FieldType} (hc : cp_clf ci C T N ty0) (hcl : Cond.classLink own index C ∈ cp_TG) (hins : Cond.instantiable C N ∈ cp_TG) (hini : Cond.initialized C ∈ cp_TG) (hdf : ∀ j, j < N → defaultValue (ty0 j) = cp_fv ci (fun _ => 0) (fun _ => none) j) (hI : I (cp_b0 E + cnt) = fun _ => 0) (hR : R (cp_b0 E + cnt) = fun _ => none) (hcs : cells + 1 ≤ mc ∧ slots + N ≤ ms) (hd : decode bc pc = .ok (.new index, 3))
    (k : cp_G x E nL (cells + 1) (slots + N) (cnt + 1) (cp_sN sh (cp_b0 E + cnt) (ci + 1, 0)) I R (pc + 3) L (.ref (cp_b0 E + cnt) :: st)) : cp_G x E nL cells slots cnt sh I R pc L st := by
  intro H locs ls hW hS hl
  obtain ⟨c1, c2, c3, c4, c5, c6⟩ := hc
  have hKn := O.2.2.2.2.2.1.1.1 ci _ c1
  refine W.newcK O.1 O.2.1 O.2.2.2.1 (O.2.2.2.2.1 _ hcl) (O.2.2.2.2.1 _ hins) (O.2.2.2.2.1 _ hini) rfl hd (Nat.le_trans hcs.1 O.2.2.2.2.2.2.2.2.2.2.1) (Nat.le_trans hcs.2 O.2.2.2.2.2.2.2.2.2.2.2) hKn.2.1 hW.2.1 fun H1 kC hkC e1 z1 o1 => ?_
  have z2 : H1.size = H.size + 1 := by rw [z1, hW.2.1]
  have o2 : ∀ q : Nat, q < H.size → H1[q]? = H[q]? := fun q hq => o1 q (by rw [← hW.2.1]; exact hq)
  have hat : va_at (cp_D E) vwCl (cp_b0 E + cnt, cp_e (cp_cs E) (ci + 1, 0) (I (cp_b0 E + cnt)) (R (cp_b0 E + cnt))) H1 := by
    rw [cp_e_obj _ _ _ _ c5]
    refine ⟨_, c1, (u_born ty0 O.2.2.2.2.1 c2 hKn hkC e1 c3).to (fun j hj => ?_)⟩
    have h1 := cp_fs_get ci (I (cp_b0 E + cnt)) (R (cp_b0 E + cnt)) (show j < cp_nf ci by rw [c6]; exact hj)
    rw [hdf j hj, ← hI, ← hR]
    unfold vp_V
    rw [List.getD_eq_getElem?_getD, h1]
    rfl
  exact k H1 locs ls (cp_PW_push hW (Nat.succ_ne_zero _) z2 o2 hat) (cp_S_push hS z2 o2) hl
theorem cp_newi (O : cp_Ok x E own bc nL d mc ms) {n : Nat} {v : Int32} (harr : Cond.arrayClass .int ∈ cp_TG) (hv : v = nI n) (hn : n < 100000) (hI : I (cp_b0 E + cnt) = fun _ => 0) (hcs : cells + 1 ≤ mc ∧ slots + n ≤ ms) (hd : decode bc pc = .ok (.newarray .int, 2))
    (k : cp_G x E nL (cells + 1) (slots + n) (cnt + 1) (cp_sN sh (cp_b0 E + cnt) (9, n)) I R (pc + 2) L (.ref (cp_b0 E + cnt) :: st)) : cp_G x E nL cells slots cnt sh I R pc L (.int v :: st) := by
  intro H locs ls hW hS hl
  subst hv
  refine va_newaK O.1 O.2.1 (atype := .int) (O.2.2.2.2.1 _ harr) rfl hd rfl (cp_nn00 (by omega)) (nI_clamp (by omega)) (by show n * 4 ≤ 536870912; omega) (Nat.le_trans hcs.1 O.2.2.2.2.2.2.2.2.2.2.1) (Nat.le_trans hcs.2 O.2.2.2.2.2.2.2.2.2.2.2) hW.2.1 fun H1 cA e1 z1 o1 hAr hNm => ?_
  have z2 : H1.size = H.size + 1 := by rw [z1, hW.2.1]
  have o2 : ∀ q : Nat, q < H.size → H1[q]? = H[q]? := fun q hq => o1 q (by rw [← hW.2.1]; exact hq)
  have hcA : cp_cs E 9 = cA := Option.some.inj (((O.2.2.2.2.2.1.1.2 0 _ rfl).2).symm.trans hNm)
  subst hcA
  refine k H1 locs ls (cp_PW_push hW (Nat.succ_ne_zero 8) z2 o2 ?_) (cp_S_push hS z2 o2) hl
  rw [cp_e_int, hI]
  exact e1
theorem cp_newc (O : cp_Ok x E own bc nL d mc ms) {n : Nat} {v : Int32} (harr : Cond.arrayClass .char ∈ cp_TG) (hv : v = nI n) (hn : n < 100000) (hI : I (cp_b0 E + cnt) = fun _ => 0) (hcs : cells + 1 ≤ mc ∧ slots + n ≤ ms) (hd : decode bc pc = .ok (.newarray .char, 2))
    (k : cp_G x E nL (cells + 1) (slots + n) (cnt + 1) (cp_sN sh (cp_b0 E + cnt) (10, n)) I R (pc + 2) L (.ref (cp_b0 E + cnt) :: st)) : cp_G x E nL cells slots cnt sh I R pc L (.int v :: st) := by
  intro H locs ls hW hS hl
  subst hv
  refine va_newaK O.1 O.2.1 (atype := .char) (O.2.2.2.2.1 _ harr) rfl hd rfl (cp_nn00 (by omega)) (nI_clamp (by omega)) (by show n * 2 ≤ 536870912; omega) (Nat.le_trans hcs.1 O.2.2.2.2.2.2.2.2.2.2.1) (Nat.le_trans hcs.2 O.2.2.2.2.2.2.2.2.2.2.2) hW.2.1 fun H1 cA e1 z1 o1 hAr hNm => ?_
  have z2 : H1.size = H.size + 1 := by rw [z1, hW.2.1]
  have o2 : ∀ q : Nat, q < H.size → H1[q]? = H[q]? := fun q hq => o1 q (by rw [← hW.2.1]; exact hq)
  have hcA : cp_cs E 10 = cA := Option.some.inj (((O.2.2.2.2.2.1.1.2 1 _ rfl).2).symm.trans hNm)
  subst hcA
  refine k H1 locs ls (cp_PW_push hW (Nat.succ_ne_zero 9) z2 o2 ?_) (cp_S_push hS z2 o2) hl
  rw [cp_e_chr, hI]
  exact e1
theorem cp_newr (O : cp_Ok x E own bc nL d mc ms) {q n index : Nat} {v : Int32} {C : String} (hk : (q = 11 ∧ C = "CopyPlates$Night") ∨ (q = 12 ∧ C = "CopyPlates$Piece") ∨ (q = 13 ∧ C = "CopyPlates$Plate")) (hcl : Cond.classLink own index C ∈ cp_TG) (hAO : va_AO C (cp_xs x)) (hv : v = nI n) (hn : n < 100000) (hR : R (cp_b0 E + cnt) = fun _ => none) (hcs : cells + 1 ≤ mc ∧ slots + n ≤ ms) (hd : decode bc pc = .ok (.anewarray index, 3))
    (k : cp_G x E nL (cells + 1) (slots + n) (cnt + 1) (cp_sN sh (cp_b0 E + cnt) (q, n)) I R (pc + 3) L (.ref (cp_b0 E + cnt) :: st)) : cp_G x E nL cells slots cnt sh I R pc L (.int v :: st) := by
  intro H locs ls hW hS hl
  subst hv
  have hcl0 : (nI n).toNatClampNeg = n := nI_clamp (by omega)
  refine W.anew O.1 O.2.1 O.2.2.2.1 (O.2.2.2.2.1 _ hcl) (va_AO.use hAO) rfl hd rfl (cp_nn00 (by omega)) (by rw [hcl0]; omega) (Nat.le_trans hcs.1 O.2.2.2.2.2.2.2.2.2.2.1) (by rw [hcl0]; exact Nat.le_trans hcs.2 O.2.2.2.2.2.2.2.2.2.2.2) fun cA kA comp f1 f2 f3 f4 => ?_
  rw [hcl0]
  generalize hH1 : H.push ({ cls := cA, slots := Array.replicate n .null, vm := .none } : Cell) = H1
  have z2 : H1.size = H.size + 1 := by rw [← hH1, Array.size_push]
  have e1 : H1[H.size]? = some (arrV cA n (fun _ => .null)) := by rw [← hH1, Array.getElem?_push_size, ← arrV_new]
  have o2 : ∀ q : Nat, q < H.size → H1[q]? = H[q]? := fun q hq => by rw [← hH1, Array.getElem?_push, if_neg (Nat.ne_of_lt hq)]
  have hcA : cp_cs E q = cA := by
    obtain ⟨-, -, -, -, -, f5⟩ := (O.2.2.2.2.2.1.1.2 (q - 9) _ (cp_refT hk)).2
    exact Option.some.inj (f5.symm.trans f1)
  subst hcA
  rw [hW.2.1] at e1 ⊢
  refine k H1 locs ls (cp_PW_push hW (by show q ≠ 0; omega) z2 o2 ?_) (cp_S_push hS z2 o2) hl
  rw [cp_e_ref _ _ _ _ _ (show 10 < q by omega), hR]
  exact e1
/-- a reference into a row -/
theorem cp_aast (O : cp_Ok x E own bc nL d mc ms) {a q n j v : Nat} {i : Int32} {ci : Nat} {C : String} {T : u_T} {N : Nat} {ty0 : Nat → FieldType} (hk : (q = 11 ∧ C = "CopyPlates$Night") ∨ (q = 12 ∧ C = "CopyPlates$Piece") ∨ (q = 13 ∧ C = "CopyPlates$Plate")) (hc : cp_clf ci C T N ty0) (hs : sh a = (q, n)) (hv : sh v = (ci + 1, 0)) (hi : i = nI j) (hj : j < n) (hn : n < 2 ^ 31) (hd : decode bc pc = .ok (.aastore, 1))
    (k : cp_G x E nL cells slots cnt sh I (cp_wr R a j (some v)) (pc + 1) L st) : cp_G x E nL cells slots cnt sh I R pc L (.ref v :: .int i :: .ref a :: st) := by
  intro H locs ls hW hS hl
  obtain ⟨c1, c2, c3, c4, c5, c6⟩ := hc
  have h10 : 10 < q := by omega
  have ha := (hW.1 a).mp (by rw [hs]; show q ≠ 0; omega)
  have hva := cp_PW_in hW hv
  have he := cp_WL_at E cnt sh I R ha
  have hve := cp_WL_at E cnt sh I R hva
  rw [hs, cp_e_ref _ _ _ _ _ h10] at he
  rw [hv, cp_e_obj _ _ _ _ c5] at hve
  subst hi
  have hK := O.2.2.2.2.2.1.1
  obtain ⟨r', hr', cellV, g1, g2, g3, -⟩ := hW.2.2 _ _ hve
  have hr' : r' = (C, T, N) := Option.some.inj (hr'.symm.trans c1)
  subst hr'
  have hcls := (hK.1 ci _ c1).2
  obtain ⟨kA, comp, k1, k2, k3, -⟩ := (hK.2 (q - 9) _ (cp_refT hk)).2
  have hcomp : comp = (cp_D E).1 ci := Option.some.inj (k3.symm.trans hcls.1)
  subst hcomp
  obtain ⟨kC, hkC, -⟩ := hcls.2
  have hc0 : (nI j).toNatClampNeg = j := nI_clamp (Nat.lt_trans hj hn)
  refine W.aast O.1 O.2.1 (hW.2.2 _ _ he) (fun q h => by cases h) (fun h => by cases h) k1 k2 rfl hkC ⟨cp_nn00 (Nat.lt_trans hj hn), by rw [hc0]; show _ < (arrV _ _ _).slots.size; rw [arrV_size]; exact hj⟩ g1 (fun q h => by rw [g3] at h; cases h) (by rw [g2]; exact hkC) (by rw [g2]; exact va_assign hcls) rfl rfl hd fun H1 e z oq => ?_
  have hP := hW.2.2.set (H1 := H1) (e := .inl (cp_cs E q, n, .inr (.inr (.inr (.inr (cp_wr R a j (some v) a)))))) (cp_WL_D E cnt sh I R) he (by
    show H1[a]? = some (vp_cell _ _)
    rw [e, vp_cell_q, vp_cell_q, arrV_store]
    congr 2
    funext p
    rw [hc0]
    by_cases hp : p = j
    · subst hp; simp [updV, cp_wr, va_rf]
    · simp [updV, cp_wr, hp]) oq
  rw [cp_WL_set (I' := I) (R' := cp_wr R a j (some v)) ha (by rw [hs, cp_e_ref _ _ _ _ _ h10]) (fun p hp => ⟨rfl, cp_wr_a R a j _ hp⟩)] at hP
  exact k H1 _ ls ⟨hW.1, by rw [z]; exact hW.2.1, hP⟩ (hS.put z oq ha.1) hl
/-- a reference into a final field, in a constructor -/
theorem cp_putF (O : cp_Ok x E own bc nL d mc ms) (hin : (cp_xk x).name = "<init>") {ci j index a y : Nat} {T : u_T} {N : Nat} {ty0 : Nat → FieldType} (hc : cp_clf ci own T N ty0) (hj : j < N) (hlk : cp_lk own index T j) (hfin : (T j).2.2.2 = true) (hdecl : (T j).1 = own) {ty : FieldType} (hd0 : parseFieldDescriptor (T j).2.2.1 = some ty) (hn : narrow ty (.ref y) = .ref y ∧ fits ty (.ref y) = true) (hrf : cp_rf ci j = true) (hs : sh a = (ci + 1, 0)) (hd : decode bc pc = .ok (.putfield index, 3))
    (k : cp_G x E nL cells slots cnt sh I (cp_wr R a j (some y)) (pc + 3) L st) : cp_G x E nL cells slots cnt sh I R pc L (.ref y :: .ref a :: st) := by
  intro H locs ls hW hS hl
  obtain ⟨c1, c2, c3, c4, c5, c6⟩ := hc
  have ha := cp_PW_in hW hs
  have he := cp_WL_at E cnt sh I R ha
  rw [hs, cp_e_obj _ _ _ _ c5] at he
  have hK := O.2.2.2.2.2.1.1
  have hts := O.2.2.2.2.1
  have hown := O.2.2.2.1
  have hD := cp_WL_D E cnt sh I R
  have hap := va_apart (own := own) hts c2 ty0 c3 c4 hK c1
  obtain ⟨r, h1, cell, q1, q2, q3, q4⟩ := hW.2.2 _ _ he
  have hr : r = (own, T, N) := Option.some.inj (h1.symm.trans c1)
  subst hr
  obtain ⟨hSl, hfc, kC, hkC, hkind⟩ := hK.1 ci _ c1
  obtain ⟨cf, kf, fi, f, hi, hsl⟩ := hSl j hj
  have hlay := hts _ (c2 _ (u_in_lay hj))
  unfold u_lay at hlay
  rw [if_pos hfin] at hlay
  have hst := (u_facts hfc hkC (u_lays hts c2 hj) hi).1
  have hcf : (cp_xm x).cls = cf := by
    obtain ⟨_, _, c', _, _, _, -, -, hf', -, -, -, hown2, -⟩ := Cond.laysFinal_spec hlay
    have e1 : c' = cf := by have := hi.symm.trans hf'; simp at this; exact this.1.symm
    rw [hdecl] at hown2
    rw [← e1]; exact Option.some.inj (hown.symm.trans hown2)
  have h6 := u_fits hfc hkC hkind (Or.inr hlay) hi hd0 hn.1 hn.2
  refine W.putFinK O.1 O.2.1 hown (hts _ hlk) hi hst hcf hin (by rw [q2]; exact h6) q1 q3 (by rw [hsl]; exact k2_hasslot (q4 j hj)) rfl rfl hd fun H' e1 e2 e3 => ?_
  rw [hsl] at e1 ⊢
  have hlen : j < (cp_fs ci (I a) (R a)).length := by rw [cp_fs_len, c6]; exact hj
  have hP := hW.2.2.set (H1 := H') (e := .inr (ci, (cp_fs ci (I a) (R a)).set j (.ref y))) hD he ⟨_, c1, t_OB.to (V := updV (vp_V (cp_fs ci (I a) (R a))) j (.ref y)) ⟨_, e1, q2, q3, t_set q4 hap hj (.ref y)⟩ (fun i _ => vp_updV_set hlen (.ref y) i)⟩ e3
  rw [cp_WL_set (I' := I) (R' := cp_wr R a j (some y)) ha (by
    rw [hs, cp_e_obj _ _ _ _ c5, cp_fs_set ci (i' := I a) (r' := cp_wr R a j (some y) a) (by unfold cp_fv; rw [if_pos hrf]; simp [cp_wr, va_rf]) (fun q hq => by unfold cp_fv; simp [cp_wr, hq])]) (fun q hq => ⟨rfl, cp_wr_a R a j _ hq⟩)] at hP
  exact k H' _ ls ⟨hW.1, by rw [e2]; exact hW.2.1, hP⟩ (hS.put e2 e3 ha.1) hl
theorem cp_oinit (O : cp_Ok x E own bc nL d mc ms) (hd1 : 1 ≤ d) {index a : Nat} (hlk : Cond.methodLink own index Lib.objectInit ∈ cp_TG) (hrest : (st.map fun v => v.category).sum ≤ 8) (hd : decode bc pc = .ok (.invokespecial index, 3)) (k : cp_G x E nL cells slots cnt sh I R (pc + 3) L st) : cp_G x E nL cells slots cnt sh I R pc L (.ref a :: st) := fun H locs ls hW hS hl =>
  W.objInit O.1 O.2.1 O.2.2.2.1 (O.2.2.2.2.1 _ hlk) (O.2.2.2.2.1 _ cp_oi_i) (O.2.2.2.2.1 _ cp_oi_c) rfl (by rw [O.2.2.1]; exact hl.1) rfl hd (Nat.le_trans hd1 O.2.2.2.2.2.2.2.2.1) (Nat.le_trans (show _ ≤ 44 by show 2 * 0 + _ + 12 ≤ 44; omega) (Nat.le_trans (show 44 ≤ 12 + 32 * d by omega) O.2.2.2.2.2.2.2.2.2.1)) (k H locs ls hW hS hl)
/-- the first table, again -/
theorem cp_clone (O : cp_Ok x E RX1 bc nL d mc ms) (hd1 : 1 ≤ d) (hI : I (cp_b0 E + cnt) = fun j => if j < 4 then cp_sv 0 j else 0) (hrest : (st.map fun v => v.category).sum ≤ 8) (hcs : cells + 1 ≤ mc ∧ slots + 4 ≤ ms) (hd : decode bc pc = .ok (.invokevirtual 13, 3))
    (k : cp_G x E nL (cells + 1) (slots + 4) (cnt + 1) (cp_sN sh (cp_b0 E + cnt) (9, 4)) I R (pc + 3) L (.ref (cp_b0 E + cnt) :: st)) : cp_G x E nL cells slots cnt sh I R pc L (.ref (cp_ts E 0) :: st) := by
  intro H locs ls hW hS hl
  obtain ⟨hZ, hF⟩ := O.2.2.2.2.2.2.1
  obtain ⟨cell, f1, f2, f3⟩ := hF
  obtain ⟨cell', t1, t2, t3, t4, t5, t6, t7⟩ := (hZ 0 (by decide)).2
  have hcc : cell = cell' := Option.some.inj (f1.symm.trans t1)
  subst hcc
  have hlt : cp_ts E 0 < (cp_xs x).heap.size := (Array.getElem?_eq_some_iff.mp f1).1
  have hcH : H[cp_ts E 0]? = some cell := (hS.2.1 _ hlt t7).trans f1
  have hK := O.2.2.2.2.2.1.1
  have hnm : (cp_xs x).vm.findClass "[I" = some cell.cls := by
    rw [f3]
    exact (hK.2 0 _ rfl).2
  have hcast := O.2.2.2.2.2.1.2.2.2.1
  obtain ⟨c0, t0', g1, g2, g3⟩ := Cond.castable_spec (va_Nw.use (A := cp_xa x) rfl hcast)
  have hc0 : cell.cls = c0 := Option.some.inj (hnm.symm.trans g1)
  subst hc0
  intro T hT X
  obtain ⟨-, kS, hkS, compS, hkindS⟩ := id t2
  obtain ⟨-, kA, hkA, comp, hkind⟩ := State.isArrayOf_alike X.warmed.alike t2
  obtain ⟨vm', X', step⟩ := X.cloneArray O.1 O.2.2.2.1 (O.2.2.2.2.1 _ cp_cl_l) (O.2.2.2.2.1 _ cp_cl_s) (O.2.2.2.2.1 _ cp_cl_n) (O.2.2.2.2.1 _ cp_cl_i) (O.2.2.2.2.1 _ cp_cl_e) (a := cp_ts E 0) (cell := cell) (by rw [hT]; exact hcH) t2.1 t3 hnm g2 g3
    (fun i v hv => by
      have hk' : T.vm.classes[cell.cls]? = some kA := hkA
      have hi : i < 4 := by rw [← f2]; exact (Array.getElem?_eq_some_iff.mp hv).1
      have hvv : (Value.int (cp_sv 0 i)) = v := Option.some.inj ((t6 i hi).symm.trans hv)
      rw [← hvv]
      simp [State.fitsSlot, State.slotType?, hk', hkind, fits])
    (g := F0 (cp_xm x) pc ls (.ref (cp_ts E 0) :: st)) rfl (by rw [O.2.2.1]; exact hl.1) rfl (by rw [O.2.1]; exact hd) (Nat.le_trans hd1 O.2.2.2.2.2.2.2.2.1) (Nat.le_trans (show _ ≤ 44 by show 2 * 0 + _ + 14 ≤ 44; omega) (Nat.le_trans (show 44 ≤ 12 + 32 * d by omega) O.2.2.2.2.2.2.2.2.2.1)) (Nat.le_trans hcs.1 O.2.2.2.2.2.2.2.2.2.2.1) (by rw [f2]; exact Nat.le_trans hcs.2 O.2.2.2.2.2.2.2.2.2.2.2) (hloader := Vm.clonesLoader_of_array hkS hkindS)
  have ecell : ({ cls := cell.cls, slots := cell.slots } : Cell) = arrV (cp_cs E 9) 4 (fun j => .int (cp_sv 0 j)) := by
    rw [f3]
    unfold arrV
    congr 1
    apply Array.ext
    · rw [f2]; simp
    · intro i h1 h2
      have hi : i < 4 := by rw [← f2]; exact h1
      have h3 := t6 i hi
      rw [Array.getElem?_eq_getElem h1] at h3
      rw [Option.some.inj h3]
      simp
  rw [ecell, f2] at X'
  rw [ecell] at step
  generalize hH1 : H.push (arrV (cp_cs E 9) 4 (fun j => .int (cp_sv 0 j))) = H1
  have z2 : H1.size = H.size + 1 := by rw [← hH1, Array.size_push]
  have e1 : H1[H.size]? = some (arrV (cp_cs E 9) 4 (fun j => .int (cp_sv 0 j))) := by rw [← hH1, Array.getElem?_push_size]
  have o2 : ∀ q : Nat, q < H.size → H1[q]? = H[q]? := fun q hq => by rw [← hH1, Array.getElem?_push, if_neg (Nat.ne_of_lt hq)]
  rw [hW.2.1] at e1
  have hat : va_at (cp_D E) vwCl (cp_b0 E + cnt, cp_e (cp_cs E) (9, 4) (I (cp_b0 E + cnt)) (R (cp_b0 E + cnt))) H1 := by
    rw [cp_e_int]
    show H1[cp_b0 E + cnt]? = some (vp_cell _ _)
    rw [e1, vp_cell_i]
    unfold arrV
    congr 2
    apply Array.ext
    · simp
    · intro i h1 h2
      have hi : i < 4 := by simpa using h1
      simp [hI, hi]
  obtain ⟨t, b1, b2⟩ := k H1 locs ls (cp_PW_push hW (by decide) z2 o2 hat) (cp_S_push hS z2 o2) hl ((T.setVm vm').pushCell (arrV (cp_cs E 9) 4 (fun j => .int (cp_sv 0 j)))) (by rw [← hH1, ← hT]; rfl) X'
  refine ⟨t, step t ?_, b2⟩
  rw [hT, hW.2.1]
  exact b1
theorem cp_castI (O : cp_Ok x E RX1 bc nL d mc ms) {a n : Nat} (hs : sh a = (9, n)) (hd : decode bc pc = .ok (.checkcast 14, 3)) (k : cp_G x E nL cells slots cnt sh I R (pc + 3) L (.ref a :: st)) : cp_G x E nL cells slots cnt sh I R pc L (.ref a :: st) := by
  intro H locs ls hW hS hl
  have ha := cp_PW_in hW hs
  have he := cp_WL_at E cnt sh I R ha
  rw [hs, cp_e_int] at he
  exact va_castA O.1 O.2.1 O.2.2.2.1 (O.2.2.2.2.1 _ cp_ca_l) hW.2.2 _ he ((O.2.2.2.2.2.1.1.2 0 _ rfl).2) hd (k H locs ls hW hS hl)
end CPMK
section CPMC
variable {x : cp_Cx} {E : cp_En} {own : String} {bc : ByteArray} {nL d mc ms : Nat} {cells slots cnt : Nat} {sh : cp_Shp} {I : cp_Mem} {R : cp_Rem} {pc : Nat} {L : List (Option Value)} {st stk rest As : List Value} {y : MethodName} {cb : ByteArray} {nLc n index dc mcc msc b : Nat} {ret : Option FieldType} {Post : Option Value → Nat → cp_Shp → cp_Mem → cp_Rem → Prop}
theorem cp_callI (O : cp_Ok x E own bc nL d mc ms) (hM : cp_me y cb nLc none n) (hy1 : y.name = "<init>") (hIM : Cond.instanceMethod y ∈ cp_TG) (hlk : Cond.methodLink own index y ∈ cp_TG)
    (hC : cp_Ct (cp_xl x) E y cb nLc none dc mcc msc (.ref b :: As) cnt sh I R Post) (hd : decode bc pc = .ok (.invokespecial index, 3)) (hn : As.length = n) (hst : stk = As.reverse ++ .ref b :: rest) (hr : cp_rl d nLc dc) (hcs : cells + mcc ≤ mc ∧ slots + msc ≤ ms) (hrest : (rest.map fun v => v.category).sum ≤ 8)
    (k : ∀ v cnt' sh' I' R', Post v cnt' sh' I' R' → cp_G x E nL (cells + mcc) (slots + msc) cnt' sh' I' R' (pc + 3) L (v.toList ++ rest)) : cp_G x E nL cells slots cnt sh I R pc L stk := by
  intro H locs ls hW hS hl
  subst hst
  exact cp_after O (a := (Value.ref b :: As).toArray) hW hS hl (va_runI (As := As) (rest := rest) ⟨O.1, O.2.1, O.2.2.1, O.2.2.2.1, O.2.2.2.2.1⟩ hC (cwI n O.2.2.2.2.1 (cp_goodIn hM.1) rfl rfl rfl (O.2.2.2.2.1 _ hM.2.1) (O.2.2.2.2.1 _ hlk) (O.2.2.2.2.1 _ hIM) hy1 ⟨hM.2.2.1, hM.2.2.2.1, hM.2.2.2.2⟩ (cp_room O hr)) ⟨cp_blind, cp_pre O hW hS⟩ rfl hn hl.1 rfl (lv_room hrest) hd ⟨Nat.le_trans hcs.1 O.2.2.2.2.2.2.2.2.2.2.1, Nat.le_trans hcs.2 O.2.2.2.2.2.2.2.2.2.2.2⟩) k
theorem cp_callIN (O : cp_Ok x E own bc nL d mc ms) (hM : cp_me y cb nLc none n) (hy1 : y.name = "<init>") (hIM : Cond.instanceMethod y ∈ cp_TG) (hlk : (own, index, y) ∈ cp_nM)
    (hC : cp_Ct (cp_xl x) E y cb nLc none dc mcc msc (.ref b :: As) cnt sh I R Post) (hd : decode bc pc = .ok (.invokespecial index, 3)) (hn : As.length = n) (hst : stk = As.reverse ++ .ref b :: rest) (hr : cp_rl d nLc dc) (hcs : cells + mcc ≤ mc ∧ slots + msc ≤ ms) (hrest : (rest.map fun v => v.category).sum ≤ 8)
    (k : ∀ v cnt' sh' I' R', Post v cnt' sh' I' R' → cp_G x E nL (cells + mcc) (slots + msc) cnt' sh' I' R' (pc + 3) L (v.toList ++ rest)) : cp_G x E nL cells slots cnt sh I R pc L stk := by
  intro H locs ls hW hS hl
  subst hst
  exact cp_after O (a := (Value.ref b :: As).toArray) hW hS hl (va_runIN (As := As) (rest := rest) ⟨O.1, O.2.1, O.2.2.1, O.2.2.2.1, O.2.2.2.2.1⟩ hC ⟨va_cnB n O.2.2.2.2.1 (cp_goodIn hM.1) rfl rfl rfl (O.2.2.2.2.2.1.2.2.1 _ hlk) (O.2.2.2.2.1 _ hM.2.1) ⟨hM.2.2.1, hM.2.2.2.1, hM.2.2.2.2⟩ (cp_room O hr), hy1, O.2.2.2.2.1 _ hIM⟩ ⟨cp_blind, cp_pre O hW hS⟩ rfl hn hl.1 rfl (lv_room hrest) hd ⟨Nat.le_trans hcs.1 O.2.2.2.2.2.2.2.2.2.2.1, Nat.le_trans hcs.2 O.2.2.2.2.2.2.2.2.2.2.2⟩) k
end CPMC
theorem cn_L_7 : Cond.classLink RL 7 RX6 ∈ cp_TG := cp_TG_in (i := 81) (by decide +kernel) (by decide +kernel)
theorem cn_X6_7 : Cond.classLink RX6 7 RX1 ∈ cp_TG := cp_TG_in (i := 89) (by decide +kernel) (by decide +kernel)
theorem cn_X1_27 : Cond.classLink RX1 27 RX4 ∈ cp_TG := cp_TG_in (i := 104) (by decide +kernel) (by decide +kernel)
theorem cn_X1_37 : Cond.classLink RX1 37 RX5 ∈ cp_TG := cp_TG_in (i := 153) (by decide +kernel) (by decide +kernel)
theorem cn_X6_19 : Cond.classLink RX6 19 RX0 ∈ cp_TG := cp_TG_in (i := 193) (by decide +kernel) (by decide +kernel)
theorem cn_X0_9 : Cond.classLink RX0 9 RX1 ∈ cp_TG := cp_TG_in (i := 199) (by decide +kernel) (by decide +kernel)
theorem cn_X6_30 : Cond.classLink RX6 30 RX3 ∈ cp_TG := cp_TG_in (i := 213) (by decide +kernel) (by decide +kernel)
theorem cn_X6_37 : Cond.classLink RX6 37 RX2 ∈ cp_TG := cp_TG_in (i := 229) (by decide +kernel) (by decide +kernel)
theorem cn_L_10 : Cond.classLink RL 10 RX7 ∈ cp_TG := cp_TG_in (i := 660) (by decide +kernel) (by decide +kernel)
theorem ci_X6 : Cond.instantiable RX6 6 ∈ cp_TG := cp_TG_in (i := 82) (by decide +kernel) (by decide +kernel)
theorem cj_X6 : Cond.initialized RX6 ∈ cp_TG := cp_TG_in (i := 71) (by decide +kernel) (by decide +kernel)
theorem cd_X6 : ∀ j, j < 6 → defaultValue (tyX6 j) = cp_fv 6 (fun _ => 0) (fun _ => none) j := by decide +kernel
theorem ci_X1 : Cond.instantiable RX1 6 ∈ cp_TG := cp_TG_in (i := 90) (by decide +kernel) (by decide +kernel)
theorem cj_X1 : Cond.initialized RX1 ∈ cp_TG := cp_TG_in (i := 72) (by decide +kernel) (by decide +kernel)
theorem cd_X1 : ∀ j, j < 6 → defaultValue (tyX1 j) = cp_fv 1 (fun _ => 0) (fun _ => none) j := by decide +kernel
theorem ci_X4 : Cond.instantiable RX4 10 ∈ cp_TG := cp_TG_in (i := 106) (by decide +kernel) (by decide +kernel)
theorem cj_X4 : Cond.initialized RX4 ∈ cp_TG := cp_TG_in (i := 73) (by decide +kernel) (by decide +kernel)
theorem cd_X4 : ∀ j, j < 10 → defaultValue (tyX4 j) = cp_fv 4 (fun _ => 0) (fun _ => none) j := by decide +kernel
theorem ci_X5 : Cond.instantiable RX5 3 ∈ cp_TG := cp_TG_in (i := 155) (by decide +kernel) (by decide +kernel)
theorem cj_X5 : Cond.initialized RX5 ∈ cp_TG := cp_TG_in (i := 74) (by decide +kernel) (by decide +kernel)
theorem cd_X5 : ∀ j, j < 3 → defaultValue (tyX5 j) = cp_fv 5 (fun _ => 0) (fun _ => none) j := by decide +kernel
theorem ci_X0 : Cond.instantiable RX0 3 ∈ cp_TG := cp_TG_in (i := 194) (by decide +kernel) (by decide +kernel)
theorem cj_X0 : Cond.initialized RX0 ∈ cp_TG := cp_TG_in (i := 75) (by decide +kernel) (by decide +kernel)
theorem cd_X0 : ∀ j, j < 3 → defaultValue (tyX0 j) = cp_fv 0 (fun _ => 0) (fun _ => none) j := by decide +kernel
theorem ci_X3 : Cond.instantiable RX3 2 ∈ cp_TG := cp_TG_in (i := 214) (by decide +kernel) (by decide +kernel)
theorem cj_X3 : Cond.initialized RX3 ∈ cp_TG := cp_TG_in (i := 76) (by decide +kernel) (by decide +kernel)
theorem cd_X3 : ∀ j, j < 2 → defaultValue (tyX3 j) = cp_fv 3 (fun _ => 0) (fun _ => none) j := by decide +kernel
theorem ci_X2 : Cond.instantiable RX2 7 ∈ cp_TG := cp_TG_in (i := 230) (by decide +kernel) (by decide +kernel)
theorem cj_X2 : Cond.initialized RX2 ∈ cp_TG := cp_TG_in (i := 77) (by decide +kernel) (by decide +kernel)
theorem cd_X2 : ∀ j, j < 7 → defaultValue (tyX2 j) = cp_fv 2 (fun _ => 0) (fun _ => none) j := by decide +kernel
theorem ci_X7 : Cond.instantiable RX7 15 ∈ cp_TG := cp_TG_in (i := 661) (by decide +kernel) (by decide +kernel)
theorem cj_X7 : Cond.initialized RX7 ∈ cp_TG := cp_TG_in (i := 78) (by decide +kernel) (by decide +kernel)
theorem cd_X7 : ∀ j, j < 15 → defaultValue (tyX7 j) = cp_fv 7 (fun _ => 0) (fun _ => none) j := by decide +kernel
theorem ol_X6_1 : Cond.methodLink RX6 1 Lib.objectInit ∈ cp_TG := cp_TG_in (i := 86) (by decide +kernel) (by decide +kernel)
theorem ol_X1_3 : Cond.methodLink RX1 3 Lib.objectInit ∈ cp_TG := cp_TG_in (i := 94) (by decide +kernel) (by decide +kernel)
theorem ol_X4_3 : Cond.methodLink RX4 3 Lib.objectInit ∈ cp_TG := cp_TG_in (i := 110) (by decide +kernel) (by decide +kernel)
theorem ol_X5_1 : Cond.methodLink RX5 1 Lib.objectInit ∈ cp_TG := cp_TG_in (i := 159) (by decide +kernel) (by decide +kernel)
theorem ol_X0_3 : Cond.methodLink RX0 3 Lib.objectInit ∈ cp_TG := cp_TG_in (i := 198) (by decide +kernel) (by decide +kernel)
theorem ol_X3_3 : Cond.methodLink RX3 3 Lib.objectInit ∈ cp_TG := cp_TG_in (i := 218) (by decide +kernel) (by decide +kernel)
theorem ol_X2_3 : Cond.methodLink RX2 3 Lib.objectInit ∈ cp_TG := cp_TG_in (i := 234) (by decide +kernel) (by decide +kernel)
theorem ol_X7_1 : Cond.methodLink RX7 1 Lib.objectInit ∈ cp_TG := cp_TG_in (i := 665) (by decide +kernel) (by decide +kernel)
theorem in_X0_init : Cond.instanceMethod yX0_init ∈ cp_TG := cp_TG_in (i := 196) (by decide +kernel) (by decide +kernel)
theorem inn_X0_init : yX0_init.name = "<init>" := rfl
theorem in_X1_init : Cond.instanceMethod yX1_init ∈ cp_TG := cp_TG_in (i := 92) (by decide +kernel) (by decide +kernel)
theorem inn_X1_init : yX1_init.name = "<init>" := rfl
theorem in_X2_init : Cond.instanceMethod yX2_init ∈ cp_TG := cp_TG_in (i := 232) (by decide +kernel) (by decide +kernel)
theorem inn_X2_init : yX2_init.name = "<init>" := rfl
theorem in_X3_init : Cond.instanceMethod yX3_init ∈ cp_TG := cp_TG_in (i := 216) (by decide +kernel) (by decide +kernel)
theorem inn_X3_init : yX3_init.name = "<init>" := rfl
theorem in_X4_init : Cond.instanceMethod yX4_init ∈ cp_TG := cp_TG_in (i := 108) (by decide +kernel) (by decide +kernel)
theorem inn_X4_init : yX4_init.name = "<init>" := rfl
theorem in_X5_init : Cond.instanceMethod yX5_init ∈ cp_TG := cp_TG_in (i := 157) (by decide +kernel) (by decide +kernel)
theorem inn_X5_init : yX5_init.name = "<init>" := rfl
theorem in_X6_init : Cond.instanceMethod yX6_init ∈ cp_TG := cp_TG_in (i := 84) (by decide +kernel) (by decide +kernel)
theorem inn_X6_init : yX6_init.name = "<init>" := rfl
theorem in_X7_init : Cond.instanceMethod yX7_init ∈ cp_TG := cp_TG_in (i := 663) (by decide +kernel) (by decide +kernel)
theorem inn_X7_init : yX7_init.name = "<init>" := rfl
section CPPF
variable {x : cp_Cx} {E : cp_En} {bc : ByteArray} {nL d mc ms cells slots cnt : Nat} {sh : cp_Shp} {I : cp_Mem} {R : cp_Rem} {pc : Nat} {L : List (Option Value)} {st : List Value}
theorem pf_X1_18 (O : cp_Ok x E RX1 bc nL d mc ms) (hin : (cp_xk x).name = "<init>") {a y : Nat} (hs : sh a = (2, 0)) (hd : decode bc pc = .ok (.putfield 18, 3)) (k : cp_G x E nL cells slots cnt sh I (cp_wr R a 0 (some y)) (pc + 3) L st) : cp_G x E nL cells slots cnt sh I R pc L (.ref y :: .ref a :: st) := cp_putF O hin cp_cX1 (j := 0) (by decide) fl_X1_18 rfl rfl (ty := (.array .int)) (by decide +kernel) ⟨rfl, rfl⟩ rfl hs hd k
theorem pf_X1_29 (O : cp_Ok x E RX1 bc nL d mc ms) (hin : (cp_xk x).name = "<init>") {a y : Nat} (hs : sh a = (2, 0)) (hd : decode bc pc = .ok (.putfield 29, 3)) (k : cp_G x E nL cells slots cnt sh I (cp_wr R a 2 (some y)) (pc + 3) L st) : cp_G x E nL cells slots cnt sh I R pc L (.ref y :: .ref a :: st) := cp_putF O hin cp_cX1 (j := 2) (by decide) fl_X1_29 rfl rfl (ty := (.array (.object "CopyPlates$Piece"))) (by decide +kernel) ⟨rfl, rfl⟩ rfl hs hd k
theorem pf_X1_39 (O : cp_Ok x E RX1 bc nL d mc ms) (hin : (cp_xk x).name = "<init>") {a y : Nat} (hs : sh a = (2, 0)) (hd : decode bc pc = .ok (.putfield 39, 3)) (k : cp_G x E nL cells slots cnt sh I (cp_wr R a 4 (some y)) (pc + 3) L st) : cp_G x E nL cells slots cnt sh I R pc L (.ref y :: .ref a :: st) := cp_putF O hin cp_cX1 (j := 4) (by decide) fl_X1_39 rfl rfl (ty := (.array (.object "CopyPlates$Plate"))) (by decide +kernel) ⟨rfl, rfl⟩ rfl hs hd k
theorem pf_X0_11 (O : cp_Ok x E RX0 bc nL d mc ms) (hin : (cp_xk x).name = "<init>") {a y : Nat} (hs : sh a = (1, 0)) (hd : decode bc pc = .ok (.putfield 11, 3)) (k : cp_G x E nL cells slots cnt sh I (cp_wr R a 0 (some y)) (pc + 3) L st) : cp_G x E nL cells slots cnt sh I R pc L (.ref y :: .ref a :: st) := cp_putF O hin cp_cX0 (j := 0) (by decide) fl_X0_11 rfl rfl (ty := (.array (.object "CopyPlates$Night"))) (by decide +kernel) ⟨rfl, rfl⟩ rfl hs hd k
theorem pf_X3_9 (O : cp_Ok x E RX3 bc nL d mc ms) (hin : (cp_xk x).name = "<init>") {a y : Nat} (hs : sh a = (4, 0)) (hd : decode bc pc = .ok (.putfield 9, 3)) (k : cp_G x E nL cells slots cnt sh I (cp_wr R a 0 (some y)) (pc + 3) L st) : cp_G x E nL cells slots cnt sh I R pc L (.ref y :: .ref a :: st) := cp_putF O hin cp_cX3 (j := 0) (by decide) fl_X3_9 rfl rfl (ty := (.array .char)) (by decide +kernel) ⟨rfl, rfl⟩ rfl hs hd k
theorem pf_X2_9 (O : cp_Ok x E RX2 bc nL d mc ms) (hin : (cp_xk x).name = "<init>") {a y : Nat} (hs : sh a = (3, 0)) (hd : decode bc pc = .ok (.putfield 9, 3)) (k : cp_G x E nL cells slots cnt sh I (cp_wr R a 0 (some y)) (pc + 3) L st) : cp_G x E nL cells slots cnt sh I R pc L (.ref y :: .ref a :: st) := cp_putF O hin cp_cX2 (j := 0) (by decide) fl_X2_9 rfl rfl (ty := (.object "CopyPlates$Pad")) (by decide +kernel) ⟨rfl, rfl⟩ rfl hs hd k
theorem pf_X6_10 (O : cp_Ok x E RX6 bc nL d mc ms) (hin : (cp_xk x).name = "<init>") {a y : Nat} (hs : sh a = (7, 0)) (hd : decode bc pc = .ok (.putfield 10, 3)) (k : cp_G x E nL cells slots cnt sh I (cp_wr R a 0 (some y)) (pc + 3) L st) : cp_G x E nL cells slots cnt sh I R pc L (.ref y :: .ref a :: st) := cp_putF O hin cp_cX6 (j := 0) (by decide) fl_X6_10 rfl rfl (ty := (.object "CopyPlates$Night")) (by decide +kernel) ⟨rfl, rfl⟩ rfl hs hd k
theorem pf_X6_16 (O : cp_Ok x E RX6 bc nL d mc ms) (hin : (cp_xk x).name = "<init>") {a y : Nat} (hs : sh a = (7, 0)) (hd : decode bc pc = .ok (.putfield 16, 3)) (k : cp_G x E nL cells slots cnt sh I (cp_wr R a 1 (some y)) (pc + 3) L st) : cp_G x E nL cells slots cnt sh I R pc L (.ref y :: .ref a :: st) := cp_putF O hin cp_cX6 (j := 1) (by decide) fl_X6_16 rfl rfl (ty := (.object "CopyPlates$Night")) (by decide +kernel) ⟨rfl, rfl⟩ rfl hs hd k
theorem pf_X6_22 (O : cp_Ok x E RX6 bc nL d mc ms) (hin : (cp_xk x).name = "<init>") {a y : Nat} (hs : sh a = (7, 0)) (hd : decode bc pc = .ok (.putfield 22, 3)) (k : cp_G x E nL cells slots cnt sh I (cp_wr R a 2 (some y)) (pc + 3) L st) : cp_G x E nL cells slots cnt sh I R pc L (.ref y :: .ref a :: st) := cp_putF O hin cp_cX6 (j := 2) (by decide) fl_X6_22 rfl rfl (ty := (.object "CopyPlates$History")) (by decide +kernel) ⟨rfl, rfl⟩ rfl hs hd k
theorem pf_X6_26 (O : cp_Ok x E RX6 bc nL d mc ms) (hin : (cp_xk x).name = "<init>") {a y : Nat} (hs : sh a = (7, 0)) (hd : decode bc pc = .ok (.putfield 26, 3)) (k : cp_G x E nL cells slots cnt sh I (cp_wr R a 3 (some y)) (pc + 3) L st) : cp_G x E nL cells slots cnt sh I R pc L (.ref y :: .ref a :: st) := cp_putF O hin cp_cX6 (j := 3) (by decide) fl_X6_26 rfl rfl (ty := (.array (.object "CopyPlates$Night"))) (by decide +kernel) ⟨rfl, rfl⟩ rfl hs hd k
theorem pf_X6_33 (O : cp_Ok x E RX6 bc nL d mc ms) (hin : (cp_xk x).name = "<init>") {a y : Nat} (hs : sh a = (7, 0)) (hd : decode bc pc = .ok (.putfield 33, 3)) (k : cp_G x E nL cells slots cnt sh I (cp_wr R a 4 (some y)) (pc + 3) L st) : cp_G x E nL cells slots cnt sh I R pc L (.ref y :: .ref a :: st) := cp_putF O hin cp_cX6 (j := 4) (by decide) fl_X6_33 rfl rfl (ty := (.object "CopyPlates$Pad")) (by decide +kernel) ⟨rfl, rfl⟩ rfl hs hd k
theorem pf_X6_42 (O : cp_Ok x E RX6 bc nL d mc ms) (hin : (cp_xk x).name = "<init>") {a y : Nat} (hs : sh a = (7, 0)) (hd : decode bc pc = .ok (.putfield 42, 3)) (k : cp_G x E nL cells slots cnt sh I (cp_wr R a 5 (some y)) (pc + 3) L st) : cp_G x E nL cells slots cnt sh I R pc L (.ref y :: .ref a :: st) := cp_putF O hin cp_cX6 (j := 5) (by decide) fl_X6_42 rfl rfl (ty := (.object "CopyPlates$OrderReader")) (by decide +kernel) ⟨rfl, rfl⟩ rfl hs hd k
theorem pf_X7_7 (O : cp_Ok x E RX7 bc nL d mc ms) (hin : (cp_xk x).name = "<init>") {a y : Nat} (hs : sh a = (8, 0)) (hd : decode bc pc = .ok (.putfield 7, 3)) (k : cp_G x E nL cells slots cnt sh I (cp_wr R a 0 (some y)) (pc + 3) L st) : cp_G x E nL cells slots cnt sh I R pc L (.ref y :: .ref a :: st) := cp_putF O hin cp_cX7 (j := 0) (by decide) fl_X7_7 rfl rfl (ty := (.array .int)) (by decide +kernel) ⟨rfl, rfl⟩ rfl hs hd k
theorem pf_X7_13 (O : cp_Ok x E RX7 bc nL d mc ms) (hin : (cp_xk x).name = "<init>") {a y : Nat} (hs : sh a = (8, 0)) (hd : decode bc pc = .ok (.putfield 13, 3)) (k : cp_G x E nL cells slots cnt sh I (cp_wr R a 1 (some y)) (pc + 3) L st) : cp_G x E nL cells slots cnt sh I R pc L (.ref y :: .ref a :: st) := cp_putF O hin cp_cX7 (j := 1) (by decide) fl_X7_13 rfl rfl (ty := (.array .int)) (by decide +kernel) ⟨rfl, rfl⟩ rfl hs hd k
theorem pf_X7_16 (O : cp_Ok x E RX7 bc nL d mc ms) (hin : (cp_xk x).name = "<init>") {a y : Nat} (hs : sh a = (8, 0)) (hd : decode bc pc = .ok (.putfield 16, 3)) (k : cp_G x E nL cells slots cnt sh I (cp_wr R a 2 (some y)) (pc + 3) L st) : cp_G x E nL cells slots cnt sh I R pc L (.ref y :: .ref a :: st) := cp_putF O hin cp_cX7 (j := 2) (by decide) fl_X7_16 rfl rfl (ty := (.array .int)) (by decide +kernel) ⟨rfl, rfl⟩ rfl hs hd k
theorem pf_X7_19 (O : cp_Ok x E RX7 bc nL d mc ms) (hin : (cp_xk x).name = "<init>") {a y : Nat} (hs : sh a = (8, 0)) (hd : decode bc pc = .ok (.putfield 19, 3)) (k : cp_G x E nL cells slots cnt sh I (cp_wr R a 3 (some y)) (pc + 3) L st) : cp_G x E nL cells slots cnt sh I R pc L (.ref y :: .ref a :: st) := cp_putF O hin cp_cX7 (j := 3) (by decide) fl_X7_19 rfl rfl (ty := (.array .int)) (by decide +kernel) ⟨rfl, rfl⟩ rfl hs hd k
theorem pf_X7_22 (O : cp_Ok x E RX7 bc nL d mc ms) (hin : (cp_xk x).name = "<init>") {a y : Nat} (hs : sh a = (8, 0)) (hd : decode bc pc = .ok (.putfield 22, 3)) (k : cp_G x E nL cells slots cnt sh I (cp_wr R a 5 (some y)) (pc + 3) L st) : cp_G x E nL cells slots cnt sh I R pc L (.ref y :: .ref a :: st) := cp_putF O hin cp_cX7 (j := 5) (by decide) fl_X7_22 rfl rfl (ty := (.array .int)) (by decide +kernel) ⟨rfl, rfl⟩ rfl hs hd k
theorem pf_X7_25 (O : cp_Ok x E RX7 bc nL d mc ms) (hin : (cp_xk x).name = "<init>") {a y : Nat} (hs : sh a = (8, 0)) (hd : decode bc pc = .ok (.putfield 25, 3)) (k : cp_G x E nL cells slots cnt sh I (cp_wr R a 6 (some y)) (pc + 3) L st) : cp_G x E nL cells slots cnt sh I R pc L (.ref y :: .ref a :: st) := cp_putF O hin cp_cX7 (j := 6) (by decide) fl_X7_25 rfl rfl (ty := (.array .int)) (by decide +kernel) ⟨rfl, rfl⟩ rfl hs hd k
theorem pf_X7_28 (O : cp_Ok x E RX7 bc nL d mc ms) (hin : (cp_xk x).name = "<init>") {a y : Nat} (hs : sh a = (8, 0)) (hd : decode bc pc = .ok (.putfield 28, 3)) (k : cp_G x E nL cells slots cnt sh I (cp_wr R a 9 (some y)) (pc + 3) L st) : cp_G x E nL cells slots cnt sh I R pc L (.ref y :: .ref a :: st) := cp_putF O hin cp_cX7 (j := 9) (by decide) fl_X7_28 rfl rfl (ty := (.array .int)) (by decide +kernel) ⟨rfl, rfl⟩ rfl hs hd k
end CPPF
end
