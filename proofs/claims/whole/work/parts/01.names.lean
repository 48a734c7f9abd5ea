-- ===== PART A: goes FIRST, ahead of the names: the tables' words, and 'selects' of the private methods out of them =====
/-- a private method of a class that the tables say can be made, by its rows of tables_1 -/
def lw_okq (q : MethodName × Nat) : Prop := (q.1.cls ≠ "java/lang/invoke/MethodHandle" ∧ q.1.cls ≠ "java/lang/invoke/VarHandle") ∧ Cond.instantiable q.1.cls q.2 ∈ tables_1 ∧ Cond.privateMethod q.1 ∈ tables_1 ∧ Cond.instanceMethod q.1 ∈ tables_1
theorem lw_p0 : lw_okq (⟨"CopyPlates$Night", "plateAt", "(I)I"⟩, 6) := ⟨⟨by decide +kernel, by decide +kernel⟩, List.mem_of_getElem? (i := 20) (by decide +kernel), List.mem_of_getElem? (i := 270) (by decide +kernel), List.mem_of_getElem? (i := 271) (by decide +kernel)⟩
theorem lw_p1 : lw_okq (⟨"CopyPlates$Night", "insertPlate", "(IZ)I"⟩, 6) := ⟨⟨by decide +kernel, by decide +kernel⟩, List.mem_of_getElem? (i := 20) (by decide +kernel), List.mem_of_getElem? (i := 274) (by decide +kernel), List.mem_of_getElem? (i := 275) (by decide +kernel)⟩
theorem lw_p2 : lw_okq (⟨"CopyPlates$Night", "isOnLatestMade", "(I)Z"⟩, 6) := ⟨⟨by decide +kernel, by decide +kernel⟩, List.mem_of_getElem? (i := 20) (by decide +kernel), List.mem_of_getElem? (i := 305) (by decide +kernel), List.mem_of_getElem? (i := 306) (by decide +kernel)⟩
theorem lw_p3 : lw_okq (⟨"CopyPlates$Night", "madePlates", "()I"⟩, 6) := ⟨⟨by decide +kernel, by decide +kernel⟩, List.mem_of_getElem? (i := 20) (by decide +kernel), List.mem_of_getElem? (i := 309) (by decide +kernel), List.mem_of_getElem? (i := 310) (by decide +kernel)⟩
theorem lw_p4 : lw_okq (⟨"CopyPlates$Night", "isMade", "(I)Z"⟩, 6) := ⟨⟨by decide +kernel, by decide +kernel⟩, List.mem_of_getElem? (i := 20) (by decide +kernel), List.mem_of_getElem? (i := 313) (by decide +kernel), List.mem_of_getElem? (i := 314) (by decide +kernel)⟩
theorem lw_p5 : lw_okq (⟨"CopyPlates$Night", "tellReplate", "()Z"⟩, 6) := ⟨⟨by decide +kernel, by decide +kernel⟩, List.mem_of_getElem? (i := 20) (by decide +kernel), List.mem_of_getElem? (i := 320) (by decide +kernel), List.mem_of_getElem? (i := 321) (by decide +kernel)⟩
theorem lw_p6 : lw_okq (⟨"CopyPlates$Night", "editAtDesks", "()V"⟩, 6) := ⟨⟨by decide +kernel, by decide +kernel⟩, List.mem_of_getElem? (i := 20) (by decide +kernel), List.mem_of_getElem? (i := 340) (by decide +kernel), List.mem_of_getElem? (i := 341) (by decide +kernel)⟩
theorem lw_p7 : lw_okq (⟨"CopyPlates$Piece", "becomeReady", "(I)V"⟩, 10) := ⟨⟨by decide +kernel, by decide +kernel⟩, List.mem_of_getElem? (i := 36) (by decide +kernel), List.mem_of_getElem? (i := 349) (by decide +kernel), List.mem_of_getElem? (i := 350) (by decide +kernel)⟩
theorem lw_p8 : lw_okq (⟨"CopyPlates$Night", "readAtLawyer", "()V"⟩, 6) := ⟨⟨by decide +kernel, by decide +kernel⟩, List.mem_of_getElem? (i := 20) (by decide +kernel), List.mem_of_getElem? (i := 353) (by decide +kernel), List.mem_of_getElem? (i := 354) (by decide +kernel)⟩
theorem lw_p9 : lw_okq (⟨"CopyPlates$Night", "firstAtLawyer", "()I"⟩, 6) := ⟨⟨by decide +kernel, by decide +kernel⟩, List.mem_of_getElem? (i := 20) (by decide +kernel), List.mem_of_getElem? (i := 357) (by decide +kernel), List.mem_of_getElem? (i := 358) (by decide +kernel)⟩
theorem lw_p10 : lw_okq (⟨"CopyPlates$Night", "firstByRank", "(I)I"⟩, 6) := ⟨⟨by decide +kernel, by decide +kernel⟩, List.mem_of_getElem? (i := 20) (by decide +kernel), List.mem_of_getElem? (i := 377) (by decide +kernel), List.mem_of_getElem? (i := 378) (by decide +kernel)⟩
theorem lw_p11 : lw_okq (⟨"CopyPlates$Night", "goesAhead", "(II)Z"⟩, 6) := ⟨⟨by decide +kernel, by decide +kernel⟩, List.mem_of_getElem? (i := 20) (by decide +kernel), List.mem_of_getElem? (i := 381) (by decide +kernel), List.mem_of_getElem? (i := 382) (by decide +kernel)⟩
theorem lw_p12 : lw_okq (⟨"CopyPlates$Night", "placeInQueue", "(I)I"⟩, 6) := ⟨⟨by decide +kernel, by decide +kernel⟩, List.mem_of_getElem? (i := 20) (by decide +kernel), List.mem_of_getElem? (i := 393) (by decide +kernel), List.mem_of_getElem? (i := 394) (by decide +kernel)⟩
theorem lw_p13 : lw_okq (⟨"CopyPlates$Night", "placeAtDesk", "(I)I"⟩, 6) := ⟨⟨by decide +kernel, by decide +kernel⟩, List.mem_of_getElem? (i := 20) (by decide +kernel), List.mem_of_getElem? (i := 397) (by decide +kernel), List.mem_of_getElem? (i := 398) (by decide +kernel)⟩
theorem lw_p14 : lw_okq (⟨"CopyPlates$Night", "placeAtLawyer", "(I)I"⟩, 6) := ⟨⟨by decide +kernel, by decide +kernel⟩, List.mem_of_getElem? (i := 20) (by decide +kernel), List.mem_of_getElem? (i := 401) (by decide +kernel), List.mem_of_getElem? (i := 402) (by decide +kernel)⟩
theorem lw_p15 : lw_okq (⟨"CopyPlates$Night", "platesWith", "(I)I"⟩, 6) := ⟨⟨by decide +kernel, by decide +kernel⟩, List.mem_of_getElem? (i := 20) (by decide +kernel), List.mem_of_getElem? (i := 405) (by decide +kernel), List.mem_of_getElem? (i := 406) (by decide +kernel)⟩
def lw_privs_1 : List (MethodName × Nat) := [(⟨"CopyPlates$Night", "plateAt", "(I)I"⟩, 6), (⟨"CopyPlates$Night", "insertPlate", "(IZ)I"⟩, 6), (⟨"CopyPlates$Night", "isOnLatestMade", "(I)Z"⟩, 6), (⟨"CopyPlates$Night", "madePlates", "()I"⟩, 6), (⟨"CopyPlates$Night", "isMade", "(I)Z"⟩, 6), (⟨"CopyPlates$Night", "tellReplate", "()Z"⟩, 6), (⟨"CopyPlates$Night", "editAtDesks", "()V"⟩, 6), (⟨"CopyPlates$Piece", "becomeReady", "(I)V"⟩, 10), (⟨"CopyPlates$Night", "readAtLawyer", "()V"⟩, 6), (⟨"CopyPlates$Night", "firstAtLawyer", "()I"⟩, 6), (⟨"CopyPlates$Night", "firstByRank", "(I)I"⟩, 6), (⟨"CopyPlates$Night", "goesAhead", "(II)Z"⟩, 6), (⟨"CopyPlates$Night", "placeInQueue", "(I)I"⟩, 6), (⟨"CopyPlates$Night", "placeAtDesk", "(I)I"⟩, 6), (⟨"CopyPlates$Night", "placeAtLawyer", "(I)I"⟩, 6), (⟨"CopyPlates$Night", "platesWith", "(I)I"⟩, 6)]
theorem lw_r1 : ∀ q ∈ lw_privs_1, lw_okq q := List.forall_mem_cons.mpr ⟨lw_p0, List.forall_mem_cons.mpr ⟨lw_p1, List.forall_mem_cons.mpr ⟨lw_p2, List.forall_mem_cons.mpr ⟨lw_p3, List.forall_mem_cons.mpr ⟨lw_p4, List.forall_mem_cons.mpr ⟨lw_p5, List.forall_mem_cons.mpr ⟨lw_p6, List.forall_mem_cons.mpr ⟨lw_p7, List.forall_mem_cons.mpr ⟨lw_p8, List.forall_mem_cons.mpr ⟨lw_p9, List.forall_mem_cons.mpr ⟨lw_p10, List.forall_mem_cons.mpr ⟨lw_p11, List.forall_mem_cons.mpr ⟨lw_p12, List.forall_mem_cons.mpr ⟨lw_p13, List.forall_mem_cons.mpr ⟨lw_p14, List.forall_mem_cons.mpr ⟨lw_p15, fun _ h => absurd h List.not_mem_nil⟩⟩⟩⟩⟩⟩⟩⟩⟩⟩⟩⟩⟩⟩⟩⟩
theorem lw_p16 : lw_okq (⟨"CopyPlates$Night", "piecesThatAre", "(I)I"⟩, 6) := ⟨⟨by decide +kernel, by decide +kernel⟩, List.mem_of_getElem? (i := 20) (by decide +kernel), List.mem_of_getElem? (i := 429) (by decide +kernel), List.mem_of_getElem? (i := 430) (by decide +kernel)⟩
theorem lw_p17 : lw_okq (⟨"CopyPlates$Night", "heldPieces", "()I"⟩, 6) := ⟨⟨by decide +kernel, by decide +kernel⟩, List.mem_of_getElem? (i := 20) (by decide +kernel), List.mem_of_getElem? (i := 433) (by decide +kernel), List.mem_of_getElem? (i := 434) (by decide +kernel)⟩
theorem lw_p18 : lw_okq (⟨"CopyPlates$Night", "replates", "()I"⟩, 6) := ⟨⟨by decide +kernel, by decide +kernel⟩, List.mem_of_getElem? (i := 20) (by decide +kernel), List.mem_of_getElem? (i := 437) (by decide +kernel), List.mem_of_getElem? (i := 438) (by decide +kernel)⟩
theorem lw_p19 : lw_okq (⟨"CopyPlates$Night", "reasonOf", "(I)I"⟩, 6) := ⟨⟨by decide +kernel, by decide +kernel⟩, List.mem_of_getElem? (i := 20) (by decide +kernel), List.mem_of_getElem? (i := 449) (by decide +kernel), List.mem_of_getElem? (i := 450) (by decide +kernel)⟩
theorem lw_p20 : lw_okq (⟨"CopyPlates$Night", "causeOf", "(I)I"⟩, 6) := ⟨⟨by decide +kernel, by decide +kernel⟩, List.mem_of_getElem? (i := 20) (by decide +kernel), List.mem_of_getElem? (i := 453) (by decide +kernel), List.mem_of_getElem? (i := 454) (by decide +kernel)⟩
theorem lw_p21 : lw_okq (⟨"CopyPlates$Night", "firstAtDesk", "(I)I"⟩, 6) := ⟨⟨by decide +kernel, by decide +kernel⟩, List.mem_of_getElem? (i := 20) (by decide +kernel), List.mem_of_getElem? (i := 457) (by decide +kernel), List.mem_of_getElem? (i := 458) (by decide +kernel)⟩
theorem lw_p22 : lw_okq (⟨"CopyPlates$Night", "lastTakenAheadOf", "(I)I"⟩, 6) := ⟨⟨by decide +kernel, by decide +kernel⟩, List.mem_of_getElem? (i := 20) (by decide +kernel), List.mem_of_getElem? (i := 461) (by decide +kernel), List.mem_of_getElem? (i := 462) (by decide +kernel)⟩
theorem lw_p23 : lw_okq (⟨"CopyPlates", "goAheadToPlate", "(I)V"⟩, 6) := ⟨⟨by decide +kernel, by decide +kernel⟩, List.mem_of_getElem? (i := 12) (by decide +kernel), List.mem_of_getElem? (i := 486) (by decide +kernel), List.mem_of_getElem? (i := 487) (by decide +kernel)⟩
theorem lw_p24 : lw_okq (⟨"CopyPlates$OrderReader", "readPiece", "()Z"⟩, 7) := ⟨⟨by decide +kernel, by decide +kernel⟩, List.mem_of_getElem? (i := 160) (by decide +kernel), List.mem_of_getElem? (i := 547) (by decide +kernel), List.mem_of_getElem? (i := 548) (by decide +kernel)⟩
theorem lw_p25 : lw_okq (⟨"CopyPlates$OrderReader", "digitHere", "()I"⟩, 7) := ⟨⟨by decide +kernel, by decide +kernel⟩, List.mem_of_getElem? (i := 160) (by decide +kernel), List.mem_of_getElem? (i := 551) (by decide +kernel), List.mem_of_getElem? (i := 552) (by decide +kernel)⟩
theorem lw_p26 : lw_okq (⟨"CopyPlates$OrderReader", "readNumber", "()Z"⟩, 7) := ⟨⟨by decide +kernel, by decide +kernel⟩, List.mem_of_getElem? (i := 160) (by decide +kernel), List.mem_of_getElem? (i := 559) (by decide +kernel), List.mem_of_getElem? (i := 560) (by decide +kernel)⟩
theorem lw_p27 : lw_okq (⟨"CopyPlates", "carryOrderOut", "()I"⟩, 6) := ⟨⟨by decide +kernel, by decide +kernel⟩, List.mem_of_getElem? (i := 12) (by decide +kernel), List.mem_of_getElem? (i := 570) (by decide +kernel), List.mem_of_getElem? (i := 571) (by decide +kernel)⟩
theorem lw_p28 : lw_okq (⟨"CopyPlatesModel", "ends", "(I)I"⟩, 15) := ⟨⟨by decide +kernel, by decide +kernel⟩, List.mem_of_getElem? (i := 591) (by decide +kernel), List.mem_of_getElem? (i := 660) (by decide +kernel), List.mem_of_getElem? (i := 661) (by decide +kernel)⟩
theorem lw_p29 : lw_okq (⟨"CopyPlatesModel", "doPiece", "(IIII)I"⟩, 15) := ⟨⟨by decide +kernel, by decide +kernel⟩, List.mem_of_getElem? (i := 591) (by decide +kernel), List.mem_of_getElem? (i := 668) (by decide +kernel), List.mem_of_getElem? (i := 669) (by decide +kernel)⟩
theorem lw_p30 : lw_okq (⟨"CopyPlatesModel", "sets", "(III)V"⟩, 15) := ⟨⟨by decide +kernel, by decide +kernel⟩, List.mem_of_getElem? (i := 591) (by decide +kernel), List.mem_of_getElem? (i := 675) (by decide +kernel), List.mem_of_getElem? (i := 676) (by decide +kernel)⟩
theorem lw_p31 : lw_okq (⟨"CopyPlatesModel", "comesTo", "(II)V"⟩, 15) := ⟨⟨by decide +kernel, by decide +kernel⟩, List.mem_of_getElem? (i := 591) (by decide +kernel), List.mem_of_getElem? (i := 679) (by decide +kernel), List.mem_of_getElem? (i := 680) (by decide +kernel)⟩
def lw_privs_2 : List (MethodName × Nat) := [(⟨"CopyPlates$Night", "piecesThatAre", "(I)I"⟩, 6), (⟨"CopyPlates$Night", "heldPieces", "()I"⟩, 6), (⟨"CopyPlates$Night", "replates", "()I"⟩, 6), (⟨"CopyPlates$Night", "reasonOf", "(I)I"⟩, 6), (⟨"CopyPlates$Night", "causeOf", "(I)I"⟩, 6), (⟨"CopyPlates$Night", "firstAtDesk", "(I)I"⟩, 6), (⟨"CopyPlates$Night", "lastTakenAheadOf", "(I)I"⟩, 6), (⟨"CopyPlates", "goAheadToPlate", "(I)V"⟩, 6), (⟨"CopyPlates$OrderReader", "readPiece", "()Z"⟩, 7), (⟨"CopyPlates$OrderReader", "digitHere", "()I"⟩, 7), (⟨"CopyPlates$OrderReader", "readNumber", "()Z"⟩, 7), (⟨"CopyPlates", "carryOrderOut", "()I"⟩, 6), (⟨"CopyPlatesModel", "ends", "(I)I"⟩, 15), (⟨"CopyPlatesModel", "doPiece", "(IIII)I"⟩, 15), (⟨"CopyPlatesModel", "sets", "(III)V"⟩, 15), (⟨"CopyPlatesModel", "comesTo", "(II)V"⟩, 15)]
theorem lw_r2 : ∀ q ∈ lw_privs_2, lw_okq q := List.forall_mem_cons.mpr ⟨lw_p16, List.forall_mem_cons.mpr ⟨lw_p17, List.forall_mem_cons.mpr ⟨lw_p18, List.forall_mem_cons.mpr ⟨lw_p19, List.forall_mem_cons.mpr ⟨lw_p20, List.forall_mem_cons.mpr ⟨lw_p21, List.forall_mem_cons.mpr ⟨lw_p22, List.forall_mem_cons.mpr ⟨lw_p23, List.forall_mem_cons.mpr ⟨lw_p24, List.forall_mem_cons.mpr ⟨lw_p25, List.forall_mem_cons.mpr ⟨lw_p26, List.forall_mem_cons.mpr ⟨lw_p27, List.forall_mem_cons.mpr ⟨lw_p28, List.forall_mem_cons.mpr ⟨lw_p29, List.forall_mem_cons.mpr ⟨lw_p30, List.forall_mem_cons.mpr ⟨lw_p31, fun _ h => absurd h List.not_mem_nil⟩⟩⟩⟩⟩⟩⟩⟩⟩⟩⟩⟩⟩⟩⟩⟩
theorem lw_p32 : lw_okq (⟨"CopyPlatesModel", "doPlate", "(I)I"⟩, 15) := ⟨⟨by decide +kernel, by decide +kernel⟩, List.mem_of_getElem? (i := 591) (by decide +kernel), List.mem_of_getElem? (i := 687) (by decide +kernel), List.mem_of_getElem? (i := 688) (by decide +kernel)⟩
theorem lw_p33 : lw_okq (⟨"CopyPlatesModel", "due", "(I)I"⟩, 15) := ⟨⟨by decide +kernel, by decide +kernel⟩, List.mem_of_getElem? (i := 591) (by decide +kernel), List.mem_of_getElem? (i := 692) (by decide +kernel), List.mem_of_getElem? (i := 693) (by decide +kernel)⟩
theorem lw_p34 : lw_okq (⟨"CopyPlatesModel", "plateAt", "(II)I"⟩, 15) := ⟨⟨by decide +kernel, by decide +kernel⟩, List.mem_of_getElem? (i := 591) (by decide +kernel), List.mem_of_getElem? (i := 696) (by decide +kernel), List.mem_of_getElem? (i := 697) (by decide +kernel)⟩
theorem lw_p35 : lw_okq (⟨"CopyPlatesModel", "tells", "(II)I"⟩, 15) := ⟨⟨by decide +kernel, by decide +kernel⟩, List.mem_of_getElem? (i := 591) (by decide +kernel), List.mem_of_getElem? (i := 700) (by decide +kernel), List.mem_of_getElem? (i := 701) (by decide +kernel)⟩
theorem lw_p36 : lw_okq (⟨"CopyPlatesModel", "doHold", "(I)I"⟩, 15) := ⟨⟨by decide +kernel, by decide +kernel⟩, List.mem_of_getElem? (i := 591) (by decide +kernel), List.mem_of_getElem? (i := 708) (by decide +kernel), List.mem_of_getElem? (i := 709) (by decide +kernel)⟩
theorem lw_p37 : lw_okq (⟨"CopyPlatesModel", "isPiece", "(I)Z"⟩, 15) := ⟨⟨by decide +kernel, by decide +kernel⟩, List.mem_of_getElem? (i := 591) (by decide +kernel), List.mem_of_getElem? (i := 712) (by decide +kernel), List.mem_of_getElem? (i := 713) (by decide +kernel)⟩
theorem lw_p38 : lw_okq (⟨"CopyPlatesModel", "of", "(II)I"⟩, 15) := ⟨⟨by decide +kernel, by decide +kernel⟩, List.mem_of_getElem? (i := 591) (by decide +kernel), List.mem_of_getElem? (i := 716) (by decide +kernel), List.mem_of_getElem? (i := 717) (by decide +kernel)⟩
theorem lw_p39 : lw_okq (⟨"CopyPlatesModel", "doKill", "(I)I"⟩, 15) := ⟨⟨by decide +kernel, by decide +kernel⟩, List.mem_of_getElem? (i := 591) (by decide +kernel), List.mem_of_getElem? (i := 724) (by decide +kernel), List.mem_of_getElem? (i := 725) (by decide +kernel)⟩
theorem lw_p40 : lw_okq (⟨"CopyPlatesModel", "leaves", "(I)V"⟩, 15) := ⟨⟨by decide +kernel, by decide +kernel⟩, List.mem_of_getElem? (i := 591) (by decide +kernel), List.mem_of_getElem? (i := 728) (by decide +kernel), List.mem_of_getElem? (i := 729) (by decide +kernel)⟩
theorem lw_p41 : lw_okq (⟨"CopyPlatesModel", "queueOf", "(I)I"⟩, 15) := ⟨⟨by decide +kernel, by decide +kernel⟩, List.mem_of_getElem? (i := 591) (by decide +kernel), List.mem_of_getElem? (i := 732) (by decide +kernel), List.mem_of_getElem? (i := 733) (by decide +kernel)⟩
theorem lw_p42 : lw_okq (⟨"CopyPlatesModel", "placeOf", "(I)I"⟩, 15) := ⟨⟨by decide +kernel, by decide +kernel⟩, List.mem_of_getElem? (i := 591) (by decide +kernel), List.mem_of_getElem? (i := 736) (by decide +kernel), List.mem_of_getElem? (i := 737) (by decide +kernel)⟩
theorem lw_p43 : lw_okq (⟨"CopyPlatesModel", "inQueue", "(II)I"⟩, 15) := ⟨⟨by decide +kernel, by decide +kernel⟩, List.mem_of_getElem? (i := 591) (by decide +kernel), List.mem_of_getElem? (i := 740) (by decide +kernel), List.mem_of_getElem? (i := 741) (by decide +kernel)⟩
theorem lw_p44 : lw_okq (⟨"CopyPlatesModel", "isOnLatest", "(I)Z"⟩, 15) := ⟨⟨by decide +kernel, by decide +kernel⟩, List.mem_of_getElem? (i := 591) (by decide +kernel), List.mem_of_getElem? (i := 744) (by decide +kernel), List.mem_of_getElem? (i := 745) (by decide +kernel)⟩
theorem lw_p45 : lw_okq (⟨"CopyPlatesModel", "isDueSoon", "()Z"⟩, 15) := ⟨⟨by decide +kernel, by decide +kernel⟩, List.mem_of_getElem? (i := 591) (by decide +kernel), List.mem_of_getElem? (i := 748) (by decide +kernel), List.mem_of_getElem? (i := 749) (by decide +kernel)⟩
theorem lw_p46 : lw_okq (⟨"CopyPlatesModel", "doPass", "(I)I"⟩, 15) := ⟨⟨by decide +kernel, by decide +kernel⟩, List.mem_of_getElem? (i := 591) (by decide +kernel), List.mem_of_getElem? (i := 756) (by decide +kernel), List.mem_of_getElem? (i := 757) (by decide +kernel)⟩
theorem lw_p47 : lw_okq (⟨"CopyPlatesModel", "passes", "()I"⟩, 15) := ⟨⟨by decide +kernel, by decide +kernel⟩, List.mem_of_getElem? (i := 591) (by decide +kernel), List.mem_of_getElem? (i := 760) (by decide +kernel), List.mem_of_getElem? (i := 761) (by decide +kernel)⟩
def lw_privs_3 : List (MethodName × Nat) := [(⟨"CopyPlatesModel", "doPlate", "(I)I"⟩, 15), (⟨"CopyPlatesModel", "due", "(I)I"⟩, 15), (⟨"CopyPlatesModel", "plateAt", "(II)I"⟩, 15), (⟨"CopyPlatesModel", "tells", "(II)I"⟩, 15), (⟨"CopyPlatesModel", "doHold", "(I)I"⟩, 15), (⟨"CopyPlatesModel", "isPiece", "(I)Z"⟩, 15), (⟨"CopyPlatesModel", "of", "(II)I"⟩, 15), (⟨"CopyPlatesModel", "doKill", "(I)I"⟩, 15), (⟨"CopyPlatesModel", "leaves", "(I)V"⟩, 15), (⟨"CopyPlatesModel", "queueOf", "(I)I"⟩, 15), (⟨"CopyPlatesModel", "placeOf", "(I)I"⟩, 15), (⟨"CopyPlatesModel", "inQueue", "(II)I"⟩, 15), (⟨"CopyPlatesModel", "isOnLatest", "(I)Z"⟩, 15), (⟨"CopyPlatesModel", "isDueSoon", "()Z"⟩, 15), (⟨"CopyPlatesModel", "doPass", "(I)I"⟩, 15), (⟨"CopyPlatesModel", "passes", "()I"⟩, 15)]
theorem lw_r3 : ∀ q ∈ lw_privs_3, lw_okq q := List.forall_mem_cons.mpr ⟨lw_p32, List.forall_mem_cons.mpr ⟨lw_p33, List.forall_mem_cons.mpr ⟨lw_p34, List.forall_mem_cons.mpr ⟨lw_p35, List.forall_mem_cons.mpr ⟨lw_p36, List.forall_mem_cons.mpr ⟨lw_p37, List.forall_mem_cons.mpr ⟨lw_p38, List.forall_mem_cons.mpr ⟨lw_p39, List.forall_mem_cons.mpr ⟨lw_p40, List.forall_mem_cons.mpr ⟨lw_p41, List.forall_mem_cons.mpr ⟨lw_p42, List.forall_mem_cons.mpr ⟨lw_p43, List.forall_mem_cons.mpr ⟨lw_p44, List.forall_mem_cons.mpr ⟨lw_p45, List.forall_mem_cons.mpr ⟨lw_p46, List.forall_mem_cons.mpr ⟨lw_p47, fun _ h => absurd h List.not_mem_nil⟩⟩⟩⟩⟩⟩⟩⟩⟩⟩⟩⟩⟩⟩⟩⟩
theorem lw_p48 : lw_okq (⟨"CopyPlatesModel", "works", "()V"⟩, 15) := ⟨⟨by decide +kernel, by decide +kernel⟩, List.mem_of_getElem? (i := 591) (by decide +kernel), List.mem_of_getElem? (i := 764) (by decide +kernel), List.mem_of_getElem? (i := 765) (by decide +kernel)⟩
theorem lw_p49 : lw_okq (⟨"CopyPlatesModel", "edits", "(I)V"⟩, 15) := ⟨⟨by decide +kernel, by decide +kernel⟩, List.mem_of_getElem? (i := 591) (by decide +kernel), List.mem_of_getElem? (i := 768) (by decide +kernel), List.mem_of_getElem? (i := 769) (by decide +kernel)⟩
theorem lw_p50 : lw_okq (⟨"CopyPlatesModel", "becomesReady", "(I)V"⟩, 15) := ⟨⟨by decide +kernel, by decide +kernel⟩, List.mem_of_getElem? (i := 591) (by decide +kernel), List.mem_of_getElem? (i := 772) (by decide +kernel), List.mem_of_getElem? (i := 773) (by decide +kernel)⟩
theorem lw_p51 : lw_okq (⟨"CopyPlatesModel", "reads", "()V"⟩, 15) := ⟨⟨by decide +kernel, by decide +kernel⟩, List.mem_of_getElem? (i := 591) (by decide +kernel), List.mem_of_getElem? (i := 776) (by decide +kernel), List.mem_of_getElem? (i := 777) (by decide +kernel)⟩
theorem lw_p52 : lw_okq (⟨"CopyPlatesModel", "takes", "(I)V"⟩, 15) := ⟨⟨by decide +kernel, by decide +kernel⟩, List.mem_of_getElem? (i := 591) (by decide +kernel), List.mem_of_getElem? (i := 780) (by decide +kernel), List.mem_of_getElem? (i := 781) (by decide +kernel)⟩
theorem lw_p53 : lw_okq (⟨"CopyPlatesModel", "ranked", "(I)I"⟩, 15) := ⟨⟨by decide +kernel, by decide +kernel⟩, List.mem_of_getElem? (i := 591) (by decide +kernel), List.mem_of_getElem? (i := 784) (by decide +kernel), List.mem_of_getElem? (i := 785) (by decide +kernel)⟩
theorem lw_p54 : lw_okq (⟨"CopyPlatesModel", "isFree", "(I)Z"⟩, 15) := ⟨⟨by decide +kernel, by decide +kernel⟩, List.mem_of_getElem? (i := 591) (by decide +kernel), List.mem_of_getElem? (i := 788) (by decide +kernel), List.mem_of_getElem? (i := 789) (by decide +kernel)⟩
theorem lw_p55 : lw_okq (⟨"CopyPlatesModel", "isAhead", "(II)Z"⟩, 15) := ⟨⟨by decide +kernel, by decide +kernel⟩, List.mem_of_getElem? (i := 591) (by decide +kernel), List.mem_of_getElem? (i := 792) (by decide +kernel), List.mem_of_getElem? (i := 793) (by decide +kernel)⟩
theorem lw_p56 : lw_okq (⟨"CopyPlatesModel", "platesWith", "(I)I"⟩, 15) := ⟨⟨by decide +kernel, by decide +kernel⟩, List.mem_of_getElem? (i := 591) (by decide +kernel), List.mem_of_getElem? (i := 801) (by decide +kernel), List.mem_of_getElem? (i := 802) (by decide +kernel)⟩
theorem lw_p57 : lw_okq (⟨"CopyPlatesModel", "linesOf", "(I)I"⟩, 15) := ⟨⟨by decide +kernel, by decide +kernel⟩, List.mem_of_getElem? (i := 591) (by decide +kernel), List.mem_of_getElem? (i := 810) (by decide +kernel), List.mem_of_getElem? (i := 811) (by decide +kernel)⟩
theorem lw_p58 : lw_okq (⟨"CopyPlatesModel", "manyThat", "(I)I"⟩, 15) := ⟨⟨by decide +kernel, by decide +kernel⟩, List.mem_of_getElem? (i := 591) (by decide +kernel), List.mem_of_getElem? (i := 818) (by decide +kernel), List.mem_of_getElem? (i := 819) (by decide +kernel)⟩
theorem lw_p59 : lw_okq (⟨"CopyPlatesModel", "manyHeld", "()I"⟩, 15) := ⟨⟨by decide +kernel, by decide +kernel⟩, List.mem_of_getElem? (i := 591) (by decide +kernel), List.mem_of_getElem? (i := 823) (by decide +kernel), List.mem_of_getElem? (i := 824) (by decide +kernel)⟩
theorem lw_p60 : lw_okq (⟨"CopyPlatesModel", "replates", "()I"⟩, 15) := ⟨⟨by decide +kernel, by decide +kernel⟩, List.mem_of_getElem? (i := 591) (by decide +kernel), List.mem_of_getElem? (i := 827) (by decide +kernel), List.mem_of_getElem? (i := 828) (by decide +kernel)⟩
theorem lw_p61 : lw_okq (⟨"CopyPlatesModel", "reason", "(I)I"⟩, 15) := ⟨⟨by decide +kernel, by decide +kernel⟩, List.mem_of_getElem? (i := 591) (by decide +kernel), List.mem_of_getElem? (i := 835) (by decide +kernel), List.mem_of_getElem? (i := 836) (by decide +kernel)⟩
theorem lw_p62 : lw_okq (⟨"CopyPlatesModel", "lastAhead", "(I)I"⟩, 15) := ⟨⟨by decide +kernel, by decide +kernel⟩, List.mem_of_getElem? (i := 591) (by decide +kernel), List.mem_of_getElem? (i := 839) (by decide +kernel), List.mem_of_getElem? (i := 840) (by decide +kernel)⟩
theorem lw_p63 : lw_okq (⟨"CopyPlatesModel", "comesToNext", "()Z"⟩, 15) := ⟨⟨by decide +kernel, by decide +kernel⟩, List.mem_of_getElem? (i := 591) (by decide +kernel), List.mem_of_getElem? (i := 855) (by decide +kernel), List.mem_of_getElem? (i := 856) (by decide +kernel)⟩
def lw_privs_4 : List (MethodName × Nat) := [(⟨"CopyPlatesModel", "works", "()V"⟩, 15), (⟨"CopyPlatesModel", "edits", "(I)V"⟩, 15), (⟨"CopyPlatesModel", "becomesReady", "(I)V"⟩, 15), (⟨"CopyPlatesModel", "reads", "()V"⟩, 15), (⟨"CopyPlatesModel", "takes", "(I)V"⟩, 15), (⟨"CopyPlatesModel", "ranked", "(I)I"⟩, 15), (⟨"CopyPlatesModel", "isFree", "(I)Z"⟩, 15), (⟨"CopyPlatesModel", "isAhead", "(II)Z"⟩, 15), (⟨"CopyPlatesModel", "platesWith", "(I)I"⟩, 15), (⟨"CopyPlatesModel", "linesOf", "(I)I"⟩, 15), (⟨"CopyPlatesModel", "manyThat", "(I)I"⟩, 15), (⟨"CopyPlatesModel", "manyHeld", "()I"⟩, 15), (⟨"CopyPlatesModel", "replates", "()I"⟩, 15), (⟨"CopyPlatesModel", "reason", "(I)I"⟩, 15), (⟨"CopyPlatesModel", "lastAhead", "(I)I"⟩, 15), (⟨"CopyPlatesModel", "comesToNext", "()Z"⟩, 15)]
theorem lw_r4 : ∀ q ∈ lw_privs_4, lw_okq q := List.forall_mem_cons.mpr ⟨lw_p48, List.forall_mem_cons.mpr ⟨lw_p49, List.forall_mem_cons.mpr ⟨lw_p50, List.forall_mem_cons.mpr ⟨lw_p51, List.forall_mem_cons.mpr ⟨lw_p52, List.forall_mem_cons.mpr ⟨lw_p53, List.forall_mem_cons.mpr ⟨lw_p54, List.forall_mem_cons.mpr ⟨lw_p55, List.forall_mem_cons.mpr ⟨lw_p56, List.forall_mem_cons.mpr ⟨lw_p57, List.forall_mem_cons.mpr ⟨lw_p58, List.forall_mem_cons.mpr ⟨lw_p59, List.forall_mem_cons.mpr ⟨lw_p60, List.forall_mem_cons.mpr ⟨lw_p61, List.forall_mem_cons.mpr ⟨lw_p62, List.forall_mem_cons.mpr ⟨lw_p63, fun _ h => absurd h List.not_mem_nil⟩⟩⟩⟩⟩⟩⟩⟩⟩⟩⟩⟩⟩⟩⟩⟩
theorem lw_p64 : lw_okq (⟨"CopyPlatesModel", "readsOrder", "()Z"⟩, 15) := ⟨⟨by decide +kernel, by decide +kernel⟩, List.mem_of_getElem? (i := 591) (by decide +kernel), List.mem_of_getElem? (i := 878) (by decide +kernel), List.mem_of_getElem? (i := 879) (by decide +kernel)⟩
theorem lw_p65 : lw_okq (⟨"CopyPlatesModel", "takesOne", "(I)Z"⟩, 15) := ⟨⟨by decide +kernel, by decide +kernel⟩, List.mem_of_getElem? (i := 591) (by decide +kernel), List.mem_of_getElem? (i := 882) (by decide +kernel), List.mem_of_getElem? (i := 883) (by decide +kernel)⟩
theorem lw_p66 : lw_okq (⟨"CopyPlatesModel", "isHere", "(II)Z"⟩, 15) := ⟨⟨by decide +kernel, by decide +kernel⟩, List.mem_of_getElem? (i := 591) (by decide +kernel), List.mem_of_getElem? (i := 886) (by decide +kernel), List.mem_of_getElem? (i := 887) (by decide +kernel)⟩
theorem lw_p67 : lw_okq (⟨"CopyPlatesModel", "readsPiece", "()Z"⟩, 15) := ⟨⟨by decide +kernel, by decide +kernel⟩, List.mem_of_getElem? (i := 591) (by decide +kernel), List.mem_of_getElem? (i := 890) (by decide +kernel), List.mem_of_getElem? (i := 891) (by decide +kernel)⟩
theorem lw_p68 : lw_okq (⟨"CopyPlatesModel", "readsDigit", "(I)Z"⟩, 15) := ⟨⟨by decide +kernel, by decide +kernel⟩, List.mem_of_getElem? (i := 591) (by decide +kernel), List.mem_of_getElem? (i := 894) (by decide +kernel), List.mem_of_getElem? (i := 895) (by decide +kernel)⟩
theorem lw_p69 : lw_okq (⟨"CopyPlatesModel", "readsNumber", "()Z"⟩, 15) := ⟨⟨by decide +kernel, by decide +kernel⟩, List.mem_of_getElem? (i := 591) (by decide +kernel), List.mem_of_getElem? (i := 898) (by decide +kernel), List.mem_of_getElem? (i := 899) (by decide +kernel)⟩
def lw_privs_5 : List (MethodName × Nat) := [(⟨"CopyPlatesModel", "readsOrder", "()Z"⟩, 15), (⟨"CopyPlatesModel", "takesOne", "(I)Z"⟩, 15), (⟨"CopyPlatesModel", "isHere", "(II)Z"⟩, 15), (⟨"CopyPlatesModel", "readsPiece", "()Z"⟩, 15), (⟨"CopyPlatesModel", "readsDigit", "(I)Z"⟩, 15), (⟨"CopyPlatesModel", "readsNumber", "()Z"⟩, 15)]
theorem lw_r5 : ∀ q ∈ lw_privs_5, lw_okq q := List.forall_mem_cons.mpr ⟨lw_p64, List.forall_mem_cons.mpr ⟨lw_p65, List.forall_mem_cons.mpr ⟨lw_p66, List.forall_mem_cons.mpr ⟨lw_p67, List.forall_mem_cons.mpr ⟨lw_p68, List.forall_mem_cons.mpr ⟨lw_p69, fun _ h => absurd h List.not_mem_nil⟩⟩⟩⟩⟩⟩
def lw_privs : List (MethodName × Nat) := lw_privs_1 ++ (lw_privs_2 ++ (lw_privs_3 ++ (lw_privs_4 ++ (lw_privs_5))))
def lw_tbl : List Cond := k2_sels lw_privs ++ tables_1
theorem lw_privs_ok : ∀ q ∈ lw_privs, lw_okq q := by
  show ∀ q ∈ lw_privs_1 ++ (lw_privs_2 ++ (lw_privs_3 ++ (lw_privs_4 ++ (lw_privs_5)))), lw_okq q
  exact List.forall_mem_append.mpr ⟨lw_r1, List.forall_mem_append.mpr ⟨lw_r2, List.forall_mem_append.mpr ⟨lw_r3, List.forall_mem_append.mpr ⟨lw_r4, lw_r5⟩⟩⟩⟩

def RX0 : String := "CopyPlates$History"
def TX0 : u_T := fun k => match k with
  | 0 => ("CopyPlates$History", "states", "[LCopyPlates$Night;", true)
  | 1 => ("CopyPlates$History", "next", "I", false)
  | _ => ("CopyPlates$History", "changes", "I", false)
def tyX0 : Nat → FieldType := fun k => match k with
  | 0 => .array (.object "CopyPlates$Night")
  | 1 => .int
  | _ => .int
abbrev wsX00 : List Cond := u_ws RX0 TX0 3
theorem nmX0 : ∀ a, a < 3 → ∀ b, b < 3 → a ≠ b → (TX0 a).2.1 ≠ (TX0 b).2.1 := by decide +kernel
theorem tyX0_ok : ∀ k, k < 3 → parseFieldDescriptor (TX0 k).2.2.1 = some (tyX0 k) := by decide +kernel
abbrev cX0_init : ByteArray := prog_2_method_1_code
def yX0_init : MethodName := ⟨RX0, "<init>", "()V"⟩
abbrev cX0_prepare : ByteArray := prog_2_method_2_code
def yX0_prepare : MethodName := ⟨RX0, "prepare", "(LCopyPlates$Night;)V"⟩
abbrev cX0_recordUnlessError : ByteArray := prog_2_method_3_code
def yX0_recordUnlessError : MethodName := ⟨RX0, "recordUnlessError", "(I)I"⟩
abbrev cX0_takeBack : ByteArray := prog_2_method_4_code
def yX0_takeBack : MethodName := ⟨RX0, "takeBack", "(LCopyPlates$Night;)V"⟩
def RX1 : String := "CopyPlates$Night"
def TX1 : u_T := fun k => match k with
  | 0 => ("CopyPlates$Night", "settings", "[I", true)
  | 1 => ("CopyPlates$Night", "minute", "I", false)
  | 2 => ("CopyPlates$Night", "pieces", "[LCopyPlates$Piece;", true)
  | 3 => ("CopyPlates$Night", "pieceCount", "I", false)
  | 4 => ("CopyPlates$Night", "plates", "[LCopyPlates$Plate;", true)
  | _ => ("CopyPlates$Night", "plateCount", "I", false)
def tyX1 : Nat → FieldType := fun k => match k with
  | 0 => .array .int
  | 1 => .int
  | 2 => .array (.object "CopyPlates$Piece")
  | 3 => .int
  | 4 => .array (.object "CopyPlates$Plate")
  | _ => .int
abbrev wsX10 : List Cond := u_ws RX1 TX1 6
theorem nmX1 : ∀ a, a < 6 → ∀ b, b < 6 → a ≠ b → (TX1 a).2.1 ≠ (TX1 b).2.1 := by decide +kernel
theorem tyX1_ok : ∀ k, k < 6 → parseFieldDescriptor (TX1 k).2.2.1 = some (tyX1 k) := by decide +kernel
abbrev cX1_init : ByteArray := prog_3_method_1_code
def yX1_init : MethodName := ⟨RX1, "<init>", "()V"⟩
abbrev cX1_copyFrom : ByteArray := prog_3_method_2_code
def yX1_copyFrom : MethodName := ⟨RX1, "copyFrom", "(LCopyPlates$Night;)V"⟩
abbrev cX1_hasPiece : ByteArray := prog_3_method_3_code
def yX1_hasPiece : MethodName := ⟨RX1, "hasPiece", "(I)Z"⟩
abbrev cX1_isPiece : ByteArray := prog_3_method_4_code
def yX1_isPiece : MethodName := ⟨RX1, "isPiece", "(II)Z"⟩
abbrev cX1_changeSetting : ByteArray := prog_3_method_5_code
def yX1_changeSetting : MethodName := ⟨RX1, "changeSetting", "(II)I"⟩
abbrev cX1_addPiece : ByteArray := prog_3_method_6_code
def yX1_addPiece : MethodName := ⟨RX1, "addPiece", "(IIII)I"⟩
abbrev cX1_addPlate : ByteArray := prog_3_method_7_code
def yX1_addPlate : MethodName := ⟨RX1, "addPlate", "(I)I"⟩
abbrev cX1_turnHold : ByteArray := prog_3_method_8_code
def yX1_turnHold : MethodName := ⟨RX1, "turnHold", "(I)I"⟩
abbrev cX1_killPiece : ByteArray := prog_3_method_9_code
def yX1_killPiece : MethodName := ⟨RX1, "killPiece", "(I)I"⟩
abbrev cX1_passMinutes : ByteArray := prog_3_method_10_code
def yX1_passMinutes : MethodName := ⟨RX1, "passMinutes", "(I)I"⟩
abbrev cX1_passMinute : ByteArray := prog_3_method_11_code
def yX1_passMinute : MethodName := ⟨RX1, "passMinute", "()Z"⟩
abbrev cX1_editAtDesks : ByteArray := prog_3_method_12_code
def yX1_editAtDesks : MethodName := ⟨RX1, "editAtDesks", "()V"⟩
abbrev cX1_readAtLawyer : ByteArray := prog_3_method_13_code
def yX1_readAtLawyer : MethodName := ⟨RX1, "readAtLawyer", "()V"⟩
abbrev cX1_firstAtDesk : ByteArray := prog_3_method_14_code
def yX1_firstAtDesk : MethodName := ⟨RX1, "firstAtDesk", "(I)I"⟩
abbrev cX1_firstAtLawyer : ByteArray := prog_3_method_15_code
def yX1_firstAtLawyer : MethodName := ⟨RX1, "firstAtLawyer", "()I"⟩
abbrev cX1_placeInQueue : ByteArray := prog_3_method_16_code
def yX1_placeInQueue : MethodName := ⟨RX1, "placeInQueue", "(I)I"⟩
abbrev cX1_placeAtDesk : ByteArray := prog_3_method_17_code
def yX1_placeAtDesk : MethodName := ⟨RX1, "placeAtDesk", "(I)I"⟩
abbrev cX1_placeAtLawyer : ByteArray := prog_3_method_18_code
def yX1_placeAtLawyer : MethodName := ⟨RX1, "placeAtLawyer", "(I)I"⟩
abbrev cX1_piecesForPlate : ByteArray := prog_3_method_19_code
def yX1_piecesForPlate : MethodName := ⟨RX1, "piecesForPlate", "()I"⟩
abbrev cX1_linesOf : ByteArray := prog_3_method_20_code
def yX1_linesOf : MethodName := ⟨RX1, "linesOf", "(I)I"⟩
abbrev cX1_takenNow : ByteArray := prog_3_method_21_code
def yX1_takenNow : MethodName := ⟨RX1, "takenNow", "()I"⟩
abbrev cX1_firstByRank : ByteArray := prog_3_method_22_code
def yX1_firstByRank : MethodName := ⟨RX1, "firstByRank", "(I)I"⟩
abbrev cX1_lastTakenAheadOf : ByteArray := prog_3_method_23_code
def yX1_lastTakenAheadOf : MethodName := ⟨RX1, "lastTakenAheadOf", "(I)I"⟩
abbrev cX1_goesAhead : ByteArray := prog_3_method_24_code
def yX1_goesAhead : MethodName := ⟨RX1, "goesAhead", "(II)Z"⟩
abbrev cX1_whyNotOnPlate : ByteArray := prog_3_method_25_code
def yX1_whyNotOnPlate : MethodName := ⟨RX1, "whyNotOnPlate", "(II)I"⟩
abbrev cX1_reasonOf : ByteArray := prog_3_method_26_code
def yX1_reasonOf : MethodName := ⟨RX1, "reasonOf", "(I)I"⟩
abbrev cX1_causeOf : ByteArray := prog_3_method_27_code
def yX1_causeOf : MethodName := ⟨RX1, "causeOf", "(I)I"⟩
abbrev cX1_isMade : ByteArray := prog_3_method_28_code
def yX1_isMade : MethodName := ⟨RX1, "isMade", "(I)Z"⟩
abbrev cX1_nextDue : ByteArray := prog_3_method_29_code
def yX1_nextDue : MethodName := ⟨RX1, "nextDue", "()I"⟩
abbrev cX1_minutesToPlate : ByteArray := prog_3_method_30_code
def yX1_minutesToPlate : MethodName := ⟨RX1, "minutesToPlate", "(I)I"⟩
abbrev cX1_madePlates : ByteArray := prog_3_method_31_code
def yX1_madePlates : MethodName := ⟨RX1, "madePlates", "()I"⟩
abbrev cX1_plateAt : ByteArray := prog_3_method_32_code
def yX1_plateAt : MethodName := ⟨RX1, "plateAt", "(I)I"⟩
abbrev cX1_isOnLatestMade : ByteArray := prog_3_method_33_code
def yX1_isOnLatestMade : MethodName := ⟨RX1, "isOnLatestMade", "(I)Z"⟩
abbrev cX1_tellReplate : ByteArray := prog_3_method_34_code
def yX1_tellReplate : MethodName := ⟨RX1, "tellReplate", "()Z"⟩
abbrev cX1_insertPlate : ByteArray := prog_3_method_35_code
def yX1_insertPlate : MethodName := ⟨RX1, "insertPlate", "(IZ)I"⟩
abbrev cX1_factOfPiece : ByteArray := prog_3_method_36_code
def yX1_factOfPiece : MethodName := ⟨RX1, "factOfPiece", "(II)I"⟩
abbrev cX1_platesWith : ByteArray := prog_3_method_37_code
def yX1_platesWith : MethodName := ⟨RX1, "platesWith", "(I)I"⟩
abbrev cX1_factOfPlate : ByteArray := prog_3_method_38_code
def yX1_factOfPlate : MethodName := ⟨RX1, "factOfPlate", "(II)I"⟩
abbrev cX1_factOfNight : ByteArray := prog_3_method_39_code
def yX1_factOfNight : MethodName := ⟨RX1, "factOfNight", "(I)I"⟩
abbrev cX1_piecesThatAre : ByteArray := prog_3_method_40_code
def yX1_piecesThatAre : MethodName := ⟨RX1, "piecesThatAre", "(I)I"⟩
abbrev cX1_heldPieces : ByteArray := prog_3_method_41_code
def yX1_heldPieces : MethodName := ⟨RX1, "heldPieces", "()I"⟩
abbrev cX1_replates : ByteArray := prog_3_method_42_code
def yX1_replates : MethodName := ⟨RX1, "replates", "()I"⟩
def RX2 : String := "CopyPlates$OrderReader"
def TX2 : u_T := fun k => match k with
  | 0 => ("CopyPlates$OrderReader", "pad", "LCopyPlates$Pad;", true)
  | 1 => ("CopyPlates$OrderReader", "place", "I", false)
  | 2 => ("CopyPlates$OrderReader", "kind", "C", false)
  | 3 => ("CopyPlates$OrderReader", "number", "I", false)
  | 4 => ("CopyPlates$OrderReader", "desk", "I", false)
  | 5 => ("CopyPlates$OrderReader", "rank", "I", false)
  | _ => ("CopyPlates$OrderReader", "legal", "I", false)
def tyX2 : Nat → FieldType := fun k => match k with
  | 0 => .object "CopyPlates$Pad"
  | 1 => .int
  | 2 => .char
  | 3 => .int
  | 4 => .int
  | 5 => .int
  | _ => .int
abbrev wsX20 : List Cond := u_ws RX2 TX2 7
theorem nmX2 : ∀ a, a < 7 → ∀ b, b < 7 → a ≠ b → (TX2 a).2.1 ≠ (TX2 b).2.1 := by decide +kernel
theorem tyX2_ok : ∀ k, k < 7 → parseFieldDescriptor (TX2 k).2.2.1 = some (tyX2 k) := by decide +kernel
abbrev cX2_init : ByteArray := prog_4_method_1_code
def yX2_init : MethodName := ⟨RX2, "<init>", "(LCopyPlates$Pad;)V"⟩
abbrev cX2_goToStart : ByteArray := prog_4_method_2_code
def yX2_goToStart : MethodName := ⟨RX2, "goToStart", "()V"⟩
abbrev cX2_findFault : ByteArray := prog_4_method_3_code
def yX2_findFault : MethodName := ⟨RX2, "findFault", "()I"⟩
abbrev cX2_readOrder : ByteArray := prog_4_method_4_code
def yX2_readOrder : MethodName := ⟨RX2, "readOrder", "()Z"⟩
abbrev cX2_readPiece : ByteArray := prog_4_method_5_code
def yX2_readPiece : MethodName := ⟨RX2, "readPiece", "()Z"⟩
abbrev cX2_readNumber : ByteArray := prog_4_method_6_code
def yX2_readNumber : MethodName := ⟨RX2, "readNumber", "()Z"⟩
abbrev cX2_readSign : ByteArray := prog_4_method_7_code
def yX2_readSign : MethodName := ⟨RX2, "readSign", "(C)Z"⟩
abbrev cX2_digitHere : ByteArray := prog_4_method_8_code
def yX2_digitHere : MethodName := ⟨RX2, "digitHere", "()I"⟩
def RX3 : String := "CopyPlates$Pad"
def TX3 : u_T := fun k => match k with
  | 0 => ("CopyPlates$Pad", "characters", "[C", true)
  | _ => ("CopyPlates$Pad", "length", "I", false)
def tyX3 : Nat → FieldType := fun k => match k with
  | 0 => .array .char
  | _ => .int
abbrev wsX30 : List Cond := u_ws RX3 TX3 2
theorem nmX3 : ∀ a, a < 2 → ∀ b, b < 2 → a ≠ b → (TX3 a).2.1 ≠ (TX3 b).2.1 := by decide +kernel
theorem tyX3_ok : ∀ k, k < 2 → parseFieldDescriptor (TX3 k).2.2.1 = some (tyX3 k) := by decide +kernel
abbrev cX3_init : ByteArray := prog_5_method_1_code
def yX3_init : MethodName := ⟨RX3, "<init>", "()V"⟩
abbrev cX3_append : ByteArray := prog_5_method_2_code
def yX3_append : MethodName := ⟨RX3, "append", "(J)I"⟩
abbrev cX3_charactersIn : ByteArray := prog_5_method_3_code
def yX3_charactersIn : MethodName := ⟨RX3, "charactersIn", "(J)I"⟩
abbrev cX3_empty : ByteArray := prog_5_method_4_code
def yX3_empty : MethodName := ⟨RX3, "empty", "()I"⟩
abbrev cX3_characterAt : ByteArray := prog_5_method_5_code
def yX3_characterAt : MethodName := ⟨RX3, "characterAt", "(I)C"⟩
def RX4 : String := "CopyPlates$Piece"
def TX4 : u_T := fun k => match k with
  | 0 => ("CopyPlates$Piece", "desk", "I", false)
  | 1 => ("CopyPlates$Piece", "lines", "I", false)
  | 2 => ("CopyPlates$Piece", "rank", "I", false)
  | 3 => ("CopyPlates$Piece", "legal", "Z", false)
  | 4 => ("CopyPlates$Piece", "state", "I", false)
  | 5 => ("CopyPlates$Piece", "held", "Z", false)
  | 6 => ("CopyPlates$Piece", "edited", "I", false)
  | 7 => ("CopyPlates$Piece", "read", "I", false)
  | 8 => ("CopyPlates$Piece", "readyMinute", "I", false)
  | _ => ("CopyPlates$Piece", "lawyerTurn", "I", false)
def tyX4 : Nat → FieldType := fun k => match k with
  | 0 => .int
  | 1 => .int
  | 2 => .int
  | 3 => .boolean
  | 4 => .int
  | 5 => .boolean
  | 6 => .int
  | 7 => .int
  | 8 => .int
  | _ => .int
abbrev wsX40 : List Cond := u_ws RX4 TX4 10
theorem nmX4 : ∀ a, a < 10 → ∀ b, b < 10 → a ≠ b → (TX4 a).2.1 ≠ (TX4 b).2.1 := by decide +kernel
theorem tyX4_ok : ∀ k, k < 10 → parseFieldDescriptor (TX4 k).2.2.1 = some (tyX4 k) := by decide +kernel
abbrev cX4_init : ByteArray := prog_6_method_1_code
def yX4_init : MethodName := ⟨RX4, "<init>", "()V"⟩
abbrev cX4_come : ByteArray := prog_6_method_2_code
def yX4_come : MethodName := ⟨RX4, "come", "(IIIZ)V"⟩
abbrev cX4_copyFrom : ByteArray := prog_6_method_3_code
def yX4_copyFrom : MethodName := ⟨RX4, "copyFrom", "(LCopyPlates$Piece;)V"⟩
abbrev cX4_editFor : ByteArray := prog_6_method_4_code
def yX4_editFor : MethodName := ⟨RX4, "editFor", "(II)V"⟩
abbrev cX4_readOneMinute : ByteArray := prog_6_method_5_code
def yX4_readOneMinute : MethodName := ⟨RX4, "readOneMinute", "(II)V"⟩
abbrev cX4_becomeReady : ByteArray := prog_6_method_6_code
def yX4_becomeReady : MethodName := ⟨RX4, "becomeReady", "(I)V"⟩
abbrev cX4_isForPlate : ByteArray := prog_6_method_7_code
def yX4_isForPlate : MethodName := ⟨RX4, "isForPlate", "()Z"⟩
def RX5 : String := "CopyPlates$Plate"
def TX5 : u_T := fun k => match k with
  | 0 => ("CopyPlates$Plate", "minute", "I", false)
  | 1 => ("CopyPlates$Plate", "replate", "Z", false)
  | _ => ("CopyPlates$Plate", "pieces", "I", false)
def tyX5 : Nat → FieldType := fun k => match k with
  | 0 => .int
  | 1 => .boolean
  | _ => .int
abbrev wsX50 : List Cond := u_ws RX5 TX5 3
theorem nmX5 : ∀ a, a < 3 → ∀ b, b < 3 → a ≠ b → (TX5 a).2.1 ≠ (TX5 b).2.1 := by decide +kernel
theorem tyX5_ok : ∀ k, k < 3 → parseFieldDescriptor (TX5 k).2.2.1 = some (tyX5 k) := by decide +kernel
abbrev cX5_init : ByteArray := prog_7_method_1_code
def yX5_init : MethodName := ⟨RX5, "<init>", "()V"⟩
abbrev cX5_tell : ByteArray := prog_7_method_2_code
def yX5_tell : MethodName := ⟨RX5, "tell", "(IZ)V"⟩
abbrev cX5_copyFrom : ByteArray := prog_7_method_3_code
def yX5_copyFrom : MethodName := ⟨RX5, "copyFrom", "(LCopyPlates$Plate;)V"⟩
def RX6 : String := "CopyPlates"
def TX6 : u_T := fun k => match k with
  | 0 => ("CopyPlates", "night", "LCopyPlates$Night;", true)
  | 1 => ("CopyPlates", "ahead", "LCopyPlates$Night;", true)
  | 2 => ("CopyPlates", "history", "LCopyPlates$History;", true)
  | 3 => ("CopyPlates", "slots", "[LCopyPlates$Night;", true)
  | 4 => ("CopyPlates", "pad", "LCopyPlates$Pad;", true)
  | _ => ("CopyPlates", "reader", "LCopyPlates$OrderReader;", true)
def tyX6 : Nat → FieldType := fun k => match k with
  | 0 => .object "CopyPlates$Night"
  | 1 => .object "CopyPlates$Night"
  | 2 => .object "CopyPlates$History"
  | 3 => .array (.object "CopyPlates$Night")
  | 4 => .object "CopyPlates$Pad"
  | _ => .object "CopyPlates$OrderReader"
abbrev wsX60 : List Cond := u_ws RX6 TX6 6
theorem nmX6 : ∀ a, a < 6 → ∀ b, b < 6 → a ≠ b → (TX6 a).2.1 ≠ (TX6 b).2.1 := by decide +kernel
theorem tyX6_ok : ∀ k, k < 6 → parseFieldDescriptor (TX6 k).2.2.1 = some (tyX6 k) := by decide +kernel
abbrev cX6_init : ByteArray := prog_1_method_1_code
def yX6_init : MethodName := ⟨RX6, "<init>", "()V"⟩
abbrev cX6_set : ByteArray := prog_1_method_2_code
def yX6_set : MethodName := ⟨RX6, "set", "(II)I"⟩
abbrev cX6_piece : ByteArray := prog_1_method_3_code
def yX6_piece : MethodName := ⟨RX6, "piece", "(IIII)I"⟩
abbrev cX6_plate : ByteArray := prog_1_method_4_code
def yX6_plate : MethodName := ⟨RX6, "plate", "(I)I"⟩
abbrev cX6_hold : ByteArray := prog_1_method_5_code
def yX6_hold : MethodName := ⟨RX6, "hold", "(I)I"⟩
abbrev cX6_kill : ByteArray := prog_1_method_6_code
def yX6_kill : MethodName := ⟨RX6, "kill", "(I)I"⟩
abbrev cX6_pass : ByteArray := prog_1_method_7_code
def yX6_pass : MethodName := ⟨RX6, "pass", "(I)I"⟩
abbrev cX6_ofPiece : ByteArray := prog_1_method_8_code
def yX6_ofPiece : MethodName := ⟨RX6, "ofPiece", "(II)I"⟩
abbrev cX6_ofPlate : ByteArray := prog_1_method_9_code
def yX6_ofPlate : MethodName := ⟨RX6, "ofPlate", "(II)I"⟩
abbrev cX6_count : ByteArray := prog_1_method_10_code
def yX6_count : MethodName := ⟨RX6, "count", "(I)I"⟩
abbrev cX6_why : ByteArray := prog_1_method_11_code
def yX6_why : MethodName := ⟨RX6, "why", "(II)I"⟩
abbrev cX6_plateNow : ByteArray := prog_1_method_12_code
def yX6_plateNow : MethodName := ⟨RX6, "plateNow", "()I"⟩
abbrev cX6_readyIn : ByteArray := prog_1_method_13_code
def yX6_readyIn : MethodName := ⟨RX6, "readyIn", "(I)I"⟩
abbrev cX6_leastRoom : ByteArray := prog_1_method_14_code
def yX6_leastRoom : MethodName := ⟨RX6, "leastRoom", "()I"⟩
abbrev cX6_nextPlate : ByteArray := prog_1_method_15_code
def yX6_nextPlate : MethodName := ⟨RX6, "nextPlate", "()I"⟩
abbrev cX6_goAheadToPlate : ByteArray := prog_1_method_16_code
def yX6_goAheadToPlate : MethodName := ⟨RX6, "goAheadToPlate", "(I)V"⟩
abbrev cX6_put : ByteArray := prog_1_method_17_code
def yX6_put : MethodName := ⟨RX6, "put", "(J)I"⟩
abbrev cX6_wipe : ByteArray := prog_1_method_18_code
def yX6_wipe : MethodName := ⟨RX6, "wipe", "()I"⟩
abbrev cX6_fault : ByteArray := prog_1_method_19_code
def yX6_fault : MethodName := ⟨RX6, "fault", "()I"⟩
abbrev cX6_carryOut : ByteArray := prog_1_method_20_code
def yX6_carryOut : MethodName := ⟨RX6, "carryOut", "()I"⟩
abbrev cX6_carryOrderOut : ByteArray := prog_1_method_21_code
def yX6_carryOrderOut : MethodName := ⟨RX6, "carryOrderOut", "()I"⟩
abbrev cX6_undo : ByteArray := prog_1_method_22_code
def yX6_undo : MethodName := ⟨RX6, "undo", "()I"⟩
abbrev cX6_save : ByteArray := prog_1_method_23_code
def yX6_save : MethodName := ⟨RX6, "save", "(I)I"⟩
abbrev cX6_restore : ByteArray := prog_1_method_24_code
def yX6_restore : MethodName := ⟨RX6, "restore", "(I)I"⟩
abbrev cX6_isInSet : ByteArray := prog_1_method_25_code
def yX6_isInSet : MethodName := ⟨RX6, "isInSet", "(II)Z"⟩
abbrev cX6_oneIf : ByteArray := prog_1_method_26_code
def yX6_oneIf : MethodName := ⟨RX6, "oneIf", "(Z)I"⟩
def RX7 : String := "CopyPlatesModel"
def TX7 : u_T := fun k => match k with
  | 0 => ("CopyPlatesModel", "all", "[I", true)
  | 1 => ("CopyPlatesModel", "kept", "[I", true)
  | 2 => ("CopyPlatesModel", "tried", "[I", true)
  | 3 => ("CopyPlatesModel", "history", "[I", true)
  | 4 => ("CopyPlatesModel", "historyLong", "I", false)
  | 5 => ("CopyPlatesModel", "slots", "[I", true)
  | 6 => ("CopyPlatesModel", "isSaved", "[I", true)
  | 7 => ("CopyPlatesModel", "taken", "I", false)
  | 8 => ("CopyPlatesModel", "takenLines", "I", false)
  | 9 => ("CopyPlatesModel", "pad", "[I", true)
  | 10 => ("CopyPlatesModel", "padLong", "I", false)
  | 11 => ("CopyPlatesModel", "spot", "I", false)
  | 12 => ("CopyPlatesModel", "isDone", "Z", false)
  | 13 => ("CopyPlatesModel", "told", "I", false)
  | _ => ("CopyPlatesModel", "number", "I", false)
def tyX7 : Nat → FieldType := fun k => match k with
  | 0 => .array .int
  | 1 => .array .int
  | 2 => .array .int
  | 3 => .array .int
  | 4 => .int
  | 5 => .array .int
  | 6 => .array .int
  | 7 => .int
  | 8 => .int
  | 9 => .array .int
  | 10 => .int
  | 11 => .int
  | 12 => .boolean
  | 13 => .int
  | _ => .int
abbrev wsX70 : List Cond := u_ws RX7 TX7 15
theorem nmX7 : ∀ a, a < 15 → ∀ b, b < 15 → a ≠ b → (TX7 a).2.1 ≠ (TX7 b).2.1 := by decide +kernel
theorem tyX7_ok : ∀ k, k < 15 → parseFieldDescriptor (TX7 k).2.2.1 = some (tyX7 k) := by decide +kernel
abbrev cX7_init : ByteArray := prog_9_method_1_code
def yX7_init : MethodName := ⟨RX7, "<init>", "()V"⟩
abbrev cX7_in : ByteArray := prog_9_method_3_code
def yX7_in : MethodName := ⟨RX7, "in", "(JJJ)Z"⟩
abbrev cX7_copy : ByteArray := prog_9_method_4_code
def yX7_copy : MethodName := ⟨RX7, "copy", "([I[I)V"⟩
abbrev cX7_ends : ByteArray := prog_9_method_5_code
def yX7_ends : MethodName := ⟨RX7, "ends", "(I)I"⟩
abbrev cX7_isPiece : ByteArray := prog_9_method_6_code
def yX7_isPiece : MethodName := ⟨RX7, "isPiece", "(I)Z"⟩
abbrev cX7_of : ByteArray := prog_9_method_7_code
def yX7_of : MethodName := ⟨RX7, "of", "(II)I"⟩
abbrev cX7_sets : ByteArray := prog_9_method_8_code
def yX7_sets : MethodName := ⟨RX7, "sets", "(III)V"⟩
abbrev cX7_inQueue : ByteArray := prog_9_method_9_code
def yX7_inQueue : MethodName := ⟨RX7, "inQueue", "(II)I"⟩
abbrev cX7_queueOf : ByteArray := prog_9_method_10_code
def yX7_queueOf : MethodName := ⟨RX7, "queueOf", "(I)I"⟩
abbrev cX7_placeOf : ByteArray := prog_9_method_11_code
def yX7_placeOf : MethodName := ⟨RX7, "placeOf", "(I)I"⟩
abbrev cX7_comesTo : ByteArray := prog_9_method_12_code
def yX7_comesTo : MethodName := ⟨RX7, "comesTo", "(II)V"⟩
abbrev cX7_leaves : ByteArray := prog_9_method_13_code
def yX7_leaves : MethodName := ⟨RX7, "leaves", "(I)V"⟩
abbrev cX7_becomesReady : ByteArray := prog_9_method_14_code
def yX7_becomesReady : MethodName := ⟨RX7, "becomesReady", "(I)V"⟩
abbrev cX7_edits : ByteArray := prog_9_method_15_code
def yX7_edits : MethodName := ⟨RX7, "edits", "(I)V"⟩
abbrev cX7_reads : ByteArray := prog_9_method_16_code
def yX7_reads : MethodName := ⟨RX7, "reads", "()V"⟩
abbrev cX7_isFree : ByteArray := prog_9_method_17_code
def yX7_isFree : MethodName := ⟨RX7, "isFree", "(I)Z"⟩
abbrev cX7_isAhead : ByteArray := prog_9_method_18_code
def yX7_isAhead : MethodName := ⟨RX7, "isAhead", "(II)Z"⟩
abbrev cX7_ranked : ByteArray := prog_9_method_19_code
def yX7_ranked : MethodName := ⟨RX7, "ranked", "(I)I"⟩
abbrev cX7_takes : ByteArray := prog_9_method_20_code
def yX7_takes : MethodName := ⟨RX7, "takes", "(I)V"⟩
abbrev cX7_plateAt : ByteArray := prog_9_method_21_code
def yX7_plateAt : MethodName := ⟨RX7, "plateAt", "(II)I"⟩
abbrev cX7_due : ByteArray := prog_9_method_22_code
def yX7_due : MethodName := ⟨RX7, "due", "(I)I"⟩
abbrev cX7_works : ByteArray := prog_9_method_23_code
def yX7_works : MethodName := ⟨RX7, "works", "()V"⟩
abbrev cX7_passes : ByteArray := prog_9_method_24_code
def yX7_passes : MethodName := ⟨RX7, "passes", "()I"⟩
abbrev cX7_doPiece : ByteArray := prog_9_method_25_code
def yX7_doPiece : MethodName := ⟨RX7, "doPiece", "(IIII)I"⟩
abbrev cX7_tells : ByteArray := prog_9_method_26_code
def yX7_tells : MethodName := ⟨RX7, "tells", "(II)I"⟩
abbrev cX7_doPlate : ByteArray := prog_9_method_27_code
def yX7_doPlate : MethodName := ⟨RX7, "doPlate", "(I)I"⟩
abbrev cX7_doHold : ByteArray := prog_9_method_28_code
def yX7_doHold : MethodName := ⟨RX7, "doHold", "(I)I"⟩
abbrev cX7_isOnLatest : ByteArray := prog_9_method_29_code
def yX7_isOnLatest : MethodName := ⟨RX7, "isOnLatest", "(I)Z"⟩
abbrev cX7_isDueSoon : ByteArray := prog_9_method_30_code
def yX7_isDueSoon : MethodName := ⟨RX7, "isDueSoon", "()Z"⟩
abbrev cX7_doKill : ByteArray := prog_9_method_31_code
def yX7_doKill : MethodName := ⟨RX7, "doKill", "(I)I"⟩
abbrev cX7_doPass : ByteArray := prog_9_method_32_code
def yX7_doPass : MethodName := ⟨RX7, "doPass", "(I)I"⟩
abbrev cX7_isSetting : ByteArray := prog_9_method_33_code
def yX7_isSetting : MethodName := ⟨RX7, "isSetting", "(II)Z"⟩
abbrev cX7_set : ByteArray := prog_9_method_34_code
def yX7_set : MethodName := ⟨RX7, "set", "(II)I"⟩
abbrev cX7_piece : ByteArray := prog_9_method_35_code
def yX7_piece : MethodName := ⟨RX7, "piece", "(IIII)I"⟩
abbrev cX7_plate : ByteArray := prog_9_method_36_code
def yX7_plate : MethodName := ⟨RX7, "plate", "(I)I"⟩
abbrev cX7_hold : ByteArray := prog_9_method_37_code
def yX7_hold : MethodName := ⟨RX7, "hold", "(I)I"⟩
abbrev cX7_kill : ByteArray := prog_9_method_38_code
def yX7_kill : MethodName := ⟨RX7, "kill", "(I)I"⟩
abbrev cX7_pass : ByteArray := prog_9_method_39_code
def yX7_pass : MethodName := ⟨RX7, "pass", "(I)I"⟩
abbrev cX7_platesWith : ByteArray := prog_9_method_40_code
def yX7_platesWith : MethodName := ⟨RX7, "platesWith", "(I)I"⟩
abbrev cX7_ofPiece : ByteArray := prog_9_method_41_code
def yX7_ofPiece : MethodName := ⟨RX7, "ofPiece", "(II)I"⟩
abbrev cX7_linesOf : ByteArray := prog_9_method_42_code
def yX7_linesOf : MethodName := ⟨RX7, "linesOf", "(I)I"⟩
abbrev cX7_ofPlate : ByteArray := prog_9_method_43_code
def yX7_ofPlate : MethodName := ⟨RX7, "ofPlate", "(II)I"⟩
abbrev cX7_manyThat : ByteArray := prog_9_method_44_code
def yX7_manyThat : MethodName := ⟨RX7, "manyThat", "(I)I"⟩
abbrev cX7_manyHeld : ByteArray := prog_9_method_45_code
def yX7_manyHeld : MethodName := ⟨RX7, "manyHeld", "()I"⟩
abbrev cX7_replates : ByteArray := prog_9_method_46_code
def yX7_replates : MethodName := ⟨RX7, "replates", "()I"⟩
abbrev cX7_count : ByteArray := prog_9_method_47_code
def yX7_count : MethodName := ⟨RX7, "count", "(I)I"⟩
abbrev cX7_lastAhead : ByteArray := prog_9_method_48_code
def yX7_lastAhead : MethodName := ⟨RX7, "lastAhead", "(I)I"⟩
abbrev cX7_reason : ByteArray := prog_9_method_49_code
def yX7_reason : MethodName := ⟨RX7, "reason", "(I)I"⟩
abbrev cX7_why : ByteArray := prog_9_method_50_code
def yX7_why : MethodName := ⟨RX7, "why", "(II)I"⟩
abbrev cX7_plateNow : ByteArray := prog_9_method_51_code
def yX7_plateNow : MethodName := ⟨RX7, "plateNow", "()I"⟩
abbrev cX7_readyIn : ByteArray := prog_9_method_52_code
def yX7_readyIn : MethodName := ⟨RX7, "readyIn", "(I)I"⟩
abbrev cX7_comesToNext : ByteArray := prog_9_method_53_code
def yX7_comesToNext : MethodName := ⟨RX7, "comesToNext", "()Z"⟩
abbrev cX7_leastRoom : ByteArray := prog_9_method_54_code
def yX7_leastRoom : MethodName := ⟨RX7, "leastRoom", "()I"⟩
abbrev cX7_nextPlate : ByteArray := prog_9_method_55_code
def yX7_nextPlate : MethodName := ⟨RX7, "nextPlate", "()I"⟩
abbrev cX7_put : ByteArray := prog_9_method_56_code
def yX7_put : MethodName := ⟨RX7, "put", "(J)I"⟩
abbrev cX7_wipe : ByteArray := prog_9_method_57_code
def yX7_wipe : MethodName := ⟨RX7, "wipe", "()I"⟩
abbrev cX7_isHere : ByteArray := prog_9_method_58_code
def yX7_isHere : MethodName := ⟨RX7, "isHere", "(II)Z"⟩
abbrev cX7_takesOne : ByteArray := prog_9_method_59_code
def yX7_takesOne : MethodName := ⟨RX7, "takesOne", "(I)Z"⟩
abbrev cX7_readsDigit : ByteArray := prog_9_method_60_code
def yX7_readsDigit : MethodName := ⟨RX7, "readsDigit", "(I)Z"⟩
abbrev cX7_readsNumber : ByteArray := prog_9_method_61_code
def yX7_readsNumber : MethodName := ⟨RX7, "readsNumber", "()Z"⟩
abbrev cX7_readsPiece : ByteArray := prog_9_method_62_code
def yX7_readsPiece : MethodName := ⟨RX7, "readsPiece", "()Z"⟩
abbrev cX7_readsOrder : ByteArray := prog_9_method_63_code
def yX7_readsOrder : MethodName := ⟨RX7, "readsOrder", "()Z"⟩
abbrev cX7_fault : ByteArray := prog_9_method_64_code
def yX7_fault : MethodName := ⟨RX7, "fault", "()I"⟩
abbrev cX7_carryOut : ByteArray := prog_9_method_65_code
def yX7_carryOut : MethodName := ⟨RX7, "carryOut", "()I"⟩
abbrev cX7_undo : ByteArray := prog_9_method_66_code
def yX7_undo : MethodName := ⟨RX7, "undo", "()I"⟩
abbrev cX7_save : ByteArray := prog_9_method_67_code
def yX7_save : MethodName := ⟨RX7, "save", "(I)I"⟩
abbrev cX7_restore : ByteArray := prog_9_method_68_code
def yX7_restore : MethodName := ⟨RX7, "restore", "(I)I"⟩
def RL : String := "CopyPlatesLaw"
abbrev cL_law : ByteArray := code
def yL_law : MethodName := ⟨RL, "law", "([I)Z"⟩
abbrev vwCl : List vw_C := [(RX0, TX0, 3), (RX1, TX1, 6), (RX2, TX2, 7), (RX3, TX3, 2), (RX4, TX4, 10), (RX5, TX5, 3), (RX6, TX6, 6), (RX7, TX7, 15)]
