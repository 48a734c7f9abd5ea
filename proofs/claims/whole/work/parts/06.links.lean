theorem cp_sub {big : List Cond} (ws : List Cond) (ps : List Nat) (hp : ws = ps.filterMap (fun i => big[i]?)) : ∀ w ∈ ws, w ∈ big := by
  intro w hw
  rw [hp] at hw
  obtain ⟨i, -, hi⟩ := List.mem_filterMap.mp hw
  exact List.mem_of_getElem? hi
theorem cp_inX0 : ∀ w ∈ wsX00, w ∈ cp_TG := fun w h => List.mem_filter.mpr ⟨cp_sub (big := lw_tbl) wsX00 [206, 208, 210] (by decide +kernel) w h, List.all_eq_true.mp (by decide +kernel : wsX00.all goodWord = true) w h⟩
theorem cp_cX0 : cp_clf 0 RX0 TX0 3 tyX0 := ⟨rfl, cp_inX0, tyX0_ok, nmX0, by decide, rfl⟩
theorem cp_inX1 : ∀ w ∈ wsX10, w ∈ cp_TG := fun w h => List.mem_filter.mpr ⟨cp_sub (big := lw_tbl) wsX10 [180, 182, 184, 186, 188, 190] (by decide +kernel) w h, List.all_eq_true.mp (by decide +kernel : wsX10.all goodWord = true) w h⟩
theorem cp_cX1 : cp_clf 1 RX1 TX1 6 tyX1 := ⟨rfl, cp_inX1, tyX1_ok, nmX1, by decide, rfl⟩
theorem cp_inX2 : ∀ w ∈ wsX20, w ∈ cp_TG := fun w h => List.mem_filter.mpr ⟨cp_sub (big := lw_tbl) wsX20 [247, 249, 251, 253, 255, 257, 259] (by decide +kernel) w h, List.all_eq_true.mp (by decide +kernel : wsX20.all goodWord = true) w h⟩
theorem cp_cX2 : cp_clf 2 RX2 TX2 7 tyX2 := ⟨rfl, cp_inX2, tyX2_ok, nmX2, by decide, rfl⟩
theorem cp_inX3 : ∀ w ∈ wsX30, w ∈ cp_TG := fun w h => List.mem_filter.mpr ⟨cp_sub (big := lw_tbl) wsX30 [223, 225] (by decide +kernel) w h, List.all_eq_true.mp (by decide +kernel : wsX30.all goodWord = true) w h⟩
theorem cp_cX3 : cp_clf 3 RX3 TX3 2 tyX3 := ⟨rfl, cp_inX3, tyX3_ok, nmX3, by decide, rfl⟩
theorem cp_inX4 : ∀ w ∈ wsX40, w ∈ cp_TG := fun w h => List.mem_filter.mpr ⟨cp_sub (big := lw_tbl) wsX40 [131, 133, 135, 137, 139, 141, 143, 145, 147, 149] (by decide +kernel) w h, List.all_eq_true.mp (by decide +kernel : wsX40.all goodWord = true) w h⟩
theorem cp_cX4 : cp_clf 4 RX4 TX4 10 tyX4 := ⟨rfl, cp_inX4, tyX4_ok, nmX4, by decide, rfl⟩
theorem cp_inX5 : ∀ w ∈ wsX50, w ∈ cp_TG := fun w h => List.mem_filter.mpr ⟨cp_sub (big := lw_tbl) wsX50 [166, 168, 170] (by decide +kernel) w h, List.all_eq_true.mp (by decide +kernel : wsX50.all goodWord = true) w h⟩
theorem cp_cX5 : cp_clf 5 RX5 TX5 3 tyX5 := ⟨rfl, cp_inX5, tyX5_ok, nmX5, by decide, rfl⟩
theorem cp_inX6 : ∀ w ∈ wsX60, w ∈ cp_TG := fun w h => List.mem_filter.mpr ⟨cp_sub (big := lw_tbl) wsX60 [268, 270, 272, 274, 276, 278] (by decide +kernel) w h, List.all_eq_true.mp (by decide +kernel : wsX60.all goodWord = true) w h⟩
theorem cp_cX6 : cp_clf 6 RX6 TX6 6 tyX6 := ⟨rfl, cp_inX6, tyX6_ok, nmX6, by decide, rfl⟩
theorem cp_inX7 : ∀ w ∈ wsX70, w ∈ cp_TG := fun w h => List.mem_filter.mpr ⟨cp_sub (big := lw_tbl) wsX70 [681, 683, 685, 687, 689, 691, 693, 695, 697, 699, 701, 703, 705, 707, 709] (by decide +kernel) w h, List.all_eq_true.mp (by decide +kernel : wsX70.all goodWord = true) w h⟩
theorem cp_cX7 : cp_clf 7 RX7 TX7 15 tyX7 := ⟨rfl, cp_inX7, tyX7_ok, nmX7, by decide, rfl⟩
theorem me_X0_init : cp_me yX0_init cX0_init 2 none 0 := ⟨cp_TG_in (i := 197) (by decide +kernel) (by decide +kernel), cp_TG_in (i := 75) (by decide +kernel) (by decide +kernel), by decide, by decide, by decide +kernel⟩
theorem me_X0_prepare : cp_me yX0_prepare cX0_prepare 2 none 1 := ⟨cp_TG_in (i := 288) (by decide +kernel) (by decide +kernel), cp_TG_in (i := 75) (by decide +kernel) (by decide +kernel), by decide, by decide, by decide +kernel⟩
theorem mi_X0_prepare : cp_mi yX0_prepare := ⟨cp_TG_in (i := 286) (by decide +kernel) (by decide +kernel), cp_TG_in (i := 287) (by decide +kernel) (by decide +kernel)⟩
theorem me_X0_recordUnlessError : cp_me yX0_recordUnlessError cX0_recordUnlessError 2 (some .int) 1 := ⟨cp_TG_in (i := 315) (by decide +kernel) (by decide +kernel), cp_TG_in (i := 75) (by decide +kernel) (by decide +kernel), by decide, by decide, by decide +kernel⟩
theorem mi_X0_recordUnlessError : cp_mi yX0_recordUnlessError := ⟨cp_TG_in (i := 313) (by decide +kernel) (by decide +kernel), cp_TG_in (i := 314) (by decide +kernel) (by decide +kernel)⟩
theorem me_X0_takeBack : cp_me yX0_takeBack cX0_takeBack 2 none 1 := ⟨cp_TG_in (i := 651) (by decide +kernel) (by decide +kernel), cp_TG_in (i := 75) (by decide +kernel) (by decide +kernel), by decide, by decide, by decide +kernel⟩
theorem mi_X0_takeBack : cp_mi yX0_takeBack := ⟨cp_TG_in (i := 649) (by decide +kernel) (by decide +kernel), cp_TG_in (i := 650) (by decide +kernel) (by decide +kernel)⟩
theorem me_X1_init : cp_me yX1_init cX1_init 2 none 0 := ⟨cp_TG_in (i := 93) (by decide +kernel) (by decide +kernel), cp_TG_in (i := 72) (by decide +kernel) (by decide +kernel), by decide, by decide, by decide +kernel⟩
theorem me_X1_copyFrom : cp_me yX1_copyFrom cX1_copyFrom 3 none 1 := ⟨cp_TG_in (i := 292) (by decide +kernel) (by decide +kernel), cp_TG_in (i := 72) (by decide +kernel) (by decide +kernel), by decide, by decide, by decide +kernel⟩
theorem mi_X1_copyFrom : cp_mi yX1_copyFrom := ⟨cp_TG_in (i := 290) (by decide +kernel) (by decide +kernel), cp_TG_in (i := 291) (by decide +kernel) (by decide +kernel)⟩
theorem me_X1_hasPiece : cp_me yX1_hasPiece cX1_hasPiece 2 (some .boolean) 1 := ⟨cp_TG_in (i := 362) (by decide +kernel) (by decide +kernel), cp_TG_in (i := 72) (by decide +kernel) (by decide +kernel), by decide, by decide, by decide +kernel⟩
theorem mi_X1_hasPiece : cp_mi yX1_hasPiece := ⟨cp_TG_in (i := 360) (by decide +kernel) (by decide +kernel), cp_TG_in (i := 361) (by decide +kernel) (by decide +kernel)⟩
theorem me_X1_isPiece : cp_me yX1_isPiece cX1_isPiece 3 (some .boolean) 2 := ⟨cp_TG_in (i := 547) (by decide +kernel) (by decide +kernel), cp_TG_in (i := 72) (by decide +kernel) (by decide +kernel), by decide, by decide, by decide +kernel⟩
theorem mi_X1_isPiece : cp_mi yX1_isPiece := ⟨cp_TG_in (i := 545) (by decide +kernel) (by decide +kernel), cp_TG_in (i := 546) (by decide +kernel) (by decide +kernel)⟩
theorem me_X1_changeSetting : cp_me yX1_changeSetting cX1_changeSetting 4 (some .int) 2 := ⟨cp_TG_in (i := 307) (by decide +kernel) (by decide +kernel), cp_TG_in (i := 72) (by decide +kernel) (by decide +kernel), by decide, by decide, by decide +kernel⟩
theorem mi_X1_changeSetting : cp_mi yX1_changeSetting := ⟨cp_TG_in (i := 305) (by decide +kernel) (by decide +kernel), cp_TG_in (i := 306) (by decide +kernel) (by decide +kernel)⟩
theorem me_X1_addPiece : cp_me yX1_addPiece cX1_addPiece 6 (some .int) 4 := ⟨cp_TG_in (i := 326) (by decide +kernel) (by decide +kernel), cp_TG_in (i := 72) (by decide +kernel) (by decide +kernel), by decide, by decide, by decide +kernel⟩
theorem mi_X1_addPiece : cp_mi yX1_addPiece := ⟨cp_TG_in (i := 324) (by decide +kernel) (by decide +kernel), cp_TG_in (i := 325) (by decide +kernel) (by decide +kernel)⟩
theorem me_X1_addPlate : cp_me yX1_addPlate cX1_addPlate 2 (some .int) 1 := ⟨cp_TG_in (i := 338) (by decide +kernel) (by decide +kernel), cp_TG_in (i := 72) (by decide +kernel) (by decide +kernel), by decide, by decide, by decide +kernel⟩
theorem mi_X1_addPlate : cp_mi yX1_addPlate := ⟨cp_TG_in (i := 336) (by decide +kernel) (by decide +kernel), cp_TG_in (i := 337) (by decide +kernel) (by decide +kernel)⟩
theorem me_X1_turnHold : cp_me yX1_turnHold cX1_turnHold 3 (some .int) 1 := ⟨cp_TG_in (i := 358) (by decide +kernel) (by decide +kernel), cp_TG_in (i := 72) (by decide +kernel) (by decide +kernel), by decide, by decide, by decide +kernel⟩
theorem mi_X1_turnHold : cp_mi yX1_turnHold := ⟨cp_TG_in (i := 356) (by decide +kernel) (by decide +kernel), cp_TG_in (i := 357) (by decide +kernel) (by decide +kernel)⟩
theorem me_X1_killPiece : cp_me yX1_killPiece cX1_killPiece 3 (some .int) 1 := ⟨cp_TG_in (i := 373) (by decide +kernel) (by decide +kernel), cp_TG_in (i := 72) (by decide +kernel) (by decide +kernel), by decide, by decide, by decide +kernel⟩
theorem mi_X1_killPiece : cp_mi yX1_killPiece := ⟨cp_TG_in (i := 371) (by decide +kernel) (by decide +kernel), cp_TG_in (i := 372) (by decide +kernel) (by decide +kernel)⟩
theorem me_X1_passMinutes : cp_me yX1_passMinutes cX1_passMinutes 4 (some .int) 1 := ⟨cp_TG_in (i := 404) (by decide +kernel) (by decide +kernel), cp_TG_in (i := 72) (by decide +kernel) (by decide +kernel), by decide, by decide, by decide +kernel⟩
theorem mi_X1_passMinutes : cp_mi yX1_passMinutes := ⟨cp_TG_in (i := 402) (by decide +kernel) (by decide +kernel), cp_TG_in (i := 403) (by decide +kernel) (by decide +kernel)⟩
theorem me_X1_passMinute : cp_me yX1_passMinute cX1_passMinute 2 (some .boolean) 0 := ⟨cp_TG_in (i := 408) (by decide +kernel) (by decide +kernel), cp_TG_in (i := 72) (by decide +kernel) (by decide +kernel), by decide, by decide, by decide +kernel⟩
theorem mi_X1_passMinute : cp_mi yX1_passMinute := ⟨cp_TG_in (i := 406) (by decide +kernel) (by decide +kernel), cp_TG_in (i := 407) (by decide +kernel) (by decide +kernel)⟩
theorem me_X1_editAtDesks : cp_me yX1_editAtDesks cX1_editAtDesks 4 none 0 := ⟨cp_TG_in (i := 412) (by decide +kernel) (by decide +kernel), cp_TG_in (i := 72) (by decide +kernel) (by decide +kernel), by decide, by decide, by decide +kernel⟩
theorem mi_X1_editAtDesks : cp_mi yX1_editAtDesks := ⟨cp_TG_in (i := 411) (by decide +kernel) (by decide +kernel), cp_TG_in (i := 6) (by decide +kernel) (by decide +kernel)⟩
theorem me_X1_readAtLawyer : cp_me yX1_readAtLawyer cX1_readAtLawyer 2 none 0 := ⟨cp_TG_in (i := 425) (by decide +kernel) (by decide +kernel), cp_TG_in (i := 72) (by decide +kernel) (by decide +kernel), by decide, by decide, by decide +kernel⟩
theorem mi_X1_readAtLawyer : cp_mi yX1_readAtLawyer := ⟨cp_TG_in (i := 424) (by decide +kernel) (by decide +kernel), cp_TG_in (i := 8) (by decide +kernel) (by decide +kernel)⟩
theorem me_X1_firstAtDesk : cp_me yX1_firstAtDesk cX1_firstAtDesk 3 (some .int) 1 := ⟨cp_TG_in (i := 529) (by decide +kernel) (by decide +kernel), cp_TG_in (i := 72) (by decide +kernel) (by decide +kernel), by decide, by decide, by decide +kernel⟩
theorem mi_X1_firstAtDesk : cp_mi yX1_firstAtDesk := ⟨cp_TG_in (i := 528) (by decide +kernel) (by decide +kernel), cp_TG_in (i := 21) (by decide +kernel) (by decide +kernel)⟩
theorem me_X1_firstAtLawyer : cp_me yX1_firstAtLawyer cX1_firstAtLawyer 3 (some .int) 0 := ⟨cp_TG_in (i := 429) (by decide +kernel) (by decide +kernel), cp_TG_in (i := 72) (by decide +kernel) (by decide +kernel), by decide, by decide, by decide +kernel⟩
theorem mi_X1_firstAtLawyer : cp_mi yX1_firstAtLawyer := ⟨cp_TG_in (i := 428) (by decide +kernel) (by decide +kernel), cp_TG_in (i := 9) (by decide +kernel) (by decide +kernel)⟩
theorem me_X1_placeInQueue : cp_me yX1_placeInQueue cX1_placeInQueue 2 (some .int) 1 := ⟨cp_TG_in (i := 465) (by decide +kernel) (by decide +kernel), cp_TG_in (i := 72) (by decide +kernel) (by decide +kernel), by decide, by decide, by decide +kernel⟩
theorem mi_X1_placeInQueue : cp_mi yX1_placeInQueue := ⟨cp_TG_in (i := 464) (by decide +kernel) (by decide +kernel), cp_TG_in (i := 12) (by decide +kernel) (by decide +kernel)⟩
theorem me_X1_placeAtDesk : cp_me yX1_placeAtDesk cX1_placeAtDesk 4 (some .int) 1 := ⟨cp_TG_in (i := 469) (by decide +kernel) (by decide +kernel), cp_TG_in (i := 72) (by decide +kernel) (by decide +kernel), by decide, by decide, by decide +kernel⟩
theorem mi_X1_placeAtDesk : cp_mi yX1_placeAtDesk := ⟨cp_TG_in (i := 468) (by decide +kernel) (by decide +kernel), cp_TG_in (i := 13) (by decide +kernel) (by decide +kernel)⟩
theorem me_X1_placeAtLawyer : cp_me yX1_placeAtLawyer cX1_placeAtLawyer 4 (some .int) 1 := ⟨cp_TG_in (i := 473) (by decide +kernel) (by decide +kernel), cp_TG_in (i := 72) (by decide +kernel) (by decide +kernel), by decide, by decide, by decide +kernel⟩
theorem mi_X1_placeAtLawyer : cp_mi yX1_placeAtLawyer := ⟨cp_TG_in (i := 472) (by decide +kernel) (by decide +kernel), cp_TG_in (i := 14) (by decide +kernel) (by decide +kernel)⟩
theorem me_X1_piecesForPlate : cp_me yX1_piecesForPlate cX1_piecesForPlate 3 (some .int) 0 := ⟨cp_TG_in (i := 441) (by decide +kernel) (by decide +kernel), cp_TG_in (i := 72) (by decide +kernel) (by decide +kernel), by decide, by decide, by decide +kernel⟩
theorem mi_X1_piecesForPlate : cp_mi yX1_piecesForPlate := ⟨cp_TG_in (i := 439) (by decide +kernel) (by decide +kernel), cp_TG_in (i := 440) (by decide +kernel) (by decide +kernel)⟩
theorem me_X1_linesOf : cp_me yX1_linesOf cX1_linesOf 4 (some .int) 1 := ⟨cp_TG_in (i := 489) (by decide +kernel) (by decide +kernel), cp_TG_in (i := 72) (by decide +kernel) (by decide +kernel), by decide, by decide, by decide +kernel⟩
theorem mi_X1_linesOf : cp_mi yX1_linesOf := ⟨cp_TG_in (i := 487) (by decide +kernel) (by decide +kernel), cp_TG_in (i := 488) (by decide +kernel) (by decide +kernel)⟩
theorem me_X1_takenNow : cp_me yX1_takenNow cX1_takenNow 6 (some .int) 0 := ⟨cp_TG_in (i := 437) (by decide +kernel) (by decide +kernel), cp_TG_in (i := 72) (by decide +kernel) (by decide +kernel), by decide, by decide, by decide +kernel⟩
theorem mi_X1_takenNow : cp_mi yX1_takenNow := ⟨cp_TG_in (i := 435) (by decide +kernel) (by decide +kernel), cp_TG_in (i := 436) (by decide +kernel) (by decide +kernel)⟩
theorem me_X1_firstByRank : cp_me yX1_firstByRank cX1_firstByRank 4 (some .int) 1 := ⟨cp_TG_in (i := 449) (by decide +kernel) (by decide +kernel), cp_TG_in (i := 72) (by decide +kernel) (by decide +kernel), by decide, by decide, by decide +kernel⟩
theorem mi_X1_firstByRank : cp_mi yX1_firstByRank := ⟨cp_TG_in (i := 448) (by decide +kernel) (by decide +kernel), cp_TG_in (i := 10) (by decide +kernel) (by decide +kernel)⟩
theorem me_X1_lastTakenAheadOf : cp_me yX1_lastTakenAheadOf cX1_lastTakenAheadOf 5 (some .int) 1 := ⟨cp_TG_in (i := 533) (by decide +kernel) (by decide +kernel), cp_TG_in (i := 72) (by decide +kernel) (by decide +kernel), by decide, by decide, by decide +kernel⟩
theorem mi_X1_lastTakenAheadOf : cp_mi yX1_lastTakenAheadOf := ⟨cp_TG_in (i := 532) (by decide +kernel) (by decide +kernel), cp_TG_in (i := 22) (by decide +kernel) (by decide +kernel)⟩
theorem me_X1_goesAhead : cp_me yX1_goesAhead cX1_goesAhead 5 (some .boolean) 2 := ⟨cp_TG_in (i := 453) (by decide +kernel) (by decide +kernel), cp_TG_in (i := 72) (by decide +kernel) (by decide +kernel), by decide, by decide, by decide +kernel⟩
theorem mi_X1_goesAhead : cp_mi yX1_goesAhead := ⟨cp_TG_in (i := 452) (by decide +kernel) (by decide +kernel), cp_TG_in (i := 11) (by decide +kernel) (by decide +kernel)⟩
theorem me_X1_whyNotOnPlate : cp_me yX1_whyNotOnPlate cX1_whyNotOnPlate 3 (some .int) 2 := ⟨cp_TG_in (i := 517) (by decide +kernel) (by decide +kernel), cp_TG_in (i := 72) (by decide +kernel) (by decide +kernel), by decide, by decide, by decide +kernel⟩
theorem mi_X1_whyNotOnPlate : cp_mi yX1_whyNotOnPlate := ⟨cp_TG_in (i := 515) (by decide +kernel) (by decide +kernel), cp_TG_in (i := 516) (by decide +kernel) (by decide +kernel)⟩
theorem me_X1_reasonOf : cp_me yX1_reasonOf cX1_reasonOf 3 (some .int) 1 := ⟨cp_TG_in (i := 521) (by decide +kernel) (by decide +kernel), cp_TG_in (i := 72) (by decide +kernel) (by decide +kernel), by decide, by decide, by decide +kernel⟩
theorem mi_X1_reasonOf : cp_mi yX1_reasonOf := ⟨cp_TG_in (i := 520) (by decide +kernel) (by decide +kernel), cp_TG_in (i := 19) (by decide +kernel) (by decide +kernel)⟩
theorem me_X1_causeOf : cp_me yX1_causeOf cX1_causeOf 2 (some .int) 1 := ⟨cp_TG_in (i := 525) (by decide +kernel) (by decide +kernel), cp_TG_in (i := 72) (by decide +kernel) (by decide +kernel), by decide, by decide, by decide +kernel⟩
theorem mi_X1_causeOf : cp_mi yX1_causeOf := ⟨cp_TG_in (i := 524) (by decide +kernel) (by decide +kernel), cp_TG_in (i := 20) (by decide +kernel) (by decide +kernel)⟩
theorem me_X1_isMade : cp_me yX1_isMade cX1_isMade 2 (some .boolean) 1 := ⟨cp_TG_in (i := 385) (by decide +kernel) (by decide +kernel), cp_TG_in (i := 72) (by decide +kernel) (by decide +kernel), by decide, by decide, by decide +kernel⟩
theorem mi_X1_isMade : cp_mi yX1_isMade := ⟨cp_TG_in (i := 384) (by decide +kernel) (by decide +kernel), cp_TG_in (i := 4) (by decide +kernel) (by decide +kernel)⟩
theorem me_X1_nextDue : cp_me yX1_nextDue cX1_nextDue 2 (some .int) 0 := ⟨cp_TG_in (i := 396) (by decide +kernel) (by decide +kernel), cp_TG_in (i := 72) (by decide +kernel) (by decide +kernel), by decide, by decide, by decide +kernel⟩
theorem mi_X1_nextDue : cp_mi yX1_nextDue := ⟨cp_TG_in (i := 394) (by decide +kernel) (by decide +kernel), cp_TG_in (i := 395) (by decide +kernel) (by decide +kernel)⟩
theorem me_X1_minutesToPlate : cp_me yX1_minutesToPlate cX1_minutesToPlate 2 (some .int) 1 := ⟨cp_TG_in (i := 562) (by decide +kernel) (by decide +kernel), cp_TG_in (i := 72) (by decide +kernel) (by decide +kernel), by decide, by decide, by decide +kernel⟩
theorem mi_X1_minutesToPlate : cp_mi yX1_minutesToPlate := ⟨cp_TG_in (i := 560) (by decide +kernel) (by decide +kernel), cp_TG_in (i := 561) (by decide +kernel) (by decide +kernel)⟩
theorem me_X1_madePlates : cp_me yX1_madePlates cX1_madePlates 3 (some .int) 0 := ⟨cp_TG_in (i := 381) (by decide +kernel) (by decide +kernel), cp_TG_in (i := 72) (by decide +kernel) (by decide +kernel), by decide, by decide, by decide +kernel⟩
theorem mi_X1_madePlates : cp_mi yX1_madePlates := ⟨cp_TG_in (i := 380) (by decide +kernel) (by decide +kernel), cp_TG_in (i := 3) (by decide +kernel) (by decide +kernel)⟩
theorem me_X1_plateAt : cp_me yX1_plateAt cX1_plateAt 3 (some .int) 1 := ⟨cp_TG_in (i := 342) (by decide +kernel) (by decide +kernel), cp_TG_in (i := 72) (by decide +kernel) (by decide +kernel), by decide, by decide, by decide +kernel⟩
theorem mi_X1_plateAt : cp_mi yX1_plateAt := ⟨cp_TG_in (i := 341) (by decide +kernel) (by decide +kernel), cp_TG_in (i := 0) (by decide +kernel) (by decide +kernel)⟩
theorem me_X1_isOnLatestMade : cp_me yX1_isOnLatestMade cX1_isOnLatestMade 3 (some .boolean) 1 := ⟨cp_TG_in (i := 377) (by decide +kernel) (by decide +kernel), cp_TG_in (i := 72) (by decide +kernel) (by decide +kernel), by decide, by decide, by decide +kernel⟩
theorem mi_X1_isOnLatestMade : cp_mi yX1_isOnLatestMade := ⟨cp_TG_in (i := 376) (by decide +kernel) (by decide +kernel), cp_TG_in (i := 2) (by decide +kernel) (by decide +kernel)⟩
theorem me_X1_tellReplate : cp_me yX1_tellReplate cX1_tellReplate 3 (some .boolean) 0 := ⟨cp_TG_in (i := 392) (by decide +kernel) (by decide +kernel), cp_TG_in (i := 72) (by decide +kernel) (by decide +kernel), by decide, by decide, by decide +kernel⟩
theorem mi_X1_tellReplate : cp_mi yX1_tellReplate := ⟨cp_TG_in (i := 391) (by decide +kernel) (by decide +kernel), cp_TG_in (i := 5) (by decide +kernel) (by decide +kernel)⟩
theorem me_X1_insertPlate : cp_me yX1_insertPlate cX1_insertPlate 4 (some .int) 2 := ⟨cp_TG_in (i := 346) (by decide +kernel) (by decide +kernel), cp_TG_in (i := 72) (by decide +kernel) (by decide +kernel), by decide, by decide, by decide +kernel⟩
theorem mi_X1_insertPlate : cp_mi yX1_insertPlate := ⟨cp_TG_in (i := 345) (by decide +kernel) (by decide +kernel), cp_TG_in (i := 1) (by decide +kernel) (by decide +kernel)⟩
theorem me_X1_factOfPiece : cp_me yX1_factOfPiece cX1_factOfPiece 4 (some .int) 2 := ⟨cp_TG_in (i := 461) (by decide +kernel) (by decide +kernel), cp_TG_in (i := 72) (by decide +kernel) (by decide +kernel), by decide, by decide, by decide +kernel⟩
theorem mi_X1_factOfPiece : cp_mi yX1_factOfPiece := ⟨cp_TG_in (i := 459) (by decide +kernel) (by decide +kernel), cp_TG_in (i := 460) (by decide +kernel) (by decide +kernel)⟩
theorem me_X1_platesWith : cp_me yX1_platesWith cX1_platesWith 4 (some .int) 1 := ⟨cp_TG_in (i := 477) (by decide +kernel) (by decide +kernel), cp_TG_in (i := 72) (by decide +kernel) (by decide +kernel), by decide, by decide, by decide +kernel⟩
theorem mi_X1_platesWith : cp_mi yX1_platesWith := ⟨cp_TG_in (i := 476) (by decide +kernel) (by decide +kernel), cp_TG_in (i := 15) (by decide +kernel) (by decide +kernel)⟩
theorem me_X1_factOfPlate : cp_me yX1_factOfPlate cX1_factOfPlate 3 (some .int) 2 := ⟨cp_TG_in (i := 485) (by decide +kernel) (by decide +kernel), cp_TG_in (i := 72) (by decide +kernel) (by decide +kernel), by decide, by decide, by decide +kernel⟩
theorem mi_X1_factOfPlate : cp_mi yX1_factOfPlate := ⟨cp_TG_in (i := 483) (by decide +kernel) (by decide +kernel), cp_TG_in (i := 484) (by decide +kernel) (by decide +kernel)⟩
theorem me_X1_factOfNight : cp_me yX1_factOfNight cX1_factOfNight 2 (some .int) 1 := ⟨cp_TG_in (i := 497) (by decide +kernel) (by decide +kernel), cp_TG_in (i := 72) (by decide +kernel) (by decide +kernel), by decide, by decide, by decide +kernel⟩
theorem mi_X1_factOfNight : cp_mi yX1_factOfNight := ⟨cp_TG_in (i := 495) (by decide +kernel) (by decide +kernel), cp_TG_in (i := 496) (by decide +kernel) (by decide +kernel)⟩
theorem me_X1_piecesThatAre : cp_me yX1_piecesThatAre cX1_piecesThatAre 4 (some .int) 1 := ⟨cp_TG_in (i := 501) (by decide +kernel) (by decide +kernel), cp_TG_in (i := 72) (by decide +kernel) (by decide +kernel), by decide, by decide, by decide +kernel⟩
theorem mi_X1_piecesThatAre : cp_mi yX1_piecesThatAre := ⟨cp_TG_in (i := 500) (by decide +kernel) (by decide +kernel), cp_TG_in (i := 16) (by decide +kernel) (by decide +kernel)⟩
theorem me_X1_heldPieces : cp_me yX1_heldPieces cX1_heldPieces 3 (some .int) 0 := ⟨cp_TG_in (i := 505) (by decide +kernel) (by decide +kernel), cp_TG_in (i := 72) (by decide +kernel) (by decide +kernel), by decide, by decide, by decide +kernel⟩
theorem mi_X1_heldPieces : cp_mi yX1_heldPieces := ⟨cp_TG_in (i := 504) (by decide +kernel) (by decide +kernel), cp_TG_in (i := 17) (by decide +kernel) (by decide +kernel)⟩
theorem me_X1_replates : cp_me yX1_replates cX1_replates 3 (some .int) 0 := ⟨cp_TG_in (i := 509) (by decide +kernel) (by decide +kernel), cp_TG_in (i := 72) (by decide +kernel) (by decide +kernel), by decide, by decide, by decide +kernel⟩
theorem mi_X1_replates : cp_mi yX1_replates := ⟨cp_TG_in (i := 508) (by decide +kernel) (by decide +kernel), cp_TG_in (i := 18) (by decide +kernel) (by decide +kernel)⟩
theorem me_X2_init : cp_me yX2_init cX2_init 2 none 1 := ⟨cp_TG_in (i := 233) (by decide +kernel) (by decide +kernel), cp_TG_in (i := 77) (by decide +kernel) (by decide +kernel), by decide, by decide, by decide +kernel⟩
theorem me_X2_goToStart : cp_me yX2_goToStart cX2_goToStart 1 none 0 := ⟨cp_TG_in (i := 607) (by decide +kernel) (by decide +kernel), cp_TG_in (i := 77) (by decide +kernel) (by decide +kernel), by decide, by decide, by decide +kernel⟩
theorem mi_X2_goToStart : cp_mi yX2_goToStart := ⟨cp_TG_in (i := 605) (by decide +kernel) (by decide +kernel), cp_TG_in (i := 606) (by decide +kernel) (by decide +kernel)⟩
theorem me_X2_findFault : cp_me yX2_findFault cX2_findFault 2 (some .int) 0 := ⟨cp_TG_in (i := 603) (by decide +kernel) (by decide +kernel), cp_TG_in (i := 77) (by decide +kernel) (by decide +kernel), by decide, by decide, by decide +kernel⟩
theorem mi_X2_findFault : cp_mi yX2_findFault := ⟨cp_TG_in (i := 601) (by decide +kernel) (by decide +kernel), cp_TG_in (i := 602) (by decide +kernel) (by decide +kernel)⟩
theorem me_X2_readOrder : cp_me yX2_readOrder cX2_readOrder 1 (some .boolean) 0 := ⟨cp_TG_in (i := 611) (by decide +kernel) (by decide +kernel), cp_TG_in (i := 77) (by decide +kernel) (by decide +kernel), by decide, by decide, by decide +kernel⟩
theorem mi_X2_readOrder : cp_mi yX2_readOrder := ⟨cp_TG_in (i := 609) (by decide +kernel) (by decide +kernel), cp_TG_in (i := 610) (by decide +kernel) (by decide +kernel)⟩
theorem me_X2_readPiece : cp_me yX2_readPiece cX2_readPiece 1 (some .boolean) 0 := ⟨cp_TG_in (i := 619) (by decide +kernel) (by decide +kernel), cp_TG_in (i := 77) (by decide +kernel) (by decide +kernel), by decide, by decide, by decide +kernel⟩
theorem mi_X2_readPiece : cp_mi yX2_readPiece := ⟨cp_TG_in (i := 618) (by decide +kernel) (by decide +kernel), cp_TG_in (i := 24) (by decide +kernel) (by decide +kernel)⟩
theorem me_X2_readNumber : cp_me yX2_readNumber cX2_readNumber 3 (some .boolean) 0 := ⟨cp_TG_in (i := 631) (by decide +kernel) (by decide +kernel), cp_TG_in (i := 77) (by decide +kernel) (by decide +kernel), by decide, by decide, by decide +kernel⟩
theorem mi_X2_readNumber : cp_mi yX2_readNumber := ⟨cp_TG_in (i := 630) (by decide +kernel) (by decide +kernel), cp_TG_in (i := 26) (by decide +kernel) (by decide +kernel)⟩
theorem me_X2_readSign : cp_me yX2_readSign cX2_readSign 2 (some .boolean) 1 := ⟨cp_TG_in (i := 627) (by decide +kernel) (by decide +kernel), cp_TG_in (i := 77) (by decide +kernel) (by decide +kernel), by decide, by decide, by decide +kernel⟩
theorem mi_X2_readSign : cp_mi yX2_readSign := ⟨cp_TG_in (i := 625) (by decide +kernel) (by decide +kernel), cp_TG_in (i := 626) (by decide +kernel) (by decide +kernel)⟩
theorem me_X2_digitHere : cp_me yX2_digitHere cX2_digitHere 2 (some .int) 0 := ⟨cp_TG_in (i := 623) (by decide +kernel) (by decide +kernel), cp_TG_in (i := 77) (by decide +kernel) (by decide +kernel), by decide, by decide, by decide +kernel⟩
theorem mi_X2_digitHere : cp_mi yX2_digitHere := ⟨cp_TG_in (i := 622) (by decide +kernel) (by decide +kernel), cp_TG_in (i := 25) (by decide +kernel) (by decide +kernel)⟩
theorem me_X3_init : cp_me yX3_init cX3_init 1 none 0 := ⟨cp_TG_in (i := 217) (by decide +kernel) (by decide +kernel), cp_TG_in (i := 76) (by decide +kernel) (by decide +kernel), by decide, by decide, by decide +kernel⟩
theorem me_X3_append : cp_me yX3_append cX3_append 7 (some .int) 1 := ⟨cp_TG_in (i := 581) (by decide +kernel) (by decide +kernel), cp_TG_in (i := 76) (by decide +kernel) (by decide +kernel), by decide, by decide, by decide +kernel⟩
theorem mi_X3_append : cp_mi yX3_append := ⟨cp_TG_in (i := 579) (by decide +kernel) (by decide +kernel), cp_TG_in (i := 580) (by decide +kernel) (by decide +kernel)⟩
theorem me_X3_charactersIn : cp_me yX3_charactersIn cX3_charactersIn 7 (some .int) 1 := ⟨cp_TG_in (i := 584) (by decide +kernel) (by decide +kernel), cp_TG_in (i := 76) (by decide +kernel) (by decide +kernel), by decide, by decide, by decide +kernel⟩
theorem ms_X3_charactersIn : Cond.static yX3_charactersIn ∈ cp_TG := cp_TG_in (i := 583) (by decide +kernel) (by decide +kernel)
theorem me_X3_empty : cp_me yX3_empty cX3_empty 2 (some .int) 0 := ⟨cp_TG_in (i := 595) (by decide +kernel) (by decide +kernel), cp_TG_in (i := 76) (by decide +kernel) (by decide +kernel), by decide, by decide, by decide +kernel⟩
theorem mi_X3_empty : cp_mi yX3_empty := ⟨cp_TG_in (i := 593) (by decide +kernel) (by decide +kernel), cp_TG_in (i := 594) (by decide +kernel) (by decide +kernel)⟩
theorem me_X3_characterAt : cp_me yX3_characterAt cX3_characterAt 2 (some .char) 1 := ⟨cp_TG_in (i := 615) (by decide +kernel) (by decide +kernel), cp_TG_in (i := 76) (by decide +kernel) (by decide +kernel), by decide, by decide, by decide +kernel⟩
theorem mi_X3_characterAt : cp_mi yX3_characterAt := ⟨cp_TG_in (i := 613) (by decide +kernel) (by decide +kernel), cp_TG_in (i := 614) (by decide +kernel) (by decide +kernel)⟩
theorem me_X4_init : cp_me yX4_init cX4_init 1 none 0 := ⟨cp_TG_in (i := 109) (by decide +kernel) (by decide +kernel), cp_TG_in (i := 73) (by decide +kernel) (by decide +kernel), by decide, by decide, by decide +kernel⟩
theorem me_X4_come : cp_me yX4_come cX4_come 5 none 4 := ⟨cp_TG_in (i := 330) (by decide +kernel) (by decide +kernel), cp_TG_in (i := 73) (by decide +kernel) (by decide +kernel), by decide, by decide, by decide +kernel⟩
theorem mi_X4_come : cp_mi yX4_come := ⟨cp_TG_in (i := 328) (by decide +kernel) (by decide +kernel), cp_TG_in (i := 329) (by decide +kernel) (by decide +kernel)⟩
theorem me_X4_copyFrom : cp_me yX4_copyFrom cX4_copyFrom 2 none 1 := ⟨cp_TG_in (i := 299) (by decide +kernel) (by decide +kernel), cp_TG_in (i := 73) (by decide +kernel) (by decide +kernel), by decide, by decide, by decide +kernel⟩
theorem mi_X4_copyFrom : cp_mi yX4_copyFrom := ⟨cp_TG_in (i := 297) (by decide +kernel) (by decide +kernel), cp_TG_in (i := 298) (by decide +kernel) (by decide +kernel)⟩
theorem me_X4_editFor : cp_me yX4_editFor cX4_editFor 3 none 2 := ⟨cp_TG_in (i := 416) (by decide +kernel) (by decide +kernel), cp_TG_in (i := 73) (by decide +kernel) (by decide +kernel), by decide, by decide, by decide +kernel⟩
theorem mi_X4_editFor : cp_mi yX4_editFor := ⟨cp_TG_in (i := 414) (by decide +kernel) (by decide +kernel), cp_TG_in (i := 415) (by decide +kernel) (by decide +kernel)⟩
theorem me_X4_readOneMinute : cp_me yX4_readOneMinute cX4_readOneMinute 3 none 2 := ⟨cp_TG_in (i := 433) (by decide +kernel) (by decide +kernel), cp_TG_in (i := 73) (by decide +kernel) (by decide +kernel), by decide, by decide, by decide +kernel⟩
theorem mi_X4_readOneMinute : cp_mi yX4_readOneMinute := ⟨cp_TG_in (i := 431) (by decide +kernel) (by decide +kernel), cp_TG_in (i := 432) (by decide +kernel) (by decide +kernel)⟩
theorem me_X4_becomeReady : cp_me yX4_becomeReady cX4_becomeReady 2 none 1 := ⟨cp_TG_in (i := 421) (by decide +kernel) (by decide +kernel), cp_TG_in (i := 73) (by decide +kernel) (by decide +kernel), by decide, by decide, by decide +kernel⟩
theorem mi_X4_becomeReady : cp_mi yX4_becomeReady := ⟨cp_TG_in (i := 420) (by decide +kernel) (by decide +kernel), cp_TG_in (i := 7) (by decide +kernel) (by decide +kernel)⟩
theorem me_X4_isForPlate : cp_me yX4_isForPlate cX4_isForPlate 1 (some .boolean) 0 := ⟨cp_TG_in (i := 445) (by decide +kernel) (by decide +kernel), cp_TG_in (i := 73) (by decide +kernel) (by decide +kernel), by decide, by decide, by decide +kernel⟩
theorem mi_X4_isForPlate : cp_mi yX4_isForPlate := ⟨cp_TG_in (i := 443) (by decide +kernel) (by decide +kernel), cp_TG_in (i := 444) (by decide +kernel) (by decide +kernel)⟩
theorem me_X5_init : cp_me yX5_init cX5_init 1 none 0 := ⟨cp_TG_in (i := 158) (by decide +kernel) (by decide +kernel), cp_TG_in (i := 74) (by decide +kernel) (by decide +kernel), by decide, by decide, by decide +kernel⟩
theorem me_X5_tell : cp_me yX5_tell cX5_tell 3 none 2 := ⟨cp_TG_in (i := 350) (by decide +kernel) (by decide +kernel), cp_TG_in (i := 74) (by decide +kernel) (by decide +kernel), by decide, by decide, by decide +kernel⟩
theorem mi_X5_tell : cp_mi yX5_tell := ⟨cp_TG_in (i := 348) (by decide +kernel) (by decide +kernel), cp_TG_in (i := 349) (by decide +kernel) (by decide +kernel)⟩
theorem me_X5_copyFrom : cp_me yX5_copyFrom cX5_copyFrom 2 none 1 := ⟨cp_TG_in (i := 303) (by decide +kernel) (by decide +kernel), cp_TG_in (i := 74) (by decide +kernel) (by decide +kernel), by decide, by decide, by decide +kernel⟩
theorem mi_X5_copyFrom : cp_mi yX5_copyFrom := ⟨cp_TG_in (i := 301) (by decide +kernel) (by decide +kernel), cp_TG_in (i := 302) (by decide +kernel) (by decide +kernel)⟩
theorem me_X6_init : cp_me yX6_init cX6_init 1 none 0 := ⟨cp_TG_in (i := 85) (by decide +kernel) (by decide +kernel), cp_TG_in (i := 71) (by decide +kernel) (by decide +kernel), by decide, by decide, by decide +kernel⟩
theorem me_X6_set : cp_me yX6_set cX6_set 3 (some .int) 2 := ⟨cp_TG_in (i := 284) (by decide +kernel) (by decide +kernel), cp_TG_in (i := 71) (by decide +kernel) (by decide +kernel), by decide, by decide, by decide +kernel⟩
theorem mi_X6_set : cp_mi yX6_set := ⟨cp_TG_in (i := 282) (by decide +kernel) (by decide +kernel), cp_TG_in (i := 283) (by decide +kernel) (by decide +kernel)⟩
theorem me_X6_piece : cp_me yX6_piece cX6_piece 5 (some .int) 4 := ⟨cp_TG_in (i := 322) (by decide +kernel) (by decide +kernel), cp_TG_in (i := 71) (by decide +kernel) (by decide +kernel), by decide, by decide, by decide +kernel⟩
theorem mi_X6_piece : cp_mi yX6_piece := ⟨cp_TG_in (i := 320) (by decide +kernel) (by decide +kernel), cp_TG_in (i := 321) (by decide +kernel) (by decide +kernel)⟩
theorem me_X6_plate : cp_me yX6_plate cX6_plate 2 (some .int) 1 := ⟨cp_TG_in (i := 334) (by decide +kernel) (by decide +kernel), cp_TG_in (i := 71) (by decide +kernel) (by decide +kernel), by decide, by decide, by decide +kernel⟩
theorem mi_X6_plate : cp_mi yX6_plate := ⟨cp_TG_in (i := 332) (by decide +kernel) (by decide +kernel), cp_TG_in (i := 333) (by decide +kernel) (by decide +kernel)⟩
theorem me_X6_hold : cp_me yX6_hold cX6_hold 2 (some .int) 1 := ⟨cp_TG_in (i := 354) (by decide +kernel) (by decide +kernel), cp_TG_in (i := 71) (by decide +kernel) (by decide +kernel), by decide, by decide, by decide +kernel⟩
theorem mi_X6_hold : cp_mi yX6_hold := ⟨cp_TG_in (i := 352) (by decide +kernel) (by decide +kernel), cp_TG_in (i := 353) (by decide +kernel) (by decide +kernel)⟩
theorem me_X6_kill : cp_me yX6_kill cX6_kill 2 (some .int) 1 := ⟨cp_TG_in (i := 369) (by decide +kernel) (by decide +kernel), cp_TG_in (i := 71) (by decide +kernel) (by decide +kernel), by decide, by decide, by decide +kernel⟩
theorem mi_X6_kill : cp_mi yX6_kill := ⟨cp_TG_in (i := 367) (by decide +kernel) (by decide +kernel), cp_TG_in (i := 368) (by decide +kernel) (by decide +kernel)⟩
theorem me_X6_pass : cp_me yX6_pass cX6_pass 2 (some .int) 1 := ⟨cp_TG_in (i := 400) (by decide +kernel) (by decide +kernel), cp_TG_in (i := 71) (by decide +kernel) (by decide +kernel), by decide, by decide, by decide +kernel⟩
theorem mi_X6_pass : cp_mi yX6_pass := ⟨cp_TG_in (i := 398) (by decide +kernel) (by decide +kernel), cp_TG_in (i := 399) (by decide +kernel) (by decide +kernel)⟩
theorem me_X6_ofPiece : cp_me yX6_ofPiece cX6_ofPiece 3 (some .int) 2 := ⟨cp_TG_in (i := 457) (by decide +kernel) (by decide +kernel), cp_TG_in (i := 71) (by decide +kernel) (by decide +kernel), by decide, by decide, by decide +kernel⟩
theorem mi_X6_ofPiece : cp_mi yX6_ofPiece := ⟨cp_TG_in (i := 455) (by decide +kernel) (by decide +kernel), cp_TG_in (i := 456) (by decide +kernel) (by decide +kernel)⟩
theorem me_X6_ofPlate : cp_me yX6_ofPlate cX6_ofPlate 3 (some .int) 2 := ⟨cp_TG_in (i := 481) (by decide +kernel) (by decide +kernel), cp_TG_in (i := 71) (by decide +kernel) (by decide +kernel), by decide, by decide, by decide +kernel⟩
theorem mi_X6_ofPlate : cp_mi yX6_ofPlate := ⟨cp_TG_in (i := 479) (by decide +kernel) (by decide +kernel), cp_TG_in (i := 480) (by decide +kernel) (by decide +kernel)⟩
theorem me_X6_count : cp_me yX6_count cX6_count 2 (some .int) 1 := ⟨cp_TG_in (i := 493) (by decide +kernel) (by decide +kernel), cp_TG_in (i := 71) (by decide +kernel) (by decide +kernel), by decide, by decide, by decide +kernel⟩
theorem mi_X6_count : cp_mi yX6_count := ⟨cp_TG_in (i := 491) (by decide +kernel) (by decide +kernel), cp_TG_in (i := 492) (by decide +kernel) (by decide +kernel)⟩
theorem me_X6_why : cp_me yX6_why cX6_why 3 (some .int) 2 := ⟨cp_TG_in (i := 513) (by decide +kernel) (by decide +kernel), cp_TG_in (i := 71) (by decide +kernel) (by decide +kernel), by decide, by decide, by decide +kernel⟩
theorem mi_X6_why : cp_mi yX6_why := ⟨cp_TG_in (i := 511) (by decide +kernel) (by decide +kernel), cp_TG_in (i := 512) (by decide +kernel) (by decide +kernel)⟩
theorem me_X6_plateNow : cp_me yX6_plateNow cX6_plateNow 1 (some .int) 0 := ⟨cp_TG_in (i := 537) (by decide +kernel) (by decide +kernel), cp_TG_in (i := 71) (by decide +kernel) (by decide +kernel), by decide, by decide, by decide +kernel⟩
theorem mi_X6_plateNow : cp_mi yX6_plateNow := ⟨cp_TG_in (i := 535) (by decide +kernel) (by decide +kernel), cp_TG_in (i := 536) (by decide +kernel) (by decide +kernel)⟩
theorem me_X6_readyIn : cp_me yX6_readyIn cX6_readyIn 3 (some .int) 1 := ⟨cp_TG_in (i := 542) (by decide +kernel) (by decide +kernel), cp_TG_in (i := 71) (by decide +kernel) (by decide +kernel), by decide, by decide, by decide +kernel⟩
theorem mi_X6_readyIn : cp_mi yX6_readyIn := ⟨cp_TG_in (i := 540) (by decide +kernel) (by decide +kernel), cp_TG_in (i := 541) (by decide +kernel) (by decide +kernel)⟩
theorem me_X6_leastRoom : cp_me yX6_leastRoom cX6_leastRoom 3 (some .int) 0 := ⟨cp_TG_in (i := 553) (by decide +kernel) (by decide +kernel), cp_TG_in (i := 71) (by decide +kernel) (by decide +kernel), by decide, by decide, by decide +kernel⟩
theorem mi_X6_leastRoom : cp_mi yX6_leastRoom := ⟨cp_TG_in (i := 551) (by decide +kernel) (by decide +kernel), cp_TG_in (i := 552) (by decide +kernel) (by decide +kernel)⟩
theorem me_X6_nextPlate : cp_me yX6_nextPlate cX6_nextPlate 2 (some .int) 0 := ⟨cp_TG_in (i := 573) (by decide +kernel) (by decide +kernel), cp_TG_in (i := 71) (by decide +kernel) (by decide +kernel), by decide, by decide, by decide +kernel⟩
theorem mi_X6_nextPlate : cp_mi yX6_nextPlate := ⟨cp_TG_in (i := 571) (by decide +kernel) (by decide +kernel), cp_TG_in (i := 572) (by decide +kernel) (by decide +kernel)⟩
theorem me_X6_goAheadToPlate : cp_me yX6_goAheadToPlate cX6_goAheadToPlate 2 none 1 := ⟨cp_TG_in (i := 558) (by decide +kernel) (by decide +kernel), cp_TG_in (i := 71) (by decide +kernel) (by decide +kernel), by decide, by decide, by decide +kernel⟩
theorem mi_X6_goAheadToPlate : cp_mi yX6_goAheadToPlate := ⟨cp_TG_in (i := 557) (by decide +kernel) (by decide +kernel), cp_TG_in (i := 23) (by decide +kernel) (by decide +kernel)⟩
theorem me_X6_put : cp_me yX6_put cX6_put 3 (some .int) 1 := ⟨cp_TG_in (i := 577) (by decide +kernel) (by decide +kernel), cp_TG_in (i := 71) (by decide +kernel) (by decide +kernel), by decide, by decide, by decide +kernel⟩
theorem mi_X6_put : cp_mi yX6_put := ⟨cp_TG_in (i := 575) (by decide +kernel) (by decide +kernel), cp_TG_in (i := 576) (by decide +kernel) (by decide +kernel)⟩
theorem me_X6_wipe : cp_me yX6_wipe cX6_wipe 1 (some .int) 0 := ⟨cp_TG_in (i := 591) (by decide +kernel) (by decide +kernel), cp_TG_in (i := 71) (by decide +kernel) (by decide +kernel), by decide, by decide, by decide +kernel⟩
theorem mi_X6_wipe : cp_mi yX6_wipe := ⟨cp_TG_in (i := 589) (by decide +kernel) (by decide +kernel), cp_TG_in (i := 590) (by decide +kernel) (by decide +kernel)⟩
theorem me_X6_fault : cp_me yX6_fault cX6_fault 1 (some .int) 0 := ⟨cp_TG_in (i := 599) (by decide +kernel) (by decide +kernel), cp_TG_in (i := 71) (by decide +kernel) (by decide +kernel), by decide, by decide, by decide +kernel⟩
theorem mi_X6_fault : cp_mi yX6_fault := ⟨cp_TG_in (i := 597) (by decide +kernel) (by decide +kernel), cp_TG_in (i := 598) (by decide +kernel) (by decide +kernel)⟩
theorem me_X6_carryOut : cp_me yX6_carryOut cX6_carryOut 3 (some .int) 0 := ⟨cp_TG_in (i := 636) (by decide +kernel) (by decide +kernel), cp_TG_in (i := 71) (by decide +kernel) (by decide +kernel), by decide, by decide, by decide +kernel⟩
theorem mi_X6_carryOut : cp_mi yX6_carryOut := ⟨cp_TG_in (i := 634) (by decide +kernel) (by decide +kernel), cp_TG_in (i := 635) (by decide +kernel) (by decide +kernel)⟩
theorem me_X6_carryOrderOut : cp_me yX6_carryOrderOut cX6_carryOrderOut 1 (some .int) 0 := ⟨cp_TG_in (i := 642) (by decide +kernel) (by decide +kernel), cp_TG_in (i := 71) (by decide +kernel) (by decide +kernel), by decide, by decide, by decide +kernel⟩
theorem mi_X6_carryOrderOut : cp_mi yX6_carryOrderOut := ⟨cp_TG_in (i := 641) (by decide +kernel) (by decide +kernel), cp_TG_in (i := 27) (by decide +kernel) (by decide +kernel)⟩
theorem me_X6_undo : cp_me yX6_undo cX6_undo 1 (some .int) 0 := ⟨cp_TG_in (i := 647) (by decide +kernel) (by decide +kernel), cp_TG_in (i := 71) (by decide +kernel) (by decide +kernel), by decide, by decide, by decide +kernel⟩
theorem mi_X6_undo : cp_mi yX6_undo := ⟨cp_TG_in (i := 645) (by decide +kernel) (by decide +kernel), cp_TG_in (i := 646) (by decide +kernel) (by decide +kernel)⟩
theorem me_X6_save : cp_me yX6_save cX6_save 3 (some .int) 1 := ⟨cp_TG_in (i := 655) (by decide +kernel) (by decide +kernel), cp_TG_in (i := 71) (by decide +kernel) (by decide +kernel), by decide, by decide, by decide +kernel⟩
theorem mi_X6_save : cp_mi yX6_save := ⟨cp_TG_in (i := 653) (by decide +kernel) (by decide +kernel), cp_TG_in (i := 654) (by decide +kernel) (by decide +kernel)⟩
theorem me_X6_restore : cp_me yX6_restore cX6_restore 3 (some .int) 1 := ⟨cp_TG_in (i := 659) (by decide +kernel) (by decide +kernel), cp_TG_in (i := 71) (by decide +kernel) (by decide +kernel), by decide, by decide, by decide +kernel⟩
theorem mi_X6_restore : cp_mi yX6_restore := ⟨cp_TG_in (i := 657) (by decide +kernel) (by decide +kernel), cp_TG_in (i := 658) (by decide +kernel) (by decide +kernel)⟩
theorem me_X6_isInSet : cp_me yX6_isInSet cX6_isInSet 2 (some .boolean) 2 := ⟨cp_TG_in (i := 388) (by decide +kernel) (by decide +kernel), cp_TG_in (i := 71) (by decide +kernel) (by decide +kernel), by decide, by decide, by decide +kernel⟩
theorem ms_X6_isInSet : Cond.static yX6_isInSet ∈ cp_TG := cp_TG_in (i := 387) (by decide +kernel) (by decide +kernel)
theorem me_X6_oneIf : cp_me yX6_oneIf cX6_oneIf 1 (some .int) 1 := ⟨cp_TG_in (i := 365) (by decide +kernel) (by decide +kernel), cp_TG_in (i := 71) (by decide +kernel) (by decide +kernel), by decide, by decide, by decide +kernel⟩
theorem ms_X6_oneIf : Cond.static yX6_oneIf ∈ cp_TG := cp_TG_in (i := 364) (by decide +kernel) (by decide +kernel)
theorem me_X7_init : cp_me yX7_init cX7_init 1 none 0 := ⟨cp_TG_in (i := 664) (by decide +kernel) (by decide +kernel), cp_TG_in (i := 78) (by decide +kernel) (by decide +kernel), by decide, by decide, by decide +kernel⟩
theorem me_X7_in : cp_me yX7_in cX7_in 6 (some .boolean) 3 := ⟨cp_TG_in (i := 722) (by decide +kernel) (by decide +kernel), cp_TG_in (i := 78) (by decide +kernel) (by decide +kernel), by decide, by decide, by decide +kernel⟩
theorem ms_X7_in : Cond.static yX7_in ∈ cp_TG := cp_TG_in (i := 721) (by decide +kernel) (by decide +kernel)
theorem me_X7_copy : cp_me yX7_copy cX7_copy 3 none 2 := ⟨cp_TG_in (i := 728) (by decide +kernel) (by decide +kernel), cp_TG_in (i := 78) (by decide +kernel) (by decide +kernel), by decide, by decide, by decide +kernel⟩
theorem ms_X7_copy : Cond.static yX7_copy ∈ cp_TG := cp_TG_in (i := 727) (by decide +kernel) (by decide +kernel)
theorem me_X7_ends : cp_me yX7_ends cX7_ends 3 (some .int) 1 := ⟨cp_TG_in (i := 732) (by decide +kernel) (by decide +kernel), cp_TG_in (i := 78) (by decide +kernel) (by decide +kernel), by decide, by decide, by decide +kernel⟩
theorem mi_X7_ends : cp_mi yX7_ends := ⟨cp_TG_in (i := 731) (by decide +kernel) (by decide +kernel), cp_TG_in (i := 28) (by decide +kernel) (by decide +kernel)⟩
theorem me_X7_isPiece : cp_me yX7_isPiece cX7_isPiece 2 (some .boolean) 1 := ⟨cp_TG_in (i := 784) (by decide +kernel) (by decide +kernel), cp_TG_in (i := 78) (by decide +kernel) (by decide +kernel), by decide, by decide, by decide +kernel⟩
theorem mi_X7_isPiece : cp_mi yX7_isPiece := ⟨cp_TG_in (i := 783) (by decide +kernel) (by decide +kernel), cp_TG_in (i := 37) (by decide +kernel) (by decide +kernel)⟩
theorem me_X7_of : cp_me yX7_of cX7_of 3 (some .int) 2 := ⟨cp_TG_in (i := 788) (by decide +kernel) (by decide +kernel), cp_TG_in (i := 78) (by decide +kernel) (by decide +kernel), by decide, by decide, by decide +kernel⟩
theorem mi_X7_of : cp_mi yX7_of := ⟨cp_TG_in (i := 787) (by decide +kernel) (by decide +kernel), cp_TG_in (i := 38) (by decide +kernel) (by decide +kernel)⟩
theorem me_X7_sets : cp_me yX7_sets cX7_sets 4 none 3 := ⟨cp_TG_in (i := 747) (by decide +kernel) (by decide +kernel), cp_TG_in (i := 78) (by decide +kernel) (by decide +kernel), by decide, by decide, by decide +kernel⟩
theorem mi_X7_sets : cp_mi yX7_sets := ⟨cp_TG_in (i := 746) (by decide +kernel) (by decide +kernel), cp_TG_in (i := 30) (by decide +kernel) (by decide +kernel)⟩
theorem me_X7_inQueue : cp_me yX7_inQueue cX7_inQueue 3 (some .int) 2 := ⟨cp_TG_in (i := 812) (by decide +kernel) (by decide +kernel), cp_TG_in (i := 78) (by decide +kernel) (by decide +kernel), by decide, by decide, by decide +kernel⟩
theorem mi_X7_inQueue : cp_mi yX7_inQueue := ⟨cp_TG_in (i := 811) (by decide +kernel) (by decide +kernel), cp_TG_in (i := 43) (by decide +kernel) (by decide +kernel)⟩
theorem me_X7_queueOf : cp_me yX7_queueOf cX7_queueOf 2 (some .int) 1 := ⟨cp_TG_in (i := 804) (by decide +kernel) (by decide +kernel), cp_TG_in (i := 78) (by decide +kernel) (by decide +kernel), by decide, by decide, by decide +kernel⟩
theorem mi_X7_queueOf : cp_mi yX7_queueOf := ⟨cp_TG_in (i := 803) (by decide +kernel) (by decide +kernel), cp_TG_in (i := 41) (by decide +kernel) (by decide +kernel)⟩
theorem me_X7_placeOf : cp_me yX7_placeOf cX7_placeOf 4 (some .int) 1 := ⟨cp_TG_in (i := 808) (by decide +kernel) (by decide +kernel), cp_TG_in (i := 78) (by decide +kernel) (by decide +kernel), by decide, by decide, by decide +kernel⟩
theorem mi_X7_placeOf : cp_mi yX7_placeOf := ⟨cp_TG_in (i := 807) (by decide +kernel) (by decide +kernel), cp_TG_in (i := 42) (by decide +kernel) (by decide +kernel)⟩
theorem me_X7_comesTo : cp_me yX7_comesTo cX7_comesTo 3 none 2 := ⟨cp_TG_in (i := 751) (by decide +kernel) (by decide +kernel), cp_TG_in (i := 78) (by decide +kernel) (by decide +kernel), by decide, by decide, by decide +kernel⟩
theorem mi_X7_comesTo : cp_mi yX7_comesTo := ⟨cp_TG_in (i := 750) (by decide +kernel) (by decide +kernel), cp_TG_in (i := 31) (by decide +kernel) (by decide +kernel)⟩
theorem me_X7_leaves : cp_me yX7_leaves cX7_leaves 6 none 1 := ⟨cp_TG_in (i := 800) (by decide +kernel) (by decide +kernel), cp_TG_in (i := 78) (by decide +kernel) (by decide +kernel), by decide, by decide, by decide +kernel⟩
theorem mi_X7_leaves : cp_mi yX7_leaves := ⟨cp_TG_in (i := 799) (by decide +kernel) (by decide +kernel), cp_TG_in (i := 40) (by decide +kernel) (by decide +kernel)⟩
theorem me_X7_becomesReady : cp_me yX7_becomesReady cX7_becomesReady 2 none 1 := ⟨cp_TG_in (i := 844) (by decide +kernel) (by decide +kernel), cp_TG_in (i := 78) (by decide +kernel) (by decide +kernel), by decide, by decide, by decide +kernel⟩
theorem mi_X7_becomesReady : cp_mi yX7_becomesReady := ⟨cp_TG_in (i := 843) (by decide +kernel) (by decide +kernel), cp_TG_in (i := 50) (by decide +kernel) (by decide +kernel)⟩
theorem me_X7_edits : cp_me yX7_edits cX7_edits 4 none 1 := ⟨cp_TG_in (i := 840) (by decide +kernel) (by decide +kernel), cp_TG_in (i := 78) (by decide +kernel) (by decide +kernel), by decide, by decide, by decide +kernel⟩
theorem mi_X7_edits : cp_mi yX7_edits := ⟨cp_TG_in (i := 839) (by decide +kernel) (by decide +kernel), cp_TG_in (i := 49) (by decide +kernel) (by decide +kernel)⟩
theorem me_X7_reads : cp_me yX7_reads cX7_reads 2 none 0 := ⟨cp_TG_in (i := 848) (by decide +kernel) (by decide +kernel), cp_TG_in (i := 78) (by decide +kernel) (by decide +kernel), by decide, by decide, by decide +kernel⟩
theorem mi_X7_reads : cp_mi yX7_reads := ⟨cp_TG_in (i := 847) (by decide +kernel) (by decide +kernel), cp_TG_in (i := 51) (by decide +kernel) (by decide +kernel)⟩
theorem me_X7_isFree : cp_me yX7_isFree cX7_isFree 2 (some .boolean) 1 := ⟨cp_TG_in (i := 860) (by decide +kernel) (by decide +kernel), cp_TG_in (i := 78) (by decide +kernel) (by decide +kernel), by decide, by decide, by decide +kernel⟩
theorem mi_X7_isFree : cp_mi yX7_isFree := ⟨cp_TG_in (i := 859) (by decide +kernel) (by decide +kernel), cp_TG_in (i := 54) (by decide +kernel) (by decide +kernel)⟩
theorem me_X7_isAhead : cp_me yX7_isAhead cX7_isAhead 5 (some .boolean) 2 := ⟨cp_TG_in (i := 864) (by decide +kernel) (by decide +kernel), cp_TG_in (i := 78) (by decide +kernel) (by decide +kernel), by decide, by decide, by decide +kernel⟩
theorem mi_X7_isAhead : cp_mi yX7_isAhead := ⟨cp_TG_in (i := 863) (by decide +kernel) (by decide +kernel), cp_TG_in (i := 55) (by decide +kernel) (by decide +kernel)⟩
theorem me_X7_ranked : cp_me yX7_ranked cX7_ranked 5 (some .int) 1 := ⟨cp_TG_in (i := 856) (by decide +kernel) (by decide +kernel), cp_TG_in (i := 78) (by decide +kernel) (by decide +kernel), by decide, by decide, by decide +kernel⟩
theorem mi_X7_ranked : cp_mi yX7_ranked := ⟨cp_TG_in (i := 855) (by decide +kernel) (by decide +kernel), cp_TG_in (i := 53) (by decide +kernel) (by decide +kernel)⟩
theorem me_X7_takes : cp_me yX7_takes cX7_takes 4 none 1 := ⟨cp_TG_in (i := 852) (by decide +kernel) (by decide +kernel), cp_TG_in (i := 78) (by decide +kernel) (by decide +kernel), by decide, by decide, by decide +kernel⟩
theorem mi_X7_takes : cp_mi yX7_takes := ⟨cp_TG_in (i := 851) (by decide +kernel) (by decide +kernel), cp_TG_in (i := 52) (by decide +kernel) (by decide +kernel)⟩
theorem me_X7_plateAt : cp_me yX7_plateAt cX7_plateAt 3 (some .int) 2 := ⟨cp_TG_in (i := 768) (by decide +kernel) (by decide +kernel), cp_TG_in (i := 78) (by decide +kernel) (by decide +kernel), by decide, by decide, by decide +kernel⟩
theorem mi_X7_plateAt : cp_mi yX7_plateAt := ⟨cp_TG_in (i := 767) (by decide +kernel) (by decide +kernel), cp_TG_in (i := 34) (by decide +kernel) (by decide +kernel)⟩
theorem me_X7_due : cp_me yX7_due cX7_due 3 (some .int) 1 := ⟨cp_TG_in (i := 764) (by decide +kernel) (by decide +kernel), cp_TG_in (i := 78) (by decide +kernel) (by decide +kernel), by decide, by decide, by decide +kernel⟩
theorem mi_X7_due : cp_mi yX7_due := ⟨cp_TG_in (i := 763) (by decide +kernel) (by decide +kernel), cp_TG_in (i := 33) (by decide +kernel) (by decide +kernel)⟩
theorem me_X7_works : cp_me yX7_works cX7_works 2 none 0 := ⟨cp_TG_in (i := 836) (by decide +kernel) (by decide +kernel), cp_TG_in (i := 78) (by decide +kernel) (by decide +kernel), by decide, by decide, by decide +kernel⟩
theorem mi_X7_works : cp_mi yX7_works := ⟨cp_TG_in (i := 835) (by decide +kernel) (by decide +kernel), cp_TG_in (i := 48) (by decide +kernel) (by decide +kernel)⟩
theorem me_X7_passes : cp_me yX7_passes cX7_passes 2 (some .int) 0 := ⟨cp_TG_in (i := 832) (by decide +kernel) (by decide +kernel), cp_TG_in (i := 78) (by decide +kernel) (by decide +kernel), by decide, by decide, by decide +kernel⟩
theorem mi_X7_passes : cp_mi yX7_passes := ⟨cp_TG_in (i := 831) (by decide +kernel) (by decide +kernel), cp_TG_in (i := 47) (by decide +kernel) (by decide +kernel)⟩
theorem me_X7_doPiece : cp_me yX7_doPiece cX7_doPiece 7 (some .int) 4 := ⟨cp_TG_in (i := 740) (by decide +kernel) (by decide +kernel), cp_TG_in (i := 78) (by decide +kernel) (by decide +kernel), by decide, by decide, by decide +kernel⟩
theorem mi_X7_doPiece : cp_mi yX7_doPiece := ⟨cp_TG_in (i := 739) (by decide +kernel) (by decide +kernel), cp_TG_in (i := 29) (by decide +kernel) (by decide +kernel)⟩
theorem me_X7_tells : cp_me yX7_tells cX7_tells 5 (some .int) 2 := ⟨cp_TG_in (i := 772) (by decide +kernel) (by decide +kernel), cp_TG_in (i := 78) (by decide +kernel) (by decide +kernel), by decide, by decide, by decide +kernel⟩
theorem mi_X7_tells : cp_mi yX7_tells := ⟨cp_TG_in (i := 771) (by decide +kernel) (by decide +kernel), cp_TG_in (i := 35) (by decide +kernel) (by decide +kernel)⟩
theorem me_X7_doPlate : cp_me yX7_doPlate cX7_doPlate 2 (some .int) 1 := ⟨cp_TG_in (i := 759) (by decide +kernel) (by decide +kernel), cp_TG_in (i := 78) (by decide +kernel) (by decide +kernel), by decide, by decide, by decide +kernel⟩
theorem mi_X7_doPlate : cp_mi yX7_doPlate := ⟨cp_TG_in (i := 758) (by decide +kernel) (by decide +kernel), cp_TG_in (i := 32) (by decide +kernel) (by decide +kernel)⟩
theorem me_X7_doHold : cp_me yX7_doHold cX7_doHold 2 (some .int) 1 := ⟨cp_TG_in (i := 780) (by decide +kernel) (by decide +kernel), cp_TG_in (i := 78) (by decide +kernel) (by decide +kernel), by decide, by decide, by decide +kernel⟩
theorem mi_X7_doHold : cp_mi yX7_doHold := ⟨cp_TG_in (i := 779) (by decide +kernel) (by decide +kernel), cp_TG_in (i := 36) (by decide +kernel) (by decide +kernel)⟩
theorem me_X7_isOnLatest : cp_me yX7_isOnLatest cX7_isOnLatest 2 (some .boolean) 1 := ⟨cp_TG_in (i := 816) (by decide +kernel) (by decide +kernel), cp_TG_in (i := 78) (by decide +kernel) (by decide +kernel), by decide, by decide, by decide +kernel⟩
theorem mi_X7_isOnLatest : cp_mi yX7_isOnLatest := ⟨cp_TG_in (i := 815) (by decide +kernel) (by decide +kernel), cp_TG_in (i := 44) (by decide +kernel) (by decide +kernel)⟩
theorem me_X7_isDueSoon : cp_me yX7_isDueSoon cX7_isDueSoon 3 (some .boolean) 0 := ⟨cp_TG_in (i := 820) (by decide +kernel) (by decide +kernel), cp_TG_in (i := 78) (by decide +kernel) (by decide +kernel), by decide, by decide, by decide +kernel⟩
theorem mi_X7_isDueSoon : cp_mi yX7_isDueSoon := ⟨cp_TG_in (i := 819) (by decide +kernel) (by decide +kernel), cp_TG_in (i := 45) (by decide +kernel) (by decide +kernel)⟩
theorem me_X7_doKill : cp_me yX7_doKill cX7_doKill 4 (some .int) 1 := ⟨cp_TG_in (i := 796) (by decide +kernel) (by decide +kernel), cp_TG_in (i := 78) (by decide +kernel) (by decide +kernel), by decide, by decide, by decide +kernel⟩
theorem mi_X7_doKill : cp_mi yX7_doKill := ⟨cp_TG_in (i := 795) (by decide +kernel) (by decide +kernel), cp_TG_in (i := 39) (by decide +kernel) (by decide +kernel)⟩
theorem me_X7_doPass : cp_me yX7_doPass cX7_doPass 4 (some .int) 1 := ⟨cp_TG_in (i := 828) (by decide +kernel) (by decide +kernel), cp_TG_in (i := 78) (by decide +kernel) (by decide +kernel), by decide, by decide, by decide +kernel⟩
theorem mi_X7_doPass : cp_mi yX7_doPass := ⟨cp_TG_in (i := 827) (by decide +kernel) (by decide +kernel), cp_TG_in (i := 46) (by decide +kernel) (by decide +kernel)⟩
theorem me_X7_isSetting : cp_me yX7_isSetting cX7_isSetting 2 (some .boolean) 2 := ⟨cp_TG_in (i := 718) (by decide +kernel) (by decide +kernel), cp_TG_in (i := 78) (by decide +kernel) (by decide +kernel), by decide, by decide, by decide +kernel⟩
theorem ms_X7_isSetting : Cond.static yX7_isSetting ∈ cp_TG := cp_TG_in (i := 717) (by decide +kernel) (by decide +kernel)
theorem me_X7_set : cp_me yX7_set cX7_set 4 (some .int) 2 := ⟨cp_TG_in (i := 715) (by decide +kernel) (by decide +kernel), cp_TG_in (i := 78) (by decide +kernel) (by decide +kernel), by decide, by decide, by decide +kernel⟩
theorem mi_X7_set : cp_mi yX7_set := ⟨cp_TG_in (i := 713) (by decide +kernel) (by decide +kernel), cp_TG_in (i := 714) (by decide +kernel) (by decide +kernel)⟩
theorem me_X7_piece : cp_me yX7_piece cX7_piece 5 (some .int) 4 := ⟨cp_TG_in (i := 736) (by decide +kernel) (by decide +kernel), cp_TG_in (i := 78) (by decide +kernel) (by decide +kernel), by decide, by decide, by decide +kernel⟩
theorem mi_X7_piece : cp_mi yX7_piece := ⟨cp_TG_in (i := 734) (by decide +kernel) (by decide +kernel), cp_TG_in (i := 735) (by decide +kernel) (by decide +kernel)⟩
theorem me_X7_plate : cp_me yX7_plate cX7_plate 2 (some .int) 1 := ⟨cp_TG_in (i := 755) (by decide +kernel) (by decide +kernel), cp_TG_in (i := 78) (by decide +kernel) (by decide +kernel), by decide, by decide, by decide +kernel⟩
theorem mi_X7_plate : cp_mi yX7_plate := ⟨cp_TG_in (i := 753) (by decide +kernel) (by decide +kernel), cp_TG_in (i := 754) (by decide +kernel) (by decide +kernel)⟩
theorem me_X7_hold : cp_me yX7_hold cX7_hold 2 (some .int) 1 := ⟨cp_TG_in (i := 776) (by decide +kernel) (by decide +kernel), cp_TG_in (i := 78) (by decide +kernel) (by decide +kernel), by decide, by decide, by decide +kernel⟩
theorem mi_X7_hold : cp_mi yX7_hold := ⟨cp_TG_in (i := 774) (by decide +kernel) (by decide +kernel), cp_TG_in (i := 775) (by decide +kernel) (by decide +kernel)⟩
theorem me_X7_kill : cp_me yX7_kill cX7_kill 2 (some .int) 1 := ⟨cp_TG_in (i := 792) (by decide +kernel) (by decide +kernel), cp_TG_in (i := 78) (by decide +kernel) (by decide +kernel), by decide, by decide, by decide +kernel⟩
theorem mi_X7_kill : cp_mi yX7_kill := ⟨cp_TG_in (i := 790) (by decide +kernel) (by decide +kernel), cp_TG_in (i := 791) (by decide +kernel) (by decide +kernel)⟩
theorem me_X7_pass : cp_me yX7_pass cX7_pass 2 (some .int) 1 := ⟨cp_TG_in (i := 824) (by decide +kernel) (by decide +kernel), cp_TG_in (i := 78) (by decide +kernel) (by decide +kernel), by decide, by decide, by decide +kernel⟩
theorem mi_X7_pass : cp_mi yX7_pass := ⟨cp_TG_in (i := 822) (by decide +kernel) (by decide +kernel), cp_TG_in (i := 823) (by decide +kernel) (by decide +kernel)⟩
theorem me_X7_platesWith : cp_me yX7_platesWith cX7_platesWith 4 (some .int) 1 := ⟨cp_TG_in (i := 873) (by decide +kernel) (by decide +kernel), cp_TG_in (i := 78) (by decide +kernel) (by decide +kernel), by decide, by decide, by decide +kernel⟩
theorem mi_X7_platesWith : cp_mi yX7_platesWith := ⟨cp_TG_in (i := 872) (by decide +kernel) (by decide +kernel), cp_TG_in (i := 56) (by decide +kernel) (by decide +kernel)⟩
theorem me_X7_ofPiece : cp_me yX7_ofPiece cX7_ofPiece 3 (some .int) 2 := ⟨cp_TG_in (i := 868) (by decide +kernel) (by decide +kernel), cp_TG_in (i := 78) (by decide +kernel) (by decide +kernel), by decide, by decide, by decide +kernel⟩
theorem mi_X7_ofPiece : cp_mi yX7_ofPiece := ⟨cp_TG_in (i := 866) (by decide +kernel) (by decide +kernel), cp_TG_in (i := 867) (by decide +kernel) (by decide +kernel)⟩
theorem me_X7_linesOf : cp_me yX7_linesOf cX7_linesOf 4 (some .int) 1 := ⟨cp_TG_in (i := 882) (by decide +kernel) (by decide +kernel), cp_TG_in (i := 78) (by decide +kernel) (by decide +kernel), by decide, by decide, by decide +kernel⟩
theorem mi_X7_linesOf : cp_mi yX7_linesOf := ⟨cp_TG_in (i := 881) (by decide +kernel) (by decide +kernel), cp_TG_in (i := 57) (by decide +kernel) (by decide +kernel)⟩
theorem me_X7_ofPlate : cp_me yX7_ofPlate cX7_ofPlate 3 (some .int) 2 := ⟨cp_TG_in (i := 877) (by decide +kernel) (by decide +kernel), cp_TG_in (i := 78) (by decide +kernel) (by decide +kernel), by decide, by decide, by decide +kernel⟩
theorem mi_X7_ofPlate : cp_mi yX7_ofPlate := ⟨cp_TG_in (i := 875) (by decide +kernel) (by decide +kernel), cp_TG_in (i := 876) (by decide +kernel) (by decide +kernel)⟩
theorem me_X7_manyThat : cp_me yX7_manyThat cX7_manyThat 4 (some .int) 1 := ⟨cp_TG_in (i := 890) (by decide +kernel) (by decide +kernel), cp_TG_in (i := 78) (by decide +kernel) (by decide +kernel), by decide, by decide, by decide +kernel⟩
theorem mi_X7_manyThat : cp_mi yX7_manyThat := ⟨cp_TG_in (i := 889) (by decide +kernel) (by decide +kernel), cp_TG_in (i := 58) (by decide +kernel) (by decide +kernel)⟩
theorem me_X7_manyHeld : cp_me yX7_manyHeld cX7_manyHeld 3 (some .int) 0 := ⟨cp_TG_in (i := 895) (by decide +kernel) (by decide +kernel), cp_TG_in (i := 78) (by decide +kernel) (by decide +kernel), by decide, by decide, by decide +kernel⟩
theorem mi_X7_manyHeld : cp_mi yX7_manyHeld := ⟨cp_TG_in (i := 894) (by decide +kernel) (by decide +kernel), cp_TG_in (i := 59) (by decide +kernel) (by decide +kernel)⟩
theorem me_X7_replates : cp_me yX7_replates cX7_replates 3 (some .int) 0 := ⟨cp_TG_in (i := 899) (by decide +kernel) (by decide +kernel), cp_TG_in (i := 78) (by decide +kernel) (by decide +kernel), by decide, by decide, by decide +kernel⟩
theorem mi_X7_replates : cp_mi yX7_replates := ⟨cp_TG_in (i := 898) (by decide +kernel) (by decide +kernel), cp_TG_in (i := 60) (by decide +kernel) (by decide +kernel)⟩
theorem me_X7_count : cp_me yX7_count cX7_count 2 (some .int) 1 := ⟨cp_TG_in (i := 886) (by decide +kernel) (by decide +kernel), cp_TG_in (i := 78) (by decide +kernel) (by decide +kernel), by decide, by decide, by decide +kernel⟩
theorem mi_X7_count : cp_mi yX7_count := ⟨cp_TG_in (i := 884) (by decide +kernel) (by decide +kernel), cp_TG_in (i := 885) (by decide +kernel) (by decide +kernel)⟩
theorem me_X7_lastAhead : cp_me yX7_lastAhead cX7_lastAhead 5 (some .int) 1 := ⟨cp_TG_in (i := 911) (by decide +kernel) (by decide +kernel), cp_TG_in (i := 78) (by decide +kernel) (by decide +kernel), by decide, by decide, by decide +kernel⟩
theorem mi_X7_lastAhead : cp_mi yX7_lastAhead := ⟨cp_TG_in (i := 910) (by decide +kernel) (by decide +kernel), cp_TG_in (i := 62) (by decide +kernel) (by decide +kernel)⟩
theorem me_X7_reason : cp_me yX7_reason cX7_reason 3 (some .int) 1 := ⟨cp_TG_in (i := 907) (by decide +kernel) (by decide +kernel), cp_TG_in (i := 78) (by decide +kernel) (by decide +kernel), by decide, by decide, by decide +kernel⟩
theorem mi_X7_reason : cp_mi yX7_reason := ⟨cp_TG_in (i := 906) (by decide +kernel) (by decide +kernel), cp_TG_in (i := 61) (by decide +kernel) (by decide +kernel)⟩
theorem me_X7_why : cp_me yX7_why cX7_why 4 (some .int) 2 := ⟨cp_TG_in (i := 903) (by decide +kernel) (by decide +kernel), cp_TG_in (i := 78) (by decide +kernel) (by decide +kernel), by decide, by decide, by decide +kernel⟩
theorem mi_X7_why : cp_mi yX7_why := ⟨cp_TG_in (i := 901) (by decide +kernel) (by decide +kernel), cp_TG_in (i := 902) (by decide +kernel) (by decide +kernel)⟩
theorem me_X7_plateNow : cp_me yX7_plateNow cX7_plateNow 1 (some .int) 0 := ⟨cp_TG_in (i := 915) (by decide +kernel) (by decide +kernel), cp_TG_in (i := 78) (by decide +kernel) (by decide +kernel), by decide, by decide, by decide +kernel⟩
theorem mi_X7_plateNow : cp_mi yX7_plateNow := ⟨cp_TG_in (i := 913) (by decide +kernel) (by decide +kernel), cp_TG_in (i := 914) (by decide +kernel) (by decide +kernel)⟩
theorem me_X7_readyIn : cp_me yX7_readyIn cX7_readyIn 3 (some .int) 1 := ⟨cp_TG_in (i := 919) (by decide +kernel) (by decide +kernel), cp_TG_in (i := 78) (by decide +kernel) (by decide +kernel), by decide, by decide, by decide +kernel⟩
theorem mi_X7_readyIn : cp_mi yX7_readyIn := ⟨cp_TG_in (i := 917) (by decide +kernel) (by decide +kernel), cp_TG_in (i := 918) (by decide +kernel) (by decide +kernel)⟩
theorem me_X7_comesToNext : cp_me yX7_comesToNext cX7_comesToNext 2 (some .boolean) 0 := ⟨cp_TG_in (i := 927) (by decide +kernel) (by decide +kernel), cp_TG_in (i := 78) (by decide +kernel) (by decide +kernel), by decide, by decide, by decide +kernel⟩
theorem mi_X7_comesToNext : cp_mi yX7_comesToNext := ⟨cp_TG_in (i := 926) (by decide +kernel) (by decide +kernel), cp_TG_in (i := 63) (by decide +kernel) (by decide +kernel)⟩
theorem me_X7_leastRoom : cp_me yX7_leastRoom cX7_leastRoom 4 (some .int) 0 := ⟨cp_TG_in (i := 923) (by decide +kernel) (by decide +kernel), cp_TG_in (i := 78) (by decide +kernel) (by decide +kernel), by decide, by decide, by decide +kernel⟩
theorem mi_X7_leastRoom : cp_mi yX7_leastRoom := ⟨cp_TG_in (i := 921) (by decide +kernel) (by decide +kernel), cp_TG_in (i := 922) (by decide +kernel) (by decide +kernel)⟩
theorem me_X7_nextPlate : cp_me yX7_nextPlate cX7_nextPlate 2 (some .int) 0 := ⟨cp_TG_in (i := 931) (by decide +kernel) (by decide +kernel), cp_TG_in (i := 78) (by decide +kernel) (by decide +kernel), by decide, by decide, by decide +kernel⟩
theorem mi_X7_nextPlate : cp_mi yX7_nextPlate := ⟨cp_TG_in (i := 929) (by decide +kernel) (by decide +kernel), cp_TG_in (i := 930) (by decide +kernel) (by decide +kernel)⟩
theorem me_X7_put : cp_me yX7_put cX7_put 8 (some .int) 1 := ⟨cp_TG_in (i := 935) (by decide +kernel) (by decide +kernel), cp_TG_in (i := 78) (by decide +kernel) (by decide +kernel), by decide, by decide, by decide +kernel⟩
theorem mi_X7_put : cp_mi yX7_put := ⟨cp_TG_in (i := 933) (by decide +kernel) (by decide +kernel), cp_TG_in (i := 934) (by decide +kernel) (by decide +kernel)⟩
theorem me_X7_wipe : cp_me yX7_wipe cX7_wipe 2 (some .int) 0 := ⟨cp_TG_in (i := 942) (by decide +kernel) (by decide +kernel), cp_TG_in (i := 78) (by decide +kernel) (by decide +kernel), by decide, by decide, by decide +kernel⟩
theorem mi_X7_wipe : cp_mi yX7_wipe := ⟨cp_TG_in (i := 940) (by decide +kernel) (by decide +kernel), cp_TG_in (i := 941) (by decide +kernel) (by decide +kernel)⟩
theorem me_X7_isHere : cp_me yX7_isHere cX7_isHere 3 (some .boolean) 2 := ⟨cp_TG_in (i := 958) (by decide +kernel) (by decide +kernel), cp_TG_in (i := 78) (by decide +kernel) (by decide +kernel), by decide, by decide, by decide +kernel⟩
theorem mi_X7_isHere : cp_mi yX7_isHere := ⟨cp_TG_in (i := 957) (by decide +kernel) (by decide +kernel), cp_TG_in (i := 66) (by decide +kernel) (by decide +kernel)⟩
theorem me_X7_takesOne : cp_me yX7_takesOne cX7_takesOne 3 (some .boolean) 1 := ⟨cp_TG_in (i := 954) (by decide +kernel) (by decide +kernel), cp_TG_in (i := 78) (by decide +kernel) (by decide +kernel), by decide, by decide, by decide +kernel⟩
theorem mi_X7_takesOne : cp_mi yX7_takesOne := ⟨cp_TG_in (i := 953) (by decide +kernel) (by decide +kernel), cp_TG_in (i := 65) (by decide +kernel) (by decide +kernel)⟩
theorem me_X7_readsDigit : cp_me yX7_readsDigit cX7_readsDigit 3 (some .boolean) 1 := ⟨cp_TG_in (i := 966) (by decide +kernel) (by decide +kernel), cp_TG_in (i := 78) (by decide +kernel) (by decide +kernel), by decide, by decide, by decide +kernel⟩
theorem mi_X7_readsDigit : cp_mi yX7_readsDigit := ⟨cp_TG_in (i := 965) (by decide +kernel) (by decide +kernel), cp_TG_in (i := 68) (by decide +kernel) (by decide +kernel)⟩
theorem me_X7_readsNumber : cp_me yX7_readsNumber cX7_readsNumber 1 (some .boolean) 0 := ⟨cp_TG_in (i := 970) (by decide +kernel) (by decide +kernel), cp_TG_in (i := 78) (by decide +kernel) (by decide +kernel), by decide, by decide, by decide +kernel⟩
theorem mi_X7_readsNumber : cp_mi yX7_readsNumber := ⟨cp_TG_in (i := 969) (by decide +kernel) (by decide +kernel), cp_TG_in (i := 69) (by decide +kernel) (by decide +kernel)⟩
theorem me_X7_readsPiece : cp_me yX7_readsPiece cX7_readsPiece 5 (some .boolean) 0 := ⟨cp_TG_in (i := 962) (by decide +kernel) (by decide +kernel), cp_TG_in (i := 78) (by decide +kernel) (by decide +kernel), by decide, by decide, by decide +kernel⟩
theorem mi_X7_readsPiece : cp_mi yX7_readsPiece := ⟨cp_TG_in (i := 961) (by decide +kernel) (by decide +kernel), cp_TG_in (i := 67) (by decide +kernel) (by decide +kernel)⟩
theorem me_X7_readsOrder : cp_me yX7_readsOrder cX7_readsOrder 2 (some .boolean) 0 := ⟨cp_TG_in (i := 950) (by decide +kernel) (by decide +kernel), cp_TG_in (i := 78) (by decide +kernel) (by decide +kernel), by decide, by decide, by decide +kernel⟩
theorem mi_X7_readsOrder : cp_mi yX7_readsOrder := ⟨cp_TG_in (i := 949) (by decide +kernel) (by decide +kernel), cp_TG_in (i := 64) (by decide +kernel) (by decide +kernel)⟩
theorem me_X7_fault : cp_me yX7_fault cX7_fault 2 (some .int) 0 := ⟨cp_TG_in (i := 946) (by decide +kernel) (by decide +kernel), cp_TG_in (i := 78) (by decide +kernel) (by decide +kernel), by decide, by decide, by decide +kernel⟩
theorem mi_X7_fault : cp_mi yX7_fault := ⟨cp_TG_in (i := 944) (by decide +kernel) (by decide +kernel), cp_TG_in (i := 945) (by decide +kernel) (by decide +kernel)⟩
theorem me_X7_carryOut : cp_me yX7_carryOut cX7_carryOut 4 (some .int) 0 := ⟨cp_TG_in (i := 974) (by decide +kernel) (by decide +kernel), cp_TG_in (i := 78) (by decide +kernel) (by decide +kernel), by decide, by decide, by decide +kernel⟩
theorem mi_X7_carryOut : cp_mi yX7_carryOut := ⟨cp_TG_in (i := 972) (by decide +kernel) (by decide +kernel), cp_TG_in (i := 973) (by decide +kernel) (by decide +kernel)⟩
theorem me_X7_undo : cp_me yX7_undo cX7_undo 2 (some .int) 0 := ⟨cp_TG_in (i := 979) (by decide +kernel) (by decide +kernel), cp_TG_in (i := 78) (by decide +kernel) (by decide +kernel), by decide, by decide, by decide +kernel⟩
theorem mi_X7_undo : cp_mi yX7_undo := ⟨cp_TG_in (i := 977) (by decide +kernel) (by decide +kernel), cp_TG_in (i := 978) (by decide +kernel) (by decide +kernel)⟩
theorem me_X7_save : cp_me yX7_save cX7_save 3 (some .int) 1 := ⟨cp_TG_in (i := 983) (by decide +kernel) (by decide +kernel), cp_TG_in (i := 78) (by decide +kernel) (by decide +kernel), by decide, by decide, by decide +kernel⟩
theorem mi_X7_save : cp_mi yX7_save := ⟨cp_TG_in (i := 981) (by decide +kernel) (by decide +kernel), cp_TG_in (i := 982) (by decide +kernel) (by decide +kernel)⟩
theorem me_X7_restore : cp_me yX7_restore cX7_restore 3 (some .int) 1 := ⟨cp_TG_in (i := 987) (by decide +kernel) (by decide +kernel), cp_TG_in (i := 78) (by decide +kernel) (by decide +kernel), by decide, by decide, by decide +kernel⟩
theorem mi_X7_restore : cp_mi yX7_restore := ⟨cp_TG_in (i := 985) (by decide +kernel) (by decide +kernel), cp_TG_in (i := 986) (by decide +kernel) (by decide +kernel)⟩
theorem ml_L_9 : Cond.methodLink RL 9 yX6_init ∈ cp_TG := cp_TG_in (i := 83) (by decide +kernel) (by decide +kernel)
theorem ml_X6_9 : Cond.methodLink RX6 9 yX1_init ∈ cp_TG := cp_TG_in (i := 91) (by decide +kernel) (by decide +kernel)
theorem ml_X1_33 : (RX1, 33, yX4_init) ∈ cp_nM := by decide +kernel
theorem ml_X1_43 : (RX1, 43, yX5_init) ∈ cp_nM := by decide +kernel
theorem ml_X6_21 : Cond.methodLink RX6 21 yX0_init ∈ cp_TG := cp_TG_in (i := 195) (by decide +kernel) (by decide +kernel)
theorem ml_X0_17 : Cond.methodLink RX0 17 yX1_init ∈ cp_TG := cp_TG_in (i := 201) (by decide +kernel) (by decide +kernel)
theorem ml_X6_32 : Cond.methodLink RX6 32 yX3_init ∈ cp_TG := cp_TG_in (i := 215) (by decide +kernel) (by decide +kernel)
theorem ml_X6_39 : Cond.methodLink RX6 39 yX2_init ∈ cp_TG := cp_TG_in (i := 231) (by decide +kernel) (by decide +kernel)
theorem ml_L_13 : Cond.methodLink RL 13 yX6_set ∈ cp_TG := cp_TG_in (i := 281) (by decide +kernel) (by decide +kernel)
theorem ml_X6_46 : Cond.methodLink RX6 46 yX0_prepare ∈ cp_TG := cp_TG_in (i := 285) (by decide +kernel) (by decide +kernel)
theorem ml_X0_25 : Cond.methodLink RX0 25 yX1_copyFrom ∈ cp_TG := cp_TG_in (i := 289) (by decide +kernel) (by decide +kernel)
theorem ml_X1_53 : Cond.methodLink RX1 53 yX4_copyFrom ∈ cp_TG := cp_TG_in (i := 296) (by decide +kernel) (by decide +kernel)
theorem ml_X1_57 : Cond.methodLink RX1 57 yX5_copyFrom ∈ cp_TG := cp_TG_in (i := 300) (by decide +kernel) (by decide +kernel)
theorem ml_X6_50 : Cond.methodLink RX6 50 yX1_changeSetting ∈ cp_TG := cp_TG_in (i := 304) (by decide +kernel) (by decide +kernel)
theorem ml_X6_54 : Cond.methodLink RX6 54 yX0_recordUnlessError ∈ cp_TG := cp_TG_in (i := 312) (by decide +kernel) (by decide +kernel)
theorem ml_L_18 : Cond.methodLink RL 18 yX6_piece ∈ cp_TG := cp_TG_in (i := 319) (by decide +kernel) (by decide +kernel)
theorem ml_X6_58 : Cond.methodLink RX6 58 yX1_addPiece ∈ cp_TG := cp_TG_in (i := 323) (by decide +kernel) (by decide +kernel)
theorem ml_X1_73 : Cond.methodLink RX1 73 yX4_come ∈ cp_TG := cp_TG_in (i := 327) (by decide +kernel) (by decide +kernel)
theorem ml_L_23 : Cond.methodLink RL 23 yX6_plate ∈ cp_TG := cp_TG_in (i := 331) (by decide +kernel) (by decide +kernel)
theorem ml_X6_62 : Cond.methodLink RX6 62 yX1_addPlate ∈ cp_TG := cp_TG_in (i := 335) (by decide +kernel) (by decide +kernel)
theorem ml_X1_77 : Cond.methodLink RX1 77 yX1_plateAt ∈ cp_TG := cp_TG_in (i := 339) (by decide +kernel) (by decide +kernel)
theorem ml_X1_81 : Cond.methodLink RX1 81 yX1_insertPlate ∈ cp_TG := cp_TG_in (i := 343) (by decide +kernel) (by decide +kernel)
theorem ml_X1_184 : Cond.methodLink RX1 184 yX5_tell ∈ cp_TG := cp_TG_in (i := 347) (by decide +kernel) (by decide +kernel)
theorem ml_L_28 : Cond.methodLink RL 28 yX6_hold ∈ cp_TG := cp_TG_in (i := 351) (by decide +kernel) (by decide +kernel)
theorem ml_X6_65 : Cond.methodLink RX6 65 yX1_turnHold ∈ cp_TG := cp_TG_in (i := 355) (by decide +kernel) (by decide +kernel)
theorem ml_X1_60 : Cond.methodLink RX1 60 yX1_hasPiece ∈ cp_TG := cp_TG_in (i := 359) (by decide +kernel) (by decide +kernel)
theorem ml_X1_89 : (RX1, 89, yX6_oneIf) ∈ cp_nM := by decide +kernel
theorem ml_L_32 : Cond.methodLink RL 32 yX6_kill ∈ cp_TG := cp_TG_in (i := 366) (by decide +kernel) (by decide +kernel)
theorem ml_X6_68 : Cond.methodLink RX6 68 yX1_killPiece ∈ cp_TG := cp_TG_in (i := 370) (by decide +kernel) (by decide +kernel)
theorem ml_X1_93 : Cond.methodLink RX1 93 yX1_isOnLatestMade ∈ cp_TG := cp_TG_in (i := 374) (by decide +kernel) (by decide +kernel)
theorem ml_X1_175 : Cond.methodLink RX1 175 yX1_madePlates ∈ cp_TG := cp_TG_in (i := 378) (by decide +kernel) (by decide +kernel)
theorem ml_X1_178 : Cond.methodLink RX1 178 yX1_isMade ∈ cp_TG := cp_TG_in (i := 382) (by decide +kernel) (by decide +kernel)
theorem ml_X1_118 : (RX1, 118, yX6_isInSet) ∈ cp_nM := by decide +kernel
theorem ml_X1_96 : Cond.methodLink RX1 96 yX1_tellReplate ∈ cp_TG := cp_TG_in (i := 389) (by decide +kernel) (by decide +kernel)
theorem ml_X1_181 : Cond.methodLink RX1 181 yX1_nextDue ∈ cp_TG := cp_TG_in (i := 393) (by decide +kernel) (by decide +kernel)
theorem ml_L_36 : Cond.methodLink RL 36 yX6_pass ∈ cp_TG := cp_TG_in (i := 397) (by decide +kernel) (by decide +kernel)
theorem ml_X6_71 : Cond.methodLink RX6 71 yX1_passMinutes ∈ cp_TG := cp_TG_in (i := 401) (by decide +kernel) (by decide +kernel)
theorem ml_X1_100 : Cond.methodLink RX1 100 yX1_passMinute ∈ cp_TG := cp_TG_in (i := 405) (by decide +kernel) (by decide +kernel)
theorem ml_X1_103 : Cond.methodLink RX1 103 yX1_editAtDesks ∈ cp_TG := cp_TG_in (i := 409) (by decide +kernel) (by decide +kernel)
theorem ml_X1_122 : Cond.methodLink RX1 122 yX4_editFor ∈ cp_TG := cp_TG_in (i := 413) (by decide +kernel) (by decide +kernel)
theorem ml_X4_49 : Cond.methodLink RX4 49 yX4_becomeReady ∈ cp_TG := cp_TG_in (i := 418) (by decide +kernel) (by decide +kernel)
theorem ml_X1_106 : Cond.methodLink RX1 106 yX1_readAtLawyer ∈ cp_TG := cp_TG_in (i := 422) (by decide +kernel) (by decide +kernel)
theorem ml_X1_126 : Cond.methodLink RX1 126 yX1_firstAtLawyer ∈ cp_TG := cp_TG_in (i := 426) (by decide +kernel) (by decide +kernel)
theorem ml_X1_129 : Cond.methodLink RX1 129 yX4_readOneMinute ∈ cp_TG := cp_TG_in (i := 430) (by decide +kernel) (by decide +kernel)
theorem ml_X1_109 : Cond.methodLink RX1 109 yX1_takenNow ∈ cp_TG := cp_TG_in (i := 434) (by decide +kernel) (by decide +kernel)
theorem ml_X1_147 : Cond.methodLink RX1 147 yX1_piecesForPlate ∈ cp_TG := cp_TG_in (i := 438) (by decide +kernel) (by decide +kernel)
theorem ml_X1_141 : Cond.methodLink RX1 141 yX4_isForPlate ∈ cp_TG := cp_TG_in (i := 442) (by decide +kernel) (by decide +kernel)
theorem ml_X1_150 : Cond.methodLink RX1 150 yX1_firstByRank ∈ cp_TG := cp_TG_in (i := 446) (by decide +kernel) (by decide +kernel)
theorem ml_X1_153 : Cond.methodLink RX1 153 yX1_goesAhead ∈ cp_TG := cp_TG_in (i := 450) (by decide +kernel) (by decide +kernel)
theorem ml_L_40 : Cond.methodLink RL 40 yX6_ofPiece ∈ cp_TG := cp_TG_in (i := 454) (by decide +kernel) (by decide +kernel)
theorem ml_X6_74 : Cond.methodLink RX6 74 yX1_factOfPiece ∈ cp_TG := cp_TG_in (i := 458) (by decide +kernel) (by decide +kernel)
theorem ml_X1_197 : Cond.methodLink RX1 197 yX1_placeInQueue ∈ cp_TG := cp_TG_in (i := 462) (by decide +kernel) (by decide +kernel)
theorem ml_X1_135 : Cond.methodLink RX1 135 yX1_placeAtDesk ∈ cp_TG := cp_TG_in (i := 466) (by decide +kernel) (by decide +kernel)
theorem ml_X1_138 : Cond.methodLink RX1 138 yX1_placeAtLawyer ∈ cp_TG := cp_TG_in (i := 470) (by decide +kernel) (by decide +kernel)
theorem ml_X1_200 : Cond.methodLink RX1 200 yX1_platesWith ∈ cp_TG := cp_TG_in (i := 474) (by decide +kernel) (by decide +kernel)
theorem ml_L_44 : Cond.methodLink RL 44 yX6_ofPlate ∈ cp_TG := cp_TG_in (i := 478) (by decide +kernel) (by decide +kernel)
theorem ml_X6_77 : Cond.methodLink RX6 77 yX1_factOfPlate ∈ cp_TG := cp_TG_in (i := 482) (by decide +kernel) (by decide +kernel)
theorem ml_X1_206 : Cond.methodLink RX1 206 yX1_linesOf ∈ cp_TG := cp_TG_in (i := 486) (by decide +kernel) (by decide +kernel)
theorem ml_L_48 : Cond.methodLink RL 48 yX6_count ∈ cp_TG := cp_TG_in (i := 490) (by decide +kernel) (by decide +kernel)
theorem ml_X6_87 : Cond.methodLink RX6 87 yX1_factOfNight ∈ cp_TG := cp_TG_in (i := 494) (by decide +kernel) (by decide +kernel)
theorem ml_X1_209 : Cond.methodLink RX1 209 yX1_piecesThatAre ∈ cp_TG := cp_TG_in (i := 498) (by decide +kernel) (by decide +kernel)
theorem ml_X1_212 : Cond.methodLink RX1 212 yX1_heldPieces ∈ cp_TG := cp_TG_in (i := 502) (by decide +kernel) (by decide +kernel)
theorem ml_X1_215 : Cond.methodLink RX1 215 yX1_replates ∈ cp_TG := cp_TG_in (i := 506) (by decide +kernel) (by decide +kernel)
theorem ml_L_52 : Cond.methodLink RL 52 yX6_why ∈ cp_TG := cp_TG_in (i := 510) (by decide +kernel) (by decide +kernel)
theorem ml_X6_90 : Cond.methodLink RX6 90 yX1_whyNotOnPlate ∈ cp_TG := cp_TG_in (i := 514) (by decide +kernel) (by decide +kernel)
theorem ml_X1_162 : Cond.methodLink RX1 162 yX1_reasonOf ∈ cp_TG := cp_TG_in (i := 518) (by decide +kernel) (by decide +kernel)
theorem ml_X1_165 : Cond.methodLink RX1 165 yX1_causeOf ∈ cp_TG := cp_TG_in (i := 522) (by decide +kernel) (by decide +kernel)
theorem ml_X1_168 : Cond.methodLink RX1 168 yX1_firstAtDesk ∈ cp_TG := cp_TG_in (i := 526) (by decide +kernel) (by decide +kernel)
theorem ml_X1_171 : Cond.methodLink RX1 171 yX1_lastTakenAheadOf ∈ cp_TG := cp_TG_in (i := 530) (by decide +kernel) (by decide +kernel)
theorem ml_L_56 : Cond.methodLink RL 56 yX6_plateNow ∈ cp_TG := cp_TG_in (i := 534) (by decide +kernel) (by decide +kernel)
theorem ml_X6_93 : Cond.methodLink RX6 93 yX1_takenNow ∈ cp_TG := cp_TG_in (i := 538) (by decide +kernel) (by decide +kernel)
theorem ml_L_61 : Cond.methodLink RL 61 yX6_readyIn ∈ cp_TG := cp_TG_in (i := 539) (by decide +kernel) (by decide +kernel)
theorem ml_X6_97 : Cond.methodLink RX6 97 yX1_hasPiece ∈ cp_TG := cp_TG_in (i := 543) (by decide +kernel) (by decide +kernel)
theorem ml_X6_101 : Cond.methodLink RX6 101 yX1_isPiece ∈ cp_TG := cp_TG_in (i := 544) (by decide +kernel) (by decide +kernel)
theorem ml_X6_105 : Cond.methodLink RX6 105 yX1_copyFrom ∈ cp_TG := cp_TG_in (i := 548) (by decide +kernel) (by decide +kernel)
theorem ml_X6_108 : Cond.methodLink RX6 108 yX1_passMinute ∈ cp_TG := cp_TG_in (i := 549) (by decide +kernel) (by decide +kernel)
theorem ml_L_65 : Cond.methodLink RL 65 yX6_leastRoom ∈ cp_TG := cp_TG_in (i := 550) (by decide +kernel) (by decide +kernel)
theorem ml_X6_112 : Cond.methodLink RX6 112 yX1_nextDue ∈ cp_TG := cp_TG_in (i := 554) (by decide +kernel) (by decide +kernel)
theorem ml_X6_115 : Cond.methodLink RX6 115 yX6_goAheadToPlate ∈ cp_TG := cp_TG_in (i := 555) (by decide +kernel) (by decide +kernel)
theorem ml_X6_137 : Cond.methodLink RX6 137 yX1_minutesToPlate ∈ cp_TG := cp_TG_in (i := 559) (by decide +kernel) (by decide +kernel)
theorem ml_X6_119 : Cond.methodLink RX6 119 yX1_piecesForPlate ∈ cp_TG := cp_TG_in (i := 563) (by decide +kernel) (by decide +kernel)
theorem ml_X6_122 : Cond.methodLink RX6 122 yX1_linesOf ∈ cp_TG := cp_TG_in (i := 564) (by decide +kernel) (by decide +kernel)
theorem ml_L_69 : Cond.methodLink RL 69 yX6_nextPlate ∈ cp_TG := cp_TG_in (i := 570) (by decide +kernel) (by decide +kernel)
theorem ml_L_75 : Cond.methodLink RL 75 yX6_put ∈ cp_TG := cp_TG_in (i := 574) (by decide +kernel) (by decide +kernel)
theorem ml_X6_140 : Cond.methodLink RX6 140 yX3_append ∈ cp_TG := cp_TG_in (i := 578) (by decide +kernel) (by decide +kernel)
theorem ml_X3_19 : Cond.methodLink RX3 19 yX3_charactersIn ∈ cp_TG := cp_TG_in (i := 582) (by decide +kernel) (by decide +kernel)
theorem ml_L_80 : Cond.methodLink RL 80 yX6_wipe ∈ cp_TG := cp_TG_in (i := 588) (by decide +kernel) (by decide +kernel)
theorem ml_X6_144 : Cond.methodLink RX6 144 yX3_empty ∈ cp_TG := cp_TG_in (i := 592) (by decide +kernel) (by decide +kernel)
theorem ml_L_84 : Cond.methodLink RL 84 yX6_fault ∈ cp_TG := cp_TG_in (i := 596) (by decide +kernel) (by decide +kernel)
theorem ml_X6_147 : Cond.methodLink RX6 147 yX2_findFault ∈ cp_TG := cp_TG_in (i := 600) (by decide +kernel) (by decide +kernel)
theorem ml_X2_19 : Cond.methodLink RX2 19 yX2_goToStart ∈ cp_TG := cp_TG_in (i := 604) (by decide +kernel) (by decide +kernel)
theorem ml_X2_22 : Cond.methodLink RX2 22 yX2_readOrder ∈ cp_TG := cp_TG_in (i := 608) (by decide +kernel) (by decide +kernel)
theorem ml_X2_35 : Cond.methodLink RX2 35 yX3_characterAt ∈ cp_TG := cp_TG_in (i := 612) (by decide +kernel) (by decide +kernel)
theorem ml_X2_43 : Cond.methodLink RX2 43 yX2_readPiece ∈ cp_TG := cp_TG_in (i := 616) (by decide +kernel) (by decide +kernel)
theorem ml_X2_49 : Cond.methodLink RX2 49 yX2_digitHere ∈ cp_TG := cp_TG_in (i := 620) (by decide +kernel) (by decide +kernel)
theorem ml_X2_31 : Cond.methodLink RX2 31 yX2_readSign ∈ cp_TG := cp_TG_in (i := 624) (by decide +kernel) (by decide +kernel)
theorem ml_X2_46 : Cond.methodLink RX2 46 yX2_readNumber ∈ cp_TG := cp_TG_in (i := 628) (by decide +kernel) (by decide +kernel)
theorem ml_X2_59 : (RX2, 59, yX6_oneIf) ∈ cp_nM := by decide +kernel
theorem ml_L_88 : Cond.methodLink RL 88 yX6_carryOut ∈ cp_TG := cp_TG_in (i := 633) (by decide +kernel) (by decide +kernel)
theorem ml_X6_150 : Cond.methodLink RX6 150 yX2_goToStart ∈ cp_TG := cp_TG_in (i := 637) (by decide +kernel) (by decide +kernel)
theorem ml_X6_153 : Cond.methodLink RX6 153 yX2_readOrder ∈ cp_TG := cp_TG_in (i := 638) (by decide +kernel) (by decide +kernel)
theorem ml_X6_156 : Cond.methodLink RX6 156 yX6_carryOrderOut ∈ cp_TG := cp_TG_in (i := 639) (by decide +kernel) (by decide +kernel)
theorem ml_X6_159 : Cond.methodLink RX6 159 yX2_readSign ∈ cp_TG := cp_TG_in (i := 643) (by decide +kernel) (by decide +kernel)
theorem ml_L_92 : Cond.methodLink RL 92 yX6_undo ∈ cp_TG := cp_TG_in (i := 644) (by decide +kernel) (by decide +kernel)
theorem ml_X6_179 : Cond.methodLink RX6 179 yX0_takeBack ∈ cp_TG := cp_TG_in (i := 648) (by decide +kernel) (by decide +kernel)
theorem ml_L_96 : Cond.methodLink RL 96 yX6_save ∈ cp_TG := cp_TG_in (i := 652) (by decide +kernel) (by decide +kernel)
theorem ml_L_100 : Cond.methodLink RL 100 yX6_restore ∈ cp_TG := cp_TG_in (i := 656) (by decide +kernel) (by decide +kernel)
theorem ml_L_12 : Cond.methodLink RL 12 yX7_init ∈ cp_TG := cp_TG_in (i := 662) (by decide +kernel) (by decide +kernel)
theorem ml_L_17 : Cond.methodLink RL 17 yX7_set ∈ cp_TG := cp_TG_in (i := 712) (by decide +kernel) (by decide +kernel)
theorem ml_X7_136 : Cond.methodLink RX7 136 yX7_isSetting ∈ cp_TG := cp_TG_in (i := 716) (by decide +kernel) (by decide +kernel)
theorem ml_X7_35 : Cond.methodLink RX7 35 yX7_in ∈ cp_TG := cp_TG_in (i := 720) (by decide +kernel) (by decide +kernel)
theorem ml_X7_139 : Cond.methodLink RX7 139 yX7_copy ∈ cp_TG := cp_TG_in (i := 726) (by decide +kernel) (by decide +kernel)
theorem ml_X7_143 : Cond.methodLink RX7 143 yX7_ends ∈ cp_TG := cp_TG_in (i := 729) (by decide +kernel) (by decide +kernel)
theorem ml_L_22 : Cond.methodLink RL 22 yX7_piece ∈ cp_TG := cp_TG_in (i := 733) (by decide +kernel) (by decide +kernel)
theorem ml_X7_146 : Cond.methodLink RX7 146 yX7_doPiece ∈ cp_TG := cp_TG_in (i := 737) (by decide +kernel) (by decide +kernel)
theorem ml_X7_53 : Cond.methodLink RX7 53 yX7_sets ∈ cp_TG := cp_TG_in (i := 744) (by decide +kernel) (by decide +kernel)
theorem ml_X7_61 : Cond.methodLink RX7 61 yX7_comesTo ∈ cp_TG := cp_TG_in (i := 748) (by decide +kernel) (by decide +kernel)
theorem ml_L_27 : Cond.methodLink RL 27 yX7_plate ∈ cp_TG := cp_TG_in (i := 752) (by decide +kernel) (by decide +kernel)
theorem ml_X7_150 : Cond.methodLink RX7 150 yX7_doPlate ∈ cp_TG := cp_TG_in (i := 756) (by decide +kernel) (by decide +kernel)
theorem ml_X7_97 : Cond.methodLink RX7 97 yX7_due ∈ cp_TG := cp_TG_in (i := 761) (by decide +kernel) (by decide +kernel)
theorem ml_X7_85 : Cond.methodLink RX7 85 yX7_plateAt ∈ cp_TG := cp_TG_in (i := 765) (by decide +kernel) (by decide +kernel)
theorem ml_X7_111 : Cond.methodLink RX7 111 yX7_tells ∈ cp_TG := cp_TG_in (i := 769) (by decide +kernel) (by decide +kernel)
theorem ml_L_31 : Cond.methodLink RL 31 yX7_hold ∈ cp_TG := cp_TG_in (i := 773) (by decide +kernel) (by decide +kernel)
theorem ml_X7_153 : Cond.methodLink RX7 153 yX7_doHold ∈ cp_TG := cp_TG_in (i := 777) (by decide +kernel) (by decide +kernel)
theorem ml_X7_114 : Cond.methodLink RX7 114 yX7_isPiece ∈ cp_TG := cp_TG_in (i := 781) (by decide +kernel) (by decide +kernel)
theorem ml_X7_39 : Cond.methodLink RX7 39 yX7_of ∈ cp_TG := cp_TG_in (i := 785) (by decide +kernel) (by decide +kernel)
theorem ml_L_35 : Cond.methodLink RL 35 yX7_kill ∈ cp_TG := cp_TG_in (i := 789) (by decide +kernel) (by decide +kernel)
theorem ml_X7_156 : Cond.methodLink RX7 156 yX7_doKill ∈ cp_TG := cp_TG_in (i := 793) (by decide +kernel) (by decide +kernel)
theorem ml_X7_57 : Cond.methodLink RX7 57 yX7_leaves ∈ cp_TG := cp_TG_in (i := 797) (by decide +kernel) (by decide +kernel)
theorem ml_X7_43 : Cond.methodLink RX7 43 yX7_queueOf ∈ cp_TG := cp_TG_in (i := 801) (by decide +kernel) (by decide +kernel)
theorem ml_X7_50 : Cond.methodLink RX7 50 yX7_placeOf ∈ cp_TG := cp_TG_in (i := 805) (by decide +kernel) (by decide +kernel)
theorem ml_X7_47 : Cond.methodLink RX7 47 yX7_inQueue ∈ cp_TG := cp_TG_in (i := 809) (by decide +kernel) (by decide +kernel)
theorem ml_X7_117 : Cond.methodLink RX7 117 yX7_isOnLatest ∈ cp_TG := cp_TG_in (i := 813) (by decide +kernel) (by decide +kernel)
theorem ml_X7_120 : Cond.methodLink RX7 120 yX7_isDueSoon ∈ cp_TG := cp_TG_in (i := 817) (by decide +kernel) (by decide +kernel)
theorem ml_L_39 : Cond.methodLink RL 39 yX7_pass ∈ cp_TG := cp_TG_in (i := 821) (by decide +kernel) (by decide +kernel)
theorem ml_X7_159 : Cond.methodLink RX7 159 yX7_doPass ∈ cp_TG := cp_TG_in (i := 825) (by decide +kernel) (by decide +kernel)
theorem ml_X7_124 : Cond.methodLink RX7 124 yX7_passes ∈ cp_TG := cp_TG_in (i := 829) (by decide +kernel) (by decide +kernel)
theorem ml_X7_94 : Cond.methodLink RX7 94 yX7_works ∈ cp_TG := cp_TG_in (i := 833) (by decide +kernel) (by decide +kernel)
theorem ml_X7_88 : Cond.methodLink RX7 88 yX7_edits ∈ cp_TG := cp_TG_in (i := 837) (by decide +kernel) (by decide +kernel)
theorem ml_X7_65 : Cond.methodLink RX7 65 yX7_becomesReady ∈ cp_TG := cp_TG_in (i := 841) (by decide +kernel) (by decide +kernel)
theorem ml_X7_91 : Cond.methodLink RX7 91 yX7_reads ∈ cp_TG := cp_TG_in (i := 845) (by decide +kernel) (by decide +kernel)
theorem ml_X7_100 : Cond.methodLink RX7 100 yX7_takes ∈ cp_TG := cp_TG_in (i := 849) (by decide +kernel) (by decide +kernel)
theorem ml_X7_82 : Cond.methodLink RX7 82 yX7_ranked ∈ cp_TG := cp_TG_in (i := 853) (by decide +kernel) (by decide +kernel)
theorem ml_X7_68 : Cond.methodLink RX7 68 yX7_isFree ∈ cp_TG := cp_TG_in (i := 857) (by decide +kernel) (by decide +kernel)
theorem ml_X7_72 : Cond.methodLink RX7 72 yX7_isAhead ∈ cp_TG := cp_TG_in (i := 861) (by decide +kernel) (by decide +kernel)
theorem ml_L_43 : Cond.methodLink RL 43 yX7_ofPiece ∈ cp_TG := cp_TG_in (i := 865) (by decide +kernel) (by decide +kernel)
theorem ml_X7_164 : Cond.methodLink RX7 164 yX7_platesWith ∈ cp_TG := cp_TG_in (i := 870) (by decide +kernel) (by decide +kernel)
theorem ml_L_47 : Cond.methodLink RL 47 yX7_ofPlate ∈ cp_TG := cp_TG_in (i := 874) (by decide +kernel) (by decide +kernel)
theorem ml_X7_169 : Cond.methodLink RX7 169 yX7_linesOf ∈ cp_TG := cp_TG_in (i := 879) (by decide +kernel) (by decide +kernel)
theorem ml_L_51 : Cond.methodLink RL 51 yX7_count ∈ cp_TG := cp_TG_in (i := 883) (by decide +kernel) (by decide +kernel)
theorem ml_X7_172 : Cond.methodLink RX7 172 yX7_manyThat ∈ cp_TG := cp_TG_in (i := 887) (by decide +kernel) (by decide +kernel)
theorem ml_X7_177 : Cond.methodLink RX7 177 yX7_manyHeld ∈ cp_TG := cp_TG_in (i := 892) (by decide +kernel) (by decide +kernel)
theorem ml_X7_180 : Cond.methodLink RX7 180 yX7_replates ∈ cp_TG := cp_TG_in (i := 896) (by decide +kernel) (by decide +kernel)
theorem ml_L_55 : Cond.methodLink RL 55 yX7_why ∈ cp_TG := cp_TG_in (i := 900) (by decide +kernel) (by decide +kernel)
theorem ml_X7_186 : Cond.methodLink RX7 186 yX7_reason ∈ cp_TG := cp_TG_in (i := 904) (by decide +kernel) (by decide +kernel)
theorem ml_X7_189 : Cond.methodLink RX7 189 yX7_lastAhead ∈ cp_TG := cp_TG_in (i := 908) (by decide +kernel) (by decide +kernel)
theorem ml_L_60 : Cond.methodLink RL 60 yX7_plateNow ∈ cp_TG := cp_TG_in (i := 912) (by decide +kernel) (by decide +kernel)
theorem ml_L_64 : Cond.methodLink RL 64 yX7_readyIn ∈ cp_TG := cp_TG_in (i := 916) (by decide +kernel) (by decide +kernel)
theorem ml_L_68 : Cond.methodLink RL 68 yX7_leastRoom ∈ cp_TG := cp_TG_in (i := 920) (by decide +kernel) (by decide +kernel)
theorem ml_X7_192 : Cond.methodLink RX7 192 yX7_comesToNext ∈ cp_TG := cp_TG_in (i := 924) (by decide +kernel) (by decide +kernel)
theorem ml_L_72 : Cond.methodLink RL 72 yX7_nextPlate ∈ cp_TG := cp_TG_in (i := 928) (by decide +kernel) (by decide +kernel)
theorem ml_L_79 : Cond.methodLink RL 79 yX7_put ∈ cp_TG := cp_TG_in (i := 932) (by decide +kernel) (by decide +kernel)
theorem ml_L_83 : Cond.methodLink RL 83 yX7_wipe ∈ cp_TG := cp_TG_in (i := 939) (by decide +kernel) (by decide +kernel)
theorem ml_L_87 : Cond.methodLink RL 87 yX7_fault ∈ cp_TG := cp_TG_in (i := 943) (by decide +kernel) (by decide +kernel)
theorem ml_X7_229 : Cond.methodLink RX7 229 yX7_readsOrder ∈ cp_TG := cp_TG_in (i := 947) (by decide +kernel) (by decide +kernel)
theorem ml_X7_213 : Cond.methodLink RX7 213 yX7_takesOne ∈ cp_TG := cp_TG_in (i := 951) (by decide +kernel) (by decide +kernel)
theorem ml_X7_204 : Cond.methodLink RX7 204 yX7_isHere ∈ cp_TG := cp_TG_in (i := 955) (by decide +kernel) (by decide +kernel)
theorem ml_X7_226 : Cond.methodLink RX7 226 yX7_readsPiece ∈ cp_TG := cp_TG_in (i := 959) (by decide +kernel) (by decide +kernel)
theorem ml_X7_210 : Cond.methodLink RX7 210 yX7_readsDigit ∈ cp_TG := cp_TG_in (i := 963) (by decide +kernel) (by decide +kernel)
theorem ml_X7_216 : Cond.methodLink RX7 216 yX7_readsNumber ∈ cp_TG := cp_TG_in (i := 967) (by decide +kernel) (by decide +kernel)
theorem ml_L_91 : Cond.methodLink RL 91 yX7_carryOut ∈ cp_TG := cp_TG_in (i := 971) (by decide +kernel) (by decide +kernel)
theorem ml_X7_232 : Cond.methodLink RX7 232 yX7_fault ∈ cp_TG := cp_TG_in (i := 975) (by decide +kernel) (by decide +kernel)
theorem ml_L_95 : Cond.methodLink RL 95 yX7_undo ∈ cp_TG := cp_TG_in (i := 976) (by decide +kernel) (by decide +kernel)
theorem ml_L_99 : Cond.methodLink RL 99 yX7_save ∈ cp_TG := cp_TG_in (i := 980) (by decide +kernel) (by decide +kernel)
theorem ml_L_103 : Cond.methodLink RL 103 yX7_restore ∈ cp_TG := cp_TG_in (i := 984) (by decide +kernel) (by decide +kernel)
theorem cl_X3_23 : Cond.constantLong RX3 23 (255 : Int64) ∈ cp_TG := cp_TG_in (i := 585) (by decide +kernel) (by decide +kernel)
theorem cl_X3_25 : Cond.constantLong RX3 25 (33 : Int64) ∈ cp_TG := cp_TG_in (i := 586) (by decide +kernel) (by decide +kernel)
theorem cl_X3_27 : Cond.constantLong RX3 27 (126 : Int64) ∈ cp_TG := cp_TG_in (i := 587) (by decide +kernel) (by decide +kernel)
theorem cl_X7_128 : Cond.constantLong RX7 128 (20 : Int64) ∈ cp_TG := cp_TG_in (i := 719) (by decide +kernel) (by decide +kernel)
theorem cl_X7_130 : Cond.constantLong RX7 130 (60 : Int64) ∈ cp_TG := cp_TG_in (i := 723) (by decide +kernel) (by decide +kernel)
theorem cl_X7_132 : Cond.constantLong RX7 132 (10 : Int64) ∈ cp_TG := cp_TG_in (i := 724) (by decide +kernel) (by decide +kernel)
theorem cl_X7_134 : Cond.constantLong RX7 134 (400 : Int64) ∈ cp_TG := cp_TG_in (i := 725) (by decide +kernel) (by decide +kernel)
theorem cl_X7_103 : Cond.constantLong RX7 103 (4 : Int64) ∈ cp_TG := cp_TG_in (i := 741) (by decide +kernel) (by decide +kernel)
theorem cl_X7_105 : Cond.constantLong RX7 105 (99 : Int64) ∈ cp_TG := cp_TG_in (i := 742) (by decide +kernel) (by decide +kernel)
theorem cl_X7_107 : Cond.constantLong RX7 107 (9 : Int64) ∈ cp_TG := cp_TG_in (i := 743) (by decide +kernel) (by decide +kernel)
theorem cl_X7_109 : Cond.constantLong RX7 109 (599 : Int64) ∈ cp_TG := cp_TG_in (i := 760) (by decide +kernel) (by decide +kernel)
theorem cl_X7_162 : Cond.constantLong RX7 162 (7 : Int64) ∈ cp_TG := cp_TG_in (i := 869) (by decide +kernel) (by decide +kernel)
theorem cl_X7_167 : Cond.constantLong RX7 167 (3 : Int64) ∈ cp_TG := cp_TG_in (i := 878) (by decide +kernel) (by decide +kernel)
theorem cl_X7_175 : Cond.constantLong RX7 175 (13 : Int64) ∈ cp_TG := cp_TG_in (i := 891) (by decide +kernel) (by decide +kernel)
theorem cl_X7_195 : Cond.constantLong RX7 195 (255 : Int64) ∈ cp_TG := cp_TG_in (i := 936) (by decide +kernel) (by decide +kernel)
theorem cl_X7_197 : Cond.constantLong RX7 197 (33 : Int64) ∈ cp_TG := cp_TG_in (i := 937) (by decide +kernel) (by decide +kernel)
theorem cl_X7_199 : Cond.constantLong RX7 199 (126 : Int64) ∈ cp_TG := cp_TG_in (i := 938) (by decide +kernel) (by decide +kernel)
theorem cl_L_73 : Cond.constantLong RL 73 (4294967295 : Int64) ∈ cp_TG := cp_TG_in (i := 988) (by decide +kernel) (by decide +kernel)
section CPF
variable {x : cp_Cx} {E : cp_En} {bc : ByteArray} {nL d mc ms cells slots cnt : Nat} {sh : cp_Shp} {I : cp_Mem} {R : cp_Rem} {pc : Nat} {L : List (Option Value)} {st : List Value}
theorem fs_X1_9 (O : cp_Ok x E RX1 bc nL d mc ms) (hd : decode bc pc = .ok (.getstatic 9, 3)) (k : cp_G x E nL cells slots cnt sh I R (pc + 3) L (.ref (cp_ts E 0) :: st)) : cp_G x E nL cells slots cnt sh I R pc L st := cp_getsN O (by decide) (by decide +kernel) hd k
theorem fl_X4_9 : cp_lk RX4 9 TX4 0 := cp_TG_in (i := 111) (by decide +kernel) (by decide +kernel)
theorem fg_X4_9 (O : cp_Ok x E RX4 bc nL d mc ms) {a : Nat} (hs : sh a = (5, 0)) (hd : decode bc pc = .ok (.getfield 9, 3)) (k : cp_G x E nL cells slots cnt sh I R (pc + 3) L (.int (I a 0) :: st)) : cp_G x E nL cells slots cnt sh I R pc L (.ref a :: st) := cp_get O cp_cX4 (j := 0) (by decide) fl_X4_9 hs hd k
theorem fp_X4_9 (O : cp_Ok x E RX4 bc nL d mc ms) {a : Nat} {v : Int32} (hs : sh a = (5, 0)) (hd : decode bc pc = .ok (.putfield 9, 3)) (k : cp_G x E nL cells slots cnt sh (cp_wi I a 0 v) R (pc + 3) L st) : cp_G x E nL cells slots cnt sh I R pc L (.int v :: .ref a :: st) := cp_put O cp_cX4 (j := 0) (by decide) fl_X4_9 rfl (ty := .int) (by decide +kernel) ⟨rfl, rfl⟩ rfl hs hd k
theorem fl_X1_115 : cp_lk RX1 115 TX4 0 := cp_TG_in (i := 112) (by decide +kernel) (by decide +kernel)
theorem fg_X1_115 (O : cp_Ok x E RX1 bc nL d mc ms) {a : Nat} (hs : sh a = (5, 0)) (hd : decode bc pc = .ok (.getfield 115, 3)) (k : cp_G x E nL cells slots cnt sh I R (pc + 3) L (.int (I a 0) :: st)) : cp_G x E nL cells slots cnt sh I R pc L (.ref a :: st) := cp_get O cp_cX4 (j := 0) (by decide) fl_X1_115 hs hd k
theorem fp_X1_115 (O : cp_Ok x E RX1 bc nL d mc ms) {a : Nat} {v : Int32} (hs : sh a = (5, 0)) (hd : decode bc pc = .ok (.putfield 115, 3)) (k : cp_G x E nL cells slots cnt sh (cp_wi I a 0 v) R (pc + 3) L st) : cp_G x E nL cells slots cnt sh I R pc L (.int v :: .ref a :: st) := cp_put O cp_cX4 (j := 0) (by decide) fl_X1_115 rfl (ty := .int) (by decide +kernel) ⟨rfl, rfl⟩ rfl hs hd k
theorem fl_X4_15 : cp_lk RX4 15 TX4 1 := cp_TG_in (i := 113) (by decide +kernel) (by decide +kernel)
theorem fg_X4_15 (O : cp_Ok x E RX4 bc nL d mc ms) {a : Nat} (hs : sh a = (5, 0)) (hd : decode bc pc = .ok (.getfield 15, 3)) (k : cp_G x E nL cells slots cnt sh I R (pc + 3) L (.int (I a 1) :: st)) : cp_G x E nL cells slots cnt sh I R pc L (.ref a :: st) := cp_get O cp_cX4 (j := 1) (by decide) fl_X4_15 hs hd k
theorem fp_X4_15 (O : cp_Ok x E RX4 bc nL d mc ms) {a : Nat} {v : Int32} (hs : sh a = (5, 0)) (hd : decode bc pc = .ok (.putfield 15, 3)) (k : cp_G x E nL cells slots cnt sh (cp_wi I a 1 v) R (pc + 3) L st) : cp_G x E nL cells slots cnt sh I R pc L (.int v :: .ref a :: st) := cp_put O cp_cX4 (j := 1) (by decide) fl_X4_15 rfl (ty := .int) (by decide +kernel) ⟨rfl, rfl⟩ rfl hs hd k
theorem fl_X1_144 : cp_lk RX1 144 TX4 1 := cp_TG_in (i := 114) (by decide +kernel) (by decide +kernel)
theorem fg_X1_144 (O : cp_Ok x E RX1 bc nL d mc ms) {a : Nat} (hs : sh a = (5, 0)) (hd : decode bc pc = .ok (.getfield 144, 3)) (k : cp_G x E nL cells slots cnt sh I R (pc + 3) L (.int (I a 1) :: st)) : cp_G x E nL cells slots cnt sh I R pc L (.ref a :: st) := cp_get O cp_cX4 (j := 1) (by decide) fl_X1_144 hs hd k
theorem fp_X1_144 (O : cp_Ok x E RX1 bc nL d mc ms) {a : Nat} {v : Int32} (hs : sh a = (5, 0)) (hd : decode bc pc = .ok (.putfield 144, 3)) (k : cp_G x E nL cells slots cnt sh (cp_wi I a 1 v) R (pc + 3) L st) : cp_G x E nL cells slots cnt sh I R pc L (.int v :: .ref a :: st) := cp_put O cp_cX4 (j := 1) (by decide) fl_X1_144 rfl (ty := .int) (by decide +kernel) ⟨rfl, rfl⟩ rfl hs hd k
theorem fl_X4_18 : cp_lk RX4 18 TX4 2 := cp_TG_in (i := 115) (by decide +kernel) (by decide +kernel)
theorem fg_X4_18 (O : cp_Ok x E RX4 bc nL d mc ms) {a : Nat} (hs : sh a = (5, 0)) (hd : decode bc pc = .ok (.getfield 18, 3)) (k : cp_G x E nL cells slots cnt sh I R (pc + 3) L (.int (I a 2) :: st)) : cp_G x E nL cells slots cnt sh I R pc L (.ref a :: st) := cp_get O cp_cX4 (j := 2) (by decide) fl_X4_18 hs hd k
theorem fp_X4_18 (O : cp_Ok x E RX4 bc nL d mc ms) {a : Nat} {v : Int32} (hs : sh a = (5, 0)) (hd : decode bc pc = .ok (.putfield 18, 3)) (k : cp_G x E nL cells slots cnt sh (cp_wi I a 2 v) R (pc + 3) L st) : cp_G x E nL cells slots cnt sh I R pc L (.int v :: .ref a :: st) := cp_put O cp_cX4 (j := 2) (by decide) fl_X4_18 rfl (ty := .int) (by decide +kernel) ⟨rfl, rfl⟩ rfl hs hd k
theorem fl_X1_156 : cp_lk RX1 156 TX4 2 := cp_TG_in (i := 116) (by decide +kernel) (by decide +kernel)
theorem fg_X1_156 (O : cp_Ok x E RX1 bc nL d mc ms) {a : Nat} (hs : sh a = (5, 0)) (hd : decode bc pc = .ok (.getfield 156, 3)) (k : cp_G x E nL cells slots cnt sh I R (pc + 3) L (.int (I a 2) :: st)) : cp_G x E nL cells slots cnt sh I R pc L (.ref a :: st) := cp_get O cp_cX4 (j := 2) (by decide) fl_X1_156 hs hd k
theorem fp_X1_156 (O : cp_Ok x E RX1 bc nL d mc ms) {a : Nat} {v : Int32} (hs : sh a = (5, 0)) (hd : decode bc pc = .ok (.putfield 156, 3)) (k : cp_G x E nL cells slots cnt sh (cp_wi I a 2 v) R (pc + 3) L st) : cp_G x E nL cells slots cnt sh I R pc L (.int v :: .ref a :: st) := cp_put O cp_cX4 (j := 2) (by decide) fl_X1_156 rfl (ty := .int) (by decide +kernel) ⟨rfl, rfl⟩ rfl hs hd k
theorem fl_X4_21 : cp_lk RX4 21 TX4 3 := cp_TG_in (i := 117) (by decide +kernel) (by decide +kernel)
theorem fg_X4_21 (O : cp_Ok x E RX4 bc nL d mc ms) {a : Nat} (hs : sh a = (5, 0)) (hd : decode bc pc = .ok (.getfield 21, 3)) (k : cp_G x E nL cells slots cnt sh I R (pc + 3) L (.int (I a 3) :: st)) : cp_G x E nL cells slots cnt sh I R pc L (.ref a :: st) := cp_get O cp_cX4 (j := 3) (by decide) fl_X4_21 hs hd k
theorem fp_X4_21 (O : cp_Ok x E RX4 bc nL d mc ms) {a : Nat} {v : Int32} (hs : sh a = (5, 0)) (hv : v = 0 ∨ v = 1) (hd : decode bc pc = .ok (.putfield 21, 3)) (k : cp_G x E nL cells slots cnt sh (cp_wi I a 3 v) R (pc + 3) L st) : cp_G x E nL cells slots cnt sh I R pc L (.int v :: .ref a :: st) := cp_put O cp_cX4 (j := 3) (by decide) fl_X4_21 rfl (ty := .boolean) (by decide +kernel) (cp_narb hv) rfl hs hd k
theorem fl_X1_188 : cp_lk RX1 188 TX4 3 := cp_TG_in (i := 118) (by decide +kernel) (by decide +kernel)
theorem fg_X1_188 (O : cp_Ok x E RX1 bc nL d mc ms) {a : Nat} (hs : sh a = (5, 0)) (hd : decode bc pc = .ok (.getfield 188, 3)) (k : cp_G x E nL cells slots cnt sh I R (pc + 3) L (.int (I a 3) :: st)) : cp_G x E nL cells slots cnt sh I R pc L (.ref a :: st) := cp_get O cp_cX4 (j := 3) (by decide) fl_X1_188 hs hd k
theorem fp_X1_188 (O : cp_Ok x E RX1 bc nL d mc ms) {a : Nat} {v : Int32} (hs : sh a = (5, 0)) (hv : v = 0 ∨ v = 1) (hd : decode bc pc = .ok (.putfield 188, 3)) (k : cp_G x E nL cells slots cnt sh (cp_wi I a 3 v) R (pc + 3) L st) : cp_G x E nL cells slots cnt sh I R pc L (.int v :: .ref a :: st) := cp_put O cp_cX4 (j := 3) (by decide) fl_X1_188 rfl (ty := .boolean) (by decide +kernel) (cp_narb hv) rfl hs hd k
theorem fl_X4_25 : cp_lk RX4 25 TX4 4 := cp_TG_in (i := 119) (by decide +kernel) (by decide +kernel)
theorem fg_X4_25 (O : cp_Ok x E RX4 bc nL d mc ms) {a : Nat} (hs : sh a = (5, 0)) (hd : decode bc pc = .ok (.getfield 25, 3)) (k : cp_G x E nL cells slots cnt sh I R (pc + 3) L (.int (I a 4) :: st)) : cp_G x E nL cells slots cnt sh I R pc L (.ref a :: st) := cp_get O cp_cX4 (j := 4) (by decide) fl_X4_25 hs hd k
theorem fp_X4_25 (O : cp_Ok x E RX4 bc nL d mc ms) {a : Nat} {v : Int32} (hs : sh a = (5, 0)) (hd : decode bc pc = .ok (.putfield 25, 3)) (k : cp_G x E nL cells slots cnt sh (cp_wi I a 4 v) R (pc + 3) L st) : cp_G x E nL cells slots cnt sh I R pc L (.int v :: .ref a :: st) := cp_put O cp_cX4 (j := 4) (by decide) fl_X4_25 rfl (ty := .int) (by decide +kernel) ⟨rfl, rfl⟩ rfl hs hd k
theorem fl_X1_64 : cp_lk RX1 64 TX4 4 := cp_TG_in (i := 120) (by decide +kernel) (by decide +kernel)
theorem fg_X1_64 (O : cp_Ok x E RX1 bc nL d mc ms) {a : Nat} (hs : sh a = (5, 0)) (hd : decode bc pc = .ok (.getfield 64, 3)) (k : cp_G x E nL cells slots cnt sh I R (pc + 3) L (.int (I a 4) :: st)) : cp_G x E nL cells slots cnt sh I R pc L (.ref a :: st) := cp_get O cp_cX4 (j := 4) (by decide) fl_X1_64 hs hd k
theorem fp_X1_64 (O : cp_Ok x E RX1 bc nL d mc ms) {a : Nat} {v : Int32} (hs : sh a = (5, 0)) (hd : decode bc pc = .ok (.putfield 64, 3)) (k : cp_G x E nL cells slots cnt sh (cp_wi I a 4 v) R (pc + 3) L st) : cp_G x E nL cells slots cnt sh I R pc L (.int v :: .ref a :: st) := cp_put O cp_cX4 (j := 4) (by decide) fl_X1_64 rfl (ty := .int) (by decide +kernel) ⟨rfl, rfl⟩ rfl hs hd k
theorem fl_X4_28 : cp_lk RX4 28 TX4 5 := cp_TG_in (i := 121) (by decide +kernel) (by decide +kernel)
theorem fg_X4_28 (O : cp_Ok x E RX4 bc nL d mc ms) {a : Nat} (hs : sh a = (5, 0)) (hd : decode bc pc = .ok (.getfield 28, 3)) (k : cp_G x E nL cells slots cnt sh I R (pc + 3) L (.int (I a 5) :: st)) : cp_G x E nL cells slots cnt sh I R pc L (.ref a :: st) := cp_get O cp_cX4 (j := 5) (by decide) fl_X4_28 hs hd k
theorem fp_X4_28 (O : cp_Ok x E RX4 bc nL d mc ms) {a : Nat} {v : Int32} (hs : sh a = (5, 0)) (hv : v = 0 ∨ v = 1) (hd : decode bc pc = .ok (.putfield 28, 3)) (k : cp_G x E nL cells slots cnt sh (cp_wi I a 5 v) R (pc + 3) L st) : cp_G x E nL cells slots cnt sh I R pc L (.int v :: .ref a :: st) := cp_put O cp_cX4 (j := 5) (by decide) fl_X4_28 rfl (ty := .boolean) (by decide +kernel) (cp_narb hv) rfl hs hd k
theorem fl_X1_85 : cp_lk RX1 85 TX4 5 := cp_TG_in (i := 122) (by decide +kernel) (by decide +kernel)
theorem fg_X1_85 (O : cp_Ok x E RX1 bc nL d mc ms) {a : Nat} (hs : sh a = (5, 0)) (hd : decode bc pc = .ok (.getfield 85, 3)) (k : cp_G x E nL cells slots cnt sh I R (pc + 3) L (.int (I a 5) :: st)) : cp_G x E nL cells slots cnt sh I R pc L (.ref a :: st) := cp_get O cp_cX4 (j := 5) (by decide) fl_X1_85 hs hd k
theorem fp_X1_85 (O : cp_Ok x E RX1 bc nL d mc ms) {a : Nat} {v : Int32} (hs : sh a = (5, 0)) (hv : v = 0 ∨ v = 1) (hd : decode bc pc = .ok (.putfield 85, 3)) (k : cp_G x E nL cells slots cnt sh (cp_wi I a 5 v) R (pc + 3) L st) : cp_G x E nL cells slots cnt sh I R pc L (.int v :: .ref a :: st) := cp_put O cp_cX4 (j := 5) (by decide) fl_X1_85 rfl (ty := .boolean) (by decide +kernel) (cp_narb hv) rfl hs hd k
theorem fl_X4_31 : cp_lk RX4 31 TX4 6 := cp_TG_in (i := 123) (by decide +kernel) (by decide +kernel)
theorem fg_X4_31 (O : cp_Ok x E RX4 bc nL d mc ms) {a : Nat} (hs : sh a = (5, 0)) (hd : decode bc pc = .ok (.getfield 31, 3)) (k : cp_G x E nL cells slots cnt sh I R (pc + 3) L (.int (I a 6) :: st)) : cp_G x E nL cells slots cnt sh I R pc L (.ref a :: st) := cp_get O cp_cX4 (j := 6) (by decide) fl_X4_31 hs hd k
theorem fp_X4_31 (O : cp_Ok x E RX4 bc nL d mc ms) {a : Nat} {v : Int32} (hs : sh a = (5, 0)) (hd : decode bc pc = .ok (.putfield 31, 3)) (k : cp_G x E nL cells slots cnt sh (cp_wi I a 6 v) R (pc + 3) L st) : cp_G x E nL cells slots cnt sh I R pc L (.int v :: .ref a :: st) := cp_put O cp_cX4 (j := 6) (by decide) fl_X4_31 rfl (ty := .int) (by decide +kernel) ⟨rfl, rfl⟩ rfl hs hd k
theorem fl_X1_191 : cp_lk RX1 191 TX4 6 := cp_TG_in (i := 124) (by decide +kernel) (by decide +kernel)
theorem fg_X1_191 (O : cp_Ok x E RX1 bc nL d mc ms) {a : Nat} (hs : sh a = (5, 0)) (hd : decode bc pc = .ok (.getfield 191, 3)) (k : cp_G x E nL cells slots cnt sh I R (pc + 3) L (.int (I a 6) :: st)) : cp_G x E nL cells slots cnt sh I R pc L (.ref a :: st) := cp_get O cp_cX4 (j := 6) (by decide) fl_X1_191 hs hd k
theorem fp_X1_191 (O : cp_Ok x E RX1 bc nL d mc ms) {a : Nat} {v : Int32} (hs : sh a = (5, 0)) (hd : decode bc pc = .ok (.putfield 191, 3)) (k : cp_G x E nL cells slots cnt sh (cp_wi I a 6 v) R (pc + 3) L st) : cp_G x E nL cells slots cnt sh I R pc L (.int v :: .ref a :: st) := cp_put O cp_cX4 (j := 6) (by decide) fl_X1_191 rfl (ty := .int) (by decide +kernel) ⟨rfl, rfl⟩ rfl hs hd k
theorem fl_X4_34 : cp_lk RX4 34 TX4 7 := cp_TG_in (i := 125) (by decide +kernel) (by decide +kernel)
theorem fg_X4_34 (O : cp_Ok x E RX4 bc nL d mc ms) {a : Nat} (hs : sh a = (5, 0)) (hd : decode bc pc = .ok (.getfield 34, 3)) (k : cp_G x E nL cells slots cnt sh I R (pc + 3) L (.int (I a 7) :: st)) : cp_G x E nL cells slots cnt sh I R pc L (.ref a :: st) := cp_get O cp_cX4 (j := 7) (by decide) fl_X4_34 hs hd k
theorem fp_X4_34 (O : cp_Ok x E RX4 bc nL d mc ms) {a : Nat} {v : Int32} (hs : sh a = (5, 0)) (hd : decode bc pc = .ok (.putfield 34, 3)) (k : cp_G x E nL cells slots cnt sh (cp_wi I a 7 v) R (pc + 3) L st) : cp_G x E nL cells slots cnt sh I R pc L (.int v :: .ref a :: st) := cp_put O cp_cX4 (j := 7) (by decide) fl_X4_34 rfl (ty := .int) (by decide +kernel) ⟨rfl, rfl⟩ rfl hs hd k
theorem fl_X1_194 : cp_lk RX1 194 TX4 7 := cp_TG_in (i := 126) (by decide +kernel) (by decide +kernel)
theorem fg_X1_194 (O : cp_Ok x E RX1 bc nL d mc ms) {a : Nat} (hs : sh a = (5, 0)) (hd : decode bc pc = .ok (.getfield 194, 3)) (k : cp_G x E nL cells slots cnt sh I R (pc + 3) L (.int (I a 7) :: st)) : cp_G x E nL cells slots cnt sh I R pc L (.ref a :: st) := cp_get O cp_cX4 (j := 7) (by decide) fl_X1_194 hs hd k
theorem fp_X1_194 (O : cp_Ok x E RX1 bc nL d mc ms) {a : Nat} {v : Int32} (hs : sh a = (5, 0)) (hd : decode bc pc = .ok (.putfield 194, 3)) (k : cp_G x E nL cells slots cnt sh (cp_wi I a 7 v) R (pc + 3) L st) : cp_G x E nL cells slots cnt sh I R pc L (.int v :: .ref a :: st) := cp_put O cp_cX4 (j := 7) (by decide) fl_X1_194 rfl (ty := .int) (by decide +kernel) ⟨rfl, rfl⟩ rfl hs hd k
theorem fl_X4_37 : cp_lk RX4 37 TX4 8 := cp_TG_in (i := 127) (by decide +kernel) (by decide +kernel)
theorem fg_X4_37 (O : cp_Ok x E RX4 bc nL d mc ms) {a : Nat} (hs : sh a = (5, 0)) (hd : decode bc pc = .ok (.getfield 37, 3)) (k : cp_G x E nL cells slots cnt sh I R (pc + 3) L (.int (I a 8) :: st)) : cp_G x E nL cells slots cnt sh I R pc L (.ref a :: st) := cp_get O cp_cX4 (j := 8) (by decide) fl_X4_37 hs hd k
theorem fp_X4_37 (O : cp_Ok x E RX4 bc nL d mc ms) {a : Nat} {v : Int32} (hs : sh a = (5, 0)) (hd : decode bc pc = .ok (.putfield 37, 3)) (k : cp_G x E nL cells slots cnt sh (cp_wi I a 8 v) R (pc + 3) L st) : cp_G x E nL cells slots cnt sh I R pc L (.int v :: .ref a :: st) := cp_put O cp_cX4 (j := 8) (by decide) fl_X4_37 rfl (ty := .int) (by decide +kernel) ⟨rfl, rfl⟩ rfl hs hd k
theorem fl_X1_159 : cp_lk RX1 159 TX4 8 := cp_TG_in (i := 128) (by decide +kernel) (by decide +kernel)
theorem fg_X1_159 (O : cp_Ok x E RX1 bc nL d mc ms) {a : Nat} (hs : sh a = (5, 0)) (hd : decode bc pc = .ok (.getfield 159, 3)) (k : cp_G x E nL cells slots cnt sh I R (pc + 3) L (.int (I a 8) :: st)) : cp_G x E nL cells slots cnt sh I R pc L (.ref a :: st) := cp_get O cp_cX4 (j := 8) (by decide) fl_X1_159 hs hd k
theorem fp_X1_159 (O : cp_Ok x E RX1 bc nL d mc ms) {a : Nat} {v : Int32} (hs : sh a = (5, 0)) (hd : decode bc pc = .ok (.putfield 159, 3)) (k : cp_G x E nL cells slots cnt sh (cp_wi I a 8 v) R (pc + 3) L st) : cp_G x E nL cells slots cnt sh I R pc L (.int v :: .ref a :: st) := cp_put O cp_cX4 (j := 8) (by decide) fl_X1_159 rfl (ty := .int) (by decide +kernel) ⟨rfl, rfl⟩ rfl hs hd k
theorem fl_X4_40 : cp_lk RX4 40 TX4 9 := cp_TG_in (i := 129) (by decide +kernel) (by decide +kernel)
theorem fg_X4_40 (O : cp_Ok x E RX4 bc nL d mc ms) {a : Nat} (hs : sh a = (5, 0)) (hd : decode bc pc = .ok (.getfield 40, 3)) (k : cp_G x E nL cells slots cnt sh I R (pc + 3) L (.int (I a 9) :: st)) : cp_G x E nL cells slots cnt sh I R pc L (.ref a :: st) := cp_get O cp_cX4 (j := 9) (by decide) fl_X4_40 hs hd k
theorem fp_X4_40 (O : cp_Ok x E RX4 bc nL d mc ms) {a : Nat} {v : Int32} (hs : sh a = (5, 0)) (hd : decode bc pc = .ok (.putfield 40, 3)) (k : cp_G x E nL cells slots cnt sh (cp_wi I a 9 v) R (pc + 3) L st) : cp_G x E nL cells slots cnt sh I R pc L (.int v :: .ref a :: st) := cp_put O cp_cX4 (j := 9) (by decide) fl_X4_40 rfl (ty := .int) (by decide +kernel) ⟨rfl, rfl⟩ rfl hs hd k
theorem fl_X1_132 : cp_lk RX1 132 TX4 9 := cp_TG_in (i := 130) (by decide +kernel) (by decide +kernel)
theorem fg_X1_132 (O : cp_Ok x E RX1 bc nL d mc ms) {a : Nat} (hs : sh a = (5, 0)) (hd : decode bc pc = .ok (.getfield 132, 3)) (k : cp_G x E nL cells slots cnt sh I R (pc + 3) L (.int (I a 9) :: st)) : cp_G x E nL cells slots cnt sh I R pc L (.ref a :: st) := cp_get O cp_cX4 (j := 9) (by decide) fl_X1_132 hs hd k
theorem fp_X1_132 (O : cp_Ok x E RX1 bc nL d mc ms) {a : Nat} {v : Int32} (hs : sh a = (5, 0)) (hd : decode bc pc = .ok (.putfield 132, 3)) (k : cp_G x E nL cells slots cnt sh (cp_wi I a 9 v) R (pc + 3) L st) : cp_G x E nL cells slots cnt sh I R pc L (.int v :: .ref a :: st) := cp_put O cp_cX4 (j := 9) (by decide) fl_X1_132 rfl (ty := .int) (by decide +kernel) ⟨rfl, rfl⟩ rfl hs hd k
theorem fl_X5_7 : cp_lk RX5 7 TX5 0 := cp_TG_in (i := 160) (by decide +kernel) (by decide +kernel)
theorem fg_X5_7 (O : cp_Ok x E RX5 bc nL d mc ms) {a : Nat} (hs : sh a = (6, 0)) (hd : decode bc pc = .ok (.getfield 7, 3)) (k : cp_G x E nL cells slots cnt sh I R (pc + 3) L (.int (I a 0) :: st)) : cp_G x E nL cells slots cnt sh I R pc L (.ref a :: st) := cp_get O cp_cX5 (j := 0) (by decide) fl_X5_7 hs hd k
theorem fp_X5_7 (O : cp_Ok x E RX5 bc nL d mc ms) {a : Nat} {v : Int32} (hs : sh a = (6, 0)) (hd : decode bc pc = .ok (.putfield 7, 3)) (k : cp_G x E nL cells slots cnt sh (cp_wi I a 0 v) R (pc + 3) L st) : cp_G x E nL cells slots cnt sh I R pc L (.int v :: .ref a :: st) := cp_put O cp_cX5 (j := 0) (by decide) fl_X5_7 rfl (ty := .int) (by decide +kernel) ⟨rfl, rfl⟩ rfl hs hd k
theorem fl_X1_174 : cp_lk RX1 174 TX5 0 := cp_TG_in (i := 161) (by decide +kernel) (by decide +kernel)
theorem fg_X1_174 (O : cp_Ok x E RX1 bc nL d mc ms) {a : Nat} (hs : sh a = (6, 0)) (hd : decode bc pc = .ok (.getfield 174, 3)) (k : cp_G x E nL cells slots cnt sh I R (pc + 3) L (.int (I a 0) :: st)) : cp_G x E nL cells slots cnt sh I R pc L (.ref a :: st) := cp_get O cp_cX5 (j := 0) (by decide) fl_X1_174 hs hd k
theorem fp_X1_174 (O : cp_Ok x E RX1 bc nL d mc ms) {a : Nat} {v : Int32} (hs : sh a = (6, 0)) (hd : decode bc pc = .ok (.putfield 174, 3)) (k : cp_G x E nL cells slots cnt sh (cp_wi I a 0 v) R (pc + 3) L st) : cp_G x E nL cells slots cnt sh I R pc L (.int v :: .ref a :: st) := cp_put O cp_cX5 (j := 0) (by decide) fl_X1_174 rfl (ty := .int) (by decide +kernel) ⟨rfl, rfl⟩ rfl hs hd k
theorem fl_X5_13 : cp_lk RX5 13 TX5 1 := cp_TG_in (i := 162) (by decide +kernel) (by decide +kernel)
theorem fg_X5_13 (O : cp_Ok x E RX5 bc nL d mc ms) {a : Nat} (hs : sh a = (6, 0)) (hd : decode bc pc = .ok (.getfield 13, 3)) (k : cp_G x E nL cells slots cnt sh I R (pc + 3) L (.int (I a 1) :: st)) : cp_G x E nL cells slots cnt sh I R pc L (.ref a :: st) := cp_get O cp_cX5 (j := 1) (by decide) fl_X5_13 hs hd k
theorem fp_X5_13 (O : cp_Ok x E RX5 bc nL d mc ms) {a : Nat} {v : Int32} (hs : sh a = (6, 0)) (hv : v = 0 ∨ v = 1) (hd : decode bc pc = .ok (.putfield 13, 3)) (k : cp_G x E nL cells slots cnt sh (cp_wi I a 1 v) R (pc + 3) L st) : cp_G x E nL cells slots cnt sh I R pc L (.int v :: .ref a :: st) := cp_put O cp_cX5 (j := 1) (by decide) fl_X5_13 rfl (ty := .boolean) (by decide +kernel) (cp_narb hv) rfl hs hd k
theorem fl_X1_203 : cp_lk RX1 203 TX5 1 := cp_TG_in (i := 163) (by decide +kernel) (by decide +kernel)
theorem fg_X1_203 (O : cp_Ok x E RX1 bc nL d mc ms) {a : Nat} (hs : sh a = (6, 0)) (hd : decode bc pc = .ok (.getfield 203, 3)) (k : cp_G x E nL cells slots cnt sh I R (pc + 3) L (.int (I a 1) :: st)) : cp_G x E nL cells slots cnt sh I R pc L (.ref a :: st) := cp_get O cp_cX5 (j := 1) (by decide) fl_X1_203 hs hd k
theorem fp_X1_203 (O : cp_Ok x E RX1 bc nL d mc ms) {a : Nat} {v : Int32} (hs : sh a = (6, 0)) (hv : v = 0 ∨ v = 1) (hd : decode bc pc = .ok (.putfield 203, 3)) (k : cp_G x E nL cells slots cnt sh (cp_wi I a 1 v) R (pc + 3) L st) : cp_G x E nL cells slots cnt sh I R pc L (.int v :: .ref a :: st) := cp_put O cp_cX5 (j := 1) (by decide) fl_X1_203 rfl (ty := .boolean) (by decide +kernel) (cp_narb hv) rfl hs hd k
theorem fl_X5_17 : cp_lk RX5 17 TX5 2 := cp_TG_in (i := 164) (by decide +kernel) (by decide +kernel)
theorem fg_X5_17 (O : cp_Ok x E RX5 bc nL d mc ms) {a : Nat} (hs : sh a = (6, 0)) (hd : decode bc pc = .ok (.getfield 17, 3)) (k : cp_G x E nL cells slots cnt sh I R (pc + 3) L (.int (I a 2) :: st)) : cp_G x E nL cells slots cnt sh I R pc L (.ref a :: st) := cp_get O cp_cX5 (j := 2) (by decide) fl_X5_17 hs hd k
theorem fp_X5_17 (O : cp_Ok x E RX5 bc nL d mc ms) {a : Nat} {v : Int32} (hs : sh a = (6, 0)) (hd : decode bc pc = .ok (.putfield 17, 3)) (k : cp_G x E nL cells slots cnt sh (cp_wi I a 2 v) R (pc + 3) L st) : cp_G x E nL cells slots cnt sh I R pc L (.int v :: .ref a :: st) := cp_put O cp_cX5 (j := 2) (by decide) fl_X5_17 rfl (ty := .int) (by decide +kernel) ⟨rfl, rfl⟩ rfl hs hd k
theorem fl_X1_113 : cp_lk RX1 113 TX5 2 := cp_TG_in (i := 165) (by decide +kernel) (by decide +kernel)
theorem fg_X1_113 (O : cp_Ok x E RX1 bc nL d mc ms) {a : Nat} (hs : sh a = (6, 0)) (hd : decode bc pc = .ok (.getfield 113, 3)) (k : cp_G x E nL cells slots cnt sh I R (pc + 3) L (.int (I a 2) :: st)) : cp_G x E nL cells slots cnt sh I R pc L (.ref a :: st) := cp_get O cp_cX5 (j := 2) (by decide) fl_X1_113 hs hd k
theorem fp_X1_113 (O : cp_Ok x E RX1 bc nL d mc ms) {a : Nat} {v : Int32} (hs : sh a = (6, 0)) (hd : decode bc pc = .ok (.putfield 113, 3)) (k : cp_G x E nL cells slots cnt sh (cp_wi I a 2 v) R (pc + 3) L st) : cp_G x E nL cells slots cnt sh I R pc L (.int v :: .ref a :: st) := cp_put O cp_cX5 (j := 2) (by decide) fl_X1_113 rfl (ty := .int) (by decide +kernel) ⟨rfl, rfl⟩ rfl hs hd k
theorem fl_X1_18 : cp_lk RX1 18 TX1 0 := cp_TG_in (i := 173) (by decide +kernel) (by decide +kernel)
theorem fg_X1_18 (O : cp_Ok x E RX1 bc nL d mc ms) {a y : Nat} (hs : sh a = (2, 0)) (hr : R a 0 = some y) (hd : decode bc pc = .ok (.getfield 18, 3)) (k : cp_G x E nL cells slots cnt sh I R (pc + 3) L (.ref y :: st)) : cp_G x E nL cells slots cnt sh I R pc L (.ref a :: st) := cp_getr O cp_cX1 (j := 0) (by decide) fl_X1_18 rfl hs hr hd k
theorem fl_X1_23 : cp_lk RX1 23 TX1 1 := cp_TG_in (i := 174) (by decide +kernel) (by decide +kernel)
theorem fg_X1_23 (O : cp_Ok x E RX1 bc nL d mc ms) {a : Nat} (hs : sh a = (2, 0)) (hd : decode bc pc = .ok (.getfield 23, 3)) (k : cp_G x E nL cells slots cnt sh I R (pc + 3) L (.int (I a 1) :: st)) : cp_G x E nL cells slots cnt sh I R pc L (.ref a :: st) := cp_get O cp_cX1 (j := 1) (by decide) fl_X1_23 hs hd k
theorem fp_X1_23 (O : cp_Ok x E RX1 bc nL d mc ms) {a : Nat} {v : Int32} (hs : sh a = (2, 0)) (hd : decode bc pc = .ok (.putfield 23, 3)) (k : cp_G x E nL cells slots cnt sh (cp_wi I a 1 v) R (pc + 3) L st) : cp_G x E nL cells slots cnt sh I R pc L (.int v :: .ref a :: st) := cp_put O cp_cX1 (j := 1) (by decide) fl_X1_23 rfl (ty := .int) (by decide +kernel) ⟨rfl, rfl⟩ rfl hs hd k
theorem fl_X1_29 : cp_lk RX1 29 TX1 2 := cp_TG_in (i := 175) (by decide +kernel) (by decide +kernel)
theorem fg_X1_29 (O : cp_Ok x E RX1 bc nL d mc ms) {a y : Nat} (hs : sh a = (2, 0)) (hr : R a 2 = some y) (hd : decode bc pc = .ok (.getfield 29, 3)) (k : cp_G x E nL cells slots cnt sh I R (pc + 3) L (.ref y :: st)) : cp_G x E nL cells slots cnt sh I R pc L (.ref a :: st) := cp_getr O cp_cX1 (j := 2) (by decide) fl_X1_29 rfl hs hr hd k
theorem fl_X1_34 : cp_lk RX1 34 TX1 3 := cp_TG_in (i := 176) (by decide +kernel) (by decide +kernel)
theorem fg_X1_34 (O : cp_Ok x E RX1 bc nL d mc ms) {a : Nat} (hs : sh a = (2, 0)) (hd : decode bc pc = .ok (.getfield 34, 3)) (k : cp_G x E nL cells slots cnt sh I R (pc + 3) L (.int (I a 3) :: st)) : cp_G x E nL cells slots cnt sh I R pc L (.ref a :: st) := cp_get O cp_cX1 (j := 3) (by decide) fl_X1_34 hs hd k
theorem fp_X1_34 (O : cp_Ok x E RX1 bc nL d mc ms) {a : Nat} {v : Int32} (hs : sh a = (2, 0)) (hd : decode bc pc = .ok (.putfield 34, 3)) (k : cp_G x E nL cells slots cnt sh (cp_wi I a 3 v) R (pc + 3) L st) : cp_G x E nL cells slots cnt sh I R pc L (.int v :: .ref a :: st) := cp_put O cp_cX1 (j := 3) (by decide) fl_X1_34 rfl (ty := .int) (by decide +kernel) ⟨rfl, rfl⟩ rfl hs hd k
theorem fl_X6_182 : cp_lk RX6 182 TX1 3 := cp_TG_in (i := 177) (by decide +kernel) (by decide +kernel)
theorem fg_X6_182 (O : cp_Ok x E RX6 bc nL d mc ms) {a : Nat} (hs : sh a = (2, 0)) (hd : decode bc pc = .ok (.getfield 182, 3)) (k : cp_G x E nL cells slots cnt sh I R (pc + 3) L (.int (I a 3) :: st)) : cp_G x E nL cells slots cnt sh I R pc L (.ref a :: st) := cp_get O cp_cX1 (j := 3) (by decide) fl_X6_182 hs hd k
theorem fp_X6_182 (O : cp_Ok x E RX6 bc nL d mc ms) {a : Nat} {v : Int32} (hs : sh a = (2, 0)) (hd : decode bc pc = .ok (.putfield 182, 3)) (k : cp_G x E nL cells slots cnt sh (cp_wi I a 3 v) R (pc + 3) L st) : cp_G x E nL cells slots cnt sh I R pc L (.int v :: .ref a :: st) := cp_put O cp_cX1 (j := 3) (by decide) fl_X6_182 rfl (ty := .int) (by decide +kernel) ⟨rfl, rfl⟩ rfl hs hd k
theorem fl_X1_39 : cp_lk RX1 39 TX1 4 := cp_TG_in (i := 178) (by decide +kernel) (by decide +kernel)
theorem fg_X1_39 (O : cp_Ok x E RX1 bc nL d mc ms) {a y : Nat} (hs : sh a = (2, 0)) (hr : R a 4 = some y) (hd : decode bc pc = .ok (.getfield 39, 3)) (k : cp_G x E nL cells slots cnt sh I R (pc + 3) L (.ref y :: st)) : cp_G x E nL cells slots cnt sh I R pc L (.ref a :: st) := cp_getr O cp_cX1 (j := 4) (by decide) fl_X1_39 rfl hs hr hd k
theorem fl_X1_44 : cp_lk RX1 44 TX1 5 := cp_TG_in (i := 179) (by decide +kernel) (by decide +kernel)
theorem fg_X1_44 (O : cp_Ok x E RX1 bc nL d mc ms) {a : Nat} (hs : sh a = (2, 0)) (hd : decode bc pc = .ok (.getfield 44, 3)) (k : cp_G x E nL cells slots cnt sh I R (pc + 3) L (.int (I a 5) :: st)) : cp_G x E nL cells slots cnt sh I R pc L (.ref a :: st) := cp_get O cp_cX1 (j := 5) (by decide) fl_X1_44 hs hd k
theorem fp_X1_44 (O : cp_Ok x E RX1 bc nL d mc ms) {a : Nat} {v : Int32} (hs : sh a = (2, 0)) (hd : decode bc pc = .ok (.putfield 44, 3)) (k : cp_G x E nL cells slots cnt sh (cp_wi I a 5 v) R (pc + 3) L st) : cp_G x E nL cells slots cnt sh I R pc L (.int v :: .ref a :: st) := cp_put O cp_cX1 (j := 5) (by decide) fl_X1_44 rfl (ty := .int) (by decide +kernel) ⟨rfl, rfl⟩ rfl hs hd k
theorem fl_X0_11 : cp_lk RX0 11 TX0 0 := cp_TG_in (i := 202) (by decide +kernel) (by decide +kernel)
theorem fg_X0_11 (O : cp_Ok x E RX0 bc nL d mc ms) {a y : Nat} (hs : sh a = (1, 0)) (hr : R a 0 = some y) (hd : decode bc pc = .ok (.getfield 11, 3)) (k : cp_G x E nL cells slots cnt sh I R (pc + 3) L (.ref y :: st)) : cp_G x E nL cells slots cnt sh I R pc L (.ref a :: st) := cp_getr O cp_cX0 (j := 0) (by decide) fl_X0_11 rfl hs hr hd k
theorem fl_X0_18 : cp_lk RX0 18 TX0 1 := cp_TG_in (i := 203) (by decide +kernel) (by decide +kernel)
theorem fg_X0_18 (O : cp_Ok x E RX0 bc nL d mc ms) {a : Nat} (hs : sh a = (1, 0)) (hd : decode bc pc = .ok (.getfield 18, 3)) (k : cp_G x E nL cells slots cnt sh I R (pc + 3) L (.int (I a 1) :: st)) : cp_G x E nL cells slots cnt sh I R pc L (.ref a :: st) := cp_get O cp_cX0 (j := 1) (by decide) fl_X0_18 hs hd k
theorem fp_X0_18 (O : cp_Ok x E RX0 bc nL d mc ms) {a : Nat} {v : Int32} (hs : sh a = (1, 0)) (hd : decode bc pc = .ok (.putfield 18, 3)) (k : cp_G x E nL cells slots cnt sh (cp_wi I a 1 v) R (pc + 3) L st) : cp_G x E nL cells slots cnt sh I R pc L (.int v :: .ref a :: st) := cp_put O cp_cX0 (j := 1) (by decide) fl_X0_18 rfl (ty := .int) (by decide +kernel) ⟨rfl, rfl⟩ rfl hs hd k
theorem fl_X0_22 : cp_lk RX0 22 TX0 2 := cp_TG_in (i := 204) (by decide +kernel) (by decide +kernel)
theorem fg_X0_22 (O : cp_Ok x E RX0 bc nL d mc ms) {a : Nat} (hs : sh a = (1, 0)) (hd : decode bc pc = .ok (.getfield 22, 3)) (k : cp_G x E nL cells slots cnt sh I R (pc + 3) L (.int (I a 2) :: st)) : cp_G x E nL cells slots cnt sh I R pc L (.ref a :: st) := cp_get O cp_cX0 (j := 2) (by decide) fl_X0_22 hs hd k
theorem fp_X0_22 (O : cp_Ok x E RX0 bc nL d mc ms) {a : Nat} {v : Int32} (hs : sh a = (1, 0)) (hd : decode bc pc = .ok (.putfield 22, 3)) (k : cp_G x E nL cells slots cnt sh (cp_wi I a 2 v) R (pc + 3) L st) : cp_G x E nL cells slots cnt sh I R pc L (.int v :: .ref a :: st) := cp_put O cp_cX0 (j := 2) (by decide) fl_X0_22 rfl (ty := .int) (by decide +kernel) ⟨rfl, rfl⟩ rfl hs hd k
theorem fl_X6_84 : cp_lk RX6 84 TX0 2 := cp_TG_in (i := 205) (by decide +kernel) (by decide +kernel)
theorem fg_X6_84 (O : cp_Ok x E RX6 bc nL d mc ms) {a : Nat} (hs : sh a = (1, 0)) (hd : decode bc pc = .ok (.getfield 84, 3)) (k : cp_G x E nL cells slots cnt sh I R (pc + 3) L (.int (I a 2) :: st)) : cp_G x E nL cells slots cnt sh I R pc L (.ref a :: st) := cp_get O cp_cX0 (j := 2) (by decide) fl_X6_84 hs hd k
theorem fp_X6_84 (O : cp_Ok x E RX6 bc nL d mc ms) {a : Nat} {v : Int32} (hs : sh a = (1, 0)) (hd : decode bc pc = .ok (.putfield 84, 3)) (k : cp_G x E nL cells slots cnt sh (cp_wi I a 2 v) R (pc + 3) L st) : cp_G x E nL cells slots cnt sh I R pc L (.int v :: .ref a :: st) := cp_put O cp_cX0 (j := 2) (by decide) fl_X6_84 rfl (ty := .int) (by decide +kernel) ⟨rfl, rfl⟩ rfl hs hd k
theorem fl_X3_9 : cp_lk RX3 9 TX3 0 := cp_TG_in (i := 219) (by decide +kernel) (by decide +kernel)
theorem fg_X3_9 (O : cp_Ok x E RX3 bc nL d mc ms) {a y : Nat} (hs : sh a = (4, 0)) (hr : R a 0 = some y) (hd : decode bc pc = .ok (.getfield 9, 3)) (k : cp_G x E nL cells slots cnt sh I R (pc + 3) L (.ref y :: st)) : cp_G x E nL cells slots cnt sh I R pc L (.ref a :: st) := cp_getr O cp_cX3 (j := 0) (by decide) fl_X3_9 rfl hs hr hd k
theorem fl_X3_15 : cp_lk RX3 15 TX3 1 := cp_TG_in (i := 220) (by decide +kernel) (by decide +kernel)
theorem fg_X3_15 (O : cp_Ok x E RX3 bc nL d mc ms) {a : Nat} (hs : sh a = (4, 0)) (hd : decode bc pc = .ok (.getfield 15, 3)) (k : cp_G x E nL cells slots cnt sh I R (pc + 3) L (.int (I a 1) :: st)) : cp_G x E nL cells slots cnt sh I R pc L (.ref a :: st) := cp_get O cp_cX3 (j := 1) (by decide) fl_X3_15 hs hd k
theorem fp_X3_15 (O : cp_Ok x E RX3 bc nL d mc ms) {a : Nat} {v : Int32} (hs : sh a = (4, 0)) (hd : decode bc pc = .ok (.putfield 15, 3)) (k : cp_G x E nL cells slots cnt sh (cp_wi I a 1 v) R (pc + 3) L st) : cp_G x E nL cells slots cnt sh I R pc L (.int v :: .ref a :: st) := cp_put O cp_cX3 (j := 1) (by decide) fl_X3_15 rfl (ty := .int) (by decide +kernel) ⟨rfl, rfl⟩ rfl hs hd k
theorem fl_X2_26 : cp_lk RX2 26 TX3 1 := cp_TG_in (i := 221) (by decide +kernel) (by decide +kernel)
theorem fg_X2_26 (O : cp_Ok x E RX2 bc nL d mc ms) {a : Nat} (hs : sh a = (4, 0)) (hd : decode bc pc = .ok (.getfield 26, 3)) (k : cp_G x E nL cells slots cnt sh I R (pc + 3) L (.int (I a 1) :: st)) : cp_G x E nL cells slots cnt sh I R pc L (.ref a :: st) := cp_get O cp_cX3 (j := 1) (by decide) fl_X2_26 hs hd k
theorem fp_X2_26 (O : cp_Ok x E RX2 bc nL d mc ms) {a : Nat} {v : Int32} (hs : sh a = (4, 0)) (hd : decode bc pc = .ok (.putfield 26, 3)) (k : cp_G x E nL cells slots cnt sh (cp_wi I a 1 v) R (pc + 3) L st) : cp_G x E nL cells slots cnt sh I R pc L (.int v :: .ref a :: st) := cp_put O cp_cX3 (j := 1) (by decide) fl_X2_26 rfl (ty := .int) (by decide +kernel) ⟨rfl, rfl⟩ rfl hs hd k
theorem fl_X6_80 : cp_lk RX6 80 TX3 1 := cp_TG_in (i := 222) (by decide +kernel) (by decide +kernel)
theorem fg_X6_80 (O : cp_Ok x E RX6 bc nL d mc ms) {a : Nat} (hs : sh a = (4, 0)) (hd : decode bc pc = .ok (.getfield 80, 3)) (k : cp_G x E nL cells slots cnt sh I R (pc + 3) L (.int (I a 1) :: st)) : cp_G x E nL cells slots cnt sh I R pc L (.ref a :: st) := cp_get O cp_cX3 (j := 1) (by decide) fl_X6_80 hs hd k
theorem fp_X6_80 (O : cp_Ok x E RX6 bc nL d mc ms) {a : Nat} {v : Int32} (hs : sh a = (4, 0)) (hd : decode bc pc = .ok (.putfield 80, 3)) (k : cp_G x E nL cells slots cnt sh (cp_wi I a 1 v) R (pc + 3) L st) : cp_G x E nL cells slots cnt sh I R pc L (.int v :: .ref a :: st) := cp_put O cp_cX3 (j := 1) (by decide) fl_X6_80 rfl (ty := .int) (by decide +kernel) ⟨rfl, rfl⟩ rfl hs hd k
theorem fl_X2_9 : cp_lk RX2 9 TX2 0 := cp_TG_in (i := 235) (by decide +kernel) (by decide +kernel)
theorem fg_X2_9 (O : cp_Ok x E RX2 bc nL d mc ms) {a y : Nat} (hs : sh a = (3, 0)) (hr : R a 0 = some y) (hd : decode bc pc = .ok (.getfield 9, 3)) (k : cp_G x E nL cells slots cnt sh I R (pc + 3) L (.ref y :: st)) : cp_G x E nL cells slots cnt sh I R pc L (.ref a :: st) := cp_getr O cp_cX2 (j := 0) (by decide) fl_X2_9 rfl hs hr hd k
theorem fl_X2_15 : cp_lk RX2 15 TX2 1 := cp_TG_in (i := 236) (by decide +kernel) (by decide +kernel)
theorem fg_X2_15 (O : cp_Ok x E RX2 bc nL d mc ms) {a : Nat} (hs : sh a = (3, 0)) (hd : decode bc pc = .ok (.getfield 15, 3)) (k : cp_G x E nL cells slots cnt sh I R (pc + 3) L (.int (I a 1) :: st)) : cp_G x E nL cells slots cnt sh I R pc L (.ref a :: st) := cp_get O cp_cX2 (j := 1) (by decide) fl_X2_15 hs hd k
theorem fp_X2_15 (O : cp_Ok x E RX2 bc nL d mc ms) {a : Nat} {v : Int32} (hs : sh a = (3, 0)) (hd : decode bc pc = .ok (.putfield 15, 3)) (k : cp_G x E nL cells slots cnt sh (cp_wi I a 1 v) R (pc + 3) L st) : cp_G x E nL cells slots cnt sh I R pc L (.int v :: .ref a :: st) := cp_put O cp_cX2 (j := 1) (by decide) fl_X2_15 rfl (ty := .int) (by decide +kernel) ⟨rfl, rfl⟩ rfl hs hd k
theorem fl_X2_39 : cp_lk RX2 39 TX2 2 := cp_TG_in (i := 237) (by decide +kernel) (by decide +kernel)
theorem fg_X2_39 (O : cp_Ok x E RX2 bc nL d mc ms) {a : Nat} (hs : sh a = (3, 0)) (hd : decode bc pc = .ok (.getfield 39, 3)) (k : cp_G x E nL cells slots cnt sh I R (pc + 3) L (.int (I a 2) :: st)) : cp_G x E nL cells slots cnt sh I R pc L (.ref a :: st) := cp_get O cp_cX2 (j := 2) (by decide) fl_X2_39 hs hd k
theorem fp_X2_39 (O : cp_Ok x E RX2 bc nL d mc ms) {a : Nat} {v : Int32} (hs : sh a = (3, 0)) {q0 : Nat} (hv : v = nI q0) (hq0 : q0 < 65536) (hd : decode bc pc = .ok (.putfield 39, 3)) (k : cp_G x E nL cells slots cnt sh (cp_wi I a 2 v) R (pc + 3) L st) : cp_G x E nL cells slots cnt sh I R pc L (.int v :: .ref a :: st) := cp_put O cp_cX2 (j := 2) (by decide) fl_X2_39 rfl (ty := .char) (by decide +kernel) (by rw [hv]; exact pk_charN hq0) rfl hs hd k
theorem fl_X6_163 : cp_lk RX6 163 TX2 2 := cp_TG_in (i := 238) (by decide +kernel) (by decide +kernel)
theorem fg_X6_163 (O : cp_Ok x E RX6 bc nL d mc ms) {a : Nat} (hs : sh a = (3, 0)) (hd : decode bc pc = .ok (.getfield 163, 3)) (k : cp_G x E nL cells slots cnt sh I R (pc + 3) L (.int (I a 2) :: st)) : cp_G x E nL cells slots cnt sh I R pc L (.ref a :: st) := cp_get O cp_cX2 (j := 2) (by decide) fl_X6_163 hs hd k
theorem fp_X6_163 (O : cp_Ok x E RX6 bc nL d mc ms) {a : Nat} {v : Int32} (hs : sh a = (3, 0)) {q0 : Nat} (hv : v = nI q0) (hq0 : q0 < 65536) (hd : decode bc pc = .ok (.putfield 163, 3)) (k : cp_G x E nL cells slots cnt sh (cp_wi I a 2 v) R (pc + 3) L st) : cp_G x E nL cells slots cnt sh I R pc L (.int v :: .ref a :: st) := cp_put O cp_cX2 (j := 2) (by decide) fl_X6_163 rfl (ty := .char) (by decide +kernel) (by rw [hv]; exact pk_charN hq0) rfl hs hd k
theorem fl_X2_66 : cp_lk RX2 66 TX2 3 := cp_TG_in (i := 239) (by decide +kernel) (by decide +kernel)
theorem fg_X2_66 (O : cp_Ok x E RX2 bc nL d mc ms) {a : Nat} (hs : sh a = (3, 0)) (hd : decode bc pc = .ok (.getfield 66, 3)) (k : cp_G x E nL cells slots cnt sh I R (pc + 3) L (.int (I a 3) :: st)) : cp_G x E nL cells slots cnt sh I R pc L (.ref a :: st) := cp_get O cp_cX2 (j := 3) (by decide) fl_X2_66 hs hd k
theorem fp_X2_66 (O : cp_Ok x E RX2 bc nL d mc ms) {a : Nat} {v : Int32} (hs : sh a = (3, 0)) (hd : decode bc pc = .ok (.putfield 66, 3)) (k : cp_G x E nL cells slots cnt sh (cp_wi I a 3 v) R (pc + 3) L st) : cp_G x E nL cells slots cnt sh I R pc L (.int v :: .ref a :: st) := cp_put O cp_cX2 (j := 3) (by decide) fl_X2_66 rfl (ty := .int) (by decide +kernel) ⟨rfl, rfl⟩ rfl hs hd k
theorem fl_X6_170 : cp_lk RX6 170 TX2 3 := cp_TG_in (i := 240) (by decide +kernel) (by decide +kernel)
theorem fg_X6_170 (O : cp_Ok x E RX6 bc nL d mc ms) {a : Nat} (hs : sh a = (3, 0)) (hd : decode bc pc = .ok (.getfield 170, 3)) (k : cp_G x E nL cells slots cnt sh I R (pc + 3) L (.int (I a 3) :: st)) : cp_G x E nL cells slots cnt sh I R pc L (.ref a :: st) := cp_get O cp_cX2 (j := 3) (by decide) fl_X6_170 hs hd k
theorem fp_X6_170 (O : cp_Ok x E RX6 bc nL d mc ms) {a : Nat} {v : Int32} (hs : sh a = (3, 0)) (hd : decode bc pc = .ok (.putfield 170, 3)) (k : cp_G x E nL cells slots cnt sh (cp_wi I a 3 v) R (pc + 3) L st) : cp_G x E nL cells slots cnt sh I R pc L (.int v :: .ref a :: st) := cp_put O cp_cX2 (j := 3) (by decide) fl_X6_170 rfl (ty := .int) (by decide +kernel) ⟨rfl, rfl⟩ rfl hs hd k
theorem fl_X2_53 : cp_lk RX2 53 TX2 4 := cp_TG_in (i := 241) (by decide +kernel) (by decide +kernel)
theorem fg_X2_53 (O : cp_Ok x E RX2 bc nL d mc ms) {a : Nat} (hs : sh a = (3, 0)) (hd : decode bc pc = .ok (.getfield 53, 3)) (k : cp_G x E nL cells slots cnt sh I R (pc + 3) L (.int (I a 4) :: st)) : cp_G x E nL cells slots cnt sh I R pc L (.ref a :: st) := cp_get O cp_cX2 (j := 4) (by decide) fl_X2_53 hs hd k
theorem fp_X2_53 (O : cp_Ok x E RX2 bc nL d mc ms) {a : Nat} {v : Int32} (hs : sh a = (3, 0)) (hd : decode bc pc = .ok (.putfield 53, 3)) (k : cp_G x E nL cells slots cnt sh (cp_wi I a 4 v) R (pc + 3) L st) : cp_G x E nL cells slots cnt sh I R pc L (.int v :: .ref a :: st) := cp_put O cp_cX2 (j := 4) (by decide) fl_X2_53 rfl (ty := .int) (by decide +kernel) ⟨rfl, rfl⟩ rfl hs hd k
theorem fl_X6_167 : cp_lk RX6 167 TX2 4 := cp_TG_in (i := 242) (by decide +kernel) (by decide +kernel)
theorem fg_X6_167 (O : cp_Ok x E RX6 bc nL d mc ms) {a : Nat} (hs : sh a = (3, 0)) (hd : decode bc pc = .ok (.getfield 167, 3)) (k : cp_G x E nL cells slots cnt sh I R (pc + 3) L (.int (I a 4) :: st)) : cp_G x E nL cells slots cnt sh I R pc L (.ref a :: st) := cp_get O cp_cX2 (j := 4) (by decide) fl_X6_167 hs hd k
theorem fp_X6_167 (O : cp_Ok x E RX6 bc nL d mc ms) {a : Nat} {v : Int32} (hs : sh a = (3, 0)) (hd : decode bc pc = .ok (.putfield 167, 3)) (k : cp_G x E nL cells slots cnt sh (cp_wi I a 4 v) R (pc + 3) L st) : cp_G x E nL cells slots cnt sh I R pc L (.int v :: .ref a :: st) := cp_put O cp_cX2 (j := 4) (by decide) fl_X6_167 rfl (ty := .int) (by decide +kernel) ⟨rfl, rfl⟩ rfl hs hd k
theorem fl_X2_56 : cp_lk RX2 56 TX2 5 := cp_TG_in (i := 243) (by decide +kernel) (by decide +kernel)
theorem fg_X2_56 (O : cp_Ok x E RX2 bc nL d mc ms) {a : Nat} (hs : sh a = (3, 0)) (hd : decode bc pc = .ok (.getfield 56, 3)) (k : cp_G x E nL cells slots cnt sh I R (pc + 3) L (.int (I a 5) :: st)) : cp_G x E nL cells slots cnt sh I R pc L (.ref a :: st) := cp_get O cp_cX2 (j := 5) (by decide) fl_X2_56 hs hd k
theorem fp_X2_56 (O : cp_Ok x E RX2 bc nL d mc ms) {a : Nat} {v : Int32} (hs : sh a = (3, 0)) (hd : decode bc pc = .ok (.putfield 56, 3)) (k : cp_G x E nL cells slots cnt sh (cp_wi I a 5 v) R (pc + 3) L st) : cp_G x E nL cells slots cnt sh I R pc L (.int v :: .ref a :: st) := cp_put O cp_cX2 (j := 5) (by decide) fl_X2_56 rfl (ty := .int) (by decide +kernel) ⟨rfl, rfl⟩ rfl hs hd k
theorem fl_X6_173 : cp_lk RX6 173 TX2 5 := cp_TG_in (i := 244) (by decide +kernel) (by decide +kernel)
theorem fg_X6_173 (O : cp_Ok x E RX6 bc nL d mc ms) {a : Nat} (hs : sh a = (3, 0)) (hd : decode bc pc = .ok (.getfield 173, 3)) (k : cp_G x E nL cells slots cnt sh I R (pc + 3) L (.int (I a 5) :: st)) : cp_G x E nL cells slots cnt sh I R pc L (.ref a :: st) := cp_get O cp_cX2 (j := 5) (by decide) fl_X6_173 hs hd k
theorem fp_X6_173 (O : cp_Ok x E RX6 bc nL d mc ms) {a : Nat} {v : Int32} (hs : sh a = (3, 0)) (hd : decode bc pc = .ok (.putfield 173, 3)) (k : cp_G x E nL cells slots cnt sh (cp_wi I a 5 v) R (pc + 3) L st) : cp_G x E nL cells slots cnt sh I R pc L (.int v :: .ref a :: st) := cp_put O cp_cX2 (j := 5) (by decide) fl_X6_173 rfl (ty := .int) (by decide +kernel) ⟨rfl, rfl⟩ rfl hs hd k
theorem fl_X2_63 : cp_lk RX2 63 TX2 6 := cp_TG_in (i := 245) (by decide +kernel) (by decide +kernel)
theorem fg_X2_63 (O : cp_Ok x E RX2 bc nL d mc ms) {a : Nat} (hs : sh a = (3, 0)) (hd : decode bc pc = .ok (.getfield 63, 3)) (k : cp_G x E nL cells slots cnt sh I R (pc + 3) L (.int (I a 6) :: st)) : cp_G x E nL cells slots cnt sh I R pc L (.ref a :: st) := cp_get O cp_cX2 (j := 6) (by decide) fl_X2_63 hs hd k
theorem fp_X2_63 (O : cp_Ok x E RX2 bc nL d mc ms) {a : Nat} {v : Int32} (hs : sh a = (3, 0)) (hd : decode bc pc = .ok (.putfield 63, 3)) (k : cp_G x E nL cells slots cnt sh (cp_wi I a 6 v) R (pc + 3) L st) : cp_G x E nL cells slots cnt sh I R pc L (.int v :: .ref a :: st) := cp_put O cp_cX2 (j := 6) (by decide) fl_X2_63 rfl (ty := .int) (by decide +kernel) ⟨rfl, rfl⟩ rfl hs hd k
theorem fl_X6_176 : cp_lk RX6 176 TX2 6 := cp_TG_in (i := 246) (by decide +kernel) (by decide +kernel)
theorem fg_X6_176 (O : cp_Ok x E RX6 bc nL d mc ms) {a : Nat} (hs : sh a = (3, 0)) (hd : decode bc pc = .ok (.getfield 176, 3)) (k : cp_G x E nL cells slots cnt sh I R (pc + 3) L (.int (I a 6) :: st)) : cp_G x E nL cells slots cnt sh I R pc L (.ref a :: st) := cp_get O cp_cX2 (j := 6) (by decide) fl_X6_176 hs hd k
theorem fp_X6_176 (O : cp_Ok x E RX6 bc nL d mc ms) {a : Nat} {v : Int32} (hs : sh a = (3, 0)) (hd : decode bc pc = .ok (.putfield 176, 3)) (k : cp_G x E nL cells slots cnt sh (cp_wi I a 6 v) R (pc + 3) L st) : cp_G x E nL cells slots cnt sh I R pc L (.int v :: .ref a :: st) := cp_put O cp_cX2 (j := 6) (by decide) fl_X6_176 rfl (ty := .int) (by decide +kernel) ⟨rfl, rfl⟩ rfl hs hd k
theorem fl_X6_10 : cp_lk RX6 10 TX6 0 := cp_TG_in (i := 262) (by decide +kernel) (by decide +kernel)
theorem fg_X6_10 (O : cp_Ok x E RX6 bc nL d mc ms) {a y : Nat} (hs : sh a = (7, 0)) (hr : R a 0 = some y) (hd : decode bc pc = .ok (.getfield 10, 3)) (k : cp_G x E nL cells slots cnt sh I R (pc + 3) L (.ref y :: st)) : cp_G x E nL cells slots cnt sh I R pc L (.ref a :: st) := cp_getr O cp_cX6 (j := 0) (by decide) fl_X6_10 rfl hs hr hd k
theorem fl_X6_16 : cp_lk RX6 16 TX6 1 := cp_TG_in (i := 263) (by decide +kernel) (by decide +kernel)
theorem fg_X6_16 (O : cp_Ok x E RX6 bc nL d mc ms) {a y : Nat} (hs : sh a = (7, 0)) (hr : R a 1 = some y) (hd : decode bc pc = .ok (.getfield 16, 3)) (k : cp_G x E nL cells slots cnt sh I R (pc + 3) L (.ref y :: st)) : cp_G x E nL cells slots cnt sh I R pc L (.ref a :: st) := cp_getr O cp_cX6 (j := 1) (by decide) fl_X6_16 rfl hs hr hd k
theorem fl_X6_22 : cp_lk RX6 22 TX6 2 := cp_TG_in (i := 264) (by decide +kernel) (by decide +kernel)
theorem fg_X6_22 (O : cp_Ok x E RX6 bc nL d mc ms) {a y : Nat} (hs : sh a = (7, 0)) (hr : R a 2 = some y) (hd : decode bc pc = .ok (.getfield 22, 3)) (k : cp_G x E nL cells slots cnt sh I R (pc + 3) L (.ref y :: st)) : cp_G x E nL cells slots cnt sh I R pc L (.ref a :: st) := cp_getr O cp_cX6 (j := 2) (by decide) fl_X6_22 rfl hs hr hd k
theorem fl_X6_26 : cp_lk RX6 26 TX6 3 := cp_TG_in (i := 265) (by decide +kernel) (by decide +kernel)
theorem fg_X6_26 (O : cp_Ok x E RX6 bc nL d mc ms) {a y : Nat} (hs : sh a = (7, 0)) (hr : R a 3 = some y) (hd : decode bc pc = .ok (.getfield 26, 3)) (k : cp_G x E nL cells slots cnt sh I R (pc + 3) L (.ref y :: st)) : cp_G x E nL cells slots cnt sh I R pc L (.ref a :: st) := cp_getr O cp_cX6 (j := 3) (by decide) fl_X6_26 rfl hs hr hd k
theorem fl_X6_33 : cp_lk RX6 33 TX6 4 := cp_TG_in (i := 266) (by decide +kernel) (by decide +kernel)
theorem fg_X6_33 (O : cp_Ok x E RX6 bc nL d mc ms) {a y : Nat} (hs : sh a = (7, 0)) (hr : R a 4 = some y) (hd : decode bc pc = .ok (.getfield 33, 3)) (k : cp_G x E nL cells slots cnt sh I R (pc + 3) L (.ref y :: st)) : cp_G x E nL cells slots cnt sh I R pc L (.ref a :: st) := cp_getr O cp_cX6 (j := 4) (by decide) fl_X6_33 rfl hs hr hd k
theorem fl_X6_42 : cp_lk RX6 42 TX6 5 := cp_TG_in (i := 267) (by decide +kernel) (by decide +kernel)
theorem fg_X6_42 (O : cp_Ok x E RX6 bc nL d mc ms) {a y : Nat} (hs : sh a = (7, 0)) (hr : R a 5 = some y) (hd : decode bc pc = .ok (.getfield 42, 3)) (k : cp_G x E nL cells slots cnt sh I R (pc + 3) L (.ref y :: st)) : cp_G x E nL cells slots cnt sh I R pc L (.ref a :: st) := cp_getr O cp_cX6 (j := 5) (by decide) fl_X6_42 rfl hs hr hd k
theorem fs_X1_67 (O : cp_Ok x E RX1 bc nL d mc ms) (hd : decode bc pc = .ok (.getstatic 67, 3)) (k : cp_G x E nL cells slots cnt sh I R (pc + 3) L (.ref (cp_ts E 1) :: st)) : cp_G x E nL cells slots cnt sh I R pc L st := cp_getsN O (by decide) (by decide +kernel) hd k
theorem fs_X1_70 (O : cp_Ok x E RX1 bc nL d mc ms) (hd : decode bc pc = .ok (.getstatic 70, 3)) (k : cp_G x E nL cells slots cnt sh I R (pc + 3) L (.ref (cp_ts E 2) :: st)) : cp_G x E nL cells slots cnt sh I R pc L st := cp_getsN O (by decide) (by decide +kernel) hd k
theorem fs_X6_125 (O : cp_Ok x E RX6 bc nL d mc ms) (hd : decode bc pc = .ok (.getstatic 125, 3)) (k : cp_G x E nL cells slots cnt sh I R (pc + 3) L (.ref (cp_ts E 2) :: st)) : cp_G x E nL cells slots cnt sh I R pc L st := cp_gets (q := 2) O (by decide) (cp_TG_in (i := 565) (by decide +kernel) (by decide +kernel)) hd k
theorem fs_X6_129 (O : cp_Ok x E RX6 bc nL d mc ms) (hd : decode bc pc = .ok (.getstatic 129, 3)) (k : cp_G x E nL cells slots cnt sh I R (pc + 3) L (.ref (cp_ts E 1) :: st)) : cp_G x E nL cells slots cnt sh I R pc L st := cp_gets (q := 1) O (by decide) (cp_TG_in (i := 566) (by decide +kernel) (by decide +kernel)) hd k
theorem fl_X7_7 : cp_lk RX7 7 TX7 0 := cp_TG_in (i := 666) (by decide +kernel) (by decide +kernel)
theorem fg_X7_7 (O : cp_Ok x E RX7 bc nL d mc ms) {a y : Nat} (hs : sh a = (8, 0)) (hr : R a 0 = some y) (hd : decode bc pc = .ok (.getfield 7, 3)) (k : cp_G x E nL cells slots cnt sh I R (pc + 3) L (.ref y :: st)) : cp_G x E nL cells slots cnt sh I R pc L (.ref a :: st) := cp_getr O cp_cX7 (j := 0) (by decide) fl_X7_7 rfl hs hr hd k
theorem fl_X7_13 : cp_lk RX7 13 TX7 1 := cp_TG_in (i := 667) (by decide +kernel) (by decide +kernel)
theorem fg_X7_13 (O : cp_Ok x E RX7 bc nL d mc ms) {a y : Nat} (hs : sh a = (8, 0)) (hr : R a 1 = some y) (hd : decode bc pc = .ok (.getfield 13, 3)) (k : cp_G x E nL cells slots cnt sh I R (pc + 3) L (.ref y :: st)) : cp_G x E nL cells slots cnt sh I R pc L (.ref a :: st) := cp_getr O cp_cX7 (j := 1) (by decide) fl_X7_13 rfl hs hr hd k
theorem fl_X7_16 : cp_lk RX7 16 TX7 2 := cp_TG_in (i := 668) (by decide +kernel) (by decide +kernel)
theorem fg_X7_16 (O : cp_Ok x E RX7 bc nL d mc ms) {a y : Nat} (hs : sh a = (8, 0)) (hr : R a 2 = some y) (hd : decode bc pc = .ok (.getfield 16, 3)) (k : cp_G x E nL cells slots cnt sh I R (pc + 3) L (.ref y :: st)) : cp_G x E nL cells slots cnt sh I R pc L (.ref a :: st) := cp_getr O cp_cX7 (j := 2) (by decide) fl_X7_16 rfl hs hr hd k
theorem fl_X7_19 : cp_lk RX7 19 TX7 3 := cp_TG_in (i := 669) (by decide +kernel) (by decide +kernel)
theorem fg_X7_19 (O : cp_Ok x E RX7 bc nL d mc ms) {a y : Nat} (hs : sh a = (8, 0)) (hr : R a 3 = some y) (hd : decode bc pc = .ok (.getfield 19, 3)) (k : cp_G x E nL cells slots cnt sh I R (pc + 3) L (.ref y :: st)) : cp_G x E nL cells slots cnt sh I R pc L (.ref a :: st) := cp_getr O cp_cX7 (j := 3) (by decide) fl_X7_19 rfl hs hr hd k
theorem fl_X7_31 : cp_lk RX7 31 TX7 4 := cp_TG_in (i := 670) (by decide +kernel) (by decide +kernel)
theorem fg_X7_31 (O : cp_Ok x E RX7 bc nL d mc ms) {a : Nat} (hs : sh a = (8, 0)) (hd : decode bc pc = .ok (.getfield 31, 3)) (k : cp_G x E nL cells slots cnt sh I R (pc + 3) L (.int (I a 4) :: st)) : cp_G x E nL cells slots cnt sh I R pc L (.ref a :: st) := cp_get O cp_cX7 (j := 4) (by decide) fl_X7_31 hs hd k
theorem fp_X7_31 (O : cp_Ok x E RX7 bc nL d mc ms) {a : Nat} {v : Int32} (hs : sh a = (8, 0)) (hd : decode bc pc = .ok (.putfield 31, 3)) (k : cp_G x E nL cells slots cnt sh (cp_wi I a 4 v) R (pc + 3) L st) : cp_G x E nL cells slots cnt sh I R pc L (.int v :: .ref a :: st) := cp_put O cp_cX7 (j := 4) (by decide) fl_X7_31 rfl (ty := .int) (by decide +kernel) ⟨rfl, rfl⟩ rfl hs hd k
theorem fl_X7_22 : cp_lk RX7 22 TX7 5 := cp_TG_in (i := 671) (by decide +kernel) (by decide +kernel)
theorem fg_X7_22 (O : cp_Ok x E RX7 bc nL d mc ms) {a y : Nat} (hs : sh a = (8, 0)) (hr : R a 5 = some y) (hd : decode bc pc = .ok (.getfield 22, 3)) (k : cp_G x E nL cells slots cnt sh I R (pc + 3) L (.ref y :: st)) : cp_G x E nL cells slots cnt sh I R pc L (.ref a :: st) := cp_getr O cp_cX7 (j := 5) (by decide) fl_X7_22 rfl hs hr hd k
theorem fl_X7_25 : cp_lk RX7 25 TX7 6 := cp_TG_in (i := 672) (by decide +kernel) (by decide +kernel)
theorem fg_X7_25 (O : cp_Ok x E RX7 bc nL d mc ms) {a y : Nat} (hs : sh a = (8, 0)) (hr : R a 6 = some y) (hd : decode bc pc = .ok (.getfield 25, 3)) (k : cp_G x E nL cells slots cnt sh I R (pc + 3) L (.ref y :: st)) : cp_G x E nL cells slots cnt sh I R pc L (.ref a :: st) := cp_getr O cp_cX7 (j := 6) (by decide) fl_X7_25 rfl hs hr hd k
theorem fl_X7_76 : cp_lk RX7 76 TX7 7 := cp_TG_in (i := 673) (by decide +kernel) (by decide +kernel)
theorem fg_X7_76 (O : cp_Ok x E RX7 bc nL d mc ms) {a : Nat} (hs : sh a = (8, 0)) (hd : decode bc pc = .ok (.getfield 76, 3)) (k : cp_G x E nL cells slots cnt sh I R (pc + 3) L (.int (I a 7) :: st)) : cp_G x E nL cells slots cnt sh I R pc L (.ref a :: st) := cp_get O cp_cX7 (j := 7) (by decide) fl_X7_76 hs hd k
theorem fp_X7_76 (O : cp_Ok x E RX7 bc nL d mc ms) {a : Nat} {v : Int32} (hs : sh a = (8, 0)) (hd : decode bc pc = .ok (.putfield 76, 3)) (k : cp_G x E nL cells slots cnt sh (cp_wi I a 7 v) R (pc + 3) L st) : cp_G x E nL cells slots cnt sh I R pc L (.int v :: .ref a :: st) := cp_put O cp_cX7 (j := 7) (by decide) fl_X7_76 rfl (ty := .int) (by decide +kernel) ⟨rfl, rfl⟩ rfl hs hd k
theorem fl_X7_79 : cp_lk RX7 79 TX7 8 := cp_TG_in (i := 674) (by decide +kernel) (by decide +kernel)
theorem fg_X7_79 (O : cp_Ok x E RX7 bc nL d mc ms) {a : Nat} (hs : sh a = (8, 0)) (hd : decode bc pc = .ok (.getfield 79, 3)) (k : cp_G x E nL cells slots cnt sh I R (pc + 3) L (.int (I a 8) :: st)) : cp_G x E nL cells slots cnt sh I R pc L (.ref a :: st) := cp_get O cp_cX7 (j := 8) (by decide) fl_X7_79 hs hd k
theorem fp_X7_79 (O : cp_Ok x E RX7 bc nL d mc ms) {a : Nat} {v : Int32} (hs : sh a = (8, 0)) (hd : decode bc pc = .ok (.putfield 79, 3)) (k : cp_G x E nL cells slots cnt sh (cp_wi I a 8 v) R (pc + 3) L st) : cp_G x E nL cells slots cnt sh I R pc L (.int v :: .ref a :: st) := cp_put O cp_cX7 (j := 8) (by decide) fl_X7_79 rfl (ty := .int) (by decide +kernel) ⟨rfl, rfl⟩ rfl hs hd k
theorem fl_X7_28 : cp_lk RX7 28 TX7 9 := cp_TG_in (i := 675) (by decide +kernel) (by decide +kernel)
theorem fg_X7_28 (O : cp_Ok x E RX7 bc nL d mc ms) {a y : Nat} (hs : sh a = (8, 0)) (hr : R a 9 = some y) (hd : decode bc pc = .ok (.getfield 28, 3)) (k : cp_G x E nL cells slots cnt sh I R (pc + 3) L (.ref y :: st)) : cp_G x E nL cells slots cnt sh I R pc L (.ref a :: st) := cp_getr O cp_cX7 (j := 9) (by decide) fl_X7_28 rfl hs hr hd k
theorem fl_X7_183 : cp_lk RX7 183 TX7 10 := cp_TG_in (i := 676) (by decide +kernel) (by decide +kernel)
theorem fg_X7_183 (O : cp_Ok x E RX7 bc nL d mc ms) {a : Nat} (hs : sh a = (8, 0)) (hd : decode bc pc = .ok (.getfield 183, 3)) (k : cp_G x E nL cells slots cnt sh I R (pc + 3) L (.int (I a 10) :: st)) : cp_G x E nL cells slots cnt sh I R pc L (.ref a :: st) := cp_get O cp_cX7 (j := 10) (by decide) fl_X7_183 hs hd k
theorem fp_X7_183 (O : cp_Ok x E RX7 bc nL d mc ms) {a : Nat} {v : Int32} (hs : sh a = (8, 0)) (hd : decode bc pc = .ok (.putfield 183, 3)) (k : cp_G x E nL cells slots cnt sh (cp_wi I a 10 v) R (pc + 3) L st) : cp_G x E nL cells slots cnt sh I R pc L (.int v :: .ref a :: st) := cp_put O cp_cX7 (j := 10) (by decide) fl_X7_183 rfl (ty := .int) (by decide +kernel) ⟨rfl, rfl⟩ rfl hs hd k
theorem fl_X7_201 : cp_lk RX7 201 TX7 11 := cp_TG_in (i := 677) (by decide +kernel) (by decide +kernel)
theorem fg_X7_201 (O : cp_Ok x E RX7 bc nL d mc ms) {a : Nat} (hs : sh a = (8, 0)) (hd : decode bc pc = .ok (.getfield 201, 3)) (k : cp_G x E nL cells slots cnt sh I R (pc + 3) L (.int (I a 11) :: st)) : cp_G x E nL cells slots cnt sh I R pc L (.ref a :: st) := cp_get O cp_cX7 (j := 11) (by decide) fl_X7_201 hs hd k
theorem fp_X7_201 (O : cp_Ok x E RX7 bc nL d mc ms) {a : Nat} {v : Int32} (hs : sh a = (8, 0)) (hd : decode bc pc = .ok (.putfield 201, 3)) (k : cp_G x E nL cells slots cnt sh (cp_wi I a 11 v) R (pc + 3) L st) : cp_G x E nL cells slots cnt sh I R pc L (.int v :: .ref a :: st) := cp_put O cp_cX7 (j := 11) (by decide) fl_X7_201 rfl (ty := .int) (by decide +kernel) ⟨rfl, rfl⟩ rfl hs hd k
theorem fl_X7_219 : cp_lk RX7 219 TX7 12 := cp_TG_in (i := 678) (by decide +kernel) (by decide +kernel)
theorem fg_X7_219 (O : cp_Ok x E RX7 bc nL d mc ms) {a : Nat} (hs : sh a = (8, 0)) (hd : decode bc pc = .ok (.getfield 219, 3)) (k : cp_G x E nL cells slots cnt sh I R (pc + 3) L (.int (I a 12) :: st)) : cp_G x E nL cells slots cnt sh I R pc L (.ref a :: st) := cp_get O cp_cX7 (j := 12) (by decide) fl_X7_219 hs hd k
theorem fp_X7_219 (O : cp_Ok x E RX7 bc nL d mc ms) {a : Nat} {v : Int32} (hs : sh a = (8, 0)) (hv : v = 0 ∨ v = 1) (hd : decode bc pc = .ok (.putfield 219, 3)) (k : cp_G x E nL cells slots cnt sh (cp_wi I a 12 v) R (pc + 3) L st) : cp_G x E nL cells slots cnt sh I R pc L (.int v :: .ref a :: st) := cp_put O cp_cX7 (j := 12) (by decide) fl_X7_219 rfl (ty := .boolean) (by decide +kernel) (cp_narb hv) rfl hs hd k
theorem fl_X7_223 : cp_lk RX7 223 TX7 13 := cp_TG_in (i := 679) (by decide +kernel) (by decide +kernel)
theorem fg_X7_223 (O : cp_Ok x E RX7 bc nL d mc ms) {a : Nat} (hs : sh a = (8, 0)) (hd : decode bc pc = .ok (.getfield 223, 3)) (k : cp_G x E nL cells slots cnt sh I R (pc + 3) L (.int (I a 13) :: st)) : cp_G x E nL cells slots cnt sh I R pc L (.ref a :: st) := cp_get O cp_cX7 (j := 13) (by decide) fl_X7_223 hs hd k
theorem fp_X7_223 (O : cp_Ok x E RX7 bc nL d mc ms) {a : Nat} {v : Int32} (hs : sh a = (8, 0)) (hd : decode bc pc = .ok (.putfield 223, 3)) (k : cp_G x E nL cells slots cnt sh (cp_wi I a 13 v) R (pc + 3) L st) : cp_G x E nL cells slots cnt sh I R pc L (.int v :: .ref a :: st) := cp_put O cp_cX7 (j := 13) (by decide) fl_X7_223 rfl (ty := .int) (by decide +kernel) ⟨rfl, rfl⟩ rfl hs hd k
theorem fl_X7_207 : cp_lk RX7 207 TX7 14 := cp_TG_in (i := 680) (by decide +kernel) (by decide +kernel)
theorem fg_X7_207 (O : cp_Ok x E RX7 bc nL d mc ms) {a : Nat} (hs : sh a = (8, 0)) (hd : decode bc pc = .ok (.getfield 207, 3)) (k : cp_G x E nL cells slots cnt sh I R (pc + 3) L (.int (I a 14) :: st)) : cp_G x E nL cells slots cnt sh I R pc L (.ref a :: st) := cp_get O cp_cX7 (j := 14) (by decide) fl_X7_207 hs hd k
theorem fp_X7_207 (O : cp_Ok x E RX7 bc nL d mc ms) {a : Nat} {v : Int32} (hs : sh a = (8, 0)) (hd : decode bc pc = .ok (.putfield 207, 3)) (k : cp_G x E nL cells slots cnt sh (cp_wi I a 14 v) R (pc + 3) L st) : cp_G x E nL cells slots cnt sh I R pc L (.int v :: .ref a :: st) := cp_put O cp_cX7 (j := 14) (by decide) fl_X7_207 rfl (ty := .int) (by decide +kernel) ⟨rfl, rfl⟩ rfl hs hd k
end CPF
