theorem cp_sub {big : List Cond} (ws : List Cond) (ps : List Nat) (hp : ws = ps.filterMap (fun i => big[i]?)) : ∀ w ∈ ws, w ∈ big := by
  intro w hw
  rw [hp] at hw
  obtain ⟨i, -, hi⟩ := List.mem_filterMap.mp hw
  exact List.mem_of_getElem? hi
theorem cp_inX0 : ∀ w ∈ wsX00, w ∈ cp_TG := fun w h => List.mem_filter.mpr ⟨cp_sub (big := lw_tbl) wsX00 [158, 160, 162] (by decide +kernel) w h, List.all_eq_true.mp (by decide +kernel : wsX00.all goodWord = true) w h⟩
theorem cp_cX0 : cp_clf 0 RX0 TX0 3 tyX0 := ⟨rfl, cp_inX0, tyX0_ok, nmX0, by decide, rfl⟩
theorem cp_inX1 : ∀ w ∈ wsX10, w ∈ cp_TG := fun w h => List.mem_filter.mpr ⟨cp_sub (big := lw_tbl) wsX10 [132, 134, 136, 138, 140, 142] (by decide +kernel) w h, List.all_eq_true.mp (by decide +kernel : wsX10.all goodWord = true) w h⟩
theorem cp_cX1 : cp_clf 1 RX1 TX1 6 tyX1 := ⟨rfl, cp_inX1, tyX1_ok, nmX1, by decide, rfl⟩
theorem cp_inX2 : ∀ w ∈ wsX20, w ∈ cp_TG := fun w h => List.mem_filter.mpr ⟨cp_sub (big := lw_tbl) wsX20 [187, 189, 191, 193, 195, 197, 199] (by decide +kernel) w h, List.all_eq_true.mp (by decide +kernel : wsX20.all goodWord = true) w h⟩
theorem cp_cX2 : cp_clf 2 RX2 TX2 7 tyX2 := ⟨rfl, cp_inX2, tyX2_ok, nmX2, by decide, rfl⟩
theorem cp_inX3 : ∀ w ∈ wsX30, w ∈ cp_TG := fun w h => List.mem_filter.mpr ⟨cp_sub (big := lw_tbl) wsX30 [174, 176] (by decide +kernel) w h, List.all_eq_true.mp (by decide +kernel : wsX30.all goodWord = true) w h⟩
theorem cp_cX3 : cp_clf 3 RX3 TX3 2 tyX3 := ⟨rfl, cp_inX3, tyX3_ok, nmX3, by decide, rfl⟩
theorem cp_inX4 : ∀ w ∈ wsX40, w ∈ cp_TG := fun w h => List.mem_filter.mpr ⟨cp_sub (big := lw_tbl) wsX40 [84, 86, 88, 90, 92, 94, 96, 98, 100, 102] (by decide +kernel) w h, List.all_eq_true.mp (by decide +kernel : wsX40.all goodWord = true) w h⟩
theorem cp_cX4 : cp_clf 4 RX4 TX4 10 tyX4 := ⟨rfl, cp_inX4, tyX4_ok, nmX4, by decide, rfl⟩
theorem cp_inX5 : ∀ w ∈ wsX50, w ∈ cp_TG := fun w h => List.mem_filter.mpr ⟨cp_sub (big := lw_tbl) wsX50 [119, 121, 123] (by decide +kernel) w h, List.all_eq_true.mp (by decide +kernel : wsX50.all goodWord = true) w h⟩
theorem cp_cX5 : cp_clf 5 RX5 TX5 3 tyX5 := ⟨rfl, cp_inX5, tyX5_ok, nmX5, by decide, rfl⟩
theorem cp_inX6 : ∀ w ∈ wsX60, w ∈ cp_TG := fun w h => List.mem_filter.mpr ⟨cp_sub (big := lw_tbl) wsX60 [208, 210, 212, 214, 216, 218] (by decide +kernel) w h, List.all_eq_true.mp (by decide +kernel : wsX60.all goodWord = true) w h⟩
theorem cp_cX6 : cp_clf 6 RX6 TX6 6 tyX6 := ⟨rfl, cp_inX6, tyX6_ok, nmX6, by decide, rfl⟩
theorem me_X0_init : cp_me yX0_init cX0_init 2 none 0 := ⟨cp_TG_in (i := 149) (by decide +kernel) (by decide +kernel), cp_TG_in (i := 29) (by decide +kernel) (by decide +kernel), by decide, by decide, by decide +kernel⟩
theorem me_X0_prepare : cp_me yX0_prepare cX0_prepare 2 none 1 := ⟨cp_TG_in (i := 270) (by decide +kernel) (by decide +kernel), cp_TG_in (i := 29) (by decide +kernel) (by decide +kernel), by decide, by decide, by decide +kernel⟩
theorem mi_X0_prepare : cp_mi yX0_prepare := ⟨cp_TG_in (i := 268) (by decide +kernel) (by decide +kernel), cp_TG_in (i := 269) (by decide +kernel) (by decide +kernel)⟩
theorem me_X0_recordUnlessError : cp_me yX0_recordUnlessError cX0_recordUnlessError 2 (some .int) 1 := ⟨cp_TG_in (i := 297) (by decide +kernel) (by decide +kernel), cp_TG_in (i := 29) (by decide +kernel) (by decide +kernel), by decide, by decide, by decide +kernel⟩
theorem mi_X0_recordUnlessError : cp_mi yX0_recordUnlessError := ⟨cp_TG_in (i := 295) (by decide +kernel) (by decide +kernel), cp_TG_in (i := 296) (by decide +kernel) (by decide +kernel)⟩
theorem me_X1_init : cp_me yX1_init cX1_init 2 none 0 := ⟨cp_TG_in (i := 46) (by decide +kernel) (by decide +kernel), cp_TG_in (i := 26) (by decide +kernel) (by decide +kernel), by decide, by decide, by decide +kernel⟩
theorem me_X1_copyFrom : cp_me yX1_copyFrom cX1_copyFrom 3 none 1 := ⟨cp_TG_in (i := 274) (by decide +kernel) (by decide +kernel), cp_TG_in (i := 26) (by decide +kernel) (by decide +kernel), by decide, by decide, by decide +kernel⟩
theorem mi_X1_copyFrom : cp_mi yX1_copyFrom := ⟨cp_TG_in (i := 272) (by decide +kernel) (by decide +kernel), cp_TG_in (i := 273) (by decide +kernel) (by decide +kernel)⟩
theorem me_X1_hasPiece : cp_me yX1_hasPiece cX1_hasPiece 2 (some .boolean) 1 := ⟨cp_TG_in (i := 376) (by decide +kernel) (by decide +kernel), cp_TG_in (i := 26) (by decide +kernel) (by decide +kernel), by decide, by decide, by decide +kernel⟩
theorem mi_X1_hasPiece : cp_mi yX1_hasPiece := ⟨cp_TG_in (i := 374) (by decide +kernel) (by decide +kernel), cp_TG_in (i := 375) (by decide +kernel) (by decide +kernel)⟩
theorem me_X1_isPiece : cp_me yX1_isPiece cX1_isPiece 3 (some .boolean) 2 := ⟨cp_TG_in (i := 526) (by decide +kernel) (by decide +kernel), cp_TG_in (i := 26) (by decide +kernel) (by decide +kernel), by decide, by decide, by decide +kernel⟩
theorem mi_X1_isPiece : cp_mi yX1_isPiece := ⟨cp_TG_in (i := 524) (by decide +kernel) (by decide +kernel), cp_TG_in (i := 525) (by decide +kernel) (by decide +kernel)⟩
theorem me_X1_changeSetting : cp_me yX1_changeSetting cX1_changeSetting 4 (some .int) 2 := ⟨cp_TG_in (i := 453) (by decide +kernel) (by decide +kernel), cp_TG_in (i := 26) (by decide +kernel) (by decide +kernel), by decide, by decide, by decide +kernel⟩
theorem mi_X1_changeSetting : cp_mi yX1_changeSetting := ⟨cp_TG_in (i := 451) (by decide +kernel) (by decide +kernel), cp_TG_in (i := 452) (by decide +kernel) (by decide +kernel)⟩
theorem me_X1_addPiece : cp_me yX1_addPiece cX1_addPiece 6 (some .int) 4 := ⟨cp_TG_in (i := 289) (by decide +kernel) (by decide +kernel), cp_TG_in (i := 26) (by decide +kernel) (by decide +kernel), by decide, by decide, by decide +kernel⟩
theorem mi_X1_addPiece : cp_mi yX1_addPiece := ⟨cp_TG_in (i := 287) (by decide +kernel) (by decide +kernel), cp_TG_in (i := 288) (by decide +kernel) (by decide +kernel)⟩
theorem me_X1_addPlate : cp_me yX1_addPlate cX1_addPlate 2 (some .int) 1 := ⟨cp_TG_in (i := 437) (by decide +kernel) (by decide +kernel), cp_TG_in (i := 26) (by decide +kernel) (by decide +kernel), by decide, by decide, by decide +kernel⟩
theorem mi_X1_addPlate : cp_mi yX1_addPlate := ⟨cp_TG_in (i := 435) (by decide +kernel) (by decide +kernel), cp_TG_in (i := 436) (by decide +kernel) (by decide +kernel)⟩
theorem me_X1_turnHold : cp_me yX1_turnHold cX1_turnHold 3 (some .int) 1 := ⟨cp_TG_in (i := 400) (by decide +kernel) (by decide +kernel), cp_TG_in (i := 26) (by decide +kernel) (by decide +kernel), by decide, by decide, by decide +kernel⟩
theorem mi_X1_turnHold : cp_mi yX1_turnHold := ⟨cp_TG_in (i := 398) (by decide +kernel) (by decide +kernel), cp_TG_in (i := 399) (by decide +kernel) (by decide +kernel)⟩
theorem me_X1_killPiece : cp_me yX1_killPiece cX1_killPiece 3 (some .int) 1 := ⟨cp_TG_in (i := 465) (by decide +kernel) (by decide +kernel), cp_TG_in (i := 26) (by decide +kernel) (by decide +kernel), by decide, by decide, by decide +kernel⟩
theorem mi_X1_killPiece : cp_mi yX1_killPiece := ⟨cp_TG_in (i := 463) (by decide +kernel) (by decide +kernel), cp_TG_in (i := 464) (by decide +kernel) (by decide +kernel)⟩
theorem me_X1_passMinutes : cp_me yX1_passMinutes cX1_passMinutes 4 (some .int) 1 := ⟨cp_TG_in (i := 308) (by decide +kernel) (by decide +kernel), cp_TG_in (i := 26) (by decide +kernel) (by decide +kernel), by decide, by decide, by decide +kernel⟩
theorem mi_X1_passMinutes : cp_mi yX1_passMinutes := ⟨cp_TG_in (i := 306) (by decide +kernel) (by decide +kernel), cp_TG_in (i := 307) (by decide +kernel) (by decide +kernel)⟩
theorem me_X1_passMinute : cp_me yX1_passMinute cX1_passMinute 2 (some .boolean) 0 := ⟨cp_TG_in (i := 312) (by decide +kernel) (by decide +kernel), cp_TG_in (i := 26) (by decide +kernel) (by decide +kernel), by decide, by decide, by decide +kernel⟩
theorem mi_X1_passMinute : cp_mi yX1_passMinute := ⟨cp_TG_in (i := 310) (by decide +kernel) (by decide +kernel), cp_TG_in (i := 311) (by decide +kernel) (by decide +kernel)⟩
theorem me_X1_editAtDesks : cp_me yX1_editAtDesks cX1_editAtDesks 4 none 0 := ⟨cp_TG_in (i := 316) (by decide +kernel) (by decide +kernel), cp_TG_in (i := 26) (by decide +kernel) (by decide +kernel), by decide, by decide, by decide +kernel⟩
theorem mi_X1_editAtDesks : cp_mi yX1_editAtDesks := ⟨cp_TG_in (i := 315) (by decide +kernel) (by decide +kernel), cp_TG_in (i := 5) (by decide +kernel) (by decide +kernel)⟩
theorem me_X1_readAtLawyer : cp_me yX1_readAtLawyer cX1_readAtLawyer 2 none 0 := ⟨cp_TG_in (i := 332) (by decide +kernel) (by decide +kernel), cp_TG_in (i := 26) (by decide +kernel) (by decide +kernel), by decide, by decide, by decide +kernel⟩
theorem mi_X1_readAtLawyer : cp_mi yX1_readAtLawyer := ⟨cp_TG_in (i := 331) (by decide +kernel) (by decide +kernel), cp_TG_in (i := 7) (by decide +kernel) (by decide +kernel)⟩
theorem me_X1_firstAtDesk : cp_me yX1_firstAtDesk cX1_firstAtDesk 3 (some .int) 1 := ⟨cp_TG_in (i := 513) (by decide +kernel) (by decide +kernel), cp_TG_in (i := 26) (by decide +kernel) (by decide +kernel), by decide, by decide, by decide +kernel⟩
theorem mi_X1_firstAtDesk : cp_mi yX1_firstAtDesk := ⟨cp_TG_in (i := 512) (by decide +kernel) (by decide +kernel), cp_TG_in (i := 22) (by decide +kernel) (by decide +kernel)⟩
theorem me_X1_firstAtLawyer : cp_me yX1_firstAtLawyer cX1_firstAtLawyer 3 (some .int) 0 := ⟨cp_TG_in (i := 336) (by decide +kernel) (by decide +kernel), cp_TG_in (i := 26) (by decide +kernel) (by decide +kernel), by decide, by decide, by decide +kernel⟩
theorem mi_X1_firstAtLawyer : cp_mi yX1_firstAtLawyer := ⟨cp_TG_in (i := 335) (by decide +kernel) (by decide +kernel), cp_TG_in (i := 8) (by decide +kernel) (by decide +kernel)⟩
theorem me_X1_placeInQueue : cp_me yX1_placeInQueue cX1_placeInQueue 2 (some .int) 1 := ⟨cp_TG_in (i := 380) (by decide +kernel) (by decide +kernel), cp_TG_in (i := 26) (by decide +kernel) (by decide +kernel), by decide, by decide, by decide +kernel⟩
theorem mi_X1_placeInQueue : cp_mi yX1_placeInQueue := ⟨cp_TG_in (i := 379) (by decide +kernel) (by decide +kernel), cp_TG_in (i := 12) (by decide +kernel) (by decide +kernel)⟩
theorem me_X1_placeAtDesk : cp_me yX1_placeAtDesk cX1_placeAtDesk 4 (some .int) 1 := ⟨cp_TG_in (i := 384) (by decide +kernel) (by decide +kernel), cp_TG_in (i := 26) (by decide +kernel) (by decide +kernel), by decide, by decide, by decide +kernel⟩
theorem mi_X1_placeAtDesk : cp_mi yX1_placeAtDesk := ⟨cp_TG_in (i := 383) (by decide +kernel) (by decide +kernel), cp_TG_in (i := 13) (by decide +kernel) (by decide +kernel)⟩
theorem me_X1_placeAtLawyer : cp_me yX1_placeAtLawyer cX1_placeAtLawyer 4 (some .int) 1 := ⟨cp_TG_in (i := 388) (by decide +kernel) (by decide +kernel), cp_TG_in (i := 26) (by decide +kernel) (by decide +kernel), by decide, by decide, by decide +kernel⟩
theorem mi_X1_placeAtLawyer : cp_mi yX1_placeAtLawyer := ⟨cp_TG_in (i := 387) (by decide +kernel) (by decide +kernel), cp_TG_in (i := 14) (by decide +kernel) (by decide +kernel)⟩
theorem me_X1_piecesForPlate : cp_me yX1_piecesForPlate cX1_piecesForPlate 3 (some .int) 0 := ⟨cp_TG_in (i := 352) (by decide +kernel) (by decide +kernel), cp_TG_in (i := 26) (by decide +kernel) (by decide +kernel), by decide, by decide, by decide +kernel⟩
theorem mi_X1_piecesForPlate : cp_mi yX1_piecesForPlate := ⟨cp_TG_in (i := 350) (by decide +kernel) (by decide +kernel), cp_TG_in (i := 351) (by decide +kernel) (by decide +kernel)⟩
theorem me_X1_linesOf : cp_me yX1_linesOf cX1_linesOf 4 (some .int) 1 := ⟨cp_TG_in (i := 425) (by decide +kernel) (by decide +kernel), cp_TG_in (i := 26) (by decide +kernel) (by decide +kernel), by decide, by decide, by decide +kernel⟩
theorem mi_X1_linesOf : cp_mi yX1_linesOf := ⟨cp_TG_in (i := 423) (by decide +kernel) (by decide +kernel), cp_TG_in (i := 424) (by decide +kernel) (by decide +kernel)⟩
theorem me_X1_takenNow : cp_me yX1_takenNow cX1_takenNow 6 (some .int) 0 := ⟨cp_TG_in (i := 348) (by decide +kernel) (by decide +kernel), cp_TG_in (i := 26) (by decide +kernel) (by decide +kernel), by decide, by decide, by decide +kernel⟩
theorem mi_X1_takenNow : cp_mi yX1_takenNow := ⟨cp_TG_in (i := 346) (by decide +kernel) (by decide +kernel), cp_TG_in (i := 347) (by decide +kernel) (by decide +kernel)⟩
theorem me_X1_firstByRank : cp_me yX1_firstByRank cX1_firstByRank 4 (some .int) 1 := ⟨cp_TG_in (i := 360) (by decide +kernel) (by decide +kernel), cp_TG_in (i := 26) (by decide +kernel) (by decide +kernel), by decide, by decide, by decide +kernel⟩
theorem mi_X1_firstByRank : cp_mi yX1_firstByRank := ⟨cp_TG_in (i := 359) (by decide +kernel) (by decide +kernel), cp_TG_in (i := 10) (by decide +kernel) (by decide +kernel)⟩
theorem me_X1_lastTakenAheadOf : cp_me yX1_lastTakenAheadOf cX1_lastTakenAheadOf 5 (some .int) 1 := ⟨cp_TG_in (i := 517) (by decide +kernel) (by decide +kernel), cp_TG_in (i := 26) (by decide +kernel) (by decide +kernel), by decide, by decide, by decide +kernel⟩
theorem mi_X1_lastTakenAheadOf : cp_mi yX1_lastTakenAheadOf := ⟨cp_TG_in (i := 516) (by decide +kernel) (by decide +kernel), cp_TG_in (i := 23) (by decide +kernel) (by decide +kernel)⟩
theorem me_X1_goesAhead : cp_me yX1_goesAhead cX1_goesAhead 5 (some .boolean) 2 := ⟨cp_TG_in (i := 364) (by decide +kernel) (by decide +kernel), cp_TG_in (i := 26) (by decide +kernel) (by decide +kernel), by decide, by decide, by decide +kernel⟩
theorem mi_X1_goesAhead : cp_mi yX1_goesAhead := ⟨cp_TG_in (i := 363) (by decide +kernel) (by decide +kernel), cp_TG_in (i := 11) (by decide +kernel) (by decide +kernel)⟩
theorem me_X1_whyNotOnPlate : cp_me yX1_whyNotOnPlate cX1_whyNotOnPlate 3 (some .int) 2 := ⟨cp_TG_in (i := 501) (by decide +kernel) (by decide +kernel), cp_TG_in (i := 26) (by decide +kernel) (by decide +kernel), by decide, by decide, by decide +kernel⟩
theorem mi_X1_whyNotOnPlate : cp_mi yX1_whyNotOnPlate := ⟨cp_TG_in (i := 499) (by decide +kernel) (by decide +kernel), cp_TG_in (i := 500) (by decide +kernel) (by decide +kernel)⟩
theorem me_X1_reasonOf : cp_me yX1_reasonOf cX1_reasonOf 3 (some .int) 1 := ⟨cp_TG_in (i := 505) (by decide +kernel) (by decide +kernel), cp_TG_in (i := 26) (by decide +kernel) (by decide +kernel), by decide, by decide, by decide +kernel⟩
theorem mi_X1_reasonOf : cp_mi yX1_reasonOf := ⟨cp_TG_in (i := 504) (by decide +kernel) (by decide +kernel), cp_TG_in (i := 20) (by decide +kernel) (by decide +kernel)⟩
theorem me_X1_causeOf : cp_me yX1_causeOf cX1_causeOf 2 (some .int) 1 := ⟨cp_TG_in (i := 509) (by decide +kernel) (by decide +kernel), cp_TG_in (i := 26) (by decide +kernel) (by decide +kernel), by decide, by decide, by decide +kernel⟩
theorem mi_X1_causeOf : cp_mi yX1_causeOf := ⟨cp_TG_in (i := 508) (by decide +kernel) (by decide +kernel), cp_TG_in (i := 21) (by decide +kernel) (by decide +kernel)⟩
theorem me_X1_isMade : cp_me yX1_isMade cX1_isMade 2 (some .boolean) 1 := ⟨cp_TG_in (i := 243) (by decide +kernel) (by decide +kernel), cp_TG_in (i := 26) (by decide +kernel) (by decide +kernel), by decide, by decide, by decide +kernel⟩
theorem mi_X1_isMade : cp_mi yX1_isMade := ⟨cp_TG_in (i := 242) (by decide +kernel) (by decide +kernel), cp_TG_in (i := 1) (by decide +kernel) (by decide +kernel)⟩
theorem me_X1_nextDue : cp_me yX1_nextDue cX1_nextDue 2 (some .int) 0 := ⟨cp_TG_in (i := 408) (by decide +kernel) (by decide +kernel), cp_TG_in (i := 26) (by decide +kernel) (by decide +kernel), by decide, by decide, by decide +kernel⟩
theorem mi_X1_nextDue : cp_mi yX1_nextDue := ⟨cp_TG_in (i := 406) (by decide +kernel) (by decide +kernel), cp_TG_in (i := 407) (by decide +kernel) (by decide +kernel)⟩
theorem me_X1_minutesToPlate : cp_me yX1_minutesToPlate cX1_minutesToPlate 2 (some .int) 1 := ⟨cp_TG_in (i := 417) (by decide +kernel) (by decide +kernel), cp_TG_in (i := 26) (by decide +kernel) (by decide +kernel), by decide, by decide, by decide +kernel⟩
theorem mi_X1_minutesToPlate : cp_mi yX1_minutesToPlate := ⟨cp_TG_in (i := 415) (by decide +kernel) (by decide +kernel), cp_TG_in (i := 416) (by decide +kernel) (by decide +kernel)⟩
theorem me_X1_madePlates : cp_me yX1_madePlates cX1_madePlates 3 (some .int) 0 := ⟨cp_TG_in (i := 239) (by decide +kernel) (by decide +kernel), cp_TG_in (i := 26) (by decide +kernel) (by decide +kernel), by decide, by decide, by decide +kernel⟩
theorem mi_X1_madePlates : cp_mi yX1_madePlates := ⟨cp_TG_in (i := 238) (by decide +kernel) (by decide +kernel), cp_TG_in (i := 0) (by decide +kernel) (by decide +kernel)⟩
theorem me_X1_plateAt : cp_me yX1_plateAt cX1_plateAt 3 (some .int) 1 := ⟨cp_TG_in (i := 344) (by decide +kernel) (by decide +kernel), cp_TG_in (i := 26) (by decide +kernel) (by decide +kernel), by decide, by decide, by decide +kernel⟩
theorem mi_X1_plateAt : cp_mi yX1_plateAt := ⟨cp_TG_in (i := 343) (by decide +kernel) (by decide +kernel), cp_TG_in (i := 9) (by decide +kernel) (by decide +kernel)⟩
theorem me_X1_isOnLatestMade : cp_me yX1_isOnLatestMade cX1_isOnLatestMade 3 (some .boolean) 1 := ⟨cp_TG_in (i := 469) (by decide +kernel) (by decide +kernel), cp_TG_in (i := 26) (by decide +kernel) (by decide +kernel), by decide, by decide, by decide +kernel⟩
theorem mi_X1_isOnLatestMade : cp_mi yX1_isOnLatestMade := ⟨cp_TG_in (i := 468) (by decide +kernel) (by decide +kernel), cp_TG_in (i := 18) (by decide +kernel) (by decide +kernel)⟩
theorem me_X1_tellReplate : cp_me yX1_tellReplate cX1_tellReplate 3 (some .boolean) 0 := ⟨cp_TG_in (i := 473) (by decide +kernel) (by decide +kernel), cp_TG_in (i := 26) (by decide +kernel) (by decide +kernel), by decide, by decide, by decide +kernel⟩
theorem mi_X1_tellReplate : cp_mi yX1_tellReplate := ⟨cp_TG_in (i := 472) (by decide +kernel) (by decide +kernel), cp_TG_in (i := 19) (by decide +kernel) (by decide +kernel)⟩
theorem me_X1_insertPlate : cp_me yX1_insertPlate cX1_insertPlate 4 (some .int) 2 := ⟨cp_TG_in (i := 441) (by decide +kernel) (by decide +kernel), cp_TG_in (i := 26) (by decide +kernel) (by decide +kernel), by decide, by decide, by decide +kernel⟩
theorem mi_X1_insertPlate : cp_mi yX1_insertPlate := ⟨cp_TG_in (i := 440) (by decide +kernel) (by decide +kernel), cp_TG_in (i := 17) (by decide +kernel) (by decide +kernel)⟩
theorem me_X1_factOfPiece : cp_me yX1_factOfPiece cX1_factOfPiece 4 (some .int) 2 := ⟨cp_TG_in (i := 372) (by decide +kernel) (by decide +kernel), cp_TG_in (i := 26) (by decide +kernel) (by decide +kernel), by decide, by decide, by decide +kernel⟩
theorem mi_X1_factOfPiece : cp_mi yX1_factOfPiece := ⟨cp_TG_in (i := 370) (by decide +kernel) (by decide +kernel), cp_TG_in (i := 371) (by decide +kernel) (by decide +kernel)⟩
theorem me_X1_platesWith : cp_me yX1_platesWith cX1_platesWith 4 (some .int) 1 := ⟨cp_TG_in (i := 392) (by decide +kernel) (by decide +kernel), cp_TG_in (i := 26) (by decide +kernel) (by decide +kernel), by decide, by decide, by decide +kernel⟩
theorem mi_X1_platesWith : cp_mi yX1_platesWith := ⟨cp_TG_in (i := 391) (by decide +kernel) (by decide +kernel), cp_TG_in (i := 15) (by decide +kernel) (by decide +kernel)⟩
theorem me_X1_factOfPlate : cp_me yX1_factOfPlate cX1_factOfPlate 3 (some .int) 2 := ⟨cp_TG_in (i := 421) (by decide +kernel) (by decide +kernel), cp_TG_in (i := 26) (by decide +kernel) (by decide +kernel), by decide, by decide, by decide +kernel⟩
theorem mi_X1_factOfPlate : cp_mi yX1_factOfPlate := ⟨cp_TG_in (i := 419) (by decide +kernel) (by decide +kernel), cp_TG_in (i := 420) (by decide +kernel) (by decide +kernel)⟩
theorem me_X1_factOfNight : cp_me yX1_factOfNight cX1_factOfNight 2 (some .int) 1 := ⟨cp_TG_in (i := 235) (by decide +kernel) (by decide +kernel), cp_TG_in (i := 26) (by decide +kernel) (by decide +kernel), by decide, by decide, by decide +kernel⟩
theorem mi_X1_factOfNight : cp_mi yX1_factOfNight := ⟨cp_TG_in (i := 233) (by decide +kernel) (by decide +kernel), cp_TG_in (i := 234) (by decide +kernel) (by decide +kernel)⟩
theorem me_X1_piecesThatAre : cp_me yX1_piecesThatAre cX1_piecesThatAre 4 (some .int) 1 := ⟨cp_TG_in (i := 250) (by decide +kernel) (by decide +kernel), cp_TG_in (i := 26) (by decide +kernel) (by decide +kernel), by decide, by decide, by decide +kernel⟩
theorem mi_X1_piecesThatAre : cp_mi yX1_piecesThatAre := ⟨cp_TG_in (i := 249) (by decide +kernel) (by decide +kernel), cp_TG_in (i := 2) (by decide +kernel) (by decide +kernel)⟩
theorem me_X1_heldPieces : cp_me yX1_heldPieces cX1_heldPieces 3 (some .int) 0 := ⟨cp_TG_in (i := 254) (by decide +kernel) (by decide +kernel), cp_TG_in (i := 26) (by decide +kernel) (by decide +kernel), by decide, by decide, by decide +kernel⟩
theorem mi_X1_heldPieces : cp_mi yX1_heldPieces := ⟨cp_TG_in (i := 253) (by decide +kernel) (by decide +kernel), cp_TG_in (i := 3) (by decide +kernel) (by decide +kernel)⟩
theorem me_X1_replates : cp_me yX1_replates cX1_replates 3 (some .int) 0 := ⟨cp_TG_in (i := 258) (by decide +kernel) (by decide +kernel), cp_TG_in (i := 26) (by decide +kernel) (by decide +kernel), by decide, by decide, by decide +kernel⟩
theorem mi_X1_replates : cp_mi yX1_replates := ⟨cp_TG_in (i := 257) (by decide +kernel) (by decide +kernel), cp_TG_in (i := 4) (by decide +kernel) (by decide +kernel)⟩
theorem me_X2_init : cp_me yX2_init cX2_init 2 none 1 := ⟨cp_TG_in (i := 184) (by decide +kernel) (by decide +kernel), cp_TG_in (i := 31) (by decide +kernel) (by decide +kernel), by decide, by decide, by decide +kernel⟩
theorem me_X3_init : cp_me yX3_init cX3_init 1 none 0 := ⟨cp_TG_in (i := 169) (by decide +kernel) (by decide +kernel), cp_TG_in (i := 30) (by decide +kernel) (by decide +kernel), by decide, by decide, by decide +kernel⟩
theorem me_X4_init : cp_me yX4_init cX4_init 1 none 0 := ⟨cp_TG_in (i := 62) (by decide +kernel) (by decide +kernel), cp_TG_in (i := 27) (by decide +kernel) (by decide +kernel), by decide, by decide, by decide +kernel⟩
theorem me_X4_come : cp_me yX4_come cX4_come 5 none 4 := ⟨cp_TG_in (i := 293) (by decide +kernel) (by decide +kernel), cp_TG_in (i := 27) (by decide +kernel) (by decide +kernel), by decide, by decide, by decide +kernel⟩
theorem mi_X4_come : cp_mi yX4_come := ⟨cp_TG_in (i := 291) (by decide +kernel) (by decide +kernel), cp_TG_in (i := 292) (by decide +kernel) (by decide +kernel)⟩
theorem me_X4_copyFrom : cp_me yX4_copyFrom cX4_copyFrom 2 none 1 := ⟨cp_TG_in (i := 281) (by decide +kernel) (by decide +kernel), cp_TG_in (i := 27) (by decide +kernel) (by decide +kernel), by decide, by decide, by decide +kernel⟩
theorem mi_X4_copyFrom : cp_mi yX4_copyFrom := ⟨cp_TG_in (i := 279) (by decide +kernel) (by decide +kernel), cp_TG_in (i := 280) (by decide +kernel) (by decide +kernel)⟩
theorem me_X4_editFor : cp_me yX4_editFor cX4_editFor 3 none 2 := ⟨cp_TG_in (i := 323) (by decide +kernel) (by decide +kernel), cp_TG_in (i := 27) (by decide +kernel) (by decide +kernel), by decide, by decide, by decide +kernel⟩
theorem mi_X4_editFor : cp_mi yX4_editFor := ⟨cp_TG_in (i := 321) (by decide +kernel) (by decide +kernel), cp_TG_in (i := 322) (by decide +kernel) (by decide +kernel)⟩
theorem me_X4_readOneMinute : cp_me yX4_readOneMinute cX4_readOneMinute 3 none 2 := ⟨cp_TG_in (i := 340) (by decide +kernel) (by decide +kernel), cp_TG_in (i := 27) (by decide +kernel) (by decide +kernel), by decide, by decide, by decide +kernel⟩
theorem mi_X4_readOneMinute : cp_mi yX4_readOneMinute := ⟨cp_TG_in (i := 338) (by decide +kernel) (by decide +kernel), cp_TG_in (i := 339) (by decide +kernel) (by decide +kernel)⟩
theorem me_X4_becomeReady : cp_me yX4_becomeReady cX4_becomeReady 2 none 1 := ⟨cp_TG_in (i := 328) (by decide +kernel) (by decide +kernel), cp_TG_in (i := 27) (by decide +kernel) (by decide +kernel), by decide, by decide, by decide +kernel⟩
theorem mi_X4_becomeReady : cp_mi yX4_becomeReady := ⟨cp_TG_in (i := 327) (by decide +kernel) (by decide +kernel), cp_TG_in (i := 6) (by decide +kernel) (by decide +kernel)⟩
theorem me_X4_isForPlate : cp_me yX4_isForPlate cX4_isForPlate 1 (some .boolean) 0 := ⟨cp_TG_in (i := 356) (by decide +kernel) (by decide +kernel), cp_TG_in (i := 27) (by decide +kernel) (by decide +kernel), by decide, by decide, by decide +kernel⟩
theorem mi_X4_isForPlate : cp_mi yX4_isForPlate := ⟨cp_TG_in (i := 354) (by decide +kernel) (by decide +kernel), cp_TG_in (i := 355) (by decide +kernel) (by decide +kernel)⟩
theorem me_X5_init : cp_me yX5_init cX5_init 1 none 0 := ⟨cp_TG_in (i := 111) (by decide +kernel) (by decide +kernel), cp_TG_in (i := 28) (by decide +kernel) (by decide +kernel), by decide, by decide, by decide +kernel⟩
theorem me_X5_tell : cp_me yX5_tell cX5_tell 3 none 2 := ⟨cp_TG_in (i := 445) (by decide +kernel) (by decide +kernel), cp_TG_in (i := 28) (by decide +kernel) (by decide +kernel), by decide, by decide, by decide +kernel⟩
theorem mi_X5_tell : cp_mi yX5_tell := ⟨cp_TG_in (i := 443) (by decide +kernel) (by decide +kernel), cp_TG_in (i := 444) (by decide +kernel) (by decide +kernel)⟩
theorem me_X5_copyFrom : cp_me yX5_copyFrom cX5_copyFrom 2 none 1 := ⟨cp_TG_in (i := 285) (by decide +kernel) (by decide +kernel), cp_TG_in (i := 28) (by decide +kernel) (by decide +kernel), by decide, by decide, by decide +kernel⟩
theorem mi_X5_copyFrom : cp_mi yX5_copyFrom := ⟨cp_TG_in (i := 283) (by decide +kernel) (by decide +kernel), cp_TG_in (i := 284) (by decide +kernel) (by decide +kernel)⟩
theorem me_X6_init : cp_me yX6_init cX6_init 1 none 0 := ⟨cp_TG_in (i := 38) (by decide +kernel) (by decide +kernel), cp_TG_in (i := 25) (by decide +kernel) (by decide +kernel), by decide, by decide, by decide +kernel⟩
theorem me_X6_set : cp_me yX6_set cX6_set 3 (some .int) 2 := ⟨cp_TG_in (i := 449) (by decide +kernel) (by decide +kernel), cp_TG_in (i := 25) (by decide +kernel) (by decide +kernel), by decide, by decide, by decide +kernel⟩
theorem mi_X6_set : cp_mi yX6_set := ⟨cp_TG_in (i := 447) (by decide +kernel) (by decide +kernel), cp_TG_in (i := 448) (by decide +kernel) (by decide +kernel)⟩
theorem me_X6_piece : cp_me yX6_piece cX6_piece 5 (some .int) 4 := ⟨cp_TG_in (i := 266) (by decide +kernel) (by decide +kernel), cp_TG_in (i := 25) (by decide +kernel) (by decide +kernel), by decide, by decide, by decide +kernel⟩
theorem mi_X6_piece : cp_mi yX6_piece := ⟨cp_TG_in (i := 264) (by decide +kernel) (by decide +kernel), cp_TG_in (i := 265) (by decide +kernel) (by decide +kernel)⟩
theorem me_X6_plate : cp_me yX6_plate cX6_plate 2 (some .int) 1 := ⟨cp_TG_in (i := 433) (by decide +kernel) (by decide +kernel), cp_TG_in (i := 25) (by decide +kernel) (by decide +kernel), by decide, by decide, by decide +kernel⟩
theorem mi_X6_plate : cp_mi yX6_plate := ⟨cp_TG_in (i := 431) (by decide +kernel) (by decide +kernel), cp_TG_in (i := 432) (by decide +kernel) (by decide +kernel)⟩
theorem me_X6_hold : cp_me yX6_hold cX6_hold 2 (some .int) 1 := ⟨cp_TG_in (i := 396) (by decide +kernel) (by decide +kernel), cp_TG_in (i := 25) (by decide +kernel) (by decide +kernel), by decide, by decide, by decide +kernel⟩
theorem mi_X6_hold : cp_mi yX6_hold := ⟨cp_TG_in (i := 394) (by decide +kernel) (by decide +kernel), cp_TG_in (i := 395) (by decide +kernel) (by decide +kernel)⟩
theorem me_X6_kill : cp_me yX6_kill cX6_kill 2 (some .int) 1 := ⟨cp_TG_in (i := 461) (by decide +kernel) (by decide +kernel), cp_TG_in (i := 25) (by decide +kernel) (by decide +kernel), by decide, by decide, by decide +kernel⟩
theorem mi_X6_kill : cp_mi yX6_kill := ⟨cp_TG_in (i := 459) (by decide +kernel) (by decide +kernel), cp_TG_in (i := 460) (by decide +kernel) (by decide +kernel)⟩
theorem me_X6_pass : cp_me yX6_pass cX6_pass 2 (some .int) 1 := ⟨cp_TG_in (i := 304) (by decide +kernel) (by decide +kernel), cp_TG_in (i := 25) (by decide +kernel) (by decide +kernel), by decide, by decide, by decide +kernel⟩
theorem mi_X6_pass : cp_mi yX6_pass := ⟨cp_TG_in (i := 302) (by decide +kernel) (by decide +kernel), cp_TG_in (i := 303) (by decide +kernel) (by decide +kernel)⟩
theorem me_X6_ofPiece : cp_me yX6_ofPiece cX6_ofPiece 3 (some .int) 2 := ⟨cp_TG_in (i := 368) (by decide +kernel) (by decide +kernel), cp_TG_in (i := 25) (by decide +kernel) (by decide +kernel), by decide, by decide, by decide +kernel⟩
theorem mi_X6_ofPiece : cp_mi yX6_ofPiece := ⟨cp_TG_in (i := 366) (by decide +kernel) (by decide +kernel), cp_TG_in (i := 367) (by decide +kernel) (by decide +kernel)⟩
theorem me_X6_ofPlate : cp_me yX6_ofPlate cX6_ofPlate 3 (some .int) 2 := ⟨cp_TG_in (i := 429) (by decide +kernel) (by decide +kernel), cp_TG_in (i := 25) (by decide +kernel) (by decide +kernel), by decide, by decide, by decide +kernel⟩
theorem mi_X6_ofPlate : cp_mi yX6_ofPlate := ⟨cp_TG_in (i := 427) (by decide +kernel) (by decide +kernel), cp_TG_in (i := 428) (by decide +kernel) (by decide +kernel)⟩
theorem me_X6_count : cp_me yX6_count cX6_count 2 (some .int) 1 := ⟨cp_TG_in (i := 231) (by decide +kernel) (by decide +kernel), cp_TG_in (i := 25) (by decide +kernel) (by decide +kernel), by decide, by decide, by decide +kernel⟩
theorem mi_X6_count : cp_mi yX6_count := ⟨cp_TG_in (i := 229) (by decide +kernel) (by decide +kernel), cp_TG_in (i := 230) (by decide +kernel) (by decide +kernel)⟩
theorem me_X6_why : cp_me yX6_why cX6_why 3 (some .int) 2 := ⟨cp_TG_in (i := 497) (by decide +kernel) (by decide +kernel), cp_TG_in (i := 25) (by decide +kernel) (by decide +kernel), by decide, by decide, by decide +kernel⟩
theorem mi_X6_why : cp_mi yX6_why := ⟨cp_TG_in (i := 495) (by decide +kernel) (by decide +kernel), cp_TG_in (i := 496) (by decide +kernel) (by decide +kernel)⟩
theorem me_X6_plateNow : cp_me yX6_plateNow cX6_plateNow 1 (some .int) 0 := ⟨cp_TG_in (i := 481) (by decide +kernel) (by decide +kernel), cp_TG_in (i := 25) (by decide +kernel) (by decide +kernel), by decide, by decide, by decide +kernel⟩
theorem mi_X6_plateNow : cp_mi yX6_plateNow := ⟨cp_TG_in (i := 479) (by decide +kernel) (by decide +kernel), cp_TG_in (i := 480) (by decide +kernel) (by decide +kernel)⟩
theorem me_X6_readyIn : cp_me yX6_readyIn cX6_readyIn 3 (some .int) 1 := ⟨cp_TG_in (i := 521) (by decide +kernel) (by decide +kernel), cp_TG_in (i := 25) (by decide +kernel) (by decide +kernel), by decide, by decide, by decide +kernel⟩
theorem mi_X6_readyIn : cp_mi yX6_readyIn := ⟨cp_TG_in (i := 519) (by decide +kernel) (by decide +kernel), cp_TG_in (i := 520) (by decide +kernel) (by decide +kernel)⟩
theorem me_X6_leastRoom : cp_me yX6_leastRoom cX6_leastRoom 3 (some .int) 0 := ⟨cp_TG_in (i := 486) (by decide +kernel) (by decide +kernel), cp_TG_in (i := 25) (by decide +kernel) (by decide +kernel), by decide, by decide, by decide +kernel⟩
theorem mi_X6_leastRoom : cp_mi yX6_leastRoom := ⟨cp_TG_in (i := 484) (by decide +kernel) (by decide +kernel), cp_TG_in (i := 485) (by decide +kernel) (by decide +kernel)⟩
theorem me_X6_nextPlate : cp_me yX6_nextPlate cX6_nextPlate 2 (some .int) 0 := ⟨cp_TG_in (i := 404) (by decide +kernel) (by decide +kernel), cp_TG_in (i := 25) (by decide +kernel) (by decide +kernel), by decide, by decide, by decide +kernel⟩
theorem mi_X6_nextPlate : cp_mi yX6_nextPlate := ⟨cp_TG_in (i := 402) (by decide +kernel) (by decide +kernel), cp_TG_in (i := 403) (by decide +kernel) (by decide +kernel)⟩
theorem me_X6_goAheadToPlate : cp_me yX6_goAheadToPlate cX6_goAheadToPlate 2 none 1 := ⟨cp_TG_in (i := 412) (by decide +kernel) (by decide +kernel), cp_TG_in (i := 25) (by decide +kernel) (by decide +kernel), by decide, by decide, by decide +kernel⟩
theorem mi_X6_goAheadToPlate : cp_mi yX6_goAheadToPlate := ⟨cp_TG_in (i := 411) (by decide +kernel) (by decide +kernel), cp_TG_in (i := 16) (by decide +kernel) (by decide +kernel)⟩
theorem me_X6_isInSet : cp_me yX6_isInSet cX6_isInSet 2 (some .boolean) 2 := ⟨cp_TG_in (i := 319) (by decide +kernel) (by decide +kernel), cp_TG_in (i := 25) (by decide +kernel) (by decide +kernel), by decide, by decide, by decide +kernel⟩
theorem ms_X6_isInSet : Cond.static yX6_isInSet ∈ cp_TG := cp_TG_in (i := 318) (by decide +kernel) (by decide +kernel)
theorem me_X6_oneIf : cp_me yX6_oneIf cX6_oneIf 1 (some .int) 1 := ⟨cp_TG_in (i := 246) (by decide +kernel) (by decide +kernel), cp_TG_in (i := 25) (by decide +kernel) (by decide +kernel), by decide, by decide, by decide +kernel⟩
theorem ms_X6_oneIf : Cond.static yX6_oneIf ∈ cp_TG := cp_TG_in (i := 245) (by decide +kernel) (by decide +kernel)
theorem me_L_cell : cp_me yL_cell cL_cell 2 (some .int) 2 := ⟨cp_TG_in (i := 223) (by decide +kernel) (by decide +kernel), cp_TG_in (i := 24) (by decide +kernel) (by decide +kernel), by decide, by decide, by decide +kernel⟩
theorem ms_L_cell : Cond.static yL_cell ∈ cp_TG := cp_TG_in (i := 222) (by decide +kernel) (by decide +kernel)
theorem me_L_up : cp_me yL_up cL_up 2 (some .int) 2 := ⟨cp_TG_in (i := 261) (by decide +kernel) (by decide +kernel), cp_TG_in (i := 24) (by decide +kernel) (by decide +kernel), by decide, by decide, by decide +kernel⟩
theorem ms_L_up : Cond.static yL_up ∈ cp_TG := cp_TG_in (i := 260) (by decide +kernel) (by decide +kernel)
set_option maxRecDepth 100000 in
theorem me_L_isStep : cp_me yL_isStep cL_isStep 14 (some .boolean) 3 := ⟨cp_TG_in (i := 227) rfl rfl, cp_TG_in (i := 24) (by decide +kernel) (by decide +kernel), by decide, by decide, by decide +kernel⟩
theorem ms_L_isStep : Cond.static yL_isStep ∈ cp_TG := cp_TG_in (i := 226) (by decide +kernel) (by decide +kernel)
set_option maxRecDepth 100000 in
theorem me_L_areAlike : cp_me yL_areAlike cL_areAlike 5 (some .boolean) 2 := ⟨cp_TG_in (i := 477) rfl rfl, cp_TG_in (i := 24) (by decide +kernel) (by decide +kernel), by decide, by decide, by decide +kernel⟩
theorem ms_L_areAlike : Cond.static yL_areAlike ∈ cp_TG := cp_TG_in (i := 476) (by decide +kernel) (by decide +kernel)
set_option maxRecDepth 100000 in
theorem me_L_isWell : cp_me yL_isWell cL_isWell 15 (some .boolean) 1 := ⟨cp_TG_in (i := 530) rfl rfl, cp_TG_in (i := 24) (by decide +kernel) (by decide +kernel), by decide, by decide, by decide +kernel⟩
theorem ms_L_isWell : Cond.static yL_isWell ∈ cp_TG := cp_TG_in (i := 529) (by decide +kernel) (by decide +kernel)
theorem ml_L_62 : Cond.methodLink RL 62 yX6_init ∈ cp_TG := cp_TG_in (i := 36) (by decide +kernel) (by decide +kernel)
theorem ml_X6_9 : Cond.methodLink RX6 9 yX1_init ∈ cp_TG := cp_TG_in (i := 44) (by decide +kernel) (by decide +kernel)
theorem ml_X1_33 : (RX1, 33, yX4_init) ∈ cp_nM := by decide +kernel
theorem ml_X1_43 : (RX1, 43, yX5_init) ∈ cp_nM := by decide +kernel
theorem ml_X6_21 : Cond.methodLink RX6 21 yX0_init ∈ cp_TG := cp_TG_in (i := 147) (by decide +kernel) (by decide +kernel)
theorem ml_X0_17 : Cond.methodLink RX0 17 yX1_init ∈ cp_TG := cp_TG_in (i := 153) (by decide +kernel) (by decide +kernel)
theorem ml_X6_32 : Cond.methodLink RX6 32 yX3_init ∈ cp_TG := cp_TG_in (i := 167) (by decide +kernel) (by decide +kernel)
theorem ml_X6_39 : Cond.methodLink RX6 39 yX2_init ∈ cp_TG := cp_TG_in (i := 182) (by decide +kernel) (by decide +kernel)
theorem ml_L_63 : Cond.methodLink RL 63 yL_cell ∈ cp_TG := cp_TG_in (i := 221) (by decide +kernel) (by decide +kernel)
theorem ml_L_67 : Cond.methodLink RL 67 yL_isStep ∈ cp_TG := cp_TG_in (i := 225) (by decide +kernel) (by decide +kernel)
theorem ml_L_9 : Cond.methodLink RL 9 yX6_count ∈ cp_TG := cp_TG_in (i := 228) (by decide +kernel) (by decide +kernel)
theorem ml_X6_87 : Cond.methodLink RX6 87 yX1_factOfNight ∈ cp_TG := cp_TG_in (i := 232) (by decide +kernel) (by decide +kernel)
theorem ml_X1_175 : Cond.methodLink RX1 175 yX1_madePlates ∈ cp_TG := cp_TG_in (i := 236) (by decide +kernel) (by decide +kernel)
theorem ml_X1_178 : Cond.methodLink RX1 178 yX1_isMade ∈ cp_TG := cp_TG_in (i := 240) (by decide +kernel) (by decide +kernel)
theorem ml_X1_89 : (RX1, 89, yX6_oneIf) ∈ cp_nM := by decide +kernel
theorem ml_X1_209 : Cond.methodLink RX1 209 yX1_piecesThatAre ∈ cp_TG := cp_TG_in (i := 247) (by decide +kernel) (by decide +kernel)
theorem ml_X1_212 : Cond.methodLink RX1 212 yX1_heldPieces ∈ cp_TG := cp_TG_in (i := 251) (by decide +kernel) (by decide +kernel)
theorem ml_X1_215 : Cond.methodLink RX1 215 yX1_replates ∈ cp_TG := cp_TG_in (i := 255) (by decide +kernel) (by decide +kernel)
theorem ml_L_15 : Cond.methodLink RL 15 yL_up ∈ cp_TG := cp_TG_in (i := 259) (by decide +kernel) (by decide +kernel)
theorem ml_L_21 : Cond.methodLink RL 21 yX6_piece ∈ cp_TG := cp_TG_in (i := 263) (by decide +kernel) (by decide +kernel)
theorem ml_X6_46 : Cond.methodLink RX6 46 yX0_prepare ∈ cp_TG := cp_TG_in (i := 267) (by decide +kernel) (by decide +kernel)
theorem ml_X0_25 : Cond.methodLink RX0 25 yX1_copyFrom ∈ cp_TG := cp_TG_in (i := 271) (by decide +kernel) (by decide +kernel)
theorem ml_X1_53 : Cond.methodLink RX1 53 yX4_copyFrom ∈ cp_TG := cp_TG_in (i := 278) (by decide +kernel) (by decide +kernel)
theorem ml_X1_57 : Cond.methodLink RX1 57 yX5_copyFrom ∈ cp_TG := cp_TG_in (i := 282) (by decide +kernel) (by decide +kernel)
theorem ml_X6_58 : Cond.methodLink RX6 58 yX1_addPiece ∈ cp_TG := cp_TG_in (i := 286) (by decide +kernel) (by decide +kernel)
theorem ml_X1_73 : Cond.methodLink RX1 73 yX4_come ∈ cp_TG := cp_TG_in (i := 290) (by decide +kernel) (by decide +kernel)
theorem ml_X6_54 : Cond.methodLink RX6 54 yX0_recordUnlessError ∈ cp_TG := cp_TG_in (i := 294) (by decide +kernel) (by decide +kernel)
theorem ml_L_25 : Cond.methodLink RL 25 yX6_pass ∈ cp_TG := cp_TG_in (i := 301) (by decide +kernel) (by decide +kernel)
theorem ml_X6_71 : Cond.methodLink RX6 71 yX1_passMinutes ∈ cp_TG := cp_TG_in (i := 305) (by decide +kernel) (by decide +kernel)
theorem ml_X1_100 : Cond.methodLink RX1 100 yX1_passMinute ∈ cp_TG := cp_TG_in (i := 309) (by decide +kernel) (by decide +kernel)
theorem ml_X1_103 : Cond.methodLink RX1 103 yX1_editAtDesks ∈ cp_TG := cp_TG_in (i := 313) (by decide +kernel) (by decide +kernel)
theorem ml_X1_118 : (RX1, 118, yX6_isInSet) ∈ cp_nM := by decide +kernel
theorem ml_X1_122 : Cond.methodLink RX1 122 yX4_editFor ∈ cp_TG := cp_TG_in (i := 320) (by decide +kernel) (by decide +kernel)
theorem ml_X4_49 : Cond.methodLink RX4 49 yX4_becomeReady ∈ cp_TG := cp_TG_in (i := 325) (by decide +kernel) (by decide +kernel)
theorem ml_X1_106 : Cond.methodLink RX1 106 yX1_readAtLawyer ∈ cp_TG := cp_TG_in (i := 329) (by decide +kernel) (by decide +kernel)
theorem ml_X1_126 : Cond.methodLink RX1 126 yX1_firstAtLawyer ∈ cp_TG := cp_TG_in (i := 333) (by decide +kernel) (by decide +kernel)
theorem ml_X1_129 : Cond.methodLink RX1 129 yX4_readOneMinute ∈ cp_TG := cp_TG_in (i := 337) (by decide +kernel) (by decide +kernel)
theorem ml_X1_77 : Cond.methodLink RX1 77 yX1_plateAt ∈ cp_TG := cp_TG_in (i := 341) (by decide +kernel) (by decide +kernel)
theorem ml_X1_109 : Cond.methodLink RX1 109 yX1_takenNow ∈ cp_TG := cp_TG_in (i := 345) (by decide +kernel) (by decide +kernel)
theorem ml_X1_147 : Cond.methodLink RX1 147 yX1_piecesForPlate ∈ cp_TG := cp_TG_in (i := 349) (by decide +kernel) (by decide +kernel)
theorem ml_X1_141 : Cond.methodLink RX1 141 yX4_isForPlate ∈ cp_TG := cp_TG_in (i := 353) (by decide +kernel) (by decide +kernel)
theorem ml_X1_150 : Cond.methodLink RX1 150 yX1_firstByRank ∈ cp_TG := cp_TG_in (i := 357) (by decide +kernel) (by decide +kernel)
theorem ml_X1_153 : Cond.methodLink RX1 153 yX1_goesAhead ∈ cp_TG := cp_TG_in (i := 361) (by decide +kernel) (by decide +kernel)
theorem ml_L_28 : Cond.methodLink RL 28 yX6_ofPiece ∈ cp_TG := cp_TG_in (i := 365) (by decide +kernel) (by decide +kernel)
theorem ml_X6_74 : Cond.methodLink RX6 74 yX1_factOfPiece ∈ cp_TG := cp_TG_in (i := 369) (by decide +kernel) (by decide +kernel)
theorem ml_X1_60 : Cond.methodLink RX1 60 yX1_hasPiece ∈ cp_TG := cp_TG_in (i := 373) (by decide +kernel) (by decide +kernel)
theorem ml_X1_197 : Cond.methodLink RX1 197 yX1_placeInQueue ∈ cp_TG := cp_TG_in (i := 377) (by decide +kernel) (by decide +kernel)
theorem ml_X1_135 : Cond.methodLink RX1 135 yX1_placeAtDesk ∈ cp_TG := cp_TG_in (i := 381) (by decide +kernel) (by decide +kernel)
theorem ml_X1_138 : Cond.methodLink RX1 138 yX1_placeAtLawyer ∈ cp_TG := cp_TG_in (i := 385) (by decide +kernel) (by decide +kernel)
theorem ml_X1_200 : Cond.methodLink RX1 200 yX1_platesWith ∈ cp_TG := cp_TG_in (i := 389) (by decide +kernel) (by decide +kernel)
theorem ml_L_31 : Cond.methodLink RL 31 yX6_hold ∈ cp_TG := cp_TG_in (i := 393) (by decide +kernel) (by decide +kernel)
theorem ml_X6_65 : Cond.methodLink RX6 65 yX1_turnHold ∈ cp_TG := cp_TG_in (i := 397) (by decide +kernel) (by decide +kernel)
theorem ml_L_34 : Cond.methodLink RL 34 yX6_nextPlate ∈ cp_TG := cp_TG_in (i := 401) (by decide +kernel) (by decide +kernel)
theorem ml_X6_112 : Cond.methodLink RX6 112 yX1_nextDue ∈ cp_TG := cp_TG_in (i := 405) (by decide +kernel) (by decide +kernel)
theorem ml_X6_115 : Cond.methodLink RX6 115 yX6_goAheadToPlate ∈ cp_TG := cp_TG_in (i := 409) (by decide +kernel) (by decide +kernel)
theorem ml_X6_105 : Cond.methodLink RX6 105 yX1_copyFrom ∈ cp_TG := cp_TG_in (i := 413) (by decide +kernel) (by decide +kernel)
theorem ml_X6_137 : Cond.methodLink RX6 137 yX1_minutesToPlate ∈ cp_TG := cp_TG_in (i := 414) (by decide +kernel) (by decide +kernel)
theorem ml_X6_77 : Cond.methodLink RX6 77 yX1_factOfPlate ∈ cp_TG := cp_TG_in (i := 418) (by decide +kernel) (by decide +kernel)
theorem ml_X1_206 : Cond.methodLink RX1 206 yX1_linesOf ∈ cp_TG := cp_TG_in (i := 422) (by decide +kernel) (by decide +kernel)
theorem ml_L_38 : Cond.methodLink RL 38 yX6_ofPlate ∈ cp_TG := cp_TG_in (i := 426) (by decide +kernel) (by decide +kernel)
theorem ml_L_41 : Cond.methodLink RL 41 yX6_plate ∈ cp_TG := cp_TG_in (i := 430) (by decide +kernel) (by decide +kernel)
theorem ml_X6_62 : Cond.methodLink RX6 62 yX1_addPlate ∈ cp_TG := cp_TG_in (i := 434) (by decide +kernel) (by decide +kernel)
theorem ml_X1_81 : Cond.methodLink RX1 81 yX1_insertPlate ∈ cp_TG := cp_TG_in (i := 438) (by decide +kernel) (by decide +kernel)
theorem ml_X1_184 : Cond.methodLink RX1 184 yX5_tell ∈ cp_TG := cp_TG_in (i := 442) (by decide +kernel) (by decide +kernel)
theorem ml_L_44 : Cond.methodLink RL 44 yX6_set ∈ cp_TG := cp_TG_in (i := 446) (by decide +kernel) (by decide +kernel)
theorem ml_X6_50 : Cond.methodLink RX6 50 yX1_changeSetting ∈ cp_TG := cp_TG_in (i := 450) (by decide +kernel) (by decide +kernel)
theorem ml_L_47 : Cond.methodLink RL 47 yX6_kill ∈ cp_TG := cp_TG_in (i := 458) (by decide +kernel) (by decide +kernel)
theorem ml_X6_68 : Cond.methodLink RX6 68 yX1_killPiece ∈ cp_TG := cp_TG_in (i := 462) (by decide +kernel) (by decide +kernel)
theorem ml_X1_93 : Cond.methodLink RX1 93 yX1_isOnLatestMade ∈ cp_TG := cp_TG_in (i := 466) (by decide +kernel) (by decide +kernel)
theorem ml_X1_96 : Cond.methodLink RX1 96 yX1_tellReplate ∈ cp_TG := cp_TG_in (i := 470) (by decide +kernel) (by decide +kernel)
theorem ml_X1_181 : Cond.methodLink RX1 181 yX1_nextDue ∈ cp_TG := cp_TG_in (i := 474) (by decide +kernel) (by decide +kernel)
theorem ml_L_75 : Cond.methodLink RL 75 yL_areAlike ∈ cp_TG := cp_TG_in (i := 475) (by decide +kernel) (by decide +kernel)
theorem ml_L_50 : Cond.methodLink RL 50 yX6_plateNow ∈ cp_TG := cp_TG_in (i := 478) (by decide +kernel) (by decide +kernel)
theorem ml_X6_93 : Cond.methodLink RX6 93 yX1_takenNow ∈ cp_TG := cp_TG_in (i := 482) (by decide +kernel) (by decide +kernel)
theorem ml_L_53 : Cond.methodLink RL 53 yX6_leastRoom ∈ cp_TG := cp_TG_in (i := 483) (by decide +kernel) (by decide +kernel)
theorem ml_X6_119 : Cond.methodLink RX6 119 yX1_piecesForPlate ∈ cp_TG := cp_TG_in (i := 487) (by decide +kernel) (by decide +kernel)
theorem ml_X6_122 : Cond.methodLink RX6 122 yX1_linesOf ∈ cp_TG := cp_TG_in (i := 488) (by decide +kernel) (by decide +kernel)
theorem ml_L_56 : Cond.methodLink RL 56 yX6_why ∈ cp_TG := cp_TG_in (i := 494) (by decide +kernel) (by decide +kernel)
theorem ml_X6_90 : Cond.methodLink RX6 90 yX1_whyNotOnPlate ∈ cp_TG := cp_TG_in (i := 498) (by decide +kernel) (by decide +kernel)
theorem ml_X1_162 : Cond.methodLink RX1 162 yX1_reasonOf ∈ cp_TG := cp_TG_in (i := 502) (by decide +kernel) (by decide +kernel)
theorem ml_X1_165 : Cond.methodLink RX1 165 yX1_causeOf ∈ cp_TG := cp_TG_in (i := 506) (by decide +kernel) (by decide +kernel)
theorem ml_X1_168 : Cond.methodLink RX1 168 yX1_firstAtDesk ∈ cp_TG := cp_TG_in (i := 510) (by decide +kernel) (by decide +kernel)
theorem ml_X1_171 : Cond.methodLink RX1 171 yX1_lastTakenAheadOf ∈ cp_TG := cp_TG_in (i := 514) (by decide +kernel) (by decide +kernel)
theorem ml_L_59 : Cond.methodLink RL 59 yX6_readyIn ∈ cp_TG := cp_TG_in (i := 518) (by decide +kernel) (by decide +kernel)
theorem ml_X6_97 : Cond.methodLink RX6 97 yX1_hasPiece ∈ cp_TG := cp_TG_in (i := 522) (by decide +kernel) (by decide +kernel)
theorem ml_X6_101 : Cond.methodLink RX6 101 yX1_isPiece ∈ cp_TG := cp_TG_in (i := 523) (by decide +kernel) (by decide +kernel)
theorem ml_X6_108 : Cond.methodLink RX6 108 yX1_passMinute ∈ cp_TG := cp_TG_in (i := 527) (by decide +kernel) (by decide +kernel)
theorem ml_L_71 : Cond.methodLink RL 71 yL_isWell ∈ cp_TG := cp_TG_in (i := 528) (by decide +kernel) (by decide +kernel)
section CPF
variable {x : cp_Cx} {E : cp_En} {bc : ByteArray} {nL d mc ms cells slots cnt : Nat} {sh : cp_Shp} {I : cp_Mem} {R : cp_Rem} {pc : Nat} {L : List (Option Value)} {st : List Value}
theorem fs_X1_9 (O : cp_Ok x E RX1 bc nL d mc ms) (hd : decode bc pc = .ok (.getstatic 9, 3)) (k : cp_G x E nL cells slots cnt sh I R (pc + 3) L (.ref (cp_ts E 0) :: st)) : cp_G x E nL cells slots cnt sh I R pc L st := cp_getsN O (by decide) (by decide +kernel) hd k
theorem fl_X4_9 : cp_lk RX4 9 TX4 0 := cp_TG_in (i := 64) (by decide +kernel) (by decide +kernel)
theorem fg_X4_9 (O : cp_Ok x E RX4 bc nL d mc ms) {a : Nat} (hs : sh a = (5, 0)) (hd : decode bc pc = .ok (.getfield 9, 3)) (k : cp_G x E nL cells slots cnt sh I R (pc + 3) L (.int (I a 0) :: st)) : cp_G x E nL cells slots cnt sh I R pc L (.ref a :: st) := cp_get O cp_cX4 (j := 0) (by decide) fl_X4_9 hs hd k
theorem fp_X4_9 (O : cp_Ok x E RX4 bc nL d mc ms) {a : Nat} {v : Int32} (hs : sh a = (5, 0)) (hd : decode bc pc = .ok (.putfield 9, 3)) (k : cp_G x E nL cells slots cnt sh (cp_wi I a 0 v) R (pc + 3) L st) : cp_G x E nL cells slots cnt sh I R pc L (.int v :: .ref a :: st) := cp_put O cp_cX4 (j := 0) (by decide) fl_X4_9 rfl (ty := .int) (by decide +kernel) ⟨rfl, rfl⟩ rfl hs hd k
theorem fl_X1_115 : cp_lk RX1 115 TX4 0 := cp_TG_in (i := 65) (by decide +kernel) (by decide +kernel)
theorem fg_X1_115 (O : cp_Ok x E RX1 bc nL d mc ms) {a : Nat} (hs : sh a = (5, 0)) (hd : decode bc pc = .ok (.getfield 115, 3)) (k : cp_G x E nL cells slots cnt sh I R (pc + 3) L (.int (I a 0) :: st)) : cp_G x E nL cells slots cnt sh I R pc L (.ref a :: st) := cp_get O cp_cX4 (j := 0) (by decide) fl_X1_115 hs hd k
theorem fp_X1_115 (O : cp_Ok x E RX1 bc nL d mc ms) {a : Nat} {v : Int32} (hs : sh a = (5, 0)) (hd : decode bc pc = .ok (.putfield 115, 3)) (k : cp_G x E nL cells slots cnt sh (cp_wi I a 0 v) R (pc + 3) L st) : cp_G x E nL cells slots cnt sh I R pc L (.int v :: .ref a :: st) := cp_put O cp_cX4 (j := 0) (by decide) fl_X1_115 rfl (ty := .int) (by decide +kernel) ⟨rfl, rfl⟩ rfl hs hd k
theorem fl_X4_15 : cp_lk RX4 15 TX4 1 := cp_TG_in (i := 66) (by decide +kernel) (by decide +kernel)
theorem fg_X4_15 (O : cp_Ok x E RX4 bc nL d mc ms) {a : Nat} (hs : sh a = (5, 0)) (hd : decode bc pc = .ok (.getfield 15, 3)) (k : cp_G x E nL cells slots cnt sh I R (pc + 3) L (.int (I a 1) :: st)) : cp_G x E nL cells slots cnt sh I R pc L (.ref a :: st) := cp_get O cp_cX4 (j := 1) (by decide) fl_X4_15 hs hd k
theorem fp_X4_15 (O : cp_Ok x E RX4 bc nL d mc ms) {a : Nat} {v : Int32} (hs : sh a = (5, 0)) (hd : decode bc pc = .ok (.putfield 15, 3)) (k : cp_G x E nL cells slots cnt sh (cp_wi I a 1 v) R (pc + 3) L st) : cp_G x E nL cells slots cnt sh I R pc L (.int v :: .ref a :: st) := cp_put O cp_cX4 (j := 1) (by decide) fl_X4_15 rfl (ty := .int) (by decide +kernel) ⟨rfl, rfl⟩ rfl hs hd k
theorem fl_X1_144 : cp_lk RX1 144 TX4 1 := cp_TG_in (i := 67) (by decide +kernel) (by decide +kernel)
theorem fg_X1_144 (O : cp_Ok x E RX1 bc nL d mc ms) {a : Nat} (hs : sh a = (5, 0)) (hd : decode bc pc = .ok (.getfield 144, 3)) (k : cp_G x E nL cells slots cnt sh I R (pc + 3) L (.int (I a 1) :: st)) : cp_G x E nL cells slots cnt sh I R pc L (.ref a :: st) := cp_get O cp_cX4 (j := 1) (by decide) fl_X1_144 hs hd k
theorem fp_X1_144 (O : cp_Ok x E RX1 bc nL d mc ms) {a : Nat} {v : Int32} (hs : sh a = (5, 0)) (hd : decode bc pc = .ok (.putfield 144, 3)) (k : cp_G x E nL cells slots cnt sh (cp_wi I a 1 v) R (pc + 3) L st) : cp_G x E nL cells slots cnt sh I R pc L (.int v :: .ref a :: st) := cp_put O cp_cX4 (j := 1) (by decide) fl_X1_144 rfl (ty := .int) (by decide +kernel) ⟨rfl, rfl⟩ rfl hs hd k
theorem fl_X4_18 : cp_lk RX4 18 TX4 2 := cp_TG_in (i := 68) (by decide +kernel) (by decide +kernel)
theorem fg_X4_18 (O : cp_Ok x E RX4 bc nL d mc ms) {a : Nat} (hs : sh a = (5, 0)) (hd : decode bc pc = .ok (.getfield 18, 3)) (k : cp_G x E nL cells slots cnt sh I R (pc + 3) L (.int (I a 2) :: st)) : cp_G x E nL cells slots cnt sh I R pc L (.ref a :: st) := cp_get O cp_cX4 (j := 2) (by decide) fl_X4_18 hs hd k
theorem fp_X4_18 (O : cp_Ok x E RX4 bc nL d mc ms) {a : Nat} {v : Int32} (hs : sh a = (5, 0)) (hd : decode bc pc = .ok (.putfield 18, 3)) (k : cp_G x E nL cells slots cnt sh (cp_wi I a 2 v) R (pc + 3) L st) : cp_G x E nL cells slots cnt sh I R pc L (.int v :: .ref a :: st) := cp_put O cp_cX4 (j := 2) (by decide) fl_X4_18 rfl (ty := .int) (by decide +kernel) ⟨rfl, rfl⟩ rfl hs hd k
theorem fl_X1_156 : cp_lk RX1 156 TX4 2 := cp_TG_in (i := 69) (by decide +kernel) (by decide +kernel)
theorem fg_X1_156 (O : cp_Ok x E RX1 bc nL d mc ms) {a : Nat} (hs : sh a = (5, 0)) (hd : decode bc pc = .ok (.getfield 156, 3)) (k : cp_G x E nL cells slots cnt sh I R (pc + 3) L (.int (I a 2) :: st)) : cp_G x E nL cells slots cnt sh I R pc L (.ref a :: st) := cp_get O cp_cX4 (j := 2) (by decide) fl_X1_156 hs hd k
theorem fp_X1_156 (O : cp_Ok x E RX1 bc nL d mc ms) {a : Nat} {v : Int32} (hs : sh a = (5, 0)) (hd : decode bc pc = .ok (.putfield 156, 3)) (k : cp_G x E nL cells slots cnt sh (cp_wi I a 2 v) R (pc + 3) L st) : cp_G x E nL cells slots cnt sh I R pc L (.int v :: .ref a :: st) := cp_put O cp_cX4 (j := 2) (by decide) fl_X1_156 rfl (ty := .int) (by decide +kernel) ⟨rfl, rfl⟩ rfl hs hd k
theorem fl_X4_21 : cp_lk RX4 21 TX4 3 := cp_TG_in (i := 70) (by decide +kernel) (by decide +kernel)
theorem fg_X4_21 (O : cp_Ok x E RX4 bc nL d mc ms) {a : Nat} (hs : sh a = (5, 0)) (hd : decode bc pc = .ok (.getfield 21, 3)) (k : cp_G x E nL cells slots cnt sh I R (pc + 3) L (.int (I a 3) :: st)) : cp_G x E nL cells slots cnt sh I R pc L (.ref a :: st) := cp_get O cp_cX4 (j := 3) (by decide) fl_X4_21 hs hd k
theorem fp_X4_21 (O : cp_Ok x E RX4 bc nL d mc ms) {a : Nat} {v : Int32} (hs : sh a = (5, 0)) (hv : v = 0 ∨ v = 1) (hd : decode bc pc = .ok (.putfield 21, 3)) (k : cp_G x E nL cells slots cnt sh (cp_wi I a 3 v) R (pc + 3) L st) : cp_G x E nL cells slots cnt sh I R pc L (.int v :: .ref a :: st) := cp_put O cp_cX4 (j := 3) (by decide) fl_X4_21 rfl (ty := .boolean) (by decide +kernel) (cp_narb hv) rfl hs hd k
theorem fl_X1_188 : cp_lk RX1 188 TX4 3 := cp_TG_in (i := 71) (by decide +kernel) (by decide +kernel)
theorem fg_X1_188 (O : cp_Ok x E RX1 bc nL d mc ms) {a : Nat} (hs : sh a = (5, 0)) (hd : decode bc pc = .ok (.getfield 188, 3)) (k : cp_G x E nL cells slots cnt sh I R (pc + 3) L (.int (I a 3) :: st)) : cp_G x E nL cells slots cnt sh I R pc L (.ref a :: st) := cp_get O cp_cX4 (j := 3) (by decide) fl_X1_188 hs hd k
theorem fp_X1_188 (O : cp_Ok x E RX1 bc nL d mc ms) {a : Nat} {v : Int32} (hs : sh a = (5, 0)) (hv : v = 0 ∨ v = 1) (hd : decode bc pc = .ok (.putfield 188, 3)) (k : cp_G x E nL cells slots cnt sh (cp_wi I a 3 v) R (pc + 3) L st) : cp_G x E nL cells slots cnt sh I R pc L (.int v :: .ref a :: st) := cp_put O cp_cX4 (j := 3) (by decide) fl_X1_188 rfl (ty := .boolean) (by decide +kernel) (cp_narb hv) rfl hs hd k
theorem fl_X4_25 : cp_lk RX4 25 TX4 4 := cp_TG_in (i := 72) (by decide +kernel) (by decide +kernel)
theorem fg_X4_25 (O : cp_Ok x E RX4 bc nL d mc ms) {a : Nat} (hs : sh a = (5, 0)) (hd : decode bc pc = .ok (.getfield 25, 3)) (k : cp_G x E nL cells slots cnt sh I R (pc + 3) L (.int (I a 4) :: st)) : cp_G x E nL cells slots cnt sh I R pc L (.ref a :: st) := cp_get O cp_cX4 (j := 4) (by decide) fl_X4_25 hs hd k
theorem fp_X4_25 (O : cp_Ok x E RX4 bc nL d mc ms) {a : Nat} {v : Int32} (hs : sh a = (5, 0)) (hd : decode bc pc = .ok (.putfield 25, 3)) (k : cp_G x E nL cells slots cnt sh (cp_wi I a 4 v) R (pc + 3) L st) : cp_G x E nL cells slots cnt sh I R pc L (.int v :: .ref a :: st) := cp_put O cp_cX4 (j := 4) (by decide) fl_X4_25 rfl (ty := .int) (by decide +kernel) ⟨rfl, rfl⟩ rfl hs hd k
theorem fl_X1_64 : cp_lk RX1 64 TX4 4 := cp_TG_in (i := 73) (by decide +kernel) (by decide +kernel)
theorem fg_X1_64 (O : cp_Ok x E RX1 bc nL d mc ms) {a : Nat} (hs : sh a = (5, 0)) (hd : decode bc pc = .ok (.getfield 64, 3)) (k : cp_G x E nL cells slots cnt sh I R (pc + 3) L (.int (I a 4) :: st)) : cp_G x E nL cells slots cnt sh I R pc L (.ref a :: st) := cp_get O cp_cX4 (j := 4) (by decide) fl_X1_64 hs hd k
theorem fp_X1_64 (O : cp_Ok x E RX1 bc nL d mc ms) {a : Nat} {v : Int32} (hs : sh a = (5, 0)) (hd : decode bc pc = .ok (.putfield 64, 3)) (k : cp_G x E nL cells slots cnt sh (cp_wi I a 4 v) R (pc + 3) L st) : cp_G x E nL cells slots cnt sh I R pc L (.int v :: .ref a :: st) := cp_put O cp_cX4 (j := 4) (by decide) fl_X1_64 rfl (ty := .int) (by decide +kernel) ⟨rfl, rfl⟩ rfl hs hd k
theorem fl_X4_28 : cp_lk RX4 28 TX4 5 := cp_TG_in (i := 74) (by decide +kernel) (by decide +kernel)
theorem fg_X4_28 (O : cp_Ok x E RX4 bc nL d mc ms) {a : Nat} (hs : sh a = (5, 0)) (hd : decode bc pc = .ok (.getfield 28, 3)) (k : cp_G x E nL cells slots cnt sh I R (pc + 3) L (.int (I a 5) :: st)) : cp_G x E nL cells slots cnt sh I R pc L (.ref a :: st) := cp_get O cp_cX4 (j := 5) (by decide) fl_X4_28 hs hd k
theorem fp_X4_28 (O : cp_Ok x E RX4 bc nL d mc ms) {a : Nat} {v : Int32} (hs : sh a = (5, 0)) (hv : v = 0 ∨ v = 1) (hd : decode bc pc = .ok (.putfield 28, 3)) (k : cp_G x E nL cells slots cnt sh (cp_wi I a 5 v) R (pc + 3) L st) : cp_G x E nL cells slots cnt sh I R pc L (.int v :: .ref a :: st) := cp_put O cp_cX4 (j := 5) (by decide) fl_X4_28 rfl (ty := .boolean) (by decide +kernel) (cp_narb hv) rfl hs hd k
theorem fl_X1_85 : cp_lk RX1 85 TX4 5 := cp_TG_in (i := 75) (by decide +kernel) (by decide +kernel)
theorem fg_X1_85 (O : cp_Ok x E RX1 bc nL d mc ms) {a : Nat} (hs : sh a = (5, 0)) (hd : decode bc pc = .ok (.getfield 85, 3)) (k : cp_G x E nL cells slots cnt sh I R (pc + 3) L (.int (I a 5) :: st)) : cp_G x E nL cells slots cnt sh I R pc L (.ref a :: st) := cp_get O cp_cX4 (j := 5) (by decide) fl_X1_85 hs hd k
theorem fp_X1_85 (O : cp_Ok x E RX1 bc nL d mc ms) {a : Nat} {v : Int32} (hs : sh a = (5, 0)) (hv : v = 0 ∨ v = 1) (hd : decode bc pc = .ok (.putfield 85, 3)) (k : cp_G x E nL cells slots cnt sh (cp_wi I a 5 v) R (pc + 3) L st) : cp_G x E nL cells slots cnt sh I R pc L (.int v :: .ref a :: st) := cp_put O cp_cX4 (j := 5) (by decide) fl_X1_85 rfl (ty := .boolean) (by decide +kernel) (cp_narb hv) rfl hs hd k
theorem fl_X4_31 : cp_lk RX4 31 TX4 6 := cp_TG_in (i := 76) (by decide +kernel) (by decide +kernel)
theorem fg_X4_31 (O : cp_Ok x E RX4 bc nL d mc ms) {a : Nat} (hs : sh a = (5, 0)) (hd : decode bc pc = .ok (.getfield 31, 3)) (k : cp_G x E nL cells slots cnt sh I R (pc + 3) L (.int (I a 6) :: st)) : cp_G x E nL cells slots cnt sh I R pc L (.ref a :: st) := cp_get O cp_cX4 (j := 6) (by decide) fl_X4_31 hs hd k
theorem fp_X4_31 (O : cp_Ok x E RX4 bc nL d mc ms) {a : Nat} {v : Int32} (hs : sh a = (5, 0)) (hd : decode bc pc = .ok (.putfield 31, 3)) (k : cp_G x E nL cells slots cnt sh (cp_wi I a 6 v) R (pc + 3) L st) : cp_G x E nL cells slots cnt sh I R pc L (.int v :: .ref a :: st) := cp_put O cp_cX4 (j := 6) (by decide) fl_X4_31 rfl (ty := .int) (by decide +kernel) ⟨rfl, rfl⟩ rfl hs hd k
theorem fl_X1_191 : cp_lk RX1 191 TX4 6 := cp_TG_in (i := 77) (by decide +kernel) (by decide +kernel)
theorem fg_X1_191 (O : cp_Ok x E RX1 bc nL d mc ms) {a : Nat} (hs : sh a = (5, 0)) (hd : decode bc pc = .ok (.getfield 191, 3)) (k : cp_G x E nL cells slots cnt sh I R (pc + 3) L (.int (I a 6) :: st)) : cp_G x E nL cells slots cnt sh I R pc L (.ref a :: st) := cp_get O cp_cX4 (j := 6) (by decide) fl_X1_191 hs hd k
theorem fp_X1_191 (O : cp_Ok x E RX1 bc nL d mc ms) {a : Nat} {v : Int32} (hs : sh a = (5, 0)) (hd : decode bc pc = .ok (.putfield 191, 3)) (k : cp_G x E nL cells slots cnt sh (cp_wi I a 6 v) R (pc + 3) L st) : cp_G x E nL cells slots cnt sh I R pc L (.int v :: .ref a :: st) := cp_put O cp_cX4 (j := 6) (by decide) fl_X1_191 rfl (ty := .int) (by decide +kernel) ⟨rfl, rfl⟩ rfl hs hd k
theorem fl_X4_34 : cp_lk RX4 34 TX4 7 := cp_TG_in (i := 78) (by decide +kernel) (by decide +kernel)
theorem fg_X4_34 (O : cp_Ok x E RX4 bc nL d mc ms) {a : Nat} (hs : sh a = (5, 0)) (hd : decode bc pc = .ok (.getfield 34, 3)) (k : cp_G x E nL cells slots cnt sh I R (pc + 3) L (.int (I a 7) :: st)) : cp_G x E nL cells slots cnt sh I R pc L (.ref a :: st) := cp_get O cp_cX4 (j := 7) (by decide) fl_X4_34 hs hd k
theorem fp_X4_34 (O : cp_Ok x E RX4 bc nL d mc ms) {a : Nat} {v : Int32} (hs : sh a = (5, 0)) (hd : decode bc pc = .ok (.putfield 34, 3)) (k : cp_G x E nL cells slots cnt sh (cp_wi I a 7 v) R (pc + 3) L st) : cp_G x E nL cells slots cnt sh I R pc L (.int v :: .ref a :: st) := cp_put O cp_cX4 (j := 7) (by decide) fl_X4_34 rfl (ty := .int) (by decide +kernel) ⟨rfl, rfl⟩ rfl hs hd k
theorem fl_X1_194 : cp_lk RX1 194 TX4 7 := cp_TG_in (i := 79) (by decide +kernel) (by decide +kernel)
theorem fg_X1_194 (O : cp_Ok x E RX1 bc nL d mc ms) {a : Nat} (hs : sh a = (5, 0)) (hd : decode bc pc = .ok (.getfield 194, 3)) (k : cp_G x E nL cells slots cnt sh I R (pc + 3) L (.int (I a 7) :: st)) : cp_G x E nL cells slots cnt sh I R pc L (.ref a :: st) := cp_get O cp_cX4 (j := 7) (by decide) fl_X1_194 hs hd k
theorem fp_X1_194 (O : cp_Ok x E RX1 bc nL d mc ms) {a : Nat} {v : Int32} (hs : sh a = (5, 0)) (hd : decode bc pc = .ok (.putfield 194, 3)) (k : cp_G x E nL cells slots cnt sh (cp_wi I a 7 v) R (pc + 3) L st) : cp_G x E nL cells slots cnt sh I R pc L (.int v :: .ref a :: st) := cp_put O cp_cX4 (j := 7) (by decide) fl_X1_194 rfl (ty := .int) (by decide +kernel) ⟨rfl, rfl⟩ rfl hs hd k
theorem fl_X4_37 : cp_lk RX4 37 TX4 8 := cp_TG_in (i := 80) (by decide +kernel) (by decide +kernel)
theorem fg_X4_37 (O : cp_Ok x E RX4 bc nL d mc ms) {a : Nat} (hs : sh a = (5, 0)) (hd : decode bc pc = .ok (.getfield 37, 3)) (k : cp_G x E nL cells slots cnt sh I R (pc + 3) L (.int (I a 8) :: st)) : cp_G x E nL cells slots cnt sh I R pc L (.ref a :: st) := cp_get O cp_cX4 (j := 8) (by decide) fl_X4_37 hs hd k
theorem fp_X4_37 (O : cp_Ok x E RX4 bc nL d mc ms) {a : Nat} {v : Int32} (hs : sh a = (5, 0)) (hd : decode bc pc = .ok (.putfield 37, 3)) (k : cp_G x E nL cells slots cnt sh (cp_wi I a 8 v) R (pc + 3) L st) : cp_G x E nL cells slots cnt sh I R pc L (.int v :: .ref a :: st) := cp_put O cp_cX4 (j := 8) (by decide) fl_X4_37 rfl (ty := .int) (by decide +kernel) ⟨rfl, rfl⟩ rfl hs hd k
theorem fl_X1_159 : cp_lk RX1 159 TX4 8 := cp_TG_in (i := 81) (by decide +kernel) (by decide +kernel)
theorem fg_X1_159 (O : cp_Ok x E RX1 bc nL d mc ms) {a : Nat} (hs : sh a = (5, 0)) (hd : decode bc pc = .ok (.getfield 159, 3)) (k : cp_G x E nL cells slots cnt sh I R (pc + 3) L (.int (I a 8) :: st)) : cp_G x E nL cells slots cnt sh I R pc L (.ref a :: st) := cp_get O cp_cX4 (j := 8) (by decide) fl_X1_159 hs hd k
theorem fp_X1_159 (O : cp_Ok x E RX1 bc nL d mc ms) {a : Nat} {v : Int32} (hs : sh a = (5, 0)) (hd : decode bc pc = .ok (.putfield 159, 3)) (k : cp_G x E nL cells slots cnt sh (cp_wi I a 8 v) R (pc + 3) L st) : cp_G x E nL cells slots cnt sh I R pc L (.int v :: .ref a :: st) := cp_put O cp_cX4 (j := 8) (by decide) fl_X1_159 rfl (ty := .int) (by decide +kernel) ⟨rfl, rfl⟩ rfl hs hd k
theorem fl_X4_40 : cp_lk RX4 40 TX4 9 := cp_TG_in (i := 82) (by decide +kernel) (by decide +kernel)
theorem fg_X4_40 (O : cp_Ok x E RX4 bc nL d mc ms) {a : Nat} (hs : sh a = (5, 0)) (hd : decode bc pc = .ok (.getfield 40, 3)) (k : cp_G x E nL cells slots cnt sh I R (pc + 3) L (.int (I a 9) :: st)) : cp_G x E nL cells slots cnt sh I R pc L (.ref a :: st) := cp_get O cp_cX4 (j := 9) (by decide) fl_X4_40 hs hd k
theorem fp_X4_40 (O : cp_Ok x E RX4 bc nL d mc ms) {a : Nat} {v : Int32} (hs : sh a = (5, 0)) (hd : decode bc pc = .ok (.putfield 40, 3)) (k : cp_G x E nL cells slots cnt sh (cp_wi I a 9 v) R (pc + 3) L st) : cp_G x E nL cells slots cnt sh I R pc L (.int v :: .ref a :: st) := cp_put O cp_cX4 (j := 9) (by decide) fl_X4_40 rfl (ty := .int) (by decide +kernel) ⟨rfl, rfl⟩ rfl hs hd k
theorem fl_X1_132 : cp_lk RX1 132 TX4 9 := cp_TG_in (i := 83) (by decide +kernel) (by decide +kernel)
theorem fg_X1_132 (O : cp_Ok x E RX1 bc nL d mc ms) {a : Nat} (hs : sh a = (5, 0)) (hd : decode bc pc = .ok (.getfield 132, 3)) (k : cp_G x E nL cells slots cnt sh I R (pc + 3) L (.int (I a 9) :: st)) : cp_G x E nL cells slots cnt sh I R pc L (.ref a :: st) := cp_get O cp_cX4 (j := 9) (by decide) fl_X1_132 hs hd k
theorem fp_X1_132 (O : cp_Ok x E RX1 bc nL d mc ms) {a : Nat} {v : Int32} (hs : sh a = (5, 0)) (hd : decode bc pc = .ok (.putfield 132, 3)) (k : cp_G x E nL cells slots cnt sh (cp_wi I a 9 v) R (pc + 3) L st) : cp_G x E nL cells slots cnt sh I R pc L (.int v :: .ref a :: st) := cp_put O cp_cX4 (j := 9) (by decide) fl_X1_132 rfl (ty := .int) (by decide +kernel) ⟨rfl, rfl⟩ rfl hs hd k
theorem fl_X5_7 : cp_lk RX5 7 TX5 0 := cp_TG_in (i := 113) (by decide +kernel) (by decide +kernel)
theorem fg_X5_7 (O : cp_Ok x E RX5 bc nL d mc ms) {a : Nat} (hs : sh a = (6, 0)) (hd : decode bc pc = .ok (.getfield 7, 3)) (k : cp_G x E nL cells slots cnt sh I R (pc + 3) L (.int (I a 0) :: st)) : cp_G x E nL cells slots cnt sh I R pc L (.ref a :: st) := cp_get O cp_cX5 (j := 0) (by decide) fl_X5_7 hs hd k
theorem fp_X5_7 (O : cp_Ok x E RX5 bc nL d mc ms) {a : Nat} {v : Int32} (hs : sh a = (6, 0)) (hd : decode bc pc = .ok (.putfield 7, 3)) (k : cp_G x E nL cells slots cnt sh (cp_wi I a 0 v) R (pc + 3) L st) : cp_G x E nL cells slots cnt sh I R pc L (.int v :: .ref a :: st) := cp_put O cp_cX5 (j := 0) (by decide) fl_X5_7 rfl (ty := .int) (by decide +kernel) ⟨rfl, rfl⟩ rfl hs hd k
theorem fl_X1_174 : cp_lk RX1 174 TX5 0 := cp_TG_in (i := 114) (by decide +kernel) (by decide +kernel)
theorem fg_X1_174 (O : cp_Ok x E RX1 bc nL d mc ms) {a : Nat} (hs : sh a = (6, 0)) (hd : decode bc pc = .ok (.getfield 174, 3)) (k : cp_G x E nL cells slots cnt sh I R (pc + 3) L (.int (I a 0) :: st)) : cp_G x E nL cells slots cnt sh I R pc L (.ref a :: st) := cp_get O cp_cX5 (j := 0) (by decide) fl_X1_174 hs hd k
theorem fp_X1_174 (O : cp_Ok x E RX1 bc nL d mc ms) {a : Nat} {v : Int32} (hs : sh a = (6, 0)) (hd : decode bc pc = .ok (.putfield 174, 3)) (k : cp_G x E nL cells slots cnt sh (cp_wi I a 0 v) R (pc + 3) L st) : cp_G x E nL cells slots cnt sh I R pc L (.int v :: .ref a :: st) := cp_put O cp_cX5 (j := 0) (by decide) fl_X1_174 rfl (ty := .int) (by decide +kernel) ⟨rfl, rfl⟩ rfl hs hd k
theorem fl_X5_13 : cp_lk RX5 13 TX5 1 := cp_TG_in (i := 115) (by decide +kernel) (by decide +kernel)
theorem fg_X5_13 (O : cp_Ok x E RX5 bc nL d mc ms) {a : Nat} (hs : sh a = (6, 0)) (hd : decode bc pc = .ok (.getfield 13, 3)) (k : cp_G x E nL cells slots cnt sh I R (pc + 3) L (.int (I a 1) :: st)) : cp_G x E nL cells slots cnt sh I R pc L (.ref a :: st) := cp_get O cp_cX5 (j := 1) (by decide) fl_X5_13 hs hd k
theorem fp_X5_13 (O : cp_Ok x E RX5 bc nL d mc ms) {a : Nat} {v : Int32} (hs : sh a = (6, 0)) (hv : v = 0 ∨ v = 1) (hd : decode bc pc = .ok (.putfield 13, 3)) (k : cp_G x E nL cells slots cnt sh (cp_wi I a 1 v) R (pc + 3) L st) : cp_G x E nL cells slots cnt sh I R pc L (.int v :: .ref a :: st) := cp_put O cp_cX5 (j := 1) (by decide) fl_X5_13 rfl (ty := .boolean) (by decide +kernel) (cp_narb hv) rfl hs hd k
theorem fl_X1_203 : cp_lk RX1 203 TX5 1 := cp_TG_in (i := 116) (by decide +kernel) (by decide +kernel)
theorem fg_X1_203 (O : cp_Ok x E RX1 bc nL d mc ms) {a : Nat} (hs : sh a = (6, 0)) (hd : decode bc pc = .ok (.getfield 203, 3)) (k : cp_G x E nL cells slots cnt sh I R (pc + 3) L (.int (I a 1) :: st)) : cp_G x E nL cells slots cnt sh I R pc L (.ref a :: st) := cp_get O cp_cX5 (j := 1) (by decide) fl_X1_203 hs hd k
theorem fp_X1_203 (O : cp_Ok x E RX1 bc nL d mc ms) {a : Nat} {v : Int32} (hs : sh a = (6, 0)) (hv : v = 0 ∨ v = 1) (hd : decode bc pc = .ok (.putfield 203, 3)) (k : cp_G x E nL cells slots cnt sh (cp_wi I a 1 v) R (pc + 3) L st) : cp_G x E nL cells slots cnt sh I R pc L (.int v :: .ref a :: st) := cp_put O cp_cX5 (j := 1) (by decide) fl_X1_203 rfl (ty := .boolean) (by decide +kernel) (cp_narb hv) rfl hs hd k
theorem fl_X5_17 : cp_lk RX5 17 TX5 2 := cp_TG_in (i := 117) (by decide +kernel) (by decide +kernel)
theorem fg_X5_17 (O : cp_Ok x E RX5 bc nL d mc ms) {a : Nat} (hs : sh a = (6, 0)) (hd : decode bc pc = .ok (.getfield 17, 3)) (k : cp_G x E nL cells slots cnt sh I R (pc + 3) L (.int (I a 2) :: st)) : cp_G x E nL cells slots cnt sh I R pc L (.ref a :: st) := cp_get O cp_cX5 (j := 2) (by decide) fl_X5_17 hs hd k
theorem fp_X5_17 (O : cp_Ok x E RX5 bc nL d mc ms) {a : Nat} {v : Int32} (hs : sh a = (6, 0)) (hd : decode bc pc = .ok (.putfield 17, 3)) (k : cp_G x E nL cells slots cnt sh (cp_wi I a 2 v) R (pc + 3) L st) : cp_G x E nL cells slots cnt sh I R pc L (.int v :: .ref a :: st) := cp_put O cp_cX5 (j := 2) (by decide) fl_X5_17 rfl (ty := .int) (by decide +kernel) ⟨rfl, rfl⟩ rfl hs hd k
theorem fl_X1_113 : cp_lk RX1 113 TX5 2 := cp_TG_in (i := 118) (by decide +kernel) (by decide +kernel)
theorem fg_X1_113 (O : cp_Ok x E RX1 bc nL d mc ms) {a : Nat} (hs : sh a = (6, 0)) (hd : decode bc pc = .ok (.getfield 113, 3)) (k : cp_G x E nL cells slots cnt sh I R (pc + 3) L (.int (I a 2) :: st)) : cp_G x E nL cells slots cnt sh I R pc L (.ref a :: st) := cp_get O cp_cX5 (j := 2) (by decide) fl_X1_113 hs hd k
theorem fp_X1_113 (O : cp_Ok x E RX1 bc nL d mc ms) {a : Nat} {v : Int32} (hs : sh a = (6, 0)) (hd : decode bc pc = .ok (.putfield 113, 3)) (k : cp_G x E nL cells slots cnt sh (cp_wi I a 2 v) R (pc + 3) L st) : cp_G x E nL cells slots cnt sh I R pc L (.int v :: .ref a :: st) := cp_put O cp_cX5 (j := 2) (by decide) fl_X1_113 rfl (ty := .int) (by decide +kernel) ⟨rfl, rfl⟩ rfl hs hd k
theorem fl_X1_18 : cp_lk RX1 18 TX1 0 := cp_TG_in (i := 126) (by decide +kernel) (by decide +kernel)
theorem fg_X1_18 (O : cp_Ok x E RX1 bc nL d mc ms) {a y : Nat} (hs : sh a = (2, 0)) (hr : R a 0 = some y) (hd : decode bc pc = .ok (.getfield 18, 3)) (k : cp_G x E nL cells slots cnt sh I R (pc + 3) L (.ref y :: st)) : cp_G x E nL cells slots cnt sh I R pc L (.ref a :: st) := cp_getr O cp_cX1 (j := 0) (by decide) fl_X1_18 rfl hs hr hd k
theorem fl_X1_23 : cp_lk RX1 23 TX1 1 := cp_TG_in (i := 127) (by decide +kernel) (by decide +kernel)
theorem fg_X1_23 (O : cp_Ok x E RX1 bc nL d mc ms) {a : Nat} (hs : sh a = (2, 0)) (hd : decode bc pc = .ok (.getfield 23, 3)) (k : cp_G x E nL cells slots cnt sh I R (pc + 3) L (.int (I a 1) :: st)) : cp_G x E nL cells slots cnt sh I R pc L (.ref a :: st) := cp_get O cp_cX1 (j := 1) (by decide) fl_X1_23 hs hd k
theorem fp_X1_23 (O : cp_Ok x E RX1 bc nL d mc ms) {a : Nat} {v : Int32} (hs : sh a = (2, 0)) (hd : decode bc pc = .ok (.putfield 23, 3)) (k : cp_G x E nL cells slots cnt sh (cp_wi I a 1 v) R (pc + 3) L st) : cp_G x E nL cells slots cnt sh I R pc L (.int v :: .ref a :: st) := cp_put O cp_cX1 (j := 1) (by decide) fl_X1_23 rfl (ty := .int) (by decide +kernel) ⟨rfl, rfl⟩ rfl hs hd k
theorem fl_X1_29 : cp_lk RX1 29 TX1 2 := cp_TG_in (i := 128) (by decide +kernel) (by decide +kernel)
theorem fg_X1_29 (O : cp_Ok x E RX1 bc nL d mc ms) {a y : Nat} (hs : sh a = (2, 0)) (hr : R a 2 = some y) (hd : decode bc pc = .ok (.getfield 29, 3)) (k : cp_G x E nL cells slots cnt sh I R (pc + 3) L (.ref y :: st)) : cp_G x E nL cells slots cnt sh I R pc L (.ref a :: st) := cp_getr O cp_cX1 (j := 2) (by decide) fl_X1_29 rfl hs hr hd k
theorem fl_X1_34 : cp_lk RX1 34 TX1 3 := cp_TG_in (i := 129) (by decide +kernel) (by decide +kernel)
theorem fg_X1_34 (O : cp_Ok x E RX1 bc nL d mc ms) {a : Nat} (hs : sh a = (2, 0)) (hd : decode bc pc = .ok (.getfield 34, 3)) (k : cp_G x E nL cells slots cnt sh I R (pc + 3) L (.int (I a 3) :: st)) : cp_G x E nL cells slots cnt sh I R pc L (.ref a :: st) := cp_get O cp_cX1 (j := 3) (by decide) fl_X1_34 hs hd k
theorem fp_X1_34 (O : cp_Ok x E RX1 bc nL d mc ms) {a : Nat} {v : Int32} (hs : sh a = (2, 0)) (hd : decode bc pc = .ok (.putfield 34, 3)) (k : cp_G x E nL cells slots cnt sh (cp_wi I a 3 v) R (pc + 3) L st) : cp_G x E nL cells slots cnt sh I R pc L (.int v :: .ref a :: st) := cp_put O cp_cX1 (j := 3) (by decide) fl_X1_34 rfl (ty := .int) (by decide +kernel) ⟨rfl, rfl⟩ rfl hs hd k
theorem fl_X1_39 : cp_lk RX1 39 TX1 4 := cp_TG_in (i := 130) (by decide +kernel) (by decide +kernel)
theorem fg_X1_39 (O : cp_Ok x E RX1 bc nL d mc ms) {a y : Nat} (hs : sh a = (2, 0)) (hr : R a 4 = some y) (hd : decode bc pc = .ok (.getfield 39, 3)) (k : cp_G x E nL cells slots cnt sh I R (pc + 3) L (.ref y :: st)) : cp_G x E nL cells slots cnt sh I R pc L (.ref a :: st) := cp_getr O cp_cX1 (j := 4) (by decide) fl_X1_39 rfl hs hr hd k
theorem fl_X1_44 : cp_lk RX1 44 TX1 5 := cp_TG_in (i := 131) (by decide +kernel) (by decide +kernel)
theorem fg_X1_44 (O : cp_Ok x E RX1 bc nL d mc ms) {a : Nat} (hs : sh a = (2, 0)) (hd : decode bc pc = .ok (.getfield 44, 3)) (k : cp_G x E nL cells slots cnt sh I R (pc + 3) L (.int (I a 5) :: st)) : cp_G x E nL cells slots cnt sh I R pc L (.ref a :: st) := cp_get O cp_cX1 (j := 5) (by decide) fl_X1_44 hs hd k
theorem fp_X1_44 (O : cp_Ok x E RX1 bc nL d mc ms) {a : Nat} {v : Int32} (hs : sh a = (2, 0)) (hd : decode bc pc = .ok (.putfield 44, 3)) (k : cp_G x E nL cells slots cnt sh (cp_wi I a 5 v) R (pc + 3) L st) : cp_G x E nL cells slots cnt sh I R pc L (.int v :: .ref a :: st) := cp_put O cp_cX1 (j := 5) (by decide) fl_X1_44 rfl (ty := .int) (by decide +kernel) ⟨rfl, rfl⟩ rfl hs hd k
theorem fl_X0_11 : cp_lk RX0 11 TX0 0 := cp_TG_in (i := 154) (by decide +kernel) (by decide +kernel)
theorem fg_X0_11 (O : cp_Ok x E RX0 bc nL d mc ms) {a y : Nat} (hs : sh a = (1, 0)) (hr : R a 0 = some y) (hd : decode bc pc = .ok (.getfield 11, 3)) (k : cp_G x E nL cells slots cnt sh I R (pc + 3) L (.ref y :: st)) : cp_G x E nL cells slots cnt sh I R pc L (.ref a :: st) := cp_getr O cp_cX0 (j := 0) (by decide) fl_X0_11 rfl hs hr hd k
theorem fl_X0_18 : cp_lk RX0 18 TX0 1 := cp_TG_in (i := 155) (by decide +kernel) (by decide +kernel)
theorem fg_X0_18 (O : cp_Ok x E RX0 bc nL d mc ms) {a : Nat} (hs : sh a = (1, 0)) (hd : decode bc pc = .ok (.getfield 18, 3)) (k : cp_G x E nL cells slots cnt sh I R (pc + 3) L (.int (I a 1) :: st)) : cp_G x E nL cells slots cnt sh I R pc L (.ref a :: st) := cp_get O cp_cX0 (j := 1) (by decide) fl_X0_18 hs hd k
theorem fp_X0_18 (O : cp_Ok x E RX0 bc nL d mc ms) {a : Nat} {v : Int32} (hs : sh a = (1, 0)) (hd : decode bc pc = .ok (.putfield 18, 3)) (k : cp_G x E nL cells slots cnt sh (cp_wi I a 1 v) R (pc + 3) L st) : cp_G x E nL cells slots cnt sh I R pc L (.int v :: .ref a :: st) := cp_put O cp_cX0 (j := 1) (by decide) fl_X0_18 rfl (ty := .int) (by decide +kernel) ⟨rfl, rfl⟩ rfl hs hd k
theorem fl_X0_22 : cp_lk RX0 22 TX0 2 := cp_TG_in (i := 156) (by decide +kernel) (by decide +kernel)
theorem fg_X0_22 (O : cp_Ok x E RX0 bc nL d mc ms) {a : Nat} (hs : sh a = (1, 0)) (hd : decode bc pc = .ok (.getfield 22, 3)) (k : cp_G x E nL cells slots cnt sh I R (pc + 3) L (.int (I a 2) :: st)) : cp_G x E nL cells slots cnt sh I R pc L (.ref a :: st) := cp_get O cp_cX0 (j := 2) (by decide) fl_X0_22 hs hd k
theorem fp_X0_22 (O : cp_Ok x E RX0 bc nL d mc ms) {a : Nat} {v : Int32} (hs : sh a = (1, 0)) (hd : decode bc pc = .ok (.putfield 22, 3)) (k : cp_G x E nL cells slots cnt sh (cp_wi I a 2 v) R (pc + 3) L st) : cp_G x E nL cells slots cnt sh I R pc L (.int v :: .ref a :: st) := cp_put O cp_cX0 (j := 2) (by decide) fl_X0_22 rfl (ty := .int) (by decide +kernel) ⟨rfl, rfl⟩ rfl hs hd k
theorem fl_X6_84 : cp_lk RX6 84 TX0 2 := cp_TG_in (i := 157) (by decide +kernel) (by decide +kernel)
theorem fg_X6_84 (O : cp_Ok x E RX6 bc nL d mc ms) {a : Nat} (hs : sh a = (1, 0)) (hd : decode bc pc = .ok (.getfield 84, 3)) (k : cp_G x E nL cells slots cnt sh I R (pc + 3) L (.int (I a 2) :: st)) : cp_G x E nL cells slots cnt sh I R pc L (.ref a :: st) := cp_get O cp_cX0 (j := 2) (by decide) fl_X6_84 hs hd k
theorem fp_X6_84 (O : cp_Ok x E RX6 bc nL d mc ms) {a : Nat} {v : Int32} (hs : sh a = (1, 0)) (hd : decode bc pc = .ok (.putfield 84, 3)) (k : cp_G x E nL cells slots cnt sh (cp_wi I a 2 v) R (pc + 3) L st) : cp_G x E nL cells slots cnt sh I R pc L (.int v :: .ref a :: st) := cp_put O cp_cX0 (j := 2) (by decide) fl_X6_84 rfl (ty := .int) (by decide +kernel) ⟨rfl, rfl⟩ rfl hs hd k
theorem fl_X3_9 : cp_lk RX3 9 TX3 0 := cp_TG_in (i := 171) (by decide +kernel) (by decide +kernel)
theorem fg_X3_9 (O : cp_Ok x E RX3 bc nL d mc ms) {a y : Nat} (hs : sh a = (4, 0)) (hr : R a 0 = some y) (hd : decode bc pc = .ok (.getfield 9, 3)) (k : cp_G x E nL cells slots cnt sh I R (pc + 3) L (.ref y :: st)) : cp_G x E nL cells slots cnt sh I R pc L (.ref a :: st) := cp_getr O cp_cX3 (j := 0) (by decide) fl_X3_9 rfl hs hr hd k
theorem fl_X3_15 : cp_lk RX3 15 TX3 1 := cp_TG_in (i := 172) (by decide +kernel) (by decide +kernel)
theorem fg_X3_15 (O : cp_Ok x E RX3 bc nL d mc ms) {a : Nat} (hs : sh a = (4, 0)) (hd : decode bc pc = .ok (.getfield 15, 3)) (k : cp_G x E nL cells slots cnt sh I R (pc + 3) L (.int (I a 1) :: st)) : cp_G x E nL cells slots cnt sh I R pc L (.ref a :: st) := cp_get O cp_cX3 (j := 1) (by decide) fl_X3_15 hs hd k
theorem fp_X3_15 (O : cp_Ok x E RX3 bc nL d mc ms) {a : Nat} {v : Int32} (hs : sh a = (4, 0)) (hd : decode bc pc = .ok (.putfield 15, 3)) (k : cp_G x E nL cells slots cnt sh (cp_wi I a 1 v) R (pc + 3) L st) : cp_G x E nL cells slots cnt sh I R pc L (.int v :: .ref a :: st) := cp_put O cp_cX3 (j := 1) (by decide) fl_X3_15 rfl (ty := .int) (by decide +kernel) ⟨rfl, rfl⟩ rfl hs hd k
theorem fl_X6_80 : cp_lk RX6 80 TX3 1 := cp_TG_in (i := 173) (by decide +kernel) (by decide +kernel)
theorem fg_X6_80 (O : cp_Ok x E RX6 bc nL d mc ms) {a : Nat} (hs : sh a = (4, 0)) (hd : decode bc pc = .ok (.getfield 80, 3)) (k : cp_G x E nL cells slots cnt sh I R (pc + 3) L (.int (I a 1) :: st)) : cp_G x E nL cells slots cnt sh I R pc L (.ref a :: st) := cp_get O cp_cX3 (j := 1) (by decide) fl_X6_80 hs hd k
theorem fp_X6_80 (O : cp_Ok x E RX6 bc nL d mc ms) {a : Nat} {v : Int32} (hs : sh a = (4, 0)) (hd : decode bc pc = .ok (.putfield 80, 3)) (k : cp_G x E nL cells slots cnt sh (cp_wi I a 1 v) R (pc + 3) L st) : cp_G x E nL cells slots cnt sh I R pc L (.int v :: .ref a :: st) := cp_put O cp_cX3 (j := 1) (by decide) fl_X6_80 rfl (ty := .int) (by decide +kernel) ⟨rfl, rfl⟩ rfl hs hd k
theorem fl_X2_9 : cp_lk RX2 9 TX2 0 := cp_TG_in (i := 186) (by decide +kernel) (by decide +kernel)
theorem fg_X2_9 (O : cp_Ok x E RX2 bc nL d mc ms) {a y : Nat} (hs : sh a = (3, 0)) (hr : R a 0 = some y) (hd : decode bc pc = .ok (.getfield 9, 3)) (k : cp_G x E nL cells slots cnt sh I R (pc + 3) L (.ref y :: st)) : cp_G x E nL cells slots cnt sh I R pc L (.ref a :: st) := cp_getr O cp_cX2 (j := 0) (by decide) fl_X2_9 rfl hs hr hd k
theorem fl_X6_10 : cp_lk RX6 10 TX6 0 := cp_TG_in (i := 202) (by decide +kernel) (by decide +kernel)
theorem fg_X6_10 (O : cp_Ok x E RX6 bc nL d mc ms) {a y : Nat} (hs : sh a = (7, 0)) (hr : R a 0 = some y) (hd : decode bc pc = .ok (.getfield 10, 3)) (k : cp_G x E nL cells slots cnt sh I R (pc + 3) L (.ref y :: st)) : cp_G x E nL cells slots cnt sh I R pc L (.ref a :: st) := cp_getr O cp_cX6 (j := 0) (by decide) fl_X6_10 rfl hs hr hd k
theorem fl_X6_16 : cp_lk RX6 16 TX6 1 := cp_TG_in (i := 203) (by decide +kernel) (by decide +kernel)
theorem fg_X6_16 (O : cp_Ok x E RX6 bc nL d mc ms) {a y : Nat} (hs : sh a = (7, 0)) (hr : R a 1 = some y) (hd : decode bc pc = .ok (.getfield 16, 3)) (k : cp_G x E nL cells slots cnt sh I R (pc + 3) L (.ref y :: st)) : cp_G x E nL cells slots cnt sh I R pc L (.ref a :: st) := cp_getr O cp_cX6 (j := 1) (by decide) fl_X6_16 rfl hs hr hd k
theorem fl_X6_22 : cp_lk RX6 22 TX6 2 := cp_TG_in (i := 204) (by decide +kernel) (by decide +kernel)
theorem fg_X6_22 (O : cp_Ok x E RX6 bc nL d mc ms) {a y : Nat} (hs : sh a = (7, 0)) (hr : R a 2 = some y) (hd : decode bc pc = .ok (.getfield 22, 3)) (k : cp_G x E nL cells slots cnt sh I R (pc + 3) L (.ref y :: st)) : cp_G x E nL cells slots cnt sh I R pc L (.ref a :: st) := cp_getr O cp_cX6 (j := 2) (by decide) fl_X6_22 rfl hs hr hd k
theorem fl_X6_26 : cp_lk RX6 26 TX6 3 := cp_TG_in (i := 205) (by decide +kernel) (by decide +kernel)
theorem fg_X6_26 (O : cp_Ok x E RX6 bc nL d mc ms) {a y : Nat} (hs : sh a = (7, 0)) (hr : R a 3 = some y) (hd : decode bc pc = .ok (.getfield 26, 3)) (k : cp_G x E nL cells slots cnt sh I R (pc + 3) L (.ref y :: st)) : cp_G x E nL cells slots cnt sh I R pc L (.ref a :: st) := cp_getr O cp_cX6 (j := 3) (by decide) fl_X6_26 rfl hs hr hd k
theorem fl_X6_33 : cp_lk RX6 33 TX6 4 := cp_TG_in (i := 206) (by decide +kernel) (by decide +kernel)
theorem fg_X6_33 (O : cp_Ok x E RX6 bc nL d mc ms) {a y : Nat} (hs : sh a = (7, 0)) (hr : R a 4 = some y) (hd : decode bc pc = .ok (.getfield 33, 3)) (k : cp_G x E nL cells slots cnt sh I R (pc + 3) L (.ref y :: st)) : cp_G x E nL cells slots cnt sh I R pc L (.ref a :: st) := cp_getr O cp_cX6 (j := 4) (by decide) fl_X6_33 rfl hs hr hd k
theorem fl_X6_42 : cp_lk RX6 42 TX6 5 := cp_TG_in (i := 207) (by decide +kernel) (by decide +kernel)
theorem fg_X6_42 (O : cp_Ok x E RX6 bc nL d mc ms) {a y : Nat} (hs : sh a = (7, 0)) (hr : R a 5 = some y) (hd : decode bc pc = .ok (.getfield 42, 3)) (k : cp_G x E nL cells slots cnt sh I R (pc + 3) L (.ref y :: st)) : cp_G x E nL cells slots cnt sh I R pc L (.ref a :: st) := cp_getr O cp_cX6 (j := 5) (by decide) fl_X6_42 rfl hs hr hd k
theorem fs_X1_67 (O : cp_Ok x E RX1 bc nL d mc ms) (hd : decode bc pc = .ok (.getstatic 67, 3)) (k : cp_G x E nL cells slots cnt sh I R (pc + 3) L (.ref (cp_ts E 1) :: st)) : cp_G x E nL cells slots cnt sh I R pc L st := cp_getsN O (by decide) (by decide +kernel) hd k
theorem fs_X1_70 (O : cp_Ok x E RX1 bc nL d mc ms) (hd : decode bc pc = .ok (.getstatic 70, 3)) (k : cp_G x E nL cells slots cnt sh I R (pc + 3) L (.ref (cp_ts E 2) :: st)) : cp_G x E nL cells slots cnt sh I R pc L st := cp_getsN O (by decide) (by decide +kernel) hd k
theorem fs_X6_125 (O : cp_Ok x E RX6 bc nL d mc ms) (hd : decode bc pc = .ok (.getstatic 125, 3)) (k : cp_G x E nL cells slots cnt sh I R (pc + 3) L (.ref (cp_ts E 2) :: st)) : cp_G x E nL cells slots cnt sh I R pc L st := cp_gets (q := 2) O (by decide) (cp_TG_in (i := 489) (by decide +kernel) (by decide +kernel)) hd k
theorem fs_X6_129 (O : cp_Ok x E RX6 bc nL d mc ms) (hd : decode bc pc = .ok (.getstatic 129, 3)) (k : cp_G x E nL cells slots cnt sh I R (pc + 3) L (.ref (cp_ts E 1) :: st)) : cp_G x E nL cells slots cnt sh I R pc L st := cp_gets (q := 1) O (by decide) (cp_TG_in (i := 490) (by decide +kernel) (by decide +kernel)) hd k
end CPF
