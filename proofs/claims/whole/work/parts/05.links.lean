theorem mf_X8_init : MF yX8_init cX8_init 2 none 0 := ⟨gtb_in (List.mem_of_getElem? (i := 86) (by decide +kernel)) rfl, gtb_in (List.mem_of_getElem? (i := 63) (by decide +kernel)) rfl, by decide +kernel, by decide⟩
theorem mf_X7_init : MF yX7_init cX7_init 2 none 0 := ⟨gtb_in (List.mem_of_getElem? (i := 94) (by decide +kernel)) rfl, gtb_in (List.mem_of_getElem? (i := 64) (by decide +kernel)) rfl, by decide +kernel, by decide⟩
theorem mf_X3_init : MF yX3_init cX3_init 2 none 1 := ⟨gtb_in (List.mem_of_getElem? (i := 102) (by decide +kernel)) rfl, gtb_in (List.mem_of_getElem? (i := 65) (by decide +kernel)) rfl, by decide +kernel, by decide⟩
theorem mf_X2_init : MF yX2_init cX2_init 1 none 0 := ⟨gtb_in (List.mem_of_getElem? (i := 124) (by decide +kernel)) rfl, gtb_in (List.mem_of_getElem? (i := 66) (by decide +kernel)) rfl, by decide +kernel, by decide⟩
theorem mf_X6_init : MF yX6_init cX6_init 1 none 0 := ⟨gtb_in (List.mem_of_getElem? (i := 220) (by decide +kernel)) rfl, gtb_in (List.mem_of_getElem? (i := 67) (by decide +kernel)) rfl, by decide +kernel, by decide⟩
theorem mf_X5_init : MF yX5_init cX5_init 1 none 0 := ⟨gtb_in (List.mem_of_getElem? (i := 246) (by decide +kernel)) rfl, gtb_in (List.mem_of_getElem? (i := 68) (by decide +kernel)) rfl, by decide +kernel, by decide⟩
theorem mf_X0_init : MF yX0_init cX0_init 1 none 0 := ⟨gtb_in (List.mem_of_getElem? (i := 270) (by decide +kernel)) rfl, gtb_in (List.mem_of_getElem? (i := 69) (by decide +kernel)) rfl, by decide +kernel, by decide⟩
theorem mf_X1_init : MF yX1_init cX1_init 1 none 0 := ⟨gtb_in (List.mem_of_getElem? (i := 293) (by decide +kernel)) rfl, gtb_in (List.mem_of_getElem? (i := 70) (by decide +kernel)) rfl, by decide +kernel, by decide⟩
theorem mf_X4_init : MF yX4_init cX4_init 1 none 0 := ⟨gtb_in (List.mem_of_getElem? (i := 313) (by decide +kernel)) rfl, gtb_in (List.mem_of_getElem? (i := 71) (by decide +kernel)) rfl, by decide +kernel, by decide⟩
theorem mf_X8_bridge : MF yX8_bridge cX8_bridge 3 (some .int) 2 := ⟨gtb_in (List.mem_of_getElem? (i := 362) (by decide +kernel)) rfl, gtb_in (List.mem_of_getElem? (i := 63) (by decide +kernel)) rfl, by decide +kernel, by decide⟩
theorem mv_X8_bridge : MV yX8_bridge := ⟨gtb_in (List.mem_of_getElem? (i := 360) (by decide +kernel)) rfl, gtb_in (List.mem_of_getElem? (i := 361) (by decide +kernel)) rfl⟩
theorem mf_X8_isQuarter : MF yX8_isQuarter cX8_isQuarter 1 (some .boolean) 1 := ⟨gtb_in (List.mem_of_getElem? (i := 365) (by decide +kernel)) rfl, gtb_in (List.mem_of_getElem? (i := 63) (by decide +kernel)) rfl, by decide +kernel, by decide⟩
theorem ms_X8_isQuarter : Cond.static yX8_isQuarter ∈ gtb := gtb_in (List.mem_of_getElem? (i := 364) (by decide +kernel)) rfl
theorem mf_X7_addBridge : MF yX7_addBridge cX7_addBridge 3 (some .int) 2 := ⟨gtb_in (List.mem_of_getElem? (i := 369) (by decide +kernel)) rfl, gtb_in (List.mem_of_getElem? (i := 64) (by decide +kernel)) rfl, by decide +kernel, by decide⟩
theorem mv_X7_addBridge : MV yX7_addBridge := ⟨gtb_in (List.mem_of_getElem? (i := 367) (by decide +kernel)) rfl, gtb_in (List.mem_of_getElem? (i := 368) (by decide +kernel)) rfl⟩
theorem mf_X8_one : MF yX8_one cX8_one 4 (some .int) 3 := ⟨gtb_in (List.mem_of_getElem? (i := 373) (by decide +kernel)) rfl, gtb_in (List.mem_of_getElem? (i := 63) (by decide +kernel)) rfl, by decide +kernel, by decide⟩
theorem mv_X8_one : MV yX8_one := ⟨gtb_in (List.mem_of_getElem? (i := 371) (by decide +kernel)) rfl, gtb_in (List.mem_of_getElem? (i := 372) (by decide +kernel)) rfl⟩
theorem mf_X7_addPerson : MF yX7_addPerson cX7_addPerson 4 (some .int) 3 := ⟨gtb_in (List.mem_of_getElem? (i := 377) (by decide +kernel)) rfl, gtb_in (List.mem_of_getElem? (i := 64) (by decide +kernel)) rfl, by decide +kernel, by decide⟩
theorem mv_X7_addPerson : MV yX7_addPerson := ⟨gtb_in (List.mem_of_getElem? (i := 375) (by decide +kernel)) rfl, gtb_in (List.mem_of_getElem? (i := 376) (by decide +kernel)) rfl⟩
theorem mf_X2_become : MF yX2_become cX2_become 4 none 3 := ⟨gtb_in (List.mem_of_getElem? (i := 381) (by decide +kernel)) rfl, gtb_in (List.mem_of_getElem? (i := 66) (by decide +kernel)) rfl, by decide +kernel, by decide⟩
theorem mv_X2_become : MV yX2_become := ⟨gtb_in (List.mem_of_getElem? (i := 379) (by decide +kernel)) rfl, gtb_in (List.mem_of_getElem? (i := 380) (by decide +kernel)) rfl⟩
theorem mf_J7_fill_53178 : MF yJ7_fill_53178 cJ7_fill_53178 4 none 2 := ⟨gtb_in (List.mem_of_getElem? (i := 384) (by decide +kernel)) rfl, gtb_in (List.mem_of_getElem? (i := 73) (by decide +kernel)) rfl, by decide +kernel, by decide⟩
theorem ms_J7_fill_53178 : Cond.static yJ7_fill_53178 ∈ gtb := gtb_in (List.mem_of_getElem? (i := 383) (by decide +kernel)) rfl
theorem mf_X8_of : MF yX8_of cX8_of 4 (some .int) 2 := ⟨gtb_in (List.mem_of_getElem? (i := 388) (by decide +kernel)) rfl, gtb_in (List.mem_of_getElem? (i := 63) (by decide +kernel)) rfl, by decide +kernel, by decide⟩
theorem mv_X8_of : MV yX8_of := ⟨gtb_in (List.mem_of_getElem? (i := 386) (by decide +kernel)) rfl, gtb_in (List.mem_of_getElem? (i := 387) (by decide +kernel)) rfl⟩
theorem mf_X8_isPerson : MF yX8_isPerson cX8_isPerson 2 (some .boolean) 1 := ⟨gtb_in (List.mem_of_getElem? (i := 392) (by decide +kernel)) rfl, gtb_in (List.mem_of_getElem? (i := 63) (by decide +kernel)) rfl, by decide +kernel, by decide⟩
theorem mv_X8_isPerson : MV yX8_isPerson := ⟨gtb_in (List.mem_of_getElem? (i := 391) (by decide +kernel)) rfl, gtb_in (List.mem_of_getElem? (i := 0) (by decide +kernel)) rfl⟩
theorem mf_X6_reachable : MF yX6_reachable cX6_reachable 5 (some .int) 2 := ⟨gtb_in (List.mem_of_getElem? (i := 396) (by decide +kernel)) rfl, gtb_in (List.mem_of_getElem? (i := 67) (by decide +kernel)) rfl, by decide +kernel, by decide⟩
theorem mv_X6_reachable : MV yX6_reachable := ⟨gtb_in (List.mem_of_getElem? (i := 394) (by decide +kernel)) rfl, gtb_in (List.mem_of_getElem? (i := 395) (by decide +kernel)) rfl⟩
theorem mf_X6_search : MF yX6_search cX6_search 16 (some .int) 3 := ⟨gtb_in (List.mem_of_getElem? (i := 400) (by decide +kernel)) rfl, gtb_in (List.mem_of_getElem? (i := 67) (by decide +kernel)) rfl, by decide +kernel, by decide⟩
theorem mv_X6_search : MV yX6_search := ⟨gtb_in (List.mem_of_getElem? (i := 398) (by decide +kernel)) rfl, gtb_in (List.mem_of_getElem? (i := 399) (by decide +kernel)) rfl⟩
theorem mf_X6_begin : MF yX6_begin cX6_begin 3 none 1 := ⟨gtb_in (List.mem_of_getElem? (i := 404) (by decide +kernel)) rfl, gtb_in (List.mem_of_getElem? (i := 67) (by decide +kernel)) rfl, by decide +kernel, by decide⟩
theorem mv_X6_begin : MV yX6_begin := ⟨gtb_in (List.mem_of_getElem? (i := 403) (by decide +kernel)) rfl, gtb_in (List.mem_of_getElem? (i := 1) (by decide +kernel)) rfl⟩
theorem mf_X6_meet : MF yX6_meet cX6_meet 3 (some .boolean) 2 := ⟨gtb_in (List.mem_of_getElem? (i := 409) (by decide +kernel)) rfl, gtb_in (List.mem_of_getElem? (i := 67) (by decide +kernel)) rfl, by decide +kernel, by decide⟩
theorem mv_X6_meet : MV yX6_meet := ⟨gtb_in (List.mem_of_getElem? (i := 408) (by decide +kernel)) rfl, gtb_in (List.mem_of_getElem? (i := 2) (by decide +kernel)) rfl⟩
theorem mf_J6_bitCount_0f7a4 : MF yJ6_bitCount_0f7a4 cJ6_bitCount_0f7a4 1 (some .int) 1 := ⟨gtb_in (List.mem_of_getElem? (i := 412) (by decide +kernel)) rfl, gtb_in (List.mem_of_getElem? (i := 74) (by decide +kernel)) rfl, by decide +kernel, by decide⟩
theorem ms_J6_bitCount_0f7a4 : Cond.static yJ6_bitCount_0f7a4 ∈ gtb := gtb_in (List.mem_of_getElem? (i := 411) (by decide +kernel)) rfl
theorem mf_X7_otherEnd : MF yX7_otherEnd cX7_otherEnd 3 (some .int) 2 := ⟨gtb_in (List.mem_of_getElem? (i := 419) (by decide +kernel)) rfl, gtb_in (List.mem_of_getElem? (i := 64) (by decide +kernel)) rfl, by decide +kernel, by decide⟩
theorem mv_X7_otherEnd : MV yX7_otherEnd := ⟨gtb_in (List.mem_of_getElem? (i := 417) (by decide +kernel)) rfl, gtb_in (List.mem_of_getElem? (i := 418) (by decide +kernel)) rfl⟩
theorem mf_X7_mayCross : MF yX7_mayCross cX7_mayCross 5 (some .boolean) 3 := ⟨gtb_in (List.mem_of_getElem? (i := 423) (by decide +kernel)) rfl, gtb_in (List.mem_of_getElem? (i := 64) (by decide +kernel)) rfl, by decide +kernel, by decide⟩
theorem mv_X7_mayCross : MV yX7_mayCross := ⟨gtb_in (List.mem_of_getElem? (i := 421) (by decide +kernel)) rfl, gtb_in (List.mem_of_getElem? (i := 422) (by decide +kernel)) rfl⟩
theorem mf_X7_leave : MF yX7_leave cX7_leave 6 (some .int) 3 := ⟨gtb_in (List.mem_of_getElem? (i := 427) (by decide +kernel)) rfl, gtb_in (List.mem_of_getElem? (i := 64) (by decide +kernel)) rfl, by decide +kernel, by decide⟩
theorem mv_X7_leave : MV yX7_leave := ⟨gtb_in (List.mem_of_getElem? (i := 425) (by decide +kernel)) rfl, gtb_in (List.mem_of_getElem? (i := 426) (by decide +kernel)) rfl⟩
theorem mf_X1_sum : MF yX1_sum cX1_sum 15 (some .int) 6 := ⟨gtb_in (List.mem_of_getElem? (i := 431) (by decide +kernel)) rfl, gtb_in (List.mem_of_getElem? (i := 70) (by decide +kernel)) rfl, by decide +kernel, by decide⟩
theorem mv_X1_sum : MV yX1_sum := ⟨gtb_in (List.mem_of_getElem? (i := 429) (by decide +kernel)) rfl, gtb_in (List.mem_of_getElem? (i := 430) (by decide +kernel)) rfl⟩
theorem mf_X7_halfBehind : MF yX7_halfBehind cX7_halfBehind 4 (some .int) 2 := ⟨gtb_in (List.mem_of_getElem? (i := 435) (by decide +kernel)) rfl, gtb_in (List.mem_of_getElem? (i := 64) (by decide +kernel)) rfl, by decide +kernel, by decide⟩
theorem mv_X7_halfBehind : MV yX7_halfBehind := ⟨gtb_in (List.mem_of_getElem? (i := 433) (by decide +kernel)) rfl, gtb_in (List.mem_of_getElem? (i := 434) (by decide +kernel)) rfl⟩
theorem mf_X8_hoursUntilDone : MF yX8_hoursUntilDone cX8_hoursUntilDone 3 (some .int) 1 := ⟨gtb_in (List.mem_of_getElem? (i := 439) (by decide +kernel)) rfl, gtb_in (List.mem_of_getElem? (i := 63) (by decide +kernel)) rfl, by decide +kernel, by decide⟩
theorem mv_X8_hoursUntilDone : MV yX8_hoursUntilDone := ⟨gtb_in (List.mem_of_getElem? (i := 438) (by decide +kernel)) rfl, gtb_in (List.mem_of_getElem? (i := 3) (by decide +kernel)) rfl⟩
theorem mf_X7_copyFrom : MF yX7_copyFrom cX7_copyFrom 3 none 1 := ⟨gtb_in (List.mem_of_getElem? (i := 443) (by decide +kernel)) rfl, gtb_in (List.mem_of_getElem? (i := 64) (by decide +kernel)) rfl, by decide +kernel, by decide⟩
theorem mv_X7_copyFrom : MV yX7_copyFrom := ⟨gtb_in (List.mem_of_getElem? (i := 441) (by decide +kernel)) rfl, gtb_in (List.mem_of_getElem? (i := 442) (by decide +kernel)) rfl⟩
theorem mf_X2_copyFrom : MF yX2_copyFrom cX2_copyFrom 2 none 1 := ⟨gtb_in (List.mem_of_getElem? (i := 450) (by decide +kernel)) rfl, gtb_in (List.mem_of_getElem? (i := 66) (by decide +kernel)) rfl, by decide +kernel, by decide⟩
theorem mv_X2_copyFrom : MV yX2_copyFrom := ⟨gtb_in (List.mem_of_getElem? (i := 448) (by decide +kernel)) rfl, gtb_in (List.mem_of_getElem? (i := 449) (by decide +kernel)) rfl⟩
theorem mf_X3_copyFrom : MF yX3_copyFrom cX3_copyFrom 2 none 1 := ⟨gtb_in (List.mem_of_getElem? (i := 455) (by decide +kernel)) rfl, gtb_in (List.mem_of_getElem? (i := 65) (by decide +kernel)) rfl, by decide +kernel, by decide⟩
theorem mv_X3_copyFrom : MV yX3_copyFrom := ⟨gtb_in (List.mem_of_getElem? (i := 453) (by decide +kernel)) rfl, gtb_in (List.mem_of_getElem? (i := 454) (by decide +kernel)) rfl⟩
theorem mf_J9_min_7cf53 : MF yJ9_min_7cf53 cJ9_min_7cf53 2 (some .int) 2 := ⟨gtb_in (List.mem_of_getElem? (i := 458) (by decide +kernel)) rfl, gtb_in (List.mem_of_getElem? (i := 76) (by decide +kernel)) rfl, by decide +kernel, by decide⟩
theorem ms_J9_min_7cf53 : Cond.static yJ9_min_7cf53 ∈ gtb := gtb_in (List.mem_of_getElem? (i := 457) (by decide +kernel)) rfl
theorem mf_X2_isDone : MF yX2_isDone cX2_isDone 1 (some .boolean) 0 := ⟨gtb_in (List.mem_of_getElem? (i := 463) (by decide +kernel)) rfl, gtb_in (List.mem_of_getElem? (i := 66) (by decide +kernel)) rfl, by decide +kernel, by decide⟩
theorem mv_X2_isDone : MV yX2_isDone := ⟨gtb_in (List.mem_of_getElem? (i := 461) (by decide +kernel)) rfl, gtb_in (List.mem_of_getElem? (i := 462) (by decide +kernel)) rfl⟩
theorem mf_X8_hoursGo : MF yX8_hoursGo cX8_hoursGo 9 none 3 := ⟨gtb_in (List.mem_of_getElem? (i := 467) (by decide +kernel)) rfl, gtb_in (List.mem_of_getElem? (i := 63) (by decide +kernel)) rfl, by decide +kernel, by decide⟩
theorem mv_X8_hoursGo : MV yX8_hoursGo := ⟨gtb_in (List.mem_of_getElem? (i := 466) (by decide +kernel)) rfl, gtb_in (List.mem_of_getElem? (i := 4) (by decide +kernel)) rfl⟩
theorem mf_X7_dark : MF yX7_dark cX7_dark 1 (some .int) 0 := ⟨gtb_in (List.mem_of_getElem? (i := 471) (by decide +kernel)) rfl, gtb_in (List.mem_of_getElem? (i := 64) (by decide +kernel)) rfl, by decide +kernel, by decide⟩
theorem mv_X7_dark : MV yX7_dark := ⟨gtb_in (List.mem_of_getElem? (i := 469) (by decide +kernel)) rfl, gtb_in (List.mem_of_getElem? (i := 470) (by decide +kernel)) rfl⟩
theorem mf_X6_stepAt : MF yX6_stepAt cX6_stepAt 4 (some .int) 1 := ⟨gtb_in (List.mem_of_getElem? (i := 476) (by decide +kernel)) rfl, gtb_in (List.mem_of_getElem? (i := 67) (by decide +kernel)) rfl, by decide +kernel, by decide⟩
theorem mv_X6_stepAt : MV yX6_stepAt := ⟨gtb_in (List.mem_of_getElem? (i := 474) (by decide +kernel)) rfl, gtb_in (List.mem_of_getElem? (i := 475) (by decide +kernel)) rfl⟩
theorem mf_X7_goOver : MF yX7_goOver cX7_goOver 4 none 2 := ⟨gtb_in (List.mem_of_getElem? (i := 480) (by decide +kernel)) rfl, gtb_in (List.mem_of_getElem? (i := 64) (by decide +kernel)) rfl, by decide +kernel, by decide⟩
theorem mv_X7_goOver : MV yX7_goOver := ⟨gtb_in (List.mem_of_getElem? (i := 478) (by decide +kernel)) rfl, gtb_in (List.mem_of_getElem? (i := 479) (by decide +kernel)) rfl⟩
theorem mf_X8_crossable : MF yX8_crossable cX8_crossable 6 (some .int) 1 := ⟨gtb_in (List.mem_of_getElem? (i := 486) (by decide +kernel)) rfl, gtb_in (List.mem_of_getElem? (i := 63) (by decide +kernel)) rfl, by decide +kernel, by decide⟩
theorem mv_X8_crossable : MV yX8_crossable := ⟨gtb_in (List.mem_of_getElem? (i := 485) (by decide +kernel)) rfl, gtb_in (List.mem_of_getElem? (i := 5) (by decide +kernel)) rfl⟩
theorem mf_X8_leaveNow : MF yX8_leaveNow cX8_leaveNow 3 (some .int) 2 := ⟨gtb_in (List.mem_of_getElem? (i := 493) (by decide +kernel)) rfl, gtb_in (List.mem_of_getElem? (i := 63) (by decide +kernel)) rfl, by decide +kernel, by decide⟩
theorem mv_X8_leaveNow : MV yX8_leaveNow := ⟨gtb_in (List.mem_of_getElem? (i := 492) (by decide +kernel)) rfl, gtb_in (List.mem_of_getElem? (i := 6) (by decide +kernel)) rfl⟩
theorem mf_X8_isBridge : MF yX8_isBridge cX8_isBridge 2 (some .boolean) 1 := ⟨gtb_in (List.mem_of_getElem? (i := 497) (by decide +kernel)) rfl, gtb_in (List.mem_of_getElem? (i := 63) (by decide +kernel)) rfl, by decide +kernel, by decide⟩
theorem mv_X8_isBridge : MV yX8_isBridge := ⟨gtb_in (List.mem_of_getElem? (i := 496) (by decide +kernel)) rfl, gtb_in (List.mem_of_getElem? (i := 7) (by decide +kernel)) rfl⟩
theorem mf_X8_span : MF yX8_span cX8_span 3 (some .int) 2 := ⟨gtb_in (List.mem_of_getElem? (i := 502) (by decide +kernel)) rfl, gtb_in (List.mem_of_getElem? (i := 63) (by decide +kernel)) rfl, by decide +kernel, by decide⟩
theorem mv_X8_span : MV yX8_span := ⟨gtb_in (List.mem_of_getElem? (i := 500) (by decide +kernel)) rfl, gtb_in (List.mem_of_getElem? (i := 501) (by decide +kernel)) rfl⟩
theorem mf_X8_errand : MF yX8_errand cX8_errand 5 (some .int) 2 := ⟨gtb_in (List.mem_of_getElem? (i := 506) (by decide +kernel)) rfl, gtb_in (List.mem_of_getElem? (i := 63) (by decide +kernel)) rfl, by decide +kernel, by decide⟩
theorem mv_X8_errand : MV yX8_errand := ⟨gtb_in (List.mem_of_getElem? (i := 504) (by decide +kernel)) rfl, gtb_in (List.mem_of_getElem? (i := 505) (by decide +kernel)) rfl⟩
theorem mf_X8_cross : MF yX8_cross cX8_cross 3 (some .int) 2 := ⟨gtb_in (List.mem_of_getElem? (i := 510) (by decide +kernel)) rfl, gtb_in (List.mem_of_getElem? (i := 63) (by decide +kernel)) rfl, by decide +kernel, by decide⟩
theorem mv_X8_cross : MV yX8_cross := ⟨gtb_in (List.mem_of_getElem? (i := 508) (by decide +kernel)) rfl, gtb_in (List.mem_of_getElem? (i := 509) (by decide +kernel)) rfl⟩
theorem mf_X8_lose : MF yX8_lose cX8_lose 4 (some .int) 2 := ⟨gtb_in (List.mem_of_getElem? (i := 514) (by decide +kernel)) rfl, gtb_in (List.mem_of_getElem? (i := 63) (by decide +kernel)) rfl, by decide +kernel, by decide⟩
theorem mv_X8_lose : MV yX8_lose := ⟨gtb_in (List.mem_of_getElem? (i := 512) (by decide +kernel)) rfl, gtb_in (List.mem_of_getElem? (i := 513) (by decide +kernel)) rfl⟩
theorem mf_X7_setLost : MF yX7_setLost cX7_setLost 4 none 2 := ⟨gtb_in (List.mem_of_getElem? (i := 518) (by decide +kernel)) rfl, gtb_in (List.mem_of_getElem? (i := 64) (by decide +kernel)) rfl, by decide +kernel, by decide⟩
theorem mv_X7_setLost : MV yX7_setLost := ⟨gtb_in (List.mem_of_getElem? (i := 516) (by decide +kernel)) rfl, gtb_in (List.mem_of_getElem? (i := 517) (by decide +kernel)) rfl⟩
theorem mf_X8_swap : MF yX8_swap cX8_swap 3 (some .int) 2 := ⟨gtb_in (List.mem_of_getElem? (i := 522) (by decide +kernel)) rfl, gtb_in (List.mem_of_getElem? (i := 63) (by decide +kernel)) rfl, by decide +kernel, by decide⟩
theorem mv_X8_swap : MV yX8_swap := ⟨gtb_in (List.mem_of_getElem? (i := 520) (by decide +kernel)) rfl, gtb_in (List.mem_of_getElem? (i := 521) (by decide +kernel)) rfl⟩
theorem mf_X7_canExchange : MF yX7_canExchange cX7_canExchange 3 (some .boolean) 2 := ⟨gtb_in (List.mem_of_getElem? (i := 526) (by decide +kernel)) rfl, gtb_in (List.mem_of_getElem? (i := 64) (by decide +kernel)) rfl, by decide +kernel, by decide⟩
theorem mv_X7_canExchange : MV yX7_canExchange := ⟨gtb_in (List.mem_of_getElem? (i := 524) (by decide +kernel)) rfl, gtb_in (List.mem_of_getElem? (i := 525) (by decide +kernel)) rfl⟩
theorem mf_X7_exchange : MF yX7_exchange cX7_exchange 5 none 2 := ⟨gtb_in (List.mem_of_getElem? (i := 530) (by decide +kernel)) rfl, gtb_in (List.mem_of_getElem? (i := 64) (by decide +kernel)) rfl, by decide +kernel, by decide⟩
theorem mv_X7_exchange : MV yX7_exchange := ⟨gtb_in (List.mem_of_getElem? (i := 528) (by decide +kernel)) rfl, gtb_in (List.mem_of_getElem? (i := 529) (by decide +kernel)) rfl⟩
theorem mf_X8_row : MF yX8_row cX8_row 6 (some .int) 3 := ⟨gtb_in (List.mem_of_getElem? (i := 534) (by decide +kernel)) rfl, gtb_in (List.mem_of_getElem? (i := 63) (by decide +kernel)) rfl, by decide +kernel, by decide⟩
theorem mv_X8_row : MV yX8_row := ⟨gtb_in (List.mem_of_getElem? (i := 532) (by decide +kernel)) rfl, gtb_in (List.mem_of_getElem? (i := 533) (by decide +kernel)) rfl⟩
theorem mf_X8_feed : MF yX8_feed cX8_feed 2 (some .int) 1 := ⟨gtb_in (List.mem_of_getElem? (i := 538) (by decide +kernel)) rfl, gtb_in (List.mem_of_getElem? (i := 63) (by decide +kernel)) rfl, by decide +kernel, by decide⟩
theorem mv_X8_feed : MV yX8_feed := ⟨gtb_in (List.mem_of_getElem? (i := 536) (by decide +kernel)) rfl, gtb_in (List.mem_of_getElem? (i := 537) (by decide +kernel)) rfl⟩
theorem mf_X5_append : MF yX5_append cX5_append 2 (some .int) 1 := ⟨gtb_in (List.mem_of_getElem? (i := 542) (by decide +kernel)) rfl, gtb_in (List.mem_of_getElem? (i := 68) (by decide +kernel)) rfl, by decide +kernel, by decide⟩
theorem mv_X5_append : MV yX5_append := ⟨gtb_in (List.mem_of_getElem? (i := 540) (by decide +kernel)) rfl, gtb_in (List.mem_of_getElem? (i := 541) (by decide +kernel)) rfl⟩
theorem mf_X8_city : MF yX8_city cX8_city 3 (some .int) 0 := ⟨gtb_in (List.mem_of_getElem? (i := 546) (by decide +kernel)) rfl, gtb_in (List.mem_of_getElem? (i := 63) (by decide +kernel)) rfl, by decide +kernel, by decide⟩
theorem mv_X8_city : MV yX8_city := ⟨gtb_in (List.mem_of_getElem? (i := 544) (by decide +kernel)) rfl, gtb_in (List.mem_of_getElem? (i := 545) (by decide +kernel)) rfl⟩
theorem mf_X5_readInto : MF yX5_readInto cX5_readInto 3 (some .int) 1 := ⟨gtb_in (List.mem_of_getElem? (i := 550) (by decide +kernel)) rfl, gtb_in (List.mem_of_getElem? (i := 68) (by decide +kernel)) rfl, by decide +kernel, by decide⟩
theorem mv_X5_readInto : MV yX5_readInto := ⟨gtb_in (List.mem_of_getElem? (i := 548) (by decide +kernel)) rfl, gtb_in (List.mem_of_getElem? (i := 549) (by decide +kernel)) rfl⟩
theorem mf_X1_clear : MF yX1_clear cX1_clear 1 none 0 := ⟨gtb_in (List.mem_of_getElem? (i := 554) (by decide +kernel)) rfl, gtb_in (List.mem_of_getElem? (i := 70) (by decide +kernel)) rfl, by decide +kernel, by decide⟩
theorem mv_X1_clear : MV yX1_clear := ⟨gtb_in (List.mem_of_getElem? (i := 552) (by decide +kernel)) rfl, gtb_in (List.mem_of_getElem? (i := 553) (by decide +kernel)) rfl⟩
theorem mf_X5_readClause : MF yX5_readClause cX5_readClause 4 (some .boolean) 1 := ⟨gtb_in (List.mem_of_getElem? (i := 558) (by decide +kernel)) rfl, gtb_in (List.mem_of_getElem? (i := 68) (by decide +kernel)) rfl, by decide +kernel, by decide⟩
theorem mv_X5_readClause : MV yX5_readClause := ⟨gtb_in (List.mem_of_getElem? (i := 557) (by decide +kernel)) rfl, gtb_in (List.mem_of_getElem? (i := 8) (by decide +kernel)) rfl⟩
theorem mf_X5_sign : MF yX5_sign cX5_sign 1 (some .int) 0 := ⟨gtb_in (List.mem_of_getElem? (i := 562) (by decide +kernel)) rfl, gtb_in (List.mem_of_getElem? (i := 68) (by decide +kernel)) rfl, by decide +kernel, by decide⟩
theorem mv_X5_sign : MV yX5_sign := ⟨gtb_in (List.mem_of_getElem? (i := 561) (by decide +kernel)) rfl, gtb_in (List.mem_of_getElem? (i := 9) (by decide +kernel)) rfl⟩
theorem mf_X5_takesWord : MF yX5_takesWord cX5_takesWord 3 (some .boolean) 1 := ⟨gtb_in (List.mem_of_getElem? (i := 567) (by decide +kernel)) rfl, gtb_in (List.mem_of_getElem? (i := 68) (by decide +kernel)) rfl, by decide +kernel, by decide⟩
theorem mv_X5_takesWord : MV yX5_takesWord := ⟨gtb_in (List.mem_of_getElem? (i := 566) (by decide +kernel)) rfl, gtb_in (List.mem_of_getElem? (i := 10) (by decide +kernel)) rfl⟩
theorem mf_J0_length_8abf5 : MF yJ0_length_8abf5 cJ0_length_8abf5 1 (some .int) 0 := ⟨gtb_in (List.mem_of_getElem? (i := 571) (by decide +kernel)) rfl, gtb_in (List.mem_of_getElem? (i := 77) (by decide +kernel)) rfl, by decide +kernel, by decide⟩
theorem mv_J0_length_8abf5 : MV yJ0_length_8abf5 := ⟨gtb_in (List.mem_of_getElem? (i := 569) (by decide +kernel)) rfl, gtb_in (List.mem_of_getElem? (i := 570) (by decide +kernel)) rfl⟩
theorem mf_J0_coder_7d493 : MF yJ0_coder_7d493 cJ0_coder_7d493 1 (some .byte) 0 := ⟨gtb_in (List.mem_of_getElem? (i := 575) (by decide +kernel)) rfl, gtb_in (List.mem_of_getElem? (i := 77) (by decide +kernel)) rfl, by decide +kernel, by decide⟩
theorem mv_J0_coder_7d493 : MV yJ0_coder_7d493 := ⟨gtb_in (List.mem_of_getElem? (i := 573) (by decide +kernel)) rfl, gtb_in (List.mem_of_getElem? (i := 574) (by decide +kernel)) rfl⟩
theorem mf_J0_charAt_5068e : MF yJ0_charAt_5068e cJ0_charAt_5068e 2 (some .char) 1 := ⟨gtb_in (List.mem_of_getElem? (i := 581) (by decide +kernel)) rfl, gtb_in (List.mem_of_getElem? (i := 77) (by decide +kernel)) rfl, by decide +kernel, by decide⟩
theorem mv_J0_charAt_5068e : MV yJ0_charAt_5068e := ⟨gtb_in (List.mem_of_getElem? (i := 579) (by decide +kernel)) rfl, gtb_in (List.mem_of_getElem? (i := 580) (by decide +kernel)) rfl⟩
theorem mf_J0_isLatin1_aae02 : MF yJ0_isLatin1_aae02 cJ0_isLatin1_aae02 1 (some .boolean) 0 := ⟨gtb_in (List.mem_of_getElem? (i := 585) (by decide +kernel)) rfl, gtb_in (List.mem_of_getElem? (i := 77) (by decide +kernel)) rfl, by decide +kernel, by decide⟩
theorem mv_J0_isLatin1_aae02 : MV yJ0_isLatin1_aae02 := ⟨gtb_in (List.mem_of_getElem? (i := 583) (by decide +kernel)) rfl, gtb_in (List.mem_of_getElem? (i := 584) (by decide +kernel)) rfl⟩
theorem mf_J1_charAt_3b067 : MF yJ1_charAt_3b067 cJ1_charAt_3b067 2 (some .char) 2 := ⟨gtb_in (List.mem_of_getElem? (i := 588) (by decide +kernel)) rfl, gtb_in (List.mem_of_getElem? (i := 78) (by decide +kernel)) rfl, by decide +kernel, by decide⟩
theorem ms_J1_charAt_3b067 : Cond.static yJ1_charAt_3b067 ∈ gtb := gtb_in (List.mem_of_getElem? (i := 587) (by decide +kernel)) rfl
theorem mf_J0_checkIndex_df160 : MF yJ0_checkIndex_df160 cJ0_checkIndex_df160 2 none 2 := ⟨gtb_in (List.mem_of_getElem? (i := 591) (by decide +kernel)) rfl, gtb_in (List.mem_of_getElem? (i := 77) (by decide +kernel)) rfl, by decide +kernel, by decide⟩
theorem ms_J0_checkIndex_df160 : Cond.static yJ0_checkIndex_df160 ∈ gtb := gtb_in (List.mem_of_getElem? (i := 590) (by decide +kernel)) rfl
theorem mf_J3_checkIndex_8e157 : MF yJ3_checkIndex_8e157 cJ3_checkIndex_8e157 3 (some .int) 3 := ⟨gtb_in (List.mem_of_getElem? (i := 596) (by decide +kernel)) rfl, gtb_in (List.mem_of_getElem? (i := 79) (by decide +kernel)) rfl, by decide +kernel, by decide⟩
theorem ms_J3_checkIndex_8e157 : Cond.static yJ3_checkIndex_8e157 ∈ gtb := gtb_in (List.mem_of_getElem? (i := 595) (by decide +kernel)) rfl
theorem mf_J2_charAt_3b067 : MF yJ2_charAt_3b067 cJ2_charAt_3b067 2 (some .char) 2 := ⟨gtb_in (List.mem_of_getElem? (i := 599) (by decide +kernel)) rfl, gtb_in (List.mem_of_getElem? (i := 80) (by decide +kernel)) rfl, by decide +kernel, by decide⟩
theorem ms_J2_charAt_3b067 : Cond.static yJ2_charAt_3b067 ∈ gtb := gtb_in (List.mem_of_getElem? (i := 598) (by decide +kernel)) rfl
theorem mf_J2_checkIndex_2214a : MF yJ2_checkIndex_2214a cJ2_checkIndex_2214a 2 none 2 := ⟨gtb_in (List.mem_of_getElem? (i := 602) (by decide +kernel)) rfl, gtb_in (List.mem_of_getElem? (i := 80) (by decide +kernel)) rfl, by decide +kernel, by decide⟩
theorem ms_J2_checkIndex_2214a : Cond.static yJ2_checkIndex_2214a ∈ gtb := gtb_in (List.mem_of_getElem? (i := 601) (by decide +kernel)) rfl
theorem mf_J2_length_9d52b : MF yJ2_length_9d52b cJ2_length_9d52b 1 (some .int) 1 := ⟨gtb_in (List.mem_of_getElem? (i := 605) (by decide +kernel)) rfl, gtb_in (List.mem_of_getElem? (i := 80) (by decide +kernel)) rfl, by decide +kernel, by decide⟩
theorem ms_J2_length_9d52b : Cond.static yJ2_length_9d52b ∈ gtb := gtb_in (List.mem_of_getElem? (i := 604) (by decide +kernel)) rfl
theorem mf_J2_getChar_3b067 : MF yJ2_getChar_3b067 cJ2_getChar_3b067 2 (some .char) 2 := ⟨gtb_in (List.mem_of_getElem? (i := 609) (by decide +kernel)) rfl, gtb_in (List.mem_of_getElem? (i := 80) (by decide +kernel)) rfl, by decide +kernel, by decide⟩
theorem ms_J2_getChar_3b067 : Cond.static yJ2_getChar_3b067 ∈ gtb := gtb_in (List.mem_of_getElem? (i := 608) (by decide +kernel)) rfl
theorem mf_X5_takes : MF yX5_takes cX5_takes 2 (some .boolean) 1 := ⟨gtb_in (List.mem_of_getElem? (i := 619) (by decide +kernel)) rfl, gtb_in (List.mem_of_getElem? (i := 68) (by decide +kernel)) rfl, by decide +kernel, by decide⟩
theorem mv_X5_takes : MV yX5_takes := ⟨gtb_in (List.mem_of_getElem? (i := 618) (by decide +kernel)) rfl, gtb_in (List.mem_of_getElem? (i := 11) (by decide +kernel)) rfl⟩
theorem mf_X5_takesNumber : MF yX5_takesNumber cX5_takesNumber 3 (some .boolean) 0 := ⟨gtb_in (List.mem_of_getElem? (i := 623) (by decide +kernel)) rfl, gtb_in (List.mem_of_getElem? (i := 68) (by decide +kernel)) rfl, by decide +kernel, by decide⟩
theorem mv_X5_takesNumber : MV yX5_takesNumber := ⟨gtb_in (List.mem_of_getElem? (i := 622) (by decide +kernel)) rfl, gtb_in (List.mem_of_getElem? (i := 12) (by decide +kernel)) rfl⟩
theorem mf_X5_readExpression : MF yX5_readExpression cX5_readExpression 6 (some .boolean) 2 := ⟨gtb_in (List.mem_of_getElem? (i := 629) (by decide +kernel)) rfl, gtb_in (List.mem_of_getElem? (i := 68) (by decide +kernel)) rfl, by decide +kernel, by decide⟩
theorem mv_X5_readExpression : MV yX5_readExpression := ⟨gtb_in (List.mem_of_getElem? (i := 628) (by decide +kernel)) rfl, gtb_in (List.mem_of_getElem? (i := 13) (by decide +kernel)) rfl⟩
theorem mf_X5_readFactor : MF yX5_readFactor cX5_readFactor 4 (some .boolean) 2 := ⟨gtb_in (List.mem_of_getElem? (i := 633) (by decide +kernel)) rfl, gtb_in (List.mem_of_getElem? (i := 68) (by decide +kernel)) rfl, by decide +kernel, by decide⟩
theorem mv_X5_readFactor : MV yX5_readFactor := ⟨gtb_in (List.mem_of_getElem? (i := 632) (by decide +kernel)) rfl, gtb_in (List.mem_of_getElem? (i := 14) (by decide +kernel)) rfl⟩
theorem mf_X5_readTest : MF yX5_readTest cX5_readTest 4 (some .boolean) 1 := ⟨gtb_in (List.mem_of_getElem? (i := 637) (by decide +kernel)) rfl, gtb_in (List.mem_of_getElem? (i := 68) (by decide +kernel)) rfl, by decide +kernel, by decide⟩
theorem mv_X5_readTest : MV yX5_readTest := ⟨gtb_in (List.mem_of_getElem? (i := 636) (by decide +kernel)) rfl, gtb_in (List.mem_of_getElem? (i := 15) (by decide +kernel)) rfl⟩
theorem mf_X5_takesOneOf : MF yX5_takesOneOf cX5_takesOneOf 4 (some .int) 1 := ⟨gtb_in (List.mem_of_getElem? (i := 642) (by decide +kernel)) rfl, gtb_in (List.mem_of_getElem? (i := 68) (by decide +kernel)) rfl, by decide +kernel, by decide⟩
theorem mv_X5_takesOneOf : MV yX5_takesOneOf := ⟨gtb_in (List.mem_of_getElem? (i := 641) (by decide +kernel)) rfl, gtb_in (List.mem_of_getElem? (i := 16) (by decide +kernel)) rfl⟩
theorem mf_J0_indexOf_0f7a4 : MF yJ0_indexOf_0f7a4 cJ0_indexOf_0f7a4 2 (some .int) 1 := ⟨gtb_in (List.mem_of_getElem? (i := 646) (by decide +kernel)) rfl, gtb_in (List.mem_of_getElem? (i := 77) (by decide +kernel)) rfl, by decide +kernel, by decide⟩
theorem mv_J0_indexOf_0f7a4 : MV yJ0_indexOf_0f7a4 := ⟨gtb_in (List.mem_of_getElem? (i := 644) (by decide +kernel)) rfl, gtb_in (List.mem_of_getElem? (i := 645) (by decide +kernel)) rfl⟩
theorem mf_J0_indexOf_7cf53 : MF yJ0_indexOf_7cf53 cJ0_indexOf_7cf53 3 (some .int) 2 := ⟨gtb_in (List.mem_of_getElem? (i := 650) (by decide +kernel)) rfl, gtb_in (List.mem_of_getElem? (i := 77) (by decide +kernel)) rfl, by decide +kernel, by decide⟩
theorem mv_J0_indexOf_7cf53 : MV yJ0_indexOf_7cf53 := ⟨gtb_in (List.mem_of_getElem? (i := 648) (by decide +kernel)) rfl, gtb_in (List.mem_of_getElem? (i := 649) (by decide +kernel)) rfl⟩
theorem mf_J1_indexOf_4cfef : MF yJ1_indexOf_4cfef cJ1_indexOf_4cfef 4 (some .int) 4 := ⟨gtb_in (List.mem_of_getElem? (i := 654) (by decide +kernel)) rfl, gtb_in (List.mem_of_getElem? (i := 78) (by decide +kernel)) rfl, by decide +kernel, by decide⟩
theorem ms_J1_indexOf_4cfef : Cond.static yJ1_indexOf_4cfef ∈ gtb := gtb_in (List.mem_of_getElem? (i := 653) (by decide +kernel)) rfl
theorem mf_J1_canEncode_9a6ad : MF yJ1_canEncode_9a6ad cJ1_canEncode_9a6ad 1 (some .boolean) 1 := ⟨gtb_in (List.mem_of_getElem? (i := 657) (by decide +kernel)) rfl, gtb_in (List.mem_of_getElem? (i := 78) (by decide +kernel)) rfl, by decide +kernel, by decide⟩
theorem ms_J1_canEncode_9a6ad : Cond.static yJ1_canEncode_9a6ad ∈ gtb := gtb_in (List.mem_of_getElem? (i := 656) (by decide +kernel)) rfl
theorem mf_J9_max_7cf53 : MF yJ9_max_7cf53 cJ9_max_7cf53 2 (some .int) 2 := ⟨gtb_in (List.mem_of_getElem? (i := 660) (by decide +kernel)) rfl, gtb_in (List.mem_of_getElem? (i := 76) (by decide +kernel)) rfl, by decide +kernel, by decide⟩
theorem ms_J9_max_7cf53 : Cond.static yJ9_max_7cf53 ∈ gtb := gtb_in (List.mem_of_getElem? (i := 659) (by decide +kernel)) rfl
theorem mf_J1_indexOfChar_4cfef : MF yJ1_indexOfChar_4cfef cJ1_indexOfChar_4cfef 6 (some .int) 4 := ⟨gtb_in (List.mem_of_getElem? (i := 664) (by decide +kernel)) rfl, gtb_in (List.mem_of_getElem? (i := 78) (by decide +kernel)) rfl, by decide +kernel, by decide⟩
theorem ms_J1_indexOfChar_4cfef : Cond.static yJ1_indexOfChar_4cfef ∈ gtb := gtb_in (List.mem_of_getElem? (i := 663) (by decide +kernel)) rfl
theorem mf_J2_indexOf_4cfef : MF yJ2_indexOf_4cfef cJ2_indexOf_4cfef 4 (some .int) 4 := ⟨gtb_in (List.mem_of_getElem? (i := 667) (by decide +kernel)) rfl, gtb_in (List.mem_of_getElem? (i := 80) (by decide +kernel)) rfl, by decide +kernel, by decide⟩
theorem ms_J2_indexOf_4cfef : Cond.static yJ2_indexOf_4cfef ∈ gtb := gtb_in (List.mem_of_getElem? (i := 666) (by decide +kernel)) rfl
theorem mf_J2_indexOfChar_4cfef : MF yJ2_indexOfChar_4cfef cJ2_indexOfChar_4cfef 4 (some .int) 4 := ⟨gtb_in (List.mem_of_getElem? (i := 673) (by decide +kernel)) rfl, gtb_in (List.mem_of_getElem? (i := 80) (by decide +kernel)) rfl, by decide +kernel, by decide⟩
theorem ms_J2_indexOfChar_4cfef : Cond.static yJ2_indexOfChar_4cfef ∈ gtb := gtb_in (List.mem_of_getElem? (i := 672) (by decide +kernel)) rfl
theorem mf_J2_checkBoundsBeginEnd_d044e : MF yJ2_checkBoundsBeginEnd_d044e cJ2_checkBoundsBeginEnd_d044e 3 none 3 := ⟨gtb_in (List.mem_of_getElem? (i := 676) (by decide +kernel)) rfl, gtb_in (List.mem_of_getElem? (i := 80) (by decide +kernel)) rfl, by decide +kernel, by decide⟩
theorem ms_J2_checkBoundsBeginEnd_d044e : Cond.static yJ2_checkBoundsBeginEnd_d044e ∈ gtb := gtb_in (List.mem_of_getElem? (i := 675) (by decide +kernel)) rfl
theorem mf_J0_checkBoundsBeginEnd_23922 : MF yJ0_checkBoundsBeginEnd_23922 cJ0_checkBoundsBeginEnd_23922 3 none 3 := ⟨gtb_in (List.mem_of_getElem? (i := 679) (by decide +kernel)) rfl, gtb_in (List.mem_of_getElem? (i := 77) (by decide +kernel)) rfl, by decide +kernel, by decide⟩
theorem ms_J0_checkBoundsBeginEnd_23922 : Cond.static yJ0_checkBoundsBeginEnd_23922 ∈ gtb := gtb_in (List.mem_of_getElem? (i := 678) (by decide +kernel)) rfl
theorem mf_J3_checkFromToIndex_8c36e : MF yJ3_checkFromToIndex_8c36e cJ3_checkFromToIndex_8c36e 4 (some .int) 4 := ⟨gtb_in (List.mem_of_getElem? (i := 682) (by decide +kernel)) rfl, gtb_in (List.mem_of_getElem? (i := 79) (by decide +kernel)) rfl, by decide +kernel, by decide⟩
theorem ms_J3_checkFromToIndex_8c36e : Cond.static yJ3_checkFromToIndex_8c36e ∈ gtb := gtb_in (List.mem_of_getElem? (i := 681) (by decide +kernel)) rfl
theorem mf_J2_indexOfCharUnsafe_4cfef : MF yJ2_indexOfCharUnsafe_4cfef cJ2_indexOfCharUnsafe_4cfef 5 (some .int) 4 := ⟨gtb_in (List.mem_of_getElem? (i := 685) (by decide +kernel)) rfl, gtb_in (List.mem_of_getElem? (i := 80) (by decide +kernel)) rfl, by decide +kernel, by decide⟩
theorem ms_J2_indexOfCharUnsafe_4cfef : Cond.static yJ2_indexOfCharUnsafe_4cfef ∈ gtb := gtb_in (List.mem_of_getElem? (i := 684) (by decide +kernel)) rfl
theorem mf_J2_indexOfSupplementary_4cfef : MF yJ2_indexOfSupplementary_4cfef cJ2_indexOfSupplementary_4cfef 7 (some .int) 4 := ⟨gtb_in (List.mem_of_getElem? (i := 688) (by decide +kernel)) rfl, gtb_in (List.mem_of_getElem? (i := 80) (by decide +kernel)) rfl, by decide +kernel, by decide⟩
theorem ms_J2_indexOfSupplementary_4cfef : Cond.static yJ2_indexOfSupplementary_4cfef ∈ gtb := gtb_in (List.mem_of_getElem? (i := 687) (by decide +kernel)) rfl
theorem mf_J11_isValidCodePoint_9a6ad : MF yJ11_isValidCodePoint_9a6ad cJ11_isValidCodePoint_9a6ad 2 (some .boolean) 1 := ⟨gtb_in (List.mem_of_getElem? (i := 691) (by decide +kernel)) rfl, gtb_in (List.mem_of_getElem? (i := 81) (by decide +kernel)) rfl, by decide +kernel, by decide⟩
theorem ms_J11_isValidCodePoint_9a6ad : Cond.static yJ11_isValidCodePoint_9a6ad ∈ gtb := gtb_in (List.mem_of_getElem? (i := 690) (by decide +kernel)) rfl
theorem mf_J11_highSurrogate_5068e : MF yJ11_highSurrogate_5068e cJ11_highSurrogate_5068e 1 (some .char) 1 := ⟨gtb_in (List.mem_of_getElem? (i := 694) (by decide +kernel)) rfl, gtb_in (List.mem_of_getElem? (i := 81) (by decide +kernel)) rfl, by decide +kernel, by decide⟩
theorem ms_J11_highSurrogate_5068e : Cond.static yJ11_highSurrogate_5068e ∈ gtb := gtb_in (List.mem_of_getElem? (i := 693) (by decide +kernel)) rfl
theorem mf_J11_lowSurrogate_5068e : MF yJ11_lowSurrogate_5068e cJ11_lowSurrogate_5068e 1 (some .char) 1 := ⟨gtb_in (List.mem_of_getElem? (i := 698) (by decide +kernel)) rfl, gtb_in (List.mem_of_getElem? (i := 81) (by decide +kernel)) rfl, by decide +kernel, by decide⟩
theorem ms_J11_lowSurrogate_5068e : Cond.static yJ11_lowSurrogate_5068e ∈ gtb := gtb_in (List.mem_of_getElem? (i := 697) (by decide +kernel)) rfl
theorem mf_X1_add : MF yX1_add cX1_add 2 none 1 := ⟨gtb_in (List.mem_of_getElem? (i := 704) (by decide +kernel)) rfl, gtb_in (List.mem_of_getElem? (i := 70) (by decide +kernel)) rfl, by decide +kernel, by decide⟩
theorem mv_X1_add : MV yX1_add := ⟨gtb_in (List.mem_of_getElem? (i := 702) (by decide +kernel)) rfl, gtb_in (List.mem_of_getElem? (i := 703) (by decide +kernel)) rfl⟩
theorem mf_X5_readDenied : MF yX5_readDenied cX5_readDenied 3 (some .boolean) 2 := ⟨gtb_in (List.mem_of_getElem? (i := 708) (by decide +kernel)) rfl, gtb_in (List.mem_of_getElem? (i := 68) (by decide +kernel)) rfl, by decide +kernel, by decide⟩
theorem mv_X5_readDenied : MV yX5_readDenied := ⟨gtb_in (List.mem_of_getElem? (i := 707) (by decide +kernel)) rfl, gtb_in (List.mem_of_getElem? (i := 17) (by decide +kernel)) rfl⟩
theorem mf_X8_told : MF yX8_told cX8_told 2 (some .int) 1 := ⟨gtb_in (List.mem_of_getElem? (i := 713) (by decide +kernel)) rfl, gtb_in (List.mem_of_getElem? (i := 63) (by decide +kernel)) rfl, by decide +kernel, by decide⟩
theorem mv_X8_told : MV yX8_told := ⟨gtb_in (List.mem_of_getElem? (i := 711) (by decide +kernel)) rfl, gtb_in (List.mem_of_getElem? (i := 712) (by decide +kernel)) rfl⟩
theorem mf_X7_arrived : MF yX7_arrived cX7_arrived 3 (some .int) 0 := ⟨gtb_in (List.mem_of_getElem? (i := 717) (by decide +kernel)) rfl, gtb_in (List.mem_of_getElem? (i := 64) (by decide +kernel)) rfl, by decide +kernel, by decide⟩
theorem mv_X7_arrived : MV yX7_arrived := ⟨gtb_in (List.mem_of_getElem? (i := 715) (by decide +kernel)) rfl, gtb_in (List.mem_of_getElem? (i := 716) (by decide +kernel)) rfl⟩
theorem mf_X7_halves : MF yX7_halves cX7_halves 3 (some .int) 0 := ⟨gtb_in (List.mem_of_getElem? (i := 722) (by decide +kernel)) rfl, gtb_in (List.mem_of_getElem? (i := 64) (by decide +kernel)) rfl, by decide +kernel, by decide⟩
theorem mv_X7_halves : MV yX7_halves := ⟨gtb_in (List.mem_of_getElem? (i := 720) (by decide +kernel)) rfl, gtb_in (List.mem_of_getElem? (i := 721) (by decide +kernel)) rfl⟩
theorem mf_X8_pass : MF yX8_pass cX8_pass 2 (some .int) 1 := ⟨gtb_in (List.mem_of_getElem? (i := 727) (by decide +kernel)) rfl, gtb_in (List.mem_of_getElem? (i := 63) (by decide +kernel)) rfl, by decide +kernel, by decide⟩
theorem mv_X8_pass : MV yX8_pass := ⟨gtb_in (List.mem_of_getElem? (i := 725) (by decide +kernel)) rfl, gtb_in (List.mem_of_getElem? (i := 726) (by decide +kernel)) rfl⟩
theorem mf_X8_on : MF yX8_on cX8_on 5 (some .int) 2 := ⟨gtb_in (List.mem_of_getElem? (i := 731) (by decide +kernel)) rfl, gtb_in (List.mem_of_getElem? (i := 63) (by decide +kernel)) rfl, by decide +kernel, by decide⟩
theorem mv_X8_on : MV yX8_on := ⟨gtb_in (List.mem_of_getElem? (i := 729) (by decide +kernel)) rfl, gtb_in (List.mem_of_getElem? (i := 730) (by decide +kernel)) rfl⟩
theorem mf_X8_way : MF yX8_way cX8_way 5 (some .int) 3 := ⟨gtb_in (List.mem_of_getElem? (i := 735) (by decide +kernel)) rfl, gtb_in (List.mem_of_getElem? (i := 63) (by decide +kernel)) rfl, by decide +kernel, by decide⟩
theorem mv_X8_way : MV yX8_way := ⟨gtb_in (List.mem_of_getElem? (i := 733) (by decide +kernel)) rfl, gtb_in (List.mem_of_getElem? (i := 734) (by decide +kernel)) rfl⟩
theorem mf_X8_sisters : MF yX8_sisters cX8_sisters 8 (some .int) 2 := ⟨gtb_in (List.mem_of_getElem? (i := 739) (by decide +kernel)) rfl, gtb_in (List.mem_of_getElem? (i := 63) (by decide +kernel)) rfl, by decide +kernel, by decide⟩
theorem mv_X8_sisters : MV yX8_sisters := ⟨gtb_in (List.mem_of_getElem? (i := 737) (by decide +kernel)) rfl, gtb_in (List.mem_of_getElem? (i := 738) (by decide +kernel)) rfl⟩
theorem mf_X8_lengthOrFar : MF yX8_lengthOrFar cX8_lengthOrFar 1 (some .int) 1 := ⟨gtb_in (List.mem_of_getElem? (i := 742) (by decide +kernel)) rfl, gtb_in (List.mem_of_getElem? (i := 63) (by decide +kernel)) rfl, by decide +kernel, by decide⟩
theorem ms_X8_lengthOrFar : Cond.static yX8_lengthOrFar ∈ gtb := gtb_in (List.mem_of_getElem? (i := 741) (by decide +kernel)) rfl
theorem mf_X8_see : MF yX8_see cX8_see 4 (some .int) 3 := ⟨gtb_in (List.mem_of_getElem? (i := 746) (by decide +kernel)) rfl, gtb_in (List.mem_of_getElem? (i := 63) (by decide +kernel)) rfl, by decide +kernel, by decide⟩
theorem mv_X8_see : MV yX8_see := ⟨gtb_in (List.mem_of_getElem? (i := 744) (by decide +kernel)) rfl, gtb_in (List.mem_of_getElem? (i := 745) (by decide +kernel)) rfl⟩
theorem mf_X3_empty : MF yX3_empty cX3_empty 1 (some .int) 0 := ⟨gtb_in (List.mem_of_getElem? (i := 750) (by decide +kernel)) rfl, gtb_in (List.mem_of_getElem? (i := 65) (by decide +kernel)) rfl, by decide +kernel, by decide⟩
theorem mv_X3_empty : MV yX3_empty := ⟨gtb_in (List.mem_of_getElem? (i := 748) (by decide +kernel)) rfl, gtb_in (List.mem_of_getElem? (i := 749) (by decide +kernel)) rfl⟩
theorem mf_X3_add : MF yX3_add cX3_add 4 (some .int) 3 := ⟨gtb_in (List.mem_of_getElem? (i := 754) (by decide +kernel)) rfl, gtb_in (List.mem_of_getElem? (i := 65) (by decide +kernel)) rfl, by decide +kernel, by decide⟩
theorem mv_X3_add : MV yX3_add := ⟨gtb_in (List.mem_of_getElem? (i := 752) (by decide +kernel)) rfl, gtb_in (List.mem_of_getElem? (i := 753) (by decide +kernel)) rfl⟩
theorem mf_X8_from : MF yX8_from cX8_from 4 (some .int) 1 := ⟨gtb_in (List.mem_of_getElem? (i := 758) (by decide +kernel)) rfl, gtb_in (List.mem_of_getElem? (i := 63) (by decide +kernel)) rfl, by decide +kernel, by decide⟩
theorem mv_X8_from : MV yX8_from := ⟨gtb_in (List.mem_of_getElem? (i := 756) (by decide +kernel)) rfl, gtb_in (List.mem_of_getElem? (i := 757) (by decide +kernel)) rfl⟩
theorem mf_X8_goesAsSeen : MF yX8_goesAsSeen cX8_goesAsSeen 4 (some .boolean) 1 := ⟨gtb_in (List.mem_of_getElem? (i := 762) (by decide +kernel)) rfl, gtb_in (List.mem_of_getElem? (i := 63) (by decide +kernel)) rfl, by decide +kernel, by decide⟩
theorem mv_X8_goesAsSeen : MV yX8_goesAsSeen := ⟨gtb_in (List.mem_of_getElem? (i := 761) (by decide +kernel)) rfl, gtb_in (List.mem_of_getElem? (i := 18) (by decide +kernel)) rfl⟩
theorem mf_X3_lastHour : MF yX3_lastHour cX3_lastHour 4 (some .int) 1 := ⟨gtb_in (List.mem_of_getElem? (i := 766) (by decide +kernel)) rfl, gtb_in (List.mem_of_getElem? (i := 65) (by decide +kernel)) rfl, by decide +kernel, by decide⟩
theorem mv_X3_lastHour : MV yX3_lastHour := ⟨gtb_in (List.mem_of_getElem? (i := 764) (by decide +kernel)) rfl, gtb_in (List.mem_of_getElem? (i := 765) (by decide +kernel)) rfl⟩
theorem mf_X3_agrees : MF yX3_agrees cX3_agrees 5 (some .boolean) 3 := ⟨gtb_in (List.mem_of_getElem? (i := 771) (by decide +kernel)) rfl, gtb_in (List.mem_of_getElem? (i := 65) (by decide +kernel)) rfl, by decide +kernel, by decide⟩
theorem mv_X3_agrees : MV yX3_agrees := ⟨gtb_in (List.mem_of_getElem? (i := 769) (by decide +kernel)) rfl, gtb_in (List.mem_of_getElem? (i := 770) (by decide +kernel)) rfl⟩
theorem mf_X8_can : MF yX8_can cX8_can 6 (some .int) 2 := ⟨gtb_in (List.mem_of_getElem? (i := 775) (by decide +kernel)) rfl, gtb_in (List.mem_of_getElem? (i := 63) (by decide +kernel)) rfl, by decide +kernel, by decide⟩
theorem mv_X8_can : MV yX8_can := ⟨gtb_in (List.mem_of_getElem? (i := 773) (by decide +kernel)) rfl, gtb_in (List.mem_of_getElem? (i := 774) (by decide +kernel)) rfl⟩
theorem mf_X8_odds : MF yX8_odds cX8_odds 6 (some .long) 3 := ⟨gtb_in (List.mem_of_getElem? (i := 779) (by decide +kernel)) rfl, gtb_in (List.mem_of_getElem? (i := 63) (by decide +kernel)) rfl, by decide +kernel, by decide⟩
theorem mv_X8_odds : MV yX8_odds := ⟨gtb_in (List.mem_of_getElem? (i := 777) (by decide +kernel)) rfl, gtb_in (List.mem_of_getElem? (i := 778) (by decide +kernel)) rfl⟩
theorem mf_X8_isPart : MF yX8_isPart cX8_isPart 1 (some .boolean) 1 := ⟨gtb_in (List.mem_of_getElem? (i := 782) (by decide +kernel)) rfl, gtb_in (List.mem_of_getElem? (i := 63) (by decide +kernel)) rfl, by decide +kernel, by decide⟩
theorem ms_X8_isPart : Cond.static yX8_isPart ∈ gtb := gtb_in (List.mem_of_getElem? (i := 781) (by decide +kernel)) rfl
theorem mf_X8_lowest : MF yX8_lowest cX8_lowest 5 (some .long) 3 := ⟨gtb_in (List.mem_of_getElem? (i := 786) (by decide +kernel)) rfl, gtb_in (List.mem_of_getElem? (i := 63) (by decide +kernel)) rfl, by decide +kernel, by decide⟩
theorem ms_X8_lowest : Cond.static yX8_lowest ∈ gtb := gtb_in (List.mem_of_getElem? (i := 785) (by decide +kernel)) rfl
theorem mf_X8_mean : MF yX8_mean cX8_mean 2 (some .long) 1 := ⟨gtb_in (List.mem_of_getElem? (i := 790) (by decide +kernel)) rfl, gtb_in (List.mem_of_getElem? (i := 63) (by decide +kernel)) rfl, by decide +kernel, by decide⟩
theorem mv_X8_mean : MV yX8_mean := ⟨gtb_in (List.mem_of_getElem? (i := 788) (by decide +kernel)) rfl, gtb_in (List.mem_of_getElem? (i := 789) (by decide +kernel)) rfl⟩
theorem mf_X8_plan : MF yX8_plan cX8_plan 4 (some .int) 2 := ⟨gtb_in (List.mem_of_getElem? (i := 794) (by decide +kernel)) rfl, gtb_in (List.mem_of_getElem? (i := 63) (by decide +kernel)) rfl, by decide +kernel, by decide⟩
theorem mv_X8_plan : MV yX8_plan := ⟨gtb_in (List.mem_of_getElem? (i := 792) (by decide +kernel)) rfl, gtb_in (List.mem_of_getElem? (i := 793) (by decide +kernel)) rfl⟩
theorem mf_X8_ends : MF yX8_ends cX8_ends 4 (some .int) 1 := ⟨gtb_in (List.mem_of_getElem? (i := 798) (by decide +kernel)) rfl, gtb_in (List.mem_of_getElem? (i := 63) (by decide +kernel)) rfl, by decide +kernel, by decide⟩
theorem mv_X8_ends : MV yX8_ends := ⟨gtb_in (List.mem_of_getElem? (i := 796) (by decide +kernel)) rfl, gtb_in (List.mem_of_getElem? (i := 797) (by decide +kernel)) rfl⟩
theorem mf_X8_book : MF yX8_book cX8_book 3 (some .int) 2 := ⟨gtb_in (List.mem_of_getElem? (i := 802) (by decide +kernel)) rfl, gtb_in (List.mem_of_getElem? (i := 63) (by decide +kernel)) rfl, by decide +kernel, by decide⟩
theorem mv_X8_book : MV yX8_book := ⟨gtb_in (List.mem_of_getElem? (i := 800) (by decide +kernel)) rfl, gtb_in (List.mem_of_getElem? (i := 801) (by decide +kernel)) rfl⟩
theorem mf_X8_looked : MF yX8_looked cX8_looked 2 (some .int) 0 := ⟨gtb_in (List.mem_of_getElem? (i := 806) (by decide +kernel)) rfl, gtb_in (List.mem_of_getElem? (i := 63) (by decide +kernel)) rfl, by decide +kernel, by decide⟩
theorem mv_X8_looked : MV yX8_looked := ⟨gtb_in (List.mem_of_getElem? (i := 804) (by decide +kernel)) rfl, gtb_in (List.mem_of_getElem? (i := 805) (by decide +kernel)) rfl⟩
theorem mf_X8_judge : MF yX8_judge cX8_judge 5 (some .int) 2 := ⟨gtb_in (List.mem_of_getElem? (i := 810) (by decide +kernel)) rfl, gtb_in (List.mem_of_getElem? (i := 63) (by decide +kernel)) rfl, by decide +kernel, by decide⟩
theorem mv_X8_judge : MV yX8_judge := ⟨gtb_in (List.mem_of_getElem? (i := 808) (by decide +kernel)) rfl, gtb_in (List.mem_of_getElem? (i := 809) (by decide +kernel)) rfl⟩
theorem mf_X8_isTape : MF yX8_isTape cX8_isTape 1 (some .boolean) 1 := ⟨gtb_in (List.mem_of_getElem? (i := 813) (by decide +kernel)) rfl, gtb_in (List.mem_of_getElem? (i := 63) (by decide +kernel)) rfl, by decide +kernel, by decide⟩
theorem ms_X8_isTape : Cond.static yX8_isTape ∈ gtb := gtb_in (List.mem_of_getElem? (i := 812) (by decide +kernel)) rfl
theorem mf_X4_hasPlace : MF yX4_hasPlace cX4_hasPlace 2 (some .boolean) 1 := ⟨gtb_in (List.mem_of_getElem? (i := 817) (by decide +kernel)) rfl, gtb_in (List.mem_of_getElem? (i := 71) (by decide +kernel)) rfl, by decide +kernel, by decide⟩
theorem mv_X4_hasPlace : MV yX4_hasPlace := ⟨gtb_in (List.mem_of_getElem? (i := 815) (by decide +kernel)) rfl, gtb_in (List.mem_of_getElem? (i := 816) (by decide +kernel)) rfl⟩
theorem mf_X8_image : MF yX8_image cX8_image 1 (some .int) 0 := ⟨gtb_in (List.mem_of_getElem? (i := 821) (by decide +kernel)) rfl, gtb_in (List.mem_of_getElem? (i := 63) (by decide +kernel)) rfl, by decide +kernel, by decide⟩
theorem mv_X8_image : MV yX8_image := ⟨gtb_in (List.mem_of_getElem? (i := 819) (by decide +kernel)) rfl, gtb_in (List.mem_of_getElem? (i := 820) (by decide +kernel)) rfl⟩
theorem mf_X8_undo : MF yX8_undo cX8_undo 1 (some .int) 0 := ⟨gtb_in (List.mem_of_getElem? (i := 825) (by decide +kernel)) rfl, gtb_in (List.mem_of_getElem? (i := 63) (by decide +kernel)) rfl, by decide +kernel, by decide⟩
theorem mv_X8_undo : MV yX8_undo := ⟨gtb_in (List.mem_of_getElem? (i := 823) (by decide +kernel)) rfl, gtb_in (List.mem_of_getElem? (i := 824) (by decide +kernel)) rfl⟩
theorem mf_X8_act : MF yX8_act cX8_act 4 (some .int) 3 := ⟨gtb_in (List.mem_of_getElem? (i := 829) (by decide +kernel)) rfl, gtb_in (List.mem_of_getElem? (i := 63) (by decide +kernel)) rfl, by decide +kernel, by decide⟩
theorem mv_X8_act : MV yX8_act := ⟨gtb_in (List.mem_of_getElem? (i := 827) (by decide +kernel)) rfl, gtb_in (List.mem_of_getElem? (i := 828) (by decide +kernel)) rfl⟩
theorem mf_X0_begin : MF yX0_begin cX0_begin 5 (some .int) 4 := ⟨gtb_in (List.mem_of_getElem? (i := 833) (by decide +kernel)) rfl, gtb_in (List.mem_of_getElem? (i := 69) (by decide +kernel)) rfl, by decide +kernel, by decide⟩
theorem mv_X0_begin : MV yX0_begin := ⟨gtb_in (List.mem_of_getElem? (i := 831) (by decide +kernel)) rfl, gtb_in (List.mem_of_getElem? (i := 832) (by decide +kernel)) rfl⟩
theorem mf_X0_perform : MF yX0_perform cX0_perform 7 (some .int) 4 := ⟨gtb_in (List.mem_of_getElem? (i := 837) (by decide +kernel)) rfl, gtb_in (List.mem_of_getElem? (i := 69) (by decide +kernel)) rfl, by decide +kernel, by decide⟩
theorem mv_X0_perform : MV yX0_perform := ⟨gtb_in (List.mem_of_getElem? (i := 836) (by decide +kernel)) rfl, gtb_in (List.mem_of_getElem? (i := 19) (by decide +kernel)) rfl⟩
theorem mf_X0_answer : MF yX0_answer cX0_answer 5 (some .int) 4 := ⟨gtb_in (List.mem_of_getElem? (i := 845) (by decide +kernel)) rfl, gtb_in (List.mem_of_getElem? (i := 69) (by decide +kernel)) rfl, by decide +kernel, by decide⟩
theorem mv_X0_answer : MV yX0_answer := ⟨gtb_in (List.mem_of_getElem? (i := 844) (by decide +kernel)) rfl, gtb_in (List.mem_of_getElem? (i := 20) (by decide +kernel)) rfl⟩
theorem mf_X8_trace : MF yX8_trace cX8_trace 2 (some .int) 1 := ⟨gtb_in (List.mem_of_getElem? (i := 849) (by decide +kernel)) rfl, gtb_in (List.mem_of_getElem? (i := 63) (by decide +kernel)) rfl, by decide +kernel, by decide⟩
theorem mv_X8_trace : MV yX8_trace := ⟨gtb_in (List.mem_of_getElem? (i := 847) (by decide +kernel)) rfl, gtb_in (List.mem_of_getElem? (i := 848) (by decide +kernel)) rfl⟩
theorem mf_X8_taken : MF yX8_taken cX8_taken 4 (some .int) 2 := ⟨gtb_in (List.mem_of_getElem? (i := 853) (by decide +kernel)) rfl, gtb_in (List.mem_of_getElem? (i := 63) (by decide +kernel)) rfl, by decide +kernel, by decide⟩
theorem mv_X8_taken : MV yX8_taken := ⟨gtb_in (List.mem_of_getElem? (i := 851) (by decide +kernel)) rfl, gtb_in (List.mem_of_getElem? (i := 852) (by decide +kernel)) rfl⟩
theorem mf_X8_isUnder : MF yX8_isUnder cX8_isUnder 4 (some .boolean) 2 := ⟨gtb_in (List.mem_of_getElem? (i := 856) (by decide +kernel)) rfl, gtb_in (List.mem_of_getElem? (i := 63) (by decide +kernel)) rfl, by decide +kernel, by decide⟩
theorem ms_X8_isUnder : Cond.static yX8_isUnder ∈ gtb := gtb_in (List.mem_of_getElem? (i := 855) (by decide +kernel)) rfl
theorem mf_X8_count : MF yX8_count cX8_count 2 (some .int) 1 := ⟨gtb_in (List.mem_of_getElem? (i := 861) (by decide +kernel)) rfl, gtb_in (List.mem_of_getElem? (i := 63) (by decide +kernel)) rfl, by decide +kernel, by decide⟩
theorem mv_X8_count : MV yX8_count := ⟨gtb_in (List.mem_of_getElem? (i := 859) (by decide +kernel)) rfl, gtb_in (List.mem_of_getElem? (i := 860) (by decide +kernel)) rfl⟩
theorem mf_X8_tape : MF yX8_tape cX8_tape 4 (some .int) 3 := ⟨gtb_in (List.mem_of_getElem? (i := 865) (by decide +kernel)) rfl, gtb_in (List.mem_of_getElem? (i := 63) (by decide +kernel)) rfl, by decide +kernel, by decide⟩
theorem mv_X8_tape : MV yX8_tape := ⟨gtb_in (List.mem_of_getElem? (i := 863) (by decide +kernel)) rfl, gtb_in (List.mem_of_getElem? (i := 864) (by decide +kernel)) rfl⟩
theorem mf_X4_become : MF yX4_become cX4_become 3 none 2 := ⟨gtb_in (List.mem_of_getElem? (i := 869) (by decide +kernel)) rfl, gtb_in (List.mem_of_getElem? (i := 71) (by decide +kernel)) rfl, by decide +kernel, by decide⟩
theorem mv_X4_become : MV yX4_become := ⟨gtb_in (List.mem_of_getElem? (i := 867) (by decide +kernel)) rfl, gtb_in (List.mem_of_getElem? (i := 868) (by decide +kernel)) rfl⟩
theorem mf_J7_fill_d0a16 : MF yJ7_fill_d0a16 cJ7_fill_d0a16 5 none 2 := ⟨gtb_in (List.mem_of_getElem? (i := 872) (by decide +kernel)) rfl, gtb_in (List.mem_of_getElem? (i := 73) (by decide +kernel)) rfl, by decide +kernel, by decide⟩
theorem ms_J7_fill_d0a16 : Cond.static yJ7_fill_d0a16 ∈ gtb := gtb_in (List.mem_of_getElem? (i := 871) (by decide +kernel)) rfl
theorem mf_X8_item : MF yX8_item cX8_item 6 (some .int) 3 := ⟨gtb_in (List.mem_of_getElem? (i := 876) (by decide +kernel)) rfl, gtb_in (List.mem_of_getElem? (i := 63) (by decide +kernel)) rfl, by decide +kernel, by decide⟩
theorem mv_X8_item : MV yX8_item := ⟨gtb_in (List.mem_of_getElem? (i := 874) (by decide +kernel)) rfl, gtb_in (List.mem_of_getElem? (i := 875) (by decide +kernel)) rfl⟩
theorem mf_X4_asItem : MF yX4_asItem cX4_asItem 3 (some .long) 1 := ⟨gtb_in (List.mem_of_getElem? (i := 880) (by decide +kernel)) rfl, gtb_in (List.mem_of_getElem? (i := 71) (by decide +kernel)) rfl, by decide +kernel, by decide⟩
theorem mv_X4_asItem : MV yX4_asItem := ⟨gtb_in (List.mem_of_getElem? (i := 878) (by decide +kernel)) rfl, gtb_in (List.mem_of_getElem? (i := 879) (by decide +kernel)) rfl⟩
theorem mf_X8_read : MF yX8_read cX8_read 3 (some .long) 2 := ⟨gtb_in (List.mem_of_getElem? (i := 884) (by decide +kernel)) rfl, gtb_in (List.mem_of_getElem? (i := 63) (by decide +kernel)) rfl, by decide +kernel, by decide⟩
theorem mv_X8_read : MV yX8_read := ⟨gtb_in (List.mem_of_getElem? (i := 882) (by decide +kernel)) rfl, gtb_in (List.mem_of_getElem? (i := 883) (by decide +kernel)) rfl⟩
theorem mf_X8_shift : MF yX8_shift cX8_shift 8 (some .int) 5 := ⟨gtb_in (List.mem_of_getElem? (i := 888) (by decide +kernel)) rfl, gtb_in (List.mem_of_getElem? (i := 63) (by decide +kernel)) rfl, by decide +kernel, by decide⟩
theorem mv_X8_shift : MV yX8_shift := ⟨gtb_in (List.mem_of_getElem? (i := 886) (by decide +kernel)) rfl, gtb_in (List.mem_of_getElem? (i := 887) (by decide +kernel)) rfl⟩
theorem mf_X4_hasPart : MF yX4_hasPart cX4_hasPart 3 (some .boolean) 2 := ⟨gtb_in (List.mem_of_getElem? (i := 892) (by decide +kernel)) rfl, gtb_in (List.mem_of_getElem? (i := 71) (by decide +kernel)) rfl, by decide +kernel, by decide⟩
theorem mv_X4_hasPart : MV yX4_hasPart := ⟨gtb_in (List.mem_of_getElem? (i := 890) (by decide +kernel)) rfl, gtb_in (List.mem_of_getElem? (i := 891) (by decide +kernel)) rfl⟩
theorem mf_X9_init : MF yX9_init cX9_init 1 none 0 := ⟨gtb_in (List.mem_of_getElem? (i := 898) (by decide +kernel)) rfl, gtb_in (List.mem_of_getElem? (i := 72) (by decide +kernel)) rfl, by decide +kernel, by decide⟩
theorem mf_X9_image : MF yX9_image cX9_image 1 (some .int) 0 := ⟨gtb_in (List.mem_of_getElem? (i := 1013) (by decide +kernel)) rfl, gtb_in (List.mem_of_getElem? (i := 72) (by decide +kernel)) rfl, by decide +kernel, by decide⟩
theorem mv_X9_image : MV yX9_image := ⟨gtb_in (List.mem_of_getElem? (i := 1011) (by decide +kernel)) rfl, gtb_in (List.mem_of_getElem? (i := 1012) (by decide +kernel)) rfl⟩
theorem mf_X9_move : MF yX9_move cX9_move 3 none 2 := ⟨gtb_in (List.mem_of_getElem? (i := 1016) (by decide +kernel)) rfl, gtb_in (List.mem_of_getElem? (i := 72) (by decide +kernel)) rfl, by decide +kernel, by decide⟩
theorem ms_X9_move : Cond.static yX9_move ∈ gtb := gtb_in (List.mem_of_getElem? (i := 1015) (by decide +kernel)) rfl
theorem mf_X9_undo : MF yX9_undo cX9_undo 1 (some .int) 0 := ⟨gtb_in (List.mem_of_getElem? (i := 1020) (by decide +kernel)) rfl, gtb_in (List.mem_of_getElem? (i := 72) (by decide +kernel)) rfl, by decide +kernel, by decide⟩
theorem mv_X9_undo : MV yX9_undo := ⟨gtb_in (List.mem_of_getElem? (i := 1018) (by decide +kernel)) rfl, gtb_in (List.mem_of_getElem? (i := 1019) (by decide +kernel)) rfl⟩
theorem mf_X9_bridge : MF yX9_bridge cX9_bridge 4 (some .int) 2 := ⟨gtb_in (List.mem_of_getElem? (i := 1024) (by decide +kernel)) rfl, gtb_in (List.mem_of_getElem? (i := 72) (by decide +kernel)) rfl, by decide +kernel, by decide⟩
theorem mv_X9_bridge : MV yX9_bridge := ⟨gtb_in (List.mem_of_getElem? (i := 1022) (by decide +kernel)) rfl, gtb_in (List.mem_of_getElem? (i := 1023) (by decide +kernel)) rfl⟩
theorem mf_X9_isQuarter : MF yX9_isQuarter cX9_isQuarter 1 (some .boolean) 1 := ⟨gtb_in (List.mem_of_getElem? (i := 1027) (by decide +kernel)) rfl, gtb_in (List.mem_of_getElem? (i := 72) (by decide +kernel)) rfl, by decide +kernel, by decide⟩
theorem ms_X9_isQuarter : Cond.static yX9_isQuarter ∈ gtb := gtb_in (List.mem_of_getElem? (i := 1026) (by decide +kernel)) rfl
theorem mf_X9_isIn : MF yX9_isIn cX9_isIn 3 (some .boolean) 3 := ⟨gtb_in (List.mem_of_getElem? (i := 1030) (by decide +kernel)) rfl, gtb_in (List.mem_of_getElem? (i := 72) (by decide +kernel)) rfl, by decide +kernel, by decide⟩
theorem ms_X9_isIn : Cond.static yX9_isIn ∈ gtb := gtb_in (List.mem_of_getElem? (i := 1029) (by decide +kernel)) rfl
theorem mf_X9_one_ : MF yX9_one_ cX9_one_ 6 (some .int) 3 := ⟨gtb_in (List.mem_of_getElem? (i := 1034) (by decide +kernel)) rfl, gtb_in (List.mem_of_getElem? (i := 72) (by decide +kernel)) rfl, by decide +kernel, by decide⟩
theorem mv_X9_one_ : MV yX9_one_ := ⟨gtb_in (List.mem_of_getElem? (i := 1032) (by decide +kernel)) rfl, gtb_in (List.mem_of_getElem? (i := 1033) (by decide +kernel)) rfl⟩
theorem mf_X9_change : MF yX9_change cX9_change 5 (some .int) 3 := ⟨gtb_in (List.mem_of_getElem? (i := 1038) (by decide +kernel)) rfl, gtb_in (List.mem_of_getElem? (i := 72) (by decide +kernel)) rfl, by decide +kernel, by decide⟩
theorem mv_X9_change : MV yX9_change := ⟨gtb_in (List.mem_of_getElem? (i := 1037) (by decide +kernel)) rfl, gtb_in (List.mem_of_getElem? (i := 21) (by decide +kernel)) rfl⟩
theorem mf_X9_one : MF yX9_one cX9_one 3 (some .int) 2 := ⟨gtb_in (List.mem_of_getElem? (i := 1042) (by decide +kernel)) rfl, gtb_in (List.mem_of_getElem? (i := 72) (by decide +kernel)) rfl, by decide +kernel, by decide⟩
theorem mv_X9_one : MV yX9_one := ⟨gtb_in (List.mem_of_getElem? (i := 1041) (by decide +kernel)) rfl, gtb_in (List.mem_of_getElem? (i := 22) (by decide +kernel)) rfl⟩
theorem mf_X9_of : MF yX9_of cX9_of 3 (some .int) 2 := ⟨gtb_in (List.mem_of_getElem? (i := 1046) (by decide +kernel)) rfl, gtb_in (List.mem_of_getElem? (i := 72) (by decide +kernel)) rfl, by decide +kernel, by decide⟩
theorem mv_X9_of : MV yX9_of := ⟨gtb_in (List.mem_of_getElem? (i := 1044) (by decide +kernel)) rfl, gtb_in (List.mem_of_getElem? (i := 1045) (by decide +kernel)) rfl⟩
theorem mf_X9_isOne : MF yX9_isOne cX9_isOne 2 (some .boolean) 1 := ⟨gtb_in (List.mem_of_getElem? (i := 1050) (by decide +kernel)) rfl, gtb_in (List.mem_of_getElem? (i := 72) (by decide +kernel)) rfl, by decide +kernel, by decide⟩
theorem mv_X9_isOne : MV yX9_isOne := ⟨gtb_in (List.mem_of_getElem? (i := 1049) (by decide +kernel)) rfl, gtb_in (List.mem_of_getElem? (i := 23) (by decide +kernel)) rfl⟩
theorem mf_X9_orNever : MF yX9_orNever cX9_orNever 1 (some .int) 1 := ⟨gtb_in (List.mem_of_getElem? (i := 1053) (by decide +kernel)) rfl, gtb_in (List.mem_of_getElem? (i := 72) (by decide +kernel)) rfl, by decide +kernel, by decide⟩
theorem ms_X9_orNever : Cond.static yX9_orNever ∈ gtb := gtb_in (List.mem_of_getElem? (i := 1052) (by decide +kernel)) rfl
theorem mf_X9_reach : MF yX9_reach cX9_reach 4 (some .int) 1 := ⟨gtb_in (List.mem_of_getElem? (i := 1057) (by decide +kernel)) rfl, gtb_in (List.mem_of_getElem? (i := 72) (by decide +kernel)) rfl, by decide +kernel, by decide⟩
theorem mv_X9_reach : MV yX9_reach := ⟨gtb_in (List.mem_of_getElem? (i := 1056) (by decide +kernel)) rfl, gtb_in (List.mem_of_getElem? (i := 24) (by decide +kernel)) rfl⟩
theorem mf_X9_explore : MF yX9_explore cX9_explore 8 none 1 := ⟨gtb_in (List.mem_of_getElem? (i := 1061) (by decide +kernel)) rfl, gtb_in (List.mem_of_getElem? (i := 72) (by decide +kernel)) rfl, by decide +kernel, by decide⟩
theorem mv_X9_explore : MV yX9_explore := ⟨gtb_in (List.mem_of_getElem? (i := 1060) (by decide +kernel)) rfl, gtb_in (List.mem_of_getElem? (i := 25) (by decide +kernel)) rfl⟩
theorem mf_X9_mayAnywhere : MF yX9_mayAnywhere cX9_mayAnywhere 4 (some .int) 1 := ⟨gtb_in (List.mem_of_getElem? (i := 1065) (by decide +kernel)) rfl, gtb_in (List.mem_of_getElem? (i := 72) (by decide +kernel)) rfl, by decide +kernel, by decide⟩
theorem mv_X9_mayAnywhere : MV yX9_mayAnywhere := ⟨gtb_in (List.mem_of_getElem? (i := 1064) (by decide +kernel)) rfl, gtb_in (List.mem_of_getElem? (i := 26) (by decide +kernel)) rfl⟩
theorem mf_X9_isLost : MF yX9_isLost cX9_isLost 2 (some .boolean) 1 := ⟨gtb_in (List.mem_of_getElem? (i := 1069) (by decide +kernel)) rfl, gtb_in (List.mem_of_getElem? (i := 72) (by decide +kernel)) rfl, by decide +kernel, by decide⟩
theorem mv_X9_isLost : MV yX9_isLost := ⟨gtb_in (List.mem_of_getElem? (i := 1068) (by decide +kernel)) rfl, gtb_in (List.mem_of_getElem? (i := 27) (by decide +kernel)) rfl⟩
theorem mf_X9_leave : MF yX9_leave cX9_leave 5 (some .int) 2 := ⟨gtb_in (List.mem_of_getElem? (i := 1073) (by decide +kernel)) rfl, gtb_in (List.mem_of_getElem? (i := 72) (by decide +kernel)) rfl, by decide +kernel, by decide⟩
theorem mv_X9_leave : MV yX9_leave := ⟨gtb_in (List.mem_of_getElem? (i := 1072) (by decide +kernel)) rfl, gtb_in (List.mem_of_getElem? (i := 28) (by decide +kernel)) rfl⟩
theorem mf_X9_readFor : MF yX9_readFor cX9_readFor 5 none 2 := ⟨gtb_in (List.mem_of_getElem? (i := 1077) (by decide +kernel)) rfl, gtb_in (List.mem_of_getElem? (i := 72) (by decide +kernel)) rfl, by decide +kernel, by decide⟩
theorem mv_X9_readFor : MV yX9_readFor := ⟨gtb_in (List.mem_of_getElem? (i := 1076) (by decide +kernel)) rfl, gtb_in (List.mem_of_getElem? (i := 29) (by decide +kernel)) rfl⟩
theorem mf_X9_many : MF yX9_many cX9_many 3 (some .int) 1 := ⟨gtb_in (List.mem_of_getElem? (i := 1080) (by decide +kernel)) rfl, gtb_in (List.mem_of_getElem? (i := 72) (by decide +kernel)) rfl, by decide +kernel, by decide⟩
theorem ms_X9_many : Cond.static yX9_many ∈ gtb := gtb_in (List.mem_of_getElem? (i := 1079) (by decide +kernel)) rfl
theorem mf_X9_readAll : MF yX9_readAll cX9_readAll 2 (some .boolean) 0 := ⟨gtb_in (List.mem_of_getElem? (i := 1084) (by decide +kernel)) rfl, gtb_in (List.mem_of_getElem? (i := 72) (by decide +kernel)) rfl, by decide +kernel, by decide⟩
theorem mv_X9_readAll : MV yX9_readAll := ⟨gtb_in (List.mem_of_getElem? (i := 1083) (by decide +kernel)) rfl, gtb_in (List.mem_of_getElem? (i := 30) (by decide +kernel)) rfl⟩
theorem mf_X9_clause : MF yX9_clause cX9_clause 4 none 0 := ⟨gtb_in (List.mem_of_getElem? (i := 1088) (by decide +kernel)) rfl, gtb_in (List.mem_of_getElem? (i := 72) (by decide +kernel)) rfl, by decide +kernel, by decide⟩
theorem mv_X9_clause : MV yX9_clause := ⟨gtb_in (List.mem_of_getElem? (i := 1087) (by decide +kernel)) rfl, gtb_in (List.mem_of_getElem? (i := 31) (by decide +kernel)) rfl⟩
theorem mf_X9_isAt : MF yX9_isAt cX9_isAt 2 (some .boolean) 1 := ⟨gtb_in (List.mem_of_getElem? (i := 1092) (by decide +kernel)) rfl, gtb_in (List.mem_of_getElem? (i := 72) (by decide +kernel)) rfl, by decide +kernel, by decide⟩
theorem mv_X9_isAt : MV yX9_isAt := ⟨gtb_in (List.mem_of_getElem? (i := 1091) (by decide +kernel)) rfl, gtb_in (List.mem_of_getElem? (i := 32) (by decide +kernel)) rfl⟩
theorem mf_X9_takes : MF yX9_takes cX9_takes 2 none 1 := ⟨gtb_in (List.mem_of_getElem? (i := 1096) (by decide +kernel)) rfl, gtb_in (List.mem_of_getElem? (i := 72) (by decide +kernel)) rfl, by decide +kernel, by decide⟩
theorem mv_X9_takes : MV yX9_takes := ⟨gtb_in (List.mem_of_getElem? (i := 1095) (by decide +kernel)) rfl, gtb_in (List.mem_of_getElem? (i := 33) (by decide +kernel)) rfl⟩
theorem mf_X9_number : MF yX9_number cX9_number 2 (some .int) 0 := ⟨gtb_in (List.mem_of_getElem? (i := 1100) (by decide +kernel)) rfl, gtb_in (List.mem_of_getElem? (i := 72) (by decide +kernel)) rfl, by decide +kernel, by decide⟩
theorem mv_X9_number : MV yX9_number := ⟨gtb_in (List.mem_of_getElem? (i := 1099) (by decide +kernel)) rfl, gtb_in (List.mem_of_getElem? (i := 34) (by decide +kernel)) rfl⟩
theorem mf_X9_isDigit : MF yX9_isDigit cX9_isDigit 1 (some .boolean) 0 := ⟨gtb_in (List.mem_of_getElem? (i := 1104) (by decide +kernel)) rfl, gtb_in (List.mem_of_getElem? (i := 72) (by decide +kernel)) rfl, by decide +kernel, by decide⟩
theorem mv_X9_isDigit : MV yX9_isDigit := ⟨gtb_in (List.mem_of_getElem? (i := 1103) (by decide +kernel)) rfl, gtb_in (List.mem_of_getElem? (i := 35) (by decide +kernel)) rfl⟩
theorem mf_X9_any : MF yX9_any cX9_any 3 (some .boolean) 0 := ⟨gtb_in (List.mem_of_getElem? (i := 1108) (by decide +kernel)) rfl, gtb_in (List.mem_of_getElem? (i := 72) (by decide +kernel)) rfl, by decide +kernel, by decide⟩
theorem mv_X9_any : MV yX9_any := ⟨gtb_in (List.mem_of_getElem? (i := 1107) (by decide +kernel)) rfl, gtb_in (List.mem_of_getElem? (i := 36) (by decide +kernel)) rfl⟩
theorem mf_X9_both : MF yX9_both cX9_both 3 (some .boolean) 0 := ⟨gtb_in (List.mem_of_getElem? (i := 1112) (by decide +kernel)) rfl, gtb_in (List.mem_of_getElem? (i := 72) (by decide +kernel)) rfl, by decide +kernel, by decide⟩
theorem mv_X9_both : MV yX9_both := ⟨gtb_in (List.mem_of_getElem? (i := 1111) (by decide +kernel)) rfl, gtb_in (List.mem_of_getElem? (i := 37) (by decide +kernel)) rfl⟩
theorem mf_X9_factor : MF yX9_factor cX9_factor 2 (some .boolean) 0 := ⟨gtb_in (List.mem_of_getElem? (i := 1116) (by decide +kernel)) rfl, gtb_in (List.mem_of_getElem? (i := 72) (by decide +kernel)) rfl, by decide +kernel, by decide⟩
theorem mv_X9_factor : MV yX9_factor := ⟨gtb_in (List.mem_of_getElem? (i := 1115) (by decide +kernel)) rfl, gtb_in (List.mem_of_getElem? (i := 38) (by decide +kernel)) rfl⟩
theorem mf_X9_test : MF yX9_test cX9_test 4 (some .boolean) 0 := ⟨gtb_in (List.mem_of_getElem? (i := 1120) (by decide +kernel)) rfl, gtb_in (List.mem_of_getElem? (i := 72) (by decide +kernel)) rfl, by decide +kernel, by decide⟩
theorem mv_X9_test : MV yX9_test := ⟨gtb_in (List.mem_of_getElem? (i := 1119) (by decide +kernel)) rfl, gtb_in (List.mem_of_getElem? (i := 39) (by decide +kernel)) rfl⟩
theorem mf_X9_arrive : MF yX9_arrive cX9_arrive 5 none 4 := ⟨gtb_in (List.mem_of_getElem? (i := 1124) (by decide +kernel)) rfl, gtb_in (List.mem_of_getElem? (i := 72) (by decide +kernel)) rfl, by decide +kernel, by decide⟩
theorem mv_X9_arrive : MV yX9_arrive := ⟨gtb_in (List.mem_of_getElem? (i := 1123) (by decide +kernel)) rfl, gtb_in (List.mem_of_getElem? (i := 40) (by decide +kernel)) rfl⟩
theorem mf_X9_end : MF yX9_end cX9_end 3 (some .int) 2 := ⟨gtb_in (List.mem_of_getElem? (i := 1128) (by decide +kernel)) rfl, gtb_in (List.mem_of_getElem? (i := 72) (by decide +kernel)) rfl, by decide +kernel, by decide⟩
theorem mv_X9_end : MV yX9_end := ⟨gtb_in (List.mem_of_getElem? (i := 1127) (by decide +kernel)) rfl, gtb_in (List.mem_of_getElem? (i := 41) (by decide +kernel)) rfl⟩
theorem mf_X9_halfBy : MF yX9_halfBy cX9_halfBy 4 (some .int) 2 := ⟨gtb_in (List.mem_of_getElem? (i := 1132) (by decide +kernel)) rfl, gtb_in (List.mem_of_getElem? (i := 72) (by decide +kernel)) rfl, by decide +kernel, by decide⟩
theorem mv_X9_halfBy : MV yX9_halfBy := ⟨gtb_in (List.mem_of_getElem? (i := 1131) (by decide +kernel)) rfl, gtb_in (List.mem_of_getElem? (i := 42) (by decide +kernel)) rfl⟩
theorem mf_X9_sister : MF yX9_sister cX9_sister 2 (some .int) 1 := ⟨gtb_in (List.mem_of_getElem? (i := 1136) (by decide +kernel)) rfl, gtb_in (List.mem_of_getElem? (i := 72) (by decide +kernel)) rfl, by decide +kernel, by decide⟩
theorem mv_X9_sister : MV yX9_sister := ⟨gtb_in (List.mem_of_getElem? (i := 1135) (by decide +kernel)) rfl, gtb_in (List.mem_of_getElem? (i := 43) (by decide +kernel)) rfl⟩
theorem mf_X9_done : MF yX9_done cX9_done 4 (some .int) 1 := ⟨gtb_in (List.mem_of_getElem? (i := 1140) (by decide +kernel)) rfl, gtb_in (List.mem_of_getElem? (i := 72) (by decide +kernel)) rfl, by decide +kernel, by decide⟩
theorem mv_X9_done : MV yX9_done := ⟨gtb_in (List.mem_of_getElem? (i := 1139) (by decide +kernel)) rfl, gtb_in (List.mem_of_getElem? (i := 44) (by decide +kernel)) rfl⟩
theorem mf_X9_isDone : MF yX9_isDone cX9_isDone 2 (some .boolean) 1 := ⟨gtb_in (List.mem_of_getElem? (i := 1144) (by decide +kernel)) rfl, gtb_in (List.mem_of_getElem? (i := 72) (by decide +kernel)) rfl, by decide +kernel, by decide⟩
theorem mv_X9_isDone : MV yX9_isDone := ⟨gtb_in (List.mem_of_getElem? (i := 1143) (by decide +kernel)) rfl, gtb_in (List.mem_of_getElem? (i := 45) (by decide +kernel)) rfl⟩
theorem mf_X9_isTruly : MF yX9_isTruly cX9_isTruly 3 (some .boolean) 2 := ⟨gtb_in (List.mem_of_getElem? (i := 1148) (by decide +kernel)) rfl, gtb_in (List.mem_of_getElem? (i := 72) (by decide +kernel)) rfl, by decide +kernel, by decide⟩
theorem mv_X9_isTruly : MV yX9_isTruly := ⟨gtb_in (List.mem_of_getElem? (i := 1147) (by decide +kernel)) rfl, gtb_in (List.mem_of_getElem? (i := 46) (by decide +kernel)) rfl⟩
theorem mf_X9_hour : MF yX9_hour cX9_hour 4 none 0 := ⟨gtb_in (List.mem_of_getElem? (i := 1152) (by decide +kernel)) rfl, gtb_in (List.mem_of_getElem? (i := 72) (by decide +kernel)) rfl, by decide +kernel, by decide⟩
theorem mv_X9_hour : MV yX9_hour := ⟨gtb_in (List.mem_of_getElem? (i := 1151) (by decide +kernel)) rfl, gtb_in (List.mem_of_getElem? (i := 47) (by decide +kernel)) rfl⟩
theorem mf_X9_longTo : MF yX9_longTo cX9_longTo 7 (some .int) 2 := ⟨gtb_in (List.mem_of_getElem? (i := 1156) (by decide +kernel)) rfl, gtb_in (List.mem_of_getElem? (i := 72) (by decide +kernel)) rfl, by decide +kernel, by decide⟩
theorem mv_X9_longTo : MV yX9_longTo := ⟨gtb_in (List.mem_of_getElem? (i := 1155) (by decide +kernel)) rfl, gtb_in (List.mem_of_getElem? (i := 48) (by decide +kernel)) rfl⟩
theorem mf_X9_crosses : MF yX9_crosses cX9_crosses 3 none 2 := ⟨gtb_in (List.mem_of_getElem? (i := 1160) (by decide +kernel)) rfl, gtb_in (List.mem_of_getElem? (i := 72) (by decide +kernel)) rfl, by decide +kernel, by decide⟩
theorem mv_X9_crosses : MV yX9_crosses := ⟨gtb_in (List.mem_of_getElem? (i := 1159) (by decide +kernel)) rfl, gtb_in (List.mem_of_getElem? (i := 49) (by decide +kernel)) rfl⟩
theorem mf_X9_may : MF yX9_may cX9_may 4 (some .int) 1 := ⟨gtb_in (List.mem_of_getElem? (i := 1164) (by decide +kernel)) rfl, gtb_in (List.mem_of_getElem? (i := 72) (by decide +kernel)) rfl, by decide +kernel, by decide⟩
theorem mv_X9_may : MV yX9_may := ⟨gtb_in (List.mem_of_getElem? (i := 1163) (by decide +kernel)) rfl, gtb_in (List.mem_of_getElem? (i := 50) (by decide +kernel)) rfl⟩
theorem mf_X9_isBridge : MF yX9_isBridge cX9_isBridge 2 (some .boolean) 1 := ⟨gtb_in (List.mem_of_getElem? (i := 1168) (by decide +kernel)) rfl, gtb_in (List.mem_of_getElem? (i := 72) (by decide +kernel)) rfl, by decide +kernel, by decide⟩
theorem mv_X9_isBridge : MV yX9_isBridge := ⟨gtb_in (List.mem_of_getElem? (i := 1167) (by decide +kernel)) rfl, gtb_in (List.mem_of_getElem? (i := 51) (by decide +kernel)) rfl⟩
theorem mf_X9_span : MF yX9_span cX9_span 3 (some .int) 2 := ⟨gtb_in (List.mem_of_getElem? (i := 1172) (by decide +kernel)) rfl, gtb_in (List.mem_of_getElem? (i := 72) (by decide +kernel)) rfl, by decide +kernel, by decide⟩
theorem mv_X9_span : MV yX9_span := ⟨gtb_in (List.mem_of_getElem? (i := 1170) (by decide +kernel)) rfl, gtb_in (List.mem_of_getElem? (i := 1171) (by decide +kernel)) rfl⟩
theorem mf_X9_errand : MF yX9_errand cX9_errand 3 (some .int) 2 := ⟨gtb_in (List.mem_of_getElem? (i := 1176) (by decide +kernel)) rfl, gtb_in (List.mem_of_getElem? (i := 72) (by decide +kernel)) rfl, by decide +kernel, by decide⟩
theorem mv_X9_errand : MV yX9_errand := ⟨gtb_in (List.mem_of_getElem? (i := 1174) (by decide +kernel)) rfl, gtb_in (List.mem_of_getElem? (i := 1175) (by decide +kernel)) rfl⟩
theorem mf_X9_cross : MF yX9_cross cX9_cross 3 (some .int) 2 := ⟨gtb_in (List.mem_of_getElem? (i := 1180) (by decide +kernel)) rfl, gtb_in (List.mem_of_getElem? (i := 72) (by decide +kernel)) rfl, by decide +kernel, by decide⟩
theorem mv_X9_cross : MV yX9_cross := ⟨gtb_in (List.mem_of_getElem? (i := 1178) (by decide +kernel)) rfl, gtb_in (List.mem_of_getElem? (i := 1179) (by decide +kernel)) rfl⟩
theorem mf_X9_lose : MF yX9_lose cX9_lose 4 (some .int) 2 := ⟨gtb_in (List.mem_of_getElem? (i := 1184) (by decide +kernel)) rfl, gtb_in (List.mem_of_getElem? (i := 72) (by decide +kernel)) rfl, by decide +kernel, by decide⟩
theorem mv_X9_lose : MV yX9_lose := ⟨gtb_in (List.mem_of_getElem? (i := 1182) (by decide +kernel)) rfl, gtb_in (List.mem_of_getElem? (i := 1183) (by decide +kernel)) rfl⟩
theorem mf_X9_swap : MF yX9_swap cX9_swap 3 (some .int) 2 := ⟨gtb_in (List.mem_of_getElem? (i := 1188) (by decide +kernel)) rfl, gtb_in (List.mem_of_getElem? (i := 72) (by decide +kernel)) rfl, by decide +kernel, by decide⟩
theorem mv_X9_swap : MV yX9_swap := ⟨gtb_in (List.mem_of_getElem? (i := 1186) (by decide +kernel)) rfl, gtb_in (List.mem_of_getElem? (i := 1187) (by decide +kernel)) rfl⟩
theorem mf_X9_isSwap : MF yX9_isSwap cX9_isSwap 3 (some .boolean) 2 := ⟨gtb_in (List.mem_of_getElem? (i := 1192) (by decide +kernel)) rfl, gtb_in (List.mem_of_getElem? (i := 72) (by decide +kernel)) rfl, by decide +kernel, by decide⟩
theorem mv_X9_isSwap : MV yX9_isSwap := ⟨gtb_in (List.mem_of_getElem? (i := 1191) (by decide +kernel)) rfl, gtb_in (List.mem_of_getElem? (i := 52) (by decide +kernel)) rfl⟩
theorem mf_X9_goSwap : MF yX9_goSwap cX9_goSwap 5 none 2 := ⟨gtb_in (List.mem_of_getElem? (i := 1196) (by decide +kernel)) rfl, gtb_in (List.mem_of_getElem? (i := 72) (by decide +kernel)) rfl, by decide +kernel, by decide⟩
theorem mv_X9_goSwap : MV yX9_goSwap := ⟨gtb_in (List.mem_of_getElem? (i := 1195) (by decide +kernel)) rfl, gtb_in (List.mem_of_getElem? (i := 53) (by decide +kernel)) rfl⟩
theorem mf_X9_row : MF yX9_row cX9_row 4 (some .int) 3 := ⟨gtb_in (List.mem_of_getElem? (i := 1200) (by decide +kernel)) rfl, gtb_in (List.mem_of_getElem? (i := 72) (by decide +kernel)) rfl, by decide +kernel, by decide⟩
theorem mv_X9_row : MV yX9_row := ⟨gtb_in (List.mem_of_getElem? (i := 1198) (by decide +kernel)) rfl, gtb_in (List.mem_of_getElem? (i := 1199) (by decide +kernel)) rfl⟩
theorem mf_X9_feed : MF yX9_feed cX9_feed 2 (some .int) 1 := ⟨gtb_in (List.mem_of_getElem? (i := 1204) (by decide +kernel)) rfl, gtb_in (List.mem_of_getElem? (i := 72) (by decide +kernel)) rfl, by decide +kernel, by decide⟩
theorem mv_X9_feed : MV yX9_feed := ⟨gtb_in (List.mem_of_getElem? (i := 1202) (by decide +kernel)) rfl, gtb_in (List.mem_of_getElem? (i := 1203) (by decide +kernel)) rfl⟩
theorem mf_X9_city : MF yX9_city cX9_city 2 (some .int) 0 := ⟨gtb_in (List.mem_of_getElem? (i := 1208) (by decide +kernel)) rfl, gtb_in (List.mem_of_getElem? (i := 72) (by decide +kernel)) rfl, by decide +kernel, by decide⟩
theorem mv_X9_city : MV yX9_city := ⟨gtb_in (List.mem_of_getElem? (i := 1206) (by decide +kernel)) rfl, gtb_in (List.mem_of_getElem? (i := 1207) (by decide +kernel)) rfl⟩
theorem mf_X9_told : MF yX9_told cX9_told 4 (some .int) 1 := ⟨gtb_in (List.mem_of_getElem? (i := 1212) (by decide +kernel)) rfl, gtb_in (List.mem_of_getElem? (i := 72) (by decide +kernel)) rfl, by decide +kernel, by decide⟩
theorem mv_X9_told : MV yX9_told := ⟨gtb_in (List.mem_of_getElem? (i := 1210) (by decide +kernel)) rfl, gtb_in (List.mem_of_getElem? (i := 1211) (by decide +kernel)) rfl⟩
theorem mf_X9_dones : MF yX9_dones cX9_dones 3 (some .int) 0 := ⟨gtb_in (List.mem_of_getElem? (i := 1216) (by decide +kernel)) rfl, gtb_in (List.mem_of_getElem? (i := 72) (by decide +kernel)) rfl, by decide +kernel, by decide⟩
theorem mv_X9_dones : MV yX9_dones := ⟨gtb_in (List.mem_of_getElem? (i := 1215) (by decide +kernel)) rfl, gtb_in (List.mem_of_getElem? (i := 54) (by decide +kernel)) rfl⟩
theorem mf_X9_halves : MF yX9_halves cX9_halves 3 (some .int) 0 := ⟨gtb_in (List.mem_of_getElem? (i := 1220) (by decide +kernel)) rfl, gtb_in (List.mem_of_getElem? (i := 72) (by decide +kernel)) rfl, by decide +kernel, by decide⟩
theorem mv_X9_halves : MV yX9_halves := ⟨gtb_in (List.mem_of_getElem? (i := 1219) (by decide +kernel)) rfl, gtb_in (List.mem_of_getElem? (i := 55) (by decide +kernel)) rfl⟩
theorem mf_X9_pass : MF yX9_pass cX9_pass 2 (some .int) 1 := ⟨gtb_in (List.mem_of_getElem? (i := 1224) (by decide +kernel)) rfl, gtb_in (List.mem_of_getElem? (i := 72) (by decide +kernel)) rfl, by decide +kernel, by decide⟩
theorem mv_X9_pass : MV yX9_pass := ⟨gtb_in (List.mem_of_getElem? (i := 1222) (by decide +kernel)) rfl, gtb_in (List.mem_of_getElem? (i := 1223) (by decide +kernel)) rfl⟩
theorem mf_X9_hours : MF yX9_hours cX9_hours 3 none 1 := ⟨gtb_in (List.mem_of_getElem? (i := 1228) (by decide +kernel)) rfl, gtb_in (List.mem_of_getElem? (i := 72) (by decide +kernel)) rfl, by decide +kernel, by decide⟩
theorem mv_X9_hours : MV yX9_hours := ⟨gtb_in (List.mem_of_getElem? (i := 1227) (by decide +kernel)) rfl, gtb_in (List.mem_of_getElem? (i := 56) (by decide +kernel)) rfl⟩
theorem mf_X9_on : MF yX9_on cX9_on 4 (some .int) 2 := ⟨gtb_in (List.mem_of_getElem? (i := 1232) (by decide +kernel)) rfl, gtb_in (List.mem_of_getElem? (i := 72) (by decide +kernel)) rfl, by decide +kernel, by decide⟩
theorem mv_X9_on : MV yX9_on := ⟨gtb_in (List.mem_of_getElem? (i := 1230) (by decide +kernel)) rfl, gtb_in (List.mem_of_getElem? (i := 1231) (by decide +kernel)) rfl⟩
theorem mf_X9_way : MF yX9_way cX9_way 5 (some .int) 3 := ⟨gtb_in (List.mem_of_getElem? (i := 1236) (by decide +kernel)) rfl, gtb_in (List.mem_of_getElem? (i := 72) (by decide +kernel)) rfl, by decide +kernel, by decide⟩
theorem mv_X9_way : MV yX9_way := ⟨gtb_in (List.mem_of_getElem? (i := 1234) (by decide +kernel)) rfl, gtb_in (List.mem_of_getElem? (i := 1235) (by decide +kernel)) rfl⟩
theorem mf_X9_sisters : MF yX9_sisters cX9_sisters 8 (some .int) 2 := ⟨gtb_in (List.mem_of_getElem? (i := 1240) (by decide +kernel)) rfl, gtb_in (List.mem_of_getElem? (i := 72) (by decide +kernel)) rfl, by decide +kernel, by decide⟩
theorem mv_X9_sisters : MV yX9_sisters := ⟨gtb_in (List.mem_of_getElem? (i := 1238) (by decide +kernel)) rfl, gtb_in (List.mem_of_getElem? (i := 1239) (by decide +kernel)) rfl⟩
theorem mf_X9_late : MF yX9_late cX9_late 1 (some .int) 1 := ⟨gtb_in (List.mem_of_getElem? (i := 1243) (by decide +kernel)) rfl, gtb_in (List.mem_of_getElem? (i := 72) (by decide +kernel)) rfl, by decide +kernel, by decide⟩
theorem ms_X9_late : Cond.static yX9_late ∈ gtb := gtb_in (List.mem_of_getElem? (i := 1242) (by decide +kernel)) rfl
theorem mf_X9_see : MF yX9_see cX9_see 5 (some .int) 3 := ⟨gtb_in (List.mem_of_getElem? (i := 1248) (by decide +kernel)) rfl, gtb_in (List.mem_of_getElem? (i := 72) (by decide +kernel)) rfl, by decide +kernel, by decide⟩
theorem mv_X9_see : MV yX9_see := ⟨gtb_in (List.mem_of_getElem? (i := 1246) (by decide +kernel)) rfl, gtb_in (List.mem_of_getElem? (i := 1247) (by decide +kernel)) rfl⟩
theorem mf_X9_from : MF yX9_from cX9_from 2 (some .int) 1 := ⟨gtb_in (List.mem_of_getElem? (i := 1252) (by decide +kernel)) rfl, gtb_in (List.mem_of_getElem? (i := 72) (by decide +kernel)) rfl, by decide +kernel, by decide⟩
theorem mv_X9_from : MV yX9_from := ⟨gtb_in (List.mem_of_getElem? (i := 1250) (by decide +kernel)) rfl, gtb_in (List.mem_of_getElem? (i := 1251) (by decide +kernel)) rfl⟩
theorem mf_X9_fits : MF yX9_fits cX9_fits 7 (some .int) 3 := ⟨gtb_in (List.mem_of_getElem? (i := 1256) (by decide +kernel)) rfl, gtb_in (List.mem_of_getElem? (i := 72) (by decide +kernel)) rfl, by decide +kernel, by decide⟩
theorem mv_X9_fits : MV yX9_fits := ⟨gtb_in (List.mem_of_getElem? (i := 1255) (by decide +kernel)) rfl, gtb_in (List.mem_of_getElem? (i := 57) (by decide +kernel)) rfl⟩
theorem mf_X9_isAllSeen : MF yX9_isAllSeen cX9_isAllSeen 6 (some .boolean) 1 := ⟨gtb_in (List.mem_of_getElem? (i := 1260) (by decide +kernel)) rfl, gtb_in (List.mem_of_getElem? (i := 72) (by decide +kernel)) rfl, by decide +kernel, by decide⟩
theorem mv_X9_isAllSeen : MV yX9_isAllSeen := ⟨gtb_in (List.mem_of_getElem? (i := 1259) (by decide +kernel)) rfl, gtb_in (List.mem_of_getElem? (i := 58) (by decide +kernel)) rfl⟩
theorem mf_X9_can : MF yX9_can cX9_can 7 (some .int) 2 := ⟨gtb_in (List.mem_of_getElem? (i := 1264) (by decide +kernel)) rfl, gtb_in (List.mem_of_getElem? (i := 72) (by decide +kernel)) rfl, by decide +kernel, by decide⟩
theorem mv_X9_can : MV yX9_can := ⟨gtb_in (List.mem_of_getElem? (i := 1262) (by decide +kernel)) rfl, gtb_in (List.mem_of_getElem? (i := 1263) (by decide +kernel)) rfl⟩
theorem mf_X9_odds : MF yX9_odds cX9_odds 7 (some .long) 3 := ⟨gtb_in (List.mem_of_getElem? (i := 1268) (by decide +kernel)) rfl, gtb_in (List.mem_of_getElem? (i := 72) (by decide +kernel)) rfl, by decide +kernel, by decide⟩
theorem mv_X9_odds : MV yX9_odds := ⟨gtb_in (List.mem_of_getElem? (i := 1266) (by decide +kernel)) rfl, gtb_in (List.mem_of_getElem? (i := 1267) (by decide +kernel)) rfl⟩
theorem mf_X9_fraction : MF yX9_fraction cX9_fraction 11 (some .long) 3 := ⟨gtb_in (List.mem_of_getElem? (i := 1273) (by decide +kernel)) rfl, gtb_in (List.mem_of_getElem? (i := 72) (by decide +kernel)) rfl, by decide +kernel, by decide⟩
theorem ms_X9_fraction : Cond.static yX9_fraction ∈ gtb := gtb_in (List.mem_of_getElem? (i := 1272) (by decide +kernel)) rfl
theorem mf_X9_mean : MF yX9_mean cX9_mean 2 (some .long) 1 := ⟨gtb_in (List.mem_of_getElem? (i := 1277) (by decide +kernel)) rfl, gtb_in (List.mem_of_getElem? (i := 72) (by decide +kernel)) rfl, by decide +kernel, by decide⟩
theorem mv_X9_mean : MV yX9_mean := ⟨gtb_in (List.mem_of_getElem? (i := 1275) (by decide +kernel)) rfl, gtb_in (List.mem_of_getElem? (i := 1276) (by decide +kernel)) rfl⟩
theorem mf_X9_plan : MF yX9_plan cX9_plan 4 (some .int) 2 := ⟨gtb_in (List.mem_of_getElem? (i := 1281) (by decide +kernel)) rfl, gtb_in (List.mem_of_getElem? (i := 72) (by decide +kernel)) rfl, by decide +kernel, by decide⟩
theorem mv_X9_plan : MV yX9_plan := ⟨gtb_in (List.mem_of_getElem? (i := 1279) (by decide +kernel)) rfl, gtb_in (List.mem_of_getElem? (i := 1280) (by decide +kernel)) rfl⟩
theorem mf_X9_ends : MF yX9_ends cX9_ends 5 (some .int) 1 := ⟨gtb_in (List.mem_of_getElem? (i := 1285) (by decide +kernel)) rfl, gtb_in (List.mem_of_getElem? (i := 72) (by decide +kernel)) rfl, by decide +kernel, by decide⟩
theorem mv_X9_ends : MV yX9_ends := ⟨gtb_in (List.mem_of_getElem? (i := 1283) (by decide +kernel)) rfl, gtb_in (List.mem_of_getElem? (i := 1284) (by decide +kernel)) rfl⟩
theorem mf_X9_book : MF yX9_book cX9_book 3 (some .int) 2 := ⟨gtb_in (List.mem_of_getElem? (i := 1289) (by decide +kernel)) rfl, gtb_in (List.mem_of_getElem? (i := 72) (by decide +kernel)) rfl, by decide +kernel, by decide⟩
theorem mv_X9_book : MV yX9_book := ⟨gtb_in (List.mem_of_getElem? (i := 1287) (by decide +kernel)) rfl, gtb_in (List.mem_of_getElem? (i := 1288) (by decide +kernel)) rfl⟩
theorem mf_X9_looked : MF yX9_looked cX9_looked 2 (some .int) 0 := ⟨gtb_in (List.mem_of_getElem? (i := 1293) (by decide +kernel)) rfl, gtb_in (List.mem_of_getElem? (i := 72) (by decide +kernel)) rfl, by decide +kernel, by decide⟩
theorem mv_X9_looked : MV yX9_looked := ⟨gtb_in (List.mem_of_getElem? (i := 1291) (by decide +kernel)) rfl, gtb_in (List.mem_of_getElem? (i := 1292) (by decide +kernel)) rfl⟩
theorem mf_X9_act : MF yX9_act cX9_act 4 (some .int) 3 := ⟨gtb_in (List.mem_of_getElem? (i := 1297) (by decide +kernel)) rfl, gtb_in (List.mem_of_getElem? (i := 72) (by decide +kernel)) rfl, by decide +kernel, by decide⟩
theorem mv_X9_act : MV yX9_act := ⟨gtb_in (List.mem_of_getElem? (i := 1295) (by decide +kernel)) rfl, gtb_in (List.mem_of_getElem? (i := 1296) (by decide +kernel)) rfl⟩
theorem mf_X9_all : MF yX9_all cX9_all 4 (some .int) 3 := ⟨gtb_in (List.mem_of_getElem? (i := 1301) (by decide +kernel)) rfl, gtb_in (List.mem_of_getElem? (i := 72) (by decide +kernel)) rfl, by decide +kernel, by decide⟩
theorem mv_X9_all : MV yX9_all := ⟨gtb_in (List.mem_of_getElem? (i := 1300) (by decide +kernel)) rfl, gtb_in (List.mem_of_getElem? (i := 59) (by decide +kernel)) rfl⟩
theorem mf_X9_byKind : MF yX9_byKind cX9_byKind 7 (some .int) 4 := ⟨gtb_in (List.mem_of_getElem? (i := 1305) (by decide +kernel)) rfl, gtb_in (List.mem_of_getElem? (i := 72) (by decide +kernel)) rfl, by decide +kernel, by decide⟩
theorem mv_X9_byKind : MV yX9_byKind := ⟨gtb_in (List.mem_of_getElem? (i := 1304) (by decide +kernel)) rfl, gtb_in (List.mem_of_getElem? (i := 60) (by decide +kernel)) rfl⟩
theorem mf_X9_body : MF yX9_body cX9_body 2 (some .int) 1 := ⟨gtb_in (List.mem_of_getElem? (i := 1309) (by decide +kernel)) rfl, gtb_in (List.mem_of_getElem? (i := 72) (by decide +kernel)) rfl, by decide +kernel, by decide⟩
theorem mv_X9_body : MV yX9_body := ⟨gtb_in (List.mem_of_getElem? (i := 1308) (by decide +kernel)) rfl, gtb_in (List.mem_of_getElem? (i := 61) (by decide +kernel)) rfl⟩
theorem mf_X9_trace : MF yX9_trace cX9_trace 2 (some .int) 1 := ⟨gtb_in (List.mem_of_getElem? (i := 1313) (by decide +kernel)) rfl, gtb_in (List.mem_of_getElem? (i := 72) (by decide +kernel)) rfl, by decide +kernel, by decide⟩
theorem mv_X9_trace : MV yX9_trace := ⟨gtb_in (List.mem_of_getElem? (i := 1311) (by decide +kernel)) rfl, gtb_in (List.mem_of_getElem? (i := 1312) (by decide +kernel)) rfl⟩
theorem mf_X9_taken : MF yX9_taken cX9_taken 4 (some .int) 2 := ⟨gtb_in (List.mem_of_getElem? (i := 1317) (by decide +kernel)) rfl, gtb_in (List.mem_of_getElem? (i := 72) (by decide +kernel)) rfl, by decide +kernel, by decide⟩
theorem mv_X9_taken : MV yX9_taken := ⟨gtb_in (List.mem_of_getElem? (i := 1315) (by decide +kernel)) rfl, gtb_in (List.mem_of_getElem? (i := 1316) (by decide +kernel)) rfl⟩
theorem mf_X9_count : MF yX9_count cX9_count 2 (some .int) 1 := ⟨gtb_in (List.mem_of_getElem? (i := 1321) (by decide +kernel)) rfl, gtb_in (List.mem_of_getElem? (i := 72) (by decide +kernel)) rfl, by decide +kernel, by decide⟩
theorem mv_X9_count : MV yX9_count := ⟨gtb_in (List.mem_of_getElem? (i := 1319) (by decide +kernel)) rfl, gtb_in (List.mem_of_getElem? (i := 1320) (by decide +kernel)) rfl⟩
theorem mf_X9_tape : MF yX9_tape cX9_tape 5 (some .int) 3 := ⟨gtb_in (List.mem_of_getElem? (i := 1325) (by decide +kernel)) rfl, gtb_in (List.mem_of_getElem? (i := 72) (by decide +kernel)) rfl, by decide +kernel, by decide⟩
theorem mv_X9_tape : MV yX9_tape := ⟨gtb_in (List.mem_of_getElem? (i := 1323) (by decide +kernel)) rfl, gtb_in (List.mem_of_getElem? (i := 1324) (by decide +kernel)) rfl⟩
theorem mf_X9_isTape : MF yX9_isTape cX9_isTape 1 (some .boolean) 1 := ⟨gtb_in (List.mem_of_getElem? (i := 1328) (by decide +kernel)) rfl, gtb_in (List.mem_of_getElem? (i := 72) (by decide +kernel)) rfl, by decide +kernel, by decide⟩
theorem ms_X9_isTape : Cond.static yX9_isTape ∈ gtb := gtb_in (List.mem_of_getElem? (i := 1327) (by decide +kernel)) rfl
theorem mf_X9_item : MF yX9_item cX9_item 6 (some .int) 3 := ⟨gtb_in (List.mem_of_getElem? (i := 1332) (by decide +kernel)) rfl, gtb_in (List.mem_of_getElem? (i := 72) (by decide +kernel)) rfl, by decide +kernel, by decide⟩
theorem mv_X9_item : MV yX9_item := ⟨gtb_in (List.mem_of_getElem? (i := 1330) (by decide +kernel)) rfl, gtb_in (List.mem_of_getElem? (i := 1331) (by decide +kernel)) rfl⟩
theorem mf_X9_read : MF yX9_read cX9_read 3 (some .long) 2 := ⟨gtb_in (List.mem_of_getElem? (i := 1336) (by decide +kernel)) rfl, gtb_in (List.mem_of_getElem? (i := 72) (by decide +kernel)) rfl, by decide +kernel, by decide⟩
theorem mv_X9_read : MV yX9_read := ⟨gtb_in (List.mem_of_getElem? (i := 1334) (by decide +kernel)) rfl, gtb_in (List.mem_of_getElem? (i := 1335) (by decide +kernel)) rfl⟩
theorem mf_X9_shift : MF yX9_shift cX9_shift 7 (some .int) 5 := ⟨gtb_in (List.mem_of_getElem? (i := 1340) (by decide +kernel)) rfl, gtb_in (List.mem_of_getElem? (i := 72) (by decide +kernel)) rfl, by decide +kernel, by decide⟩
theorem mv_X9_shift : MV yX9_shift := ⟨gtb_in (List.mem_of_getElem? (i := 1338) (by decide +kernel)) rfl, gtb_in (List.mem_of_getElem? (i := 1339) (by decide +kernel)) rfl⟩
theorem mf_X9_judge : MF yX9_judge cX9_judge 6 (some .int) 2 := ⟨gtb_in (List.mem_of_getElem? (i := 1344) (by decide +kernel)) rfl, gtb_in (List.mem_of_getElem? (i := 72) (by decide +kernel)) rfl, by decide +kernel, by decide⟩
theorem mv_X9_judge : MV yX9_judge := ⟨gtb_in (List.mem_of_getElem? (i := 1342) (by decide +kernel)) rfl, gtb_in (List.mem_of_getElem? (i := 1343) (by decide +kernel)) rfl⟩
theorem ml_L_9 : Cond.methodLink RL 9 yX8_init ∈ gtb := gtb_in (List.mem_of_getElem? (i := 84) (by decide +kernel)) rfl
theorem ml_X8_13 : Cond.methodLink RX8 13 yX7_init ∈ gtb := gtb_in (List.mem_of_getElem? (i := 92) (by decide +kernel)) rfl
theorem ml_X7_29 : Cond.methodLink RX7 29 yX3_init ∈ gtb := gtb_in (List.mem_of_getElem? (i := 100) (by decide +kernel)) rfl
theorem ml_L_13 : Cond.methodLink RL 13 yX8_bridge ∈ gtb := gtb_in (List.mem_of_getElem? (i := 359) (by decide +kernel)) rfl
theorem ml_X8_59 : Cond.methodLink RX8 59 yX8_isQuarter ∈ gtb := gtb_in (List.mem_of_getElem? (i := 363) (by decide +kernel)) rfl
theorem ml_X8_63 : Cond.methodLink RX8 63 yX7_addBridge ∈ gtb := gtb_in (List.mem_of_getElem? (i := 366) (by decide +kernel)) rfl
theorem ml_L_18 : Cond.methodLink RL 18 yX8_one ∈ gtb := gtb_in (List.mem_of_getElem? (i := 370) (by decide +kernel)) rfl
theorem ml_X8_67 : Cond.methodLink RX8 67 yX7_addPerson ∈ gtb := gtb_in (List.mem_of_getElem? (i := 374) (by decide +kernel)) rfl
theorem ml_X7_73 : Cond.methodLink RX7 73 yX2_become ∈ gtb := gtb_in (List.mem_of_getElem? (i := 378) (by decide +kernel)) rfl
theorem ml_X2_34 : Cond.methodLink RX2 34 yJ7_fill_53178 ∈ gtb := gtb_in (List.mem_of_getElem? (i := 382) (by decide +kernel)) rfl
theorem ml_L_23 : Cond.methodLink RL 23 yX8_of ∈ gtb := gtb_in (List.mem_of_getElem? (i := 385) (by decide +kernel)) rfl
theorem ml_X8_71 : Cond.methodLink RX8 71 yX8_isPerson ∈ gtb := gtb_in (List.mem_of_getElem? (i := 389) (by decide +kernel)) rfl
theorem ml_X8_99 : Cond.methodLink RX8 99 yX6_reachable ∈ gtb := gtb_in (List.mem_of_getElem? (i := 393) (by decide +kernel)) rfl
theorem ml_X6_66 : Cond.methodLink RX6 66 yX6_search ∈ gtb := gtb_in (List.mem_of_getElem? (i := 397) (by decide +kernel)) rfl
theorem ml_X6_31 : Cond.methodLink RX6 31 yX6_begin ∈ gtb := gtb_in (List.mem_of_getElem? (i := 401) (by decide +kernel)) rfl
theorem ml_X6_70 : Cond.methodLink RX6 70 yJ7_fill_53178 ∈ gtb := gtb_in (List.mem_of_getElem? (i := 405) (by decide +kernel)) rfl
theorem ml_X6_59 : Cond.methodLink RX6 59 yX6_meet ∈ gtb := gtb_in (List.mem_of_getElem? (i := 406) (by decide +kernel)) rfl
theorem ml_X6_39 : Cond.methodLink RX6 39 yJ6_bitCount_0f7a4 ∈ gtb := gtb_in (List.mem_of_getElem? (i := 410) (by decide +kernel)) rfl
theorem ml_X6_48 : Cond.methodLink RX6 48 yX7_otherEnd ∈ gtb := gtb_in (List.mem_of_getElem? (i := 416) (by decide +kernel)) rfl
theorem ml_X6_52 : Cond.methodLink RX6 52 yX7_mayCross ∈ gtb := gtb_in (List.mem_of_getElem? (i := 420) (by decide +kernel)) rfl
theorem ml_X7_108 : Cond.methodLink RX7 108 yX7_leave ∈ gtb := gtb_in (List.mem_of_getElem? (i := 424) (by decide +kernel)) rfl
theorem ml_X7_99 : Cond.methodLink RX7 99 yX1_sum ∈ gtb := gtb_in (List.mem_of_getElem? (i := 428) (by decide +kernel)) rfl
theorem ml_X6_56 : Cond.methodLink RX6 56 yX7_halfBehind ∈ gtb := gtb_in (List.mem_of_getElem? (i := 432) (by decide +kernel)) rfl
theorem ml_X8_103 : Cond.methodLink RX8 103 yX8_hoursUntilDone ∈ gtb := gtb_in (List.mem_of_getElem? (i := 436) (by decide +kernel)) rfl
theorem ml_X8_181 : Cond.methodLink RX8 181 yX7_copyFrom ∈ gtb := gtb_in (List.mem_of_getElem? (i := 440) (by decide +kernel)) rfl
theorem ml_X7_59 : Cond.methodLink RX7 59 yX2_copyFrom ∈ gtb := gtb_in (List.mem_of_getElem? (i := 447) (by decide +kernel)) rfl
theorem ml_X7_70 : Cond.methodLink RX7 70 yX3_copyFrom ∈ gtb := gtb_in (List.mem_of_getElem? (i := 452) (by decide +kernel)) rfl
theorem ml_X3_25 : Cond.methodLink RX3 25 yJ9_min_7cf53 ∈ gtb := gtb_in (List.mem_of_getElem? (i := 456) (by decide +kernel)) rfl
theorem ml_X8_289 : Cond.methodLink RX8 289 yX2_isDone ∈ gtb := gtb_in (List.mem_of_getElem? (i := 460) (by decide +kernel)) rfl
theorem ml_X8_177 : Cond.methodLink RX8 177 yX8_hoursGo ∈ gtb := gtb_in (List.mem_of_getElem? (i := 464) (by decide +kernel)) rfl
theorem ml_X8_167 : Cond.methodLink RX8 167 yX7_dark ∈ gtb := gtb_in (List.mem_of_getElem? (i := 468) (by decide +kernel)) rfl
theorem ml_X8_185 : Cond.methodLink RX8 185 yX6_search ∈ gtb := gtb_in (List.mem_of_getElem? (i := 472) (by decide +kernel)) rfl
theorem ml_X8_189 : Cond.methodLink RX8 189 yX6_stepAt ∈ gtb := gtb_in (List.mem_of_getElem? (i := 473) (by decide +kernel)) rfl
theorem ml_X8_129 : Cond.methodLink RX8 129 yX7_goOver ∈ gtb := gtb_in (List.mem_of_getElem? (i := 477) (by decide +kernel)) rfl
theorem ml_X7_80 : Cond.methodLink RX7 80 yX7_otherEnd ∈ gtb := gtb_in (List.mem_of_getElem? (i := 481) (by decide +kernel)) rfl
theorem ml_X7_87 : Cond.methodLink RX7 87 yX7_halfBehind ∈ gtb := gtb_in (List.mem_of_getElem? (i := 482) (by decide +kernel)) rfl
theorem ml_X8_107 : Cond.methodLink RX8 107 yX8_crossable ∈ gtb := gtb_in (List.mem_of_getElem? (i := 483) (by decide +kernel)) rfl
theorem ml_X8_293 : Cond.methodLink RX8 293 yJ6_bitCount_0f7a4 ∈ gtb := gtb_in (List.mem_of_getElem? (i := 487) (by decide +kernel)) rfl
theorem ml_X8_298 : Cond.methodLink RX8 298 yX7_otherEnd ∈ gtb := gtb_in (List.mem_of_getElem? (i := 488) (by decide +kernel)) rfl
theorem ml_X8_301 : Cond.methodLink RX8 301 yX7_mayCross ∈ gtb := gtb_in (List.mem_of_getElem? (i := 489) (by decide +kernel)) rfl
theorem ml_X8_110 : Cond.methodLink RX8 110 yX8_leaveNow ∈ gtb := gtb_in (List.mem_of_getElem? (i := 490) (by decide +kernel)) rfl
theorem ml_X8_113 : Cond.methodLink RX8 113 yX8_isBridge ∈ gtb := gtb_in (List.mem_of_getElem? (i := 494) (by decide +kernel)) rfl
theorem ml_X8_305 : Cond.methodLink RX8 305 yX7_leave ∈ gtb := gtb_in (List.mem_of_getElem? (i := 498) (by decide +kernel)) rfl
theorem ml_L_27 : Cond.methodLink RL 27 yX8_span ∈ gtb := gtb_in (List.mem_of_getElem? (i := 499) (by decide +kernel)) rfl
theorem ml_L_31 : Cond.methodLink RL 31 yX8_errand ∈ gtb := gtb_in (List.mem_of_getElem? (i := 503) (by decide +kernel)) rfl
theorem ml_L_35 : Cond.methodLink RL 35 yX8_cross ∈ gtb := gtb_in (List.mem_of_getElem? (i := 507) (by decide +kernel)) rfl
theorem ml_L_39 : Cond.methodLink RL 39 yX8_lose ∈ gtb := gtb_in (List.mem_of_getElem? (i := 511) (by decide +kernel)) rfl
theorem ml_X8_133 : Cond.methodLink RX8 133 yX7_setLost ∈ gtb := gtb_in (List.mem_of_getElem? (i := 515) (by decide +kernel)) rfl
theorem ml_L_44 : Cond.methodLink RL 44 yX8_swap ∈ gtb := gtb_in (List.mem_of_getElem? (i := 519) (by decide +kernel)) rfl
theorem ml_X8_137 : Cond.methodLink RX8 137 yX7_canExchange ∈ gtb := gtb_in (List.mem_of_getElem? (i := 523) (by decide +kernel)) rfl
theorem ml_X8_141 : Cond.methodLink RX8 141 yX7_exchange ∈ gtb := gtb_in (List.mem_of_getElem? (i := 527) (by decide +kernel)) rfl
theorem ml_L_48 : Cond.methodLink RL 48 yX8_row ∈ gtb := gtb_in (List.mem_of_getElem? (i := 531) (by decide +kernel)) rfl
theorem ml_L_52 : Cond.methodLink RL 52 yX8_feed ∈ gtb := gtb_in (List.mem_of_getElem? (i := 535) (by decide +kernel)) rfl
theorem ml_X8_147 : Cond.methodLink RX8 147 yX5_append ∈ gtb := gtb_in (List.mem_of_getElem? (i := 539) (by decide +kernel)) rfl
theorem ml_L_57 : Cond.methodLink RL 57 yX8_city ∈ gtb := gtb_in (List.mem_of_getElem? (i := 543) (by decide +kernel)) rfl
theorem ml_X8_153 : Cond.methodLink RX8 153 yX5_readInto ∈ gtb := gtb_in (List.mem_of_getElem? (i := 547) (by decide +kernel)) rfl
theorem ml_X5_19 : Cond.methodLink RX5 19 yX1_clear ∈ gtb := gtb_in (List.mem_of_getElem? (i := 551) (by decide +kernel)) rfl
theorem ml_X5_27 : Cond.methodLink RX5 27 yX5_readClause ∈ gtb := gtb_in (List.mem_of_getElem? (i := 555) (by decide +kernel)) rfl
theorem ml_X5_35 : Cond.methodLink RX5 35 yX5_sign ∈ gtb := gtb_in (List.mem_of_getElem? (i := 559) (by decide +kernel)) rfl
theorem ml_X5_41 : Cond.methodLink RX5 41 yX5_takesWord ∈ gtb := gtb_in (List.mem_of_getElem? (i := 564) (by decide +kernel)) rfl
theorem ml_X5_84 : Cond.methodLink RX5 84 yJ0_length_8abf5 ∈ gtb := gtb_in (List.mem_of_getElem? (i := 568) (by decide +kernel)) rfl
theorem ml_J0_335 : Cond.methodLink RJ0 335 yJ0_coder_7d493 ∈ gtb := gtb_in (List.mem_of_getElem? (i := 572) (by decide +kernel)) rfl
theorem ml_X5_88 : Cond.methodLink RX5 88 yJ0_charAt_5068e ∈ gtb := gtb_in (List.mem_of_getElem? (i := 578) (by decide +kernel)) rfl
theorem ml_J0_492 : Cond.methodLink RJ0 492 yJ0_isLatin1_aae02 ∈ gtb := gtb_in (List.mem_of_getElem? (i := 582) (by decide +kernel)) rfl
theorem ml_J0_495 : Cond.methodLink RJ0 495 yJ1_charAt_3b067 ∈ gtb := gtb_in (List.mem_of_getElem? (i := 586) (by decide +kernel)) rfl
theorem ml_J1_9 : Cond.methodLink RJ1 9 yJ0_checkIndex_df160 ∈ gtb := gtb_in (List.mem_of_getElem? (i := 589) (by decide +kernel)) rfl
theorem ml_J0_1059 : Cond.methodLink RJ0 1059 yJ3_checkIndex_8e157 ∈ gtb := gtb_in (List.mem_of_getElem? (i := 594) (by decide +kernel)) rfl
theorem ml_J0_498 : Cond.methodLink RJ0 498 yJ2_charAt_3b067 ∈ gtb := gtb_in (List.mem_of_getElem? (i := 597) (by decide +kernel)) rfl
theorem ml_J2_67 : Cond.methodLink RJ2 67 yJ2_checkIndex_2214a ∈ gtb := gtb_in (List.mem_of_getElem? (i := 600) (by decide +kernel)) rfl
theorem ml_J2_48 : Cond.methodLink RJ2 48 yJ2_length_9d52b ∈ gtb := gtb_in (List.mem_of_getElem? (i := 603) (by decide +kernel)) rfl
theorem ml_J2_414 : Cond.methodLink RJ2 414 yJ0_checkIndex_df160 ∈ gtb := gtb_in (List.mem_of_getElem? (i := 606) (by decide +kernel)) rfl
theorem ml_J2_71 : Cond.methodLink RJ2 71 yJ2_getChar_3b067 ∈ gtb := gtb_in (List.mem_of_getElem? (i := 607) (by decide +kernel)) rfl
theorem ml_X5_31 : Cond.methodLink RX5 31 yX5_takes ∈ gtb := gtb_in (List.mem_of_getElem? (i := 616) (by decide +kernel)) rfl
theorem ml_X5_45 : Cond.methodLink RX5 45 yX5_takesNumber ∈ gtb := gtb_in (List.mem_of_getElem? (i := 620) (by decide +kernel)) rfl
theorem ml_X5_59 : Cond.methodLink RX5 59 yX5_readExpression ∈ gtb := gtb_in (List.mem_of_getElem? (i := 626) (by decide +kernel)) rfl
theorem ml_X5_67 : Cond.methodLink RX5 67 yX5_readFactor ∈ gtb := gtb_in (List.mem_of_getElem? (i := 630) (by decide +kernel)) rfl
theorem ml_X5_70 : Cond.methodLink RX5 70 yX5_readTest ∈ gtb := gtb_in (List.mem_of_getElem? (i := 634) (by decide +kernel)) rfl
theorem ml_X5_78 : Cond.methodLink RX5 78 yX5_takesOneOf ∈ gtb := gtb_in (List.mem_of_getElem? (i := 639) (by decide +kernel)) rfl
theorem ml_X5_92 : Cond.methodLink RX5 92 yJ0_indexOf_0f7a4 ∈ gtb := gtb_in (List.mem_of_getElem? (i := 643) (by decide +kernel)) rfl
theorem ml_J0_633 : Cond.methodLink RJ0 633 yJ0_indexOf_7cf53 ∈ gtb := gtb_in (List.mem_of_getElem? (i := 647) (by decide +kernel)) rfl
theorem ml_J0_505 : Cond.methodLink RJ0 505 yJ0_length_8abf5 ∈ gtb := gtb_in (List.mem_of_getElem? (i := 651) (by decide +kernel)) rfl
theorem ml_J0_637 : Cond.methodLink RJ0 637 yJ1_indexOf_4cfef ∈ gtb := gtb_in (List.mem_of_getElem? (i := 652) (by decide +kernel)) rfl
theorem ml_J1_88 : Cond.methodLink RJ1 88 yJ1_canEncode_9a6ad ∈ gtb := gtb_in (List.mem_of_getElem? (i := 655) (by decide +kernel)) rfl
theorem ml_J1_92 : Cond.methodLink RJ1 92 yJ9_max_7cf53 ∈ gtb := gtb_in (List.mem_of_getElem? (i := 658) (by decide +kernel)) rfl
theorem ml_J1_38 : Cond.methodLink RJ1 38 yJ9_min_7cf53 ∈ gtb := gtb_in (List.mem_of_getElem? (i := 661) (by decide +kernel)) rfl
theorem ml_J1_95 : Cond.methodLink RJ1 95 yJ1_indexOfChar_4cfef ∈ gtb := gtb_in (List.mem_of_getElem? (i := 662) (by decide +kernel)) rfl
theorem ml_J0_640 : Cond.methodLink RJ0 640 yJ2_indexOf_4cfef ∈ gtb := gtb_in (List.mem_of_getElem? (i := 665) (by decide +kernel)) rfl
theorem ml_J2_224 : Cond.methodLink RJ2 224 yJ9_max_7cf53 ∈ gtb := gtb_in (List.mem_of_getElem? (i := 668) (by decide +kernel)) rfl
theorem ml_J2_183 : Cond.methodLink RJ2 183 yJ9_min_7cf53 ∈ gtb := gtb_in (List.mem_of_getElem? (i := 669) (by decide +kernel)) rfl
theorem ml_J2_228 : Cond.methodLink RJ2 228 yJ2_indexOfChar_4cfef ∈ gtb := gtb_in (List.mem_of_getElem? (i := 671) (by decide +kernel)) rfl
theorem ml_J2_96 : Cond.methodLink RJ2 96 yJ2_checkBoundsBeginEnd_d044e ∈ gtb := gtb_in (List.mem_of_getElem? (i := 674) (by decide +kernel)) rfl
theorem ml_J2_241 : Cond.methodLink RJ2 241 yJ0_checkBoundsBeginEnd_23922 ∈ gtb := gtb_in (List.mem_of_getElem? (i := 677) (by decide +kernel)) rfl
theorem ml_J0_1062 : Cond.methodLink RJ0 1062 yJ3_checkFromToIndex_8c36e ∈ gtb := gtb_in (List.mem_of_getElem? (i := 680) (by decide +kernel)) rfl
theorem ml_J2_244 : Cond.methodLink RJ2 244 yJ2_indexOfCharUnsafe_4cfef ∈ gtb := gtb_in (List.mem_of_getElem? (i := 683) (by decide +kernel)) rfl
theorem ml_J2_232 : Cond.methodLink RJ2 232 yJ2_indexOfSupplementary_4cfef ∈ gtb := gtb_in (List.mem_of_getElem? (i := 686) (by decide +kernel)) rfl
theorem ml_J2_164 : Cond.methodLink RJ2 164 yJ11_isValidCodePoint_9a6ad ∈ gtb := gtb_in (List.mem_of_getElem? (i := 689) (by decide +kernel)) rfl
theorem ml_J2_157 : Cond.methodLink RJ2 157 yJ11_highSurrogate_5068e ∈ gtb := gtb_in (List.mem_of_getElem? (i := 692) (by decide +kernel)) rfl
theorem ml_J2_161 : Cond.methodLink RJ2 161 yJ11_lowSurrogate_5068e ∈ gtb := gtb_in (List.mem_of_getElem? (i := 696) (by decide +kernel)) rfl
theorem ml_X5_63 : Cond.methodLink RX5 63 yX1_add ∈ gtb := gtb_in (List.mem_of_getElem? (i := 701) (by decide +kernel)) rfl
theorem ml_X5_73 : Cond.methodLink RX5 73 yX5_readDenied ∈ gtb := gtb_in (List.mem_of_getElem? (i := 705) (by decide +kernel)) rfl
theorem ml_L_62 : Cond.methodLink RL 62 yX8_told ∈ gtb := gtb_in (List.mem_of_getElem? (i := 710) (by decide +kernel)) rfl
theorem ml_X8_171 : Cond.methodLink RX8 171 yX7_arrived ∈ gtb := gtb_in (List.mem_of_getElem? (i := 714) (by decide +kernel)) rfl
theorem ml_X7_115 : Cond.methodLink RX7 115 yX2_isDone ∈ gtb := gtb_in (List.mem_of_getElem? (i := 718) (by decide +kernel)) rfl
theorem ml_X8_174 : Cond.methodLink RX8 174 yX7_halves ∈ gtb := gtb_in (List.mem_of_getElem? (i := 719) (by decide +kernel)) rfl
theorem ml_X7_119 : Cond.methodLink RX7 119 yJ6_bitCount_0f7a4 ∈ gtb := gtb_in (List.mem_of_getElem? (i := 723) (by decide +kernel)) rfl
theorem ml_L_66 : Cond.methodLink RL 66 yX8_pass ∈ gtb := gtb_in (List.mem_of_getElem? (i := 724) (by decide +kernel)) rfl
theorem ml_L_70 : Cond.methodLink RL 70 yX8_on ∈ gtb := gtb_in (List.mem_of_getElem? (i := 728) (by decide +kernel)) rfl
theorem ml_L_74 : Cond.methodLink RL 74 yX8_way ∈ gtb := gtb_in (List.mem_of_getElem? (i := 732) (by decide +kernel)) rfl
theorem ml_L_78 : Cond.methodLink RL 78 yX8_sisters ∈ gtb := gtb_in (List.mem_of_getElem? (i := 736) (by decide +kernel)) rfl
theorem ml_X8_192 : Cond.methodLink RX8 192 yX8_lengthOrFar ∈ gtb := gtb_in (List.mem_of_getElem? (i := 740) (by decide +kernel)) rfl
theorem ml_L_82 : Cond.methodLink RL 82 yX8_see ∈ gtb := gtb_in (List.mem_of_getElem? (i := 743) (by decide +kernel)) rfl
theorem ml_X8_202 : Cond.methodLink RX8 202 yX3_empty ∈ gtb := gtb_in (List.mem_of_getElem? (i := 747) (by decide +kernel)) rfl
theorem ml_X8_207 : Cond.methodLink RX8 207 yX3_add ∈ gtb := gtb_in (List.mem_of_getElem? (i := 751) (by decide +kernel)) rfl
theorem ml_L_86 : Cond.methodLink RL 86 yX8_from ∈ gtb := gtb_in (List.mem_of_getElem? (i := 755) (by decide +kernel)) rfl
theorem ml_X8_210 : Cond.methodLink RX8 210 yX8_goesAsSeen ∈ gtb := gtb_in (List.mem_of_getElem? (i := 759) (by decide +kernel)) rfl
theorem ml_X8_308 : Cond.methodLink RX8 308 yX3_lastHour ∈ gtb := gtb_in (List.mem_of_getElem? (i := 763) (by decide +kernel)) rfl
theorem ml_X3_37 : Cond.methodLink RX3 37 yJ9_max_7cf53 ∈ gtb := gtb_in (List.mem_of_getElem? (i := 767) (by decide +kernel)) rfl
theorem ml_X8_311 : Cond.methodLink RX8 311 yX3_agrees ∈ gtb := gtb_in (List.mem_of_getElem? (i := 768) (by decide +kernel)) rfl
theorem ml_L_90 : Cond.methodLink RL 90 yX8_can ∈ gtb := gtb_in (List.mem_of_getElem? (i := 772) (by decide +kernel)) rfl
theorem ml_L_94 : Cond.methodLink RL 94 yX8_odds ∈ gtb := gtb_in (List.mem_of_getElem? (i := 776) (by decide +kernel)) rfl
theorem ml_X8_213 : Cond.methodLink RX8 213 yX8_isPart ∈ gtb := gtb_in (List.mem_of_getElem? (i := 780) (by decide +kernel)) rfl
theorem ml_X8_218 : Cond.methodLink RX8 218 yX8_lowest ∈ gtb := gtb_in (List.mem_of_getElem? (i := 784) (by decide +kernel)) rfl
theorem ml_L_99 : Cond.methodLink RL 99 yX8_mean ∈ gtb := gtb_in (List.mem_of_getElem? (i := 787) (by decide +kernel)) rfl
theorem ml_L_104 : Cond.methodLink RL 104 yX8_plan ∈ gtb := gtb_in (List.mem_of_getElem? (i := 791) (by decide +kernel)) rfl
theorem ml_L_108 : Cond.methodLink RL 108 yX8_ends ∈ gtb := gtb_in (List.mem_of_getElem? (i := 795) (by decide +kernel)) rfl
theorem ml_L_112 : Cond.methodLink RL 112 yX8_book ∈ gtb := gtb_in (List.mem_of_getElem? (i := 799) (by decide +kernel)) rfl
theorem ml_L_116 : Cond.methodLink RL 116 yX8_looked ∈ gtb := gtb_in (List.mem_of_getElem? (i := 803) (by decide +kernel)) rfl
theorem ml_L_120 : Cond.methodLink RL 120 yX8_judge ∈ gtb := gtb_in (List.mem_of_getElem? (i := 807) (by decide +kernel)) rfl
theorem ml_X8_240 : Cond.methodLink RX8 240 yX8_isTape ∈ gtb := gtb_in (List.mem_of_getElem? (i := 811) (by decide +kernel)) rfl
theorem ml_X8_246 : Cond.methodLink RX8 246 yX4_hasPlace ∈ gtb := gtb_in (List.mem_of_getElem? (i := 814) (by decide +kernel)) rfl
theorem ml_L_124 : Cond.methodLink RL 124 yX8_image ∈ gtb := gtb_in (List.mem_of_getElem? (i := 818) (by decide +kernel)) rfl
theorem ml_L_128 : Cond.methodLink RL 128 yX8_undo ∈ gtb := gtb_in (List.mem_of_getElem? (i := 822) (by decide +kernel)) rfl
theorem ml_L_132 : Cond.methodLink RL 132 yX8_act ∈ gtb := gtb_in (List.mem_of_getElem? (i := 826) (by decide +kernel)) rfl
theorem ml_X8_260 : Cond.methodLink RX8 260 yX0_begin ∈ gtb := gtb_in (List.mem_of_getElem? (i := 830) (by decide +kernel)) rfl
theorem ml_X0_32 : Cond.methodLink RX0 32 yX0_perform ∈ gtb := gtb_in (List.mem_of_getElem? (i := 834) (by decide +kernel)) rfl
theorem ml_X0_42 : Cond.methodLink RX0 42 yX0_answer ∈ gtb := gtb_in (List.mem_of_getElem? (i := 842) (by decide +kernel)) rfl
theorem ml_L_136 : Cond.methodLink RL 136 yX8_trace ∈ gtb := gtb_in (List.mem_of_getElem? (i := 846) (by decide +kernel)) rfl
theorem ml_L_140 : Cond.methodLink RL 140 yX8_taken ∈ gtb := gtb_in (List.mem_of_getElem? (i := 850) (by decide +kernel)) rfl
theorem ml_X8_267 : Cond.methodLink RX8 267 yX8_isUnder ∈ gtb := gtb_in (List.mem_of_getElem? (i := 854) (by decide +kernel)) rfl
theorem ml_L_144 : Cond.methodLink RL 144 yX8_count ∈ gtb := gtb_in (List.mem_of_getElem? (i := 858) (by decide +kernel)) rfl
theorem ml_L_148 : Cond.methodLink RL 148 yX8_tape ∈ gtb := gtb_in (List.mem_of_getElem? (i := 862) (by decide +kernel)) rfl
theorem ml_X8_270 : Cond.methodLink RX8 270 yX4_become ∈ gtb := gtb_in (List.mem_of_getElem? (i := 866) (by decide +kernel)) rfl
theorem ml_X4_22 : Cond.methodLink RX4 22 yJ7_fill_d0a16 ∈ gtb := gtb_in (List.mem_of_getElem? (i := 870) (by decide +kernel)) rfl
theorem ml_L_154 : Cond.methodLink RL 154 yX8_item ∈ gtb := gtb_in (List.mem_of_getElem? (i := 873) (by decide +kernel)) rfl
theorem ml_X8_273 : Cond.methodLink RX8 273 yX4_asItem ∈ gtb := gtb_in (List.mem_of_getElem? (i := 877) (by decide +kernel)) rfl
theorem ml_L_159 : Cond.methodLink RL 159 yX8_read ∈ gtb := gtb_in (List.mem_of_getElem? (i := 881) (by decide +kernel)) rfl
theorem ml_L_164 : Cond.methodLink RL 164 yX8_shift ∈ gtb := gtb_in (List.mem_of_getElem? (i := 885) (by decide +kernel)) rfl
theorem ml_X8_277 : Cond.methodLink RX8 277 yX4_hasPart ∈ gtb := gtb_in (List.mem_of_getElem? (i := 889) (by decide +kernel)) rfl
theorem ml_L_12 : Cond.methodLink RL 12 yX9_init ∈ gtb := gtb_in (List.mem_of_getElem? (i := 896) (by decide +kernel)) rfl
theorem ml_L_127 : Cond.methodLink RL 127 yX9_image ∈ gtb := gtb_in (List.mem_of_getElem? (i := 1010) (by decide +kernel)) rfl
theorem ml_X9_94 : Cond.methodLink RX9 94 yX9_move ∈ gtb := gtb_in (List.mem_of_getElem? (i := 1014) (by decide +kernel)) rfl
theorem ml_L_131 : Cond.methodLink RL 131 yX9_undo ∈ gtb := gtb_in (List.mem_of_getElem? (i := 1017) (by decide +kernel)) rfl
theorem ml_L_17 : Cond.methodLink RL 17 yX9_bridge ∈ gtb := gtb_in (List.mem_of_getElem? (i := 1021) (by decide +kernel)) rfl
theorem ml_X9_106 : Cond.methodLink RX9 106 yX9_isQuarter ∈ gtb := gtb_in (List.mem_of_getElem? (i := 1025) (by decide +kernel)) rfl
theorem ml_X9_98 : Cond.methodLink RX9 98 yX9_isIn ∈ gtb := gtb_in (List.mem_of_getElem? (i := 1028) (by decide +kernel)) rfl
theorem ml_L_22 : Cond.methodLink RL 22 yX9_one_ ∈ gtb := gtb_in (List.mem_of_getElem? (i := 1031) (by decide +kernel)) rfl
theorem ml_X9_110 : Cond.methodLink RX9 110 yX9_change ∈ gtb := gtb_in (List.mem_of_getElem? (i := 1035) (by decide +kernel)) rfl
theorem ml_X9_102 : Cond.methodLink RX9 102 yX9_one ∈ gtb := gtb_in (List.mem_of_getElem? (i := 1039) (by decide +kernel)) rfl
theorem ml_L_26 : Cond.methodLink RL 26 yX9_of ∈ gtb := gtb_in (List.mem_of_getElem? (i := 1043) (by decide +kernel)) rfl
theorem ml_X9_114 : Cond.methodLink RX9 114 yX9_isOne ∈ gtb := gtb_in (List.mem_of_getElem? (i := 1047) (by decide +kernel)) rfl
theorem ml_X9_117 : Cond.methodLink RX9 117 yX9_orNever ∈ gtb := gtb_in (List.mem_of_getElem? (i := 1051) (by decide +kernel)) rfl
theorem ml_X9_121 : Cond.methodLink RX9 121 yX9_reach ∈ gtb := gtb_in (List.mem_of_getElem? (i := 1054) (by decide +kernel)) rfl
theorem ml_X9_233 : Cond.methodLink RX9 233 yX9_explore ∈ gtb := gtb_in (List.mem_of_getElem? (i := 1058) (by decide +kernel)) rfl
theorem ml_X9_220 : Cond.methodLink RX9 220 yX9_mayAnywhere ∈ gtb := gtb_in (List.mem_of_getElem? (i := 1062) (by decide +kernel)) rfl
theorem ml_X9_214 : Cond.methodLink RX9 214 yX9_isLost ∈ gtb := gtb_in (List.mem_of_getElem? (i := 1066) (by decide +kernel)) rfl
theorem ml_X9_133 : Cond.methodLink RX9 133 yX9_leave ∈ gtb := gtb_in (List.mem_of_getElem? (i := 1070) (by decide +kernel)) rfl
theorem ml_X9_211 : Cond.methodLink RX9 211 yX9_readFor ∈ gtb := gtb_in (List.mem_of_getElem? (i := 1074) (by decide +kernel)) rfl
theorem ml_X9_202 : Cond.methodLink RX9 202 yX9_many ∈ gtb := gtb_in (List.mem_of_getElem? (i := 1078) (by decide +kernel)) rfl
theorem ml_X9_205 : Cond.methodLink RX9 205 yX9_readAll ∈ gtb := gtb_in (List.mem_of_getElem? (i := 1081) (by decide +kernel)) rfl
theorem ml_X9_199 : Cond.methodLink RX9 199 yX9_clause ∈ gtb := gtb_in (List.mem_of_getElem? (i := 1085) (by decide +kernel)) rfl
theorem ml_X9_163 : Cond.methodLink RX9 163 yX9_isAt ∈ gtb := gtb_in (List.mem_of_getElem? (i := 1089) (by decide +kernel)) rfl
theorem ml_X9_170 : Cond.methodLink RX9 170 yX9_takes ∈ gtb := gtb_in (List.mem_of_getElem? (i := 1093) (by decide +kernel)) rfl
theorem ml_X9_174 : Cond.methodLink RX9 174 yX9_number ∈ gtb := gtb_in (List.mem_of_getElem? (i := 1097) (by decide +kernel)) rfl
theorem ml_X9_166 : Cond.methodLink RX9 166 yX9_isDigit ∈ gtb := gtb_in (List.mem_of_getElem? (i := 1101) (by decide +kernel)) rfl
theorem ml_X9_184 : Cond.methodLink RX9 184 yX9_any ∈ gtb := gtb_in (List.mem_of_getElem? (i := 1105) (by decide +kernel)) rfl
theorem ml_X9_190 : Cond.methodLink RX9 190 yX9_both ∈ gtb := gtb_in (List.mem_of_getElem? (i := 1109) (by decide +kernel)) rfl
theorem ml_X9_181 : Cond.methodLink RX9 181 yX9_factor ∈ gtb := gtb_in (List.mem_of_getElem? (i := 1113) (by decide +kernel)) rfl
theorem ml_X9_187 : Cond.methodLink RX9 187 yX9_test ∈ gtb := gtb_in (List.mem_of_getElem? (i := 1117) (by decide +kernel)) rfl
theorem ml_X9_229 : Cond.methodLink RX9 229 yX9_arrive ∈ gtb := gtb_in (List.mem_of_getElem? (i := 1121) (by decide +kernel)) rfl
theorem ml_X9_217 : Cond.methodLink RX9 217 yX9_end ∈ gtb := gtb_in (List.mem_of_getElem? (i := 1125) (by decide +kernel)) rfl
theorem ml_X9_223 : Cond.methodLink RX9 223 yX9_halfBy ∈ gtb := gtb_in (List.mem_of_getElem? (i := 1129) (by decide +kernel)) rfl
theorem ml_X9_136 : Cond.methodLink RX9 136 yX9_sister ∈ gtb := gtb_in (List.mem_of_getElem? (i := 1133) (by decide +kernel)) rfl
theorem ml_X9_124 : Cond.methodLink RX9 124 yX9_done ∈ gtb := gtb_in (List.mem_of_getElem? (i := 1137) (by decide +kernel)) rfl
theorem ml_X9_245 : Cond.methodLink RX9 245 yX9_isDone ∈ gtb := gtb_in (List.mem_of_getElem? (i := 1141) (by decide +kernel)) rfl
theorem ml_X9_236 : Cond.methodLink RX9 236 yX9_isTruly ∈ gtb := gtb_in (List.mem_of_getElem? (i := 1145) (by decide +kernel)) rfl
theorem ml_X9_242 : Cond.methodLink RX9 242 yX9_hour ∈ gtb := gtb_in (List.mem_of_getElem? (i := 1149) (by decide +kernel)) rfl
theorem ml_X9_239 : Cond.methodLink RX9 239 yX9_longTo ∈ gtb := gtb_in (List.mem_of_getElem? (i := 1153) (by decide +kernel)) rfl
theorem ml_X9_139 : Cond.methodLink RX9 139 yX9_crosses ∈ gtb := gtb_in (List.mem_of_getElem? (i := 1157) (by decide +kernel)) rfl
theorem ml_X9_127 : Cond.methodLink RX9 127 yX9_may ∈ gtb := gtb_in (List.mem_of_getElem? (i := 1161) (by decide +kernel)) rfl
theorem ml_X9_130 : Cond.methodLink RX9 130 yX9_isBridge ∈ gtb := gtb_in (List.mem_of_getElem? (i := 1165) (by decide +kernel)) rfl
theorem ml_L_30 : Cond.methodLink RL 30 yX9_span ∈ gtb := gtb_in (List.mem_of_getElem? (i := 1169) (by decide +kernel)) rfl
theorem ml_L_34 : Cond.methodLink RL 34 yX9_errand ∈ gtb := gtb_in (List.mem_of_getElem? (i := 1173) (by decide +kernel)) rfl
theorem ml_L_38 : Cond.methodLink RL 38 yX9_cross ∈ gtb := gtb_in (List.mem_of_getElem? (i := 1177) (by decide +kernel)) rfl
theorem ml_L_43 : Cond.methodLink RL 43 yX9_lose ∈ gtb := gtb_in (List.mem_of_getElem? (i := 1181) (by decide +kernel)) rfl
theorem ml_L_47 : Cond.methodLink RL 47 yX9_swap ∈ gtb := gtb_in (List.mem_of_getElem? (i := 1185) (by decide +kernel)) rfl
theorem ml_X9_143 : Cond.methodLink RX9 143 yX9_isSwap ∈ gtb := gtb_in (List.mem_of_getElem? (i := 1189) (by decide +kernel)) rfl
theorem ml_X9_147 : Cond.methodLink RX9 147 yX9_goSwap ∈ gtb := gtb_in (List.mem_of_getElem? (i := 1193) (by decide +kernel)) rfl
theorem ml_L_51 : Cond.methodLink RL 51 yX9_row ∈ gtb := gtb_in (List.mem_of_getElem? (i := 1197) (by decide +kernel)) rfl
theorem ml_L_56 : Cond.methodLink RL 56 yX9_feed ∈ gtb := gtb_in (List.mem_of_getElem? (i := 1201) (by decide +kernel)) rfl
theorem ml_L_61 : Cond.methodLink RL 61 yX9_city ∈ gtb := gtb_in (List.mem_of_getElem? (i := 1205) (by decide +kernel)) rfl
theorem ml_L_65 : Cond.methodLink RL 65 yX9_told ∈ gtb := gtb_in (List.mem_of_getElem? (i := 1209) (by decide +kernel)) rfl
theorem ml_X9_248 : Cond.methodLink RX9 248 yX9_dones ∈ gtb := gtb_in (List.mem_of_getElem? (i := 1213) (by decide +kernel)) rfl
theorem ml_X9_251 : Cond.methodLink RX9 251 yX9_halves ∈ gtb := gtb_in (List.mem_of_getElem? (i := 1217) (by decide +kernel)) rfl
theorem ml_L_69 : Cond.methodLink RL 69 yX9_pass ∈ gtb := gtb_in (List.mem_of_getElem? (i := 1221) (by decide +kernel)) rfl
theorem ml_X9_254 : Cond.methodLink RX9 254 yX9_hours ∈ gtb := gtb_in (List.mem_of_getElem? (i := 1225) (by decide +kernel)) rfl
theorem ml_L_73 : Cond.methodLink RL 73 yX9_on ∈ gtb := gtb_in (List.mem_of_getElem? (i := 1229) (by decide +kernel)) rfl
theorem ml_L_77 : Cond.methodLink RL 77 yX9_way ∈ gtb := gtb_in (List.mem_of_getElem? (i := 1233) (by decide +kernel)) rfl
theorem ml_L_81 : Cond.methodLink RL 81 yX9_sisters ∈ gtb := gtb_in (List.mem_of_getElem? (i := 1237) (by decide +kernel)) rfl
theorem ml_X9_257 : Cond.methodLink RX9 257 yX9_late ∈ gtb := gtb_in (List.mem_of_getElem? (i := 1241) (by decide +kernel)) rfl
theorem ml_X9_260 : Cond.methodLink RX9 260 yJ9_min_7cf53 ∈ gtb := gtb_in (List.mem_of_getElem? (i := 1244) (by decide +kernel)) rfl
theorem ml_L_85 : Cond.methodLink RL 85 yX9_see ∈ gtb := gtb_in (List.mem_of_getElem? (i := 1245) (by decide +kernel)) rfl
theorem ml_L_89 : Cond.methodLink RL 89 yX9_from ∈ gtb := gtb_in (List.mem_of_getElem? (i := 1249) (by decide +kernel)) rfl
theorem ml_X9_268 : Cond.methodLink RX9 268 yX9_fits ∈ gtb := gtb_in (List.mem_of_getElem? (i := 1253) (by decide +kernel)) rfl
theorem ml_X9_265 : Cond.methodLink RX9 265 yX9_isAllSeen ∈ gtb := gtb_in (List.mem_of_getElem? (i := 1257) (by decide +kernel)) rfl
theorem ml_L_93 : Cond.methodLink RL 93 yX9_can ∈ gtb := gtb_in (List.mem_of_getElem? (i := 1261) (by decide +kernel)) rfl
theorem ml_L_98 : Cond.methodLink RL 98 yX9_odds ∈ gtb := gtb_in (List.mem_of_getElem? (i := 1265) (by decide +kernel)) rfl
theorem ml_X9_273 : Cond.methodLink RX9 273 yX9_lose ∈ gtb := gtb_in (List.mem_of_getElem? (i := 1270) (by decide +kernel)) rfl
theorem ml_X9_277 : Cond.methodLink RX9 277 yX9_fraction ∈ gtb := gtb_in (List.mem_of_getElem? (i := 1271) (by decide +kernel)) rfl
theorem ml_L_103 : Cond.methodLink RL 103 yX9_mean ∈ gtb := gtb_in (List.mem_of_getElem? (i := 1274) (by decide +kernel)) rfl
theorem ml_L_107 : Cond.methodLink RL 107 yX9_plan ∈ gtb := gtb_in (List.mem_of_getElem? (i := 1278) (by decide +kernel)) rfl
theorem ml_L_111 : Cond.methodLink RL 111 yX9_ends ∈ gtb := gtb_in (List.mem_of_getElem? (i := 1282) (by decide +kernel)) rfl
theorem ml_L_115 : Cond.methodLink RL 115 yX9_book ∈ gtb := gtb_in (List.mem_of_getElem? (i := 1286) (by decide +kernel)) rfl
theorem ml_L_119 : Cond.methodLink RL 119 yX9_looked ∈ gtb := gtb_in (List.mem_of_getElem? (i := 1290) (by decide +kernel)) rfl
theorem ml_L_135 : Cond.methodLink RL 135 yX9_act ∈ gtb := gtb_in (List.mem_of_getElem? (i := 1294) (by decide +kernel)) rfl
theorem ml_X9_291 : Cond.methodLink RX9 291 yX9_all ∈ gtb := gtb_in (List.mem_of_getElem? (i := 1298) (by decide +kernel)) rfl
theorem ml_X9_284 : Cond.methodLink RX9 284 yX9_byKind ∈ gtb := gtb_in (List.mem_of_getElem? (i := 1302) (by decide +kernel)) rfl
theorem ml_X9_288 : Cond.methodLink RX9 288 yX9_body ∈ gtb := gtb_in (List.mem_of_getElem? (i := 1306) (by decide +kernel)) rfl
theorem ml_L_139 : Cond.methodLink RL 139 yX9_trace ∈ gtb := gtb_in (List.mem_of_getElem? (i := 1310) (by decide +kernel)) rfl
theorem ml_L_143 : Cond.methodLink RL 143 yX9_taken ∈ gtb := gtb_in (List.mem_of_getElem? (i := 1314) (by decide +kernel)) rfl
theorem ml_L_147 : Cond.methodLink RL 147 yX9_count ∈ gtb := gtb_in (List.mem_of_getElem? (i := 1318) (by decide +kernel)) rfl
theorem ml_L_151 : Cond.methodLink RL 151 yX9_tape ∈ gtb := gtb_in (List.mem_of_getElem? (i := 1322) (by decide +kernel)) rfl
theorem ml_X9_294 : Cond.methodLink RX9 294 yX9_isTape ∈ gtb := gtb_in (List.mem_of_getElem? (i := 1326) (by decide +kernel)) rfl
theorem ml_L_158 : Cond.methodLink RL 158 yX9_item ∈ gtb := gtb_in (List.mem_of_getElem? (i := 1329) (by decide +kernel)) rfl
theorem ml_L_163 : Cond.methodLink RL 163 yX9_read ∈ gtb := gtb_in (List.mem_of_getElem? (i := 1333) (by decide +kernel)) rfl
theorem ml_L_168 : Cond.methodLink RL 168 yX9_shift ∈ gtb := gtb_in (List.mem_of_getElem? (i := 1337) (by decide +kernel)) rfl
theorem ml_L_123 : Cond.methodLink RL 123 yX9_judge ∈ gtb := gtb_in (List.mem_of_getElem? (i := 1341) (by decide +kernel)) rfl
theorem fl_X3_9 : Cond.fieldLink RX3 9 "BridgePairs$Rows" "number" "[I" ∈ gtb := gtb_in (List.mem_of_getElem? (i := 104) (by decide +kernel)) rfl
theorem fl_X8_231 : Cond.fieldLink RX8 231 "BridgePairs$Rows" "number" "[I" ∈ gtb := gtb_in (List.mem_of_getElem? (i := 105) (by decide +kernel)) rfl
theorem fl_X3_15 : Cond.fieldLink RX3 15 "BridgePairs$Rows" "place" "[I" ∈ gtb := gtb_in (List.mem_of_getElem? (i := 106) (by decide +kernel)) rfl
theorem fl_X8_234 : Cond.fieldLink RX8 234 "BridgePairs$Rows" "place" "[I" ∈ gtb := gtb_in (List.mem_of_getElem? (i := 107) (by decide +kernel)) rfl
theorem fl_X3_18 : Cond.fieldLink RX3 18 "BridgePairs$Rows" "hours" "[I" ∈ gtb := gtb_in (List.mem_of_getElem? (i := 108) (by decide +kernel)) rfl
theorem fl_X3_21 : Cond.fieldLink RX3 21 "BridgePairs$Rows" "count" "I" ∈ gtb := gtb_in (List.mem_of_getElem? (i := 109) (by decide +kernel)) rfl
theorem fl_X8_228 : Cond.fieldLink RX8 228 "BridgePairs$Rows" "count" "I" ∈ gtb := gtb_in (List.mem_of_getElem? (i := 110) (by decide +kernel)) rfl
theorem fl_X2_19 : Cond.fieldLink RX2 19 "BridgePairs$Person" "kind" "I" ∈ gtb := gtb_in (List.mem_of_getElem? (i := 126) (by decide +kernel)) rfl
theorem fl_X0_15 : Cond.fieldLink RX0 15 "BridgePairs$Person" "kind" "I" ∈ gtb := gtb_in (List.mem_of_getElem? (i := 127) (by decide +kernel)) rfl
theorem fl_X8_78 : Cond.fieldLink RX8 78 "BridgePairs$Person" "kind" "I" ∈ gtb := gtb_in (List.mem_of_getElem? (i := 128) (by decide +kernel)) rfl
theorem fl_X7_93 : Cond.fieldLink RX7 93 "BridgePairs$Person" "kind" "I" ∈ gtb := gtb_in (List.mem_of_getElem? (i := 129) (by decide +kernel)) rfl
theorem fl_X2_22 : Cond.fieldLink RX2 22 "BridgePairs$Person" "v" "I" ∈ gtb := gtb_in (List.mem_of_getElem? (i := 130) (by decide +kernel)) rfl
theorem fl_X0_22 : Cond.fieldLink RX0 22 "BridgePairs$Person" "v" "I" ∈ gtb := gtb_in (List.mem_of_getElem? (i := 131) (by decide +kernel)) rfl
theorem fl_X8_84 : Cond.fieldLink RX8 84 "BridgePairs$Person" "v" "I" ∈ gtb := gtb_in (List.mem_of_getElem? (i := 132) (by decide +kernel)) rfl
theorem fl_X7_96 : Cond.fieldLink RX7 96 "BridgePairs$Person" "v" "I" ∈ gtb := gtb_in (List.mem_of_getElem? (i := 133) (by decide +kernel)) rfl
theorem fl_X2_25 : Cond.fieldLink RX2 25 "BridgePairs$Person" "at" "I" ∈ gtb := gtb_in (List.mem_of_getElem? (i := 134) (by decide +kernel)) rfl
theorem fl_X8_87 : Cond.fieldLink RX8 87 "BridgePairs$Person" "at" "I" ∈ gtb := gtb_in (List.mem_of_getElem? (i := 135) (by decide +kernel)) rfl
theorem fl_X6_76 : Cond.fieldLink RX6 76 "BridgePairs$Person" "at" "I" ∈ gtb := gtb_in (List.mem_of_getElem? (i := 136) (by decide +kernel)) rfl
theorem fl_X7_77 : Cond.fieldLink RX7 77 "BridgePairs$Person" "at" "I" ∈ gtb := gtb_in (List.mem_of_getElem? (i := 137) (by decide +kernel)) rfl
theorem fl_X2_28 : Cond.fieldLink RX2 28 "BridgePairs$Person" "said" "I" ∈ gtb := gtb_in (List.mem_of_getElem? (i := 138) (by decide +kernel)) rfl
theorem fl_X8_90 : Cond.fieldLink RX8 90 "BridgePairs$Person" "said" "I" ∈ gtb := gtb_in (List.mem_of_getElem? (i := 139) (by decide +kernel)) rfl
theorem fl_X7_90 : Cond.fieldLink RX7 90 "BridgePairs$Person" "said" "I" ∈ gtb := gtb_in (List.mem_of_getElem? (i := 140) (by decide +kernel)) rfl
theorem fl_X2_9 : Cond.fieldLink RX2 9 "BridgePairs$Person" "errand" "I" ∈ gtb := gtb_in (List.mem_of_getElem? (i := 141) (by decide +kernel)) rfl
theorem fl_X8_93 : Cond.fieldLink RX8 93 "BridgePairs$Person" "errand" "I" ∈ gtb := gtb_in (List.mem_of_getElem? (i := 142) (by decide +kernel)) rfl
theorem fl_X2_31 : Cond.fieldLink RX2 31 "BridgePairs$Person" "half" "I" ∈ gtb := gtb_in (List.mem_of_getElem? (i := 143) (by decide +kernel)) rfl
theorem fl_X8_96 : Cond.fieldLink RX8 96 "BridgePairs$Person" "half" "I" ∈ gtb := gtb_in (List.mem_of_getElem? (i := 144) (by decide +kernel)) rfl
theorem fl_X6_81 : Cond.fieldLink RX6 81 "BridgePairs$Person" "half" "I" ∈ gtb := gtb_in (List.mem_of_getElem? (i := 145) (by decide +kernel)) rfl
theorem fl_X7_84 : Cond.fieldLink RX7 84 "BridgePairs$Person" "half" "I" ∈ gtb := gtb_in (List.mem_of_getElem? (i := 146) (by decide +kernel)) rfl
theorem fl_X2_15 : Cond.fieldLink RX2 15 "BridgePairs$Person" "row" "[I" ∈ gtb := gtb_in (List.mem_of_getElem? (i := 147) (by decide +kernel)) rfl
theorem fl_X8_144 : Cond.fieldLink RX8 144 "BridgePairs$Person" "row" "[I" ∈ gtb := gtb_in (List.mem_of_getElem? (i := 148) (by decide +kernel)) rfl
theorem fl_X7_105 : Cond.fieldLink RX7 105 "BridgePairs$Person" "row" "[I" ∈ gtb := gtb_in (List.mem_of_getElem? (i := 149) (by decide +kernel)) rfl
theorem fl_X7_43 : Cond.fieldLink RX7 43 "BridgePairs$World" "bridges" "I" ∈ gtb := gtb_in (List.mem_of_getElem? (i := 165) (by decide +kernel)) rfl
theorem fl_X6_45 : Cond.fieldLink RX6 45 "BridgePairs$World" "bridges" "I" ∈ gtb := gtb_in (List.mem_of_getElem? (i := 166) (by decide +kernel)) rfl
theorem fl_X8_195 : Cond.fieldLink RX8 195 "BridgePairs$World" "bridges" "I" ∈ gtb := gtb_in (List.mem_of_getElem? (i := 167) (by decide +kernel)) rfl
theorem fl_X7_9 : Cond.fieldLink RX7 9 "BridgePairs$World" "first" "[I" ∈ gtb := gtb_in (List.mem_of_getElem? (i := 168) (by decide +kernel)) rfl
theorem fl_X8_116 : Cond.fieldLink RX8 116 "BridgePairs$World" "first" "[I" ∈ gtb := gtb_in (List.mem_of_getElem? (i := 169) (by decide +kernel)) rfl
theorem fl_X7_15 : Cond.fieldLink RX7 15 "BridgePairs$World" "second" "[I" ∈ gtb := gtb_in (List.mem_of_getElem? (i := 170) (by decide +kernel)) rfl
theorem fl_X8_120 : Cond.fieldLink RX8 120 "BridgePairs$World" "second" "[I" ∈ gtb := gtb_in (List.mem_of_getElem? (i := 171) (by decide +kernel)) rfl
theorem fl_X7_18 : Cond.fieldLink RX7 18 "BridgePairs$World" "sister" "[I" ∈ gtb := gtb_in (List.mem_of_getElem? (i := 172) (by decide +kernel)) rfl
theorem fl_X8_123 : Cond.fieldLink RX8 123 "BridgePairs$World" "sister" "[I" ∈ gtb := gtb_in (List.mem_of_getElem? (i := 173) (by decide +kernel)) rfl
theorem fl_X7_53 : Cond.fieldLink RX7 53 "BridgePairs$World" "lost" "I" ∈ gtb := gtb_in (List.mem_of_getElem? (i := 174) (by decide +kernel)) rfl
theorem fl_X8_126 : Cond.fieldLink RX8 126 "BridgePairs$World" "lost" "I" ∈ gtb := gtb_in (List.mem_of_getElem? (i := 175) (by decide +kernel)) rfl
theorem fl_X7_56 : Cond.fieldLink RX7 56 "BridgePairs$World" "people" "I" ∈ gtb := gtb_in (List.mem_of_getElem? (i := 176) (by decide +kernel)) rfl
theorem fl_X8_222 : Cond.fieldLink RX8 222 "BridgePairs$World" "people" "I" ∈ gtb := gtb_in (List.mem_of_getElem? (i := 177) (by decide +kernel)) rfl
theorem fl_X7_23 : Cond.fieldLink RX7 23 "BridgePairs$World" "persons" "[LBridgePairs$Person;" ∈ gtb := gtb_in (List.mem_of_getElem? (i := 178) (by decide +kernel)) rfl
theorem fl_X6_25 : Cond.fieldLink RX6 25 "BridgePairs$World" "persons" "[LBridgePairs$Person;" ∈ gtb := gtb_in (List.mem_of_getElem? (i := 179) (by decide +kernel)) rfl
theorem fl_X8_74 : Cond.fieldLink RX8 74 "BridgePairs$World" "persons" "[LBridgePairs$Person;" ∈ gtb := gtb_in (List.mem_of_getElem? (i := 180) (by decide +kernel)) rfl
theorem fl_X7_63 : Cond.fieldLink RX7 63 "BridgePairs$World" "hour" "I" ∈ gtb := gtb_in (List.mem_of_getElem? (i := 181) (by decide +kernel)) rfl
theorem fl_X8_164 : Cond.fieldLink RX8 164 "BridgePairs$World" "hour" "I" ∈ gtb := gtb_in (List.mem_of_getElem? (i := 182) (by decide +kernel)) rfl
theorem fl_X7_66 : Cond.fieldLink RX7 66 "BridgePairs$World" "city" "LBridgePairs$City;" ∈ gtb := gtb_in (List.mem_of_getElem? (i := 183) (by decide +kernel)) rfl
theorem fl_X8_160 : Cond.fieldLink RX8 160 "BridgePairs$World" "city" "LBridgePairs$City;" ∈ gtb := gtb_in (List.mem_of_getElem? (i := 184) (by decide +kernel)) rfl
theorem fl_X7_32 : Cond.fieldLink RX7 32 "BridgePairs$World" "seen" "LBridgePairs$Rows;" ∈ gtb := gtb_in (List.mem_of_getElem? (i := 185) (by decide +kernel)) rfl
theorem fl_X8_198 : Cond.fieldLink RX8 198 "BridgePairs$World" "seen" "LBridgePairs$Rows;" ∈ gtb := gtb_in (List.mem_of_getElem? (i := 186) (by decide +kernel)) rfl
theorem fl_X7_36 : Cond.fieldLink RX7 36 "BridgePairs$World" "plan" "LBridgePairs$Rows;" ∈ gtb := gtb_in (List.mem_of_getElem? (i := 187) (by decide +kernel)) rfl
theorem fl_X8_225 : Cond.fieldLink RX8 225 "BridgePairs$World" "plan" "LBridgePairs$Rows;" ∈ gtb := gtb_in (List.mem_of_getElem? (i := 188) (by decide +kernel)) rfl
theorem fl_X7_39 : Cond.fieldLink RX7 39 "BridgePairs$World" "book" "LBridgePairs$Rows;" ∈ gtb := gtb_in (List.mem_of_getElem? (i := 189) (by decide +kernel)) rfl
theorem fl_X8_237 : Cond.fieldLink RX8 237 "BridgePairs$World" "book" "LBridgePairs$Rows;" ∈ gtb := gtb_in (List.mem_of_getElem? (i := 190) (by decide +kernel)) rfl
theorem fl_X6_9 : Cond.fieldLink RX6 9 "BridgePairs$Ways" "queue" "[I" ∈ gtb := gtb_in (List.mem_of_getElem? (i := 222) (by decide +kernel)) rfl
theorem fl_X6_15 : Cond.fieldLink RX6 15 "BridgePairs$Ways" "link" "[I" ∈ gtb := gtb_in (List.mem_of_getElem? (i := 223) (by decide +kernel)) rfl
theorem fl_X6_18 : Cond.fieldLink RX6 18 "BridgePairs$Ways" "isMet" "[Z" ∈ gtb := gtb_in (List.mem_of_getElem? (i := 224) (by decide +kernel)) rfl
theorem fl_X6_22 : Cond.fieldLink RX6 22 "BridgePairs$Ways" "may" "[I" ∈ gtb := gtb_in (List.mem_of_getElem? (i := 225) (by decide +kernel)) rfl
theorem fl_X6_35 : Cond.fieldLink RX6 35 "BridgePairs$Ways" "tail" "I" ∈ gtb := gtb_in (List.mem_of_getElem? (i := 226) (by decide +kernel)) rfl
theorem fl_X6_63 : Cond.fieldLink RX6 63 "BridgePairs$Ways" "length" "I" ∈ gtb := gtb_in (List.mem_of_getElem? (i := 227) (by decide +kernel)) rfl
theorem fl_X5_9 : Cond.fieldLink RX5 9 "BridgePairs$Text" "signs" "[I" ∈ gtb := gtb_in (List.mem_of_getElem? (i := 248) (by decide +kernel)) rfl
theorem fl_X5_15 : Cond.fieldLink RX5 15 "BridgePairs$Text" "length" "I" ∈ gtb := gtb_in (List.mem_of_getElem? (i := 249) (by decide +kernel)) rfl
theorem fl_X8_157 : Cond.fieldLink RX8 157 "BridgePairs$Text" "length" "I" ∈ gtb := gtb_in (List.mem_of_getElem? (i := 250) (by decide +kernel)) rfl
theorem fl_X5_24 : Cond.fieldLink RX5 24 "BridgePairs$Text" "place" "I" ∈ gtb := gtb_in (List.mem_of_getElem? (i := 251) (by decide +kernel)) rfl
theorem fl_X5_49 : Cond.fieldLink RX5 49 "BridgePairs$Text" "number" "I" ∈ gtb := gtb_in (List.mem_of_getElem? (i := 252) (by decide +kernel)) rfl
theorem fl_X0_9 : Cond.fieldLink RX0 9 "BridgePairs$Acts" "bodies" "[I" ∈ gtb := gtb_in (List.mem_of_getElem? (i := 272) (by decide +kernel)) rfl
theorem fl_X8_264 : Cond.fieldLink RX8 264 "BridgePairs$Acts" "bodies" "[I" ∈ gtb := gtb_in (List.mem_of_getElem? (i := 273) (by decide +kernel)) rfl
theorem fl_X0_29 : Cond.fieldLink RX0 29 "BridgePairs$Acts" "ran" "I" ∈ gtb := gtb_in (List.mem_of_getElem? (i := 274) (by decide +kernel)) rfl
theorem fl_X8_257 : Cond.fieldLink RX8 257 "BridgePairs$Acts" "ran" "I" ∈ gtb := gtb_in (List.mem_of_getElem? (i := 275) (by decide +kernel)) rfl
theorem fl_X0_21 : Cond.fieldLink RX0 21 "BridgePairs$Acts" "kind" "I" ∈ gtb := gtb_in (List.mem_of_getElem? (i := 276) (by decide +kernel)) rfl
theorem fl_X0_25 : Cond.fieldLink RX0 25 "BridgePairs$Acts" "v" "I" ∈ gtb := gtb_in (List.mem_of_getElem? (i := 277) (by decide +kernel)) rfl
theorem fl_X0_26 : Cond.fieldLink RX0 26 "BridgePairs$Acts" "number" "I" ∈ gtb := gtb_in (List.mem_of_getElem? (i := 278) (by decide +kernel)) rfl
theorem fl_X1_18 : Cond.fieldLink RX1 18 "BridgePairs$City" "dark" "I" ∈ gtb := gtb_in (List.mem_of_getElem? (i := 295) (by decide +kernel)) rfl
theorem fl_X5_52 : Cond.fieldLink RX5 52 "BridgePairs$City" "dark" "I" ∈ gtb := gtb_in (List.mem_of_getElem? (i := 296) (by decide +kernel)) rfl
theorem fl_X7_112 : Cond.fieldLink RX7 112 "BridgePairs$City" "dark" "I" ∈ gtb := gtb_in (List.mem_of_getElem? (i := 297) (by decide +kernel)) rfl
theorem fl_X1_9 : Cond.fieldLink RX1 9 "BridgePairs$City" "codes" "[I" ∈ gtb := gtb_in (List.mem_of_getElem? (i := 298) (by decide +kernel)) rfl
theorem fl_X1_22 : Cond.fieldLink RX1 22 "BridgePairs$City" "size" "I" ∈ gtb := gtb_in (List.mem_of_getElem? (i := 299) (by decide +kernel)) rfl
theorem fl_X1_15 : Cond.fieldLink RX1 15 "BridgePairs$City" "facts" "[I" ∈ gtb := gtb_in (List.mem_of_getElem? (i := 300) (by decide +kernel)) rfl
theorem fl_X4_9 : Cond.fieldLink RX4 9 "BridgePairs$Tape" "sort" "I" ∈ gtb := gtb_in (List.mem_of_getElem? (i := 315) (by decide +kernel)) rfl
theorem fl_X8_243 : Cond.fieldLink RX8 243 "BridgePairs$Tape" "sort" "I" ∈ gtb := gtb_in (List.mem_of_getElem? (i := 316) (by decide +kernel)) rfl
theorem fl_X4_15 : Cond.fieldLink RX4 15 "BridgePairs$Tape" "items" "[J" ∈ gtb := gtb_in (List.mem_of_getElem? (i := 317) (by decide +kernel)) rfl
theorem fl_X8_249 : Cond.fieldLink RX8 249 "BridgePairs$Tape" "items" "[J" ∈ gtb := gtb_in (List.mem_of_getElem? (i := 318) (by decide +kernel)) rfl
theorem fl_X4_19 : Cond.fieldLink RX4 19 "BridgePairs$Tape" "length" "I" ∈ gtb := gtb_in (List.mem_of_getElem? (i := 319) (by decide +kernel)) rfl
theorem fl_X8_14 : Cond.fieldLink RX8 14 "BridgePairs" "now" "LBridgePairs$World;" ∈ gtb := gtb_in (List.mem_of_getElem? (i := 328) (by decide +kernel)) rfl
theorem fl_X8_18 : Cond.fieldLink RX8 18 "BridgePairs" "kept" "LBridgePairs$World;" ∈ gtb := gtb_in (List.mem_of_getElem? (i := 329) (by decide +kernel)) rfl
theorem fl_X8_21 : Cond.fieldLink RX8 21 "BridgePairs" "trial" "LBridgePairs$World;" ∈ gtb := gtb_in (List.mem_of_getElem? (i := 330) (by decide +kernel)) rfl
theorem fl_X8_27 : Cond.fieldLink RX8 27 "BridgePairs" "ways" "LBridgePairs$Ways;" ∈ gtb := gtb_in (List.mem_of_getElem? (i := 331) (by decide +kernel)) rfl
theorem fl_X8_34 : Cond.fieldLink RX8 34 "BridgePairs" "text" "LBridgePairs$Text;" ∈ gtb := gtb_in (List.mem_of_getElem? (i := 332) (by decide +kernel)) rfl
theorem fl_X8_40 : Cond.fieldLink RX8 40 "BridgePairs" "cities" "[LBridgePairs$City;" ∈ gtb := gtb_in (List.mem_of_getElem? (i := 333) (by decide +kernel)) rfl
theorem fl_X8_46 : Cond.fieldLink RX8 46 "BridgePairs" "tapes" "[LBridgePairs$Tape;" ∈ gtb := gtb_in (List.mem_of_getElem? (i := 334) (by decide +kernel)) rfl
theorem fl_X8_53 : Cond.fieldLink RX8 53 "BridgePairs" "acts" "LBridgePairs$Acts;" ∈ gtb := gtb_in (List.mem_of_getElem? (i := 335) (by decide +kernel)) rfl
theorem fl_X8_150 : Cond.fieldLink RX8 150 "BridgePairs" "cityCount" "I" ∈ gtb := gtb_in (List.mem_of_getElem? (i := 336) (by decide +kernel)) rfl
theorem fl_X8_253 : Cond.fieldLink RX8 253 "BridgePairs" "hasImage" "Z" ∈ gtb := gtb_in (List.mem_of_getElem? (i := 337) (by decide +kernel)) rfl
theorem fl_J0_38 : Cond.fieldLink RJ0 38 "java/lang/String" "COMPACT_STRINGS" "Z" ∈ gtb := gtb_in (List.mem_of_getElem? (i := 576) (by decide +kernel)) rfl
theorem fl_J0_1053 : Cond.fieldLink RJ0 1053 "jdk/internal/util/Preconditions" "SIOOBE_FORMATTER" "Ljava/util/function/BiFunction;" ∈ gtb := gtb_in (List.mem_of_getElem? (i := 592) (by decide +kernel)) rfl
theorem fl_J2_44 : Cond.fieldLink RJ2 44 "java/lang/StringUTF16" "$assertionsDisabled" "Z" ∈ gtb := gtb_in (List.mem_of_getElem? (i := 610) (by decide +kernel)) rfl
theorem fl_J2_59 : Cond.fieldLink RJ2 59 "java/lang/StringUTF16" "HI_BYTE_SHIFT" "I" ∈ gtb := gtb_in (List.mem_of_getElem? (i := 612) (by decide +kernel)) rfl
theorem fl_J2_63 : Cond.fieldLink RJ2 63 "java/lang/StringUTF16" "LO_BYTE_SHIFT" "I" ∈ gtb := gtb_in (List.mem_of_getElem? (i := 614) (by decide +kernel)) rfl
theorem fl_X8_286 : Cond.fieldLink RX8 286 "BridgePairs" "ABOVE" "[I" ∈ gtb := gtb_in (List.mem_of_getElem? (i := 857) (by decide +kernel)) rfl
theorem fl_X9_9 : Cond.fieldLink RX9 9 "BridgePairsModel" "now" "[I" ∈ gtb := gtb_in (List.mem_of_getElem? (i := 900) (by decide +kernel)) rfl
theorem fl_X9_15 : Cond.fieldLink RX9 15 "BridgePairsModel" "mind" "[I" ∈ gtb := gtb_in (List.mem_of_getElem? (i := 901) (by decide +kernel)) rfl
theorem fl_X9_18 : Cond.fieldLink RX9 18 "BridgePairsModel" "then" "[I" ∈ gtb := gtb_in (List.mem_of_getElem? (i := 902) (by decide +kernel)) rfl
theorem fl_X9_90 : Cond.fieldLink RX9 90 "BridgePairsModel" "kept" "Z" ∈ gtb := gtb_in (List.mem_of_getElem? (i := 903) (by decide +kernel)) rfl
theorem fl_X9_21 : Cond.fieldLink RX9 21 "BridgePairsModel" "text" "[I" ∈ gtb := gtb_in (List.mem_of_getElem? (i := 904) (by decide +kernel)) rfl
theorem fl_X9_150 : Cond.fieldLink RX9 150 "BridgePairsModel" "texted" "I" ∈ gtb := gtb_in (List.mem_of_getElem? (i := 905) (by decide +kernel)) rfl
theorem fl_X9_24 : Cond.fieldLink RX9 24 "BridgePairsModel" "rules" "[I" ∈ gtb := gtb_in (List.mem_of_getElem? (i := 906) (by decide +kernel)) rfl
theorem fl_X9_27 : Cond.fieldLink RX9 27 "BridgePairsModel" "sizes" "[I" ∈ gtb := gtb_in (List.mem_of_getElem? (i := 907) (by decide +kernel)) rfl
theorem fl_X9_208 : Cond.fieldLink RX9 208 "BridgePairsModel" "ruled" "I" ∈ gtb := gtb_in (List.mem_of_getElem? (i := 908) (by decide +kernel)) rfl
theorem fl_X9_30 : Cond.fieldLink RX9 30 "BridgePairsModel" "read" "[I" ∈ gtb := gtb_in (List.mem_of_getElem? (i := 909) (by decide +kernel)) rfl
theorem fl_X9_160 : Cond.fieldLink RX9 160 "BridgePairsModel" "size" "I" ∈ gtb := gtb_in (List.mem_of_getElem? (i := 910) (by decide +kernel)) rfl
theorem fl_X9_157 : Cond.fieldLink RX9 157 "BridgePairsModel" "at" "I" ∈ gtb := gtb_in (List.mem_of_getElem? (i := 911) (by decide +kernel)) rfl
theorem fl_X9_154 : Cond.fieldLink RX9 154 "BridgePairsModel" "well" "Z" ∈ gtb := gtb_in (List.mem_of_getElem? (i := 912) (by decide +kernel)) rfl
theorem fl_X9_178 : Cond.fieldLink RX9 178 "BridgePairsModel" "within" "I" ∈ gtb := gtb_in (List.mem_of_getElem? (i := 913) (by decide +kernel)) rfl
theorem fl_X9_196 : Cond.fieldLink RX9 196 "BridgePairsModel" "sum" "I" ∈ gtb := gtb_in (List.mem_of_getElem? (i := 914) (by decide +kernel)) rfl
theorem fl_X9_193 : Cond.fieldLink RX9 193 "BridgePairsModel" "dark" "I" ∈ gtb := gtb_in (List.mem_of_getElem? (i := 915) (by decide +kernel)) rfl
theorem fl_X9_33 : Cond.fieldLink RX9 33 "BridgePairsModel" "names" "[I" ∈ gtb := gtb_in (List.mem_of_getElem? (i := 916) (by decide +kernel)) rfl
theorem fl_X9_36 : Cond.fieldLink RX9 36 "BridgePairsModel" "letters" "[C" ∈ gtb := gtb_in (List.mem_of_getElem? (i := 917) (by decide +kernel)) rfl
theorem fl_X9_40 : Cond.fieldLink RX9 40 "BridgePairsModel" "begins" "[C" ∈ gtb := gtb_in (List.mem_of_getElem? (i := 918) (by decide +kernel)) rfl
theorem fl_X9_43 : Cond.fieldLink RX9 43 "BridgePairsModel" "words" "[C" ∈ gtb := gtb_in (List.mem_of_getElem? (i := 919) (by decide +kernel)) rfl
theorem fl_X9_46 : Cond.fieldLink RX9 46 "BridgePairsModel" "mays" "[I" ∈ gtb := gtb_in (List.mem_of_getElem? (i := 920) (by decide +kernel)) rfl
theorem fl_X9_49 : Cond.fieldLink RX9 49 "BridgePairsModel" "been" "[Z" ∈ gtb := gtb_in (List.mem_of_getElem? (i := 921) (by decide +kernel)) rfl
theorem fl_X9_53 : Cond.fieldLink RX9 53 "BridgePairsModel" "come" "[I" ∈ gtb := gtb_in (List.mem_of_getElem? (i := 922) (by decide +kernel)) rfl
theorem fl_X9_56 : Cond.fieldLink RX9 56 "BridgePairsModel" "from" "[I" ∈ gtb := gtb_in (List.mem_of_getElem? (i := 923) (by decide +kernel)) rfl
theorem fl_X9_59 : Cond.fieldLink RX9 59 "BridgePairsModel" "by" "[I" ∈ gtb := gtb_in (List.mem_of_getElem? (i := 924) (by decide +kernel)) rfl
theorem fl_X9_62 : Cond.fieldLink RX9 62 "BridgePairsModel" "far" "[I" ∈ gtb := gtb_in (List.mem_of_getElem? (i := 925) (by decide +kernel)) rfl
theorem fl_X9_226 : Cond.fieldLink RX9 226 "BridgePairsModel" "comes" "I" ∈ gtb := gtb_in (List.mem_of_getElem? (i := 926) (by decide +kernel)) rfl
theorem fl_X9_65 : Cond.fieldLink RX9 65 "BridgePairsModel" "steps" "[I" ∈ gtb := gtb_in (List.mem_of_getElem? (i := 927) (by decide +kernel)) rfl
theorem fl_X9_68 : Cond.fieldLink RX9 68 "BridgePairsModel" "above" "[I" ∈ gtb := gtb_in (List.mem_of_getElem? (i := 928) (by decide +kernel)) rfl
theorem fl_X9_71 : Cond.fieldLink RX9 71 "BridgePairsModel" "bodies" "[I" ∈ gtb := gtb_in (List.mem_of_getElem? (i := 929) (by decide +kernel)) rfl
theorem fl_X9_74 : Cond.fieldLink RX9 74 "BridgePairsModel" "trace" "[I" ∈ gtb := gtb_in (List.mem_of_getElem? (i := 930) (by decide +kernel)) rfl
theorem fl_X9_281 : Cond.fieldLink RX9 281 "BridgePairsModel" "ran" "I" ∈ gtb := gtb_in (List.mem_of_getElem? (i := 931) (by decide +kernel)) rfl
theorem fl_X9_77 : Cond.fieldLink RX9 77 "BridgePairsModel" "sorts" "[I" ∈ gtb := gtb_in (List.mem_of_getElem? (i := 932) (by decide +kernel)) rfl
theorem fl_X9_80 : Cond.fieldLink RX9 80 "BridgePairsModel" "lengths" "[I" ∈ gtb := gtb_in (List.mem_of_getElem? (i := 933) (by decide +kernel)) rfl
theorem fl_X9_83 : Cond.fieldLink RX9 83 "BridgePairsModel" "items" "[J" ∈ gtb := gtb_in (List.mem_of_getElem? (i := 934) (by decide +kernel)) rfl
theorem fl_X9_87 : Cond.fieldLink RX9 87 "BridgePairsModel" "moved" "[J" ∈ gtb := gtb_in (List.mem_of_getElem? (i := 935) (by decide +kernel)) rfl
theorem fl_J0_9 : Cond.fieldLink RJ0 9 "java/lang/String" "value" "[B" ∈ gtb := gtb_in (List.mem_of_getElem? (i := 1346) (by decide +kernel)) rfl
theorem fl_J0_15 : Cond.fieldLink RJ0 15 "java/lang/String" "coder" "B" ∈ gtb := gtb_in (List.mem_of_getElem? (i := 1347) (by decide +kernel)) rfl
theorem kc_J6_265 : Cond.constant RJ6 265 (1431655765) ∈ gtb := gtb_in (List.mem_of_getElem? (i := 413) (by decide +kernel)) rfl
theorem kc_J6_266 : Cond.constant RJ6 266 (858993459) ∈ gtb := gtb_in (List.mem_of_getElem? (i := 414) (by decide +kernel)) rfl
theorem kc_J6_267 : Cond.constant RJ6 267 (252645135) ∈ gtb := gtb_in (List.mem_of_getElem? (i := 415) (by decide +kernel)) rfl
theorem kc_J2_227 : Cond.constant RJ2 227 (65536) ∈ gtb := gtb_in (List.mem_of_getElem? (i := 670) (by decide +kernel)) rfl
theorem kc_J11_110 : Cond.constant RJ11 110 (55232) ∈ gtb := gtb_in (List.mem_of_getElem? (i := 695) (by decide +kernel)) rfl
theorem kc_J11_76 : Cond.constant RJ11 76 (56320) ∈ gtb := gtb_in (List.mem_of_getElem? (i := 699) (by decide +kernel)) rfl
theorem kc_X8_216 : Cond.constantLong RX8 216 (-9223372036854775808) ∈ gtb := gtb_in (List.mem_of_getElem? (i := 783) (by decide +kernel)) rfl
theorem kc_X9_271 : Cond.constantLong RX9 271 (-9223372036854775808) ∈ gtb := gtb_in (List.mem_of_getElem? (i := 1269) (by decide +kernel)) rfl
theorem kc_L_152 : Cond.constantLong RL 152 (4294967295) ∈ gtb := gtb_in (List.mem_of_getElem? (i := 1345) (by decide +kernel)) rfl
