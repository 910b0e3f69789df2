theorem LY_X0 : LY 0 RX0 TX0 5 tyX0 := ⟨rfl, by decide +kernel, tyX0_ok, nmX0, by decide +kernel⟩
theorem LY_X1 : LY 1 RX1 TX1 9 tyX1 := ⟨rfl, by decide +kernel, tyX1_ok, nmX1, by decide +kernel⟩
theorem LY_X2 : LY 2 RX2 TX2 3 tyX2 := ⟨rfl, by decide +kernel, tyX2_ok, nmX2, by decide +kernel⟩
theorem LY_X3 : LY 3 RX3 TX3 11 tyX3 := ⟨rfl, by decide +kernel, tyX3_ok, nmX3, by decide +kernel⟩
theorem LY_X4 : LY 4 RX4 TX4 3 tyX4 := ⟨rfl, by decide +kernel, tyX4_ok, nmX4, by decide +kernel⟩
theorem LY_X5 : LY 5 RX5 TX5 11 tyX5 := ⟨rfl, by decide +kernel, tyX5_ok, nmX5, by decide +kernel⟩
theorem LY_X6 : LY 6 RX6 TX6 38 tyX6 := ⟨rfl, by decide +kernel, tyX6_ok, nmX6, by decide +kernel⟩
theorem mw_X0_init : MWI yX0_init cX0_init 5 4 := ⟨List.mem_of_getElem? (i := 210) (by decide +kernel), List.mem_of_getElem? (i := 211) (by decide +kernel), List.mem_of_getElem? (i := 48) (by decide +kernel), rfl, by decide +kernel⟩
theorem mw_X0_isForByItself : MWV yX0_isForByItself cX0_isForByItself 3 (some .boolean) 2 := ⟨List.mem_of_getElem? (i := 438) (by decide +kernel), List.mem_of_getElem? (i := 439) (by decide +kernel), List.mem_of_getElem? (i := 440) (by decide +kernel), List.mem_of_getElem? (i := 48) (by decide +kernel), by decide +kernel⟩
theorem mw_X1_init : MWI yX1_init cX1_init 6 5 := ⟨List.mem_of_getElem? (i := 573) (by decide +kernel), List.mem_of_getElem? (i := 574) (by decide +kernel), List.mem_of_getElem? (i := 54) (by decide +kernel), rfl, by decide +kernel⟩
theorem mw_X1_isOnMarketOf : MWV yX1_isOnMarketOf cX1_isOnMarketOf 2 (some .boolean) 1 := ⟨List.mem_of_getElem? (i := 663) (by decide +kernel), List.mem_of_getElem? (i := 664) (by decide +kernel), List.mem_of_getElem? (i := 665) (by decide +kernel), List.mem_of_getElem? (i := 54) (by decide +kernel), by decide +kernel⟩
theorem mw_X1_alarmLevel : MWV yX1_alarmLevel cX1_alarmLevel 1 (some .int) 0 := ⟨List.mem_of_getElem? (i := 644) (by decide +kernel), List.mem_of_getElem? (i := 645) (by decide +kernel), List.mem_of_getElem? (i := 646) (by decide +kernel), List.mem_of_getElem? (i := 54) (by decide +kernel), by decide +kernel⟩
theorem mw_X1_alarmByHarm : MWV yX1_alarmByHarm cX1_alarmByHarm 3 (some .int) 0 := ⟨List.mem_of_getElem? (i := 649) (by decide +kernel), List.mem_of_getElem? (i := 16) (by decide +kernel), List.mem_of_getElem? (i := 650) (by decide +kernel), List.mem_of_getElem? (i := 54) (by decide +kernel), by decide +kernel⟩
theorem mw_X2_init : MWI yX2_init cX2_init 3 2 := ⟨List.mem_of_getElem? (i := 501) (by decide +kernel), List.mem_of_getElem? (i := 502) (by decide +kernel), List.mem_of_getElem? (i := 53) (by decide +kernel), rfl, by decide +kernel⟩
theorem mw_X2_isSuspended : MWV yX2_isSuspended cX2_isSuspended 1 (some .boolean) 0 := ⟨List.mem_of_getElem? (i := 483) (by decide +kernel), List.mem_of_getElem? (i := 484) (by decide +kernel), List.mem_of_getElem? (i := 485) (by decide +kernel), List.mem_of_getElem? (i := 53) (by decide +kernel), by decide +kernel⟩
theorem mw_X2_hasInScope : MWV yX2_hasInScope cX2_hasInScope 2 (some .boolean) 1 := ⟨List.mem_of_getElem? (i := 475) (by decide +kernel), List.mem_of_getElem? (i := 476) (by decide +kernel), List.mem_of_getElem? (i := 477) (by decide +kernel), List.mem_of_getElem? (i := 53) (by decide +kernel), by decide +kernel⟩
theorem mw_X2_isCertificateUpheld : MWV yX2_isCertificateUpheld cX2_isCertificateUpheld 2 (some .boolean) 1 := ⟨List.mem_of_getElem? (i := 479) (by decide +kernel), List.mem_of_getElem? (i := 480) (by decide +kernel), List.mem_of_getElem? (i := 481) (by decide +kernel), List.mem_of_getElem? (i := 53) (by decide +kernel), by decide +kernel⟩
theorem mw_X3_init : MWI yX3_init cX3_init 2 1 := ⟨List.mem_of_getElem? (i := 321) (by decide +kernel), List.mem_of_getElem? (i := 322) (by decide +kernel), List.mem_of_getElem? (i := 51) (by decide +kernel), rfl, by decide +kernel⟩
theorem mw_X3_startNextVersion : MWV yX3_startNextVersion cX3_startNextVersion 2 none 0 := ⟨List.mem_of_getElem? (i := 382) (by decide +kernel), List.mem_of_getElem? (i := 383) (by decide +kernel), List.mem_of_getElem? (i := 384) (by decide +kernel), List.mem_of_getElem? (i := 51) (by decide +kernel), by decide +kernel⟩
theorem mw_X3_endCertificate : MWV yX3_endCertificate cX3_endCertificate 1 none 0 := ⟨List.mem_of_getElem? (i := 386) (by decide +kernel), List.mem_of_getElem? (i := 387) (by decide +kernel), List.mem_of_getElem? (i := 388) (by decide +kernel), List.mem_of_getElem? (i := 51) (by decide +kernel), by decide +kernel⟩
theorem mw_X3_isVisitCounted : MWV yX3_isVisitCounted cX3_isVisitCounted 2 (some .boolean) 1 := ⟨List.mem_of_getElem? (i := 487) (by decide +kernel), List.mem_of_getElem? (i := 488) (by decide +kernel), List.mem_of_getElem? (i := 489) (by decide +kernel), List.mem_of_getElem? (i := 51) (by decide +kernel), by decide +kernel⟩
theorem mw_X3_hazardsBeforeAbove : MWV yX3_hazardsBeforeAbove cX3_hazardsBeforeAbove 2 (some .int) 1 := ⟨List.mem_of_getElem? (i := 442) (by decide +kernel), List.mem_of_getElem? (i := 443) (by decide +kernel), List.mem_of_getElem? (i := 444) (by decide +kernel), List.mem_of_getElem? (i := 51) (by decide +kernel), by decide +kernel⟩
theorem mw_X3_hazardsAfterAbove : MWV yX3_hazardsAfterAbove cX3_hazardsAfterAbove 2 (some .int) 1 := ⟨List.mem_of_getElem? (i := 459) (by decide +kernel), List.mem_of_getElem? (i := 460) (by decide +kernel), List.mem_of_getElem? (i := 461) (by decide +kernel), List.mem_of_getElem? (i := 51) (by decide +kernel), by decide +kernel⟩
theorem mw_X3_hazardsAbove : MWS yX3_hazardsAbove cX3_hazardsAbove 4 (some .int) 2 := ⟨List.mem_of_getElem? (i := 446) (by decide +kernel), List.mem_of_getElem? (i := 447) (by decide +kernel), List.mem_of_getElem? (i := 51) (by decide +kernel), by decide +kernel⟩
theorem mw_X4_init : MWI yX4_init cX4_init 3 2 := ⟨List.mem_of_getElem? (i := 277) (by decide +kernel), List.mem_of_getElem? (i := 278) (by decide +kernel), List.mem_of_getElem? (i := 50) (by decide +kernel), rfl, by decide +kernel⟩
theorem mw_X4_isListedOn : MWV yX4_isListedOn cX4_isListedOn 2 (some .boolean) 1 := ⟨List.mem_of_getElem? (i := 467) (by decide +kernel), List.mem_of_getElem? (i := 468) (by decide +kernel), List.mem_of_getElem? (i := 469) (by decide +kernel), List.mem_of_getElem? (i := 50) (by decide +kernel), by decide +kernel⟩
theorem mw_X5_init : MWI yX5_init cX5_init 1 0 := ⟨List.mem_of_getElem? (i := 59) (by decide +kernel), List.mem_of_getElem? (i := 60) (by decide +kernel), List.mem_of_getElem? (i := 41) (by decide +kernel), rfl, by decide +kernel⟩
theorem mw_X5_act : MWV yX5_act cX5_act 5 (some .int) 4 := ⟨List.mem_of_getElem? (i := 118) (by decide +kernel), List.mem_of_getElem? (i := 119) (by decide +kernel), List.mem_of_getElem? (i := 120) (by decide +kernel), List.mem_of_getElem? (i := 41) (by decide +kernel), by decide +kernel⟩
theorem mw_X5_special : MWV yX5_special cX5_special 6 (some .boolean) 2 := ⟨List.mem_of_getElem? (i := 235) (by decide +kernel), List.mem_of_getElem? (i := 236) (by decide +kernel), List.mem_of_getElem? (i := 237) (by decide +kernel), List.mem_of_getElem? (i := 41) (by decide +kernel), by decide +kernel⟩
theorem mw_X5_standard : MWV yX5_standard cX5_standard 3 (some .int) 2 := ⟨List.mem_of_getElem? (i := 271) (by decide +kernel), List.mem_of_getElem? (i := 272) (by decide +kernel), List.mem_of_getElem? (i := 273) (by decide +kernel), List.mem_of_getElem? (i := 41) (by decide +kernel), by decide +kernel⟩
theorem mw_X5_withdraw : MWV yX5_withdraw cX5_withdraw 5 (some .int) 2 := ⟨List.mem_of_getElem? (i := 296) (by decide +kernel), List.mem_of_getElem? (i := 297) (by decide +kernel), List.mem_of_getElem? (i := 298) (by decide +kernel), List.mem_of_getElem? (i := 41) (by decide +kernel), by decide +kernel⟩
theorem mw_X5_restrict : MWV yX5_restrict cX5_restrict 4 (some .int) 2 := ⟨List.mem_of_getElem? (i := 308) (by decide +kernel), List.mem_of_getElem? (i := 309) (by decide +kernel), List.mem_of_getElem? (i := 310) (by decide +kernel), List.mem_of_getElem? (i := 41) (by decide +kernel), by decide +kernel⟩
theorem mw_X5_product : MWV yX5_product cX5_product 2 (some .int) 1 := ⟨List.mem_of_getElem? (i := 315) (by decide +kernel), List.mem_of_getElem? (i := 316) (by decide +kernel), List.mem_of_getElem? (i := 317) (by decide +kernel), List.mem_of_getElem? (i := 41) (by decide +kernel), by decide +kernel⟩
theorem mw_X5_change : MWV yX5_change cX5_change 4 (some .int) 2 := ⟨List.mem_of_getElem? (i := 373) (by decide +kernel), List.mem_of_getElem? (i := 374) (by decide +kernel), List.mem_of_getElem? (i := 375) (by decide +kernel), List.mem_of_getElem? (i := 41) (by decide +kernel), by decide +kernel⟩
theorem mw_X5_risk : MWV yX5_risk cX5_risk 7 (some .int) 4 := ⟨List.mem_of_getElem? (i := 393) (by decide +kernel), List.mem_of_getElem? (i := 394) (by decide +kernel), List.mem_of_getElem? (i := 395) (by decide +kernel), List.mem_of_getElem? (i := 41) (by decide +kernel), by decide +kernel⟩
theorem mw_X5_follow : MWV yX5_follow cX5_follow 6 (some .int) 3 := ⟨List.mem_of_getElem? (i := 404) (by decide +kernel), List.mem_of_getElem? (i := 405) (by decide +kernel), List.mem_of_getElem? (i := 406) (by decide +kernel), List.mem_of_getElem? (i := 41) (by decide +kernel), by decide +kernel⟩
theorem mw_X5_prove : MWV yX5_prove cX5_prove 4 (some .int) 2 := ⟨List.mem_of_getElem? (i := 411) (by decide +kernel), List.mem_of_getElem? (i := 412) (by decide +kernel), List.mem_of_getElem? (i := 413) (by decide +kernel), List.mem_of_getElem? (i := 41) (by decide +kernel), by decide +kernel⟩
theorem mw_X5_declare : MWV yX5_declare cX5_declare 4 (some .int) 1 := ⟨List.mem_of_getElem? (i := 418) (by decide +kernel), List.mem_of_getElem? (i := 419) (by decide +kernel), List.mem_of_getElem? (i := 420) (by decide +kernel), List.mem_of_getElem? (i := 41) (by decide +kernel), by decide +kernel⟩
theorem mw_X5_body : MWV yX5_body cX5_body 2 (some .int) 1 := ⟨List.mem_of_getElem? (i := 495) (by decide +kernel), List.mem_of_getElem? (i := 496) (by decide +kernel), List.mem_of_getElem? (i := 497) (by decide +kernel), List.mem_of_getElem? (i := 41) (by decide +kernel), by decide +kernel⟩
theorem mw_X5_suspend : MWV yX5_suspend cX5_suspend 5 (some .boolean) 2 := ⟨List.mem_of_getElem? (i := 520) (by decide +kernel), List.mem_of_getElem? (i := 521) (by decide +kernel), List.mem_of_getElem? (i := 522) (by decide +kernel), List.mem_of_getElem? (i := 41) (by decide +kernel), by decide +kernel⟩
theorem mw_X5_certify : MWV yX5_certify cX5_certify 7 (some .int) 3 := ⟨List.mem_of_getElem? (i := 533) (by decide +kernel), List.mem_of_getElem? (i := 534) (by decide +kernel), List.mem_of_getElem? (i := 535) (by decide +kernel), List.mem_of_getElem? (i := 41) (by decide +kernel), by decide +kernel⟩
theorem mw_X5_transfer : MWV yX5_transfer cX5_transfer 6 (some .int) 2 := ⟨List.mem_of_getElem? (i := 546) (by decide +kernel), List.mem_of_getElem? (i := 547) (by decide +kernel), List.mem_of_getElem? (i := 548) (by decide +kernel), List.mem_of_getElem? (i := 41) (by decide +kernel), by decide +kernel⟩
theorem mw_X5_visit : MWV yX5_visit cX5_visit 5 (some .boolean) 2 := ⟨List.mem_of_getElem? (i := 554) (by decide +kernel), List.mem_of_getElem? (i := 555) (by decide +kernel), List.mem_of_getElem? (i := 556) (by decide +kernel), List.mem_of_getElem? (i := 41) (by decide +kernel), by decide +kernel⟩
theorem mw_X5_place : MWV yX5_place cX5_place 4 (some .int) 2 := ⟨List.mem_of_getElem? (i := 562) (by decide +kernel), List.mem_of_getElem? (i := 563) (by decide +kernel), List.mem_of_getElem? (i := 564) (by decide +kernel), List.mem_of_getElem? (i := 41) (by decide +kernel), by decide +kernel⟩
theorem mw_X5_post : MWV yX5_post cX5_post 4 (some .int) 2 := ⟨List.mem_of_getElem? (i := 617) (by decide +kernel), List.mem_of_getElem? (i := 618) (by decide +kernel), List.mem_of_getElem? (i := 619) (by decide +kernel), List.mem_of_getElem? (i := 41) (by decide +kernel), by decide +kernel⟩
theorem mw_X5_sample : MWV yX5_sample cX5_sample 6 (some .int) 4 := ⟨List.mem_of_getElem? (i := 624) (by decide +kernel), List.mem_of_getElem? (i := 625) (by decide +kernel), List.mem_of_getElem? (i := 626) (by decide +kernel), List.mem_of_getElem? (i := 41) (by decide +kernel), by decide +kernel⟩
theorem mw_X5_event : MWV yX5_event cX5_event 5 (some .int) 3 := ⟨List.mem_of_getElem? (i := 637) (by decide +kernel), List.mem_of_getElem? (i := 638) (by decide +kernel), List.mem_of_getElem? (i := 639) (by decide +kernel), List.mem_of_getElem? (i := 41) (by decide +kernel), by decide +kernel⟩
theorem mw_X5_recall : MWV yX5_recall cX5_recall 7 (some .int) 3 := ⟨List.mem_of_getElem? (i := 658) (by decide +kernel), List.mem_of_getElem? (i := 659) (by decide +kernel), List.mem_of_getElem? (i := 660) (by decide +kernel), List.mem_of_getElem? (i := 41) (by decide +kernel), by decide +kernel⟩
theorem mw_X5_ban : MWV yX5_ban cX5_ban 5 (some .int) 3 := ⟨List.mem_of_getElem? (i := 670) (by decide +kernel), List.mem_of_getElem? (i := 671) (by decide +kernel), List.mem_of_getElem? (i := 672) (by decide +kernel), List.mem_of_getElem? (i := 41) (by decide +kernel), by decide +kernel⟩
theorem mw_X5_pass : MWV yX5_pass cX5_pass 2 (some .int) 1 := ⟨List.mem_of_getElem? (i := 678) (by decide +kernel), List.mem_of_getElem? (i := 679) (by decide +kernel), List.mem_of_getElem? (i := 680) (by decide +kernel), List.mem_of_getElem? (i := 41) (by decide +kernel), by decide +kernel⟩
theorem mw_X5_day : MWV yX5_day cX5_day 1 (some .int) 0 := ⟨List.mem_of_getElem? (i := 109) (by decide +kernel), List.mem_of_getElem? (i := 110) (by decide +kernel), List.mem_of_getElem? (i := 111) (by decide +kernel), List.mem_of_getElem? (i := 41) (by decide +kernel), by decide +kernel⟩
theorem mw_X5_applies : MWV yX5_applies cX5_applies 3 (some .boolean) 2 := ⟨List.mem_of_getElem? (i := 686) (by decide +kernel), List.mem_of_getElem? (i := 687) (by decide +kernel), List.mem_of_getElem? (i := 688) (by decide +kernel), List.mem_of_getElem? (i := 41) (by decide +kernel), by decide +kernel⟩
theorem mw_X5_demands : MWV yX5_demands cX5_demands 5 (some .int) 2 := ⟨List.mem_of_getElem? (i := 693) (by decide +kernel), List.mem_of_getElem? (i := 694) (by decide +kernel), List.mem_of_getElem? (i := 695) (by decide +kernel), List.mem_of_getElem? (i := 41) (by decide +kernel), by decide +kernel⟩
theorem mw_X5_way : MWV yX5_way cX5_way 3 (some .int) 1 := ⟨List.mem_of_getElem? (i := 700) (by decide +kernel), List.mem_of_getElem? (i := 701) (by decide +kernel), List.mem_of_getElem? (i := 702) (by decide +kernel), List.mem_of_getElem? (i := 41) (by decide +kernel), by decide +kernel⟩
theorem mw_X5_wanting : MWV yX5_wanting cX5_wanting 2 (some .int) 1 := ⟨List.mem_of_getElem? (i := 707) (by decide +kernel), List.mem_of_getElem? (i := 708) (by decide +kernel), List.mem_of_getElem? (i := 709) (by decide +kernel), List.mem_of_getElem? (i := 41) (by decide +kernel), by decide +kernel⟩
theorem mw_X5_productOf : MWV yX5_productOf cX5_productOf 4 (some .int) 2 := ⟨List.mem_of_getElem? (i := 714) (by decide +kernel), List.mem_of_getElem? (i := 715) (by decide +kernel), List.mem_of_getElem? (i := 716) (by decide +kernel), List.mem_of_getElem? (i := 41) (by decide +kernel), by decide +kernel⟩
theorem mw_X5_riskOf : MWV yX5_riskOf cX5_riskOf 5 (some .int) 3 := ⟨List.mem_of_getElem? (i := 726) (by decide +kernel), List.mem_of_getElem? (i := 727) (by decide +kernel), List.mem_of_getElem? (i := 728) (by decide +kernel), List.mem_of_getElem? (i := 41) (by decide +kernel), by decide +kernel⟩
theorem mw_X5_batchOf : MWV yX5_batchOf cX5_batchOf 4 (some .int) 2 := ⟨List.mem_of_getElem? (i := 733) (by decide +kernel), List.mem_of_getElem? (i := 734) (by decide +kernel), List.mem_of_getElem? (i := 735) (by decide +kernel), List.mem_of_getElem? (i := 41) (by decide +kernel), by decide +kernel⟩
theorem mw_X5_wantingAnew : MWV yX5_wantingAnew cX5_wantingAnew 2 (some .int) 1 := ⟨List.mem_of_getElem? (i := 740) (by decide +kernel), List.mem_of_getElem? (i := 741) (by decide +kernel), List.mem_of_getElem? (i := 742) (by decide +kernel), List.mem_of_getElem? (i := 41) (by decide +kernel), by decide +kernel⟩
theorem mw_X5_actAt : MWV yX5_actAt cX5_actAt 3 (some (.object "Conformary$Act")) 1 := ⟨List.mem_of_getElem? (i := 240) (by decide +kernel), List.mem_of_getElem? (i := 1) (by decide +kernel), List.mem_of_getElem? (i := 241) (by decide +kernel), List.mem_of_getElem? (i := 41) (by decide +kernel), by decide +kernel⟩
theorem mw_X5_standardAt : MWV yX5_standardAt cX5_standardAt 3 (some (.object "Conformary$Standard")) 1 := ⟨List.mem_of_getElem? (i := 301) (by decide +kernel), List.mem_of_getElem? (i := 3) (by decide +kernel), List.mem_of_getElem? (i := 302) (by decide +kernel), List.mem_of_getElem? (i := 41) (by decide +kernel), by decide +kernel⟩
theorem mw_X5_productAt : MWV yX5_productAt cX5_productAt 3 (some (.object "Conformary$Product")) 1 := ⟨List.mem_of_getElem? (i := 378) (by decide +kernel), List.mem_of_getElem? (i := 4) (by decide +kernel), List.mem_of_getElem? (i := 379) (by decide +kernel), List.mem_of_getElem? (i := 41) (by decide +kernel), by decide +kernel⟩
theorem mw_X5_bodyAt : MWV yX5_bodyAt cX5_bodyAt 3 (some (.object "Conformary$Body")) 1 := ⟨List.mem_of_getElem? (i := 525) (by decide +kernel), List.mem_of_getElem? (i := 12) (by decide +kernel), List.mem_of_getElem? (i := 526) (by decide +kernel), List.mem_of_getElem? (i := 41) (by decide +kernel), by decide +kernel⟩
theorem mw_X5_batchAt : MWV yX5_batchAt cX5_batchAt 3 (some (.object "Conformary$Batch")) 1 := ⟨List.mem_of_getElem? (i := 629) (by decide +kernel), List.mem_of_getElem? (i := 15) (by decide +kernel), List.mem_of_getElem? (i := 630) (by decide +kernel), List.mem_of_getElem? (i := 41) (by decide +kernel), by decide +kernel⟩
theorem mw_X5_checkHazard : MWS yX5_checkHazard cX5_checkHazard 1 none 1 := ⟨List.mem_of_getElem? (i := 397) (by decide +kernel), List.mem_of_getElem? (i := 398) (by decide +kernel), List.mem_of_getElem? (i := 41) (by decide +kernel), by decide +kernel⟩
theorem mw_X5_checkRange : MWS yX5_checkRange cX5_checkRange 3 none 3 := ⟨List.mem_of_getElem? (i := 122) (by decide +kernel), List.mem_of_getElem? (i := 123) (by decide +kernel), List.mem_of_getElem? (i := 41) (by decide +kernel), by decide +kernel⟩
theorem mw_X5_checkMayCertify : MWV yX5_checkMayCertify cX5_checkMayCertify 3 none 2 := ⟨List.mem_of_getElem? (i := 538) (by decide +kernel), List.mem_of_getElem? (i := 13) (by decide +kernel), List.mem_of_getElem? (i := 539) (by decide +kernel), List.mem_of_getElem? (i := 41) (by decide +kernel), by decide +kernel⟩
theorem mw_X5_hasBit : MWS yX5_hasBit cX5_hasBit 2 (some .boolean) 2 := ⟨List.mem_of_getElem? (i := 264) (by decide +kernel), List.mem_of_getElem? (i := 265) (by decide +kernel), List.mem_of_getElem? (i := 41) (by decide +kernel), by decide +kernel⟩
theorem mw_X5_actsMoreSpecialThan : MWV yX5_actsMoreSpecialThan cX5_actsMoreSpecialThan 6 (some .int) 1 := ⟨List.mem_of_getElem? (i := 261) (by decide +kernel), List.mem_of_getElem? (i := 2) (by decide +kernel), List.mem_of_getElem? (i := 262) (by decide +kernel), List.mem_of_getElem? (i := 41) (by decide +kernel), by decide +kernel⟩
theorem mw_X5_actsForByThemselves : MWV yX5_actsForByThemselves cX5_actsForByThemselves 5 (some .int) 1 := ⟨List.mem_of_getElem? (i := 435) (by decide +kernel), List.mem_of_getElem? (i := 8) (by decide +kernel), List.mem_of_getElem? (i := 436) (by decide +kernel), List.mem_of_getElem? (i := 41) (by decide +kernel), by decide +kernel⟩
theorem mw_X5_actsApplyingTo : MWV yX5_actsApplyingTo cX5_actsApplyingTo 6 (some .int) 1 := ⟨List.mem_of_getElem? (i := 431) (by decide +kernel), List.mem_of_getElem? (i := 7) (by decide +kernel), List.mem_of_getElem? (i := 432) (by decide +kernel), List.mem_of_getElem? (i := 41) (by decide +kernel), by decide +kernel⟩
theorem mw_X5_hazardsDemanded : MWV yX5_hazardsDemanded cX5_hazardsDemanded 6 (some .int) 1 := ⟨List.mem_of_getElem? (i := 427) (by decide +kernel), List.mem_of_getElem? (i := 6) (by decide +kernel), List.mem_of_getElem? (i := 428) (by decide +kernel), List.mem_of_getElem? (i := 41) (by decide +kernel), by decide +kernel⟩
theorem mw_X5_hazardsKept : MWV yX5_hazardsKept cX5_hazardsKept 6 (some .int) 2 := ⟨List.mem_of_getElem? (i := 464) (by decide +kernel), List.mem_of_getElem? (i := 10) (by decide +kernel), List.mem_of_getElem? (i := 465) (by decide +kernel), List.mem_of_getElem? (i := 41) (by decide +kernel), by decide +kernel⟩
theorem mw_X5_wayOf : MWV yX5_wayOf cX5_wayOf 3 (some .int) 2 := ⟨List.mem_of_getElem? (i := 450) (by decide +kernel), List.mem_of_getElem? (i := 9) (by decide +kernel), List.mem_of_getElem? (i := 451) (by decide +kernel), List.mem_of_getElem? (i := 41) (by decide +kernel), by decide +kernel⟩
theorem mw_X5_firstLack : MWV yX5_firstLack cX5_firstLack 4 (some .int) 1 := ⟨List.mem_of_getElem? (i := 423) (by decide +kernel), List.mem_of_getElem? (i := 5) (by decide +kernel), List.mem_of_getElem? (i := 424) (by decide +kernel), List.mem_of_getElem? (i := 41) (by decide +kernel), by decide +kernel⟩
theorem mw_X5_holdsCertificate : MWV yX5_holdsCertificate cX5_holdsCertificate 3 (some .boolean) 1 := ⟨List.mem_of_getElem? (i := 472) (by decide +kernel), List.mem_of_getElem? (i := 11) (by decide +kernel), List.mem_of_getElem? (i := 473) (by decide +kernel), List.mem_of_getElem? (i := 41) (by decide +kernel), by decide +kernel⟩
theorem mw_X5_addBatch : MWV yX5_addBatch cX5_addBatch 4 (some .int) 3 := ⟨List.mem_of_getElem? (i := 568) (by decide +kernel), List.mem_of_getElem? (i := 14) (by decide +kernel), List.mem_of_getElem? (i := 569) (by decide +kernel), List.mem_of_getElem? (i := 41) (by decide +kernel), by decide +kernel⟩
theorem mw_X5_unitsOnMarket : MWV yX5_unitsOnMarket cX5_unitsOnMarket 7 (some .int) 1 := ⟨List.mem_of_getElem? (i := 719) (by decide +kernel), List.mem_of_getElem? (i := 17) (by decide +kernel), List.mem_of_getElem? (i := 720) (by decide +kernel), List.mem_of_getElem? (i := 41) (by decide +kernel), by decide +kernel⟩
theorem mw_X6_init : MWI yX6_init cX6_init 1 0 := ⟨List.mem_of_getElem? (i := 746) (by decide +kernel), List.mem_of_getElem? (i := 747) (by decide +kernel), List.mem_of_getElem? (i := 42) (by decide +kernel), rfl, by decide +kernel⟩
theorem mw_X6_thrown : MWV yX6_thrown cX6_thrown 1 (some .int) 0 := ⟨List.mem_of_getElem? (i := 866) (by decide +kernel), List.mem_of_getElem? (i := 867) (by decide +kernel), List.mem_of_getElem? (i := 868) (by decide +kernel), List.mem_of_getElem? (i := 42) (by decide +kernel), by decide +kernel⟩
theorem mw_X6_in : MWS yX6_in cX6_in 3 (some .boolean) 3 := ⟨List.mem_of_getElem? (i := 874) (by decide +kernel), List.mem_of_getElem? (i := 875) (by decide +kernel), List.mem_of_getElem? (i := 42) (by decide +kernel), by decide +kernel⟩
theorem mw_X6_refused : MWV yX6_refused cX6_refused 2 (some .boolean) 1 := ⟨List.mem_of_getElem? (i := 878) (by decide +kernel), List.mem_of_getElem? (i := 18) (by decide +kernel), List.mem_of_getElem? (i := 879) (by decide +kernel), List.mem_of_getElem? (i := 42) (by decide +kernel), by decide +kernel⟩
theorem mw_X6_isAct : MWV yX6_isAct cX6_isAct 2 (some .boolean) 1 := ⟨List.mem_of_getElem? (i := 886) (by decide +kernel), List.mem_of_getElem? (i := 19) (by decide +kernel), List.mem_of_getElem? (i := 887) (by decide +kernel), List.mem_of_getElem? (i := 42) (by decide +kernel), by decide +kernel⟩
theorem mw_X6_isStandard : MWV yX6_isStandard cX6_isStandard 2 (some .boolean) 1 := ⟨List.mem_of_getElem? (i := 903) (by decide +kernel), List.mem_of_getElem? (i := 21) (by decide +kernel), List.mem_of_getElem? (i := 904) (by decide +kernel), List.mem_of_getElem? (i := 42) (by decide +kernel), by decide +kernel⟩
theorem mw_X6_isProduct : MWV yX6_isProduct cX6_isProduct 2 (some .boolean) 1 := ⟨List.mem_of_getElem? (i := 919) (by decide +kernel), List.mem_of_getElem? (i := 22) (by decide +kernel), List.mem_of_getElem? (i := 920) (by decide +kernel), List.mem_of_getElem? (i := 42) (by decide +kernel), by decide +kernel⟩
theorem mw_X6_isBody : MWV yX6_isBody cX6_isBody 2 (some .boolean) 1 := ⟨List.mem_of_getElem? (i := 998) (by decide +kernel), List.mem_of_getElem? (i := 35) (by decide +kernel), List.mem_of_getElem? (i := 999) (by decide +kernel), List.mem_of_getElem? (i := 42) (by decide +kernel), by decide +kernel⟩
theorem mw_X6_isBatch : MWV yX6_isBatch cX6_isBatch 2 (some .boolean) 1 := ⟨List.mem_of_getElem? (i := 1031) (by decide +kernel), List.mem_of_getElem? (i := 37) (by decide +kernel), List.mem_of_getElem? (i := 1032) (by decide +kernel), List.mem_of_getElem? (i := 42) (by decide +kernel), by decide +kernel⟩
theorem mw_X6_bits : MWS yX6_bits cX6_bits 3 (some .int) 1 := ⟨List.mem_of_getElem? (i := 946) (by decide +kernel), List.mem_of_getElem? (i := 947) (by decide +kernel), List.mem_of_getElem? (i := 42) (by decide +kernel), by decide +kernel⟩
theorem mw_X6_act : MWV yX6_act cX6_act 6 (some .int) 4 := ⟨List.mem_of_getElem? (i := 870) (by decide +kernel), List.mem_of_getElem? (i := 871) (by decide +kernel), List.mem_of_getElem? (i := 872) (by decide +kernel), List.mem_of_getElem? (i := 42) (by decide +kernel), by decide +kernel⟩
theorem mw_X6_isAbove : MWV yX6_isAbove cX6_isAbove 6 (some .boolean) 2 := ⟨List.mem_of_getElem? (i := 890) (by decide +kernel), List.mem_of_getElem? (i := 20) (by decide +kernel), List.mem_of_getElem? (i := 891) (by decide +kernel), List.mem_of_getElem? (i := 42) (by decide +kernel), by decide +kernel⟩
theorem mw_X6_special : MWV yX6_special cX6_special 5 (some .boolean) 2 := ⟨List.mem_of_getElem? (i := 881) (by decide +kernel), List.mem_of_getElem? (i := 882) (by decide +kernel), List.mem_of_getElem? (i := 883) (by decide +kernel), List.mem_of_getElem? (i := 42) (by decide +kernel), by decide +kernel⟩
theorem mw_X6_standard : MWV yX6_standard cX6_standard 3 (some .int) 2 := ⟨List.mem_of_getElem? (i := 893) (by decide +kernel), List.mem_of_getElem? (i := 894) (by decide +kernel), List.mem_of_getElem? (i := 895) (by decide +kernel), List.mem_of_getElem? (i := 42) (by decide +kernel), by decide +kernel⟩
theorem mw_X6_withdraw : MWV yX6_withdraw cX6_withdraw 4 (some .int) 2 := ⟨List.mem_of_getElem? (i := 898) (by decide +kernel), List.mem_of_getElem? (i := 899) (by decide +kernel), List.mem_of_getElem? (i := 900) (by decide +kernel), List.mem_of_getElem? (i := 42) (by decide +kernel), by decide +kernel⟩
theorem mw_X6_restrict : MWV yX6_restrict cX6_restrict 3 (some .int) 2 := ⟨List.mem_of_getElem? (i := 906) (by decide +kernel), List.mem_of_getElem? (i := 907) (by decide +kernel), List.mem_of_getElem? (i := 908) (by decide +kernel), List.mem_of_getElem? (i := 42) (by decide +kernel), by decide +kernel⟩
theorem mw_X6_product : MWV yX6_product cX6_product 2 (some .int) 1 := ⟨List.mem_of_getElem? (i := 910) (by decide +kernel), List.mem_of_getElem? (i := 911) (by decide +kernel), List.mem_of_getElem? (i := 912) (by decide +kernel), List.mem_of_getElem? (i := 42) (by decide +kernel), by decide +kernel⟩
theorem mw_X6_nextVersion : MWV yX6_nextVersion cX6_nextVersion 3 none 1 := ⟨List.mem_of_getElem? (i := 923) (by decide +kernel), List.mem_of_getElem? (i := 23) (by decide +kernel), List.mem_of_getElem? (i := 924) (by decide +kernel), List.mem_of_getElem? (i := 42) (by decide +kernel), by decide +kernel⟩
theorem mw_X6_change : MWV yX6_change cX6_change 3 (some .int) 2 := ⟨List.mem_of_getElem? (i := 914) (by decide +kernel), List.mem_of_getElem? (i := 915) (by decide +kernel), List.mem_of_getElem? (i := 916) (by decide +kernel), List.mem_of_getElem? (i := 42) (by decide +kernel), by decide +kernel⟩
theorem mw_X6_risk : MWV yX6_risk cX6_risk 7 (some .int) 4 := ⟨List.mem_of_getElem? (i := 926) (by decide +kernel), List.mem_of_getElem? (i := 927) (by decide +kernel), List.mem_of_getElem? (i := 928) (by decide +kernel), List.mem_of_getElem? (i := 42) (by decide +kernel), by decide +kernel⟩
theorem mw_X6_follow : MWV yX6_follow cX6_follow 6 (some .int) 3 := ⟨List.mem_of_getElem? (i := 930) (by decide +kernel), List.mem_of_getElem? (i := 931) (by decide +kernel), List.mem_of_getElem? (i := 932) (by decide +kernel), List.mem_of_getElem? (i := 42) (by decide +kernel), by decide +kernel⟩
theorem mw_X6_prove : MWV yX6_prove cX6_prove 3 (some .int) 2 := ⟨List.mem_of_getElem? (i := 934) (by decide +kernel), List.mem_of_getElem? (i := 935) (by decide +kernel), List.mem_of_getElem? (i := 936) (by decide +kernel), List.mem_of_getElem? (i := 42) (by decide +kernel), by decide +kernel⟩
theorem mw_X6_isFor : MWV yX6_isFor cX6_isFor 3 (some .boolean) 2 := ⟨List.mem_of_getElem? (i := 958) (by decide +kernel), List.mem_of_getElem? (i := 27) (by decide +kernel), List.mem_of_getElem? (i := 959) (by decide +kernel), List.mem_of_getElem? (i := 42) (by decide +kernel), by decide +kernel⟩
theorem mw_X6_doesApply : MWV yX6_doesApply cX6_doesApply 5 (some .boolean) 2 := ⟨List.mem_of_getElem? (i := 954) (by decide +kernel), List.mem_of_getElem? (i := 26) (by decide +kernel), List.mem_of_getElem? (i := 955) (by decide +kernel), List.mem_of_getElem? (i := 42) (by decide +kernel), by decide +kernel⟩
theorem mw_X6_applying : MWV yX6_applying cX6_applying 4 (some .int) 1 := ⟨List.mem_of_getElem? (i := 986) (by decide +kernel), List.mem_of_getElem? (i := 34) (by decide +kernel), List.mem_of_getElem? (i := 987) (by decide +kernel), List.mem_of_getElem? (i := 42) (by decide +kernel), by decide +kernel⟩
theorem mw_X6_demandsOf : MWV yX6_demandsOf cX6_demandsOf 4 (some .int) 1 := ⟨List.mem_of_getElem? (i := 950) (by decide +kernel), List.mem_of_getElem? (i := 25) (by decide +kernel), List.mem_of_getElem? (i := 951) (by decide +kernel), List.mem_of_getElem? (i := 42) (by decide +kernel), by decide +kernel⟩
theorem mw_X6_shown : MWV yX6_shown cX6_shown 4 (some .int) 1 := ⟨List.mem_of_getElem? (i := 970) (by decide +kernel), List.mem_of_getElem? (i := 30) (by decide +kernel), List.mem_of_getElem? (i := 971) (by decide +kernel), List.mem_of_getElem? (i := 42) (by decide +kernel), by decide +kernel⟩
theorem mw_X6_lowOf : MWV yX6_lowOf cX6_lowOf 4 (some .int) 1 := ⟨List.mem_of_getElem? (i := 962) (by decide +kernel), List.mem_of_getElem? (i := 28) (by decide +kernel), List.mem_of_getElem? (i := 963) (by decide +kernel), List.mem_of_getElem? (i := 42) (by decide +kernel), by decide +kernel⟩
theorem mw_X6_keptOf : MWV yX6_keptOf cX6_keptOf 2 (some .int) 1 := ⟨List.mem_of_getElem? (i := 966) (by decide +kernel), List.mem_of_getElem? (i := 29) (by decide +kernel), List.mem_of_getElem? (i := 967) (by decide +kernel), List.mem_of_getElem? (i := 42) (by decide +kernel), by decide +kernel⟩
theorem mw_X6_wayOf : MWV yX6_wayOf cX6_wayOf 6 (some .int) 1 := ⟨List.mem_of_getElem? (i := 974) (by decide +kernel), List.mem_of_getElem? (i := 31) (by decide +kernel), List.mem_of_getElem? (i := 975) (by decide +kernel), List.mem_of_getElem? (i := 42) (by decide +kernel), by decide +kernel⟩
theorem mw_X6_hasScope : MWV yX6_hasScope cX6_hasScope 3 (some .boolean) 2 := ⟨List.mem_of_getElem? (i := 982) (by decide +kernel), List.mem_of_getElem? (i := 33) (by decide +kernel), List.mem_of_getElem? (i := 983) (by decide +kernel), List.mem_of_getElem? (i := 42) (by decide +kernel), by decide +kernel⟩
theorem mw_X6_holds : MWV yX6_holds cX6_holds 3 (some .boolean) 1 := ⟨List.mem_of_getElem? (i := 978) (by decide +kernel), List.mem_of_getElem? (i := 32) (by decide +kernel), List.mem_of_getElem? (i := 979) (by decide +kernel), List.mem_of_getElem? (i := 42) (by decide +kernel), by decide +kernel⟩
theorem mw_X6_wantingOf : MWV yX6_wantingOf cX6_wantingOf 4 (some .int) 1 := ⟨List.mem_of_getElem? (i := 943) (by decide +kernel), List.mem_of_getElem? (i := 24) (by decide +kernel), List.mem_of_getElem? (i := 944) (by decide +kernel), List.mem_of_getElem? (i := 42) (by decide +kernel), by decide +kernel⟩
theorem mw_X6_declare : MWV yX6_declare cX6_declare 3 (some .int) 1 := ⟨List.mem_of_getElem? (i := 938) (by decide +kernel), List.mem_of_getElem? (i := 939) (by decide +kernel), List.mem_of_getElem? (i := 940) (by decide +kernel), List.mem_of_getElem? (i := 42) (by decide +kernel), by decide +kernel⟩
theorem mw_X6_body : MWV yX6_body cX6_body 2 (some .int) 1 := ⟨List.mem_of_getElem? (i := 989) (by decide +kernel), List.mem_of_getElem? (i := 990) (by decide +kernel), List.mem_of_getElem? (i := 991) (by decide +kernel), List.mem_of_getElem? (i := 42) (by decide +kernel), by decide +kernel⟩
theorem mw_X6_suspend : MWV yX6_suspend cX6_suspend 4 (some .boolean) 2 := ⟨List.mem_of_getElem? (i := 993) (by decide +kernel), List.mem_of_getElem? (i := 994) (by decide +kernel), List.mem_of_getElem? (i := 995) (by decide +kernel), List.mem_of_getElem? (i := 42) (by decide +kernel), by decide +kernel⟩
theorem mw_X6_certify : MWV yX6_certify cX6_certify 7 (some .int) 3 := ⟨List.mem_of_getElem? (i := 1001) (by decide +kernel), List.mem_of_getElem? (i := 1002) (by decide +kernel), List.mem_of_getElem? (i := 1003) (by decide +kernel), List.mem_of_getElem? (i := 42) (by decide +kernel), by decide +kernel⟩
theorem mw_X6_transfer : MWV yX6_transfer cX6_transfer 6 (some .int) 2 := ⟨List.mem_of_getElem? (i := 1005) (by decide +kernel), List.mem_of_getElem? (i := 1006) (by decide +kernel), List.mem_of_getElem? (i := 1007) (by decide +kernel), List.mem_of_getElem? (i := 42) (by decide +kernel), by decide +kernel⟩
theorem mw_X6_visit : MWV yX6_visit cX6_visit 4 (some .boolean) 2 := ⟨List.mem_of_getElem? (i := 1009) (by decide +kernel), List.mem_of_getElem? (i := 1010) (by decide +kernel), List.mem_of_getElem? (i := 1011) (by decide +kernel), List.mem_of_getElem? (i := 42) (by decide +kernel), by decide +kernel⟩
theorem mw_X6_arrives : MWV yX6_arrives cX6_arrives 4 (some .int) 3 := ⟨List.mem_of_getElem? (i := 1018) (by decide +kernel), List.mem_of_getElem? (i := 36) (by decide +kernel), List.mem_of_getElem? (i := 1019) (by decide +kernel), List.mem_of_getElem? (i := 42) (by decide +kernel), by decide +kernel⟩
theorem mw_X6_place : MWV yX6_place cX6_place 5 (some .int) 2 := ⟨List.mem_of_getElem? (i := 1013) (by decide +kernel), List.mem_of_getElem? (i := 1014) (by decide +kernel), List.mem_of_getElem? (i := 1015) (by decide +kernel), List.mem_of_getElem? (i := 42) (by decide +kernel), by decide +kernel⟩
theorem mw_X6_post : MWV yX6_post cX6_post 4 (some .int) 2 := ⟨List.mem_of_getElem? (i := 1021) (by decide +kernel), List.mem_of_getElem? (i := 1022) (by decide +kernel), List.mem_of_getElem? (i := 1023) (by decide +kernel), List.mem_of_getElem? (i := 42) (by decide +kernel), by decide +kernel⟩
theorem mw_X6_sample : MWV yX6_sample cX6_sample 6 (some .int) 4 := ⟨List.mem_of_getElem? (i := 1025) (by decide +kernel), List.mem_of_getElem? (i := 1026) (by decide +kernel), List.mem_of_getElem? (i := 1027) (by decide +kernel), List.mem_of_getElem? (i := 42) (by decide +kernel), by decide +kernel⟩
theorem mw_X6_levelOf : MWV yX6_levelOf cX6_levelOf 3 (some .int) 1 := ⟨List.mem_of_getElem? (i := 1039) (by decide +kernel), List.mem_of_getElem? (i := 38) (by decide +kernel), List.mem_of_getElem? (i := 1040) (by decide +kernel), List.mem_of_getElem? (i := 42) (by decide +kernel), by decide +kernel⟩
theorem mw_X6_event : MWV yX6_event cX6_event 4 (some .int) 3 := ⟨List.mem_of_getElem? (i := 1034) (by decide +kernel), List.mem_of_getElem? (i := 1035) (by decide +kernel), List.mem_of_getElem? (i := 1036) (by decide +kernel), List.mem_of_getElem? (i := 42) (by decide +kernel), by decide +kernel⟩
theorem mw_X6_recall : MWV yX6_recall cX6_recall 8 (some .int) 3 := ⟨List.mem_of_getElem? (i := 1042) (by decide +kernel), List.mem_of_getElem? (i := 1043) (by decide +kernel), List.mem_of_getElem? (i := 1044) (by decide +kernel), List.mem_of_getElem? (i := 42) (by decide +kernel), by decide +kernel⟩
theorem mw_X6_ban : MWV yX6_ban cX6_ban 5 (some .int) 3 := ⟨List.mem_of_getElem? (i := 1046) (by decide +kernel), List.mem_of_getElem? (i := 1047) (by decide +kernel), List.mem_of_getElem? (i := 1048) (by decide +kernel), List.mem_of_getElem? (i := 42) (by decide +kernel), by decide +kernel⟩
theorem mw_X6_pass : MWV yX6_pass cX6_pass 2 (some .int) 1 := ⟨List.mem_of_getElem? (i := 1050) (by decide +kernel), List.mem_of_getElem? (i := 1051) (by decide +kernel), List.mem_of_getElem? (i := 1052) (by decide +kernel), List.mem_of_getElem? (i := 42) (by decide +kernel), by decide +kernel⟩
theorem mw_X6_day : MWV yX6_day cX6_day 1 (some .int) 0 := ⟨List.mem_of_getElem? (i := 1054) (by decide +kernel), List.mem_of_getElem? (i := 1055) (by decide +kernel), List.mem_of_getElem? (i := 1056) (by decide +kernel), List.mem_of_getElem? (i := 42) (by decide +kernel), by decide +kernel⟩
theorem mw_X6_applies : MWV yX6_applies cX6_applies 3 (some .boolean) 2 := ⟨List.mem_of_getElem? (i := 1058) (by decide +kernel), List.mem_of_getElem? (i := 1059) (by decide +kernel), List.mem_of_getElem? (i := 1060) (by decide +kernel), List.mem_of_getElem? (i := 42) (by decide +kernel), by decide +kernel⟩
theorem mw_X6_demands : MWV yX6_demands cX6_demands 3 (some .int) 2 := ⟨List.mem_of_getElem? (i := 1062) (by decide +kernel), List.mem_of_getElem? (i := 1063) (by decide +kernel), List.mem_of_getElem? (i := 1064) (by decide +kernel), List.mem_of_getElem? (i := 42) (by decide +kernel), by decide +kernel⟩
theorem mw_X6_way : MWV yX6_way cX6_way 2 (some .int) 1 := ⟨List.mem_of_getElem? (i := 1066) (by decide +kernel), List.mem_of_getElem? (i := 1067) (by decide +kernel), List.mem_of_getElem? (i := 1068) (by decide +kernel), List.mem_of_getElem? (i := 42) (by decide +kernel), by decide +kernel⟩
theorem mw_X6_wanting : MWV yX6_wanting cX6_wanting 2 (some .int) 1 := ⟨List.mem_of_getElem? (i := 1070) (by decide +kernel), List.mem_of_getElem? (i := 1071) (by decide +kernel), List.mem_of_getElem? (i := 1072) (by decide +kernel), List.mem_of_getElem? (i := 42) (by decide +kernel), by decide +kernel⟩
theorem mw_X6_onMarket : MWV yX6_onMarket cX6_onMarket 4 (some .int) 1 := ⟨List.mem_of_getElem? (i := 1079) (by decide +kernel), List.mem_of_getElem? (i := 39) (by decide +kernel), List.mem_of_getElem? (i := 1080) (by decide +kernel), List.mem_of_getElem? (i := 42) (by decide +kernel), by decide +kernel⟩
theorem mw_X6_productOf : MWV yX6_productOf cX6_productOf 3 (some .int) 2 := ⟨List.mem_of_getElem? (i := 1074) (by decide +kernel), List.mem_of_getElem? (i := 1075) (by decide +kernel), List.mem_of_getElem? (i := 1076) (by decide +kernel), List.mem_of_getElem? (i := 42) (by decide +kernel), by decide +kernel⟩
theorem mw_X6_riskOf : MWV yX6_riskOf cX6_riskOf 4 (some .int) 3 := ⟨List.mem_of_getElem? (i := 1082) (by decide +kernel), List.mem_of_getElem? (i := 1083) (by decide +kernel), List.mem_of_getElem? (i := 1084) (by decide +kernel), List.mem_of_getElem? (i := 42) (by decide +kernel), by decide +kernel⟩
theorem mw_X6_batchOf : MWV yX6_batchOf cX6_batchOf 3 (some .int) 2 := ⟨List.mem_of_getElem? (i := 1086) (by decide +kernel), List.mem_of_getElem? (i := 1087) (by decide +kernel), List.mem_of_getElem? (i := 1088) (by decide +kernel), List.mem_of_getElem? (i := 42) (by decide +kernel), by decide +kernel⟩
theorem mw_X6_wantingAnew : MWV yX6_wantingAnew cX6_wantingAnew 2 (some .int) 1 := ⟨List.mem_of_getElem? (i := 1090) (by decide +kernel), List.mem_of_getElem? (i := 1091) (by decide +kernel), List.mem_of_getElem? (i := 1092) (by decide +kernel), List.mem_of_getElem? (i := 42) (by decide +kernel), by decide +kernel⟩
theorem mw_L_act : MWH yL_act cL_act 7 (some .int) [(0, 14, 17, 13), (0, 14, 21, 15)] 6 := ⟨List.mem_of_getElem? (i := 113) (by decide +kernel), List.mem_of_getElem? (i := 114) (by decide +kernel), List.mem_of_getElem? (i := 40) (by decide +kernel), by decide +kernel⟩
theorem mw_L_special : MWH yL_special cL_special 5 (some .int) [(0, 17, 20, 21), (0, 17, 24, 13), (0, 17, 28, 15)] 4 := ⟨List.mem_of_getElem? (i := 231) (by decide +kernel), List.mem_of_getElem? (i := 232) (by decide +kernel), List.mem_of_getElem? (i := 40) (by decide +kernel), by decide +kernel⟩
theorem mw_L_standard : MWH yL_standard cL_standard 5 (some .int) [(0, 10, 13, 13), (0, 10, 17, 15)] 4 := ⟨List.mem_of_getElem? (i := 268) (by decide +kernel), List.mem_of_getElem? (i := 269) (by decide +kernel), List.mem_of_getElem? (i := 40) (by decide +kernel), by decide +kernel⟩
theorem mw_L_withdraw : MWH yL_withdraw cL_withdraw 5 (some .int) [(0, 10, 13, 21), (0, 10, 17, 13)] 4 := ⟨List.mem_of_getElem? (i := 293) (by decide +kernel), List.mem_of_getElem? (i := 294) (by decide +kernel), List.mem_of_getElem? (i := 40) (by decide +kernel), by decide +kernel⟩
theorem mw_L_restrict : MWH yL_restrict cL_restrict 5 (some .int) [(0, 10, 13, 21), (0, 10, 17, 13)] 4 := ⟨List.mem_of_getElem? (i := 305) (by decide +kernel), List.mem_of_getElem? (i := 306) (by decide +kernel), List.mem_of_getElem? (i := 40) (by decide +kernel), by decide +kernel⟩
theorem mw_L_product : MWH yL_product cL_product 4 (some .int) [(0, 9, 12, 13), (0, 9, 15, 15)] 3 := ⟨List.mem_of_getElem? (i := 312) (by decide +kernel), List.mem_of_getElem? (i := 313) (by decide +kernel), List.mem_of_getElem? (i := 40) (by decide +kernel), by decide +kernel⟩
theorem mw_L_change : MWH yL_change cL_change 5 (some .int) [(0, 10, 13, 21), (0, 10, 17, 13)] 4 := ⟨List.mem_of_getElem? (i := 370) (by decide +kernel), List.mem_of_getElem? (i := 371) (by decide +kernel), List.mem_of_getElem? (i := 40) (by decide +kernel), by decide +kernel⟩
theorem mw_L_risk : MWH yL_risk cL_risk 7 (some .int) [(0, 14, 17, 21), (0, 14, 21, 13)] 6 := ⟨List.mem_of_getElem? (i := 390) (by decide +kernel), List.mem_of_getElem? (i := 391) (by decide +kernel), List.mem_of_getElem? (i := 40) (by decide +kernel), by decide +kernel⟩
theorem mw_L_follow : MWH yL_follow cL_follow 6 (some .int) [(0, 12, 15, 21), (0, 12, 19, 13)] 5 := ⟨List.mem_of_getElem? (i := 401) (by decide +kernel), List.mem_of_getElem? (i := 402) (by decide +kernel), List.mem_of_getElem? (i := 40) (by decide +kernel), by decide +kernel⟩
theorem mw_L_prove : MWH yL_prove cL_prove 5 (some .int) [(0, 10, 13, 21), (0, 10, 17, 13)] 4 := ⟨List.mem_of_getElem? (i := 408) (by decide +kernel), List.mem_of_getElem? (i := 409) (by decide +kernel), List.mem_of_getElem? (i := 40) (by decide +kernel), by decide +kernel⟩
theorem mw_L_declare : MWH yL_declare cL_declare 4 (some .int) [(0, 9, 12, 21), (0, 9, 15, 15)] 3 := ⟨List.mem_of_getElem? (i := 415) (by decide +kernel), List.mem_of_getElem? (i := 416) (by decide +kernel), List.mem_of_getElem? (i := 40) (by decide +kernel), by decide +kernel⟩
theorem mw_L_body : MWH yL_body cL_body 4 (some .int) [(0, 9, 12, 13), (0, 9, 15, 15)] 3 := ⟨List.mem_of_getElem? (i := 492) (by decide +kernel), List.mem_of_getElem? (i := 493) (by decide +kernel), List.mem_of_getElem? (i := 40) (by decide +kernel), by decide +kernel⟩
theorem mw_L_suspend : MWH yL_suspend cL_suspend 5 (some .int) [(0, 17, 20, 21)] 4 := ⟨List.mem_of_getElem? (i := 517) (by decide +kernel), List.mem_of_getElem? (i := 518) (by decide +kernel), List.mem_of_getElem? (i := 40) (by decide +kernel), by decide +kernel⟩
theorem mw_L_certify : MWH yL_certify cL_certify 6 (some .int) [(0, 12, 15, 21), (0, 12, 19, 13), (0, 12, 23, 15)] 5 := ⟨List.mem_of_getElem? (i := 530) (by decide +kernel), List.mem_of_getElem? (i := 531) (by decide +kernel), List.mem_of_getElem? (i := 40) (by decide +kernel), by decide +kernel⟩
theorem mw_L_transfer : MWH yL_transfer cL_transfer 5 (some .int) [(0, 10, 13, 21), (0, 10, 17, 15)] 4 := ⟨List.mem_of_getElem? (i := 543) (by decide +kernel), List.mem_of_getElem? (i := 544) (by decide +kernel), List.mem_of_getElem? (i := 40) (by decide +kernel), by decide +kernel⟩
theorem mw_L_visit : MWH yL_visit cL_visit 5 (some .int) [(0, 17, 20, 21)] 4 := ⟨List.mem_of_getElem? (i := 551) (by decide +kernel), List.mem_of_getElem? (i := 552) (by decide +kernel), List.mem_of_getElem? (i := 40) (by decide +kernel), by decide +kernel⟩
theorem mw_L_place : MWH yL_place cL_place 5 (some .int) [(0, 10, 13, 21), (0, 10, 17, 13), (0, 10, 21, 15)] 4 := ⟨List.mem_of_getElem? (i := 559) (by decide +kernel), List.mem_of_getElem? (i := 560) (by decide +kernel), List.mem_of_getElem? (i := 40) (by decide +kernel), by decide +kernel⟩
theorem mw_L_post : MWH yL_post cL_post 5 (some .int) [(0, 10, 13, 21), (0, 10, 17, 13), (0, 10, 21, 15)] 4 := ⟨List.mem_of_getElem? (i := 614) (by decide +kernel), List.mem_of_getElem? (i := 615) (by decide +kernel), List.mem_of_getElem? (i := 40) (by decide +kernel), by decide +kernel⟩
theorem mw_L_sample : MWH yL_sample cL_sample 7 (some .int) [(0, 14, 17, 21), (0, 14, 21, 13)] 6 := ⟨List.mem_of_getElem? (i := 621) (by decide +kernel), List.mem_of_getElem? (i := 622) (by decide +kernel), List.mem_of_getElem? (i := 40) (by decide +kernel), by decide +kernel⟩
theorem mw_L_event : MWH yL_event cL_event 6 (some .int) [(0, 12, 15, 21), (0, 12, 19, 13)] 5 := ⟨List.mem_of_getElem? (i := 634) (by decide +kernel), List.mem_of_getElem? (i := 635) (by decide +kernel), List.mem_of_getElem? (i := 40) (by decide +kernel), by decide +kernel⟩
theorem mw_L_recall : MWH yL_recall cL_recall 6 (some .int) [(0, 12, 15, 21), (0, 12, 19, 13)] 5 := ⟨List.mem_of_getElem? (i := 655) (by decide +kernel), List.mem_of_getElem? (i := 656) (by decide +kernel), List.mem_of_getElem? (i := 40) (by decide +kernel), by decide +kernel⟩
theorem mw_L_ban : MWH yL_ban cL_ban 6 (some .int) [(0, 12, 15, 21)] 5 := ⟨List.mem_of_getElem? (i := 667) (by decide +kernel), List.mem_of_getElem? (i := 668) (by decide +kernel), List.mem_of_getElem? (i := 40) (by decide +kernel), by decide +kernel⟩
theorem mw_L_pass : MWH yL_pass cL_pass 4 (some .int) [(0, 9, 12, 13), (0, 9, 15, 15)] 3 := ⟨List.mem_of_getElem? (i := 675) (by decide +kernel), List.mem_of_getElem? (i := 676) (by decide +kernel), List.mem_of_getElem? (i := 40) (by decide +kernel), by decide +kernel⟩
theorem mw_L_applies : MWH yL_applies cL_applies 5 (some .int) [(0, 17, 20, 21)] 4 := ⟨List.mem_of_getElem? (i := 683) (by decide +kernel), List.mem_of_getElem? (i := 684) (by decide +kernel), List.mem_of_getElem? (i := 40) (by decide +kernel), by decide +kernel⟩
theorem mw_L_demands : MWH yL_demands cL_demands 5 (some .int) [(0, 10, 13, 21)] 4 := ⟨List.mem_of_getElem? (i := 690) (by decide +kernel), List.mem_of_getElem? (i := 691) (by decide +kernel), List.mem_of_getElem? (i := 40) (by decide +kernel), by decide +kernel⟩
theorem mw_L_way : MWH yL_way cL_way 4 (some .int) [(0, 9, 12, 21)] 3 := ⟨List.mem_of_getElem? (i := 697) (by decide +kernel), List.mem_of_getElem? (i := 698) (by decide +kernel), List.mem_of_getElem? (i := 40) (by decide +kernel), by decide +kernel⟩
theorem mw_L_wanting : MWH yL_wanting cL_wanting 4 (some .int) [(0, 9, 12, 21)] 3 := ⟨List.mem_of_getElem? (i := 704) (by decide +kernel), List.mem_of_getElem? (i := 705) (by decide +kernel), List.mem_of_getElem? (i := 40) (by decide +kernel), by decide +kernel⟩
theorem mw_L_productOf : MWH yL_productOf cL_productOf 5 (some .int) [(0, 10, 13, 21), (0, 10, 17, 13)] 4 := ⟨List.mem_of_getElem? (i := 711) (by decide +kernel), List.mem_of_getElem? (i := 712) (by decide +kernel), List.mem_of_getElem? (i := 40) (by decide +kernel), by decide +kernel⟩
theorem mw_L_riskOf : MWH yL_riskOf cL_riskOf 6 (some .int) [(0, 12, 15, 21)] 5 := ⟨List.mem_of_getElem? (i := 723) (by decide +kernel), List.mem_of_getElem? (i := 724) (by decide +kernel), List.mem_of_getElem? (i := 40) (by decide +kernel), by decide +kernel⟩
theorem mw_L_batchOf : MWH yL_batchOf cL_batchOf 5 (some .int) [(0, 10, 13, 21), (0, 10, 17, 13)] 4 := ⟨List.mem_of_getElem? (i := 730) (by decide +kernel), List.mem_of_getElem? (i := 731) (by decide +kernel), List.mem_of_getElem? (i := 40) (by decide +kernel), by decide +kernel⟩
theorem mw_L_wantingAnew : MWH yL_wantingAnew cL_wantingAnew 4 (some .int) [(0, 9, 12, 21)] 3 := ⟨List.mem_of_getElem? (i := 737) (by decide +kernel), List.mem_of_getElem? (i := 738) (by decide +kernel), List.mem_of_getElem? (i := 40) (by decide +kernel), by decide +kernel⟩
def yBC : MethodName := ⟨"java/lang/Integer", "bitCount", "(I)I"⟩
abbrev cBC : ByteArray := prog_13_method_49_code
theorem mw_BC : MWS yBC cBC 1 (some .int) 1 := ⟨List.mem_of_getElem? (i := 453) (by decide +kernel), List.mem_of_getElem? (i := 454) (by decide +kernel), List.mem_of_getElem? (i := 52) (by decide +kernel), by decide +kernel⟩
theorem ml_X5_1 : Cond.methodLink RX5 1 objectInit ∈ lw_tbl := List.mem_of_getElem? (i := 61) (by decide +kernel)
theorem ml_X5_39 : Cond.methodLink RX5 39 yX5_checkRange ∈ lw_tbl := List.mem_of_getElem? (i := 121) (by decide +kernel)
theorem ml_X5_54 : Cond.methodLink RX5 54 yX0_init ∈ lw_tbl := List.mem_of_getElem? (i := 209) (by decide +kernel)
theorem ml_X5_57 : Cond.methodLink RX5 57 yX5_actAt ∈ lw_tbl := List.mem_of_getElem? (i := 238) (by decide +kernel)
theorem ml_X5_66 : Cond.methodLink RX5 66 yX5_actsMoreSpecialThan ∈ lw_tbl := List.mem_of_getElem? (i := 259) (by decide +kernel)
theorem ml_X5_70 : Cond.methodLink RX5 70 yX5_hasBit ∈ lw_tbl := List.mem_of_getElem? (i := 263) (by decide +kernel)
theorem ml_X5_84 : Cond.methodLink RX5 84 yX4_init ∈ lw_tbl := List.mem_of_getElem? (i := 276) (by decide +kernel)
theorem ml_X5_87 : Cond.methodLink RX5 87 yX5_standardAt ∈ lw_tbl := List.mem_of_getElem? (i := 299) (by decide +kernel)
theorem ml_X5_105 : Cond.methodLink RX5 105 yX3_init ∈ lw_tbl := List.mem_of_getElem? (i := 320) (by decide +kernel)
theorem ml_X5_108 : Cond.methodLink RX5 108 yX5_productAt ∈ lw_tbl := List.mem_of_getElem? (i := 376) (by decide +kernel)
theorem ml_X5_115 : Cond.methodLink RX5 115 yX3_startNextVersion ∈ lw_tbl := List.mem_of_getElem? (i := 381) (by decide +kernel)
theorem ml_X5_121 : Cond.methodLink RX5 121 yX5_checkHazard ∈ lw_tbl := List.mem_of_getElem? (i := 396) (by decide +kernel)
theorem ml_X5_137 : Cond.methodLink RX5 137 yX5_firstLack ∈ lw_tbl := List.mem_of_getElem? (i := 421) (by decide +kernel)
theorem ml_X5_151 : Cond.methodLink RX5 151 yX2_init ∈ lw_tbl := List.mem_of_getElem? (i := 500) (by decide +kernel)
theorem ml_X5_152 : Cond.methodLink RX5 152 yX5_bodyAt ∈ lw_tbl := List.mem_of_getElem? (i := 523) (by decide +kernel)
theorem ml_X5_156 : Cond.methodLink RX5 156 yX2_isSuspended ∈ lw_tbl := List.mem_of_getElem? (i := 528) (by decide +kernel)
theorem ml_X5_163 : Cond.methodLink RX5 163 yX5_checkMayCertify ∈ lw_tbl := List.mem_of_getElem? (i := 536) (by decide +kernel)
theorem ml_X5_184 : Cond.methodLink RX5 184 yX3_endCertificate ∈ lw_tbl := List.mem_of_getElem? (i := 557) (by decide +kernel)
theorem ml_X5_189 : Cond.methodLink RX5 189 yX5_addBatch ∈ lw_tbl := List.mem_of_getElem? (i := 566) (by decide +kernel)
theorem ml_X5_193 : Cond.methodLink RX5 193 yX5_batchAt ∈ lw_tbl := List.mem_of_getElem? (i := 627) (by decide +kernel)
theorem ml_X5_204 : Cond.methodLink RX5 204 Lib.Math.max.name ∈ lw_tbl := List.mem_of_getElem? (i := 640) (by decide +kernel)
theorem ml_X5_213 : Cond.methodLink RX5 213 yX1_alarmLevel ∈ lw_tbl := List.mem_of_getElem? (i := 643) (by decide +kernel)
theorem ml_X5_219 : Cond.methodLink RX5 219 yX1_isOnMarketOf ∈ lw_tbl := List.mem_of_getElem? (i := 662) (by decide +kernel)
theorem ml_X5_237 : Cond.methodLink RX5 237 yBC ∈ lw_tbl := List.mem_of_getElem? (i := 452) (by decide +kernel)
theorem ml_X5_245 : Cond.methodLink RX5 245 yX5_actsApplyingTo ∈ lw_tbl := List.mem_of_getElem? (i := 429) (by decide +kernel)
theorem ml_X5_248 : Cond.methodLink RX5 248 yX5_hazardsDemanded ∈ lw_tbl := List.mem_of_getElem? (i := 425) (by decide +kernel)
theorem ml_X5_251 : Cond.methodLink RX5 251 yX5_hazardsKept ∈ lw_tbl := List.mem_of_getElem? (i := 462) (by decide +kernel)
theorem ml_X5_255 : Cond.methodLink RX5 255 yX5_wayOf ∈ lw_tbl := List.mem_of_getElem? (i := 448) (by decide +kernel)
theorem ml_X5_258 : Cond.methodLink RX5 258 yX5_unitsOnMarket ∈ lw_tbl := List.mem_of_getElem? (i := 717) (by decide +kernel)
theorem ml_X5_287 : Cond.methodLink RX5 287 yX2_hasInScope ∈ lw_tbl := List.mem_of_getElem? (i := 474) (by decide +kernel)
theorem ml_X5_292 : Cond.methodLink RX5 292 yX0_isForByItself ∈ lw_tbl := List.mem_of_getElem? (i := 437) (by decide +kernel)
theorem ml_X5_295 : Cond.methodLink RX5 295 yX5_actsForByThemselves ∈ lw_tbl := List.mem_of_getElem? (i := 433) (by decide +kernel)
theorem ml_X5_301 : Cond.methodLink RX5 301 yX3_hazardsBeforeAbove ∈ lw_tbl := List.mem_of_getElem? (i := 441) (by decide +kernel)
theorem ml_X5_304 : Cond.methodLink RX5 304 yX4_isListedOn ∈ lw_tbl := List.mem_of_getElem? (i := 466) (by decide +kernel)
theorem ml_X5_307 : Cond.methodLink RX5 307 yX3_hazardsAfterAbove ∈ lw_tbl := List.mem_of_getElem? (i := 458) (by decide +kernel)
theorem ml_X5_310 : Cond.methodLink RX5 310 yX5_holdsCertificate ∈ lw_tbl := List.mem_of_getElem? (i := 470) (by decide +kernel)
theorem ml_X5_314 : Cond.methodLink RX5 314 yX3_isVisitCounted ∈ lw_tbl := List.mem_of_getElem? (i := 486) (by decide +kernel)
theorem ml_X5_317 : Cond.methodLink RX5 317 yX2_isCertificateUpheld ∈ lw_tbl := List.mem_of_getElem? (i := 478) (by decide +kernel)
theorem ml_X5_325 : Cond.methodLink RX5 325 yX1_init ∈ lw_tbl := List.mem_of_getElem? (i := 572) (by decide +kernel)
theorem ml_X0_1 : Cond.methodLink RX0 1 objectInit ∈ lw_tbl := List.mem_of_getElem? (i := 212) (by decide +kernel)
theorem ml_X1_3 : Cond.methodLink RX1 3 objectInit ∈ lw_tbl := List.mem_of_getElem? (i := 575) (by decide +kernel)
theorem ml_X1_36 : Cond.methodLink RX1 36 yX1_alarmByHarm ∈ lw_tbl := List.mem_of_getElem? (i := 647) (by decide +kernel)
theorem ml_X2_3 : Cond.methodLink RX2 3 objectInit ∈ lw_tbl := List.mem_of_getElem? (i := 503) (by decide +kernel)
theorem ml_X2_21 : Cond.methodLink RX2 21 yX2_isSuspended ∈ lw_tbl := List.mem_of_getElem? (i := 482) (by decide +kernel)
theorem ml_X3_3 : Cond.methodLink RX3 3 objectInit ∈ lw_tbl := List.mem_of_getElem? (i := 323) (by decide +kernel)
theorem ml_X3_40 : Cond.methodLink RX3 40 yX3_endCertificate ∈ lw_tbl := List.mem_of_getElem? (i := 385) (by decide +kernel)
theorem ml_X3_47 : Cond.methodLink RX3 47 yX3_hazardsAbove ∈ lw_tbl := List.mem_of_getElem? (i := 445) (by decide +kernel)
theorem ml_X4_3 : Cond.methodLink RX4 3 objectInit ∈ lw_tbl := List.mem_of_getElem? (i := 279) (by decide +kernel)
theorem ml_L_7 : Cond.methodLink RL 7 yX5_act ∈ lw_tbl := List.mem_of_getElem? (i := 117) (by decide +kernel)
theorem ml_L_17 : Cond.methodLink RL 17 yX5_special ∈ lw_tbl := List.mem_of_getElem? (i := 234) (by decide +kernel)
theorem ml_L_23 : Cond.methodLink RL 23 yX5_standard ∈ lw_tbl := List.mem_of_getElem? (i := 270) (by decide +kernel)
theorem ml_L_27 : Cond.methodLink RL 27 yX5_withdraw ∈ lw_tbl := List.mem_of_getElem? (i := 295) (by decide +kernel)
theorem ml_L_30 : Cond.methodLink RL 30 yX5_restrict ∈ lw_tbl := List.mem_of_getElem? (i := 307) (by decide +kernel)
theorem ml_L_33 : Cond.methodLink RL 33 yX5_product ∈ lw_tbl := List.mem_of_getElem? (i := 314) (by decide +kernel)
theorem ml_L_37 : Cond.methodLink RL 37 yX5_change ∈ lw_tbl := List.mem_of_getElem? (i := 372) (by decide +kernel)
theorem ml_L_40 : Cond.methodLink RL 40 yX5_risk ∈ lw_tbl := List.mem_of_getElem? (i := 392) (by decide +kernel)
theorem ml_L_43 : Cond.methodLink RL 43 yX5_follow ∈ lw_tbl := List.mem_of_getElem? (i := 403) (by decide +kernel)
theorem ml_L_47 : Cond.methodLink RL 47 yX5_prove ∈ lw_tbl := List.mem_of_getElem? (i := 410) (by decide +kernel)
theorem ml_L_50 : Cond.methodLink RL 50 yX5_declare ∈ lw_tbl := List.mem_of_getElem? (i := 417) (by decide +kernel)
theorem ml_L_53 : Cond.methodLink RL 53 yX5_body ∈ lw_tbl := List.mem_of_getElem? (i := 494) (by decide +kernel)
theorem ml_L_56 : Cond.methodLink RL 56 yX5_suspend ∈ lw_tbl := List.mem_of_getElem? (i := 519) (by decide +kernel)
theorem ml_L_60 : Cond.methodLink RL 60 yX5_certify ∈ lw_tbl := List.mem_of_getElem? (i := 532) (by decide +kernel)
theorem ml_L_63 : Cond.methodLink RL 63 yX5_transfer ∈ lw_tbl := List.mem_of_getElem? (i := 545) (by decide +kernel)
theorem ml_L_66 : Cond.methodLink RL 66 yX5_visit ∈ lw_tbl := List.mem_of_getElem? (i := 553) (by decide +kernel)
theorem ml_L_69 : Cond.methodLink RL 69 yX5_place ∈ lw_tbl := List.mem_of_getElem? (i := 561) (by decide +kernel)
theorem ml_L_72 : Cond.methodLink RL 72 yX5_post ∈ lw_tbl := List.mem_of_getElem? (i := 616) (by decide +kernel)
theorem ml_L_75 : Cond.methodLink RL 75 yX5_sample ∈ lw_tbl := List.mem_of_getElem? (i := 623) (by decide +kernel)
theorem ml_L_78 : Cond.methodLink RL 78 yX5_event ∈ lw_tbl := List.mem_of_getElem? (i := 636) (by decide +kernel)
theorem ml_L_81 : Cond.methodLink RL 81 yX5_recall ∈ lw_tbl := List.mem_of_getElem? (i := 657) (by decide +kernel)
theorem ml_L_84 : Cond.methodLink RL 84 yX5_ban ∈ lw_tbl := List.mem_of_getElem? (i := 669) (by decide +kernel)
theorem ml_L_88 : Cond.methodLink RL 88 yX5_pass ∈ lw_tbl := List.mem_of_getElem? (i := 677) (by decide +kernel)
theorem ml_L_91 : Cond.methodLink RL 91 yX5_applies ∈ lw_tbl := List.mem_of_getElem? (i := 685) (by decide +kernel)
theorem ml_L_94 : Cond.methodLink RL 94 yX5_demands ∈ lw_tbl := List.mem_of_getElem? (i := 692) (by decide +kernel)
theorem ml_L_98 : Cond.methodLink RL 98 yX5_way ∈ lw_tbl := List.mem_of_getElem? (i := 699) (by decide +kernel)
theorem ml_L_101 : Cond.methodLink RL 101 yX5_wanting ∈ lw_tbl := List.mem_of_getElem? (i := 706) (by decide +kernel)
theorem ml_L_104 : Cond.methodLink RL 104 yX5_productOf ∈ lw_tbl := List.mem_of_getElem? (i := 713) (by decide +kernel)
theorem ml_L_107 : Cond.methodLink RL 107 yX5_riskOf ∈ lw_tbl := List.mem_of_getElem? (i := 725) (by decide +kernel)
theorem ml_L_110 : Cond.methodLink RL 110 yX5_batchOf ∈ lw_tbl := List.mem_of_getElem? (i := 732) (by decide +kernel)
theorem ml_L_113 : Cond.methodLink RL 113 yX5_wantingAnew ∈ lw_tbl := List.mem_of_getElem? (i := 739) (by decide +kernel)
theorem ml_L_116 : Cond.methodLink RL 116 yX5_init ∈ lw_tbl := List.mem_of_getElem? (i := 58) (by decide +kernel)
theorem ml_L_119 : Cond.methodLink RL 119 yX6_init ∈ lw_tbl := List.mem_of_getElem? (i := 745) (by decide +kernel)
theorem ml_L_120 : Cond.methodLink RL 120 yL_act ∈ lw_tbl := List.mem_of_getElem? (i := 112) (by decide +kernel)
theorem ml_L_125 : Cond.methodLink RL 125 yX6_act ∈ lw_tbl := List.mem_of_getElem? (i := 869) (by decide +kernel)
theorem ml_L_126 : Cond.methodLink RL 126 yX6_thrown ∈ lw_tbl := List.mem_of_getElem? (i := 865) (by decide +kernel)
theorem ml_L_130 : Cond.methodLink RL 130 yL_special ∈ lw_tbl := List.mem_of_getElem? (i := 230) (by decide +kernel)
theorem ml_L_133 : Cond.methodLink RL 133 yX6_special ∈ lw_tbl := List.mem_of_getElem? (i := 880) (by decide +kernel)
theorem ml_L_134 : Cond.methodLink RL 134 yL_standard ∈ lw_tbl := List.mem_of_getElem? (i := 267) (by decide +kernel)
theorem ml_L_136 : Cond.methodLink RL 136 yX6_standard ∈ lw_tbl := List.mem_of_getElem? (i := 892) (by decide +kernel)
theorem ml_L_137 : Cond.methodLink RL 137 yL_withdraw ∈ lw_tbl := List.mem_of_getElem? (i := 292) (by decide +kernel)
theorem ml_L_139 : Cond.methodLink RL 139 yX6_withdraw ∈ lw_tbl := List.mem_of_getElem? (i := 897) (by decide +kernel)
theorem ml_L_140 : Cond.methodLink RL 140 yL_restrict ∈ lw_tbl := List.mem_of_getElem? (i := 304) (by decide +kernel)
theorem ml_L_142 : Cond.methodLink RL 142 yX6_restrict ∈ lw_tbl := List.mem_of_getElem? (i := 905) (by decide +kernel)
theorem ml_L_143 : Cond.methodLink RL 143 yL_product ∈ lw_tbl := List.mem_of_getElem? (i := 311) (by decide +kernel)
theorem ml_L_146 : Cond.methodLink RL 146 yX6_product ∈ lw_tbl := List.mem_of_getElem? (i := 909) (by decide +kernel)
theorem ml_L_147 : Cond.methodLink RL 147 yL_change ∈ lw_tbl := List.mem_of_getElem? (i := 369) (by decide +kernel)
theorem ml_L_149 : Cond.methodLink RL 149 yX6_change ∈ lw_tbl := List.mem_of_getElem? (i := 913) (by decide +kernel)
theorem ml_L_150 : Cond.methodLink RL 150 yL_risk ∈ lw_tbl := List.mem_of_getElem? (i := 389) (by decide +kernel)
theorem ml_L_152 : Cond.methodLink RL 152 yX6_risk ∈ lw_tbl := List.mem_of_getElem? (i := 925) (by decide +kernel)
theorem ml_L_153 : Cond.methodLink RL 153 yL_follow ∈ lw_tbl := List.mem_of_getElem? (i := 400) (by decide +kernel)
theorem ml_L_156 : Cond.methodLink RL 156 yX6_follow ∈ lw_tbl := List.mem_of_getElem? (i := 929) (by decide +kernel)
theorem ml_L_157 : Cond.methodLink RL 157 yL_prove ∈ lw_tbl := List.mem_of_getElem? (i := 407) (by decide +kernel)
theorem ml_L_159 : Cond.methodLink RL 159 yX6_prove ∈ lw_tbl := List.mem_of_getElem? (i := 933) (by decide +kernel)
theorem ml_L_160 : Cond.methodLink RL 160 yL_declare ∈ lw_tbl := List.mem_of_getElem? (i := 414) (by decide +kernel)
theorem ml_L_162 : Cond.methodLink RL 162 yX6_declare ∈ lw_tbl := List.mem_of_getElem? (i := 937) (by decide +kernel)
theorem ml_L_163 : Cond.methodLink RL 163 yL_body ∈ lw_tbl := List.mem_of_getElem? (i := 491) (by decide +kernel)
theorem ml_L_165 : Cond.methodLink RL 165 yX6_body ∈ lw_tbl := List.mem_of_getElem? (i := 988) (by decide +kernel)
theorem ml_L_166 : Cond.methodLink RL 166 yL_suspend ∈ lw_tbl := List.mem_of_getElem? (i := 516) (by decide +kernel)
theorem ml_L_169 : Cond.methodLink RL 169 yX6_suspend ∈ lw_tbl := List.mem_of_getElem? (i := 992) (by decide +kernel)
theorem ml_L_170 : Cond.methodLink RL 170 yL_certify ∈ lw_tbl := List.mem_of_getElem? (i := 529) (by decide +kernel)
theorem ml_L_172 : Cond.methodLink RL 172 yX6_certify ∈ lw_tbl := List.mem_of_getElem? (i := 1000) (by decide +kernel)
theorem ml_L_173 : Cond.methodLink RL 173 yL_transfer ∈ lw_tbl := List.mem_of_getElem? (i := 542) (by decide +kernel)
theorem ml_L_175 : Cond.methodLink RL 175 yX6_transfer ∈ lw_tbl := List.mem_of_getElem? (i := 1004) (by decide +kernel)
theorem ml_L_176 : Cond.methodLink RL 176 yL_visit ∈ lw_tbl := List.mem_of_getElem? (i := 550) (by decide +kernel)
theorem ml_L_178 : Cond.methodLink RL 178 yX6_visit ∈ lw_tbl := List.mem_of_getElem? (i := 1008) (by decide +kernel)
theorem ml_L_179 : Cond.methodLink RL 179 yL_place ∈ lw_tbl := List.mem_of_getElem? (i := 558) (by decide +kernel)
theorem ml_L_181 : Cond.methodLink RL 181 yX6_place ∈ lw_tbl := List.mem_of_getElem? (i := 1012) (by decide +kernel)
theorem ml_L_182 : Cond.methodLink RL 182 yL_post ∈ lw_tbl := List.mem_of_getElem? (i := 613) (by decide +kernel)
theorem ml_L_184 : Cond.methodLink RL 184 yX6_post ∈ lw_tbl := List.mem_of_getElem? (i := 1020) (by decide +kernel)
theorem ml_L_185 : Cond.methodLink RL 185 yL_sample ∈ lw_tbl := List.mem_of_getElem? (i := 620) (by decide +kernel)
theorem ml_L_187 : Cond.methodLink RL 187 yX6_sample ∈ lw_tbl := List.mem_of_getElem? (i := 1024) (by decide +kernel)
theorem ml_L_188 : Cond.methodLink RL 188 yL_event ∈ lw_tbl := List.mem_of_getElem? (i := 633) (by decide +kernel)
theorem ml_L_190 : Cond.methodLink RL 190 yX6_event ∈ lw_tbl := List.mem_of_getElem? (i := 1033) (by decide +kernel)
theorem ml_L_191 : Cond.methodLink RL 191 yL_recall ∈ lw_tbl := List.mem_of_getElem? (i := 654) (by decide +kernel)
theorem ml_L_193 : Cond.methodLink RL 193 yX6_recall ∈ lw_tbl := List.mem_of_getElem? (i := 1041) (by decide +kernel)
theorem ml_L_194 : Cond.methodLink RL 194 yL_ban ∈ lw_tbl := List.mem_of_getElem? (i := 666) (by decide +kernel)
theorem ml_L_197 : Cond.methodLink RL 197 yX6_ban ∈ lw_tbl := List.mem_of_getElem? (i := 1045) (by decide +kernel)
theorem ml_L_198 : Cond.methodLink RL 198 yL_pass ∈ lw_tbl := List.mem_of_getElem? (i := 674) (by decide +kernel)
theorem ml_L_200 : Cond.methodLink RL 200 yX6_pass ∈ lw_tbl := List.mem_of_getElem? (i := 1049) (by decide +kernel)
theorem ml_L_201 : Cond.methodLink RL 201 yX5_day ∈ lw_tbl := List.mem_of_getElem? (i := 108) (by decide +kernel)
theorem ml_L_204 : Cond.methodLink RL 204 yX6_day ∈ lw_tbl := List.mem_of_getElem? (i := 1053) (by decide +kernel)
theorem ml_L_205 : Cond.methodLink RL 205 yL_applies ∈ lw_tbl := List.mem_of_getElem? (i := 682) (by decide +kernel)
theorem ml_L_207 : Cond.methodLink RL 207 yX6_applies ∈ lw_tbl := List.mem_of_getElem? (i := 1057) (by decide +kernel)
theorem ml_L_208 : Cond.methodLink RL 208 yL_demands ∈ lw_tbl := List.mem_of_getElem? (i := 689) (by decide +kernel)
theorem ml_L_210 : Cond.methodLink RL 210 yX6_demands ∈ lw_tbl := List.mem_of_getElem? (i := 1061) (by decide +kernel)
theorem ml_L_211 : Cond.methodLink RL 211 yL_way ∈ lw_tbl := List.mem_of_getElem? (i := 696) (by decide +kernel)
theorem ml_L_213 : Cond.methodLink RL 213 yX6_way ∈ lw_tbl := List.mem_of_getElem? (i := 1065) (by decide +kernel)
theorem ml_L_214 : Cond.methodLink RL 214 yL_wanting ∈ lw_tbl := List.mem_of_getElem? (i := 703) (by decide +kernel)
theorem ml_L_216 : Cond.methodLink RL 216 yX6_wanting ∈ lw_tbl := List.mem_of_getElem? (i := 1069) (by decide +kernel)
theorem ml_L_217 : Cond.methodLink RL 217 yL_productOf ∈ lw_tbl := List.mem_of_getElem? (i := 710) (by decide +kernel)
theorem ml_L_219 : Cond.methodLink RL 219 yX6_productOf ∈ lw_tbl := List.mem_of_getElem? (i := 1073) (by decide +kernel)
theorem ml_L_220 : Cond.methodLink RL 220 yL_riskOf ∈ lw_tbl := List.mem_of_getElem? (i := 722) (by decide +kernel)
theorem ml_L_222 : Cond.methodLink RL 222 yX6_riskOf ∈ lw_tbl := List.mem_of_getElem? (i := 1081) (by decide +kernel)
theorem ml_L_223 : Cond.methodLink RL 223 yL_batchOf ∈ lw_tbl := List.mem_of_getElem? (i := 729) (by decide +kernel)
theorem ml_L_225 : Cond.methodLink RL 225 yX6_batchOf ∈ lw_tbl := List.mem_of_getElem? (i := 1085) (by decide +kernel)
theorem ml_L_226 : Cond.methodLink RL 226 yL_wantingAnew ∈ lw_tbl := List.mem_of_getElem? (i := 736) (by decide +kernel)
theorem ml_L_228 : Cond.methodLink RL 228 yX6_wantingAnew ∈ lw_tbl := List.mem_of_getElem? (i := 1089) (by decide +kernel)
theorem ml_X6_1 : Cond.methodLink RX6 1 objectInit ∈ lw_tbl := List.mem_of_getElem? (i := 748) (by decide +kernel)
theorem ml_X6_111 : Cond.methodLink RX6 111 yX6_in ∈ lw_tbl := List.mem_of_getElem? (i := 873) (by decide +kernel)
theorem ml_X6_127 : Cond.methodLink RX6 127 yX6_refused ∈ lw_tbl := List.mem_of_getElem? (i := 876) (by decide +kernel)
theorem ml_X6_131 : Cond.methodLink RX6 131 yX6_isAct ∈ lw_tbl := List.mem_of_getElem? (i := 884) (by decide +kernel)
theorem ml_X6_134 : Cond.methodLink RX6 134 yX6_isAbove ∈ lw_tbl := List.mem_of_getElem? (i := 888) (by decide +kernel)
theorem ml_X6_139 : Cond.methodLink RX6 139 yX6_isStandard ∈ lw_tbl := List.mem_of_getElem? (i := 901) (by decide +kernel)
theorem ml_X6_145 : Cond.methodLink RX6 145 yX6_isProduct ∈ lw_tbl := List.mem_of_getElem? (i := 917) (by decide +kernel)
theorem ml_X6_148 : Cond.methodLink RX6 148 yX6_nextVersion ∈ lw_tbl := List.mem_of_getElem? (i := 921) (by decide +kernel)
theorem ml_X6_152 : Cond.methodLink RX6 152 yX6_isFor ∈ lw_tbl := List.mem_of_getElem? (i := 956) (by decide +kernel)
theorem ml_X6_155 : Cond.methodLink RX6 155 yX6_doesApply ∈ lw_tbl := List.mem_of_getElem? (i := 952) (by decide +kernel)
theorem ml_X6_158 : Cond.methodLink RX6 158 yX6_demandsOf ∈ lw_tbl := List.mem_of_getElem? (i := 948) (by decide +kernel)
theorem ml_X6_162 : Cond.methodLink RX6 162 yX6_lowOf ∈ lw_tbl := List.mem_of_getElem? (i := 960) (by decide +kernel)
theorem ml_X6_165 : Cond.methodLink RX6 165 yX6_shown ∈ lw_tbl := List.mem_of_getElem? (i := 968) (by decide +kernel)
theorem ml_X6_168 : Cond.methodLink RX6 168 yX6_applying ∈ lw_tbl := List.mem_of_getElem? (i := 984) (by decide +kernel)
theorem ml_X6_171 : Cond.methodLink RX6 171 yX6_hasScope ∈ lw_tbl := List.mem_of_getElem? (i := 980) (by decide +kernel)
theorem ml_X6_174 : Cond.methodLink RX6 174 yX6_bits ∈ lw_tbl := List.mem_of_getElem? (i := 945) (by decide +kernel)
theorem ml_X6_177 : Cond.methodLink RX6 177 yX6_keptOf ∈ lw_tbl := List.mem_of_getElem? (i := 964) (by decide +kernel)
theorem ml_X6_180 : Cond.methodLink RX6 180 yX6_wayOf ∈ lw_tbl := List.mem_of_getElem? (i := 972) (by decide +kernel)
theorem ml_X6_183 : Cond.methodLink RX6 183 yX6_holds ∈ lw_tbl := List.mem_of_getElem? (i := 976) (by decide +kernel)
theorem ml_X6_186 : Cond.methodLink RX6 186 yX6_wantingOf ∈ lw_tbl := List.mem_of_getElem? (i := 941) (by decide +kernel)
theorem ml_X6_189 : Cond.methodLink RX6 189 yX6_isBody ∈ lw_tbl := List.mem_of_getElem? (i := 996) (by decide +kernel)
theorem ml_X6_192 : Cond.methodLink RX6 192 yX6_arrives ∈ lw_tbl := List.mem_of_getElem? (i := 1016) (by decide +kernel)
theorem ml_X6_197 : Cond.methodLink RX6 197 yX6_isBatch ∈ lw_tbl := List.mem_of_getElem? (i := 1029) (by decide +kernel)
theorem ml_X6_200 : Cond.methodLink RX6 200 yX6_levelOf ∈ lw_tbl := List.mem_of_getElem? (i := 1037) (by decide +kernel)
theorem ml_X6_203 : Cond.methodLink RX6 203 yX6_onMarket ∈ lw_tbl := List.mem_of_getElem? (i := 1077) (by decide +kernel)
theorem fl_X5_11 : Cond.fieldLink RX5 11 RX5 (TX5 0).2.1 (TX5 0).2.2.1 ∈ lw_tbl := List.mem_of_getElem? (i := 74) (by decide +kernel)
theorem fl_X5_17 : Cond.fieldLink RX5 17 RX5 (TX5 1).2.1 (TX5 1).2.2.1 ∈ lw_tbl := List.mem_of_getElem? (i := 75) (by decide +kernel)
theorem fl_X5_23 : Cond.fieldLink RX5 23 RX5 (TX5 2).2.1 (TX5 2).2.2.1 ∈ lw_tbl := List.mem_of_getElem? (i := 76) (by decide +kernel)
theorem fl_X5_29 : Cond.fieldLink RX5 29 RX5 (TX5 3).2.1 (TX5 3).2.2.1 ∈ lw_tbl := List.mem_of_getElem? (i := 77) (by decide +kernel)
theorem fl_X5_35 : Cond.fieldLink RX5 35 RX5 (TX5 4).2.1 (TX5 4).2.2.1 ∈ lw_tbl := List.mem_of_getElem? (i := 78) (by decide +kernel)
theorem fl_X5_43 : Cond.fieldLink RX5 43 RX5 (TX5 5).2.1 (TX5 5).2.2.1 ∈ lw_tbl := List.mem_of_getElem? (i := 79) (by decide +kernel)
theorem fl_X5_79 : Cond.fieldLink RX5 79 RX5 (TX5 6).2.1 (TX5 6).2.2.1 ∈ lw_tbl := List.mem_of_getElem? (i := 80) (by decide +kernel)
theorem fl_X5_91 : Cond.fieldLink RX5 91 RX5 (TX5 10).2.1 (TX5 10).2.2.1 ∈ lw_tbl := List.mem_of_getElem? (i := 84) (by decide +kernel)
theorem fl_X5_100 : Cond.fieldLink RX5 100 RX5 (TX5 7).2.1 (TX5 7).2.2.1 ∈ lw_tbl := List.mem_of_getElem? (i := 81) (by decide +kernel)
theorem fl_X5_146 : Cond.fieldLink RX5 146 RX5 (TX5 8).2.1 (TX5 8).2.2.1 ∈ lw_tbl := List.mem_of_getElem? (i := 82) (by decide +kernel)
theorem fl_X5_320 : Cond.fieldLink RX5 320 RX5 (TX5 9).2.1 (TX5 9).2.2.1 ∈ lw_tbl := List.mem_of_getElem? (i := 83) (by decide +kernel)
theorem fl_X0_7 : Cond.fieldLink RX0 7 RX0 (TX0 0).2.1 (TX0 0).2.2.1 ∈ lw_tbl := List.mem_of_getElem? (i := 213) (by decide +kernel)
theorem fl_X0_13 : Cond.fieldLink RX0 13 RX0 (TX0 1).2.1 (TX0 1).2.2.1 ∈ lw_tbl := List.mem_of_getElem? (i := 214) (by decide +kernel)
theorem fl_X0_16 : Cond.fieldLink RX0 16 RX0 (TX0 2).2.1 (TX0 2).2.2.1 ∈ lw_tbl := List.mem_of_getElem? (i := 215) (by decide +kernel)
theorem fl_X0_19 : Cond.fieldLink RX0 19 RX0 (TX0 3).2.1 (TX0 3).2.2.1 ∈ lw_tbl := List.mem_of_getElem? (i := 217) (by decide +kernel)
theorem fl_X1_9 : Cond.fieldLink RX1 9 RX1 (TX1 0).2.1 (TX1 0).2.2.1 ∈ lw_tbl := List.mem_of_getElem? (i := 576) (by decide +kernel)
theorem fl_X1_15 : Cond.fieldLink RX1 15 RX1 (TX1 1).2.1 (TX1 1).2.2.1 ∈ lw_tbl := List.mem_of_getElem? (i := 578) (by decide +kernel)
theorem fl_X1_18 : Cond.fieldLink RX1 18 RX1 (TX1 2).2.1 (TX1 2).2.2.1 ∈ lw_tbl := List.mem_of_getElem? (i := 580) (by decide +kernel)
theorem fl_X1_21 : Cond.fieldLink RX1 21 RX1 (TX1 3).2.1 (TX1 3).2.2.1 ∈ lw_tbl := List.mem_of_getElem? (i := 582) (by decide +kernel)
theorem fl_X1_24 : Cond.fieldLink RX1 24 RX1 (TX1 4).2.1 (TX1 4).2.2.1 ∈ lw_tbl := List.mem_of_getElem? (i := 584) (by decide +kernel)
theorem fl_X1_27 : Cond.fieldLink RX1 27 RX1 (TX1 5).2.1 (TX1 5).2.2.1 ∈ lw_tbl := List.mem_of_getElem? (i := 586) (by decide +kernel)
theorem fl_X1_30 : Cond.fieldLink RX1 30 RX1 (TX1 6).2.1 (TX1 6).2.2.1 ∈ lw_tbl := List.mem_of_getElem? (i := 588) (by decide +kernel)
theorem fl_X1_33 : Cond.fieldLink RX1 33 RX1 (TX1 7).2.1 (TX1 7).2.2.1 ∈ lw_tbl := List.mem_of_getElem? (i := 590) (by decide +kernel)
theorem fl_X1_40 : Cond.fieldLink RX1 40 RX1 (TX1 8).2.1 (TX1 8).2.2.1 ∈ lw_tbl := List.mem_of_getElem? (i := 592) (by decide +kernel)
theorem fl_X2_9 : Cond.fieldLink RX2 9 RX2 (TX2 0).2.1 (TX2 0).2.2.1 ∈ lw_tbl := List.mem_of_getElem? (i := 504) (by decide +kernel)
theorem fl_X2_15 : Cond.fieldLink RX2 15 RX2 (TX2 1).2.1 (TX2 1).2.2.1 ∈ lw_tbl := List.mem_of_getElem? (i := 506) (by decide +kernel)
theorem fl_X2_18 : Cond.fieldLink RX2 18 RX2 (TX2 2).2.1 (TX2 2).2.2.1 ∈ lw_tbl := List.mem_of_getElem? (i := 507) (by decide +kernel)
theorem fl_X3_9 : Cond.fieldLink RX3 9 RX3 (TX3 3).2.1 (TX3 3).2.2.1 ∈ lw_tbl := List.mem_of_getElem? (i := 330) (by decide +kernel)
theorem fl_X3_15 : Cond.fieldLink RX3 15 RX3 (TX3 0).2.1 (TX3 0).2.2.1 ∈ lw_tbl := List.mem_of_getElem? (i := 324) (by decide +kernel)
theorem fl_X3_19 : Cond.fieldLink RX3 19 RX3 (TX3 1).2.1 (TX3 1).2.2.1 ∈ lw_tbl := List.mem_of_getElem? (i := 326) (by decide +kernel)
theorem fl_X3_22 : Cond.fieldLink RX3 22 RX3 (TX3 2).2.1 (TX3 2).2.2.1 ∈ lw_tbl := List.mem_of_getElem? (i := 328) (by decide +kernel)
theorem fl_X3_25 : Cond.fieldLink RX3 25 RX3 (TX3 6).2.1 (TX3 6).2.2.1 ∈ lw_tbl := List.mem_of_getElem? (i := 336) (by decide +kernel)
theorem fl_X3_28 : Cond.fieldLink RX3 28 RX3 (TX3 8).2.1 (TX3 8).2.2.1 ∈ lw_tbl := List.mem_of_getElem? (i := 340) (by decide +kernel)
theorem fl_X3_31 : Cond.fieldLink RX3 31 RX3 (TX3 9).2.1 (TX3 9).2.2.1 ∈ lw_tbl := List.mem_of_getElem? (i := 342) (by decide +kernel)
theorem fl_X3_34 : Cond.fieldLink RX3 34 RX3 (TX3 4).2.1 (TX3 4).2.2.1 ∈ lw_tbl := List.mem_of_getElem? (i := 332) (by decide +kernel)
theorem fl_X3_37 : Cond.fieldLink RX3 37 RX3 (TX3 5).2.1 (TX3 5).2.2.1 ∈ lw_tbl := List.mem_of_getElem? (i := 334) (by decide +kernel)
theorem fl_X3_43 : Cond.fieldLink RX3 43 RX3 (TX3 7).2.1 (TX3 7).2.2.1 ∈ lw_tbl := List.mem_of_getElem? (i := 338) (by decide +kernel)
theorem fl_X4_9 : Cond.fieldLink RX4 9 RX4 (TX4 1).2.1 (TX4 1).2.2.1 ∈ lw_tbl := List.mem_of_getElem? (i := 281) (by decide +kernel)
theorem fl_X4_15 : Cond.fieldLink RX4 15 RX4 (TX4 0).2.1 (TX4 0).2.2.1 ∈ lw_tbl := List.mem_of_getElem? (i := 280) (by decide +kernel)
theorem fl_X4_18 : Cond.fieldLink RX4 18 RX4 (TX4 2).2.1 (TX4 2).2.2.1 ∈ lw_tbl := List.mem_of_getElem? (i := 283) (by decide +kernel)
theorem fl_X6_7 : Cond.fieldLink RX6 7 RX6 (TX6 3).2.1 (TX6 3).2.2.1 ∈ lw_tbl := List.mem_of_getElem? (i := 752) (by decide +kernel)
theorem fl_X6_13 : Cond.fieldLink RX6 13 RX6 (TX6 4).2.1 (TX6 4).2.2.1 ∈ lw_tbl := List.mem_of_getElem? (i := 753) (by decide +kernel)
theorem fl_X6_16 : Cond.fieldLink RX6 16 RX6 (TX6 5).2.1 (TX6 5).2.2.1 ∈ lw_tbl := List.mem_of_getElem? (i := 754) (by decide +kernel)
theorem fl_X6_19 : Cond.fieldLink RX6 19 RX6 (TX6 6).2.1 (TX6 6).2.2.1 ∈ lw_tbl := List.mem_of_getElem? (i := 755) (by decide +kernel)
theorem fl_X6_22 : Cond.fieldLink RX6 22 RX6 (TX6 7).2.1 (TX6 7).2.2.1 ∈ lw_tbl := List.mem_of_getElem? (i := 756) (by decide +kernel)
theorem fl_X6_26 : Cond.fieldLink RX6 26 RX6 (TX6 8).2.1 (TX6 8).2.2.1 ∈ lw_tbl := List.mem_of_getElem? (i := 757) (by decide +kernel)
theorem fl_X6_29 : Cond.fieldLink RX6 29 RX6 (TX6 10).2.1 (TX6 10).2.2.1 ∈ lw_tbl := List.mem_of_getElem? (i := 759) (by decide +kernel)
theorem fl_X6_32 : Cond.fieldLink RX6 32 RX6 (TX6 11).2.1 (TX6 11).2.2.1 ∈ lw_tbl := List.mem_of_getElem? (i := 760) (by decide +kernel)
theorem fl_X6_35 : Cond.fieldLink RX6 35 RX6 (TX6 12).2.1 (TX6 12).2.2.1 ∈ lw_tbl := List.mem_of_getElem? (i := 761) (by decide +kernel)
theorem fl_X6_38 : Cond.fieldLink RX6 38 RX6 (TX6 14).2.1 (TX6 14).2.2.1 ∈ lw_tbl := List.mem_of_getElem? (i := 763) (by decide +kernel)
theorem fl_X6_41 : Cond.fieldLink RX6 41 RX6 (TX6 15).2.1 (TX6 15).2.2.1 ∈ lw_tbl := List.mem_of_getElem? (i := 764) (by decide +kernel)
theorem fl_X6_44 : Cond.fieldLink RX6 44 RX6 (TX6 16).2.1 (TX6 16).2.2.1 ∈ lw_tbl := List.mem_of_getElem? (i := 765) (by decide +kernel)
theorem fl_X6_47 : Cond.fieldLink RX6 47 RX6 (TX6 17).2.1 (TX6 17).2.2.1 ∈ lw_tbl := List.mem_of_getElem? (i := 766) (by decide +kernel)
theorem fl_X6_50 : Cond.fieldLink RX6 50 RX6 (TX6 18).2.1 (TX6 18).2.2.1 ∈ lw_tbl := List.mem_of_getElem? (i := 767) (by decide +kernel)
theorem fl_X6_53 : Cond.fieldLink RX6 53 RX6 (TX6 19).2.1 (TX6 19).2.2.1 ∈ lw_tbl := List.mem_of_getElem? (i := 768) (by decide +kernel)
theorem fl_X6_56 : Cond.fieldLink RX6 56 RX6 (TX6 20).2.1 (TX6 20).2.2.1 ∈ lw_tbl := List.mem_of_getElem? (i := 769) (by decide +kernel)
theorem fl_X6_59 : Cond.fieldLink RX6 59 RX6 (TX6 21).2.1 (TX6 21).2.2.1 ∈ lw_tbl := List.mem_of_getElem? (i := 770) (by decide +kernel)
theorem fl_X6_62 : Cond.fieldLink RX6 62 RX6 (TX6 22).2.1 (TX6 22).2.2.1 ∈ lw_tbl := List.mem_of_getElem? (i := 771) (by decide +kernel)
theorem fl_X6_65 : Cond.fieldLink RX6 65 RX6 (TX6 23).2.1 (TX6 23).2.2.1 ∈ lw_tbl := List.mem_of_getElem? (i := 772) (by decide +kernel)
theorem fl_X6_68 : Cond.fieldLink RX6 68 RX6 (TX6 24).2.1 (TX6 24).2.2.1 ∈ lw_tbl := List.mem_of_getElem? (i := 773) (by decide +kernel)
theorem fl_X6_71 : Cond.fieldLink RX6 71 RX6 (TX6 26).2.1 (TX6 26).2.2.1 ∈ lw_tbl := List.mem_of_getElem? (i := 775) (by decide +kernel)
theorem fl_X6_74 : Cond.fieldLink RX6 74 RX6 (TX6 27).2.1 (TX6 27).2.2.1 ∈ lw_tbl := List.mem_of_getElem? (i := 776) (by decide +kernel)
theorem fl_X6_77 : Cond.fieldLink RX6 77 RX6 (TX6 29).2.1 (TX6 29).2.2.1 ∈ lw_tbl := List.mem_of_getElem? (i := 778) (by decide +kernel)
theorem fl_X6_80 : Cond.fieldLink RX6 80 RX6 (TX6 30).2.1 (TX6 30).2.2.1 ∈ lw_tbl := List.mem_of_getElem? (i := 779) (by decide +kernel)
theorem fl_X6_83 : Cond.fieldLink RX6 83 RX6 (TX6 31).2.1 (TX6 31).2.2.1 ∈ lw_tbl := List.mem_of_getElem? (i := 780) (by decide +kernel)
theorem fl_X6_86 : Cond.fieldLink RX6 86 RX6 (TX6 32).2.1 (TX6 32).2.2.1 ∈ lw_tbl := List.mem_of_getElem? (i := 781) (by decide +kernel)
theorem fl_X6_89 : Cond.fieldLink RX6 89 RX6 (TX6 33).2.1 (TX6 33).2.2.1 ∈ lw_tbl := List.mem_of_getElem? (i := 782) (by decide +kernel)
theorem fl_X6_92 : Cond.fieldLink RX6 92 RX6 (TX6 34).2.1 (TX6 34).2.2.1 ∈ lw_tbl := List.mem_of_getElem? (i := 783) (by decide +kernel)
theorem fl_X6_95 : Cond.fieldLink RX6 95 RX6 (TX6 35).2.1 (TX6 35).2.2.1 ∈ lw_tbl := List.mem_of_getElem? (i := 784) (by decide +kernel)
theorem fl_X6_98 : Cond.fieldLink RX6 98 RX6 (TX6 36).2.1 (TX6 36).2.2.1 ∈ lw_tbl := List.mem_of_getElem? (i := 785) (by decide +kernel)
theorem fl_X6_101 : Cond.fieldLink RX6 101 RX6 (TX6 37).2.1 (TX6 37).2.2.1 ∈ lw_tbl := List.mem_of_getElem? (i := 786) (by decide +kernel)
theorem fl_X6_104 : Cond.fieldLink RX6 104 RX6 (TX6 0).2.1 (TX6 0).2.2.1 ∈ lw_tbl := List.mem_of_getElem? (i := 749) (by decide +kernel)
theorem fl_X6_108 : Cond.fieldLink RX6 108 RX6 (TX6 2).2.1 (TX6 2).2.2.1 ∈ lw_tbl := List.mem_of_getElem? (i := 751) (by decide +kernel)
theorem fl_X6_115 : Cond.fieldLink RX6 115 RX6 (TX6 9).2.1 (TX6 9).2.2.1 ∈ lw_tbl := List.mem_of_getElem? (i := 758) (by decide +kernel)
theorem fl_X6_118 : Cond.fieldLink RX6 118 RX6 (TX6 13).2.1 (TX6 13).2.2.1 ∈ lw_tbl := List.mem_of_getElem? (i := 762) (by decide +kernel)
theorem fl_X6_121 : Cond.fieldLink RX6 121 RX6 (TX6 25).2.1 (TX6 25).2.2.1 ∈ lw_tbl := List.mem_of_getElem? (i := 774) (by decide +kernel)
theorem fl_X6_124 : Cond.fieldLink RX6 124 RX6 (TX6 28).2.1 (TX6 28).2.2.1 ∈ lw_tbl := List.mem_of_getElem? (i := 777) (by decide +kernel)
theorem fl_X6_142 : Cond.fieldLink RX6 142 RX6 (TX6 1).2.1 (TX6 1).2.2.1 ∈ lw_tbl := List.mem_of_getElem? (i := 750) (by decide +kernel)
theorem fn_X5_76 : Cond.fieldLinkNest RX5 76 RX0 (TX0 4).2.1 (TX0 4).2.2.1 RX5 ∈ lw_tbl := List.mem_of_getElem? (i := 218) (by decide +kernel)
theorem fn_X5_94 : Cond.fieldLinkNest RX5 94 RX4 (TX4 2).2.1 (TX4 2).2.2.1 RX5 ∈ lw_tbl := List.mem_of_getElem? (i := 284) (by decide +kernel)
theorem fn_X5_97 : Cond.fieldLinkNest RX5 97 RX4 (TX4 1).2.1 (TX4 1).2.2.1 RX5 ∈ lw_tbl := List.mem_of_getElem? (i := 282) (by decide +kernel)
theorem fn_X5_112 : Cond.fieldLinkNest RX5 112 RX3 (TX3 3).2.1 (TX3 3).2.2.1 RX5 ∈ lw_tbl := List.mem_of_getElem? (i := 331) (by decide +kernel)
theorem fn_X5_118 : Cond.fieldLinkNest RX5 118 RX3 (TX3 4).2.1 (TX3 4).2.2.1 RX5 ∈ lw_tbl := List.mem_of_getElem? (i := 333) (by decide +kernel)
theorem fn_X5_124 : Cond.fieldLinkNest RX5 124 RX3 (TX3 0).2.1 (TX3 0).2.2.1 RX5 ∈ lw_tbl := List.mem_of_getElem? (i := 325) (by decide +kernel)
theorem fn_X5_128 : Cond.fieldLinkNest RX5 128 RX3 (TX3 1).2.1 (TX3 1).2.2.1 RX5 ∈ lw_tbl := List.mem_of_getElem? (i := 327) (by decide +kernel)
theorem fn_X5_131 : Cond.fieldLinkNest RX5 131 RX3 (TX3 2).2.1 (TX3 2).2.2.1 RX5 ∈ lw_tbl := List.mem_of_getElem? (i := 329) (by decide +kernel)
theorem fn_X5_134 : Cond.fieldLinkNest RX5 134 RX3 (TX3 5).2.1 (TX3 5).2.2.1 RX5 ∈ lw_tbl := List.mem_of_getElem? (i := 335) (by decide +kernel)
theorem fn_X5_143 : Cond.fieldLinkNest RX5 143 RX3 (TX3 6).2.1 (TX3 6).2.2.1 RX5 ∈ lw_tbl := List.mem_of_getElem? (i := 337) (by decide +kernel)
theorem fn_X5_160 : Cond.fieldLinkNest RX5 160 RX2 (TX2 2).2.1 (TX2 2).2.2.1 RX5 ∈ lw_tbl := List.mem_of_getElem? (i := 508) (by decide +kernel)
theorem fn_X5_169 : Cond.fieldLinkNest RX5 169 RX3 (TX3 7).2.1 (TX3 7).2.2.1 RX5 ∈ lw_tbl := List.mem_of_getElem? (i := 339) (by decide +kernel)
theorem fn_X5_173 : Cond.fieldLinkNest RX5 173 RX3 (TX3 8).2.1 (TX3 8).2.2.1 RX5 ∈ lw_tbl := List.mem_of_getElem? (i := 341) (by decide +kernel)
theorem fn_X5_178 : Cond.fieldLinkNest RX5 178 RX2 (TX2 0).2.1 (TX2 0).2.2.1 RX5 ∈ lw_tbl := List.mem_of_getElem? (i := 505) (by decide +kernel)
theorem fn_X5_181 : Cond.fieldLinkNest RX5 181 RX3 (TX3 9).2.1 (TX3 9).2.2.1 RX5 ∈ lw_tbl := List.mem_of_getElem? (i := 343) (by decide +kernel)
theorem fn_X5_198 : Cond.fieldLinkNest RX5 198 RX1 (TX1 6).2.1 (TX1 6).2.2.1 RX5 ∈ lw_tbl := List.mem_of_getElem? (i := 589) (by decide +kernel)
theorem fn_X5_201 : Cond.fieldLinkNest RX5 201 RX1 (TX1 7).2.1 (TX1 7).2.2.1 RX5 ∈ lw_tbl := List.mem_of_getElem? (i := 591) (by decide +kernel)
theorem fn_X5_210 : Cond.fieldLinkNest RX5 210 RX1 (TX1 8).2.1 (TX1 8).2.2.1 RX5 ∈ lw_tbl := List.mem_of_getElem? (i := 593) (by decide +kernel)
theorem fn_X5_223 : Cond.fieldLinkNest RX5 223 RX1 (TX1 5).2.1 (TX1 5).2.2.1 RX5 ∈ lw_tbl := List.mem_of_getElem? (i := 587) (by decide +kernel)
theorem fn_X5_226 : Cond.fieldLinkNest RX5 226 RX1 (TX1 1).2.1 (TX1 1).2.2.1 RX5 ∈ lw_tbl := List.mem_of_getElem? (i := 579) (by decide +kernel)
theorem fn_X5_234 : Cond.fieldLinkNest RX5 234 RX3 (TX3 10).2.1 (TX3 10).2.2.1 RX5 ∈ lw_tbl := List.mem_of_getElem? (i := 344) (by decide +kernel)
theorem fn_X5_263 : Cond.fieldLinkNest RX5 263 RX1 (TX1 0).2.1 (TX1 0).2.2.1 RX5 ∈ lw_tbl := List.mem_of_getElem? (i := 577) (by decide +kernel)
theorem fn_X5_266 : Cond.fieldLinkNest RX5 266 RX1 (TX1 2).2.1 (TX1 2).2.2.1 RX5 ∈ lw_tbl := List.mem_of_getElem? (i := 581) (by decide +kernel)
theorem fn_X5_269 : Cond.fieldLinkNest RX5 269 RX1 (TX1 3).2.1 (TX1 3).2.2.1 RX5 ∈ lw_tbl := List.mem_of_getElem? (i := 583) (by decide +kernel)
theorem fn_X5_270 : Cond.fieldLinkNest RX5 270 RX1 (TX1 4).2.1 (TX1 4).2.2.1 RX5 ∈ lw_tbl := List.mem_of_getElem? (i := 585) (by decide +kernel)
theorem fn_X5_298 : Cond.fieldLinkNest RX5 298 RX0 (TX0 2).2.1 (TX0 2).2.2.1 RX5 ∈ lw_tbl := List.mem_of_getElem? (i := 216) (by decide +kernel)
theorem cl_X5_9 : Cond.classLink RX5 9 RX0 ∈ lw_tbl := List.mem_of_getElem? (i := 64) (by decide +kernel)
theorem cl_X5_15 : Cond.classLink RX5 15 RX4 ∈ lw_tbl := List.mem_of_getElem? (i := 66) (by decide +kernel)
theorem cl_X5_21 : Cond.classLink RX5 21 RX3 ∈ lw_tbl := List.mem_of_getElem? (i := 68) (by decide +kernel)
theorem cl_X5_27 : Cond.classLink RX5 27 RX2 ∈ lw_tbl := List.mem_of_getElem? (i := 70) (by decide +kernel)
theorem cl_X5_33 : Cond.classLink RX5 33 RX1 ∈ lw_tbl := List.mem_of_getElem? (i := 72) (by decide +kernel)
theorem cl_X5_47 : Cond.classLink RX5 47 "java/lang/IllegalStateException" ∈ lw_tbl := List.mem_of_getElem? (i := 192) (by decide +kernel)
theorem cl_X5_61 : Cond.classLink RX5 61 "java/lang/IllegalArgumentException" ∈ lw_tbl := List.mem_of_getElem? (i := 124) (by decide +kernel)
theorem cl_X5_229 : Cond.classLink RX5 229 "java/lang/IndexOutOfBoundsException" ∈ lw_tbl := List.mem_of_getElem? (i := 242) (by decide +kernel)
theorem cl_L_8 : Cond.classLink RL 8 RX5 ∈ lw_tbl := List.mem_of_getElem? (i := 56) (by decide +kernel)
theorem cl_L_13 : Cond.classLink RL 13 "java/lang/IllegalArgumentException" ∈ lw_tbl := List.mem_of_getElem? (i := 115) (by decide +kernel)
theorem cl_L_15 : Cond.classLink RL 15 "java/lang/IllegalStateException" ∈ lw_tbl := List.mem_of_getElem? (i := 116) (by decide +kernel)
theorem cl_L_21 : Cond.classLink RL 21 "java/lang/IndexOutOfBoundsException" ∈ lw_tbl := List.mem_of_getElem? (i := 233) (by decide +kernel)
theorem cl_L_117 : Cond.classLink RL 117 RX6 ∈ lw_tbl := List.mem_of_getElem? (i := 743) (by decide +kernel)
theorem in_L : Cond.initialized RL ∈ lw_tbl := List.mem_of_getElem? (i := 40) (by decide +kernel)
theorem in_X5 : Cond.initialized RX5 ∈ lw_tbl := List.mem_of_getElem? (i := 41) (by decide +kernel)
theorem in_X6 : Cond.initialized RX6 ∈ lw_tbl := List.mem_of_getElem? (i := 42) (by decide +kernel)
theorem in_IA : Cond.initialized "java/lang/IllegalArgumentException" ∈ lw_tbl := List.mem_of_getElem? (i := 46) (by decide +kernel)
theorem in_IS : Cond.initialized "java/lang/IllegalStateException" ∈ lw_tbl := List.mem_of_getElem? (i := 47) (by decide +kernel)
theorem in_X0 : Cond.initialized RX0 ∈ lw_tbl := List.mem_of_getElem? (i := 48) (by decide +kernel)
theorem in_IO : Cond.initialized "java/lang/IndexOutOfBoundsException" ∈ lw_tbl := List.mem_of_getElem? (i := 49) (by decide +kernel)
theorem in_X4 : Cond.initialized RX4 ∈ lw_tbl := List.mem_of_getElem? (i := 50) (by decide +kernel)
theorem in_X3 : Cond.initialized RX3 ∈ lw_tbl := List.mem_of_getElem? (i := 51) (by decide +kernel)
theorem in_X2 : Cond.initialized RX2 ∈ lw_tbl := List.mem_of_getElem? (i := 53) (by decide +kernel)
theorem in_X1 : Cond.initialized RX1 ∈ lw_tbl := List.mem_of_getElem? (i := 54) (by decide +kernel)
theorem in_Math : Cond.initialized "java/lang/Math" ∈ lw_tbl := List.mem_of_getElem? (i := 55) (by decide +kernel)
theorem nw_X5 : Cond.instantiable RX5 11 ∈ lw_tbl := List.mem_of_getElem? (i := 57) (by decide +kernel)
theorem nw_X0 : Cond.instantiable RX0 5 ∈ lw_tbl := List.mem_of_getElem? (i := 208) (by decide +kernel)
theorem nw_X4 : Cond.instantiable RX4 3 ∈ lw_tbl := List.mem_of_getElem? (i := 275) (by decide +kernel)
theorem nw_X3 : Cond.instantiable RX3 11 ∈ lw_tbl := List.mem_of_getElem? (i := 319) (by decide +kernel)
theorem nw_X2 : Cond.instantiable RX2 3 ∈ lw_tbl := List.mem_of_getElem? (i := 499) (by decide +kernel)
theorem nw_X1 : Cond.instantiable RX1 9 ∈ lw_tbl := List.mem_of_getElem? (i := 571) (by decide +kernel)
theorem nw_X6 : Cond.instantiable RX6 38 ∈ lw_tbl := List.mem_of_getElem? (i := 744) (by decide +kernel)
theorem sr_X5_49 : Cond.stringRef RX5 49 "there are 6 acts" ∈ lw_tbl := List.mem_of_getElem? (i := 201) (by decide +kernel)
theorem sr_X5_63 : Cond.stringRef RX5 63 "an act is not more special than itself" ∈ lw_tbl := List.mem_of_getElem? (i := 258) (by decide +kernel)
theorem sr_X5_74 : Cond.stringRef RX5 74 "the other act is more special" ∈ lw_tbl := List.mem_of_getElem? (i := 266) (by decide +kernel)
theorem sr_X5_82 : Cond.stringRef RX5 82 "there are 12 standards" ∈ lw_tbl := List.mem_of_getElem? (i := 274) (by decide +kernel)
theorem sr_X5_103 : Cond.stringRef RX5 103 "there are 10 products" ∈ lw_tbl := List.mem_of_getElem? (i := 318) (by decide +kernel)
theorem sr_X5_141 : Cond.stringRef RX5 141 "more than the declaration is wanting" ∈ lw_tbl := List.mem_of_getElem? (i := 490) (by decide +kernel)
theorem sr_X5_149 : Cond.stringRef RX5 149 "there are 5 bodies" ∈ lw_tbl := List.mem_of_getElem? (i := 498) (by decide +kernel)
theorem sr_X5_167 : Cond.stringRef RX5 167 "more than the certificate is wanting" ∈ lw_tbl := List.mem_of_getElem? (i := 541) (by decide +kernel)
theorem sr_X5_176 : Cond.stringRef RX5 176 "no certificate of another body" ∈ lw_tbl := List.mem_of_getElem? (i := 549) (by decide +kernel)
theorem sr_X5_187 : Cond.stringRef RX5 187 "something is wanting" ∈ lw_tbl := List.mem_of_getElem? (i := 565) (by decide +kernel)
theorem sr_X5_217 : Cond.stringRef RX5 217 "last is below first" ∈ lw_tbl := List.mem_of_getElem? (i := 661) (by decide +kernel)
theorem sr_X5_231 : Cond.stringRef RX5 231 "no such state" ∈ lw_tbl := List.mem_of_getElem? (i := 673) (by decide +kernel)
theorem sr_X5_243 : Cond.stringRef RX5 243 "the days end at 5000" ∈ lw_tbl := List.mem_of_getElem? (i := 681) (by decide +kernel)
theorem sr_X5_261 : Cond.stringRef RX5 261 "what is out of range" ∈ lw_tbl := List.mem_of_getElem? (i := 721) (by decide +kernel)
theorem sr_X5_273 : Cond.stringRef RX5 273 "no such act" ∈ lw_tbl := List.mem_of_getElem? (i := 251) (by decide +kernel)
theorem sr_X5_275 : Cond.stringRef RX5 275 "no such standard" ∈ lw_tbl := List.mem_of_getElem? (i := 303) (by decide +kernel)
theorem sr_X5_277 : Cond.stringRef RX5 277 "no such product" ∈ lw_tbl := List.mem_of_getElem? (i := 380) (by decide +kernel)
theorem sr_X5_279 : Cond.stringRef RX5 279 "no such body" ∈ lw_tbl := List.mem_of_getElem? (i := 527) (by decide +kernel)
theorem sr_X5_281 : Cond.stringRef RX5 281 "no such batch" ∈ lw_tbl := List.mem_of_getElem? (i := 631) (by decide +kernel)
theorem sr_X5_283 : Cond.stringRef RX5 283 "no such hazard" ∈ lw_tbl := List.mem_of_getElem? (i := 399) (by decide +kernel)
theorem sr_X5_285 : Cond.stringRef RX5 285 "an argument is out of range" ∈ lw_tbl := List.mem_of_getElem? (i := 165) (by decide +kernel)
theorem sr_X5_290 : Cond.stringRef RX5 290 "the body is suspended or lacks an act" ∈ lw_tbl := List.mem_of_getElem? (i := 540) (by decide +kernel)
theorem sr_X5_323 : Cond.stringRef RX5 323 "there are 40 batches" ∈ lw_tbl := List.mem_of_getElem? (i := 570) (by decide +kernel)
theorem ck_X5_197 : Cond.constant RX5 197 (100000) ∈ lw_tbl := List.mem_of_getElem? (i := 632) (by decide +kernel)
theorem ck_X6_138 : Cond.constant RX6 138 (1000000) ∈ lw_tbl := List.mem_of_getElem? (i := 896) (by decide +kernel)
theorem ck_X6_196 : Cond.constant RX6 196 (100000) ∈ lw_tbl := List.mem_of_getElem? (i := 1028) (by decide +kernel)
theorem ck_Int_265 : Cond.constant "java/lang/Integer" 265 (1431655765) ∈ lw_tbl := List.mem_of_getElem? (i := 455) (by decide +kernel)
theorem ck_Int_266 : Cond.constant "java/lang/Integer" 266 (858993459) ∈ lw_tbl := List.mem_of_getElem? (i := 456) (by decide +kernel)
theorem ck_Int_267 : Cond.constant "java/lang/Integer" 267 (252645135) ∈ lw_tbl := List.mem_of_getElem? (i := 457) (by decide +kernel)
theorem kl_X1_43 : Cond.constantLong RX1 43 (1000) ∈ lw_tbl := List.mem_of_getElem? (i := 651) (by decide +kernel)
theorem kl_X1_45 : Cond.constantLong RX1 45 (50) ∈ lw_tbl := List.mem_of_getElem? (i := 652) (by decide +kernel)
theorem kl_X1_47 : Cond.constantLong RX1 47 (10) ∈ lw_tbl := List.mem_of_getElem? (i := 653) (by decide +kernel)
theorem ac_byte : Cond.arrayClass .byte ∈ lw_tbl := List.mem_of_getElem? (i := 191) (by decide +kernel)
theorem ac_int : Cond.arrayClass .int ∈ lw_tbl := List.mem_of_getElem? (i := 368) (by decide +kernel)
theorem ac_boolean : Cond.arrayClass .boolean ∈ lw_tbl := List.mem_of_getElem? (i := 864) (by decide +kernel)
theorem ac_long : Cond.arrayClass .long ∈ lw_tbl := List.mem_of_getElem? (i := 1093) (by decide +kernel)
theorem ao_X0 : Cond.arrayOver (.object RX0) ∈ lw_tbl := List.mem_of_getElem? (i := 65) (by decide +kernel)
theorem ao_X4 : Cond.arrayOver (.object RX4) ∈ lw_tbl := List.mem_of_getElem? (i := 67) (by decide +kernel)
theorem ao_X3 : Cond.arrayOver (.object RX3) ∈ lw_tbl := List.mem_of_getElem? (i := 69) (by decide +kernel)
theorem ao_X2 : Cond.arrayOver (.object RX2) ∈ lw_tbl := List.mem_of_getElem? (i := 71) (by decide +kernel)
theorem ao_X1 : Cond.arrayOver (.object RX1) ∈ lw_tbl := List.mem_of_getElem? (i := 73) (by decide +kernel)
theorem ca_IA : Cond.castable "java/lang/IllegalArgumentException" "java/lang/IllegalArgumentException" ∈ lw_tbl := List.mem_of_getElem? (i := 126) (by decide +kernel)
theorem ca_IS : Cond.castable "java/lang/IllegalStateException" "java/lang/IllegalStateException" ∈ lw_tbl := List.mem_of_getElem? (i := 194) (by decide +kernel)
theorem ca_IO : Cond.castable "java/lang/IndexOutOfBoundsException" "java/lang/IndexOutOfBoundsException" ∈ lw_tbl := List.mem_of_getElem? (i := 244) (by decide +kernel)
theorem w_oi1 : Cond.instanceMethod objectInit ∈ lw_tbl := List.mem_of_getElem? (i := 62) (by decide +kernel)
theorem w_oi2 : Cond.code objectInit ⟨#[0xb1]⟩ 1 none ∈ lw_tbl := List.mem_of_getElem? (i := 63) (by decide +kernel)
theorem w_mx1 : Cond.static Lib.Math.max.name ∈ lw_tbl := List.mem_of_getElem? (i := 641) (by decide +kernel)
theorem w_mx2 : Cond.code Lib.Math.max.name Lib.Math.max.code 2 (some .int) ∈ lw_tbl := List.mem_of_getElem? (i := 642) (by decide +kernel)
theorem at_IA : ∀ w ∈ vx_atS RX5 65 "java/lang/IllegalArgumentException" ["java/lang/RuntimeException", "java/lang/Exception"], w ∈ lw_tbl ∧ (goodWord w || dcW w) = true := by decide +kernel
theorem gd_IA : ∀ w ∈ Cond.classLink RX5 61 "java/lang/IllegalArgumentException" :: Cond.initialized "java/lang/IllegalArgumentException" :: vx_atS RX5 65 "java/lang/IllegalArgumentException" ["java/lang/RuntimeException", "java/lang/Exception"], vx_ot w = true := by decide +kernel
theorem ft_IA : Bundle.fit "java/lang/IllegalArgumentException" = true := by decide +kernel
theorem at_IS : ∀ w ∈ vx_atS RX5 51 "java/lang/IllegalStateException" ["java/lang/RuntimeException", "java/lang/Exception"], w ∈ lw_tbl ∧ (goodWord w || dcW w) = true := by decide +kernel
theorem gd_IS : ∀ w ∈ Cond.classLink RX5 47 "java/lang/IllegalStateException" :: Cond.initialized "java/lang/IllegalStateException" :: vx_atS RX5 51 "java/lang/IllegalStateException" ["java/lang/RuntimeException", "java/lang/Exception"], vx_ot w = true := by decide +kernel
theorem ft_IS : Bundle.fit "java/lang/IllegalStateException" = true := by decide +kernel
theorem at_IO : ∀ w ∈ vx_atS RX5 233 "java/lang/IndexOutOfBoundsException" ["java/lang/RuntimeException", "java/lang/Exception"], w ∈ lw_tbl ∧ (goodWord w || dcW w) = true := by decide +kernel
theorem gd_IO : ∀ w ∈ Cond.classLink RX5 229 "java/lang/IndexOutOfBoundsException" :: Cond.initialized "java/lang/IndexOutOfBoundsException" :: vx_atS RX5 233 "java/lang/IndexOutOfBoundsException" ["java/lang/RuntimeException", "java/lang/Exception"], vx_ot w = true := by decide +kernel
theorem ft_IO : Bundle.fit "java/lang/IndexOutOfBoundsException" = true := by decide +kernel
