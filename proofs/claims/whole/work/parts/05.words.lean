theorem FTX0 : FT 0 RX0 TX0 3 tyX0 := ⟨rfl, fun w h => in_tb (inX0 w h) (List.all_eq_true.mp (show (u_ws RX0 TX0 3).all goodWord = true by decide +kernel) w h), tyX0_ok, nmX0⟩
theorem FTX1 : FT 1 RX1 TX1 4 tyX1 := ⟨rfl, fun w h => in_tb (inX1 w h) (List.all_eq_true.mp (show (u_ws RX1 TX1 4).all goodWord = true by decide +kernel) w h), tyX1_ok, nmX1⟩
theorem FTX2 : FT 2 RX2 TX2 6 tyX2 := ⟨rfl, fun w h => in_tb (inX2 w h) (List.all_eq_true.mp (show (u_ws RX2 TX2 6).all goodWord = true by decide +kernel) w h), tyX2_ok, nmX2⟩
theorem FTX3 : FT 3 RX3 TX3 3 tyX3 := ⟨rfl, fun w h => in_tb (inX3 w h) (List.all_eq_true.mp (show (u_ws RX3 TX3 3).all goodWord = true by decide +kernel) w h), tyX3_ok, nmX3⟩
theorem FTX4 : FT 4 RX4 TX4 11 tyX4 := ⟨rfl, fun w h => in_tb (inX4 w h) (List.all_eq_true.mp (show (u_ws RX4 TX4 11).all goodWord = true by decide +kernel) w h), tyX4_ok, nmX4⟩
theorem FTX5 : FT 5 RX5 TX5 2 tyX5 := ⟨rfl, fun w h => in_tb (inX5 w h) (List.all_eq_true.mp (show (u_ws RX5 TX5 2).all goodWord = true by decide +kernel) w h), tyX5_ok, nmX5⟩
theorem FTX6 : FT 6 RX6 TX6 4 tyX6 := ⟨rfl, fun w h => in_tb (inX6 w h) (List.all_eq_true.mp (show (u_ws RX6 TX6 4).all goodWord = true by decide +kernel) w h), tyX6_ok, nmX6⟩
theorem FTX7 : FT 7 RX7 TX7 7 tyX7 := ⟨rfl, fun w h => in_tb (inX7 w h) (List.all_eq_true.mp (show (u_ws RX7 TX7 7).all goodWord = true by decide +kernel) w h), tyX7_ok, nmX7⟩
theorem FTX8 : FT 8 RX8 TX8 6 tyX8 := ⟨rfl, fun w h => in_tb (inX8 w h) (List.all_eq_true.mp (show (u_ws RX8 TX8 6).all goodWord = true by decide +kernel) w h), tyX8_ok, nmX8⟩
theorem cl_L_7 : Cond.classLink RL 7 RX7 ∈ lw_tb := in_tb (List.mem_of_getElem? (i := 50) (by decide +kernel)) rfl
theorem ml_L_9 : Cond.methodLink RL 9 yX7_init ∈ lw_tb := in_tb (List.mem_of_getElem? (i := 52) (by decide +kernel)) rfl
theorem cl_L_10 : Cond.classLink RL 10 RX8 ∈ lw_tb := in_tb (List.mem_of_getElem? (i := 648) (by decide +kernel)) rfl
theorem ml_L_12 : Cond.methodLink RL 12 yX8_init ∈ lw_tb := in_tb (List.mem_of_getElem? (i := 650) (by decide +kernel)) rfl
theorem ml_L_13 : Cond.methodLink RL 13 yX7_setLimit ∈ lw_tb := in_tb (List.mem_of_getElem? (i := 285) (by decide +kernel)) rfl
theorem ml_L_17 : Cond.methodLink RL 17 yX8_setLimit ∈ lw_tb := in_tb (List.mem_of_getElem? (i := 673) (by decide +kernel)) rfl
theorem ml_L_18 : Cond.methodLink RL 18 yX7_ask ∈ lw_tb := in_tb (List.mem_of_getElem? (i := 344) (by decide +kernel)) rfl
theorem ml_L_22 : Cond.methodLink RL 22 yX8_ask ∈ lw_tb := in_tb (List.mem_of_getElem? (i := 711) (by decide +kernel)) rfl
theorem ml_L_23 : Cond.methodLink RL 23 yX7_bring ∈ lw_tb := in_tb (List.mem_of_getElem? (i := 361) (by decide +kernel)) rfl
theorem ml_L_26 : Cond.methodLink RL 26 yX8_bring ∈ lw_tb := in_tb (List.mem_of_getElem? (i := 718) (by decide +kernel)) rfl
theorem ml_L_27 : Cond.methodLink RL 27 yX7_label ∈ lw_tb := in_tb (List.mem_of_getElem? (i := 369) (by decide +kernel)) rfl
theorem ml_L_30 : Cond.methodLink RL 30 yX8_label ∈ lw_tb := in_tb (List.mem_of_getElem? (i := 737) (by decide +kernel)) rfl
theorem ml_L_31 : Cond.methodLink RL 31 yX7_takeDown ∈ lw_tb := in_tb (List.mem_of_getElem? (i := 399) (by decide +kernel)) rfl
theorem ml_L_34 : Cond.methodLink RL 34 yX8_takeDown ∈ lw_tb := in_tb (List.mem_of_getElem? (i := 722) (by decide +kernel)) rfl
theorem ml_L_35 : Cond.methodLink RL 35 yX7_setNeeded ∈ lw_tb := in_tb (List.mem_of_getElem? (i := 411) (by decide +kernel)) rfl
theorem ml_L_39 : Cond.methodLink RL 39 yX8_setNeeded ∈ lw_tb := in_tb (List.mem_of_getElem? (i := 733) (by decide +kernel)) rfl
theorem ml_L_40 : Cond.methodLink RL 40 yX7_rewrite ∈ lw_tb := in_tb (List.mem_of_getElem? (i := 415) (by decide +kernel)) rfl
theorem ml_L_44 : Cond.methodLink RL 44 yX8_rewrite ∈ lw_tb := in_tb (List.mem_of_getElem? (i := 757) (by decide +kernel)) rfl
theorem ml_L_45 : Cond.methodLink RL 45 yX7_vote ∈ lw_tb := in_tb (List.mem_of_getElem? (i := 442) (by decide +kernel)) rfl
theorem ml_L_48 : Cond.methodLink RL 48 yX8_vote ∈ lw_tb := in_tb (List.mem_of_getElem? (i := 776) (by decide +kernel)) rfl
theorem ml_L_49 : Cond.methodLink RL 49 yX7_endWeek ∈ lw_tb := in_tb (List.mem_of_getElem? (i := 463) (by decide +kernel)) rfl
theorem ml_L_53 : Cond.methodLink RL 53 yX8_endWeek ∈ lw_tb := in_tb (List.mem_of_getElem? (i := 788) (by decide +kernel)) rfl
theorem ml_L_54 : Cond.methodLink RL 54 yX7_type ∈ lw_tb := in_tb (List.mem_of_getElem? (i := 498) (by decide +kernel)) rfl
theorem ml_L_58 : Cond.methodLink RL 58 yX8_type ∈ lw_tb := in_tb (List.mem_of_getElem? (i := 796) (by decide +kernel)) rfl
theorem ml_L_59 : Cond.methodLink RL 59 yX7_clearText ∈ lw_tb := in_tb (List.mem_of_getElem? (i := 506) (by decide +kernel)) rfl
theorem ml_L_62 : Cond.methodLink RL 62 yX8_clearText ∈ lw_tb := in_tb (List.mem_of_getElem? (i := 800) (by decide +kernel)) rfl
theorem ml_L_63 : Cond.methodLink RL 63 yX7_undo ∈ lw_tb := in_tb (List.mem_of_getElem? (i := 510) (by decide +kernel)) rfl
theorem ml_L_66 : Cond.methodLink RL 66 yX8_undo ∈ lw_tb := in_tb (List.mem_of_getElem? (i := 804) (by decide +kernel)) rfl
theorem ml_L_67 : Cond.methodLink RL 67 yX7_keep ∈ lw_tb := in_tb (List.mem_of_getElem? (i := 518) (by decide +kernel)) rfl
theorem ml_L_70 : Cond.methodLink RL 70 yX8_keep ∈ lw_tb := in_tb (List.mem_of_getElem? (i := 808) (by decide +kernel)) rfl
theorem ml_L_71 : Cond.methodLink RL 71 yX7_restore ∈ lw_tb := in_tb (List.mem_of_getElem? (i := 528) (by decide +kernel)) rfl
theorem ml_L_74 : Cond.methodLink RL 74 yX8_restore ∈ lw_tb := in_tb (List.mem_of_getElem? (i := 816) (by decide +kernel)) rfl
theorem ml_L_75 : Cond.methodLink RL 75 yX7_labelOf ∈ lw_tb := in_tb (List.mem_of_getElem? (i := 532) (by decide +kernel)) rfl
theorem ml_L_78 : Cond.methodLink RL 78 yX8_labelOf ∈ lw_tb := in_tb (List.mem_of_getElem? (i := 820) (by decide +kernel)) rfl
theorem ml_L_79 : Cond.methodLink RL 79 yX7_letter ∈ lw_tb := in_tb (List.mem_of_getElem? (i := 540) (by decide +kernel)) rfl
theorem ml_L_82 : Cond.methodLink RL 82 yX8_letter ∈ lw_tb := in_tb (List.mem_of_getElem? (i := 824) (by decide +kernel)) rfl
theorem ml_L_83 : Cond.methodLink RL 83 yX7_rewriteOf ∈ lw_tb := in_tb (List.mem_of_getElem? (i := 544) (by decide +kernel)) rfl
theorem ml_L_86 : Cond.methodLink RL 86 yX8_rewriteOf ∈ lw_tb := in_tb (List.mem_of_getElem? (i := 828) (by decide +kernel)) rfl
theorem ml_L_87 : Cond.methodLink RL 87 yX7_ranked ∈ lw_tb := in_tb (List.mem_of_getElem? (i := 565) (by decide +kernel)) rfl
theorem ml_L_90 : Cond.methodLink RL 90 yX8_ranked ∈ lw_tb := in_tb (List.mem_of_getElem? (i := 844) (by decide +kernel)) rfl
theorem ml_L_91 : Cond.methodLink RL 91 yX7_room ∈ lw_tb := in_tb (List.mem_of_getElem? (i := 581) (by decide +kernel)) rfl
theorem ml_L_94 : Cond.methodLink RL 94 yX8_room ∈ lw_tb := in_tb (List.mem_of_getElem? (i := 848) (by decide +kernel)) rfl
theorem ml_L_95 : Cond.methodLink RL 95 yX7_visitor ∈ lw_tb := in_tb (List.mem_of_getElem? (i := 606) (by decide +kernel)) rfl
theorem ml_L_98 : Cond.methodLink RL 98 yX8_visitor ∈ lw_tb := in_tb (List.mem_of_getElem? (i := 860) (by decide +kernel)) rfl
theorem ml_L_99 : Cond.methodLink RL 99 yX7_labelsWith ∈ lw_tb := in_tb (List.mem_of_getElem? (i := 623) (by decide +kernel)) rfl
theorem ml_L_102 : Cond.methodLink RL 102 yX8_labelsWith ∈ lw_tb := in_tb (List.mem_of_getElem? (i := 876) (by decide +kernel)) rfl
theorem ml_L_103 : Cond.methodLink RL 103 yX7_count ∈ lw_tb := in_tb (List.mem_of_getElem? (i := 635) (by decide +kernel)) rfl
theorem ml_L_106 : Cond.methodLink RL 106 yX8_count ∈ lw_tb := in_tb (List.mem_of_getElem? (i := 884) (by decide +kernel)) rfl
theorem ml_X0_3 : Cond.methodLink RX0 3 Lib.objectInit ∈ lw_tb := in_tb (List.mem_of_getElem? (i := 248) (by decide +kernel)) rfl
theorem cl_X0_9 : Cond.classLink RX0 9 RX4 ∈ lw_tb := in_tb (List.mem_of_getElem? (i := 249) (by decide +kernel)) rfl
theorem fl_X0_11 : Cond.fieldLink RX0 11 RX0 (TX0 0).2.1 (TX0 0).2.2.1 ∈ lw_tb := in_tb (List.mem_of_getElem? (i := 252) (by decide +kernel)) rfl
theorem ml_X0_17 : Cond.methodLink RX0 17 yX4_init ∈ lw_tb := in_tb (List.mem_of_getElem? (i := 251) (by decide +kernel)) rfl
theorem fl_X0_18 : Cond.fieldLink RX0 18 RX0 (TX0 2).2.1 (TX0 2).2.2.1 ∈ lw_tb := in_tb (List.mem_of_getElem? (i := 255) (by decide +kernel)) rfl
theorem ml_X0_22 : Cond.methodLink RX0 22 yX4_copyFrom ∈ lw_tb := in_tb (List.mem_of_getElem? (i := 296) (by decide +kernel)) rfl
theorem fl_X0_26 : Cond.fieldLink RX0 26 RX0 (TX0 1).2.1 (TX0 1).2.2.1 ∈ lw_tb := in_tb (List.mem_of_getElem? (i := 253) (by decide +kernel)) rfl
theorem ml_X1_3 : Cond.methodLink RX1 3 Lib.objectInit ∈ lw_tb := in_tb (List.mem_of_getElem? (i := 179) (by decide +kernel)) rfl
theorem cl_X1_9 : Cond.classLink RX1 9 RX6 ∈ lw_tb := in_tb (List.mem_of_getElem? (i := 180) (by decide +kernel)) rfl
theorem fl_X1_12 : Cond.fieldLink RX1 12 RX1 (TX1 0).2.1 (TX1 0).2.2.1 ∈ lw_tb := in_tb (List.mem_of_getElem? (i := 182) (by decide +kernel)) rfl
theorem fl_X1_18 : Cond.fieldLink RX1 18 RX1 (TX1 1).2.1 (TX1 1).2.2.1 ∈ lw_tb := in_tb (List.mem_of_getElem? (i := 185) (by decide +kernel)) rfl
theorem fl_X1_22 : Cond.fieldLink RX1 22 RX6 (TX6 3).2.1 (TX6 3).2.2.1 ∈ lw_tb := in_tb (List.mem_of_getElem? (i := 87) (by decide +kernel)) rfl
theorem ml_X1_25 : Cond.methodLink RX1 25 yX6_copyFrom ∈ lw_tb := in_tb (List.mem_of_getElem? (i := 307) (by decide +kernel)) rfl
theorem fl_X1_29 : Cond.fieldLink RX1 29 RX1 (TX1 2).2.1 (TX1 2).2.2.1 ∈ lw_tb := in_tb (List.mem_of_getElem? (i := 187) (by decide +kernel)) rfl
theorem fl_X1_32 : Cond.fieldLink RX1 32 RX1 (TX1 3).2.1 (TX1 3).2.2.1 ∈ lw_tb := in_tb (List.mem_of_getElem? (i := 188) (by decide +kernel)) rfl
theorem ml_X1_35 : Cond.methodLink RX1 35 yX6_cutTo ∈ lw_tb := in_tb (List.mem_of_getElem? (i := 340) (by decide +kernel)) rfl
theorem fl_X1_39 : Cond.fieldLink RX1 39 RX6 (TX6 1).2.1 (TX6 1).2.2.1 ∈ lw_tb := in_tb (List.mem_of_getElem? (i := 84) (by decide +kernel)) rfl
theorem ml_X2_1 : Cond.methodLink RX2 1 Lib.objectInit ∈ lw_tb := in_tb (List.mem_of_getElem? (i := 123) (by decide +kernel)) rfl
theorem cl_X2_7 : Cond.classLink RX2 7 RX6 ∈ lw_tb := in_tb (List.mem_of_getElem? (i := 124) (by decide +kernel)) rfl
theorem fl_X2_10 : Cond.fieldLink RX2 10 RX2 (TX2 0).2.1 (TX2 0).2.2.1 ∈ lw_tb := in_tb (List.mem_of_getElem? (i := 126) (by decide +kernel)) rfl
theorem ml_X2_16 : Cond.methodLink RX2 16 yX6_copyFrom ∈ lw_tb := in_tb (List.mem_of_getElem? (i := 320) (by decide +kernel)) rfl
theorem fl_X2_20 : Cond.fieldLink RX2 20 RX2 (TX2 1).2.1 (TX2 1).2.2.1 ∈ lw_tb := in_tb (List.mem_of_getElem? (i := 130) (by decide +kernel)) rfl
theorem fl_X2_24 : Cond.fieldLink RX2 24 RX2 (TX2 2).2.1 (TX2 2).2.2.1 ∈ lw_tb := in_tb (List.mem_of_getElem? (i := 133) (by decide +kernel)) rfl
theorem fl_X2_27 : Cond.fieldLink RX2 27 RX2 (TX2 3).2.1 (TX2 3).2.2.1 ∈ lw_tb := in_tb (List.mem_of_getElem? (i := 137) (by decide +kernel)) rfl
theorem fl_X2_30 : Cond.fieldLink RX2 30 RX2 (TX2 4).2.1 (TX2 4).2.2.1 ∈ lw_tb := in_tb (List.mem_of_getElem? (i := 141) (by decide +kernel)) rfl
theorem fl_X2_33 : Cond.fieldLink RX2 33 RX2 (TX2 5).2.1 (TX2 5).2.2.1 ∈ lw_tb := in_tb (List.mem_of_getElem? (i := 144) (by decide +kernel)) rfl
theorem ml_X2_36 : Cond.methodLink RX2 36 yJ6_bitCount_0f7a4 ∈ lw_tb := in_tb (List.mem_of_getElem? (i := 462) (by decide +kernel)) rfl
theorem ml_X2_42 : Cond.methodLink RX2 42 yX2_votes ∈ lw_tb := in_tb (List.mem_of_getElem? (i := 484) (by decide +kernel)) rfl
theorem fl_X2_46 : Cond.fieldLink RX2 46 RX6 (TX6 3).2.1 (TX6 3).2.2.1 ∈ lw_tb := in_tb (List.mem_of_getElem? (i := 90) (by decide +kernel)) rfl
theorem ml_X3_3 : Cond.methodLink RX3 3 Lib.objectInit ∈ lw_tb := in_tb (List.mem_of_getElem? (i := 116) (by decide +kernel)) rfl
theorem cl_X3_9 : Cond.classLink RX3 9 RX2 ∈ lw_tb := in_tb (List.mem_of_getElem? (i := 117) (by decide +kernel)) rfl
theorem fl_X3_11 : Cond.fieldLink RX3 11 RX3 (TX3 0).2.1 (TX3 0).2.2.1 ∈ lw_tb := in_tb (List.mem_of_getElem? (i := 160) (by decide +kernel)) rfl
theorem fl_X3_18 : Cond.fieldLink RX3 18 RX3 (TX3 1).2.1 (TX3 1).2.2.1 ∈ lw_tb := in_tb (List.mem_of_getElem? (i := 161) (by decide +kernel)) rfl
theorem fl_X3_22 : Cond.fieldLink RX3 22 RX3 (TX3 2).2.1 (TX3 2).2.2.1 ∈ lw_tb := in_tb (List.mem_of_getElem? (i := 163) (by decide +kernel)) rfl
theorem ml_X3_25 : Cond.methodLink RX3 25 yX2_copyFrom ∈ lw_tb := in_tb (List.mem_of_getElem? (i := 316) (by decide +kernel)) rfl
theorem fl_X3_29 : Cond.fieldLink RX3 29 RX2 (TX2 1).2.1 (TX2 1).2.2.1 ∈ lw_tb := in_tb (List.mem_of_getElem? (i := 131) (by decide +kernel)) rfl
theorem ml_X3_32 : Cond.methodLink RX3 32 yX3_indexBy ∈ lw_tb := in_tb (List.mem_of_getElem? (i := 426) (by decide +kernel)) rfl
theorem ml_X3_36 : Cond.methodLink RX3 36 yX3_removeAt ∈ lw_tb := in_tb (List.mem_of_getElem? (i := 434) (by decide +kernel)) rfl
theorem ml_X3_40 : Cond.methodLink RX3 40 yX2_become ∈ lw_tb := in_tb (List.mem_of_getElem? (i := 438) (by decide +kernel)) rfl
theorem fl_X3_44 : Cond.fieldLink RX3 44 RX2 (TX2 3).2.1 (TX2 3).2.2.1 ∈ lw_tb := in_tb (List.mem_of_getElem? (i := 138) (by decide +kernel)) rfl
theorem fl_X3_47 : Cond.fieldLink RX3 47 RX2 (TX2 2).2.1 (TX2 2).2.2.1 ∈ lw_tb := in_tb (List.mem_of_getElem? (i := 134) (by decide +kernel)) rfl
theorem fl_X3_50 : Cond.fieldLink RX3 50 RX2 (TX2 5).2.1 (TX2 5).2.2.1 ∈ lw_tb := in_tb (List.mem_of_getElem? (i := 145) (by decide +kernel)) rfl
theorem ml_X3_53 : Cond.methodLink RX3 53 yX2_votes ∈ lw_tb := in_tb (List.mem_of_getElem? (i := 479) (by decide +kernel)) rfl
theorem fl_X3_57 : Cond.fieldLink RX3 57 RX2 (TX2 0).2.1 (TX2 0).2.2.1 ∈ lw_tb := in_tb (List.mem_of_getElem? (i := 128) (by decide +kernel)) rfl
theorem fl_X3_61 : Cond.fieldLink RX3 61 RX6 (TX6 3).2.1 (TX6 3).2.2.1 ∈ lw_tb := in_tb (List.mem_of_getElem? (i := 91) (by decide +kernel)) rfl
theorem ml_X3_64 : Cond.methodLink RX3 64 yX2_hasMoreVotesOrFewerWords ∈ lw_tb := in_tb (List.mem_of_getElem? (i := 480) (by decide +kernel)) rfl
theorem ml_X3_68 : Cond.methodLink RX3 68 yX3_aheadOf ∈ lw_tb := in_tb (List.mem_of_getElem? (i := 573) (by decide +kernel)) rfl
theorem ml_X3_72 : Cond.methodLink RX3 72 yX2_hasMoreVotesOrLowerNumber ∈ lw_tb := in_tb (List.mem_of_getElem? (i := 577) (by decide +kernel)) rfl
theorem fl_X3_75 : Cond.fieldLink RX3 75 RX2 (TX2 4).2.1 (TX2 4).2.2.1 ∈ lw_tb := in_tb (List.mem_of_getElem? (i := 142) (by decide +kernel)) rfl
theorem ml_X3_78 : Cond.methodLink RX3 78 yX2_hasVoteOf ∈ lw_tb := in_tb (List.mem_of_getElem? (i := 618) (by decide +kernel)) rfl
theorem ml_X4_3 : Cond.methodLink RX4 3 Lib.objectInit ∈ lw_tb := in_tb (List.mem_of_getElem? (i := 108) (by decide +kernel)) rfl
theorem fl_X4_9 : Cond.fieldLink RX4 9 RX4 (TX4 0).2.1 (TX4 0).2.2.1 ∈ lw_tb := in_tb (List.mem_of_getElem? (i := 198) (by decide +kernel)) rfl
theorem fl_X4_15 : Cond.fieldLink RX4 15 RX4 (TX4 1).2.1 (TX4 1).2.2.1 ∈ lw_tb := in_tb (List.mem_of_getElem? (i := 200) (by decide +kernel)) rfl
theorem fl_X4_18 : Cond.fieldLink RX4 18 RX4 (TX4 2).2.1 (TX4 2).2.2.1 ∈ lw_tb := in_tb (List.mem_of_getElem? (i := 202) (by decide +kernel)) rfl
theorem fl_X4_21 : Cond.fieldLink RX4 21 RX4 (TX4 3).2.1 (TX4 3).2.2.1 ∈ lw_tb := in_tb (List.mem_of_getElem? (i := 204) (by decide +kernel)) rfl
theorem cl_X4_24 : Cond.classLink RX4 24 RX1 ∈ lw_tb := in_tb (List.mem_of_getElem? (i := 109) (by decide +kernel)) rfl
theorem fl_X4_26 : Cond.fieldLink RX4 26 RX4 (TX4 4).2.1 (TX4 4).2.2.1 ∈ lw_tb := in_tb (List.mem_of_getElem? (i := 206) (by decide +kernel)) rfl
theorem cl_X4_30 : Cond.classLink RX4 30 RX3 ∈ lw_tb := in_tb (List.mem_of_getElem? (i := 111) (by decide +kernel)) rfl
theorem ml_X4_32 : Cond.methodLink RX4 32 yX3_init ∈ lw_tb := in_tb (List.mem_of_getElem? (i := 113) (by decide +kernel)) rfl
theorem fl_X4_33 : Cond.fieldLink RX4 33 RX4 (TX4 5).2.1 (TX4 5).2.2.1 ∈ lw_tb := in_tb (List.mem_of_getElem? (i := 208) (by decide +kernel)) rfl
theorem fl_X4_37 : Cond.fieldLink RX4 37 RX4 (TX4 6).2.1 (TX4 6).2.2.1 ∈ lw_tb := in_tb (List.mem_of_getElem? (i := 210) (by decide +kernel)) rfl
theorem ml_X4_41 : Cond.methodLink RX4 41 yJ7_fill_53178 ∈ lw_tb := in_tb (List.mem_of_getElem? (i := 172) (by decide +kernel)) rfl
theorem ml_X4_48 : Cond.methodLink RX4 48 arraycopyName ∈ lw_tb := in_tb (List.mem_of_getElem? (i := 300) (by decide +kernel)) rfl
theorem ml_X4_54 : Cond.methodLink RX4 54 yX1_copyFrom ∈ lw_tb := in_tb (List.mem_of_getElem? (i := 303) (by decide +kernel)) rfl
theorem ml_X4_58 : Cond.methodLink RX4 58 yX3_copyFrom ∈ lw_tb := in_tb (List.mem_of_getElem? (i := 312) (by decide +kernel)) rfl
theorem fl_X4_61 : Cond.fieldLink RX4 61 RX4 (TX4 7).2.1 (TX4 7).2.2.1 ∈ lw_tb := in_tb (List.mem_of_getElem? (i := 212) (by decide +kernel)) rfl
theorem fl_X4_64 : Cond.fieldLink RX4 64 RX4 (TX4 8).2.1 (TX4 8).2.2.1 ∈ lw_tb := in_tb (List.mem_of_getElem? (i := 214) (by decide +kernel)) rfl
theorem fl_X4_67 : Cond.fieldLink RX4 67 RX4 (TX4 9).2.1 (TX4 9).2.2.1 ∈ lw_tb := in_tb (List.mem_of_getElem? (i := 216) (by decide +kernel)) rfl
theorem fl_X4_70 : Cond.fieldLink RX4 70 RX4 (TX4 10).2.1 (TX4 10).2.2.1 ∈ lw_tb := in_tb (List.mem_of_getElem? (i := 218) (by decide +kernel)) rfl
theorem ml_X4_73 : Cond.methodLink RX4 73 yX4_cutLabelsOf ∈ lw_tb := in_tb (List.mem_of_getElem? (i := 325) (by decide +kernel)) rfl
theorem ml_X4_77 : Cond.methodLink RX4 77 yX4_limitOf ∈ lw_tb := in_tb (List.mem_of_getElem? (i := 329) (by decide +kernel)) rfl
theorem ml_X4_84 : Cond.methodLink RX4 84 yX1_cutTo ∈ lw_tb := in_tb (List.mem_of_getElem? (i := 336) (by decide +kernel)) rfl
theorem ml_X4_88 : Cond.methodLink RX4 88 yX3_bestFor ∈ lw_tb := in_tb (List.mem_of_getElem? (i := 475) (by decide +kernel)) rfl
theorem ml_X4_92 : Cond.methodLink RX4 92 yX4_bestRewriteFor ∈ lw_tb := in_tb (List.mem_of_getElem? (i := 471) (by decide +kernel)) rfl
theorem ml_X4_96 : Cond.methodLink RX4 96 yX4_accept ∈ lw_tb := in_tb (List.mem_of_getElem? (i := 485) (by decide +kernel)) rfl
theorem ml_X4_100 : Cond.methodLink RX4 100 yX3_growOlder ∈ lw_tb := in_tb (List.mem_of_getElem? (i := 494) (by decide +kernel)) rfl
theorem fl_X4_104 : Cond.fieldLink RX4 104 RX2 (TX2 2).2.1 (TX2 2).2.2.1 ∈ lw_tb := in_tb (List.mem_of_getElem? (i := 135) (by decide +kernel)) rfl
theorem fl_X4_109 : Cond.fieldLink RX4 109 RX2 (TX2 0).2.1 (TX2 0).2.2.1 ∈ lw_tb := in_tb (List.mem_of_getElem? (i := 127) (by decide +kernel)) rfl
theorem fl_X4_113 : Cond.fieldLink RX4 113 RX2 (TX2 3).2.1 (TX2 3).2.2.1 ∈ lw_tb := in_tb (List.mem_of_getElem? (i := 139) (by decide +kernel)) rfl
theorem ml_X4_116 : Cond.methodLink RX4 116 yX1_become ∈ lw_tb := in_tb (List.mem_of_getElem? (i := 489) (by decide +kernel)) rfl
theorem ml_X4_120 : Cond.methodLink RX4 120 yX3_remove ∈ lw_tb := in_tb (List.mem_of_getElem? (i := 490) (by decide +kernel)) rfl
theorem ml_X4_123 : Cond.methodLink RX4 123 yX1_stands ∈ lw_tb := in_tb (List.mem_of_getElem? (i := 527) (by decide +kernel)) rfl
theorem fl_X4_127 : Cond.fieldLink RX4 127 RX1 (TX1 1).2.1 (TX1 1).2.2.1 ∈ lw_tb := in_tb (List.mem_of_getElem? (i := 186) (by decide +kernel)) rfl
theorem fl_X4_128 : Cond.fieldLink RX4 128 RX1 (TX1 0).2.1 (TX1 0).2.2.1 ∈ lw_tb := in_tb (List.mem_of_getElem? (i := 184) (by decide +kernel)) rfl
theorem ml_X4_129 : Cond.methodLink RX4 129 yX6_sharesWordWith ∈ lw_tb := in_tb (List.mem_of_getElem? (i := 631) (by decide +kernel)) rfl
theorem ml_X4_135 : Cond.methodLink RX4 135 yX4_asksFor ∈ lw_tb := in_tb (List.mem_of_getElem? (i := 593) (by decide +kernel)) rfl
theorem ml_X4_139 : Cond.methodLink RX4 139 yX4_worksIn ∈ lw_tb := in_tb (List.mem_of_getElem? (i := 598) (by decide +kernel)) rfl
theorem ml_X4_142 : Cond.methodLink RX4 142 yJ6_bitCount_0f7a4 ∈ lw_tb := in_tb (List.mem_of_getElem? (i := 599) (by decide +kernel)) rfl
theorem ml_X4_147 : Cond.methodLink RX4 147 yX4_labelsIn ∈ lw_tb := in_tb (List.mem_of_getElem? (i := 600) (by decide +kernel)) rfl
theorem ml_X4_151 : Cond.methodLink RX4 151 yX4_missingIn ∈ lw_tb := in_tb (List.mem_of_getElem? (i := 647) (by decide +kernel)) rfl
theorem fl_X4_154 : Cond.fieldLink RX4 154 RX6 (TX6 3).2.1 (TX6 3).2.2.1 ∈ lw_tb := in_tb (List.mem_of_getElem? (i := 92) (by decide +kernel)) rfl
theorem ml_X4_157 : Cond.methodLink RX4 157 Lib.Math.max.name ∈ lw_tb := in_tb (List.mem_of_getElem? (i := 605) (by decide +kernel)) rfl
theorem ml_X5_3 : Cond.methodLink RX5 3 Lib.objectInit ∈ lw_tb := in_tb (List.mem_of_getElem? (i := 63) (by decide +kernel)) rfl
theorem fl_X5_9 : Cond.fieldLink RX5 9 RX5 (TX5 0).2.1 (TX5 0).2.2.1 ∈ lw_tb := in_tb (List.mem_of_getElem? (i := 64) (by decide +kernel)) rfl
theorem fl_X5_15 : Cond.fieldLink RX5 15 RX5 (TX5 1).2.1 (TX5 1).2.2.1 ∈ lw_tb := in_tb (List.mem_of_getElem? (i := 66) (by decide +kernel)) rfl
theorem ml_X6_3 : Cond.methodLink RX6 3 Lib.objectInit ∈ lw_tb := in_tb (List.mem_of_getElem? (i := 80) (by decide +kernel)) rfl
theorem fl_X6_9 : Cond.fieldLink RX6 9 RX6 (TX6 0).2.1 (TX6 0).2.2.1 ∈ lw_tb := in_tb (List.mem_of_getElem? (i := 81) (by decide +kernel)) rfl
theorem fl_X6_15 : Cond.fieldLink RX6 15 RX6 (TX6 2).2.1 (TX6 2).2.2.1 ∈ lw_tb := in_tb (List.mem_of_getElem? (i := 86) (by decide +kernel)) rfl
theorem fl_X6_19 : Cond.fieldLink RX6 19 RX6 (TX6 1).2.1 (TX6 1).2.2.1 ∈ lw_tb := in_tb (List.mem_of_getElem? (i := 83) (by decide +kernel)) rfl
theorem fl_X6_23 : Cond.fieldLink RX6 23 RX6 (TX6 3).2.1 (TX6 3).2.2.1 ∈ lw_tb := in_tb (List.mem_of_getElem? (i := 88) (by decide +kernel)) rfl
theorem fl_X6_26 : Cond.fieldLink RX6 26 RX5 (TX5 1).2.1 (TX5 1).2.2.1 ∈ lw_tb := in_tb (List.mem_of_getElem? (i := 67) (by decide +kernel)) rfl
theorem fl_X6_29 : Cond.fieldLink RX6 29 RX5 (TX5 0).2.1 (TX5 0).2.2.1 ∈ lw_tb := in_tb (List.mem_of_getElem? (i := 65) (by decide +kernel)) rfl
theorem ml_X6_32 : Cond.methodLink RX6 32 arraycopyName ∈ lw_tb := in_tb (List.mem_of_getElem? (i := 311) (by decide +kernel)) rfl
theorem ml_X6_38 : Cond.methodLink RX6 38 yX6_hasSameWord ∈ lw_tb := in_tb (List.mem_of_getElem? (i := 557) (by decide +kernel)) rfl
theorem ml_X6_42 : Cond.methodLink RX6 42 yX6_mostInCommon ∈ lw_tb := in_tb (List.mem_of_getElem? (i := 552) (by decide +kernel)) rfl
theorem ml_X6_46 : Cond.methodLink RX6 46 yJ7_fill_53178 ∈ lw_tb := in_tb (List.mem_of_getElem? (i := 556) (by decide +kernel)) rfl
theorem ml_X6_52 : Cond.methodLink RX6 52 Lib.Math.max.name ∈ lw_tb := in_tb (List.mem_of_getElem? (i := 561) (by decide +kernel)) rfl
theorem ml_X7_3 : Cond.methodLink RX7 3 Lib.objectInit ∈ lw_tb := in_tb (List.mem_of_getElem? (i := 55) (by decide +kernel)) rfl
theorem cl_X7_9 : Cond.classLink RX7 9 RX5 ∈ lw_tb := in_tb (List.mem_of_getElem? (i := 58) (by decide +kernel)) rfl
theorem fl_X7_12 : Cond.fieldLink RX7 12 RX7 (TX7 0).2.1 (TX7 0).2.2.1 ∈ lw_tb := in_tb (List.mem_of_getElem? (i := 263) (by decide +kernel)) rfl
theorem cl_X7_16 : Cond.classLink RX7 16 RX6 ∈ lw_tb := in_tb (List.mem_of_getElem? (i := 75) (by decide +kernel)) rfl
theorem fl_X7_19 : Cond.fieldLink RX7 19 RX7 (TX7 1).2.1 (TX7 1).2.2.1 ∈ lw_tb := in_tb (List.mem_of_getElem? (i := 264) (by decide +kernel)) rfl
theorem cl_X7_23 : Cond.classLink RX7 23 RX4 ∈ lw_tb := in_tb (List.mem_of_getElem? (i := 103) (by decide +kernel)) rfl
theorem ml_X7_25 : Cond.methodLink RX7 25 yX4_init ∈ lw_tb := in_tb (List.mem_of_getElem? (i := 105) (by decide +kernel)) rfl
theorem fl_X7_26 : Cond.fieldLink RX7 26 RX7 (TX7 2).2.1 (TX7 2).2.2.1 ∈ lw_tb := in_tb (List.mem_of_getElem? (i := 265) (by decide +kernel)) rfl
theorem cl_X7_30 : Cond.classLink RX7 30 RX0 ∈ lw_tb := in_tb (List.mem_of_getElem? (i := 243) (by decide +kernel)) rfl
theorem ml_X7_32 : Cond.methodLink RX7 32 yX0_init ∈ lw_tb := in_tb (List.mem_of_getElem? (i := 245) (by decide +kernel)) rfl
theorem fl_X7_33 : Cond.fieldLink RX7 33 RX7 (TX7 3).2.1 (TX7 3).2.2.1 ∈ lw_tb := in_tb (List.mem_of_getElem? (i := 266) (by decide +kernel)) rfl
theorem fl_X7_37 : Cond.fieldLink RX7 37 RX7 (TX7 4).2.1 (TX7 4).2.2.1 ∈ lw_tb := in_tb (List.mem_of_getElem? (i := 267) (by decide +kernel)) rfl
theorem fl_X7_40 : Cond.fieldLink RX7 40 RX7 (TX7 5).2.1 (TX7 5).2.2.1 ∈ lw_tb := in_tb (List.mem_of_getElem? (i := 268) (by decide +kernel)) rfl
theorem fl_X7_44 : Cond.fieldLink RX7 44 RX7 (TX7 6).2.1 (TX7 6).2.2.1 ∈ lw_tb := in_tb (List.mem_of_getElem? (i := 269) (by decide +kernel)) rfl
theorem ml_X7_48 : Cond.methodLink RX7 48 yX7_isRoom ∈ lw_tb := in_tb (List.mem_of_getElem? (i := 289) (by decide +kernel)) rfl
theorem fl_X7_52 : Cond.fieldLink RX7 52 RX4 (TX4 0).2.1 (TX4 0).2.2.1 ∈ lw_tb := in_tb (List.mem_of_getElem? (i := 199) (by decide +kernel)) rfl
theorem ml_X7_55 : Cond.methodLink RX7 55 yX0_push ∈ lw_tb := in_tb (List.mem_of_getElem? (i := 292) (by decide +kernel)) rfl
theorem ml_X7_59 : Cond.methodLink RX7 59 yX4_changeLimit ∈ lw_tb := in_tb (List.mem_of_getElem? (i := 321) (by decide +kernel)) rfl
theorem ml_X7_63 : Cond.methodLink RX7 63 yX7_isTongue ∈ lw_tb := in_tb (List.mem_of_getElem? (i := 348) (by decide +kernel)) rfl
theorem ml_X7_66 : Cond.methodLink RX7 66 yX4_asksFor ∈ lw_tb := in_tb (List.mem_of_getElem? (i := 351) (by decide +kernel)) rfl
theorem fl_X7_70 : Cond.fieldLink RX7 70 RX4 (TX4 1).2.1 (TX4 1).2.2.1 ∈ lw_tb := in_tb (List.mem_of_getElem? (i := 201) (by decide +kernel)) rfl
theorem ml_X7_73 : Cond.methodLink RX7 73 yJ6_bitCount_0f7a4 ∈ lw_tb := in_tb (List.mem_of_getElem? (i := 355) (by decide +kernel)) rfl
theorem ml_X7_79 : Cond.methodLink RX7 79 yX7_isWork ∈ lw_tb := in_tb (List.mem_of_getElem? (i := 365) (by decide +kernel)) rfl
theorem fl_X7_82 : Cond.fieldLink RX7 82 RX4 (TX4 2).2.1 (TX4 2).2.2.1 ∈ lw_tb := in_tb (List.mem_of_getElem? (i := 203) (by decide +kernel)) rfl
theorem ml_X7_85 : Cond.methodLink RX7 85 yX4_cutLabelsOf ∈ lw_tb := in_tb (List.mem_of_getElem? (i := 368) (by decide +kernel)) rfl
theorem ml_X7_88 : Cond.methodLink RX7 88 yX7_readTextFor ∈ lw_tb := in_tb (List.mem_of_getElem? (i := 373) (by decide +kernel)) rfl
theorem fl_X7_91 : Cond.fieldLink RX7 91 RX4 (TX4 4).2.1 (TX4 4).2.2.1 ∈ lw_tb := in_tb (List.mem_of_getElem? (i := 207) (by decide +kernel)) rfl
theorem ml_X7_95 : Cond.methodLink RX7 95 yX7_placeOf ∈ lw_tb := in_tb (List.mem_of_getElem? (i := 390) (by decide +kernel)) rfl
theorem fl_X7_98 : Cond.fieldLink RX7 98 RX1 (TX1 0).2.1 (TX1 0).2.2.1 ∈ lw_tb := in_tb (List.mem_of_getElem? (i := 183) (by decide +kernel)) rfl
theorem ml_X7_103 : Cond.methodLink RX7 103 yX6_isLike ∈ lw_tb := in_tb (List.mem_of_getElem? (i := 391) (by decide +kernel)) rfl
theorem fl_X7_107 : Cond.fieldLink RX7 107 RX4 (TX4 7).2.1 (TX4 7).2.2.1 ∈ lw_tb := in_tb (List.mem_of_getElem? (i := 213) (by decide +kernel)) rfl
theorem ml_X7_111 : Cond.methodLink RX7 111 yX1_become ∈ lw_tb := in_tb (List.mem_of_getElem? (i := 395) (by decide +kernel)) rfl
theorem fl_X7_115 : Cond.fieldLink RX7 115 RX6 (TX6 3).2.1 (TX6 3).2.2.1 ∈ lw_tb := in_tb (List.mem_of_getElem? (i := 89) (by decide +kernel)) rfl
theorem ml_X7_118 : Cond.methodLink RX7 118 yX1_stands ∈ lw_tb := in_tb (List.mem_of_getElem? (i := 403) (by decide +kernel)) rfl
theorem ml_X7_122 : Cond.methodLink RX7 122 yX6_empty ∈ lw_tb := in_tb (List.mem_of_getElem? (i := 407) (by decide +kernel)) rfl
theorem fl_X7_125 : Cond.fieldLink RX7 125 RX4 (TX4 6).2.1 (TX4 6).2.2.1 ∈ lw_tb := in_tb (List.mem_of_getElem? (i := 211) (by decide +kernel)) rfl
theorem ml_X7_128 : Cond.methodLink RX7 128 yX7_isVisitor ∈ lw_tb := in_tb (List.mem_of_getElem? (i := 419) (by decide +kernel)) rfl
theorem fl_X7_131 : Cond.fieldLink RX7 131 RX4 (TX4 5).2.1 (TX4 5).2.2.1 ∈ lw_tb := in_tb (List.mem_of_getElem? (i := 209) (by decide +kernel)) rfl
theorem ml_X7_135 : Cond.methodLink RX7 135 yX3_hasRoomFor ∈ lw_tb := in_tb (List.mem_of_getElem? (i := 422) (by decide +kernel)) rfl
theorem ml_X7_140 : Cond.methodLink RX7 140 yX3_handIn ∈ lw_tb := in_tb (List.mem_of_getElem? (i := 430) (by decide +kernel)) rfl
theorem ml_X7_144 : Cond.methodLink RX7 144 yX3_withNumber ∈ lw_tb := in_tb (List.mem_of_getElem? (i := 446) (by decide +kernel)) rfl
theorem fl_X7_148 : Cond.fieldLink RX7 148 RX2 (TX2 3).2.1 (TX2 3).2.2.1 ∈ lw_tb := in_tb (List.mem_of_getElem? (i := 140) (by decide +kernel)) rfl
theorem ml_X7_153 : Cond.methodLink RX7 153 yX2_hasVoteOf ∈ lw_tb := in_tb (List.mem_of_getElem? (i := 450) (by decide +kernel)) rfl
theorem fl_X7_156 : Cond.fieldLink RX7 156 RX2 (TX2 2).2.1 (TX2 2).2.2.1 ∈ lw_tb := in_tb (List.mem_of_getElem? (i := 136) (by decide +kernel)) rfl
theorem ml_X7_159 : Cond.methodLink RX7 159 yX3_takeVoteBack ∈ lw_tb := in_tb (List.mem_of_getElem? (i := 454) (by decide +kernel)) rfl
theorem fl_X7_163 : Cond.fieldLink RX7 163 RX2 (TX2 5).2.1 (TX2 5).2.2.1 ∈ lw_tb := in_tb (List.mem_of_getElem? (i := 146) (by decide +kernel)) rfl
theorem ml_X7_166 : Cond.methodLink RX7 166 yX2_votes ∈ lw_tb := in_tb (List.mem_of_getElem? (i := 458) (by decide +kernel)) rfl
theorem ml_X7_170 : Cond.methodLink RX7 170 yX4_passWeek ∈ lw_tb := in_tb (List.mem_of_getElem? (i := 467) (by decide +kernel)) rfl
theorem ml_X7_173 : Cond.methodLink RX7 173 yX5_add ∈ lw_tb := in_tb (List.mem_of_getElem? (i := 502) (by decide +kernel)) rfl
theorem fl_X7_177 : Cond.fieldLink RX7 177 RX5 (TX5 1).2.1 (TX5 1).2.2.1 ∈ lw_tb := in_tb (List.mem_of_getElem? (i := 68) (by decide +kernel)) rfl
theorem fl_X7_180 : Cond.fieldLink RX7 180 RX0 (TX0 1).2.1 (TX0 1).2.2.1 ∈ lw_tb := in_tb (List.mem_of_getElem? (i := 254) (by decide +kernel)) rfl
theorem ml_X7_181 : Cond.methodLink RX7 181 yX0_popInto ∈ lw_tb := in_tb (List.mem_of_getElem? (i := 514) (by decide +kernel)) rfl
theorem ml_X7_184 : Cond.methodLink RX7 184 yX4_copyFrom ∈ lw_tb := in_tb (List.mem_of_getElem? (i := 522) (by decide +kernel)) rfl
theorem ml_X7_187 : Cond.methodLink RX7 187 yX4_allLabels ∈ lw_tb := in_tb (List.mem_of_getElem? (i := 523) (by decide +kernel)) rfl
theorem ml_X7_190 : Cond.methodLink RX7 190 yX1_told ∈ lw_tb := in_tb (List.mem_of_getElem? (i := 536) (by decide +kernel)) rfl
theorem fl_X7_193 : Cond.fieldLink RX7 193 RX6 (TX6 1).2.1 (TX6 1).2.2.1 ∈ lw_tb := in_tb (List.mem_of_getElem? (i := 85) (by decide +kernel)) rfl
theorem fl_X7_194 : Cond.fieldLink RX7 194 RX6 (TX6 0).2.1 (TX6 0).2.2.1 ∈ lw_tb := in_tb (List.mem_of_getElem? (i := 82) (by decide +kernel)) rfl
theorem fl_X7_198 : Cond.fieldLink RX7 198 RX2 (TX2 0).2.1 (TX2 0).2.2.1 ∈ lw_tb := in_tb (List.mem_of_getElem? (i := 129) (by decide +kernel)) rfl
theorem fl_X7_199 : Cond.fieldLink RX7 199 RX2 (TX2 4).2.1 (TX2 4).2.2.1 ∈ lw_tb := in_tb (List.mem_of_getElem? (i := 143) (by decide +kernel)) rfl
theorem ml_X7_202 : Cond.methodLink RX7 202 yX6_distanceTo ∈ lw_tb := in_tb (List.mem_of_getElem? (i := 548) (by decide +kernel)) rfl
theorem ml_X7_206 : Cond.methodLink RX7 206 yX4_bestRewriteFor ∈ lw_tb := in_tb (List.mem_of_getElem? (i := 564) (by decide +kernel)) rfl
theorem ml_X7_209 : Cond.methodLink RX7 209 yX3_atRank ∈ lw_tb := in_tb (List.mem_of_getElem? (i := 569) (by decide +kernel)) rfl
theorem fl_X7_213 : Cond.fieldLink RX7 213 RX2 (TX2 1).2.1 (TX2 1).2.2.1 ∈ lw_tb := in_tb (List.mem_of_getElem? (i := 132) (by decide +kernel)) rfl
theorem ml_X7_216 : Cond.methodLink RX7 216 yX4_worksIn ∈ lw_tb := in_tb (List.mem_of_getElem? (i := 585) (by decide +kernel)) rfl
theorem ml_X7_219 : Cond.methodLink RX7 219 yX4_labelsIn ∈ lw_tb := in_tb (List.mem_of_getElem? (i := 589) (by decide +kernel)) rfl
theorem ml_X7_223 : Cond.methodLink RX7 223 yX4_missingIn ∈ lw_tb := in_tb (List.mem_of_getElem? (i := 594) (by decide +kernel)) rfl
theorem ml_X7_226 : Cond.methodLink RX7 226 yX4_longestIn ∈ lw_tb := in_tb (List.mem_of_getElem? (i := 601) (by decide +kernel)) rfl
theorem ml_X7_229 : Cond.methodLink RX7 229 yX3_handedInBy ∈ lw_tb := in_tb (List.mem_of_getElem? (i := 610) (by decide +kernel)) rfl
theorem fl_X7_232 : Cond.fieldLink RX7 232 RX4 (TX4 3).2.1 (TX4 3).2.2.1 ∈ lw_tb := in_tb (List.mem_of_getElem? (i := 205) (by decide +kernel)) rfl
theorem ml_X7_235 : Cond.methodLink RX7 235 yX3_votesOf ∈ lw_tb := in_tb (List.mem_of_getElem? (i := 614) (by decide +kernel)) rfl
theorem ml_X7_238 : Cond.methodLink RX7 238 yX4_labelsBy ∈ lw_tb := in_tb (List.mem_of_getElem? (i := 619) (by decide +kernel)) rfl
theorem ml_X7_241 : Cond.methodLink RX7 241 yX7_readText ∈ lw_tb := in_tb (List.mem_of_getElem? (i := 377) (by decide +kernel)) rfl
theorem ml_X7_244 : Cond.methodLink RX7 244 yX4_labelsSharing ∈ lw_tb := in_tb (List.mem_of_getElem? (i := 627) (by decide +kernel)) rfl
theorem fl_X7_248 : Cond.fieldLink RX7 248 RX3 (TX3 1).2.1 (TX3 1).2.2.1 ∈ lw_tb := in_tb (List.mem_of_getElem? (i := 162) (by decide +kernel)) rfl
theorem fl_X7_249 : Cond.fieldLink RX7 249 RX3 (TX3 2).2.1 (TX3 2).2.2.1 ∈ lw_tb := in_tb (List.mem_of_getElem? (i := 164) (by decide +kernel)) rfl
theorem ml_X7_252 : Cond.methodLink RX7 252 yX3_allVotes ∈ lw_tb := in_tb (List.mem_of_getElem? (i := 639) (by decide +kernel)) rfl
theorem ml_X7_255 : Cond.methodLink RX7 255 yX4_allMissing ∈ lw_tb := in_tb (List.mem_of_getElem? (i := 643) (by decide +kernel)) rfl
theorem fl_X7_258 : Cond.fieldLink RX7 258 RX4 (TX4 8).2.1 (TX4 8).2.2.1 ∈ lw_tb := in_tb (List.mem_of_getElem? (i := 215) (by decide +kernel)) rfl
theorem fl_X7_261 : Cond.fieldLink RX7 261 RX4 (TX4 9).2.1 (TX4 9).2.2.1 ∈ lw_tb := in_tb (List.mem_of_getElem? (i := 217) (by decide +kernel)) rfl
theorem fl_X7_264 : Cond.fieldLink RX7 264 RX4 (TX4 10).2.1 (TX4 10).2.2.1 ∈ lw_tb := in_tb (List.mem_of_getElem? (i := 219) (by decide +kernel)) rfl
theorem ml_X7_267 : Cond.methodLink RX7 267 yX5_fault ∈ lw_tb := in_tb (List.mem_of_getElem? (i := 381) (by decide +kernel)) rfl
theorem ml_X7_270 : Cond.methodLink RX7 270 yX6_readFrom ∈ lw_tb := in_tb (List.mem_of_getElem? (i := 385) (by decide +kernel)) rfl
theorem ml_X7_274 : Cond.methodLink RX7 274 yX4_limitOf ∈ lw_tb := in_tb (List.mem_of_getElem? (i := 389) (by decide +kernel)) rfl
theorem ml_X8_1 : Cond.methodLink RX8 1 Lib.objectInit ∈ lw_tb := in_tb (List.mem_of_getElem? (i := 653) (by decide +kernel)) rfl
theorem fl_X8_7 : Cond.fieldLink RX8 7 RX8 (TX8 0).2.1 (TX8 0).2.2.1 ∈ lw_tb := in_tb (List.mem_of_getElem? (i := 654) (by decide +kernel)) rfl
theorem fl_X8_13 : Cond.fieldLink RX8 13 RX8 (TX8 3).2.1 (TX8 3).2.2.1 ∈ lw_tb := in_tb (List.mem_of_getElem? (i := 657) (by decide +kernel)) rfl
theorem fl_X8_17 : Cond.fieldLink RX8 17 RX8 (TX8 5).2.1 (TX8 5).2.2.1 ∈ lw_tb := in_tb (List.mem_of_getElem? (i := 659) (by decide +kernel)) rfl
theorem fl_X8_20 : Cond.fieldLink RX8 20 RX8 (TX8 1).2.1 (TX8 1).2.2.1 ∈ lw_tb := in_tb (List.mem_of_getElem? (i := 655) (by decide +kernel)) rfl
theorem ml_X8_24 : Cond.methodLink RX8 24 yX8_copies ∈ lw_tb := in_tb (List.mem_of_getElem? (i := 684) (by decide +kernel)) rfl
theorem ml_X8_28 : Cond.methodLink RX8 28 yX8_rowOf ∈ lw_tb := in_tb (List.mem_of_getElem? (i := 696) (by decide +kernel)) rfl
theorem ml_X8_32 : Cond.methodLink RX8 32 yX8_words ∈ lw_tb := in_tb (List.mem_of_getElem? (i := 703) (by decide +kernel)) rfl
theorem ml_X8_35 : Cond.methodLink RX8 35 yX8_begin ∈ lw_tb := in_tb (List.mem_of_getElem? (i := 707) (by decide +kernel)) rfl
theorem ml_X8_39 : Cond.methodLink RX8 39 yX8_end ∈ lw_tb := in_tb (List.mem_of_getElem? (i := 840) (by decide +kernel)) rfl
theorem ml_X8_42 : Cond.methodLink RX8 42 yX8_wordsOf ∈ lw_tb := in_tb (List.mem_of_getElem? (i := 699) (by decide +kernel)) rfl
theorem ml_X8_45 : Cond.methodLink RX8 45 yX8_cuts ∈ lw_tb := in_tb (List.mem_of_getElem? (i := 692) (by decide +kernel)) rfl
theorem ml_X8_49 : Cond.methodLink RX8 49 yX8_paper ∈ lw_tb := in_tb (List.mem_of_getElem? (i := 765) (by decide +kernel)) rfl
theorem ml_X8_53 : Cond.methodLink RX8 53 yX8_votesFor ∈ lw_tb := in_tb (List.mem_of_getElem? (i := 784) (by decide +kernel)) rfl
theorem fl_X8_56 : Cond.fieldLink RX8 56 RX8 (TX8 4).2.1 (TX8 4).2.2.1 ∈ lw_tb := in_tb (List.mem_of_getElem? (i := 658) (by decide +kernel)) rfl
theorem ml_X8_59 : Cond.methodLink RX8 59 yX8_in ∈ lw_tb := in_tb (List.mem_of_getElem? (i := 677) (by decide +kernel)) rfl
theorem ml_X8_63 : Cond.methodLink RX8 63 yX8_records ∈ lw_tb := in_tb (List.mem_of_getElem? (i := 680) (by decide +kernel)) rfl
theorem ml_X8_66 : Cond.methodLink RX8 66 yX8_cutsAll ∈ lw_tb := in_tb (List.mem_of_getElem? (i := 688) (by decide +kernel)) rfl
theorem ml_X8_69 : Cond.methodLink RX8 69 yX8_bits ∈ lw_tb := in_tb (List.mem_of_getElem? (i := 715) (by decide +kernel)) rfl
theorem ml_X8_72 : Cond.methodLink RX8 72 yX8_isPair ∈ lw_tb := in_tb (List.mem_of_getElem? (i := 726) (by decide +kernel)) rfl
theorem ml_X8_75 : Cond.methodLink RX8 75 yX8_isLabel ∈ lw_tb := in_tb (List.mem_of_getElem? (i := 729) (by decide +kernel)) rfl
theorem ml_X8_78 : Cond.methodLink RX8 78 yX8_fault ∈ lw_tb := in_tb (List.mem_of_getElem? (i := 741) (by decide +kernel)) rfl
theorem ml_X8_82 : Cond.methodLink RX8 82 yX8_wordsTold ∈ lw_tb := in_tb (List.mem_of_getElem? (i := 745) (by decide +kernel)) rfl
theorem ml_X8_85 : Cond.methodLink RX8 85 yX8_isTold ∈ lw_tb := in_tb (List.mem_of_getElem? (i := 749) (by decide +kernel)) rfl
theorem ml_X8_88 : Cond.methodLink RX8 88 yX8_lays ∈ lw_tb := in_tb (List.mem_of_getElem? (i := 753) (by decide +kernel)) rfl
theorem ml_X8_92 : Cond.methodLink RX8 92 yX8_own ∈ lw_tb := in_tb (List.mem_of_getElem? (i := 761) (by decide +kernel)) rfl
theorem ml_X8_95 : Cond.methodLink RX8 95 yX8_free ∈ lw_tb := in_tb (List.mem_of_getElem? (i := 768) (by decide +kernel)) rfl
theorem ml_X8_98 : Cond.methodLink RX8 98 yX8_goes ∈ lw_tb := in_tb (List.mem_of_getElem? (i := 772) (by decide +kernel)) rfl
theorem ml_X8_101 : Cond.methodLink RX8 101 yX8_placeOf ∈ lw_tb := in_tb (List.mem_of_getElem? (i := 780) (by decide +kernel)) rfl
theorem ml_X8_104 : Cond.methodLink RX8 104 yX8_best ∈ lw_tb := in_tb (List.mem_of_getElem? (i := 792) (by decide +kernel)) rfl
theorem fl_X8_107 : Cond.fieldLink RX8 107 RX8 (TX8 2).2.1 (TX8 2).2.2.1 ∈ lw_tb := in_tb (List.mem_of_getElem? (i := 656) (by decide +kernel)) rfl
theorem ml_X8_111 : Cond.methodLink RX8 111 yX8_labels ∈ lw_tb := in_tb (List.mem_of_getElem? (i := 812) (by decide +kernel)) rfl
theorem ml_X8_114 : Cond.methodLink RX8 114 yX8_areAlike ∈ lw_tb := in_tb (List.mem_of_getElem? (i := 836) (by decide +kernel)) rfl
theorem ml_X8_118 : Cond.methodLink RX8 118 yX8_apart ∈ lw_tb := in_tb (List.mem_of_getElem? (i := 832) (by decide +kernel)) rfl
theorem ml_X8_122 : Cond.methodLink RX8 122 yX8_worksOf ∈ lw_tb := in_tb (List.mem_of_getElem? (i := 852) (by decide +kernel)) rfl
theorem ml_X8_125 : Cond.methodLink RX8 125 yX8_labelsOf ∈ lw_tb := in_tb (List.mem_of_getElem? (i := 856) (by decide +kernel)) rfl
theorem ml_X8_128 : Cond.methodLink RX8 128 yX8_rewritesOf ∈ lw_tb := in_tb (List.mem_of_getElem? (i := 864) (by decide +kernel)) rfl
theorem ml_X8_131 : Cond.methodLink RX8 131 yX8_votesOf ∈ lw_tb := in_tb (List.mem_of_getElem? (i := 868) (by decide +kernel)) rfl
theorem ml_X8_134 : Cond.methodLink RX8 134 yX8_standing ∈ lw_tb := in_tb (List.mem_of_getElem? (i := 872) (by decide +kernel)) rfl
theorem ml_X8_137 : Cond.methodLink RX8 137 yX8_hasTold ∈ lw_tb := in_tb (List.mem_of_getElem? (i := 880) (by decide +kernel)) rfl
theorem ml_X8_141 : Cond.methodLink RX8 141 yX8_allVotes ∈ lw_tb := in_tb (List.mem_of_getElem? (i := 888) (by decide +kernel)) rfl
theorem iniL : Cond.initialized RL ∈ lw_tb := in_tb (List.mem_of_getElem? (i := 36) (by decide +kernel)) rfl
theorem iniX7 : Cond.initialized RX7 ∈ lw_tb := in_tb (List.mem_of_getElem? (i := 37) (by decide +kernel)) rfl
theorem iniX5 : Cond.initialized RX5 ∈ lw_tb := in_tb (List.mem_of_getElem? (i := 38) (by decide +kernel)) rfl
theorem iniX6 : Cond.initialized RX6 ∈ lw_tb := in_tb (List.mem_of_getElem? (i := 39) (by decide +kernel)) rfl
theorem iniX4 : Cond.initialized RX4 ∈ lw_tb := in_tb (List.mem_of_getElem? (i := 40) (by decide +kernel)) rfl
theorem iniX3 : Cond.initialized RX3 ∈ lw_tb := in_tb (List.mem_of_getElem? (i := 41) (by decide +kernel)) rfl
theorem iniX2 : Cond.initialized RX2 ∈ lw_tb := in_tb (List.mem_of_getElem? (i := 42) (by decide +kernel)) rfl
theorem iniJ7 : Cond.initialized RJ7 ∈ lw_tb := in_tb (List.mem_of_getElem? (i := 43) (by decide +kernel)) rfl
theorem iniX1 : Cond.initialized RX1 ∈ lw_tb := in_tb (List.mem_of_getElem? (i := 44) (by decide +kernel)) rfl
theorem iniX0 : Cond.initialized RX0 ∈ lw_tb := in_tb (List.mem_of_getElem? (i := 45) (by decide +kernel)) rfl
theorem iniX8 : Cond.initialized RX8 ∈ lw_tb := in_tb (List.mem_of_getElem? (i := 46) (by decide +kernel)) rfl
theorem iniJ6 : Cond.initialized RJ6 ∈ lw_tb := in_tb (List.mem_of_getElem? (i := 48) (by decide +kernel)) rfl
theorem iniJ9 : Cond.initialized RJ9 ∈ lw_tb := in_tb (List.mem_of_getElem? (i := 49) (by decide +kernel)) rfl
theorem insX7 : Cond.instantiable RX7 7 ∈ lw_tb := in_tb (List.mem_of_getElem? (i := 51) (by decide +kernel)) rfl
theorem insX5 : Cond.instantiable RX5 2 ∈ lw_tb := in_tb (List.mem_of_getElem? (i := 59) (by decide +kernel)) rfl
theorem insX6 : Cond.instantiable RX6 4 ∈ lw_tb := in_tb (List.mem_of_getElem? (i := 76) (by decide +kernel)) rfl
theorem insX4 : Cond.instantiable RX4 11 ∈ lw_tb := in_tb (List.mem_of_getElem? (i := 104) (by decide +kernel)) rfl
theorem insX3 : Cond.instantiable RX3 3 ∈ lw_tb := in_tb (List.mem_of_getElem? (i := 112) (by decide +kernel)) rfl
theorem insX2 : Cond.instantiable RX2 6 ∈ lw_tb := in_tb (List.mem_of_getElem? (i := 119) (by decide +kernel)) rfl
theorem insX1 : Cond.instantiable RX1 4 ∈ lw_tb := in_tb (List.mem_of_getElem? (i := 175) (by decide +kernel)) rfl
theorem insX0 : Cond.instantiable RX0 3 ∈ lw_tb := in_tb (List.mem_of_getElem? (i := 244) (by decide +kernel)) rfl
theorem ct_J6_265 : Cond.constant RJ6 265 (1431655765 : Int32) ∈ lw_tb := in_tb (List.mem_of_getElem? (i := 358) (by decide +kernel)) rfl
theorem ct_J6_266 : Cond.constant RJ6 266 (858993459 : Int32) ∈ lw_tb := in_tb (List.mem_of_getElem? (i := 359) (by decide +kernel)) rfl
theorem ct_J6_267 : Cond.constant RJ6 267 (252645135 : Int32) ∈ lw_tb := in_tb (List.mem_of_getElem? (i := 360) (by decide +kernel)) rfl
theorem insX8 : Cond.instantiable RX8 6 ∈ lw_tb := in_tb (List.mem_of_getElem? (i := 649) (by decide +kernel)) rfl
abbrev mX0_init : MI := (yX0_init, cX0_init, 2, none)
theorem ooX0_init : MO mX0_init 0 := ⟨in_tb (List.mem_of_getElem? (i := 247) (by decide +kernel)) rfl, iniX0, ⟨by decide +kernel, by decide +kernel⟩, by decide +kernel, by decide⟩
theorem oX0_init : MN mX0_init 0 := ⟨ooX0_init, in_tb (List.mem_of_getElem? (i := 246) (by decide +kernel)) rfl, rfl, rfl⟩
abbrev mX0_push : MI := (yX0_push, cX0_push, 2, none)
theorem ooX0_push : MO mX0_push 1 := ⟨in_tb (List.mem_of_getElem? (i := 295) (by decide +kernel)) rfl, iniX0, ⟨by decide +kernel, by decide +kernel⟩, by decide +kernel, by decide⟩
theorem oX0_push : MV mX0_push 1 0 := ⟨ooX0_push, in_tb (List.mem_of_getElem? (i := 293) (by decide +kernel)) rfl, in_tb (List.mem_of_getElem? (i := 294) (by decide +kernel)) rfl, by decide +kernel⟩
abbrev mX0_popInto : MI := (yX0_popInto, cX0_popInto, 2, none)
theorem ooX0_popInto : MO mX0_popInto 1 := ⟨in_tb (List.mem_of_getElem? (i := 517) (by decide +kernel)) rfl, iniX0, ⟨by decide +kernel, by decide +kernel⟩, by decide +kernel, by decide⟩
theorem oX0_popInto : MV mX0_popInto 1 0 := ⟨ooX0_popInto, in_tb (List.mem_of_getElem? (i := 515) (by decide +kernel)) rfl, in_tb (List.mem_of_getElem? (i := 516) (by decide +kernel)) rfl, by decide +kernel⟩
abbrev mX1_init : MI := (yX1_init, cX1_init, 1, none)
theorem ooX1_init : MO mX1_init 0 := ⟨in_tb (List.mem_of_getElem? (i := 178) (by decide +kernel)) rfl, iniX1, ⟨by decide +kernel, by decide +kernel⟩, by decide +kernel, by decide⟩
theorem oX1_init : MN mX1_init 0 := ⟨ooX1_init, in_tb (List.mem_of_getElem? (i := 177) (by decide +kernel)) rfl, rfl, rfl⟩
abbrev mX1_stands : MI := (yX1_stands, cX1_stands, 1, (some .boolean))
theorem ooX1_stands : MO mX1_stands 0 := ⟨in_tb (List.mem_of_getElem? (i := 406) (by decide +kernel)) rfl, iniX1, ⟨by decide +kernel, by decide +kernel⟩, by decide +kernel, by decide⟩
theorem oX1_stands : MV mX1_stands 0 1 := ⟨ooX1_stands, in_tb (List.mem_of_getElem? (i := 404) (by decide +kernel)) rfl, in_tb (List.mem_of_getElem? (i := 405) (by decide +kernel)) rfl, by decide +kernel⟩
abbrev mX1_become : MI := (yX1_become, cX1_become, 4, none)
theorem ooX1_become : MO mX1_become 3 := ⟨in_tb (List.mem_of_getElem? (i := 398) (by decide +kernel)) rfl, iniX1, ⟨by decide +kernel, by decide +kernel⟩, by decide +kernel, by decide⟩
theorem oX1_become : MV mX1_become 3 1 := ⟨ooX1_become, in_tb (List.mem_of_getElem? (i := 396) (by decide +kernel)) rfl, in_tb (List.mem_of_getElem? (i := 397) (by decide +kernel)) rfl, by decide +kernel⟩
abbrev mX1_copyFrom : MI := (yX1_copyFrom, cX1_copyFrom, 2, none)
theorem ooX1_copyFrom : MO mX1_copyFrom 1 := ⟨in_tb (List.mem_of_getElem? (i := 306) (by decide +kernel)) rfl, iniX1, ⟨by decide +kernel, by decide +kernel⟩, by decide +kernel, by decide⟩
theorem oX1_copyFrom : MV mX1_copyFrom 1 1 := ⟨ooX1_copyFrom, in_tb (List.mem_of_getElem? (i := 304) (by decide +kernel)) rfl, in_tb (List.mem_of_getElem? (i := 305) (by decide +kernel)) rfl, by decide +kernel⟩
abbrev mX1_cutTo : MI := (yX1_cutTo, cX1_cutTo, 2, (some .boolean))
theorem ooX1_cutTo : MO mX1_cutTo 1 := ⟨in_tb (List.mem_of_getElem? (i := 339) (by decide +kernel)) rfl, iniX1, ⟨by decide +kernel, by decide +kernel⟩, by decide +kernel, by decide⟩
theorem oX1_cutTo : MV mX1_cutTo 1 1 := ⟨ooX1_cutTo, in_tb (List.mem_of_getElem? (i := 337) (by decide +kernel)) rfl, in_tb (List.mem_of_getElem? (i := 338) (by decide +kernel)) rfl, by decide +kernel⟩
abbrev mX1_told : MI := (yX1_told, cX1_told, 2, (some .int))
theorem ooX1_told : MO mX1_told 1 := ⟨in_tb (List.mem_of_getElem? (i := 539) (by decide +kernel)) rfl, iniX1, ⟨by decide +kernel, by decide +kernel⟩, by decide +kernel, by decide⟩
theorem oX1_told : MV mX1_told 1 1 := ⟨ooX1_told, in_tb (List.mem_of_getElem? (i := 537) (by decide +kernel)) rfl, in_tb (List.mem_of_getElem? (i := 538) (by decide +kernel)) rfl, by decide +kernel⟩
abbrev mX2_init : MI := (yX2_init, cX2_init, 1, none)
theorem ooX2_init : MO mX2_init 0 := ⟨in_tb (List.mem_of_getElem? (i := 122) (by decide +kernel)) rfl, iniX2, ⟨by decide +kernel, by decide +kernel⟩, by decide +kernel, by decide⟩
theorem oX2_init : MN mX2_init 0 := ⟨ooX2_init, in_tb (List.mem_of_getElem? (i := 121) (by decide +kernel)) rfl, rfl, rfl⟩
abbrev mX2_become : MI := (yX2_become, cX2_become, 5, none)
theorem ooX2_become : MO mX2_become 4 := ⟨in_tb (List.mem_of_getElem? (i := 441) (by decide +kernel)) rfl, iniX2, ⟨by decide +kernel, by decide +kernel⟩, by decide +kernel, by decide⟩
theorem oX2_become : MV mX2_become 4 2 := ⟨ooX2_become, in_tb (List.mem_of_getElem? (i := 439) (by decide +kernel)) rfl, in_tb (List.mem_of_getElem? (i := 440) (by decide +kernel)) rfl, by decide +kernel⟩
abbrev mX2_copyFrom : MI := (yX2_copyFrom, cX2_copyFrom, 2, none)
theorem ooX2_copyFrom : MO mX2_copyFrom 1 := ⟨in_tb (List.mem_of_getElem? (i := 319) (by decide +kernel)) rfl, iniX2, ⟨by decide +kernel, by decide +kernel⟩, by decide +kernel, by decide⟩
theorem oX2_copyFrom : MV mX2_copyFrom 1 2 := ⟨ooX2_copyFrom, in_tb (List.mem_of_getElem? (i := 317) (by decide +kernel)) rfl, in_tb (List.mem_of_getElem? (i := 318) (by decide +kernel)) rfl, by decide +kernel⟩
abbrev mX2_hasVoteOf : MI := (yX2_hasVoteOf, cX2_hasVoteOf, 2, (some .boolean))
theorem ooX2_hasVoteOf : MO mX2_hasVoteOf 1 := ⟨in_tb (List.mem_of_getElem? (i := 453) (by decide +kernel)) rfl, iniX2, ⟨by decide +kernel, by decide +kernel⟩, by decide +kernel, by decide⟩
theorem oX2_hasVoteOf : MV mX2_hasVoteOf 1 2 := ⟨ooX2_hasVoteOf, in_tb (List.mem_of_getElem? (i := 451) (by decide +kernel)) rfl, in_tb (List.mem_of_getElem? (i := 452) (by decide +kernel)) rfl, by decide +kernel⟩
abbrev mX2_votes : MI := (yX2_votes, cX2_votes, 1, (some .int))
theorem ooX2_votes : MO mX2_votes 0 := ⟨in_tb (List.mem_of_getElem? (i := 461) (by decide +kernel)) rfl, iniX2, ⟨by decide +kernel, by decide +kernel⟩, by decide +kernel, by decide⟩
theorem oX2_votes : MV mX2_votes 0 2 := ⟨ooX2_votes, in_tb (List.mem_of_getElem? (i := 459) (by decide +kernel)) rfl, in_tb (List.mem_of_getElem? (i := 460) (by decide +kernel)) rfl, by decide +kernel⟩
abbrev mX2_hasMoreVotesOrLowerNumber : MI := (yX2_hasMoreVotesOrLowerNumber, cX2_hasMoreVotesOrLowerNumber, 4, (some .boolean))
theorem ooX2_hasMoreVotesOrLowerNumber : MO mX2_hasMoreVotesOrLowerNumber 1 := ⟨in_tb (List.mem_of_getElem? (i := 580) (by decide +kernel)) rfl, iniX2, ⟨by decide +kernel, by decide +kernel⟩, by decide +kernel, by decide⟩
theorem oX2_hasMoreVotesOrLowerNumber : MV mX2_hasMoreVotesOrLowerNumber 1 2 := ⟨ooX2_hasMoreVotesOrLowerNumber, in_tb (List.mem_of_getElem? (i := 578) (by decide +kernel)) rfl, in_tb (List.mem_of_getElem? (i := 579) (by decide +kernel)) rfl, by decide +kernel⟩
abbrev mX2_hasMoreVotesOrFewerWords : MI := (yX2_hasMoreVotesOrFewerWords, cX2_hasMoreVotesOrFewerWords, 4, (some .boolean))
theorem ooX2_hasMoreVotesOrFewerWords : MO mX2_hasMoreVotesOrFewerWords 1 := ⟨in_tb (List.mem_of_getElem? (i := 483) (by decide +kernel)) rfl, iniX2, ⟨by decide +kernel, by decide +kernel⟩, by decide +kernel, by decide⟩
theorem oX2_hasMoreVotesOrFewerWords : MV mX2_hasMoreVotesOrFewerWords 1 2 := ⟨ooX2_hasMoreVotesOrFewerWords, in_tb (List.mem_of_getElem? (i := 481) (by decide +kernel)) rfl, in_tb (List.mem_of_getElem? (i := 482) (by decide +kernel)) rfl, by decide +kernel⟩
abbrev mX3_init : MI := (yX3_init, cX3_init, 2, none)
theorem ooX3_init : MO mX3_init 0 := ⟨in_tb (List.mem_of_getElem? (i := 115) (by decide +kernel)) rfl, iniX3, ⟨by decide +kernel, by decide +kernel⟩, by decide +kernel, by decide⟩
theorem oX3_init : MN mX3_init 0 := ⟨ooX3_init, in_tb (List.mem_of_getElem? (i := 114) (by decide +kernel)) rfl, rfl, rfl⟩
abbrev mX3_copyFrom : MI := (yX3_copyFrom, cX3_copyFrom, 3, none)
theorem ooX3_copyFrom : MO mX3_copyFrom 1 := ⟨in_tb (List.mem_of_getElem? (i := 315) (by decide +kernel)) rfl, iniX3, ⟨by decide +kernel, by decide +kernel⟩, by decide +kernel, by decide⟩
theorem oX3_copyFrom : MV mX3_copyFrom 1 3 := ⟨ooX3_copyFrom, in_tb (List.mem_of_getElem? (i := 313) (by decide +kernel)) rfl, in_tb (List.mem_of_getElem? (i := 314) (by decide +kernel)) rfl, by decide +kernel⟩
abbrev mX3_withNumber : MI := (yX3_withNumber, cX3_withNumber, 3, (some (.object "VotedLabels$Rewrite")))
theorem ooX3_withNumber : MO mX3_withNumber 1 := ⟨in_tb (List.mem_of_getElem? (i := 449) (by decide +kernel)) rfl, iniX3, ⟨by decide +kernel, by decide +kernel⟩, by decide +kernel, by decide⟩
theorem oX3_withNumber : MV mX3_withNumber 1 3 := ⟨ooX3_withNumber, in_tb (List.mem_of_getElem? (i := 447) (by decide +kernel)) rfl, in_tb (List.mem_of_getElem? (i := 448) (by decide +kernel)) rfl, by decide +kernel⟩
abbrev mX3_hasRoomFor : MI := (yX3_hasRoomFor, cX3_hasRoomFor, 4, (some .boolean))
theorem ooX3_hasRoomFor : MO mX3_hasRoomFor 2 := ⟨in_tb (List.mem_of_getElem? (i := 425) (by decide +kernel)) rfl, iniX3, ⟨by decide +kernel, by decide +kernel⟩, by decide +kernel, by decide⟩
theorem oX3_hasRoomFor : MV mX3_hasRoomFor 2 3 := ⟨ooX3_hasRoomFor, in_tb (List.mem_of_getElem? (i := 423) (by decide +kernel)) rfl, in_tb (List.mem_of_getElem? (i := 424) (by decide +kernel)) rfl, by decide +kernel⟩
abbrev mX3_handIn : MI := (yX3_handIn, cX3_handIn, 6, (some .int))
theorem ooX3_handIn : MO mX3_handIn 3 := ⟨in_tb (List.mem_of_getElem? (i := 433) (by decide +kernel)) rfl, iniX3, ⟨by decide +kernel, by decide +kernel⟩, by decide +kernel, by decide⟩
theorem oX3_handIn : MV mX3_handIn 3 3 := ⟨ooX3_handIn, in_tb (List.mem_of_getElem? (i := 431) (by decide +kernel)) rfl, in_tb (List.mem_of_getElem? (i := 432) (by decide +kernel)) rfl, by decide +kernel⟩
abbrev mX3_indexBy : MI := (yX3_indexBy, cX3_indexBy, 4, (some .int))
theorem ooX3_indexBy : MO mX3_indexBy 2 := ⟨in_tb (List.mem_of_getElem? (i := 429) (by decide +kernel)) rfl, iniX3, ⟨by decide +kernel, by decide +kernel⟩, by decide +kernel, by decide⟩
theorem oX3_indexBy : MV mX3_indexBy 2 3 := ⟨ooX3_indexBy, in_tb (List.mem_of_getElem? (i := 428) (by decide +kernel)) rfl, in_tb (List.mem_of_getElem? (i := 2) (by decide +kernel)) rfl, by decide +kernel⟩
abbrev mX3_removeAt : MI := (yX3_removeAt, cX3_removeAt, 4, none)
theorem ooX3_removeAt : MO mX3_removeAt 1 := ⟨in_tb (List.mem_of_getElem? (i := 437) (by decide +kernel)) rfl, iniX3, ⟨by decide +kernel, by decide +kernel⟩, by decide +kernel, by decide⟩
theorem oX3_removeAt : MV mX3_removeAt 1 3 := ⟨ooX3_removeAt, in_tb (List.mem_of_getElem? (i := 436) (by decide +kernel)) rfl, in_tb (List.mem_of_getElem? (i := 3) (by decide +kernel)) rfl, by decide +kernel⟩
abbrev mX3_remove : MI := (yX3_remove, cX3_remove, 3, none)
theorem ooX3_remove : MO mX3_remove 1 := ⟨in_tb (List.mem_of_getElem? (i := 493) (by decide +kernel)) rfl, iniX3, ⟨by decide +kernel, by decide +kernel⟩, by decide +kernel, by decide⟩
theorem oX3_remove : MV mX3_remove 1 3 := ⟨ooX3_remove, in_tb (List.mem_of_getElem? (i := 491) (by decide +kernel)) rfl, in_tb (List.mem_of_getElem? (i := 492) (by decide +kernel)) rfl, by decide +kernel⟩
abbrev mX3_takeVoteBack : MI := (yX3_takeVoteBack, cX3_takeVoteBack, 4, none)
theorem ooX3_takeVoteBack : MO mX3_takeVoteBack 2 := ⟨in_tb (List.mem_of_getElem? (i := 457) (by decide +kernel)) rfl, iniX3, ⟨by decide +kernel, by decide +kernel⟩, by decide +kernel, by decide⟩
theorem oX3_takeVoteBack : MV mX3_takeVoteBack 2 3 := ⟨ooX3_takeVoteBack, in_tb (List.mem_of_getElem? (i := 455) (by decide +kernel)) rfl, in_tb (List.mem_of_getElem? (i := 456) (by decide +kernel)) rfl, by decide +kernel⟩
abbrev mX3_bestFor : MI := (yX3_bestFor, cX3_bestFor, 8, (some (.object "VotedLabels$Rewrite")))
theorem ooX3_bestFor : MO mX3_bestFor 3 := ⟨in_tb (List.mem_of_getElem? (i := 478) (by decide +kernel)) rfl, iniX3, ⟨by decide +kernel, by decide +kernel⟩, by decide +kernel, by decide⟩
theorem oX3_bestFor : MV mX3_bestFor 3 3 := ⟨ooX3_bestFor, in_tb (List.mem_of_getElem? (i := 476) (by decide +kernel)) rfl, in_tb (List.mem_of_getElem? (i := 477) (by decide +kernel)) rfl, by decide +kernel⟩
abbrev mX3_atRank : MI := (yX3_atRank, cX3_atRank, 4, (some (.object "VotedLabels$Rewrite")))
theorem ooX3_atRank : MO mX3_atRank 2 := ⟨in_tb (List.mem_of_getElem? (i := 572) (by decide +kernel)) rfl, iniX3, ⟨by decide +kernel, by decide +kernel⟩, by decide +kernel, by decide⟩
theorem oX3_atRank : MV mX3_atRank 2 3 := ⟨ooX3_atRank, in_tb (List.mem_of_getElem? (i := 570) (by decide +kernel)) rfl, in_tb (List.mem_of_getElem? (i := 571) (by decide +kernel)) rfl, by decide +kernel⟩
abbrev mX3_aheadOf : MI := (yX3_aheadOf, cX3_aheadOf, 4, (some .int))
theorem ooX3_aheadOf : MO mX3_aheadOf 1 := ⟨in_tb (List.mem_of_getElem? (i := 576) (by decide +kernel)) rfl, iniX3, ⟨by decide +kernel, by decide +kernel⟩, by decide +kernel, by decide⟩
theorem oX3_aheadOf : MV mX3_aheadOf 1 3 := ⟨ooX3_aheadOf, in_tb (List.mem_of_getElem? (i := 575) (by decide +kernel)) rfl, in_tb (List.mem_of_getElem? (i := 6) (by decide +kernel)) rfl, by decide +kernel⟩
abbrev mX3_growOlder : MI := (yX3_growOlder, cX3_growOlder, 3, (some .int))
theorem ooX3_growOlder : MO mX3_growOlder 0 := ⟨in_tb (List.mem_of_getElem? (i := 497) (by decide +kernel)) rfl, iniX3, ⟨by decide +kernel, by decide +kernel⟩, by decide +kernel, by decide⟩
theorem oX3_growOlder : MV mX3_growOlder 0 3 := ⟨ooX3_growOlder, in_tb (List.mem_of_getElem? (i := 495) (by decide +kernel)) rfl, in_tb (List.mem_of_getElem? (i := 496) (by decide +kernel)) rfl, by decide +kernel⟩
abbrev mX3_handedInBy : MI := (yX3_handedInBy, cX3_handedInBy, 4, (some .int))
theorem ooX3_handedInBy : MO mX3_handedInBy 1 := ⟨in_tb (List.mem_of_getElem? (i := 613) (by decide +kernel)) rfl, iniX3, ⟨by decide +kernel, by decide +kernel⟩, by decide +kernel, by decide⟩
theorem oX3_handedInBy : MV mX3_handedInBy 1 3 := ⟨ooX3_handedInBy, in_tb (List.mem_of_getElem? (i := 611) (by decide +kernel)) rfl, in_tb (List.mem_of_getElem? (i := 612) (by decide +kernel)) rfl, by decide +kernel⟩
abbrev mX3_votesOf : MI := (yX3_votesOf, cX3_votesOf, 4, (some .int))
theorem ooX3_votesOf : MO mX3_votesOf 1 := ⟨in_tb (List.mem_of_getElem? (i := 617) (by decide +kernel)) rfl, iniX3, ⟨by decide +kernel, by decide +kernel⟩, by decide +kernel, by decide⟩
theorem oX3_votesOf : MV mX3_votesOf 1 3 := ⟨ooX3_votesOf, in_tb (List.mem_of_getElem? (i := 615) (by decide +kernel)) rfl, in_tb (List.mem_of_getElem? (i := 616) (by decide +kernel)) rfl, by decide +kernel⟩
abbrev mX3_allVotes : MI := (yX3_allVotes, cX3_allVotes, 3, (some .int))
theorem ooX3_allVotes : MO mX3_allVotes 0 := ⟨in_tb (List.mem_of_getElem? (i := 642) (by decide +kernel)) rfl, iniX3, ⟨by decide +kernel, by decide +kernel⟩, by decide +kernel, by decide⟩
theorem oX3_allVotes : MV mX3_allVotes 0 3 := ⟨ooX3_allVotes, in_tb (List.mem_of_getElem? (i := 640) (by decide +kernel)) rfl, in_tb (List.mem_of_getElem? (i := 641) (by decide +kernel)) rfl, by decide +kernel⟩
abbrev mX4_init : MI := (yX4_init, cX4_init, 2, none)
theorem ooX4_init : MO mX4_init 0 := ⟨in_tb (List.mem_of_getElem? (i := 107) (by decide +kernel)) rfl, iniX4, ⟨by decide +kernel, by decide +kernel⟩, by decide +kernel, by decide⟩
theorem oX4_init : MN mX4_init 0 := ⟨ooX4_init, in_tb (List.mem_of_getElem? (i := 106) (by decide +kernel)) rfl, rfl, rfl⟩
abbrev mX4_copyFrom : MI := (yX4_copyFrom, cX4_copyFrom, 3, none)
theorem ooX4_copyFrom : MO mX4_copyFrom 1 := ⟨in_tb (List.mem_of_getElem? (i := 299) (by decide +kernel)) rfl, iniX4, ⟨by decide +kernel, by decide +kernel⟩, by decide +kernel, by decide⟩
theorem oX4_copyFrom : MV mX4_copyFrom 1 4 := ⟨ooX4_copyFrom, in_tb (List.mem_of_getElem? (i := 297) (by decide +kernel)) rfl, in_tb (List.mem_of_getElem? (i := 298) (by decide +kernel)) rfl, by decide +kernel⟩
abbrev mX4_limitOf : MI := (yX4_limitOf, cX4_limitOf, 2, (some .int))
theorem ooX4_limitOf : MO mX4_limitOf 1 := ⟨in_tb (List.mem_of_getElem? (i := 332) (by decide +kernel)) rfl, iniX4, ⟨by decide +kernel, by decide +kernel⟩, by decide +kernel, by decide⟩
theorem oX4_limitOf : MV mX4_limitOf 1 4 := ⟨ooX4_limitOf, in_tb (List.mem_of_getElem? (i := 330) (by decide +kernel)) rfl, in_tb (List.mem_of_getElem? (i := 331) (by decide +kernel)) rfl, by decide +kernel⟩
abbrev mX4_asksFor : MI := (yX4_asksFor, cX4_asksFor, 3, (some .boolean))
theorem ooX4_asksFor : MO mX4_asksFor 2 := ⟨in_tb (List.mem_of_getElem? (i := 354) (by decide +kernel)) rfl, iniX4, ⟨by decide +kernel, by decide +kernel⟩, by decide +kernel, by decide⟩
theorem oX4_asksFor : MV mX4_asksFor 2 4 := ⟨ooX4_asksFor, in_tb (List.mem_of_getElem? (i := 352) (by decide +kernel)) rfl, in_tb (List.mem_of_getElem? (i := 353) (by decide +kernel)) rfl, by decide +kernel⟩
abbrev mX4_changeLimit : MI := (yX4_changeLimit, cX4_changeLimit, 5, (some .int))
theorem ooX4_changeLimit : MO mX4_changeLimit 2 := ⟨in_tb (List.mem_of_getElem? (i := 324) (by decide +kernel)) rfl, iniX4, ⟨by decide +kernel, by decide +kernel⟩, by decide +kernel, by decide⟩
theorem oX4_changeLimit : MV mX4_changeLimit 2 4 := ⟨ooX4_changeLimit, in_tb (List.mem_of_getElem? (i := 322) (by decide +kernel)) rfl, in_tb (List.mem_of_getElem? (i := 323) (by decide +kernel)) rfl, by decide +kernel⟩
abbrev mX4_cutLabelsOf : MI := (yX4_cutLabelsOf, cX4_cutLabelsOf, 5, (some .int))
theorem ooX4_cutLabelsOf : MO mX4_cutLabelsOf 1 := ⟨in_tb (List.mem_of_getElem? (i := 328) (by decide +kernel)) rfl, iniX4, ⟨by decide +kernel, by decide +kernel⟩, by decide +kernel, by decide⟩
theorem oX4_cutLabelsOf : MV mX4_cutLabelsOf 1 4 := ⟨ooX4_cutLabelsOf, in_tb (List.mem_of_getElem? (i := 326) (by decide +kernel)) rfl, in_tb (List.mem_of_getElem? (i := 327) (by decide +kernel)) rfl, by decide +kernel⟩
abbrev mX4_bestRewriteFor : MI := (yX4_bestRewriteFor, cX4_bestRewriteFor, 2, (some (.object "VotedLabels$Rewrite")))
theorem ooX4_bestRewriteFor : MO mX4_bestRewriteFor 1 := ⟨in_tb (List.mem_of_getElem? (i := 474) (by decide +kernel)) rfl, iniX4, ⟨by decide +kernel, by decide +kernel⟩, by decide +kernel, by decide⟩
theorem oX4_bestRewriteFor : MV mX4_bestRewriteFor 1 4 := ⟨ooX4_bestRewriteFor, in_tb (List.mem_of_getElem? (i := 472) (by decide +kernel)) rfl, in_tb (List.mem_of_getElem? (i := 473) (by decide +kernel)) rfl, by decide +kernel⟩
abbrev mX4_passWeek : MI := (yX4_passWeek, cX4_passWeek, 4, (some .int))
theorem ooX4_passWeek : MO mX4_passWeek 0 := ⟨in_tb (List.mem_of_getElem? (i := 470) (by decide +kernel)) rfl, iniX4, ⟨by decide +kernel, by decide +kernel⟩, by decide +kernel, by decide⟩
theorem oX4_passWeek : MV mX4_passWeek 0 4 := ⟨ooX4_passWeek, in_tb (List.mem_of_getElem? (i := 468) (by decide +kernel)) rfl, in_tb (List.mem_of_getElem? (i := 469) (by decide +kernel)) rfl, by decide +kernel⟩
abbrev mX4_accept : MI := (yX4_accept, cX4_accept, 2, none)
theorem ooX4_accept : MO mX4_accept 1 := ⟨in_tb (List.mem_of_getElem? (i := 488) (by decide +kernel)) rfl, iniX4, ⟨by decide +kernel, by decide +kernel⟩, by decide +kernel, by decide⟩
theorem oX4_accept : MV mX4_accept 1 4 := ⟨ooX4_accept, in_tb (List.mem_of_getElem? (i := 487) (by decide +kernel)) rfl, in_tb (List.mem_of_getElem? (i := 4) (by decide +kernel)) rfl, by decide +kernel⟩
abbrev mX4_allLabels : MI := (yX4_allLabels, cX4_allLabels, 3, (some .int))
theorem ooX4_allLabels : MO mX4_allLabels 0 := ⟨in_tb (List.mem_of_getElem? (i := 526) (by decide +kernel)) rfl, iniX4, ⟨by decide +kernel, by decide +kernel⟩, by decide +kernel, by decide⟩
theorem oX4_allLabels : MV mX4_allLabels 0 4 := ⟨ooX4_allLabels, in_tb (List.mem_of_getElem? (i := 524) (by decide +kernel)) rfl, in_tb (List.mem_of_getElem? (i := 525) (by decide +kernel)) rfl, by decide +kernel⟩
abbrev mX4_labelsBy : MI := (yX4_labelsBy, cX4_labelsBy, 4, (some .int))
theorem ooX4_labelsBy : MO mX4_labelsBy 1 := ⟨in_tb (List.mem_of_getElem? (i := 622) (by decide +kernel)) rfl, iniX4, ⟨by decide +kernel, by decide +kernel⟩, by decide +kernel, by decide⟩
theorem oX4_labelsBy : MV mX4_labelsBy 1 4 := ⟨ooX4_labelsBy, in_tb (List.mem_of_getElem? (i := 620) (by decide +kernel)) rfl, in_tb (List.mem_of_getElem? (i := 621) (by decide +kernel)) rfl, by decide +kernel⟩
abbrev mX4_labelsSharing : MI := (yX4_labelsSharing, cX4_labelsSharing, 5, (some .int))
theorem ooX4_labelsSharing : MO mX4_labelsSharing 2 := ⟨in_tb (List.mem_of_getElem? (i := 630) (by decide +kernel)) rfl, iniX4, ⟨by decide +kernel, by decide +kernel⟩, by decide +kernel, by decide⟩
theorem oX4_labelsSharing : MV mX4_labelsSharing 2 4 := ⟨ooX4_labelsSharing, in_tb (List.mem_of_getElem? (i := 628) (by decide +kernel)) rfl, in_tb (List.mem_of_getElem? (i := 629) (by decide +kernel)) rfl, by decide +kernel⟩
abbrev mX4_worksIn : MI := (yX4_worksIn, cX4_worksIn, 4, (some .int))
theorem ooX4_worksIn : MO mX4_worksIn 1 := ⟨in_tb (List.mem_of_getElem? (i := 588) (by decide +kernel)) rfl, iniX4, ⟨by decide +kernel, by decide +kernel⟩, by decide +kernel, by decide⟩
theorem oX4_worksIn : MV mX4_worksIn 1 4 := ⟨ooX4_worksIn, in_tb (List.mem_of_getElem? (i := 586) (by decide +kernel)) rfl, in_tb (List.mem_of_getElem? (i := 587) (by decide +kernel)) rfl, by decide +kernel⟩
abbrev mX4_labelsIn : MI := (yX4_labelsIn, cX4_labelsIn, 7, (some .int))
theorem ooX4_labelsIn : MO mX4_labelsIn 2 := ⟨in_tb (List.mem_of_getElem? (i := 592) (by decide +kernel)) rfl, iniX4, ⟨by decide +kernel, by decide +kernel⟩, by decide +kernel, by decide⟩
theorem oX4_labelsIn : MV mX4_labelsIn 2 4 := ⟨ooX4_labelsIn, in_tb (List.mem_of_getElem? (i := 590) (by decide +kernel)) rfl, in_tb (List.mem_of_getElem? (i := 591) (by decide +kernel)) rfl, by decide +kernel⟩
abbrev mX4_missingIn : MI := (yX4_missingIn, cX4_missingIn, 2, (some .int))
theorem ooX4_missingIn : MO mX4_missingIn 1 := ⟨in_tb (List.mem_of_getElem? (i := 597) (by decide +kernel)) rfl, iniX4, ⟨by decide +kernel, by decide +kernel⟩, by decide +kernel, by decide⟩
theorem oX4_missingIn : MV mX4_missingIn 1 4 := ⟨ooX4_missingIn, in_tb (List.mem_of_getElem? (i := 595) (by decide +kernel)) rfl, in_tb (List.mem_of_getElem? (i := 596) (by decide +kernel)) rfl, by decide +kernel⟩
abbrev mX4_allMissing : MI := (yX4_allMissing, cX4_allMissing, 3, (some .int))
theorem ooX4_allMissing : MO mX4_allMissing 0 := ⟨in_tb (List.mem_of_getElem? (i := 646) (by decide +kernel)) rfl, iniX4, ⟨by decide +kernel, by decide +kernel⟩, by decide +kernel, by decide⟩
theorem oX4_allMissing : MV mX4_allMissing 0 4 := ⟨ooX4_allMissing, in_tb (List.mem_of_getElem? (i := 644) (by decide +kernel)) rfl, in_tb (List.mem_of_getElem? (i := 645) (by decide +kernel)) rfl, by decide +kernel⟩
abbrev mX4_longestIn : MI := (yX4_longestIn, cX4_longestIn, 4, (some .int))
theorem ooX4_longestIn : MO mX4_longestIn 1 := ⟨in_tb (List.mem_of_getElem? (i := 604) (by decide +kernel)) rfl, iniX4, ⟨by decide +kernel, by decide +kernel⟩, by decide +kernel, by decide⟩
theorem oX4_longestIn : MV mX4_longestIn 1 4 := ⟨ooX4_longestIn, in_tb (List.mem_of_getElem? (i := 602) (by decide +kernel)) rfl, in_tb (List.mem_of_getElem? (i := 603) (by decide +kernel)) rfl, by decide +kernel⟩
abbrev mX5_init : MI := (yX5_init, cX5_init, 1, none)
theorem ooX5_init : MO mX5_init 0 := ⟨in_tb (List.mem_of_getElem? (i := 62) (by decide +kernel)) rfl, iniX5, ⟨by decide +kernel, by decide +kernel⟩, by decide +kernel, by decide⟩
theorem oX5_init : MN mX5_init 0 := ⟨ooX5_init, in_tb (List.mem_of_getElem? (i := 61) (by decide +kernel)) rfl, rfl, rfl⟩
abbrev mX5_add : MI := (yX5_add, cX5_add, 2, (some .boolean))
theorem ooX5_add : MO mX5_add 1 := ⟨in_tb (List.mem_of_getElem? (i := 505) (by decide +kernel)) rfl, iniX5, ⟨by decide +kernel, by decide +kernel⟩, by decide +kernel, by decide⟩
theorem oX5_add : MV mX5_add 1 5 := ⟨ooX5_add, in_tb (List.mem_of_getElem? (i := 503) (by decide +kernel)) rfl, in_tb (List.mem_of_getElem? (i := 504) (by decide +kernel)) rfl, by decide +kernel⟩
abbrev mX5_fault : MI := (yX5_fault, cX5_fault, 6, (some .int))
theorem ooX5_fault : MO mX5_fault 0 := ⟨in_tb (List.mem_of_getElem? (i := 384) (by decide +kernel)) rfl, iniX5, ⟨by decide +kernel, by decide +kernel⟩, by decide +kernel, by decide⟩
theorem oX5_fault : MV mX5_fault 0 5 := ⟨ooX5_fault, in_tb (List.mem_of_getElem? (i := 382) (by decide +kernel)) rfl, in_tb (List.mem_of_getElem? (i := 383) (by decide +kernel)) rfl, by decide +kernel⟩
abbrev mX6_init : MI := (yX6_init, cX6_init, 1, none)
theorem ooX6_init : MO mX6_init 0 := ⟨in_tb (List.mem_of_getElem? (i := 79) (by decide +kernel)) rfl, iniX6, ⟨by decide +kernel, by decide +kernel⟩, by decide +kernel, by decide⟩
theorem oX6_init : MN mX6_init 0 := ⟨ooX6_init, in_tb (List.mem_of_getElem? (i := 78) (by decide +kernel)) rfl, rfl, rfl⟩
abbrev mX6_empty : MI := (yX6_empty, cX6_empty, 1, none)
theorem ooX6_empty : MO mX6_empty 0 := ⟨in_tb (List.mem_of_getElem? (i := 410) (by decide +kernel)) rfl, iniX6, ⟨by decide +kernel, by decide +kernel⟩, by decide +kernel, by decide⟩
theorem oX6_empty : MV mX6_empty 0 6 := ⟨ooX6_empty, in_tb (List.mem_of_getElem? (i := 408) (by decide +kernel)) rfl, in_tb (List.mem_of_getElem? (i := 409) (by decide +kernel)) rfl, by decide +kernel⟩
abbrev mX6_readFrom : MI := (yX6_readFrom, cX6_readFrom, 4, none)
theorem ooX6_readFrom : MO mX6_readFrom 1 := ⟨in_tb (List.mem_of_getElem? (i := 388) (by decide +kernel)) rfl, iniX6, ⟨by decide +kernel, by decide +kernel⟩, by decide +kernel, by decide⟩
theorem oX6_readFrom : MV mX6_readFrom 1 6 := ⟨ooX6_readFrom, in_tb (List.mem_of_getElem? (i := 386) (by decide +kernel)) rfl, in_tb (List.mem_of_getElem? (i := 387) (by decide +kernel)) rfl, by decide +kernel⟩
abbrev mX6_copyFrom : MI := (yX6_copyFrom, cX6_copyFrom, 2, none)
theorem ooX6_copyFrom : MO mX6_copyFrom 1 := ⟨in_tb (List.mem_of_getElem? (i := 310) (by decide +kernel)) rfl, iniX6, ⟨by decide +kernel, by decide +kernel⟩, by decide +kernel, by decide⟩
theorem oX6_copyFrom : MV mX6_copyFrom 1 6 := ⟨ooX6_copyFrom, in_tb (List.mem_of_getElem? (i := 308) (by decide +kernel)) rfl, in_tb (List.mem_of_getElem? (i := 309) (by decide +kernel)) rfl, by decide +kernel⟩
abbrev mX6_cutTo : MI := (yX6_cutTo, cX6_cutTo, 2, none)
theorem ooX6_cutTo : MO mX6_cutTo 1 := ⟨in_tb (List.mem_of_getElem? (i := 343) (by decide +kernel)) rfl, iniX6, ⟨by decide +kernel, by decide +kernel⟩, by decide +kernel, by decide⟩
theorem oX6_cutTo : MV mX6_cutTo 1 6 := ⟨ooX6_cutTo, in_tb (List.mem_of_getElem? (i := 341) (by decide +kernel)) rfl, in_tb (List.mem_of_getElem? (i := 342) (by decide +kernel)) rfl, by decide +kernel⟩
abbrev mX6_isLike : MI := (yX6_isLike, cX6_isLike, 3, (some .boolean))
theorem ooX6_isLike : MO mX6_isLike 1 := ⟨in_tb (List.mem_of_getElem? (i := 394) (by decide +kernel)) rfl, iniX6, ⟨by decide +kernel, by decide +kernel⟩, by decide +kernel, by decide⟩
theorem oX6_isLike : MV mX6_isLike 1 6 := ⟨ooX6_isLike, in_tb (List.mem_of_getElem? (i := 392) (by decide +kernel)) rfl, in_tb (List.mem_of_getElem? (i := 393) (by decide +kernel)) rfl, by decide +kernel⟩
abbrev mX6_hasSameWord : MI := (yX6_hasSameWord, cX6_hasSameWord, 8, (some .boolean))
theorem ooX6_hasSameWord : MO mX6_hasSameWord 3 := ⟨in_tb (List.mem_of_getElem? (i := 560) (by decide +kernel)) rfl, iniX6, ⟨by decide +kernel, by decide +kernel⟩, by decide +kernel, by decide⟩
theorem oX6_hasSameWord : MV mX6_hasSameWord 3 6 := ⟨ooX6_hasSameWord, in_tb (List.mem_of_getElem? (i := 558) (by decide +kernel)) rfl, in_tb (List.mem_of_getElem? (i := 559) (by decide +kernel)) rfl, by decide +kernel⟩
abbrev mX6_sharesWordWith : MI := (yX6_sharesWordWith, cX6_sharesWordWith, 4, (some .boolean))
theorem ooX6_sharesWordWith : MO mX6_sharesWordWith 1 := ⟨in_tb (List.mem_of_getElem? (i := 634) (by decide +kernel)) rfl, iniX6, ⟨by decide +kernel, by decide +kernel⟩, by decide +kernel, by decide⟩
theorem oX6_sharesWordWith : MV mX6_sharesWordWith 1 6 := ⟨ooX6_sharesWordWith, in_tb (List.mem_of_getElem? (i := 632) (by decide +kernel)) rfl, in_tb (List.mem_of_getElem? (i := 633) (by decide +kernel)) rfl, by decide +kernel⟩
abbrev mX6_distanceTo : MI := (yX6_distanceTo, cX6_distanceTo, 3, (some .int))
theorem ooX6_distanceTo : MO mX6_distanceTo 2 := ⟨in_tb (List.mem_of_getElem? (i := 551) (by decide +kernel)) rfl, iniX6, ⟨by decide +kernel, by decide +kernel⟩, by decide +kernel, by decide⟩
theorem oX6_distanceTo : MV mX6_distanceTo 2 6 := ⟨ooX6_distanceTo, in_tb (List.mem_of_getElem? (i := 549) (by decide +kernel)) rfl, in_tb (List.mem_of_getElem? (i := 550) (by decide +kernel)) rfl, by decide +kernel⟩
abbrev mX6_mostInCommon : MI := (yX6_mostInCommon, cX6_mostInCommon, 7, (some .int))
theorem ooX6_mostInCommon : MO mX6_mostInCommon 2 := ⟨in_tb (List.mem_of_getElem? (i := 555) (by decide +kernel)) rfl, iniX6, ⟨by decide +kernel, by decide +kernel⟩, by decide +kernel, by decide⟩
theorem oX6_mostInCommon : MV mX6_mostInCommon 2 6 := ⟨ooX6_mostInCommon, in_tb (List.mem_of_getElem? (i := 554) (by decide +kernel)) rfl, in_tb (List.mem_of_getElem? (i := 5) (by decide +kernel)) rfl, by decide +kernel⟩
abbrev mX7_init : MI := (yX7_init, cX7_init, 1, none)
theorem ooX7_init : MO mX7_init 0 := ⟨in_tb (List.mem_of_getElem? (i := 54) (by decide +kernel)) rfl, iniX7, ⟨by decide +kernel, by decide +kernel⟩, by decide +kernel, by decide⟩
theorem oX7_init : MN mX7_init 0 := ⟨ooX7_init, in_tb (List.mem_of_getElem? (i := 53) (by decide +kernel)) rfl, rfl, rfl⟩
abbrev mX7_setLimit : MI := (yX7_setLimit, cX7_setLimit, 3, (some .int))
theorem ooX7_setLimit : MO mX7_setLimit 2 := ⟨in_tb (List.mem_of_getElem? (i := 288) (by decide +kernel)) rfl, iniX7, ⟨by decide +kernel, by decide +kernel⟩, by decide +kernel, by decide⟩
theorem oX7_setLimit : MV mX7_setLimit 2 7 := ⟨ooX7_setLimit, in_tb (List.mem_of_getElem? (i := 286) (by decide +kernel)) rfl, in_tb (List.mem_of_getElem? (i := 287) (by decide +kernel)) rfl, by decide +kernel⟩
abbrev mX7_ask : MI := (yX7_ask, cX7_ask, 4, (some .int))
theorem ooX7_ask : MO mX7_ask 3 := ⟨in_tb (List.mem_of_getElem? (i := 347) (by decide +kernel)) rfl, iniX7, ⟨by decide +kernel, by decide +kernel⟩, by decide +kernel, by decide⟩
theorem oX7_ask : MV mX7_ask 3 7 := ⟨ooX7_ask, in_tb (List.mem_of_getElem? (i := 345) (by decide +kernel)) rfl, in_tb (List.mem_of_getElem? (i := 346) (by decide +kernel)) rfl, by decide +kernel⟩
abbrev mX7_bring : MI := (yX7_bring, cX7_bring, 3, (some .int))
theorem ooX7_bring : MO mX7_bring 2 := ⟨in_tb (List.mem_of_getElem? (i := 364) (by decide +kernel)) rfl, iniX7, ⟨by decide +kernel, by decide +kernel⟩, by decide +kernel, by decide⟩
theorem oX7_bring : MV mX7_bring 2 7 := ⟨ooX7_bring, in_tb (List.mem_of_getElem? (i := 362) (by decide +kernel)) rfl, in_tb (List.mem_of_getElem? (i := 363) (by decide +kernel)) rfl, by decide +kernel⟩
abbrev mX7_label : MI := (yX7_label, cX7_label, 5, (some .int))
theorem ooX7_label : MO mX7_label 2 := ⟨in_tb (List.mem_of_getElem? (i := 372) (by decide +kernel)) rfl, iniX7, ⟨by decide +kernel, by decide +kernel⟩, by decide +kernel, by decide⟩
theorem oX7_label : MV mX7_label 2 7 := ⟨ooX7_label, in_tb (List.mem_of_getElem? (i := 370) (by decide +kernel)) rfl, in_tb (List.mem_of_getElem? (i := 371) (by decide +kernel)) rfl, by decide +kernel⟩
abbrev mX7_takeDown : MI := (yX7_takeDown, cX7_takeDown, 5, (some .int))
theorem ooX7_takeDown : MO mX7_takeDown 2 := ⟨in_tb (List.mem_of_getElem? (i := 402) (by decide +kernel)) rfl, iniX7, ⟨by decide +kernel, by decide +kernel⟩, by decide +kernel, by decide⟩
theorem oX7_takeDown : MV mX7_takeDown 2 7 := ⟨ooX7_takeDown, in_tb (List.mem_of_getElem? (i := 400) (by decide +kernel)) rfl, in_tb (List.mem_of_getElem? (i := 401) (by decide +kernel)) rfl, by decide +kernel⟩
abbrev mX7_setNeeded : MI := (yX7_setNeeded, cX7_setNeeded, 3, (some .int))
theorem ooX7_setNeeded : MO mX7_setNeeded 1 := ⟨in_tb (List.mem_of_getElem? (i := 414) (by decide +kernel)) rfl, iniX7, ⟨by decide +kernel, by decide +kernel⟩, by decide +kernel, by decide⟩
theorem oX7_setNeeded : MV mX7_setNeeded 1 7 := ⟨ooX7_setNeeded, in_tb (List.mem_of_getElem? (i := 412) (by decide +kernel)) rfl, in_tb (List.mem_of_getElem? (i := 413) (by decide +kernel)) rfl, by decide +kernel⟩
abbrev mX7_rewrite : MI := (yX7_rewrite, cX7_rewrite, 6, (some .int))
theorem ooX7_rewrite : MO mX7_rewrite 3 := ⟨in_tb (List.mem_of_getElem? (i := 418) (by decide +kernel)) rfl, iniX7, ⟨by decide +kernel, by decide +kernel⟩, by decide +kernel, by decide⟩
theorem oX7_rewrite : MV mX7_rewrite 3 7 := ⟨ooX7_rewrite, in_tb (List.mem_of_getElem? (i := 416) (by decide +kernel)) rfl, in_tb (List.mem_of_getElem? (i := 417) (by decide +kernel)) rfl, by decide +kernel⟩
abbrev mX7_vote : MI := (yX7_vote, cX7_vote, 5, (some .int))
theorem ooX7_vote : MO mX7_vote 3 := ⟨in_tb (List.mem_of_getElem? (i := 445) (by decide +kernel)) rfl, iniX7, ⟨by decide +kernel, by decide +kernel⟩, by decide +kernel, by decide⟩
theorem oX7_vote : MV mX7_vote 3 7 := ⟨ooX7_vote, in_tb (List.mem_of_getElem? (i := 443) (by decide +kernel)) rfl, in_tb (List.mem_of_getElem? (i := 444) (by decide +kernel)) rfl, by decide +kernel⟩
abbrev mX7_endWeek : MI := (yX7_endWeek, cX7_endWeek, 1, (some .int))
theorem ooX7_endWeek : MO mX7_endWeek 0 := ⟨in_tb (List.mem_of_getElem? (i := 466) (by decide +kernel)) rfl, iniX7, ⟨by decide +kernel, by decide +kernel⟩, by decide +kernel, by decide⟩
theorem oX7_endWeek : MV mX7_endWeek 0 7 := ⟨ooX7_endWeek, in_tb (List.mem_of_getElem? (i := 464) (by decide +kernel)) rfl, in_tb (List.mem_of_getElem? (i := 465) (by decide +kernel)) rfl, by decide +kernel⟩
abbrev mX7_type : MI := (yX7_type, cX7_type, 2, (some .int))
theorem ooX7_type : MO mX7_type 1 := ⟨in_tb (List.mem_of_getElem? (i := 501) (by decide +kernel)) rfl, iniX7, ⟨by decide +kernel, by decide +kernel⟩, by decide +kernel, by decide⟩
theorem oX7_type : MV mX7_type 1 7 := ⟨ooX7_type, in_tb (List.mem_of_getElem? (i := 499) (by decide +kernel)) rfl, in_tb (List.mem_of_getElem? (i := 500) (by decide +kernel)) rfl, by decide +kernel⟩
abbrev mX7_clearText : MI := (yX7_clearText, cX7_clearText, 2, (some .int))
theorem ooX7_clearText : MO mX7_clearText 0 := ⟨in_tb (List.mem_of_getElem? (i := 509) (by decide +kernel)) rfl, iniX7, ⟨by decide +kernel, by decide +kernel⟩, by decide +kernel, by decide⟩
theorem oX7_clearText : MV mX7_clearText 0 7 := ⟨ooX7_clearText, in_tb (List.mem_of_getElem? (i := 507) (by decide +kernel)) rfl, in_tb (List.mem_of_getElem? (i := 508) (by decide +kernel)) rfl, by decide +kernel⟩
abbrev mX7_undo : MI := (yX7_undo, cX7_undo, 1, (some .int))
theorem ooX7_undo : MO mX7_undo 0 := ⟨in_tb (List.mem_of_getElem? (i := 513) (by decide +kernel)) rfl, iniX7, ⟨by decide +kernel, by decide +kernel⟩, by decide +kernel, by decide⟩
theorem oX7_undo : MV mX7_undo 0 7 := ⟨ooX7_undo, in_tb (List.mem_of_getElem? (i := 511) (by decide +kernel)) rfl, in_tb (List.mem_of_getElem? (i := 512) (by decide +kernel)) rfl, by decide +kernel⟩
abbrev mX7_keep : MI := (yX7_keep, cX7_keep, 1, (some .int))
theorem ooX7_keep : MO mX7_keep 0 := ⟨in_tb (List.mem_of_getElem? (i := 521) (by decide +kernel)) rfl, iniX7, ⟨by decide +kernel, by decide +kernel⟩, by decide +kernel, by decide⟩
theorem oX7_keep : MV mX7_keep 0 7 := ⟨ooX7_keep, in_tb (List.mem_of_getElem? (i := 519) (by decide +kernel)) rfl, in_tb (List.mem_of_getElem? (i := 520) (by decide +kernel)) rfl, by decide +kernel⟩
abbrev mX7_restore : MI := (yX7_restore, cX7_restore, 1, (some .int))
theorem ooX7_restore : MO mX7_restore 0 := ⟨in_tb (List.mem_of_getElem? (i := 531) (by decide +kernel)) rfl, iniX7, ⟨by decide +kernel, by decide +kernel⟩, by decide +kernel, by decide⟩
theorem oX7_restore : MV mX7_restore 0 7 := ⟨ooX7_restore, in_tb (List.mem_of_getElem? (i := 529) (by decide +kernel)) rfl, in_tb (List.mem_of_getElem? (i := 530) (by decide +kernel)) rfl, by decide +kernel⟩
abbrev mX7_labelOf : MI := (yX7_labelOf, cX7_labelOf, 5, (some .int))
theorem ooX7_labelOf : MO mX7_labelOf 3 := ⟨in_tb (List.mem_of_getElem? (i := 535) (by decide +kernel)) rfl, iniX7, ⟨by decide +kernel, by decide +kernel⟩, by decide +kernel, by decide⟩
theorem oX7_labelOf : MV mX7_labelOf 3 7 := ⟨ooX7_labelOf, in_tb (List.mem_of_getElem? (i := 533) (by decide +kernel)) rfl, in_tb (List.mem_of_getElem? (i := 534) (by decide +kernel)) rfl, by decide +kernel⟩
abbrev mX7_letter : MI := (yX7_letter, cX7_letter, 5, (some .int))
theorem ooX7_letter : MO mX7_letter 3 := ⟨in_tb (List.mem_of_getElem? (i := 543) (by decide +kernel)) rfl, iniX7, ⟨by decide +kernel, by decide +kernel⟩, by decide +kernel, by decide⟩
theorem oX7_letter : MV mX7_letter 3 7 := ⟨ooX7_letter, in_tb (List.mem_of_getElem? (i := 541) (by decide +kernel)) rfl, in_tb (List.mem_of_getElem? (i := 542) (by decide +kernel)) rfl, by decide +kernel⟩
abbrev mX7_rewriteOf : MI := (yX7_rewriteOf, cX7_rewriteOf, 4, (some .int))
theorem ooX7_rewriteOf : MO mX7_rewriteOf 2 := ⟨in_tb (List.mem_of_getElem? (i := 547) (by decide +kernel)) rfl, iniX7, ⟨by decide +kernel, by decide +kernel⟩, by decide +kernel, by decide⟩
theorem oX7_rewriteOf : MV mX7_rewriteOf 2 7 := ⟨ooX7_rewriteOf, in_tb (List.mem_of_getElem? (i := 545) (by decide +kernel)) rfl, in_tb (List.mem_of_getElem? (i := 546) (by decide +kernel)) rfl, by decide +kernel⟩
abbrev mX7_ranked : MI := (yX7_ranked, cX7_ranked, 5, (some .int))
theorem ooX7_ranked : MO mX7_ranked 3 := ⟨in_tb (List.mem_of_getElem? (i := 568) (by decide +kernel)) rfl, iniX7, ⟨by decide +kernel, by decide +kernel⟩, by decide +kernel, by decide⟩
theorem oX7_ranked : MV mX7_ranked 3 7 := ⟨ooX7_ranked, in_tb (List.mem_of_getElem? (i := 566) (by decide +kernel)) rfl, in_tb (List.mem_of_getElem? (i := 567) (by decide +kernel)) rfl, by decide +kernel⟩
abbrev mX7_room : MI := (yX7_room, cX7_room, 3, (some .int))
theorem ooX7_room : MO mX7_room 2 := ⟨in_tb (List.mem_of_getElem? (i := 584) (by decide +kernel)) rfl, iniX7, ⟨by decide +kernel, by decide +kernel⟩, by decide +kernel, by decide⟩
theorem oX7_room : MV mX7_room 2 7 := ⟨ooX7_room, in_tb (List.mem_of_getElem? (i := 582) (by decide +kernel)) rfl, in_tb (List.mem_of_getElem? (i := 583) (by decide +kernel)) rfl, by decide +kernel⟩
abbrev mX7_visitor : MI := (yX7_visitor, cX7_visitor, 3, (some .int))
theorem ooX7_visitor : MO mX7_visitor 2 := ⟨in_tb (List.mem_of_getElem? (i := 609) (by decide +kernel)) rfl, iniX7, ⟨by decide +kernel, by decide +kernel⟩, by decide +kernel, by decide⟩
theorem oX7_visitor : MV mX7_visitor 2 7 := ⟨ooX7_visitor, in_tb (List.mem_of_getElem? (i := 607) (by decide +kernel)) rfl, in_tb (List.mem_of_getElem? (i := 608) (by decide +kernel)) rfl, by decide +kernel⟩
abbrev mX7_labelsWith : MI := (yX7_labelsWith, cX7_labelsWith, 3, (some .int))
theorem ooX7_labelsWith : MO mX7_labelsWith 1 := ⟨in_tb (List.mem_of_getElem? (i := 626) (by decide +kernel)) rfl, iniX7, ⟨by decide +kernel, by decide +kernel⟩, by decide +kernel, by decide⟩
theorem oX7_labelsWith : MV mX7_labelsWith 1 7 := ⟨ooX7_labelsWith, in_tb (List.mem_of_getElem? (i := 624) (by decide +kernel)) rfl, in_tb (List.mem_of_getElem? (i := 625) (by decide +kernel)) rfl, by decide +kernel⟩
abbrev mX7_count : MI := (yX7_count, cX7_count, 2, (some .int))
theorem ooX7_count : MO mX7_count 1 := ⟨in_tb (List.mem_of_getElem? (i := 638) (by decide +kernel)) rfl, iniX7, ⟨by decide +kernel, by decide +kernel⟩, by decide +kernel, by decide⟩
theorem oX7_count : MV mX7_count 1 7 := ⟨ooX7_count, in_tb (List.mem_of_getElem? (i := 636) (by decide +kernel)) rfl, in_tb (List.mem_of_getElem? (i := 637) (by decide +kernel)) rfl, by decide +kernel⟩
abbrev mX7_isWork : MI := (yX7_isWork, cX7_isWork, 1, (some .boolean))
theorem ooX7_isWork : MO mX7_isWork 1 := ⟨in_tb (List.mem_of_getElem? (i := 367) (by decide +kernel)) rfl, iniX7, ⟨by decide +kernel, by decide +kernel⟩, by decide +kernel, by decide⟩
theorem oX7_isWork : MS mX7_isWork 1 := ⟨ooX7_isWork, in_tb (List.mem_of_getElem? (i := 366) (by decide +kernel)) rfl⟩
abbrev mX7_isRoom : MI := (yX7_isRoom, cX7_isRoom, 1, (some .boolean))
theorem ooX7_isRoom : MO mX7_isRoom 1 := ⟨in_tb (List.mem_of_getElem? (i := 291) (by decide +kernel)) rfl, iniX7, ⟨by decide +kernel, by decide +kernel⟩, by decide +kernel, by decide⟩
theorem oX7_isRoom : MS mX7_isRoom 1 := ⟨ooX7_isRoom, in_tb (List.mem_of_getElem? (i := 290) (by decide +kernel)) rfl⟩
abbrev mX7_isTongue : MI := (yX7_isTongue, cX7_isTongue, 1, (some .boolean))
theorem ooX7_isTongue : MO mX7_isTongue 1 := ⟨in_tb (List.mem_of_getElem? (i := 350) (by decide +kernel)) rfl, iniX7, ⟨by decide +kernel, by decide +kernel⟩, by decide +kernel, by decide⟩
theorem oX7_isTongue : MS mX7_isTongue 1 := ⟨ooX7_isTongue, in_tb (List.mem_of_getElem? (i := 349) (by decide +kernel)) rfl⟩
abbrev mX7_isVisitor : MI := (yX7_isVisitor, cX7_isVisitor, 1, (some .boolean))
theorem ooX7_isVisitor : MO mX7_isVisitor 1 := ⟨in_tb (List.mem_of_getElem? (i := 421) (by decide +kernel)) rfl, iniX7, ⟨by decide +kernel, by decide +kernel⟩, by decide +kernel, by decide⟩
theorem oX7_isVisitor : MS mX7_isVisitor 1 := ⟨ooX7_isVisitor, in_tb (List.mem_of_getElem? (i := 420) (by decide +kernel)) rfl⟩
abbrev mX7_placeOf : MI := (yX7_placeOf, cX7_placeOf, 2, (some .int))
theorem ooX7_placeOf : MO mX7_placeOf 2 := ⟨in_tb (List.mem_of_getElem? (i := 335) (by decide +kernel)) rfl, iniX7, ⟨by decide +kernel, by decide +kernel⟩, by decide +kernel, by decide⟩
theorem oX7_placeOf : MS mX7_placeOf 2 := ⟨ooX7_placeOf, in_tb (List.mem_of_getElem? (i := 334) (by decide +kernel)) rfl⟩
abbrev mX7_readText : MI := (yX7_readText, cX7_readText, 2, (some .int))
theorem ooX7_readText : MO mX7_readText 0 := ⟨in_tb (List.mem_of_getElem? (i := 380) (by decide +kernel)) rfl, iniX7, ⟨by decide +kernel, by decide +kernel⟩, by decide +kernel, by decide⟩
theorem oX7_readText : MV mX7_readText 0 7 := ⟨ooX7_readText, in_tb (List.mem_of_getElem? (i := 379) (by decide +kernel)) rfl, in_tb (List.mem_of_getElem? (i := 1) (by decide +kernel)) rfl, by decide +kernel⟩
abbrev mX7_readTextFor : MI := (yX7_readTextFor, cX7_readTextFor, 3, (some .int))
theorem ooX7_readTextFor : MO mX7_readTextFor 1 := ⟨in_tb (List.mem_of_getElem? (i := 376) (by decide +kernel)) rfl, iniX7, ⟨by decide +kernel, by decide +kernel⟩, by decide +kernel, by decide⟩
theorem oX7_readTextFor : MV mX7_readTextFor 1 7 := ⟨ooX7_readTextFor, in_tb (List.mem_of_getElem? (i := 375) (by decide +kernel)) rfl, in_tb (List.mem_of_getElem? (i := 0) (by decide +kernel)) rfl, by decide +kernel⟩
abbrev mX8_init : MI := (yX8_init, cX8_init, 2, none)
theorem ooX8_init : MO mX8_init 0 := ⟨in_tb (List.mem_of_getElem? (i := 652) (by decide +kernel)) rfl, iniX8, ⟨by decide +kernel, by decide +kernel⟩, by decide +kernel, by decide⟩
theorem oX8_init : MN mX8_init 0 := ⟨ooX8_init, in_tb (List.mem_of_getElem? (i := 651) (by decide +kernel)) rfl, rfl, rfl⟩
abbrev mX8_in : MI := (yX8_in, cX8_in, 3, (some .boolean))
theorem ooX8_in : MO mX8_in 3 := ⟨in_tb (List.mem_of_getElem? (i := 679) (by decide +kernel)) rfl, iniX8, ⟨by decide +kernel, by decide +kernel⟩, by decide +kernel, by decide⟩
theorem oX8_in : MS mX8_in 3 := ⟨ooX8_in, in_tb (List.mem_of_getElem? (i := 678) (by decide +kernel)) rfl⟩
abbrev mX8_copies : MI := (yX8_copies, cX8_copies, 4, none)
theorem ooX8_copies : MO mX8_copies 2 := ⟨in_tb (List.mem_of_getElem? (i := 687) (by decide +kernel)) rfl, iniX8, ⟨by decide +kernel, by decide +kernel⟩, by decide +kernel, by decide⟩
theorem oX8_copies : MV mX8_copies 2 8 := ⟨ooX8_copies, in_tb (List.mem_of_getElem? (i := 686) (by decide +kernel)) rfl, in_tb (List.mem_of_getElem? (i := 8) (by decide +kernel)) rfl, by decide +kernel⟩
abbrev mX8_records : MI := (yX8_records, cX8_records, 2, none)
theorem ooX8_records : MO mX8_records 0 := ⟨in_tb (List.mem_of_getElem? (i := 683) (by decide +kernel)) rfl, iniX8, ⟨by decide +kernel, by decide +kernel⟩, by decide +kernel, by decide⟩
theorem oX8_records : MV mX8_records 0 8 := ⟨ooX8_records, in_tb (List.mem_of_getElem? (i := 682) (by decide +kernel)) rfl, in_tb (List.mem_of_getElem? (i := 7) (by decide +kernel)) rfl, by decide +kernel⟩
abbrev mX8_rowOf : MI := (yX8_rowOf, cX8_rowOf, 2, (some .int))
theorem ooX8_rowOf : MO mX8_rowOf 2 := ⟨in_tb (List.mem_of_getElem? (i := 698) (by decide +kernel)) rfl, iniX8, ⟨by decide +kernel, by decide +kernel⟩, by decide +kernel, by decide⟩
theorem oX8_rowOf : MS mX8_rowOf 2 := ⟨ooX8_rowOf, in_tb (List.mem_of_getElem? (i := 697) (by decide +kernel)) rfl⟩
abbrev mX8_paper : MI := (yX8_paper, cX8_paper, 1, (some .int))
theorem ooX8_paper : MO mX8_paper 1 := ⟨in_tb (List.mem_of_getElem? (i := 767) (by decide +kernel)) rfl, iniX8, ⟨by decide +kernel, by decide +kernel⟩, by decide +kernel, by decide⟩
theorem oX8_paper : MS mX8_paper 1 := ⟨ooX8_paper, in_tb (List.mem_of_getElem? (i := 766) (by decide +kernel)) rfl⟩
abbrev mX8_words : MI := (yX8_words, cX8_words, 5, (some .int))
theorem ooX8_words : MO mX8_words 2 := ⟨in_tb (List.mem_of_getElem? (i := 706) (by decide +kernel)) rfl, iniX8, ⟨by decide +kernel, by decide +kernel⟩, by decide +kernel, by decide⟩
theorem oX8_words : MV mX8_words 2 8 := ⟨ooX8_words, in_tb (List.mem_of_getElem? (i := 705) (by decide +kernel)) rfl, in_tb (List.mem_of_getElem? (i := 12) (by decide +kernel)) rfl, by decide +kernel⟩
abbrev mX8_wordsOf : MI := (yX8_wordsOf, cX8_wordsOf, 4, (some .int))
theorem ooX8_wordsOf : MO mX8_wordsOf 2 := ⟨in_tb (List.mem_of_getElem? (i := 702) (by decide +kernel)) rfl, iniX8, ⟨by decide +kernel, by decide +kernel⟩, by decide +kernel, by decide⟩
theorem oX8_wordsOf : MV mX8_wordsOf 2 8 := ⟨ooX8_wordsOf, in_tb (List.mem_of_getElem? (i := 701) (by decide +kernel)) rfl, in_tb (List.mem_of_getElem? (i := 11) (by decide +kernel)) rfl, by decide +kernel⟩
abbrev mX8_isLabel : MI := (yX8_isLabel, cX8_isLabel, 3, (some .boolean))
theorem ooX8_isLabel : MO mX8_isLabel 2 := ⟨in_tb (List.mem_of_getElem? (i := 732) (by decide +kernel)) rfl, iniX8, ⟨by decide +kernel, by decide +kernel⟩, by decide +kernel, by decide⟩
theorem oX8_isLabel : MV mX8_isLabel 2 8 := ⟨ooX8_isLabel, in_tb (List.mem_of_getElem? (i := 731) (by decide +kernel)) rfl, in_tb (List.mem_of_getElem? (i := 14) (by decide +kernel)) rfl, by decide +kernel⟩
abbrev mX8_begin : MI := (yX8_begin, cX8_begin, 6, (some .int))
theorem ooX8_begin : MO mX8_begin 3 := ⟨in_tb (List.mem_of_getElem? (i := 710) (by decide +kernel)) rfl, iniX8, ⟨by decide +kernel, by decide +kernel⟩, by decide +kernel, by decide⟩
theorem oX8_begin : MV mX8_begin 3 8 := ⟨ooX8_begin, in_tb (List.mem_of_getElem? (i := 709) (by decide +kernel)) rfl, in_tb (List.mem_of_getElem? (i := 13) (by decide +kernel)) rfl, by decide +kernel⟩
abbrev mX8_end : MI := (yX8_end, cX8_end, 5, (some .int))
theorem ooX8_end : MO mX8_end 3 := ⟨in_tb (List.mem_of_getElem? (i := 843) (by decide +kernel)) rfl, iniX8, ⟨by decide +kernel, by decide +kernel⟩, by decide +kernel, by decide⟩
theorem oX8_end : MV mX8_end 3 8 := ⟨ooX8_end, in_tb (List.mem_of_getElem? (i := 842) (by decide +kernel)) rfl, in_tb (List.mem_of_getElem? (i := 28) (by decide +kernel)) rfl, by decide +kernel⟩
abbrev mX8_areAlike : MI := (yX8_areAlike, cX8_areAlike, 12, (some .boolean))
theorem ooX8_areAlike : MO mX8_areAlike 6 := ⟨in_tb (List.mem_of_getElem? (i := 839) (by decide +kernel)) rfl, iniX8, ⟨by decide +kernel, by decide +kernel⟩, by decide +kernel, by decide⟩
theorem oX8_areAlike : MV mX8_areAlike 6 8 := ⟨ooX8_areAlike, in_tb (List.mem_of_getElem? (i := 838) (by decide +kernel)) rfl, in_tb (List.mem_of_getElem? (i := 27) (by decide +kernel)) rfl, by decide +kernel⟩
abbrev mX8_cuts : MI := (yX8_cuts, cX8_cuts, 5, (some .boolean))
theorem ooX8_cuts : MO mX8_cuts 2 := ⟨in_tb (List.mem_of_getElem? (i := 695) (by decide +kernel)) rfl, iniX8, ⟨by decide +kernel, by decide +kernel⟩, by decide +kernel, by decide⟩
theorem oX8_cuts : MV mX8_cuts 2 8 := ⟨ooX8_cuts, in_tb (List.mem_of_getElem? (i := 694) (by decide +kernel)) rfl, in_tb (List.mem_of_getElem? (i := 10) (by decide +kernel)) rfl, by decide +kernel⟩
abbrev mX8_cutsAll : MI := (yX8_cutsAll, cX8_cutsAll, 4, (some .int))
theorem ooX8_cutsAll : MO mX8_cutsAll 1 := ⟨in_tb (List.mem_of_getElem? (i := 691) (by decide +kernel)) rfl, iniX8, ⟨by decide +kernel, by decide +kernel⟩, by decide +kernel, by decide⟩
theorem oX8_cutsAll : MV mX8_cutsAll 1 8 := ⟨ooX8_cutsAll, in_tb (List.mem_of_getElem? (i := 690) (by decide +kernel)) rfl, in_tb (List.mem_of_getElem? (i := 9) (by decide +kernel)) rfl, by decide +kernel⟩
abbrev mX8_placeOf : MI := (yX8_placeOf, cX8_placeOf, 4, (some .int))
theorem ooX8_placeOf : MO mX8_placeOf 1 := ⟨in_tb (List.mem_of_getElem? (i := 783) (by decide +kernel)) rfl, iniX8, ⟨by decide +kernel, by decide +kernel⟩, by decide +kernel, by decide⟩
theorem oX8_placeOf : MV mX8_placeOf 1 8 := ⟨ooX8_placeOf, in_tb (List.mem_of_getElem? (i := 782) (by decide +kernel)) rfl, in_tb (List.mem_of_getElem? (i := 22) (by decide +kernel)) rfl, by decide +kernel⟩
abbrev mX8_votesFor : MI := (yX8_votesFor, cX8_votesFor, 4, (some .int))
theorem ooX8_votesFor : MO mX8_votesFor 1 := ⟨in_tb (List.mem_of_getElem? (i := 787) (by decide +kernel)) rfl, iniX8, ⟨by decide +kernel, by decide +kernel⟩, by decide +kernel, by decide⟩
theorem oX8_votesFor : MV mX8_votesFor 1 8 := ⟨ooX8_votesFor, in_tb (List.mem_of_getElem? (i := 786) (by decide +kernel)) rfl, in_tb (List.mem_of_getElem? (i := 23) (by decide +kernel)) rfl, by decide +kernel⟩
abbrev mX8_goes : MI := (yX8_goes, cX8_goes, 3, none)
theorem ooX8_goes : MO mX8_goes 1 := ⟨in_tb (List.mem_of_getElem? (i := 775) (by decide +kernel)) rfl, iniX8, ⟨by decide +kernel, by decide +kernel⟩, by decide +kernel, by decide⟩
theorem oX8_goes : MV mX8_goes 1 8 := ⟨ooX8_goes, in_tb (List.mem_of_getElem? (i := 774) (by decide +kernel)) rfl, in_tb (List.mem_of_getElem? (i := 21) (by decide +kernel)) rfl, by decide +kernel⟩
abbrev mX8_best : MI := (yX8_best, cX8_best, 12, (some .int))
theorem ooX8_best : MO mX8_best 2 := ⟨in_tb (List.mem_of_getElem? (i := 795) (by decide +kernel)) rfl, iniX8, ⟨by decide +kernel, by decide +kernel⟩, by decide +kernel, by decide⟩
theorem oX8_best : MV mX8_best 2 8 := ⟨ooX8_best, in_tb (List.mem_of_getElem? (i := 794) (by decide +kernel)) rfl, in_tb (List.mem_of_getElem? (i := 24) (by decide +kernel)) rfl, by decide +kernel⟩
abbrev mX8_fault : MI := (yX8_fault, cX8_fault, 4, (some .int))
theorem ooX8_fault : MO mX8_fault 0 := ⟨in_tb (List.mem_of_getElem? (i := 744) (by decide +kernel)) rfl, iniX8, ⟨by decide +kernel, by decide +kernel⟩, by decide +kernel, by decide⟩
theorem oX8_fault : MV mX8_fault 0 8 := ⟨ooX8_fault, in_tb (List.mem_of_getElem? (i := 743) (by decide +kernel)) rfl, in_tb (List.mem_of_getElem? (i := 15) (by decide +kernel)) rfl, by decide +kernel⟩
abbrev mX8_wordsTold : MI := (yX8_wordsTold, cX8_wordsTold, 3, (some .int))
theorem ooX8_wordsTold : MO mX8_wordsTold 0 := ⟨in_tb (List.mem_of_getElem? (i := 748) (by decide +kernel)) rfl, iniX8, ⟨by decide +kernel, by decide +kernel⟩, by decide +kernel, by decide⟩
theorem oX8_wordsTold : MV mX8_wordsTold 0 8 := ⟨ooX8_wordsTold, in_tb (List.mem_of_getElem? (i := 747) (by decide +kernel)) rfl, in_tb (List.mem_of_getElem? (i := 16) (by decide +kernel)) rfl, by decide +kernel⟩
abbrev mX8_isTold : MI := (yX8_isTold, cX8_isTold, 5, (some .boolean))
theorem ooX8_isTold : MO mX8_isTold 2 := ⟨in_tb (List.mem_of_getElem? (i := 752) (by decide +kernel)) rfl, iniX8, ⟨by decide +kernel, by decide +kernel⟩, by decide +kernel, by decide⟩
theorem oX8_isTold : MV mX8_isTold 2 8 := ⟨ooX8_isTold, in_tb (List.mem_of_getElem? (i := 751) (by decide +kernel)) rfl, in_tb (List.mem_of_getElem? (i := 17) (by decide +kernel)) rfl, by decide +kernel⟩
abbrev mX8_lays : MI := (yX8_lays, cX8_lays, 3, none)
theorem ooX8_lays : MO mX8_lays 1 := ⟨in_tb (List.mem_of_getElem? (i := 756) (by decide +kernel)) rfl, iniX8, ⟨by decide +kernel, by decide +kernel⟩, by decide +kernel, by decide⟩
theorem oX8_lays : MV mX8_lays 1 8 := ⟨ooX8_lays, in_tb (List.mem_of_getElem? (i := 755) (by decide +kernel)) rfl, in_tb (List.mem_of_getElem? (i := 18) (by decide +kernel)) rfl, by decide +kernel⟩
abbrev mX8_setLimit : MI := (yX8_setLimit, cX8_setLimit, 5, (some .int))
theorem ooX8_setLimit : MO mX8_setLimit 2 := ⟨in_tb (List.mem_of_getElem? (i := 676) (by decide +kernel)) rfl, iniX8, ⟨by decide +kernel, by decide +kernel⟩, by decide +kernel, by decide⟩
theorem oX8_setLimit : MV mX8_setLimit 2 8 := ⟨ooX8_setLimit, in_tb (List.mem_of_getElem? (i := 674) (by decide +kernel)) rfl, in_tb (List.mem_of_getElem? (i := 675) (by decide +kernel)) rfl, by decide +kernel⟩
abbrev mX8_bits : MI := (yX8_bits, cX8_bits, 1, (some .int))
theorem ooX8_bits : MO mX8_bits 1 := ⟨in_tb (List.mem_of_getElem? (i := 717) (by decide +kernel)) rfl, iniX8, ⟨by decide +kernel, by decide +kernel⟩, by decide +kernel, by decide⟩
theorem oX8_bits : MS mX8_bits 1 := ⟨ooX8_bits, in_tb (List.mem_of_getElem? (i := 716) (by decide +kernel)) rfl⟩
abbrev mX8_ask : MI := (yX8_ask, cX8_ask, 4, (some .int))
theorem ooX8_ask : MO mX8_ask 3 := ⟨in_tb (List.mem_of_getElem? (i := 714) (by decide +kernel)) rfl, iniX8, ⟨by decide +kernel, by decide +kernel⟩, by decide +kernel, by decide⟩
theorem oX8_ask : MV mX8_ask 3 8 := ⟨ooX8_ask, in_tb (List.mem_of_getElem? (i := 712) (by decide +kernel)) rfl, in_tb (List.mem_of_getElem? (i := 713) (by decide +kernel)) rfl, by decide +kernel⟩
abbrev mX8_bring : MI := (yX8_bring, cX8_bring, 3, (some .int))
theorem ooX8_bring : MO mX8_bring 2 := ⟨in_tb (List.mem_of_getElem? (i := 721) (by decide +kernel)) rfl, iniX8, ⟨by decide +kernel, by decide +kernel⟩, by decide +kernel, by decide⟩
theorem oX8_bring : MV mX8_bring 2 8 := ⟨ooX8_bring, in_tb (List.mem_of_getElem? (i := 719) (by decide +kernel)) rfl, in_tb (List.mem_of_getElem? (i := 720) (by decide +kernel)) rfl, by decide +kernel⟩
abbrev mX8_isPair : MI := (yX8_isPair, cX8_isPair, 2, (some .boolean))
theorem ooX8_isPair : MO mX8_isPair 2 := ⟨in_tb (List.mem_of_getElem? (i := 728) (by decide +kernel)) rfl, iniX8, ⟨by decide +kernel, by decide +kernel⟩, by decide +kernel, by decide⟩
theorem oX8_isPair : MS mX8_isPair 2 := ⟨ooX8_isPair, in_tb (List.mem_of_getElem? (i := 727) (by decide +kernel)) rfl⟩
abbrev mX8_takeDown : MI := (yX8_takeDown, cX8_takeDown, 4, (some .int))
theorem ooX8_takeDown : MO mX8_takeDown 2 := ⟨in_tb (List.mem_of_getElem? (i := 725) (by decide +kernel)) rfl, iniX8, ⟨by decide +kernel, by decide +kernel⟩, by decide +kernel, by decide⟩
theorem oX8_takeDown : MV mX8_takeDown 2 8 := ⟨ooX8_takeDown, in_tb (List.mem_of_getElem? (i := 723) (by decide +kernel)) rfl, in_tb (List.mem_of_getElem? (i := 724) (by decide +kernel)) rfl, by decide +kernel⟩
abbrev mX8_setNeeded : MI := (yX8_setNeeded, cX8_setNeeded, 3, (some .int))
theorem ooX8_setNeeded : MO mX8_setNeeded 1 := ⟨in_tb (List.mem_of_getElem? (i := 736) (by decide +kernel)) rfl, iniX8, ⟨by decide +kernel, by decide +kernel⟩, by decide +kernel, by decide⟩
theorem oX8_setNeeded : MV mX8_setNeeded 1 8 := ⟨ooX8_setNeeded, in_tb (List.mem_of_getElem? (i := 734) (by decide +kernel)) rfl, in_tb (List.mem_of_getElem? (i := 735) (by decide +kernel)) rfl, by decide +kernel⟩
abbrev mX8_label : MI := (yX8_label, cX8_label, 4, (some .int))
theorem ooX8_label : MO mX8_label 2 := ⟨in_tb (List.mem_of_getElem? (i := 740) (by decide +kernel)) rfl, iniX8, ⟨by decide +kernel, by decide +kernel⟩, by decide +kernel, by decide⟩
theorem oX8_label : MV mX8_label 2 8 := ⟨ooX8_label, in_tb (List.mem_of_getElem? (i := 738) (by decide +kernel)) rfl, in_tb (List.mem_of_getElem? (i := 739) (by decide +kernel)) rfl, by decide +kernel⟩
abbrev mX8_own : MI := (yX8_own, cX8_own, 6, (some .int))
theorem ooX8_own : MO mX8_own 2 := ⟨in_tb (List.mem_of_getElem? (i := 764) (by decide +kernel)) rfl, iniX8, ⟨by decide +kernel, by decide +kernel⟩, by decide +kernel, by decide⟩
theorem oX8_own : MV mX8_own 2 8 := ⟨ooX8_own, in_tb (List.mem_of_getElem? (i := 763) (by decide +kernel)) rfl, in_tb (List.mem_of_getElem? (i := 19) (by decide +kernel)) rfl, by decide +kernel⟩
abbrev mX8_free : MI := (yX8_free, cX8_free, 3, (some .int))
theorem ooX8_free : MO mX8_free 0 := ⟨in_tb (List.mem_of_getElem? (i := 771) (by decide +kernel)) rfl, iniX8, ⟨by decide +kernel, by decide +kernel⟩, by decide +kernel, by decide⟩
theorem oX8_free : MV mX8_free 0 8 := ⟨ooX8_free, in_tb (List.mem_of_getElem? (i := 770) (by decide +kernel)) rfl, in_tb (List.mem_of_getElem? (i := 20) (by decide +kernel)) rfl, by decide +kernel⟩
abbrev mX8_rewrite : MI := (yX8_rewrite, cX8_rewrite, 8, (some .int))
theorem ooX8_rewrite : MO mX8_rewrite 3 := ⟨in_tb (List.mem_of_getElem? (i := 760) (by decide +kernel)) rfl, iniX8, ⟨by decide +kernel, by decide +kernel⟩, by decide +kernel, by decide⟩
theorem oX8_rewrite : MV mX8_rewrite 3 8 := ⟨ooX8_rewrite, in_tb (List.mem_of_getElem? (i := 758) (by decide +kernel)) rfl, in_tb (List.mem_of_getElem? (i := 759) (by decide +kernel)) rfl, by decide +kernel⟩
abbrev mX8_vote : MI := (yX8_vote, cX8_vote, 7, (some .int))
theorem ooX8_vote : MO mX8_vote 3 := ⟨in_tb (List.mem_of_getElem? (i := 779) (by decide +kernel)) rfl, iniX8, ⟨by decide +kernel, by decide +kernel⟩, by decide +kernel, by decide⟩
theorem oX8_vote : MV mX8_vote 3 8 := ⟨ooX8_vote, in_tb (List.mem_of_getElem? (i := 777) (by decide +kernel)) rfl, in_tb (List.mem_of_getElem? (i := 778) (by decide +kernel)) rfl, by decide +kernel⟩
abbrev mX8_endWeek : MI := (yX8_endWeek, cX8_endWeek, 8, (some .int))
theorem ooX8_endWeek : MO mX8_endWeek 0 := ⟨in_tb (List.mem_of_getElem? (i := 791) (by decide +kernel)) rfl, iniX8, ⟨by decide +kernel, by decide +kernel⟩, by decide +kernel, by decide⟩
theorem oX8_endWeek : MV mX8_endWeek 0 8 := ⟨ooX8_endWeek, in_tb (List.mem_of_getElem? (i := 789) (by decide +kernel)) rfl, in_tb (List.mem_of_getElem? (i := 790) (by decide +kernel)) rfl, by decide +kernel⟩
abbrev mX8_type : MI := (yX8_type, cX8_type, 2, (some .int))
theorem ooX8_type : MO mX8_type 1 := ⟨in_tb (List.mem_of_getElem? (i := 799) (by decide +kernel)) rfl, iniX8, ⟨by decide +kernel, by decide +kernel⟩, by decide +kernel, by decide⟩
theorem oX8_type : MV mX8_type 1 8 := ⟨ooX8_type, in_tb (List.mem_of_getElem? (i := 797) (by decide +kernel)) rfl, in_tb (List.mem_of_getElem? (i := 798) (by decide +kernel)) rfl, by decide +kernel⟩
abbrev mX8_clearText : MI := (yX8_clearText, cX8_clearText, 2, (some .int))
theorem ooX8_clearText : MO mX8_clearText 0 := ⟨in_tb (List.mem_of_getElem? (i := 803) (by decide +kernel)) rfl, iniX8, ⟨by decide +kernel, by decide +kernel⟩, by decide +kernel, by decide⟩
theorem oX8_clearText : MV mX8_clearText 0 8 := ⟨ooX8_clearText, in_tb (List.mem_of_getElem? (i := 801) (by decide +kernel)) rfl, in_tb (List.mem_of_getElem? (i := 802) (by decide +kernel)) rfl, by decide +kernel⟩
abbrev mX8_labels : MI := (yX8_labels, cX8_labels, 3, (some .int))
theorem ooX8_labels : MO mX8_labels 0 := ⟨in_tb (List.mem_of_getElem? (i := 815) (by decide +kernel)) rfl, iniX8, ⟨by decide +kernel, by decide +kernel⟩, by decide +kernel, by decide⟩
theorem oX8_labels : MV mX8_labels 0 8 := ⟨ooX8_labels, in_tb (List.mem_of_getElem? (i := 814) (by decide +kernel)) rfl, in_tb (List.mem_of_getElem? (i := 25) (by decide +kernel)) rfl, by decide +kernel⟩
abbrev mX8_undo : MI := (yX8_undo, cX8_undo, 1, (some .int))
theorem ooX8_undo : MO mX8_undo 0 := ⟨in_tb (List.mem_of_getElem? (i := 807) (by decide +kernel)) rfl, iniX8, ⟨by decide +kernel, by decide +kernel⟩, by decide +kernel, by decide⟩
theorem oX8_undo : MV mX8_undo 0 8 := ⟨ooX8_undo, in_tb (List.mem_of_getElem? (i := 805) (by decide +kernel)) rfl, in_tb (List.mem_of_getElem? (i := 806) (by decide +kernel)) rfl, by decide +kernel⟩
abbrev mX8_keep : MI := (yX8_keep, cX8_keep, 1, (some .int))
theorem ooX8_keep : MO mX8_keep 0 := ⟨in_tb (List.mem_of_getElem? (i := 811) (by decide +kernel)) rfl, iniX8, ⟨by decide +kernel, by decide +kernel⟩, by decide +kernel, by decide⟩
theorem oX8_keep : MV mX8_keep 0 8 := ⟨ooX8_keep, in_tb (List.mem_of_getElem? (i := 809) (by decide +kernel)) rfl, in_tb (List.mem_of_getElem? (i := 810) (by decide +kernel)) rfl, by decide +kernel⟩
abbrev mX8_restore : MI := (yX8_restore, cX8_restore, 1, (some .int))
theorem ooX8_restore : MO mX8_restore 0 := ⟨in_tb (List.mem_of_getElem? (i := 819) (by decide +kernel)) rfl, iniX8, ⟨by decide +kernel, by decide +kernel⟩, by decide +kernel, by decide⟩
theorem oX8_restore : MV mX8_restore 0 8 := ⟨ooX8_restore, in_tb (List.mem_of_getElem? (i := 817) (by decide +kernel)) rfl, in_tb (List.mem_of_getElem? (i := 818) (by decide +kernel)) rfl, by decide +kernel⟩
abbrev mX8_labelOf : MI := (yX8_labelOf, cX8_labelOf, 5, (some .int))
theorem ooX8_labelOf : MO mX8_labelOf 3 := ⟨in_tb (List.mem_of_getElem? (i := 823) (by decide +kernel)) rfl, iniX8, ⟨by decide +kernel, by decide +kernel⟩, by decide +kernel, by decide⟩
theorem oX8_labelOf : MV mX8_labelOf 3 8 := ⟨ooX8_labelOf, in_tb (List.mem_of_getElem? (i := 821) (by decide +kernel)) rfl, in_tb (List.mem_of_getElem? (i := 822) (by decide +kernel)) rfl, by decide +kernel⟩
abbrev mX8_letter : MI := (yX8_letter, cX8_letter, 5, (some .int))
theorem ooX8_letter : MO mX8_letter 3 := ⟨in_tb (List.mem_of_getElem? (i := 827) (by decide +kernel)) rfl, iniX8, ⟨by decide +kernel, by decide +kernel⟩, by decide +kernel, by decide⟩
theorem oX8_letter : MV mX8_letter 3 8 := ⟨ooX8_letter, in_tb (List.mem_of_getElem? (i := 825) (by decide +kernel)) rfl, in_tb (List.mem_of_getElem? (i := 826) (by decide +kernel)) rfl, by decide +kernel⟩
abbrev mX8_apart : MI := (yX8_apart, cX8_apart, 13, (some .int))
theorem ooX8_apart : MO mX8_apart 4 := ⟨in_tb (List.mem_of_getElem? (i := 835) (by decide +kernel)) rfl, iniX8, ⟨by decide +kernel, by decide +kernel⟩, by decide +kernel, by decide⟩
theorem oX8_apart : MV mX8_apart 4 8 := ⟨ooX8_apart, in_tb (List.mem_of_getElem? (i := 834) (by decide +kernel)) rfl, in_tb (List.mem_of_getElem? (i := 26) (by decide +kernel)) rfl, by decide +kernel⟩
abbrev mX8_rewriteOf : MI := (yX8_rewriteOf, cX8_rewriteOf, 6, (some .int))
theorem ooX8_rewriteOf : MO mX8_rewriteOf 2 := ⟨in_tb (List.mem_of_getElem? (i := 831) (by decide +kernel)) rfl, iniX8, ⟨by decide +kernel, by decide +kernel⟩, by decide +kernel, by decide⟩
theorem oX8_rewriteOf : MV mX8_rewriteOf 2 8 := ⟨ooX8_rewriteOf, in_tb (List.mem_of_getElem? (i := 829) (by decide +kernel)) rfl, in_tb (List.mem_of_getElem? (i := 830) (by decide +kernel)) rfl, by decide +kernel⟩
abbrev mX8_ranked : MI := (yX8_ranked, cX8_ranked, 10, (some .int))
theorem ooX8_ranked : MO mX8_ranked 3 := ⟨in_tb (List.mem_of_getElem? (i := 847) (by decide +kernel)) rfl, iniX8, ⟨by decide +kernel, by decide +kernel⟩, by decide +kernel, by decide⟩
theorem oX8_ranked : MV mX8_ranked 3 8 := ⟨ooX8_ranked, in_tb (List.mem_of_getElem? (i := 845) (by decide +kernel)) rfl, in_tb (List.mem_of_getElem? (i := 846) (by decide +kernel)) rfl, by decide +kernel⟩
abbrev mX8_labelsOf : MI := (yX8_labelsOf, cX8_labelsOf, 9, (some .int))
theorem ooX8_labelsOf : MO mX8_labelsOf 2 := ⟨in_tb (List.mem_of_getElem? (i := 859) (by decide +kernel)) rfl, iniX8, ⟨by decide +kernel, by decide +kernel⟩, by decide +kernel, by decide⟩
theorem oX8_labelsOf : MV mX8_labelsOf 2 8 := ⟨ooX8_labelsOf, in_tb (List.mem_of_getElem? (i := 858) (by decide +kernel)) rfl, in_tb (List.mem_of_getElem? (i := 30) (by decide +kernel)) rfl, by decide +kernel⟩
abbrev mX8_worksOf : MI := (yX8_worksOf, cX8_worksOf, 4, (some .int))
theorem ooX8_worksOf : MO mX8_worksOf 1 := ⟨in_tb (List.mem_of_getElem? (i := 855) (by decide +kernel)) rfl, iniX8, ⟨by decide +kernel, by decide +kernel⟩, by decide +kernel, by decide⟩
theorem oX8_worksOf : MV mX8_worksOf 1 8 := ⟨ooX8_worksOf, in_tb (List.mem_of_getElem? (i := 854) (by decide +kernel)) rfl, in_tb (List.mem_of_getElem? (i := 29) (by decide +kernel)) rfl, by decide +kernel⟩
abbrev mX8_room : MI := (yX8_room, cX8_room, 3, (some .int))
theorem ooX8_room : MO mX8_room 2 := ⟨in_tb (List.mem_of_getElem? (i := 851) (by decide +kernel)) rfl, iniX8, ⟨by decide +kernel, by decide +kernel⟩, by decide +kernel, by decide⟩
theorem oX8_room : MV mX8_room 2 8 := ⟨ooX8_room, in_tb (List.mem_of_getElem? (i := 849) (by decide +kernel)) rfl, in_tb (List.mem_of_getElem? (i := 850) (by decide +kernel)) rfl, by decide +kernel⟩
abbrev mX8_rewritesOf : MI := (yX8_rewritesOf, cX8_rewritesOf, 4, (some .int))
theorem ooX8_rewritesOf : MO mX8_rewritesOf 1 := ⟨in_tb (List.mem_of_getElem? (i := 867) (by decide +kernel)) rfl, iniX8, ⟨by decide +kernel, by decide +kernel⟩, by decide +kernel, by decide⟩
theorem oX8_rewritesOf : MV mX8_rewritesOf 1 8 := ⟨ooX8_rewritesOf, in_tb (List.mem_of_getElem? (i := 866) (by decide +kernel)) rfl, in_tb (List.mem_of_getElem? (i := 31) (by decide +kernel)) rfl, by decide +kernel⟩
abbrev mX8_votesOf : MI := (yX8_votesOf, cX8_votesOf, 4, (some .int))
theorem ooX8_votesOf : MO mX8_votesOf 1 := ⟨in_tb (List.mem_of_getElem? (i := 871) (by decide +kernel)) rfl, iniX8, ⟨by decide +kernel, by decide +kernel⟩, by decide +kernel, by decide⟩
theorem oX8_votesOf : MV mX8_votesOf 1 8 := ⟨ooX8_votesOf, in_tb (List.mem_of_getElem? (i := 870) (by decide +kernel)) rfl, in_tb (List.mem_of_getElem? (i := 32) (by decide +kernel)) rfl, by decide +kernel⟩
abbrev mX8_standing : MI := (yX8_standing, cX8_standing, 5, (some .int))
theorem ooX8_standing : MO mX8_standing 1 := ⟨in_tb (List.mem_of_getElem? (i := 875) (by decide +kernel)) rfl, iniX8, ⟨by decide +kernel, by decide +kernel⟩, by decide +kernel, by decide⟩
theorem oX8_standing : MV mX8_standing 1 8 := ⟨ooX8_standing, in_tb (List.mem_of_getElem? (i := 874) (by decide +kernel)) rfl, in_tb (List.mem_of_getElem? (i := 33) (by decide +kernel)) rfl, by decide +kernel⟩
abbrev mX8_visitor : MI := (yX8_visitor, cX8_visitor, 3, (some .int))
theorem ooX8_visitor : MO mX8_visitor 2 := ⟨in_tb (List.mem_of_getElem? (i := 863) (by decide +kernel)) rfl, iniX8, ⟨by decide +kernel, by decide +kernel⟩, by decide +kernel, by decide⟩
theorem oX8_visitor : MV mX8_visitor 2 8 := ⟨ooX8_visitor, in_tb (List.mem_of_getElem? (i := 861) (by decide +kernel)) rfl, in_tb (List.mem_of_getElem? (i := 862) (by decide +kernel)) rfl, by decide +kernel⟩
abbrev mX8_hasTold : MI := (yX8_hasTold, cX8_hasTold, 8, (some .boolean))
theorem ooX8_hasTold : MO mX8_hasTold 1 := ⟨in_tb (List.mem_of_getElem? (i := 883) (by decide +kernel)) rfl, iniX8, ⟨by decide +kernel, by decide +kernel⟩, by decide +kernel, by decide⟩
theorem oX8_hasTold : MV mX8_hasTold 1 8 := ⟨ooX8_hasTold, in_tb (List.mem_of_getElem? (i := 882) (by decide +kernel)) rfl, in_tb (List.mem_of_getElem? (i := 34) (by decide +kernel)) rfl, by decide +kernel⟩
abbrev mX8_labelsWith : MI := (yX8_labelsWith, cX8_labelsWith, 4, (some .int))
theorem ooX8_labelsWith : MO mX8_labelsWith 1 := ⟨in_tb (List.mem_of_getElem? (i := 879) (by decide +kernel)) rfl, iniX8, ⟨by decide +kernel, by decide +kernel⟩, by decide +kernel, by decide⟩
theorem oX8_labelsWith : MV mX8_labelsWith 1 8 := ⟨ooX8_labelsWith, in_tb (List.mem_of_getElem? (i := 877) (by decide +kernel)) rfl, in_tb (List.mem_of_getElem? (i := 878) (by decide +kernel)) rfl, by decide +kernel⟩
abbrev mX8_count : MI := (yX8_count, cX8_count, 2, (some .int))
theorem ooX8_count : MO mX8_count 1 := ⟨in_tb (List.mem_of_getElem? (i := 887) (by decide +kernel)) rfl, iniX8, ⟨by decide +kernel, by decide +kernel⟩, by decide +kernel, by decide⟩
theorem oX8_count : MV mX8_count 1 8 := ⟨ooX8_count, in_tb (List.mem_of_getElem? (i := 885) (by decide +kernel)) rfl, in_tb (List.mem_of_getElem? (i := 886) (by decide +kernel)) rfl, by decide +kernel⟩
abbrev mX8_allVotes : MI := (yX8_allVotes, cX8_allVotes, 3, (some .int))
theorem ooX8_allVotes : MO mX8_allVotes 0 := ⟨in_tb (List.mem_of_getElem? (i := 891) (by decide +kernel)) rfl, iniX8, ⟨by decide +kernel, by decide +kernel⟩, by decide +kernel, by decide⟩
theorem oX8_allVotes : MV mX8_allVotes 0 8 := ⟨ooX8_allVotes, in_tb (List.mem_of_getElem? (i := 890) (by decide +kernel)) rfl, in_tb (List.mem_of_getElem? (i := 35) (by decide +kernel)) rfl, by decide +kernel⟩
abbrev mJ6_bitCount_0f7a4 : MI := (yJ6_bitCount_0f7a4, cJ6_bitCount_0f7a4, 1, (some .int))
theorem ooJ6_bitCount_0f7a4 : MO mJ6_bitCount_0f7a4 1 := ⟨in_tb (List.mem_of_getElem? (i := 357) (by decide +kernel)) rfl, iniJ6, ⟨by decide +kernel, by decide +kernel⟩, by decide +kernel, by decide⟩
theorem oJ6_bitCount_0f7a4 : MS mJ6_bitCount_0f7a4 1 := ⟨ooJ6_bitCount_0f7a4, in_tb (List.mem_of_getElem? (i := 356) (by decide +kernel)) rfl⟩
abbrev mJ9_max_7cf53 : MI := (yJ9_max_7cf53, cJ9_max_7cf53, 2, (some .int))
theorem ooJ9_max_7cf53 : MO mJ9_max_7cf53 2 := ⟨in_tb (List.mem_of_getElem? (i := 563) (by decide +kernel)) rfl, iniJ9, ⟨by decide +kernel, by decide +kernel⟩, by decide +kernel, by decide⟩
theorem oJ9_max_7cf53 : MS mJ9_max_7cf53 2 := ⟨ooJ9_max_7cf53, in_tb (List.mem_of_getElem? (i := 562) (by decide +kernel)) rfl⟩
abbrev mJ7_fill_53178 : MI := (yJ7_fill_53178, cJ7_fill_53178, 4, none)
theorem ooJ7_fill_53178 : MO mJ7_fill_53178 2 := ⟨in_tb (List.mem_of_getElem? (i := 174) (by decide +kernel)) rfl, iniJ7, ⟨by decide +kernel, by decide +kernel⟩, by decide +kernel, by decide⟩
theorem oJ7_fill_53178 : MS mJ7_fill_53178 2 := ⟨ooJ7_fill_53178, in_tb (List.mem_of_getElem? (i := 173) (by decide +kernel)) rfl⟩
theorem nI_addN (a b : Nat) : nI a + nI b = nI (a + b) := (Int32.ofNat_add a b).symm
theorem nI_mulN (a b : Nat) : nI a * nI b = nI (a * b) := (Int32.ofNat_mul a b).symm
theorem nI_subN {a b : Nat} (h : b ≤ a) : nI a - nI b = nI (a - b) := by
  have h1 : nI a = nI (a - b) + nI b := by rw [nI_addN, Nat.sub_add_cancel h]
  rw [h1, Int32.add_sub_cancel]
theorem nI_leN {a b : Nat} (ha : a < 2147483648) (hb : b < 2147483648) : nI a ≤ nI b ↔ a ≤ b := by
  rw [Int32.le_iff_toInt_le, nI_toInt (by omega), nI_toInt (by omega)]; omega
theorem nI_ltN {a b : Nat} (ha : a < 2147483648) (hb : b < 2147483648) : nI a < nI b ↔ a < b := by
  rw [Int32.lt_iff_toInt_lt, nI_toInt (by omega), nI_toInt (by omega)]; omega
theorem nI_eqN {a b : Nat} (ha : a < 2147483648) (hb : b < 2147483648) : nI a = nI b ↔ a = b := by
  constructor
  · intro h
    have h1 : (nI a).toInt = (nI b).toInt := by rw [h]
    rw [nI_toInt (by omega), nI_toInt (by omega)] at h1; omega
  · intro h; rw [h]
section VN2
variable {mi : MI} {d mc ms : Nat} {Po : Option Value → Wd → Nat → Prop} {w : Wd} {sz cells slots : Nat} {L : List (Option Value)} {stk : List Value} {pc a : Nat}
theorem v_iaddN {x y : Nat} (hd : decode mi.2.1 pc = .ok (.iadd, 1)) (k : V mi d mc ms Po w sz cells slots L (.int (nI (x + y)) :: stk) (pc + 1)) : V mi d mc ms Po w sz cells slots L (.int (nI y) :: .int (nI x) :: stk) pc := v_iadd hd (by rw [nI_addN]; exact k)
theorem v_imulN {x y : Nat} (hd : decode mi.2.1 pc = .ok (.imul, 1)) (k : V mi d mc ms Po w sz cells slots L (.int (nI (x * y)) :: stk) (pc + 1)) : V mi d mc ms Po w sz cells slots L (.int (nI y) :: .int (nI x) :: stk) pc := v_imul hd (by rw [nI_mulN]; exact k)
theorem v_isubN {x y : Nat} (hd : decode mi.2.1 pc = .ok (.isub, 1)) (h : y ≤ x) (k : V mi d mc ms Po w sz cells slots L (.int (nI (x - y)) :: stk) (pc + 1)) : V mi d mc ms Po w sz cells slots L (.int (nI y) :: .int (nI x) :: stk) pc := v_isub hd (by rw [nI_subN h]; exact k)
theorem v_iincN {i x n : Nat} {z : Int} {L' : List (Option Value)} (hd : decode mi.2.1 pc = .ok (.iinc i z, 3)) (hi : i < mi.2.2.1) (hl0 : lk L i = some (.int (nI x))) (hz : Int32.ofInt z = nI n) (hL : st L i (.int (nI (x + n))) = L') (k : V mi d mc ms Po w sz cells slots L' stk (pc + 3)) : V mi d mc ms Po w sz cells slots L stk pc := v_iinc hd hi hl0 (by rw [hz, nI_addN]) hL k
theorem v_ialdN {n v : Nat} {f : Nat → Int32} {i : Int32} (j : Nat) (hd : decode mi.2.1 pc = .ok (.iaload, 1)) (ha : w a = some (ia 1 n f)) (hj : i = nI j) (hjn : j < n) (hn : n ≤ 2147483647) (hv : f j = nI v) (kk : V mi d mc ms Po w sz cells slots L (.int (nI v) :: stk) (pc + 1)) : V mi d mc ms Po w sz cells slots L (.int i :: .ref a :: stk) pc := v_iald j hd ha hj hjn hn (by rw [hv]; exact kk)
theorem v_caldN {n v : Nat} {f : Nat → Int32} {i : Int32} (j : Nat) (hd : decode mi.2.1 pc = .ok (.caload, 1)) (ha : w a = some (ia 0 n f)) (hj : i = nI j) (hjn : j < n) (hn : n ≤ 2147483647) (hv : f j = nI v) (kk : V mi d mc ms Po w sz cells slots L (.int (nI v) :: stk) (pc + 1)) : V mi d mc ms Po w sz cells slots L (.int i :: .ref a :: stk) pc := v_cald j hd ha hj hjn hn (by rw [hv]; exact kk)
theorem v_icmp_eqN {x y : Nat} {off : Int} {tgt : Nat} (hd : decode mi.2.1 pc = .ok (.if_icmp .eq off, 3)) (ht : (pc : Int) + off = (tgt : Int)) (hx : x < 2147483648) (hy : y < 2147483648) (kt : x = y → V mi d mc ms Po w sz cells slots L stk (tgt)) (kf : ¬ x = y → V mi d mc ms Po w sz cells slots L stk (pc + 3)) : V mi d mc ms Po w sz cells slots L (.int (nI y) :: .int (nI x) :: stk) pc := v_icmp_eq hd ht (fun z => kt ((nI_eqN hx hy).mp z)) (fun z => kf (fun u => z ((nI_eqN hx hy).mpr u)))
theorem v_icmp_neN {x y : Nat} {off : Int} {tgt : Nat} (hd : decode mi.2.1 pc = .ok (.if_icmp .ne off, 3)) (ht : (pc : Int) + off = (tgt : Int)) (hx : x < 2147483648) (hy : y < 2147483648) (kt : ¬ x = y → V mi d mc ms Po w sz cells slots L stk (tgt)) (kf : x = y → V mi d mc ms Po w sz cells slots L stk (pc + 3)) : V mi d mc ms Po w sz cells slots L (.int (nI y) :: .int (nI x) :: stk) pc := v_icmp_ne hd ht (fun z => kt (fun u => z ((nI_eqN hx hy).mpr u))) (fun z => kf ((nI_eqN hx hy).mp z))
theorem v_icmp_ltN {x y : Nat} {off : Int} {tgt : Nat} (hd : decode mi.2.1 pc = .ok (.if_icmp .lt off, 3)) (ht : (pc : Int) + off = (tgt : Int)) (hx : x < 2147483648) (hy : y < 2147483648) (kt : x < y → V mi d mc ms Po w sz cells slots L stk (tgt)) (kf : ¬ x < y → V mi d mc ms Po w sz cells slots L stk (pc + 3)) : V mi d mc ms Po w sz cells slots L (.int (nI y) :: .int (nI x) :: stk) pc := v_icmp_lt hd ht (fun z => kt ((nI_ltN hx hy).mp z)) (fun z => kf (fun u => z ((nI_ltN hx hy).mpr u)))
theorem v_icmp_geN {x y : Nat} {off : Int} {tgt : Nat} (hd : decode mi.2.1 pc = .ok (.if_icmp .ge off, 3)) (ht : (pc : Int) + off = (tgt : Int)) (hx : x < 2147483648) (hy : y < 2147483648) (kt : y ≤ x → V mi d mc ms Po w sz cells slots L stk (tgt)) (kf : ¬ y ≤ x → V mi d mc ms Po w sz cells slots L stk (pc + 3)) : V mi d mc ms Po w sz cells slots L (.int (nI y) :: .int (nI x) :: stk) pc := v_icmp_ge hd ht (fun z => kt ((nI_leN hy hx).mp z)) (fun z => kf (fun u => z ((nI_leN hy hx).mpr u)))
theorem v_icmp_gtN {x y : Nat} {off : Int} {tgt : Nat} (hd : decode mi.2.1 pc = .ok (.if_icmp .gt off, 3)) (ht : (pc : Int) + off = (tgt : Int)) (hx : x < 2147483648) (hy : y < 2147483648) (kt : y < x → V mi d mc ms Po w sz cells slots L stk (tgt)) (kf : ¬ y < x → V mi d mc ms Po w sz cells slots L stk (pc + 3)) : V mi d mc ms Po w sz cells slots L (.int (nI y) :: .int (nI x) :: stk) pc := v_icmp_gt hd ht (fun z => kt ((nI_ltN hy hx).mp z)) (fun z => kf (fun u => z ((nI_ltN hy hx).mpr u)))
theorem v_icmp_leN {x y : Nat} {off : Int} {tgt : Nat} (hd : decode mi.2.1 pc = .ok (.if_icmp .le off, 3)) (ht : (pc : Int) + off = (tgt : Int)) (hx : x < 2147483648) (hy : y < 2147483648) (kt : x ≤ y → V mi d mc ms Po w sz cells slots L stk (tgt)) (kf : ¬ x ≤ y → V mi d mc ms Po w sz cells slots L stk (pc + 3)) : V mi d mc ms Po w sz cells slots L (.int (nI y) :: .int (nI x) :: stk) pc := v_icmp_le hd ht (fun z => kt ((nI_leN hx hy).mp z)) (fun z => kf (fun u => z ((nI_leN hx hy).mpr u)))
end VN2
theorem dn {P : Nat → Prop} {N : Nat} (h : ∀ i, i ≤ N → (i < N → P (i + 1)) → P i) : ∀ i, i ≤ N → P i := by
  intro i hi
  obtain ⟨k, hk⟩ : ∃ k, i + k = N := ⟨N - i, by omega⟩
  induction k generalizing i with
  | zero => exact h i hi (fun h2 => by omega)
  | succ k ih => exact h i hi (fun h2 => ih (i + 1) (by omega) (by omega))
