set_option maxRecDepth 20000 in
theorem clk_L_7 : Cond.classLink RL 7 RX5 ∈ wsL_law := (List.mem_of_getElem? (i := 0) (by decide +kernel))
set_option maxRecDepth 20000 in
theorem ml_L_9 : Cond.methodLink RL 9 yX5_init ∈ wsL_law ∧ Cond.instanceMethod yX5_init ∈ wsL_law ∧ yX5_init.name = "<init>" := ⟨(List.mem_of_getElem? (i := 6) (by decide +kernel)), (List.mem_of_getElem? (i := 7) (by decide +kernel)), rfl⟩
set_option maxRecDepth 20000 in
theorem clk_L_10 : Cond.classLink RL 10 RX6 ∈ wsL_law := (List.mem_of_getElem? (i := 3) (by decide +kernel))
set_option maxRecDepth 20000 in
theorem ml_L_12 : Cond.methodLink RL 12 yX6_init ∈ wsL_law ∧ Cond.instanceMethod yX6_init ∈ wsL_law ∧ yX6_init.name = "<init>" := ⟨(List.mem_of_getElem? (i := 18) (by decide +kernel)), (List.mem_of_getElem? (i := 19) (by decide +kernel)), rfl⟩
set_option maxRecDepth 20000 in
theorem ml_L_13 : Cond.methodLink RL 13 yX5_prop ∈ wsL_law ∧ Cond.instanceMethod yX5_prop ∈ wsL_law ∧ Cond.selects RX5 yX5_prop yX5_prop ∈ wsL_law := ⟨(List.mem_of_getElem? (i := 36) (by decide +kernel)), (List.mem_of_getElem? (i := 37) (by decide +kernel)), (List.mem_of_getElem? (i := 38) (by decide +kernel))⟩
set_option maxRecDepth 20000 in
theorem ml_L_17 : Cond.methodLink RL 17 yX6_prop ∈ wsL_law ∧ Cond.instanceMethod yX6_prop ∈ wsL_law ∧ Cond.selects RX6 yX6_prop yX6_prop ∈ wsL_law := ⟨(List.mem_of_getElem? (i := 84) (by decide +kernel)), (List.mem_of_getElem? (i := 85) (by decide +kernel)), (List.mem_of_getElem? (i := 86) (by decide +kernel))⟩
set_option maxRecDepth 20000 in
theorem ml_L_18 : Cond.methodLink RL 18 yX5_set ∈ wsL_law ∧ Cond.instanceMethod yX5_set ∈ wsL_law ∧ Cond.selects RX5 yX5_set yX5_set ∈ wsL_law := ⟨(List.mem_of_getElem? (i := 95) (by decide +kernel)), (List.mem_of_getElem? (i := 96) (by decide +kernel)), (List.mem_of_getElem? (i := 97) (by decide +kernel))⟩
set_option maxRecDepth 20000 in
theorem ml_L_22 : Cond.methodLink RL 22 yX6_set ∈ wsL_law ∧ Cond.instanceMethod yX6_set ∈ wsL_law ∧ Cond.selects RX6 yX6_set yX6_set ∈ wsL_law := ⟨(List.mem_of_getElem? (i := 114) (by decide +kernel)), (List.mem_of_getElem? (i := 115) (by decide +kernel)), (List.mem_of_getElem? (i := 116) (by decide +kernel))⟩
set_option maxRecDepth 20000 in
theorem ml_L_23 : Cond.methodLink RL 23 yX5_slot ∈ wsL_law ∧ Cond.instanceMethod yX5_slot ∈ wsL_law ∧ Cond.selects RX5 yX5_slot yX5_slot ∈ wsL_law := ⟨(List.mem_of_getElem? (i := 127) (by decide +kernel)), (List.mem_of_getElem? (i := 128) (by decide +kernel)), (List.mem_of_getElem? (i := 129) (by decide +kernel))⟩
set_option maxRecDepth 20000 in
theorem ml_L_26 : Cond.methodLink RL 26 yX6_slot ∈ wsL_law ∧ Cond.instanceMethod yX6_slot ∈ wsL_law ∧ Cond.selects RX6 yX6_slot yX6_slot ∈ wsL_law := ⟨(List.mem_of_getElem? (i := 138) (by decide +kernel)), (List.mem_of_getElem? (i := 139) (by decide +kernel)), (List.mem_of_getElem? (i := 140) (by decide +kernel))⟩
set_option maxRecDepth 20000 in
theorem ml_L_27 : Cond.methodLink RL 27 yX5_held ∈ wsL_law ∧ Cond.instanceMethod yX5_held ∈ wsL_law ∧ Cond.selects RX5 yX5_held yX5_held ∈ wsL_law := ⟨(List.mem_of_getElem? (i := 145) (by decide +kernel)), (List.mem_of_getElem? (i := 146) (by decide +kernel)), (List.mem_of_getElem? (i := 147) (by decide +kernel))⟩
set_option maxRecDepth 20000 in
theorem ml_L_31 : Cond.methodLink RL 31 yX6_held ∈ wsL_law ∧ Cond.instanceMethod yX6_held ∈ wsL_law ∧ Cond.selects RX6 yX6_held yX6_held ∈ wsL_law := ⟨(List.mem_of_getElem? (i := 149) (by decide +kernel)), (List.mem_of_getElem? (i := 150) (by decide +kernel)), (List.mem_of_getElem? (i := 151) (by decide +kernel))⟩
set_option maxRecDepth 20000 in
theorem ml_L_32 : Cond.methodLink RL 32 yX5_hand ∈ wsL_law ∧ Cond.instanceMethod yX5_hand ∈ wsL_law ∧ Cond.selects RX5 yX5_hand yX5_hand ∈ wsL_law := ⟨(List.mem_of_getElem? (i := 153) (by decide +kernel)), (List.mem_of_getElem? (i := 154) (by decide +kernel)), (List.mem_of_getElem? (i := 155) (by decide +kernel))⟩
set_option maxRecDepth 20000 in
theorem ml_L_36 : Cond.methodLink RL 36 yX6_hand ∈ wsL_law ∧ Cond.instanceMethod yX6_hand ∈ wsL_law ∧ Cond.selects RX6 yX6_hand yX6_hand ∈ wsL_law := ⟨(List.mem_of_getElem? (i := 158) (by decide +kernel)), (List.mem_of_getElem? (i := 159) (by decide +kernel)), (List.mem_of_getElem? (i := 160) (by decide +kernel))⟩
set_option maxRecDepth 20000 in
theorem ml_L_37 : Cond.methodLink RL 37 yX5_cue ∈ wsL_law ∧ Cond.instanceMethod yX5_cue ∈ wsL_law ∧ Cond.selects RX5 yX5_cue yX5_cue ∈ wsL_law := ⟨(List.mem_of_getElem? (i := 162) (by decide +kernel)), (List.mem_of_getElem? (i := 163) (by decide +kernel)), (List.mem_of_getElem? (i := 164) (by decide +kernel))⟩
set_option maxRecDepth 20000 in
theorem ml_L_41 : Cond.methodLink RL 41 yX6_cue ∈ wsL_law ∧ Cond.instanceMethod yX6_cue ∈ wsL_law ∧ Cond.selects RX6 yX6_cue yX6_cue ∈ wsL_law := ⟨(List.mem_of_getElem? (i := 184) (by decide +kernel)), (List.mem_of_getElem? (i := 185) (by decide +kernel)), (List.mem_of_getElem? (i := 186) (by decide +kernel))⟩
set_option maxRecDepth 20000 in
theorem ml_L_42 : Cond.methodLink RL 42 yX5_strike ∈ wsL_law ∧ Cond.instanceMethod yX5_strike ∈ wsL_law ∧ Cond.selects RX5 yX5_strike yX5_strike ∈ wsL_law := ⟨(List.mem_of_getElem? (i := 198) (by decide +kernel)), (List.mem_of_getElem? (i := 199) (by decide +kernel)), (List.mem_of_getElem? (i := 200) (by decide +kernel))⟩
set_option maxRecDepth 20000 in
theorem ml_L_45 : Cond.methodLink RL 45 yX6_strike ∈ wsL_law ∧ Cond.instanceMethod yX6_strike ∈ wsL_law ∧ Cond.selects RX6 yX6_strike yX6_strike ∈ wsL_law := ⟨(List.mem_of_getElem? (i := 202) (by decide +kernel)), (List.mem_of_getElem? (i := 203) (by decide +kernel)), (List.mem_of_getElem? (i := 204) (by decide +kernel))⟩
set_option maxRecDepth 20000 in
theorem ml_L_46 : Cond.methodLink RL 46 yX5_play ∈ wsL_law ∧ Cond.instanceMethod yX5_play ∈ wsL_law ∧ Cond.selects RX5 yX5_play yX5_play ∈ wsL_law := ⟨(List.mem_of_getElem? (i := 206) (by decide +kernel)), (List.mem_of_getElem? (i := 207) (by decide +kernel)), (List.mem_of_getElem? (i := 208) (by decide +kernel))⟩
set_option maxRecDepth 20000 in
theorem ml_L_49 : Cond.methodLink RL 49 yX6_play ∈ wsL_law ∧ Cond.instanceMethod yX6_play ∈ wsL_law ∧ Cond.selects RX6 yX6_play yX6_play ∈ wsL_law := ⟨(List.mem_of_getElem? (i := 283) (by decide +kernel)), (List.mem_of_getElem? (i := 284) (by decide +kernel)), (List.mem_of_getElem? (i := 285) (by decide +kernel))⟩
set_option maxRecDepth 20000 in
theorem ml_L_50 : Cond.methodLink RL 50 yX5_miscue ∈ wsL_law ∧ Cond.instanceMethod yX5_miscue ∈ wsL_law ∧ Cond.selects RX5 yX5_miscue yX5_miscue ∈ wsL_law := ⟨(List.mem_of_getElem? (i := 339) (by decide +kernel)), (List.mem_of_getElem? (i := 340) (by decide +kernel)), (List.mem_of_getElem? (i := 341) (by decide +kernel))⟩
set_option maxRecDepth 20000 in
theorem ml_L_53 : Cond.methodLink RL 53 yX6_miscue ∈ wsL_law ∧ Cond.instanceMethod yX6_miscue ∈ wsL_law ∧ Cond.selects RX6 yX6_miscue yX6_miscue ∈ wsL_law := ⟨(List.mem_of_getElem? (i := 343) (by decide +kernel)), (List.mem_of_getElem? (i := 344) (by decide +kernel)), (List.mem_of_getElem? (i := 345) (by decide +kernel))⟩
set_option maxRecDepth 20000 in
theorem ml_L_54 : Cond.methodLink RL 54 yX5_points ∈ wsL_law ∧ Cond.instanceMethod yX5_points ∈ wsL_law ∧ Cond.selects RX5 yX5_points yX5_points ∈ wsL_law := ⟨(List.mem_of_getElem? (i := 347) (by decide +kernel)), (List.mem_of_getElem? (i := 348) (by decide +kernel)), (List.mem_of_getElem? (i := 349) (by decide +kernel))⟩
set_option maxRecDepth 20000 in
theorem ml_L_58 : Cond.methodLink RL 58 yX6_points ∈ wsL_law ∧ Cond.instanceMethod yX6_points ∈ wsL_law ∧ Cond.selects RX6 yX6_points yX6_points ∈ wsL_law := ⟨(List.mem_of_getElem? (i := 351) (by decide +kernel)), (List.mem_of_getElem? (i := 352) (by decide +kernel)), (List.mem_of_getElem? (i := 353) (by decide +kernel))⟩
set_option maxRecDepth 20000 in
theorem ml_L_59 : Cond.methodLink RL 59 yX5_is ∈ wsL_law ∧ Cond.instanceMethod yX5_is ∈ wsL_law ∧ Cond.selects RX5 yX5_is yX5_is ∈ wsL_law := ⟨(List.mem_of_getElem? (i := 355) (by decide +kernel)), (List.mem_of_getElem? (i := 356) (by decide +kernel)), (List.mem_of_getElem? (i := 357) (by decide +kernel))⟩
set_option maxRecDepth 20000 in
theorem ml_L_62 : Cond.methodLink RL 62 yX6_is ∈ wsL_law ∧ Cond.instanceMethod yX6_is ∈ wsL_law ∧ Cond.selects RX6 yX6_is yX6_is ∈ wsL_law := ⟨(List.mem_of_getElem? (i := 359) (by decide +kernel)), (List.mem_of_getElem? (i := 360) (by decide +kernel)), (List.mem_of_getElem? (i := 361) (by decide +kernel))⟩
set_option maxRecDepth 20000 in
theorem ml_L_63 : Cond.methodLink RL 63 yX5_worth ∈ wsL_law ∧ Cond.instanceMethod yX5_worth ∈ wsL_law ∧ Cond.selects RX5 yX5_worth yX5_worth ∈ wsL_law := ⟨(List.mem_of_getElem? (i := 363) (by decide +kernel)), (List.mem_of_getElem? (i := 364) (by decide +kernel)), (List.mem_of_getElem? (i := 365) (by decide +kernel))⟩
set_option maxRecDepth 20000 in
theorem ml_L_67 : Cond.methodLink RL 67 yX6_worth ∈ wsL_law ∧ Cond.instanceMethod yX6_worth ∈ wsL_law ∧ Cond.selects RX6 yX6_worth yX6_worth ∈ wsL_law := ⟨(List.mem_of_getElem? (i := 367) (by decide +kernel)), (List.mem_of_getElem? (i := 368) (by decide +kernel)), (List.mem_of_getElem? (i := 369) (by decide +kernel))⟩
set_option maxRecDepth 20000 in
theorem ml_L_68 : Cond.methodLink RL 68 yX5_wear ∈ wsL_law ∧ Cond.instanceMethod yX5_wear ∈ wsL_law ∧ Cond.selects RX5 yX5_wear yX5_wear ∈ wsL_law := ⟨(List.mem_of_getElem? (i := 371) (by decide +kernel)), (List.mem_of_getElem? (i := 372) (by decide +kernel)), (List.mem_of_getElem? (i := 373) (by decide +kernel))⟩
set_option maxRecDepth 20000 in
theorem ml_L_71 : Cond.methodLink RL 71 yX6_wear ∈ wsL_law ∧ Cond.instanceMethod yX6_wear ∈ wsL_law ∧ Cond.selects RX6 yX6_wear yX6_wear ∈ wsL_law := ⟨(List.mem_of_getElem? (i := 378) (by decide +kernel)), (List.mem_of_getElem? (i := 379) (by decide +kernel)), (List.mem_of_getElem? (i := 380) (by decide +kernel))⟩
set_option maxRecDepth 20000 in
theorem ml_L_72 : Cond.methodLink RL 72 yX5_at ∈ wsL_law ∧ Cond.instanceMethod yX5_at ∈ wsL_law ∧ Cond.selects RX5 yX5_at yX5_at ∈ wsL_law := ⟨(List.mem_of_getElem? (i := 382) (by decide +kernel)), (List.mem_of_getElem? (i := 383) (by decide +kernel)), (List.mem_of_getElem? (i := 384) (by decide +kernel))⟩
set_option maxRecDepth 20000 in
theorem ml_L_75 : Cond.methodLink RL 75 yX6_at ∈ wsL_law ∧ Cond.instanceMethod yX6_at ∈ wsL_law ∧ Cond.selects RX6 yX6_at yX6_at ∈ wsL_law := ⟨(List.mem_of_getElem? (i := 386) (by decide +kernel)), (List.mem_of_getElem? (i := 387) (by decide +kernel)), (List.mem_of_getElem? (i := 388) (by decide +kernel))⟩
set_option maxRecDepth 20000 in
theorem ml_L_76 : Cond.methodLink RL 76 yX5_count ∈ wsL_law ∧ Cond.instanceMethod yX5_count ∈ wsL_law ∧ Cond.selects RX5 yX5_count yX5_count ∈ wsL_law := ⟨(List.mem_of_getElem? (i := 390) (by decide +kernel)), (List.mem_of_getElem? (i := 391) (by decide +kernel)), (List.mem_of_getElem? (i := 392) (by decide +kernel))⟩
set_option maxRecDepth 20000 in
theorem ml_L_79 : Cond.methodLink RL 79 yX6_count ∈ wsL_law ∧ Cond.instanceMethod yX6_count ∈ wsL_law ∧ Cond.selects RX6 yX6_count yX6_count ∈ wsL_law := ⟨(List.mem_of_getElem? (i := 394) (by decide +kernel)), (List.mem_of_getElem? (i := 395) (by decide +kernel)), (List.mem_of_getElem? (i := 396) (by decide +kernel))⟩
set_option maxRecDepth 20000 in
theorem ml_X0_1 : Cond.methodLink RX0 1 objectInit ∈ wsL_law := (List.mem_of_getElem? (i := 179) (by decide +kernel))
set_option maxRecDepth 20000 in
theorem fl_X0_7_0 : zm_fl RX0 7 0 0 := ⟨RX0, TX0, 4, "PropStore$Cue", rfl, inlX0, by decide, (List.mem_of_getElem? (i := 180) (by decide +kernel)), Or.inl rfl⟩
set_option maxRecDepth 20000 in
theorem fp_X0_7_0 : zm_fp RX0 7 0 0 .int true := ⟨RX0, TX0, 4, tyX0, rfl, inlX0, tyX0_ok, nmX0, by decide, (List.mem_of_getElem? (i := 180) (by decide +kernel)), rfl, fun _ => rfl, by decide +kernel⟩
set_option maxRecDepth 20000 in
theorem fl_X0_13_0 : zm_fl RX0 13 0 1 := ⟨RX0, TX0, 4, "PropStore$Cue", rfl, inlX0, by decide, (List.mem_of_getElem? (i := 181) (by decide +kernel)), Or.inl rfl⟩
set_option maxRecDepth 20000 in
theorem fp_X0_13_0 : zm_fp RX0 13 0 1 .int true := ⟨RX0, TX0, 4, tyX0, rfl, inlX0, tyX0_ok, nmX0, by decide, (List.mem_of_getElem? (i := 181) (by decide +kernel)), rfl, fun _ => rfl, by decide +kernel⟩
set_option maxRecDepth 20000 in
theorem fl_X0_16_0 : zm_fl RX0 16 0 2 := ⟨RX0, TX0, 4, "PropStore$Cue", rfl, inlX0, by decide, (List.mem_of_getElem? (i := 182) (by decide +kernel)), Or.inl rfl⟩
set_option maxRecDepth 20000 in
theorem fp_X0_16_0 : zm_fp RX0 16 0 2 .int true := ⟨RX0, TX0, 4, tyX0, rfl, inlX0, tyX0_ok, nmX0, by decide, (List.mem_of_getElem? (i := 182) (by decide +kernel)), rfl, fun _ => rfl, by decide +kernel⟩
set_option maxRecDepth 20000 in
theorem fl_X0_19_0 : zm_fl RX0 19 0 3 := ⟨RX0, TX0, 4, "PropStore$Cue", rfl, inlX0, by decide, (List.mem_of_getElem? (i := 183) (by decide +kernel)), Or.inl rfl⟩
set_option maxRecDepth 20000 in
theorem fp_X0_19_0 : zm_fp RX0 19 0 3 .int true := ⟨RX0, TX0, 4, tyX0, rfl, inlX0, tyX0_ok, nmX0, by decide, (List.mem_of_getElem? (i := 183) (by decide +kernel)), rfl, fun _ => rfl, by decide +kernel⟩
set_option maxRecDepth 20000 in
theorem ml_X1_3 : Cond.methodLink RX1 3 yX3_init ∈ wsL_law ∧ Cond.instanceMethod yX3_init ∈ wsL_law ∧ yX3_init.name = "<init>" := ⟨(List.mem_of_getElem? (i := 83) (by decide +kernel)), (List.mem_of_getElem? (i := 64) (by decide +kernel)), rfl⟩
set_option maxRecDepth 20000 in
theorem fl_X1_9_1 : zm_fl RX1 9 1 2 := ⟨RX1, TX1, 3, "PropStore$Numbers", rfl, inlX1, by decide, (List.mem_of_getElem? (i := 82) (by decide +kernel)), Or.inl rfl⟩
set_option maxRecDepth 20000 in
theorem fp_X1_9_1 : zm_fp RX1 9 1 2 (.array .long) true := ⟨RX1, TX1, 3, tyX1, rfl, inlX1, tyX1_ok, nmX1, by decide, (List.mem_of_getElem? (i := 82) (by decide +kernel)), rfl, fun _ => rfl, by decide +kernel⟩
set_option maxRecDepth 20000 in
theorem ml_X1_15 : Cond.methodLink RX1 15 yX1_cut ∈ wsL_law ∧ Cond.instanceMethod yX1_cut ∈ wsL_law ∧ Cond.selects RX1 yX1_cut yX1_cut ∈ wsL_law := ⟨(List.mem_of_getElem? (i := 108) (by decide +kernel)), (List.mem_of_getElem? (i := 109) (by decide +kernel)), (List.mem_of_getElem? (i := 110) (by decide +kernel))⟩
set_option maxRecDepth 20000 in
theorem fl_X1_19_1 : zm_fl RX1 19 1 1 := ⟨RX1, TX1, 3, "PropStore$Numbers", rfl, inlX1, by decide, (List.mem_of_getElem? (i := 112) (by decide +kernel)), Or.inr (List.mem_of_getElem? (i := 113) (by decide +kernel))⟩
set_option maxRecDepth 20000 in
theorem ml_X2_3 : Cond.methodLink RX2 3 yX3_init ∈ wsL_law ∧ Cond.instanceMethod yX3_init ∈ wsL_law ∧ yX3_init.name = "<init>" := ⟨(List.mem_of_getElem? (i := 63) (by decide +kernel)), (List.mem_of_getElem? (i := 64) (by decide +kernel)), rfl⟩
set_option maxRecDepth 20000 in
theorem fl_X2_9_2 : zm_fl RX2 9 2 2 := ⟨RX2, TX2, 4, "PropStore$Piece", rfl, inlX2, by decide, (List.mem_of_getElem? (i := 62) (by decide +kernel)), Or.inl rfl⟩
set_option maxRecDepth 20000 in
theorem fp_X2_9_2 : zm_fp RX2 9 2 2 .int true := ⟨RX2, TX2, 4, tyX2, rfl, inlX2, tyX2_ok, nmX2, by decide, (List.mem_of_getElem? (i := 62) (by decide +kernel)), rfl, fun _ => rfl, by decide +kernel⟩
set_option maxRecDepth 20000 in
theorem fl_X2_15_2 : zm_fl RX2 15 2 3 := ⟨RX2, TX2, 4, "PropStore$Piece", rfl, inlX2, by decide, (List.mem_of_getElem? (i := 238) (by decide +kernel)), Or.inl rfl⟩
set_option maxRecDepth 20000 in
theorem fp_X2_15_2 : zm_fp RX2 15 2 3 .int false := ⟨RX2, TX2, 4, tyX2, rfl, inlX2, tyX2_ok, nmX2, by decide, (List.mem_of_getElem? (i := 238) (by decide +kernel)), rfl, fun h => (by cases h), by decide +kernel⟩
set_option maxRecDepth 20000 in
theorem fl_X2_22_2 : zm_fl RX2 22 2 1 := ⟨RX2, TX2, 4, "PropStore$Piece", rfl, inlX2, by decide, (List.mem_of_getElem? (i := 241) (by decide +kernel)), Or.inr (List.mem_of_getElem? (i := 242) (by decide +kernel))⟩
set_option maxRecDepth 20000 in
theorem ml_X3_1 : Cond.methodLink RX3 1 objectInit ∈ wsL_law := (List.mem_of_getElem? (i := 67) (by decide +kernel))
set_option maxRecDepth 20000 in
theorem fl_X3_7_1 : zm_fl RX3 7 1 0 := ⟨RX1, TX1, 3, "PropStore$Prop", rfl, inlX1, by decide, (List.mem_of_getElem? (i := 68) (by decide +kernel)), Or.inl rfl⟩
set_option maxRecDepth 20000 in
theorem fp_X3_7_1 : zm_fp RX3 7 1 0 .int true := ⟨RX1, TX1, 3, tyX1, rfl, inlX1, tyX1_ok, nmX1, by decide, (List.mem_of_getElem? (i := 68) (by decide +kernel)), rfl, fun _ => rfl, by decide +kernel⟩
set_option maxRecDepth 20000 in
theorem fl_X3_7_2 : zm_fl RX3 7 2 0 := ⟨RX2, TX2, 4, "PropStore$Prop", rfl, inlX2, by decide, (List.mem_of_getElem? (i := 68) (by decide +kernel)), Or.inl rfl⟩
set_option maxRecDepth 20000 in
theorem fp_X3_7_2 : zm_fp RX3 7 2 0 .int true := ⟨RX2, TX2, 4, tyX2, rfl, inlX2, tyX2_ok, nmX2, by decide, (List.mem_of_getElem? (i := 68) (by decide +kernel)), rfl, fun _ => rfl, by decide +kernel⟩
set_option maxRecDepth 20000 in
theorem fl_X3_7_3 : zm_fl RX3 7 3 0 := ⟨RX4, TX4, 3, "PropStore$Prop", rfl, inlX4, by decide, (List.mem_of_getElem? (i := 68) (by decide +kernel)), Or.inl rfl⟩
set_option maxRecDepth 20000 in
theorem fp_X3_7_3 : zm_fp RX3 7 3 0 .int true := ⟨RX4, TX4, 3, tyX4, rfl, inlX4, tyX4_ok, nmX4, by decide, (List.mem_of_getElem? (i := 68) (by decide +kernel)), rfl, fun _ => rfl, by decide +kernel⟩
set_option maxRecDepth 20000 in
theorem fl_X3_13_1 : zm_fl RX3 13 1 1 := ⟨RX1, TX1, 3, "PropStore$Prop", rfl, inlX1, by decide, (List.mem_of_getElem? (i := 69) (by decide +kernel)), Or.inl rfl⟩
set_option maxRecDepth 20000 in
theorem fp_X3_13_1 : zm_fp RX3 13 1 1 .int true := ⟨RX1, TX1, 3, tyX1, rfl, inlX1, tyX1_ok, nmX1, by decide, (List.mem_of_getElem? (i := 69) (by decide +kernel)), rfl, fun _ => rfl, by decide +kernel⟩
set_option maxRecDepth 20000 in
theorem fl_X3_13_2 : zm_fl RX3 13 2 1 := ⟨RX2, TX2, 4, "PropStore$Prop", rfl, inlX2, by decide, (List.mem_of_getElem? (i := 69) (by decide +kernel)), Or.inl rfl⟩
set_option maxRecDepth 20000 in
theorem fp_X3_13_2 : zm_fp RX3 13 2 1 .int true := ⟨RX2, TX2, 4, tyX2, rfl, inlX2, tyX2_ok, nmX2, by decide, (List.mem_of_getElem? (i := 69) (by decide +kernel)), rfl, fun _ => rfl, by decide +kernel⟩
set_option maxRecDepth 20000 in
theorem fl_X3_13_3 : zm_fl RX3 13 3 1 := ⟨RX4, TX4, 3, "PropStore$Prop", rfl, inlX4, by decide, (List.mem_of_getElem? (i := 69) (by decide +kernel)), Or.inl rfl⟩
set_option maxRecDepth 20000 in
theorem fp_X3_13_3 : zm_fp RX3 13 3 1 .int true := ⟨RX4, TX4, 3, tyX4, rfl, inlX4, tyX4_ok, nmX4, by decide, (List.mem_of_getElem? (i := 69) (by decide +kernel)), rfl, fun _ => rfl, by decide +kernel⟩
set_option maxRecDepth 20000 in
theorem ml_X4_1 : Cond.methodLink RX4 1 yX3_init ∈ wsL_law ∧ Cond.instanceMethod yX3_init ∈ wsL_law ∧ yX3_init.name = "<init>" := ⟨(List.mem_of_getElem? (i := 78) (by decide +kernel)), (List.mem_of_getElem? (i := 64) (by decide +kernel)), rfl⟩
set_option maxRecDepth 20000 in
theorem clk_X4_2 : Cond.classLink RX4 2 RX3 ∈ wsL_law := (List.mem_of_getElem? (i := 76) (by decide +kernel))
set_option maxRecDepth 20000 in
theorem fl_X4_7_3 : zm_fl RX4 7 3 2 := ⟨RX4, TX4, 3, "PropStore$Row", rfl, inlX4, by decide, (List.mem_of_getElem? (i := 77) (by decide +kernel)), Or.inl rfl⟩
set_option maxRecDepth 20000 in
theorem fp_X4_7_3 : zm_fp RX4 7 3 2 (.array (.object "PropStore$Prop")) true := ⟨RX4, TX4, 3, tyX4, rfl, inlX4, tyX4_ok, nmX4, by decide, (List.mem_of_getElem? (i := 77) (by decide +kernel)), rfl, fun _ => rfl, by decide +kernel⟩
set_option maxRecDepth 20000 in
theorem mu_X4_23_1 : Cond.methodLink RX4 23 ⟨"PropStore$Prop", "worthBy", "(I)J"⟩ ∈ wsL_law ∧ Cond.sameMethod "PropStore$Prop" "PropStore$Prop" "worthBy" "(I)J" ∈ wsL_law ∧ Cond.selects RX1 ⟨"PropStore$Prop", "worthBy", "(I)J"⟩ yX1_worthBy ∈ wsL_law ∧ Cond.instanceMethod yX1_worthBy ∈ wsL_law ∧ Cond.declares ⟨"PropStore$Prop", "worthBy", "(I)J"⟩ ∈ zm_nws := ⟨(List.mem_of_getElem? (i := 250) (by decide +kernel)), (List.mem_of_getElem? (i := 231) (by decide +kernel)), (List.mem_of_getElem? (i := 232) (by decide +kernel)), (List.mem_of_getElem? (i := 233) (by decide +kernel)), by decide +kernel⟩
set_option maxRecDepth 20000 in
theorem mu_X4_23_2 : Cond.methodLink RX4 23 ⟨"PropStore$Prop", "worthBy", "(I)J"⟩ ∈ wsL_law ∧ Cond.sameMethod "PropStore$Prop" "PropStore$Prop" "worthBy" "(I)J" ∈ wsL_law ∧ Cond.selects RX2 ⟨"PropStore$Prop", "worthBy", "(I)J"⟩ yX2_worthBy ∈ wsL_law ∧ Cond.instanceMethod yX2_worthBy ∈ wsL_law ∧ Cond.declares ⟨"PropStore$Prop", "worthBy", "(I)J"⟩ ∈ zm_nws := ⟨(List.mem_of_getElem? (i := 250) (by decide +kernel)), (List.mem_of_getElem? (i := 231) (by decide +kernel)), (List.mem_of_getElem? (i := 235) (by decide +kernel)), (List.mem_of_getElem? (i := 236) (by decide +kernel)), by decide +kernel⟩
set_option maxRecDepth 20000 in
theorem mu_X4_23_3 : Cond.methodLink RX4 23 ⟨"PropStore$Prop", "worthBy", "(I)J"⟩ ∈ wsL_law ∧ Cond.sameMethod "PropStore$Prop" "PropStore$Prop" "worthBy" "(I)J" ∈ wsL_law ∧ Cond.selects RX4 ⟨"PropStore$Prop", "worthBy", "(I)J"⟩ yX4_worthBy ∈ wsL_law ∧ Cond.instanceMethod yX4_worthBy ∈ wsL_law ∧ Cond.declares ⟨"PropStore$Prop", "worthBy", "(I)J"⟩ ∈ zm_nws := ⟨(List.mem_of_getElem? (i := 250) (by decide +kernel)), (List.mem_of_getElem? (i := 231) (by decide +kernel)), (List.mem_of_getElem? (i := 244) (by decide +kernel)), (List.mem_of_getElem? (i := 245) (by decide +kernel)), by decide +kernel⟩
set_option maxRecDepth 20000 in
theorem mu_X4_27_1 : Cond.methodLink RX4 27 ⟨"PropStore$Prop", "putOn", "(I)V"⟩ ∈ wsL_law ∧ Cond.sameMethod "PropStore$Prop" "PropStore$Prop" "putOn" "(I)V" ∈ wsL_law ∧ Cond.selects RX1 ⟨"PropStore$Prop", "putOn", "(I)V"⟩ yX1_putOn ∈ wsL_law ∧ Cond.instanceMethod yX1_putOn ∈ wsL_law ∧ Cond.declares ⟨"PropStore$Prop", "putOn", "(I)V"⟩ ∈ zm_nws := ⟨(List.mem_of_getElem? (i := 265) (by decide +kernel)), (List.mem_of_getElem? (i := 255) (by decide +kernel)), (List.mem_of_getElem? (i := 256) (by decide +kernel)), (List.mem_of_getElem? (i := 257) (by decide +kernel)), by decide +kernel⟩
set_option maxRecDepth 20000 in
theorem mu_X4_27_2 : Cond.methodLink RX4 27 ⟨"PropStore$Prop", "putOn", "(I)V"⟩ ∈ wsL_law ∧ Cond.sameMethod "PropStore$Prop" "PropStore$Prop" "putOn" "(I)V" ∈ wsL_law ∧ Cond.selects RX2 ⟨"PropStore$Prop", "putOn", "(I)V"⟩ yX2_putOn ∈ wsL_law ∧ Cond.instanceMethod yX2_putOn ∈ wsL_law ∧ Cond.declares ⟨"PropStore$Prop", "putOn", "(I)V"⟩ ∈ zm_nws := ⟨(List.mem_of_getElem? (i := 265) (by decide +kernel)), (List.mem_of_getElem? (i := 255) (by decide +kernel)), (List.mem_of_getElem? (i := 259) (by decide +kernel)), (List.mem_of_getElem? (i := 260) (by decide +kernel)), by decide +kernel⟩
set_option maxRecDepth 20000 in
theorem mu_X4_27_3 : Cond.methodLink RX4 27 ⟨"PropStore$Prop", "putOn", "(I)V"⟩ ∈ wsL_law ∧ Cond.sameMethod "PropStore$Prop" "PropStore$Prop" "putOn" "(I)V" ∈ wsL_law ∧ Cond.selects RX4 ⟨"PropStore$Prop", "putOn", "(I)V"⟩ yX4_putOn ∈ wsL_law ∧ Cond.instanceMethod yX4_putOn ∈ wsL_law ∧ Cond.declares ⟨"PropStore$Prop", "putOn", "(I)V"⟩ ∈ zm_nws := ⟨(List.mem_of_getElem? (i := 265) (by decide +kernel)), (List.mem_of_getElem? (i := 255) (by decide +kernel)), (List.mem_of_getElem? (i := 262) (by decide +kernel)), (List.mem_of_getElem? (i := 263) (by decide +kernel)), by decide +kernel⟩
set_option maxRecDepth 20000 in
theorem ml_X5_3 : Cond.methodLink RX5 3 objectInit ∈ wsL_law := (List.mem_of_getElem? (i := 9) (by decide +kernel))
set_option maxRecDepth 20000 in
theorem clk_X5_9 : Cond.classLink RX5 9 RX3 ∈ wsL_law := (List.mem_of_getElem? (i := 12) (by decide +kernel))
set_option maxRecDepth 20000 in
theorem fl_X5_11_4 : zm_fl RX5 11 4 0 := ⟨RX5, TX5, 10, "PropStore", rfl, inlX5, by decide, (List.mem_of_getElem? (i := 13) (by decide +kernel)), Or.inl rfl⟩
set_option maxRecDepth 20000 in
theorem fp_X5_11_4 : zm_fp RX5 11 4 0 (.array (.object "PropStore$Prop")) true := ⟨RX5, TX5, 10, tyX5, rfl, inlX5, tyX5_ok, nmX5, by decide, (List.mem_of_getElem? (i := 13) (by decide +kernel)), rfl, fun _ => rfl, by decide +kernel⟩
set_option maxRecDepth 20000 in
theorem fl_X5_15_4 : zm_fl RX5 15 4 2 := ⟨RX5, TX5, 10, "PropStore", rfl, inlX5, by decide, (List.mem_of_getElem? (i := 14) (by decide +kernel)), Or.inl rfl⟩
set_option maxRecDepth 20000 in
theorem fp_X5_15_4 : zm_fp RX5 15 4 2 (.array (.object "PropStore$Prop")) true := ⟨RX5, TX5, 10, tyX5, rfl, inlX5, tyX5_ok, nmX5, by decide, (List.mem_of_getElem? (i := 14) (by decide +kernel)), rfl, fun _ => rfl, by decide +kernel⟩
set_option maxRecDepth 20000 in
theorem clk_X5_18 : Cond.classLink RX5 18 RX0 ∈ wsL_law := (List.mem_of_getElem? (i := 15) (by decide +kernel))
set_option maxRecDepth 20000 in
theorem fl_X5_20_4 : zm_fl RX5 20 4 4 := ⟨RX5, TX5, 10, "PropStore", rfl, inlX5, by decide, (List.mem_of_getElem? (i := 16) (by decide +kernel)), Or.inl rfl⟩
set_option maxRecDepth 20000 in
theorem fp_X5_20_4 : zm_fp RX5 20 4 4 (.array (.object "PropStore$Cue")) true := ⟨RX5, TX5, 10, tyX5, rfl, inlX5, tyX5_ok, nmX5, by decide, (List.mem_of_getElem? (i := 16) (by decide +kernel)), rfl, fun _ => rfl, by decide +kernel⟩
set_option maxRecDepth 20000 in
theorem fl_X5_24_4 : zm_fl RX5 24 4 8 := ⟨RX5, TX5, 10, "PropStore", rfl, inlX5, by decide, (List.mem_of_getElem? (i := 17) (by decide +kernel)), Or.inl rfl⟩
set_option maxRecDepth 20000 in
theorem fp_X5_24_4 : zm_fp RX5 24 4 8 .int false := ⟨RX5, TX5, 10, tyX5, rfl, inlX5, tyX5_ok, nmX5, by decide, (List.mem_of_getElem? (i := 17) (by decide +kernel)), rfl, fun h => (by cases h), by decide +kernel⟩
set_option maxRecDepth 20000 in
theorem ml_X5_28 : Cond.methodLink RX5 28 yX5_mostOf ∈ wsL_law ∧ Cond.static yX5_mostOf ∈ wsL_law := ⟨(List.mem_of_getElem? (i := 41) (by decide +kernel)), (List.mem_of_getElem? (i := 42) (by decide +kernel))⟩
set_option maxRecDepth 20000 in
theorem fl_X5_32_4 : zm_fl RX5 32 4 1 := ⟨RX5, TX5, 10, "PropStore", rfl, inlX5, by decide, (List.mem_of_getElem? (i := 40) (by decide +kernel)), Or.inl rfl⟩
set_option maxRecDepth 20000 in
theorem fp_X5_32_4 : zm_fp RX5 32 4 1 .int false := ⟨RX5, TX5, 10, tyX5, rfl, inlX5, tyX5_ok, nmX5, by decide, (List.mem_of_getElem? (i := 40) (by decide +kernel)), rfl, fun h => (by cases h), by decide +kernel⟩
set_option maxRecDepth 20000 in
theorem ml_X5_35 : Cond.methodLink RX5 35 yX5_newProp ∈ wsL_law ∧ Cond.static yX5_newProp ∈ wsL_law := ⟨(List.mem_of_getElem? (i := 47) (by decide +kernel)), (List.mem_of_getElem? (i := 48) (by decide +kernel))⟩
set_option maxRecDepth 20000 in
theorem ml_X5_39 : Cond.methodLink RX5 39 yX5_find ∈ wsL_law ∧ Cond.instanceMethod yX5_find ∈ wsL_law ∧ Cond.selects RX5 yX5_find yX5_find ∈ wsL_law := ⟨(List.mem_of_getElem? (i := 100) (by decide +kernel)), (List.mem_of_getElem? (i := 101) (by decide +kernel)), (List.mem_of_getElem? (i := 102) (by decide +kernel))⟩
set_option maxRecDepth 20000 in
theorem clk_X5_43 : Cond.classLink RX5 43 RX1 ∈ wsL_law := (List.mem_of_getElem? (i := 56) (by decide +kernel))
set_option maxRecDepth 20000 in
theorem ml_X5_45 : Cond.methodLink RX5 45 yX1_put ∈ wsL_law ∧ Cond.instanceMethod yX1_put ∈ wsL_law ∧ Cond.selects RX1 yX1_put yX1_put ∈ wsL_law := ⟨(List.mem_of_getElem? (i := 104) (by decide +kernel)), (List.mem_of_getElem? (i := 105) (by decide +kernel)), (List.mem_of_getElem? (i := 106) (by decide +kernel))⟩
set_option maxRecDepth 20000 in
theorem ml_X5_49 : Cond.methodLink RX5 49 yX5_isSlot ∈ wsL_law ∧ Cond.static yX5_isSlot ∈ wsL_law := ⟨(List.mem_of_getElem? (i := 131) (by decide +kernel)), (List.mem_of_getElem? (i := 132) (by decide +kernel))⟩
set_option maxRecDepth 20000 in
theorem ml_X5_53 : Cond.methodLink RX5 53 yX5_numberOf ∈ wsL_law ∧ Cond.static yX5_numberOf ∈ wsL_law := ⟨(List.mem_of_getElem? (i := 134) (by decide +kernel)), (List.mem_of_getElem? (i := 135) (by decide +kernel))⟩
set_option maxRecDepth 20000 in
theorem fl_X5_57_4 : zm_fl RX5 57 4 3 := ⟨RX5, TX5, 10, "PropStore", rfl, inlX5, by decide, (List.mem_of_getElem? (i := 157) (by decide +kernel)), Or.inl rfl⟩
set_option maxRecDepth 20000 in
theorem fp_X5_57_4 : zm_fp RX5 57 4 3 (.object "PropStore$Prop") false := ⟨RX5, TX5, 10, tyX5, rfl, inlX5, tyX5_ok, nmX5, by decide, (List.mem_of_getElem? (i := 157) (by decide +kernel)), rfl, fun h => (by cases h), by decide +kernel⟩
set_option maxRecDepth 20000 in
theorem ml_X5_61 : Cond.methodLink RX5 61 yX5_isView ∈ wsL_law ∧ Cond.static yX5_isView ∈ wsL_law := ⟨(List.mem_of_getElem? (i := 170) (by decide +kernel)), (List.mem_of_getElem? (i := 171) (by decide +kernel))⟩
set_option maxRecDepth 20000 in
theorem ml_X5_68 : Cond.methodLink RX5 68 yX5_isAmong ∈ wsL_law ∧ Cond.static yX5_isAmong ∈ wsL_law := ⟨(List.mem_of_getElem? (i := 173) (by decide +kernel)), (List.mem_of_getElem? (i := 174) (by decide +kernel))⟩
set_option maxRecDepth 20000 in
theorem fl_X5_71_4 : zm_fl RX5 71 4 5 := ⟨RX5, TX5, 10, "PropStore", rfl, inlX5, by decide, (List.mem_of_getElem? (i := 167) (by decide +kernel)), Or.inl rfl⟩
set_option maxRecDepth 20000 in
theorem fp_X5_71_4 : zm_fp RX5 71 4 5 .int false := ⟨RX5, TX5, 10, tyX5, rfl, inlX5, tyX5_ok, nmX5, by decide, (List.mem_of_getElem? (i := 167) (by decide +kernel)), rfl, fun h => (by cases h), by decide +kernel⟩
set_option maxRecDepth 20000 in
theorem ml_X5_74 : Cond.methodLink RX5 74 yX0_init ∈ wsL_law ∧ Cond.instanceMethod yX0_init ∈ wsL_law ∧ yX0_init.name = "<init>" := ⟨(List.mem_of_getElem? (i := 176) (by decide +kernel)), (List.mem_of_getElem? (i := 177) (by decide +kernel)), rfl⟩
set_option maxRecDepth 20000 in
theorem fl_X5_77_4 : zm_fl RX5 77 4 7 := ⟨RX5, TX5, 10, "PropStore", rfl, inlX5, by decide, (List.mem_of_getElem? (i := 210) (by decide +kernel)), Or.inl rfl⟩
set_option maxRecDepth 20000 in
theorem fp_X5_77_4 : zm_fp RX5 77 4 7 .int false := ⟨RX5, TX5, 10, tyX5, rfl, inlX5, tyX5_ok, nmX5, by decide, (List.mem_of_getElem? (i := 210) (by decide +kernel)), rfl, fun h => (by cases h), by decide +kernel⟩
set_option maxRecDepth 20000 in
theorem ml_X5_80 : Cond.methodLink RX5 80 yX5_perform ∈ wsL_law ∧ Cond.instanceMethod yX5_perform ∈ wsL_law ∧ Cond.selects RX5 yX5_perform yX5_perform ∈ wsL_law := ⟨(List.mem_of_getElem? (i := 212) (by decide +kernel)), (List.mem_of_getElem? (i := 213) (by decide +kernel)), (List.mem_of_getElem? (i := 214) (by decide +kernel))⟩
set_option maxRecDepth 20000 in
theorem fl_X5_84_4 : zm_fl RX5 84 4 9 := ⟨RX5, TX5, 10, "PropStore", rfl, inlX5, by decide, (List.mem_of_getElem? (i := 211) (by decide +kernel)), Or.inl rfl⟩
set_option maxRecDepth 20000 in
theorem fp_X5_84_4 : zm_fp RX5 84 4 9 .int false := ⟨RX5, TX5, 10, tyX5, rfl, inlX5, tyX5_ok, nmX5, by decide, (List.mem_of_getElem? (i := 211) (by decide +kernel)), rfl, fun h => (by cases h), by decide +kernel⟩
set_option maxRecDepth 20000 in
theorem fl_X5_87_4 : zm_fl RX5 87 4 6 := ⟨RX5, TX5, 10, "PropStore", rfl, inlX5, by decide, (List.mem_of_getElem? (i := 229) (by decide +kernel)), Or.inl rfl⟩
set_option maxRecDepth 20000 in
theorem fp_X5_87_4 : zm_fp RX5 87 4 6 .long false := ⟨RX5, TX5, 10, tyX5, rfl, inlX5, tyX5_ok, nmX5, by decide, (List.mem_of_getElem? (i := 229) (by decide +kernel)), rfl, fun h => (by cases h), by decide +kernel⟩
set_option maxRecDepth 20000 in
theorem ml_X5_91 : Cond.methodLink RX5 91 yX5_goesAs ∈ wsL_law ∧ Cond.static yX5_goesAs ∈ wsL_law := ⟨(List.mem_of_getElem? (i := 220) (by decide +kernel)), (List.mem_of_getElem? (i := 221) (by decide +kernel))⟩
set_option maxRecDepth 20000 in
theorem mu_X5_95_1 : Cond.methodLink RX5 95 ⟨"PropStore$Prop", "worthBy", "(I)J"⟩ ∈ wsL_law ∧ Cond.sameMethod "PropStore$Prop" "PropStore$Prop" "worthBy" "(I)J" ∈ wsL_law ∧ Cond.selects RX1 ⟨"PropStore$Prop", "worthBy", "(I)J"⟩ yX1_worthBy ∈ wsL_law ∧ Cond.instanceMethod yX1_worthBy ∈ wsL_law ∧ Cond.declares ⟨"PropStore$Prop", "worthBy", "(I)J"⟩ ∈ zm_nws := ⟨(List.mem_of_getElem? (i := 230) (by decide +kernel)), (List.mem_of_getElem? (i := 231) (by decide +kernel)), (List.mem_of_getElem? (i := 232) (by decide +kernel)), (List.mem_of_getElem? (i := 233) (by decide +kernel)), by decide +kernel⟩
set_option maxRecDepth 20000 in
theorem mu_X5_95_2 : Cond.methodLink RX5 95 ⟨"PropStore$Prop", "worthBy", "(I)J"⟩ ∈ wsL_law ∧ Cond.sameMethod "PropStore$Prop" "PropStore$Prop" "worthBy" "(I)J" ∈ wsL_law ∧ Cond.selects RX2 ⟨"PropStore$Prop", "worthBy", "(I)J"⟩ yX2_worthBy ∈ wsL_law ∧ Cond.instanceMethod yX2_worthBy ∈ wsL_law ∧ Cond.declares ⟨"PropStore$Prop", "worthBy", "(I)J"⟩ ∈ zm_nws := ⟨(List.mem_of_getElem? (i := 230) (by decide +kernel)), (List.mem_of_getElem? (i := 231) (by decide +kernel)), (List.mem_of_getElem? (i := 235) (by decide +kernel)), (List.mem_of_getElem? (i := 236) (by decide +kernel)), by decide +kernel⟩
set_option maxRecDepth 20000 in
theorem mu_X5_95_3 : Cond.methodLink RX5 95 ⟨"PropStore$Prop", "worthBy", "(I)J"⟩ ∈ wsL_law ∧ Cond.sameMethod "PropStore$Prop" "PropStore$Prop" "worthBy" "(I)J" ∈ wsL_law ∧ Cond.selects RX4 ⟨"PropStore$Prop", "worthBy", "(I)J"⟩ yX4_worthBy ∈ wsL_law ∧ Cond.instanceMethod yX4_worthBy ∈ wsL_law ∧ Cond.declares ⟨"PropStore$Prop", "worthBy", "(I)J"⟩ ∈ zm_nws := ⟨(List.mem_of_getElem? (i := 230) (by decide +kernel)), (List.mem_of_getElem? (i := 231) (by decide +kernel)), (List.mem_of_getElem? (i := 244) (by decide +kernel)), (List.mem_of_getElem? (i := 245) (by decide +kernel)), by decide +kernel⟩
set_option maxRecDepth 20000 in
theorem clk_X5_99 : Cond.classLink RX5 99 RX2 ∈ wsL_law := (List.mem_of_getElem? (i := 50) (by decide +kernel))
set_option maxRecDepth 20000 in
theorem fl_X5_101_2 : zm_fl RX5 101 2 1 := ⟨RX2, TX2, 4, "PropStore$Piece", rfl, inlX2, by decide, (List.mem_of_getElem? (i := 376) (by decide +kernel)), Or.inr (List.mem_of_getElem? (i := 242) (by decide +kernel))⟩
set_option maxRecDepth 20000 in
theorem fl_X5_104_2 : zm_fl RX5 104 2 3 := ⟨RX2, TX2, 4, "PropStore$Piece", rfl, inlX2, by decide, (List.mem_of_getElem? (i := 377) (by decide +kernel)), Or.inl rfl⟩
set_option maxRecDepth 20000 in
theorem clk_X5_107 : Cond.classLink RX5 107 RX4 ∈ wsL_law := (List.mem_of_getElem? (i := 53) (by decide +kernel))
set_option maxRecDepth 20000 in
theorem ml_X5_109 : Cond.methodLink RX5 109 yX4_hasPlace ∈ wsL_law ∧ Cond.instanceMethod yX4_hasPlace ∈ wsL_law ∧ Cond.selects RX4 yX4_hasPlace yX4_hasPlace ∈ wsL_law := ⟨(List.mem_of_getElem? (i := 272) (by decide +kernel)), (List.mem_of_getElem? (i := 273) (by decide +kernel)), (List.mem_of_getElem? (i := 274) (by decide +kernel))⟩
set_option maxRecDepth 20000 in
theorem fl_X5_112_3 : zm_fl RX5 112 3 2 := ⟨RX4, TX4, 3, "PropStore$Row", rfl, inlX4, by decide, (List.mem_of_getElem? (i := 271) (by decide +kernel)), Or.inl rfl⟩
set_option maxRecDepth 20000 in
theorem fl_X5_115_0 : zm_fl RX5 115 0 1 := ⟨RX0, TX0, 4, "PropStore$Cue", rfl, inlX0, by decide, (List.mem_of_getElem? (i := 216) (by decide +kernel)), Or.inl rfl⟩
set_option maxRecDepth 20000 in
theorem fl_X5_118_0 : zm_fl RX5 118 0 2 := ⟨RX0, TX0, 4, "PropStore$Cue", rfl, inlX0, by decide, (List.mem_of_getElem? (i := 217) (by decide +kernel)), Or.inl rfl⟩
set_option maxRecDepth 20000 in
theorem fl_X5_121_0 : zm_fl RX5 121 0 0 := ⟨RX0, TX0, 4, "PropStore$Cue", rfl, inlX0, by decide, (List.mem_of_getElem? (i := 218) (by decide +kernel)), Or.inl rfl⟩
set_option maxRecDepth 20000 in
theorem ml_X5_124 : Cond.methodLink RX5 124 yX5_showProp ∈ wsL_law ∧ Cond.instanceMethod yX5_showProp ∈ wsL_law ∧ Cond.selects RX5 yX5_showProp yX5_showProp ∈ wsL_law := ⟨(List.mem_of_getElem? (i := 225) (by decide +kernel)), (List.mem_of_getElem? (i := 226) (by decide +kernel)), (List.mem_of_getElem? (i := 227) (by decide +kernel))⟩
set_option maxRecDepth 20000 in
theorem ml_X5_128 : Cond.methodLink RX5 128 yX5_wearProp ∈ wsL_law ∧ Cond.static yX5_wearProp ∈ wsL_law := ⟨(List.mem_of_getElem? (i := 251) (by decide +kernel)), (List.mem_of_getElem? (i := 252) (by decide +kernel))⟩
set_option maxRecDepth 20000 in
theorem fl_X5_131_0 : zm_fl RX5 131 0 3 := ⟨RX0, TX0, 4, "PropStore$Cue", rfl, inlX0, by decide, (List.mem_of_getElem? (i := 219) (by decide +kernel)), Or.inl rfl⟩
set_option maxRecDepth 20000 in
theorem ml_X5_134 : Cond.methodLink RX5 134 yX5_takePart ∈ wsL_law ∧ Cond.instanceMethod yX5_takePart ∈ wsL_law ∧ Cond.selects RX5 yX5_takePart yX5_takePart ∈ wsL_law := ⟨(List.mem_of_getElem? (i := 266) (by decide +kernel)), (List.mem_of_getElem? (i := 267) (by decide +kernel)), (List.mem_of_getElem? (i := 268) (by decide +kernel))⟩
set_option maxRecDepth 20000 in
theorem ml_X5_137 : Cond.methodLink RX5 137 yX5_layPart ∈ wsL_law ∧ Cond.instanceMethod yX5_layPart ∈ wsL_law ∧ Cond.selects RX5 yX5_layPart yX5_layPart ∈ wsL_law := ⟨(List.mem_of_getElem? (i := 276) (by decide +kernel)), (List.mem_of_getElem? (i := 277) (by decide +kernel)), (List.mem_of_getElem? (i := 278) (by decide +kernel))⟩
set_option maxRecDepth 20000 in
theorem mu_X5_141_1 : Cond.methodLink RX5 141 ⟨"PropStore$Prop", "putOn", "(I)V"⟩ ∈ wsL_law ∧ Cond.sameMethod "PropStore$Prop" "PropStore$Prop" "putOn" "(I)V" ∈ wsL_law ∧ Cond.selects RX1 ⟨"PropStore$Prop", "putOn", "(I)V"⟩ yX1_putOn ∈ wsL_law ∧ Cond.instanceMethod yX1_putOn ∈ wsL_law ∧ Cond.declares ⟨"PropStore$Prop", "putOn", "(I)V"⟩ ∈ zm_nws := ⟨(List.mem_of_getElem? (i := 254) (by decide +kernel)), (List.mem_of_getElem? (i := 255) (by decide +kernel)), (List.mem_of_getElem? (i := 256) (by decide +kernel)), (List.mem_of_getElem? (i := 257) (by decide +kernel)), by decide +kernel⟩
set_option maxRecDepth 20000 in
theorem mu_X5_141_2 : Cond.methodLink RX5 141 ⟨"PropStore$Prop", "putOn", "(I)V"⟩ ∈ wsL_law ∧ Cond.sameMethod "PropStore$Prop" "PropStore$Prop" "putOn" "(I)V" ∈ wsL_law ∧ Cond.selects RX2 ⟨"PropStore$Prop", "putOn", "(I)V"⟩ yX2_putOn ∈ wsL_law ∧ Cond.instanceMethod yX2_putOn ∈ wsL_law ∧ Cond.declares ⟨"PropStore$Prop", "putOn", "(I)V"⟩ ∈ zm_nws := ⟨(List.mem_of_getElem? (i := 254) (by decide +kernel)), (List.mem_of_getElem? (i := 255) (by decide +kernel)), (List.mem_of_getElem? (i := 259) (by decide +kernel)), (List.mem_of_getElem? (i := 260) (by decide +kernel)), by decide +kernel⟩
set_option maxRecDepth 20000 in
theorem mu_X5_141_3 : Cond.methodLink RX5 141 ⟨"PropStore$Prop", "putOn", "(I)V"⟩ ∈ wsL_law ∧ Cond.sameMethod "PropStore$Prop" "PropStore$Prop" "putOn" "(I)V" ∈ wsL_law ∧ Cond.selects RX4 ⟨"PropStore$Prop", "putOn", "(I)V"⟩ yX4_putOn ∈ wsL_law ∧ Cond.instanceMethod yX4_putOn ∈ wsL_law ∧ Cond.declares ⟨"PropStore$Prop", "putOn", "(I)V"⟩ ∈ zm_nws := ⟨(List.mem_of_getElem? (i := 254) (by decide +kernel)), (List.mem_of_getElem? (i := 255) (by decide +kernel)), (List.mem_of_getElem? (i := 262) (by decide +kernel)), (List.mem_of_getElem? (i := 263) (by decide +kernel)), by decide +kernel⟩
set_option maxRecDepth 20000 in
theorem ml_X5_145 : Cond.methodLink RX5 145 yX5_partView ∈ wsL_law ∧ Cond.static yX5_partView ∈ wsL_law := ⟨(List.mem_of_getElem? (i := 282) (by decide +kernel)), (List.mem_of_getElem? (i := 247) (by decide +kernel))⟩
set_option maxRecDepth 20000 in
theorem fl_X5_148_3 : zm_fl RX5 148 3 1 := ⟨RX4, TX4, 3, "PropStore$Row", rfl, inlX4, by decide, (List.mem_of_getElem? (i := 280) (by decide +kernel)), Or.inr (List.mem_of_getElem? (i := 281) (by decide +kernel))⟩
set_option maxRecDepth 20000 in
theorem ml_X5_149 : Cond.methodLink RX5 149 yX5_isPiece ∈ wsL_law ∧ Cond.static yX5_isPiece ∈ wsL_law := ⟨(List.mem_of_getElem? (i := 44) (by decide +kernel)), (List.mem_of_getElem? (i := 45) (by decide +kernel))⟩
set_option maxRecDepth 20000 in
theorem ml_X5_152 : Cond.methodLink RX5 152 yX2_init ∈ wsL_law ∧ Cond.instanceMethod yX2_init ∈ wsL_law ∧ yX2_init.name = "<init>" := ⟨(List.mem_of_getElem? (i := 59) (by decide +kernel)), (List.mem_of_getElem? (i := 60) (by decide +kernel)), rfl⟩
set_option maxRecDepth 20000 in
theorem ml_X5_155 : Cond.methodLink RX5 155 yX5_isRow ∈ wsL_law ∧ Cond.static yX5_isRow ∈ wsL_law := ⟨(List.mem_of_getElem? (i := 70) (by decide +kernel)), (List.mem_of_getElem? (i := 71) (by decide +kernel))⟩
set_option maxRecDepth 20000 in
theorem ml_X5_158 : Cond.methodLink RX5 158 yX4_init ∈ wsL_law ∧ Cond.instanceMethod yX4_init ∈ wsL_law ∧ yX4_init.name = "<init>" := ⟨(List.mem_of_getElem? (i := 73) (by decide +kernel)), (List.mem_of_getElem? (i := 74) (by decide +kernel)), rfl⟩
set_option maxRecDepth 20000 in
theorem ml_X5_159 : Cond.methodLink RX5 159 yX1_init ∈ wsL_law ∧ Cond.instanceMethod yX1_init ∈ wsL_law ∧ yX1_init.name = "<init>" := ⟨(List.mem_of_getElem? (i := 79) (by decide +kernel)), (List.mem_of_getElem? (i := 80) (by decide +kernel)), rfl⟩
set_option maxRecDepth 20000 in
theorem fl_X5_160_1 : zm_fl RX5 160 1 0 := ⟨RX1, TX1, 3, "PropStore$Prop", rfl, inlX1, by decide, (List.mem_of_getElem? (i := 137) (by decide +kernel)), Or.inl rfl⟩
set_option maxRecDepth 20000 in
theorem fl_X5_160_2 : zm_fl RX5 160 2 0 := ⟨RX2, TX2, 4, "PropStore$Prop", rfl, inlX2, by decide, (List.mem_of_getElem? (i := 137) (by decide +kernel)), Or.inl rfl⟩
set_option maxRecDepth 20000 in
theorem fl_X5_160_3 : zm_fl RX5 160 3 0 := ⟨RX4, TX4, 3, "PropStore$Prop", rfl, inlX4, by decide, (List.mem_of_getElem? (i := 137) (by decide +kernel)), Or.inl rfl⟩
set_option maxRecDepth 20000 in
theorem fl_X5_166_1 : zm_fl RX5 166 1 1 := ⟨RX1, TX1, 3, "PropStore$Prop", rfl, inlX1, by decide, (List.mem_of_getElem? (i := 224) (by decide +kernel)), Or.inl rfl⟩
set_option maxRecDepth 20000 in
theorem fl_X5_166_2 : zm_fl RX5 166 2 1 := ⟨RX2, TX2, 4, "PropStore$Prop", rfl, inlX2, by decide, (List.mem_of_getElem? (i := 224) (by decide +kernel)), Or.inl rfl⟩
set_option maxRecDepth 20000 in
theorem fl_X5_166_3 : zm_fl RX5 166 3 1 := ⟨RX4, TX4, 3, "PropStore$Prop", rfl, inlX4, by decide, (List.mem_of_getElem? (i := 224) (by decide +kernel)), Or.inl rfl⟩
set_option maxRecDepth 20000 in
theorem ml_X6_1 : Cond.methodLink RX6 1 objectInit ∈ wsL_law := (List.mem_of_getElem? (i := 21) (by decide +kernel))
set_option maxRecDepth 20000 in
theorem fl_X6_7_5 : zm_fl RX6 7 5 1 := ⟨RX6, TX6, 17, "PropStoreModel", rfl, inlX6, by decide, (List.mem_of_getElem? (i := 23) (by decide +kernel)), Or.inl rfl⟩
set_option maxRecDepth 20000 in
theorem fp_X6_7_5 : zm_fp RX6 7 5 1 (.array .int) true := ⟨RX6, TX6, 17, tyX6, rfl, inlX6, tyX6_ok, nmX6, by decide, (List.mem_of_getElem? (i := 23) (by decide +kernel)), rfl, fun _ => rfl, by decide +kernel⟩
set_option maxRecDepth 20000 in
theorem fl_X6_13_5 : zm_fl RX6 13 5 2 := ⟨RX6, TX6, 17, "PropStoreModel", rfl, inlX6, by decide, (List.mem_of_getElem? (i := 24) (by decide +kernel)), Or.inl rfl⟩
set_option maxRecDepth 20000 in
theorem fp_X6_13_5 : zm_fp RX6 13 5 2 (.array .int) true := ⟨RX6, TX6, 17, tyX6, rfl, inlX6, tyX6_ok, nmX6, by decide, (List.mem_of_getElem? (i := 24) (by decide +kernel)), rfl, fun _ => rfl, by decide +kernel⟩
set_option maxRecDepth 20000 in
theorem fl_X6_16_5 : zm_fl RX6 16 5 3 := ⟨RX6, TX6, 17, "PropStoreModel", rfl, inlX6, by decide, (List.mem_of_getElem? (i := 25) (by decide +kernel)), Or.inl rfl⟩
set_option maxRecDepth 20000 in
theorem fp_X6_16_5 : zm_fp RX6 16 5 3 (.array .int) true := ⟨RX6, TX6, 17, tyX6, rfl, inlX6, tyX6_ok, nmX6, by decide, (List.mem_of_getElem? (i := 25) (by decide +kernel)), rfl, fun _ => rfl, by decide +kernel⟩
set_option maxRecDepth 20000 in
theorem fl_X6_19_5 : zm_fl RX6 19 5 4 := ⟨RX6, TX6, 17, "PropStoreModel", rfl, inlX6, by decide, (List.mem_of_getElem? (i := 27) (by decide +kernel)), Or.inl rfl⟩
set_option maxRecDepth 20000 in
theorem fp_X6_19_5 : zm_fp RX6 19 5 4 (.array .long) true := ⟨RX6, TX6, 17, tyX6, rfl, inlX6, tyX6_ok, nmX6, by decide, (List.mem_of_getElem? (i := 27) (by decide +kernel)), rfl, fun _ => rfl, by decide +kernel⟩
set_option maxRecDepth 20000 in
theorem fl_X6_23_5 : zm_fl RX6 23 5 5 := ⟨RX6, TX6, 17, "PropStoreModel", rfl, inlX6, by decide, (List.mem_of_getElem? (i := 28) (by decide +kernel)), Or.inl rfl⟩
set_option maxRecDepth 20000 in
theorem fp_X6_23_5 : zm_fp RX6 23 5 5 (.array .int) true := ⟨RX6, TX6, 17, tyX6, rfl, inlX6, tyX6_ok, nmX6, by decide, (List.mem_of_getElem? (i := 28) (by decide +kernel)), rfl, fun _ => rfl, by decide +kernel⟩
set_option maxRecDepth 20000 in
theorem fl_X6_26_5 : zm_fl RX6 26 5 6 := ⟨RX6, TX6, 17, "PropStoreModel", rfl, inlX6, by decide, (List.mem_of_getElem? (i := 29) (by decide +kernel)), Or.inl rfl⟩
set_option maxRecDepth 20000 in
theorem fp_X6_26_5 : zm_fp RX6 26 5 6 (.array .int) true := ⟨RX6, TX6, 17, tyX6, rfl, inlX6, tyX6_ok, nmX6, by decide, (List.mem_of_getElem? (i := 29) (by decide +kernel)), rfl, fun _ => rfl, by decide +kernel⟩
set_option maxRecDepth 20000 in
theorem fl_X6_29_5 : zm_fl RX6 29 5 7 := ⟨RX6, TX6, 17, "PropStoreModel", rfl, inlX6, by decide, (List.mem_of_getElem? (i := 30) (by decide +kernel)), Or.inl rfl⟩
set_option maxRecDepth 20000 in
theorem fp_X6_29_5 : zm_fp RX6 29 5 7 .int false := ⟨RX6, TX6, 17, tyX6, rfl, inlX6, tyX6_ok, nmX6, by decide, (List.mem_of_getElem? (i := 30) (by decide +kernel)), rfl, fun h => (by cases h), by decide +kernel⟩
set_option maxRecDepth 20000 in
theorem fl_X6_33_5 : zm_fl RX6 33 5 9 := ⟨RX6, TX6, 17, "PropStoreModel", rfl, inlX6, by decide, (List.mem_of_getElem? (i := 31) (by decide +kernel)), Or.inl rfl⟩
set_option maxRecDepth 20000 in
theorem fp_X6_33_5 : zm_fp RX6 33 5 9 (.array .int) true := ⟨RX6, TX6, 17, tyX6, rfl, inlX6, tyX6_ok, nmX6, by decide, (List.mem_of_getElem? (i := 31) (by decide +kernel)), rfl, fun _ => rfl, by decide +kernel⟩
set_option maxRecDepth 20000 in
theorem fl_X6_36_5 : zm_fl RX6 36 5 10 := ⟨RX6, TX6, 17, "PropStoreModel", rfl, inlX6, by decide, (List.mem_of_getElem? (i := 32) (by decide +kernel)), Or.inl rfl⟩
set_option maxRecDepth 20000 in
theorem fp_X6_36_5 : zm_fp RX6 36 5 10 (.array .int) true := ⟨RX6, TX6, 17, tyX6, rfl, inlX6, tyX6_ok, nmX6, by decide, (List.mem_of_getElem? (i := 32) (by decide +kernel)), rfl, fun _ => rfl, by decide +kernel⟩
set_option maxRecDepth 20000 in
theorem fl_X6_39_5 : zm_fl RX6 39 5 11 := ⟨RX6, TX6, 17, "PropStoreModel", rfl, inlX6, by decide, (List.mem_of_getElem? (i := 33) (by decide +kernel)), Or.inl rfl⟩
set_option maxRecDepth 20000 in
theorem fp_X6_39_5 : zm_fp RX6 39 5 11 (.array .int) true := ⟨RX6, TX6, 17, tyX6, rfl, inlX6, tyX6_ok, nmX6, by decide, (List.mem_of_getElem? (i := 33) (by decide +kernel)), rfl, fun _ => rfl, by decide +kernel⟩
set_option maxRecDepth 20000 in
theorem fl_X6_42_5 : zm_fl RX6 42 5 12 := ⟨RX6, TX6, 17, "PropStoreModel", rfl, inlX6, by decide, (List.mem_of_getElem? (i := 34) (by decide +kernel)), Or.inl rfl⟩
set_option maxRecDepth 20000 in
theorem fp_X6_42_5 : zm_fp RX6 42 5 12 (.array .int) true := ⟨RX6, TX6, 17, tyX6, rfl, inlX6, tyX6_ok, nmX6, by decide, (List.mem_of_getElem? (i := 34) (by decide +kernel)), rfl, fun _ => rfl, by decide +kernel⟩
set_option maxRecDepth 20000 in
theorem fl_X6_45_5 : zm_fl RX6 45 5 15 := ⟨RX6, TX6, 17, "PropStoreModel", rfl, inlX6, by decide, (List.mem_of_getElem? (i := 35) (by decide +kernel)), Or.inl rfl⟩
set_option maxRecDepth 20000 in
theorem fp_X6_45_5 : zm_fp RX6 45 5 15 .int false := ⟨RX6, TX6, 17, tyX6, rfl, inlX6, tyX6_ok, nmX6, by decide, (List.mem_of_getElem? (i := 35) (by decide +kernel)), rfl, fun h => (by cases h), by decide +kernel⟩
set_option maxRecDepth 20000 in
theorem fl_X6_48_5 : zm_fl RX6 48 5 0 := ⟨RX6, TX6, 17, "PropStoreModel", rfl, inlX6, by decide, (List.mem_of_getElem? (i := 88) (by decide +kernel)), Or.inl rfl⟩
set_option maxRecDepth 20000 in
theorem fp_X6_48_5 : zm_fp RX6 48 5 0 .int false := ⟨RX6, TX6, 17, tyX6, rfl, inlX6, tyX6_ok, nmX6, by decide, (List.mem_of_getElem? (i := 88) (by decide +kernel)), rfl, fun h => (by cases h), by decide +kernel⟩
set_option maxRecDepth 20000 in
theorem ml_X6_51 : Cond.methodLink RX6 51 yX6_isIn ∈ wsL_law ∧ Cond.static yX6_isIn ∈ wsL_law := ⟨(List.mem_of_getElem? (i := 89) (by decide +kernel)), (List.mem_of_getElem? (i := 90) (by decide +kernel))⟩
set_option maxRecDepth 20000 in
theorem ml_X6_55 : Cond.methodLink RX6 55 yX6_goesAs ∈ wsL_law ∧ Cond.static yX6_goesAs ∈ wsL_law := ⟨(List.mem_of_getElem? (i := 298) (by decide +kernel)), (List.mem_of_getElem? (i := 299) (by decide +kernel))⟩
set_option maxRecDepth 20000 in
theorem ml_X6_59 : Cond.methodLink RX6 59 yX6_isSingle ∈ wsL_law ∧ Cond.static yX6_isSingle ∈ wsL_law := ⟨(List.mem_of_getElem? (i := 92) (by decide +kernel)), (List.mem_of_getElem? (i := 93) (by decide +kernel))⟩
set_option maxRecDepth 20000 in
theorem ml_X6_63 : Cond.methodLink RX6 63 yX6_isProp ∈ wsL_law ∧ Cond.instanceMethod yX6_isProp ∈ wsL_law ∧ Cond.selects RX6 yX6_isProp yX6_isProp ∈ wsL_law := ⟨(List.mem_of_getElem? (i := 119) (by decide +kernel)), (List.mem_of_getElem? (i := 120) (by decide +kernel)), (List.mem_of_getElem? (i := 121) (by decide +kernel))⟩
set_option maxRecDepth 20000 in
theorem ml_X6_66 : Cond.methodLink RX6 66 yX6_many ∈ wsL_law ∧ Cond.instanceMethod yX6_many ∈ wsL_law ∧ Cond.selects RX6 yX6_many yX6_many ∈ wsL_law := ⟨(List.mem_of_getElem? (i := 123) (by decide +kernel)), (List.mem_of_getElem? (i := 124) (by decide +kernel)), (List.mem_of_getElem? (i := 125) (by decide +kernel))⟩
set_option maxRecDepth 20000 in
theorem ml_X6_71 : Cond.methodLink RX6 71 yX6_isSlot ∈ wsL_law ∧ Cond.static yX6_isSlot ∈ wsL_law := ⟨(List.mem_of_getElem? (i := 142) (by decide +kernel)), (List.mem_of_getElem? (i := 143) (by decide +kernel))⟩
set_option maxRecDepth 20000 in
theorem ml_X6_74 : Cond.methodLink RX6 74 yX6_isRow ∈ wsL_law ∧ Cond.static yX6_isRow ∈ wsL_law := ⟨(List.mem_of_getElem? (i := 195) (by decide +kernel)), (List.mem_of_getElem? (i := 196) (by decide +kernel))⟩
set_option maxRecDepth 20000 in
theorem ml_X6_77 : Cond.methodLink RX6 77 yX6_isView ∈ wsL_law ∧ Cond.static yX6_isView ∈ wsL_law := ⟨(List.mem_of_getElem? (i := 189) (by decide +kernel)), (List.mem_of_getElem? (i := 190) (by decide +kernel))⟩
set_option maxRecDepth 20000 in
theorem ml_X6_80 : Cond.methodLink RX6 80 yX6_has ∈ wsL_law ∧ Cond.static yX6_has ∈ wsL_law := ⟨(List.mem_of_getElem? (i := 192) (by decide +kernel)), (List.mem_of_getElem? (i := 193) (by decide +kernel))⟩
set_option maxRecDepth 20000 in
theorem fl_X6_83_5 : zm_fl RX6 83 5 8 := ⟨RX6, TX6, 17, "PropStoreModel", rfl, inlX6, by decide, (List.mem_of_getElem? (i := 188) (by decide +kernel)), Or.inl rfl⟩
set_option maxRecDepth 20000 in
theorem fp_X6_83_5 : zm_fp RX6 83 5 8 .int false := ⟨RX6, TX6, 17, tyX6, rfl, inlX6, tyX6_ok, nmX6, by decide, (List.mem_of_getElem? (i := 188) (by decide +kernel)), rfl, fun h => (by cases h), by decide +kernel⟩
set_option maxRecDepth 20000 in
theorem ml_X6_92 : Cond.methodLink RX6 92 yX6_inner ∈ wsL_law ∧ Cond.static yX6_inner ∈ wsL_law := ⟨(List.mem_of_getElem? (i := 320) (by decide +kernel)), (List.mem_of_getElem? (i := 321) (by decide +kernel))⟩
set_option maxRecDepth 20000 in
theorem ml_X6_95 : Cond.methodLink RX6 95 yX6_worthOfOne ∈ wsL_law ∧ Cond.instanceMethod yX6_worthOfOne ∈ wsL_law ∧ Cond.selects RX6 yX6_worthOfOne yX6_worthOfOne ∈ wsL_law := ⟨(List.mem_of_getElem? (i := 309) (by decide +kernel)), (List.mem_of_getElem? (i := 310) (by decide +kernel)), (List.mem_of_getElem? (i := 311) (by decide +kernel))⟩
set_option maxRecDepth 20000 in
theorem ml_X6_99 : Cond.methodLink RX6 99 yX6_worthOfNumbers ∈ wsL_law ∧ Cond.instanceMethod yX6_worthOfNumbers ∈ wsL_law ∧ Cond.selects RX6 yX6_worthOfNumbers yX6_worthOfNumbers ∈ wsL_law := ⟨(List.mem_of_getElem? (i := 305) (by decide +kernel)), (List.mem_of_getElem? (i := 306) (by decide +kernel)), (List.mem_of_getElem? (i := 307) (by decide +kernel))⟩
set_option maxRecDepth 20000 in
theorem ml_X6_103 : Cond.methodLink RX6 103 yX6_worthOfRow ∈ wsL_law ∧ Cond.instanceMethod yX6_worthOfRow ∈ wsL_law ∧ Cond.selects RX6 yX6_worthOfRow yX6_worthOfRow ∈ wsL_law := ⟨(List.mem_of_getElem? (i := 316) (by decide +kernel)), (List.mem_of_getElem? (i := 317) (by decide +kernel)), (List.mem_of_getElem? (i := 318) (by decide +kernel))⟩
set_option maxRecDepth 20000 in
theorem ml_X6_106 : Cond.methodLink RX6 106 yX6_wearRow ∈ wsL_law ∧ Cond.instanceMethod yX6_wearRow ∈ wsL_law ∧ Cond.selects RX6 yX6_wearRow yX6_wearRow ∈ wsL_law := ⟨(List.mem_of_getElem? (i := 327) (by decide +kernel)), (List.mem_of_getElem? (i := 328) (by decide +kernel)), (List.mem_of_getElem? (i := 329) (by decide +kernel))⟩
set_option maxRecDepth 20000 in
theorem ml_X6_110 : Cond.methodLink RX6 110 yX6_goes ∈ wsL_law ∧ Cond.instanceMethod yX6_goes ∈ wsL_law ∧ Cond.selects RX6 yX6_goes yX6_goes ∈ wsL_law := ⟨(List.mem_of_getElem? (i := 294) (by decide +kernel)), (List.mem_of_getElem? (i := 295) (by decide +kernel)), (List.mem_of_getElem? (i := 296) (by decide +kernel))⟩
set_option maxRecDepth 20000 in
theorem fl_X6_113_5 : zm_fl RX6 113 5 13 := ⟨RX6, TX6, 17, "PropStoreModel", rfl, inlX6, by decide, (List.mem_of_getElem? (i := 293) (by decide +kernel)), Or.inl rfl⟩
set_option maxRecDepth 20000 in
theorem fp_X6_113_5 : zm_fp RX6 113 5 13 .long false := ⟨RX6, TX6, 17, tyX6, rfl, inlX6, tyX6_ok, nmX6, by decide, (List.mem_of_getElem? (i := 293) (by decide +kernel)), rfl, fun h => (by cases h), by decide +kernel⟩
set_option maxRecDepth 20000 in
theorem ml_X6_117 : Cond.methodLink RX6 117 yX6_worthOf ∈ wsL_law ∧ Cond.instanceMethod yX6_worthOf ∈ wsL_law ∧ Cond.selects RX6 yX6_worthOf yX6_worthOf ∈ wsL_law := ⟨(List.mem_of_getElem? (i := 301) (by decide +kernel)), (List.mem_of_getElem? (i := 302) (by decide +kernel)), (List.mem_of_getElem? (i := 303) (by decide +kernel))⟩
set_option maxRecDepth 20000 in
theorem ml_X6_120 : Cond.methodLink RX6 120 yX6_wearAll ∈ wsL_law ∧ Cond.instanceMethod yX6_wearAll ∈ wsL_law ∧ Cond.selects RX6 yX6_wearAll yX6_wearAll ∈ wsL_law := ⟨(List.mem_of_getElem? (i := 323) (by decide +kernel)), (List.mem_of_getElem? (i := 324) (by decide +kernel)), (List.mem_of_getElem? (i := 325) (by decide +kernel))⟩
set_option maxRecDepth 20000 in
theorem ml_X6_123 : Cond.methodLink RX6 123 yX6_take ∈ wsL_law ∧ Cond.instanceMethod yX6_take ∈ wsL_law ∧ Cond.selects RX6 yX6_take yX6_take ∈ wsL_law := ⟨(List.mem_of_getElem? (i := 331) (by decide +kernel)), (List.mem_of_getElem? (i := 332) (by decide +kernel)), (List.mem_of_getElem? (i := 333) (by decide +kernel))⟩
set_option maxRecDepth 20000 in
theorem ml_X6_127 : Cond.methodLink RX6 127 yX6_lay ∈ wsL_law ∧ Cond.instanceMethod yX6_lay ∈ wsL_law ∧ Cond.selects RX6 yX6_lay yX6_lay ∈ wsL_law := ⟨(List.mem_of_getElem? (i := 335) (by decide +kernel)), (List.mem_of_getElem? (i := 336) (by decide +kernel)), (List.mem_of_getElem? (i := 337) (by decide +kernel))⟩
set_option maxRecDepth 20000 in
theorem fl_X6_131_5 : zm_fl RX6 131 5 14 := ⟨RX6, TX6, 17, "PropStoreModel", rfl, inlX6, by decide, (List.mem_of_getElem? (i := 287) (by decide +kernel)), Or.inl rfl⟩
set_option maxRecDepth 20000 in
theorem fp_X6_131_5 : zm_fp RX6 131 5 14 .int false := ⟨RX6, TX6, 17, tyX6, rfl, inlX6, tyX6_ok, nmX6, by decide, (List.mem_of_getElem? (i := 287) (by decide +kernel)), rfl, fun h => (by cases h), by decide +kernel⟩
set_option maxRecDepth 20000 in
theorem ml_X6_134 : Cond.methodLink RX6 134 yX6_done ∈ wsL_law ∧ Cond.instanceMethod yX6_done ∈ wsL_law ∧ Cond.selects RX6 yX6_done yX6_done ∈ wsL_law := ⟨(List.mem_of_getElem? (i := 289) (by decide +kernel)), (List.mem_of_getElem? (i := 290) (by decide +kernel)), (List.mem_of_getElem? (i := 291) (by decide +kernel))⟩
set_option maxRecDepth 20000 in
theorem fl_X6_137_5 : zm_fl RX6 137 5 16 := ⟨RX6, TX6, 17, "PropStoreModel", rfl, inlX6, by decide, (List.mem_of_getElem? (i := 288) (by decide +kernel)), Or.inl rfl⟩
set_option maxRecDepth 20000 in
theorem fp_X6_137_5 : zm_fp RX6 137 5 16 .int false := ⟨RX6, TX6, 17, tyX6, rfl, inlX6, tyX6_ok, nmX6, by decide, (List.mem_of_getElem? (i := 288) (by decide +kernel)), rfl, fun h => (by cases h), by decide +kernel⟩
set_option maxRecDepth 20000 in
theorem cd_X5_init : zm_cd yX5_init cX5_init 1 none 0 := ⟨(List.mem_of_getElem? (i := 8) (by decide +kernel)), (List.mem_of_getElem? (i := 2) (by decide +kernel)), by decide +kernel⟩
set_option maxRecDepth 20000 in
theorem cd_X6_init : zm_cd yX6_init cX6_init 2 none 0 := ⟨(List.mem_of_getElem? (i := 20) (by decide +kernel)), (List.mem_of_getElem? (i := 5) (by decide +kernel)), by decide +kernel⟩
set_option maxRecDepth 20000 in
theorem cd_X5_prop : zm_cd yX5_prop cX5_prop 3 (some .int) 2 := ⟨(List.mem_of_getElem? (i := 39) (by decide +kernel)), (List.mem_of_getElem? (i := 2) (by decide +kernel)), by decide +kernel⟩
set_option maxRecDepth 20000 in
theorem cd_X5_mostOf : zm_cd yX5_mostOf cX5_mostOf 1 (some .int) 1 := ⟨(List.mem_of_getElem? (i := 43) (by decide +kernel)), (List.mem_of_getElem? (i := 2) (by decide +kernel)), by decide +kernel⟩
set_option maxRecDepth 20000 in
theorem cd_X5_isPiece : zm_cd yX5_isPiece cX5_isPiece 1 (some .boolean) 1 := ⟨(List.mem_of_getElem? (i := 46) (by decide +kernel)), (List.mem_of_getElem? (i := 2) (by decide +kernel)), by decide +kernel⟩
set_option maxRecDepth 20000 in
theorem cd_X5_newProp : zm_cd yX5_newProp cX5_newProp 3 (some (.object "PropStore$Prop")) 3 := ⟨(List.mem_of_getElem? (i := 49) (by decide +kernel)), (List.mem_of_getElem? (i := 2) (by decide +kernel)), by decide +kernel⟩
set_option maxRecDepth 20000 in
theorem cd_X2_init : zm_cd yX2_init cX2_init 4 none 3 := ⟨(List.mem_of_getElem? (i := 61) (by decide +kernel)), (List.mem_of_getElem? (i := 52) (by decide +kernel)), by decide +kernel⟩
set_option maxRecDepth 20000 in
theorem cd_X3_init : zm_cd yX3_init cX3_init 3 none 2 := ⟨(List.mem_of_getElem? (i := 66) (by decide +kernel)), (List.mem_of_getElem? (i := 65) (by decide +kernel)), by decide +kernel⟩
set_option maxRecDepth 20000 in
theorem cd_X5_isRow : zm_cd yX5_isRow cX5_isRow 1 (some .boolean) 1 := ⟨(List.mem_of_getElem? (i := 72) (by decide +kernel)), (List.mem_of_getElem? (i := 2) (by decide +kernel)), by decide +kernel⟩
set_option maxRecDepth 20000 in
theorem cd_X4_init : zm_cd yX4_init cX4_init 4 none 3 := ⟨(List.mem_of_getElem? (i := 75) (by decide +kernel)), (List.mem_of_getElem? (i := 55) (by decide +kernel)), by decide +kernel⟩
set_option maxRecDepth 20000 in
theorem cd_X1_init : zm_cd yX1_init cX1_init 4 none 3 := ⟨(List.mem_of_getElem? (i := 81) (by decide +kernel)), (List.mem_of_getElem? (i := 58) (by decide +kernel)), by decide +kernel⟩
set_option maxRecDepth 20000 in
theorem cd_X6_prop : zm_cd yX6_prop cX6_prop 4 (some .int) 2 := ⟨(List.mem_of_getElem? (i := 87) (by decide +kernel)), (List.mem_of_getElem? (i := 5) (by decide +kernel)), by decide +kernel⟩
set_option maxRecDepth 20000 in
theorem cd_X6_isIn : zm_cd yX6_isIn cX6_isIn 3 (some .boolean) 3 := ⟨(List.mem_of_getElem? (i := 91) (by decide +kernel)), (List.mem_of_getElem? (i := 5) (by decide +kernel)), by decide +kernel⟩
set_option maxRecDepth 20000 in
theorem cd_X6_isSingle : zm_cd yX6_isSingle cX6_isSingle 1 (some .boolean) 1 := ⟨(List.mem_of_getElem? (i := 94) (by decide +kernel)), (List.mem_of_getElem? (i := 5) (by decide +kernel)), by decide +kernel⟩
set_option maxRecDepth 20000 in
theorem cd_X5_set : zm_cd yX5_set cX5_set 6 (some .int) 3 := ⟨(List.mem_of_getElem? (i := 98) (by decide +kernel)), (List.mem_of_getElem? (i := 2) (by decide +kernel)), by decide +kernel⟩
set_option maxRecDepth 20000 in
theorem cd_X5_find : zm_cd yX5_find cX5_find 2 (some (.object "PropStore$Prop")) 1 := ⟨(List.mem_of_getElem? (i := 103) (by decide +kernel)), (List.mem_of_getElem? (i := 2) (by decide +kernel)), by decide +kernel⟩
set_option maxRecDepth 20000 in
theorem cd_X1_put : zm_cd yX1_put cX1_put 3 (some .boolean) 2 := ⟨(List.mem_of_getElem? (i := 107) (by decide +kernel)), (List.mem_of_getElem? (i := 58) (by decide +kernel)), by decide +kernel⟩
set_option maxRecDepth 20000 in
theorem cd_X1_cut : zm_cd yX1_cut cX1_cut 2 (some .long) 1 := ⟨(List.mem_of_getElem? (i := 111) (by decide +kernel)), (List.mem_of_getElem? (i := 58) (by decide +kernel)), by decide +kernel⟩
set_option maxRecDepth 20000 in
theorem cd_X6_set : zm_cd yX6_set cX6_set 4 (some .int) 3 := ⟨(List.mem_of_getElem? (i := 117) (by decide +kernel)), (List.mem_of_getElem? (i := 5) (by decide +kernel)), by decide +kernel⟩
set_option maxRecDepth 20000 in
theorem cd_X6_isProp : zm_cd yX6_isProp cX6_isProp 2 (some .boolean) 1 := ⟨(List.mem_of_getElem? (i := 122) (by decide +kernel)), (List.mem_of_getElem? (i := 5) (by decide +kernel)), by decide +kernel⟩
set_option maxRecDepth 20000 in
theorem cd_X6_many : zm_cd yX6_many cX6_many 2 (some .int) 1 := ⟨(List.mem_of_getElem? (i := 126) (by decide +kernel)), (List.mem_of_getElem? (i := 5) (by decide +kernel)), by decide +kernel⟩
set_option maxRecDepth 20000 in
theorem cd_X5_slot : zm_cd yX5_slot cX5_slot 5 (some .int) 2 := ⟨(List.mem_of_getElem? (i := 130) (by decide +kernel)), (List.mem_of_getElem? (i := 2) (by decide +kernel)), by decide +kernel⟩
set_option maxRecDepth 20000 in
theorem cd_X5_isSlot : zm_cd yX5_isSlot cX5_isSlot 1 (some .boolean) 1 := ⟨(List.mem_of_getElem? (i := 133) (by decide +kernel)), (List.mem_of_getElem? (i := 2) (by decide +kernel)), by decide +kernel⟩
set_option maxRecDepth 20000 in
theorem cd_X5_numberOf : zm_cd yX5_numberOf cX5_numberOf 1 (some .int) 1 := ⟨(List.mem_of_getElem? (i := 136) (by decide +kernel)), (List.mem_of_getElem? (i := 2) (by decide +kernel)), by decide +kernel⟩
set_option maxRecDepth 20000 in
theorem cd_X6_slot : zm_cd yX6_slot cX6_slot 4 (some .int) 2 := ⟨(List.mem_of_getElem? (i := 141) (by decide +kernel)), (List.mem_of_getElem? (i := 5) (by decide +kernel)), by decide +kernel⟩
set_option maxRecDepth 20000 in
theorem cd_X6_isSlot : zm_cd yX6_isSlot cX6_isSlot 1 (some .boolean) 1 := ⟨(List.mem_of_getElem? (i := 144) (by decide +kernel)), (List.mem_of_getElem? (i := 5) (by decide +kernel)), by decide +kernel⟩
set_option maxRecDepth 20000 in
theorem cd_X5_held : zm_cd yX5_held cX5_held 2 (some .int) 1 := ⟨(List.mem_of_getElem? (i := 148) (by decide +kernel)), (List.mem_of_getElem? (i := 2) (by decide +kernel)), by decide +kernel⟩
set_option maxRecDepth 20000 in
theorem cd_X6_held : zm_cd yX6_held cX6_held 2 (some .int) 1 := ⟨(List.mem_of_getElem? (i := 152) (by decide +kernel)), (List.mem_of_getElem? (i := 5) (by decide +kernel)), by decide +kernel⟩
set_option maxRecDepth 20000 in
theorem cd_X5_hand : zm_cd yX5_hand cX5_hand 1 (some .int) 0 := ⟨(List.mem_of_getElem? (i := 156) (by decide +kernel)), (List.mem_of_getElem? (i := 2) (by decide +kernel)), by decide +kernel⟩
set_option maxRecDepth 20000 in
theorem cd_X6_hand : zm_cd yX6_hand cX6_hand 1 (some .int) 0 := ⟨(List.mem_of_getElem? (i := 161) (by decide +kernel)), (List.mem_of_getElem? (i := 5) (by decide +kernel)), by decide +kernel⟩
set_option maxRecDepth 20000 in
theorem cd_X5_cue : zm_cd yX5_cue cX5_cue 5 (some .int) 4 := ⟨(List.mem_of_getElem? (i := 165) (by decide +kernel)), (List.mem_of_getElem? (i := 2) (by decide +kernel)), by decide +kernel⟩
set_option maxRecDepth 20000 in
theorem cd_X5_isView : zm_cd yX5_isView cX5_isView 1 (some .boolean) 1 := ⟨(List.mem_of_getElem? (i := 172) (by decide +kernel)), (List.mem_of_getElem? (i := 2) (by decide +kernel)), by decide +kernel⟩
set_option maxRecDepth 20000 in
theorem cd_X5_isAmong : zm_cd yX5_isAmong cX5_isAmong 2 (some .boolean) 2 := ⟨(List.mem_of_getElem? (i := 175) (by decide +kernel)), (List.mem_of_getElem? (i := 2) (by decide +kernel)), by decide +kernel⟩
set_option maxRecDepth 20000 in
theorem cd_X0_init : zm_cd yX0_init cX0_init 5 none 4 := ⟨(List.mem_of_getElem? (i := 178) (by decide +kernel)), (List.mem_of_getElem? (i := 169) (by decide +kernel)), by decide +kernel⟩
set_option maxRecDepth 20000 in
theorem cd_X6_cue : zm_cd yX6_cue cX6_cue 5 (some .int) 4 := ⟨(List.mem_of_getElem? (i := 187) (by decide +kernel)), (List.mem_of_getElem? (i := 5) (by decide +kernel)), by decide +kernel⟩
set_option maxRecDepth 20000 in
theorem cd_X6_isView : zm_cd yX6_isView cX6_isView 1 (some .boolean) 1 := ⟨(List.mem_of_getElem? (i := 191) (by decide +kernel)), (List.mem_of_getElem? (i := 5) (by decide +kernel)), by decide +kernel⟩
set_option maxRecDepth 20000 in
theorem cd_X6_has : zm_cd yX6_has cX6_has 2 (some .boolean) 2 := ⟨(List.mem_of_getElem? (i := 194) (by decide +kernel)), (List.mem_of_getElem? (i := 5) (by decide +kernel)), by decide +kernel⟩
set_option maxRecDepth 20000 in
theorem cd_X6_isRow : zm_cd yX6_isRow cX6_isRow 1 (some .boolean) 1 := ⟨(List.mem_of_getElem? (i := 197) (by decide +kernel)), (List.mem_of_getElem? (i := 5) (by decide +kernel)), by decide +kernel⟩
set_option maxRecDepth 20000 in
theorem cd_X5_strike : zm_cd yX5_strike cX5_strike 2 (some .int) 0 := ⟨(List.mem_of_getElem? (i := 201) (by decide +kernel)), (List.mem_of_getElem? (i := 2) (by decide +kernel)), by decide +kernel⟩
set_option maxRecDepth 20000 in
theorem cd_X6_strike : zm_cd yX6_strike cX6_strike 2 (some .int) 0 := ⟨(List.mem_of_getElem? (i := 205) (by decide +kernel)), (List.mem_of_getElem? (i := 5) (by decide +kernel)), by decide +kernel⟩
set_option maxRecDepth 20000 in
theorem cd_X5_play : zm_cd yX5_play cX5_play 5 (some .int) 2 := ⟨(List.mem_of_getElem? (i := 209) (by decide +kernel)), (List.mem_of_getElem? (i := 2) (by decide +kernel)), by decide +kernel⟩
set_option maxRecDepth 20000 in
theorem cd_X5_perform : zm_cd yX5_perform cX5_perform 3 (some .int) 1 := ⟨(List.mem_of_getElem? (i := 215) (by decide +kernel)), (List.mem_of_getElem? (i := 2) (by decide +kernel)), by decide +kernel⟩
set_option maxRecDepth 20000 in
theorem cd_X5_goesAs : zm_cd yX5_goesAs cX5_goesAs 2 (some .boolean) 2 := ⟨(List.mem_of_getElem? (i := 222) (by decide +kernel)), (List.mem_of_getElem? (i := 2) (by decide +kernel)), by decide +kernel⟩
set_option maxRecDepth 20000 in
theorem cd_X5_showProp : zm_cd yX5_showProp cX5_showProp 3 (some .int) 2 := ⟨(List.mem_of_getElem? (i := 228) (by decide +kernel)), (List.mem_of_getElem? (i := 2) (by decide +kernel)), by decide +kernel⟩
set_option maxRecDepth 20000 in
theorem cd_X1_worthBy : zm_cd yX1_worthBy cX1_worthBy 5 (some .long) 1 := ⟨(List.mem_of_getElem? (i := 234) (by decide +kernel)), (List.mem_of_getElem? (i := 58) (by decide +kernel)), by decide +kernel⟩
set_option maxRecDepth 20000 in
theorem cd_X2_worthBy : zm_cd yX2_worthBy cX2_worthBy 2 (some .long) 1 := ⟨(List.mem_of_getElem? (i := 237) (by decide +kernel)), (List.mem_of_getElem? (i := 52) (by decide +kernel)), by decide +kernel⟩
set_option maxRecDepth 20000 in
theorem cd_X4_worthBy : zm_cd yX4_worthBy cX4_worthBy 6 (some .long) 1 := ⟨(List.mem_of_getElem? (i := 246) (by decide +kernel)), (List.mem_of_getElem? (i := 55) (by decide +kernel)), by decide +kernel⟩
set_option maxRecDepth 20000 in
theorem cd_X5_partView : zm_cd yX5_partView cX5_partView 1 (some .int) 1 := ⟨(List.mem_of_getElem? (i := 248) (by decide +kernel)), (List.mem_of_getElem? (i := 2) (by decide +kernel)), by decide +kernel⟩
set_option maxRecDepth 20000 in
theorem cd_X5_wearProp : zm_cd yX5_wearProp cX5_wearProp 2 (some .int) 2 := ⟨(List.mem_of_getElem? (i := 253) (by decide +kernel)), (List.mem_of_getElem? (i := 2) (by decide +kernel)), by decide +kernel⟩
set_option maxRecDepth 20000 in
theorem cd_X1_putOn : zm_cd yX1_putOn cX1_putOn 2 none 1 := ⟨(List.mem_of_getElem? (i := 258) (by decide +kernel)), (List.mem_of_getElem? (i := 58) (by decide +kernel)), by decide +kernel⟩
set_option maxRecDepth 20000 in
theorem cd_X2_putOn : zm_cd yX2_putOn cX2_putOn 2 none 1 := ⟨(List.mem_of_getElem? (i := 261) (by decide +kernel)), (List.mem_of_getElem? (i := 52) (by decide +kernel)), by decide +kernel⟩
set_option maxRecDepth 20000 in
theorem cd_X4_putOn : zm_cd yX4_putOn cX4_putOn 4 none 1 := ⟨(List.mem_of_getElem? (i := 264) (by decide +kernel)), (List.mem_of_getElem? (i := 55) (by decide +kernel)), by decide +kernel⟩
set_option maxRecDepth 20000 in
theorem cd_X5_takePart : zm_cd yX5_takePart cX5_takePart 4 (some .int) 2 := ⟨(List.mem_of_getElem? (i := 269) (by decide +kernel)), (List.mem_of_getElem? (i := 2) (by decide +kernel)), by decide +kernel⟩
set_option maxRecDepth 20000 in
theorem cd_X4_hasPlace : zm_cd yX4_hasPlace cX4_hasPlace 2 (some .boolean) 1 := ⟨(List.mem_of_getElem? (i := 275) (by decide +kernel)), (List.mem_of_getElem? (i := 55) (by decide +kernel)), by decide +kernel⟩
set_option maxRecDepth 20000 in
theorem cd_X5_layPart : zm_cd yX5_layPart cX5_layPart 5 (some .int) 3 := ⟨(List.mem_of_getElem? (i := 279) (by decide +kernel)), (List.mem_of_getElem? (i := 2) (by decide +kernel)), by decide +kernel⟩
set_option maxRecDepth 20000 in
theorem cd_X6_play : zm_cd yX6_play cX6_play 5 (some .int) 2 := ⟨(List.mem_of_getElem? (i := 286) (by decide +kernel)), (List.mem_of_getElem? (i := 5) (by decide +kernel)), by decide +kernel⟩
set_option maxRecDepth 20000 in
theorem cd_X6_done : zm_cd yX6_done cX6_done 5 (some .int) 1 := ⟨(List.mem_of_getElem? (i := 292) (by decide +kernel)), (List.mem_of_getElem? (i := 5) (by decide +kernel)), by decide +kernel⟩
set_option maxRecDepth 20000 in
theorem cd_X6_goes : zm_cd yX6_goes cX6_goes 3 (some .boolean) 2 := ⟨(List.mem_of_getElem? (i := 297) (by decide +kernel)), (List.mem_of_getElem? (i := 5) (by decide +kernel)), by decide +kernel⟩
set_option maxRecDepth 20000 in
theorem cd_X6_goesAs : zm_cd yX6_goesAs cX6_goesAs 2 (some .boolean) 2 := ⟨(List.mem_of_getElem? (i := 300) (by decide +kernel)), (List.mem_of_getElem? (i := 5) (by decide +kernel)), by decide +kernel⟩
set_option maxRecDepth 20000 in
theorem cd_X6_worthOf : zm_cd yX6_worthOf cX6_worthOf 7 (some .long) 2 := ⟨(List.mem_of_getElem? (i := 304) (by decide +kernel)), (List.mem_of_getElem? (i := 5) (by decide +kernel)), by decide +kernel⟩
set_option maxRecDepth 20000 in
theorem cd_X6_worthOfNumbers : zm_cd yX6_worthOfNumbers cX6_worthOfNumbers 5 (some .long) 1 := ⟨(List.mem_of_getElem? (i := 308) (by decide +kernel)), (List.mem_of_getElem? (i := 5) (by decide +kernel)), by decide +kernel⟩
set_option maxRecDepth 20000 in
theorem cd_X6_worthOfOne : zm_cd yX6_worthOfOne cX6_worthOfOne 5 (some .long) 2 := ⟨(List.mem_of_getElem? (i := 312) (by decide +kernel)), (List.mem_of_getElem? (i := 5) (by decide +kernel)), by decide +kernel⟩
set_option maxRecDepth 20000 in
theorem cd_X6_worthOfRow : zm_cd yX6_worthOfRow cX6_worthOfRow 7 (some .long) 2 := ⟨(List.mem_of_getElem? (i := 319) (by decide +kernel)), (List.mem_of_getElem? (i := 5) (by decide +kernel)), by decide +kernel⟩
set_option maxRecDepth 20000 in
theorem cd_X6_inner : zm_cd yX6_inner cX6_inner 1 (some .int) 1 := ⟨(List.mem_of_getElem? (i := 322) (by decide +kernel)), (List.mem_of_getElem? (i := 5) (by decide +kernel)), by decide +kernel⟩
set_option maxRecDepth 20000 in
theorem cd_X6_wearAll : zm_cd yX6_wearAll cX6_wearAll 4 none 1 := ⟨(List.mem_of_getElem? (i := 326) (by decide +kernel)), (List.mem_of_getElem? (i := 5) (by decide +kernel)), by decide +kernel⟩
set_option maxRecDepth 20000 in
theorem cd_X6_wearRow : zm_cd yX6_wearRow cX6_wearRow 4 none 1 := ⟨(List.mem_of_getElem? (i := 330) (by decide +kernel)), (List.mem_of_getElem? (i := 5) (by decide +kernel)), by decide +kernel⟩
set_option maxRecDepth 20000 in
theorem cd_X6_take : zm_cd yX6_take cX6_take 3 (some .int) 2 := ⟨(List.mem_of_getElem? (i := 334) (by decide +kernel)), (List.mem_of_getElem? (i := 5) (by decide +kernel)), by decide +kernel⟩
set_option maxRecDepth 20000 in
theorem cd_X6_lay : zm_cd yX6_lay cX6_lay 4 (some .int) 3 := ⟨(List.mem_of_getElem? (i := 338) (by decide +kernel)), (List.mem_of_getElem? (i := 5) (by decide +kernel)), by decide +kernel⟩
set_option maxRecDepth 20000 in
theorem cd_X5_miscue : zm_cd yX5_miscue cX5_miscue 2 (some .int) 1 := ⟨(List.mem_of_getElem? (i := 342) (by decide +kernel)), (List.mem_of_getElem? (i := 2) (by decide +kernel)), by decide +kernel⟩
set_option maxRecDepth 20000 in
theorem cd_X6_miscue : zm_cd yX6_miscue cX6_miscue 2 (some .int) 1 := ⟨(List.mem_of_getElem? (i := 346) (by decide +kernel)), (List.mem_of_getElem? (i := 5) (by decide +kernel)), by decide +kernel⟩
set_option maxRecDepth 20000 in
theorem cd_X5_points : zm_cd yX5_points cX5_points 1 (some .long) 0 := ⟨(List.mem_of_getElem? (i := 350) (by decide +kernel)), (List.mem_of_getElem? (i := 2) (by decide +kernel)), by decide +kernel⟩
set_option maxRecDepth 20000 in
theorem cd_X6_points : zm_cd yX6_points cX6_points 1 (some .long) 0 := ⟨(List.mem_of_getElem? (i := 354) (by decide +kernel)), (List.mem_of_getElem? (i := 5) (by decide +kernel)), by decide +kernel⟩
set_option maxRecDepth 20000 in
theorem cd_X5_is : zm_cd yX5_is cX5_is 4 (some .int) 2 := ⟨(List.mem_of_getElem? (i := 358) (by decide +kernel)), (List.mem_of_getElem? (i := 2) (by decide +kernel)), by decide +kernel⟩
set_option maxRecDepth 20000 in
theorem cd_X6_is : zm_cd yX6_is cX6_is 3 (some .int) 2 := ⟨(List.mem_of_getElem? (i := 362) (by decide +kernel)), (List.mem_of_getElem? (i := 5) (by decide +kernel)), by decide +kernel⟩
set_option maxRecDepth 20000 in
theorem cd_X5_worth : zm_cd yX5_worth cX5_worth 4 (some .long) 2 := ⟨(List.mem_of_getElem? (i := 366) (by decide +kernel)), (List.mem_of_getElem? (i := 2) (by decide +kernel)), by decide +kernel⟩
set_option maxRecDepth 20000 in
theorem cd_X6_worth : zm_cd yX6_worth cX6_worth 3 (some .long) 2 := ⟨(List.mem_of_getElem? (i := 370) (by decide +kernel)), (List.mem_of_getElem? (i := 5) (by decide +kernel)), by decide +kernel⟩
set_option maxRecDepth 20000 in
theorem cd_X5_wear : zm_cd yX5_wear cX5_wear 4 (some .int) 1 := ⟨(List.mem_of_getElem? (i := 374) (by decide +kernel)), (List.mem_of_getElem? (i := 2) (by decide +kernel)), by decide +kernel⟩
set_option maxRecDepth 20000 in
theorem cd_X6_wear : zm_cd yX6_wear cX6_wear 2 (some .int) 1 := ⟨(List.mem_of_getElem? (i := 381) (by decide +kernel)), (List.mem_of_getElem? (i := 5) (by decide +kernel)), by decide +kernel⟩
set_option maxRecDepth 20000 in
theorem cd_X5_at : zm_cd yX5_at cX5_at 5 (some .int) 2 := ⟨(List.mem_of_getElem? (i := 385) (by decide +kernel)), (List.mem_of_getElem? (i := 2) (by decide +kernel)), by decide +kernel⟩
set_option maxRecDepth 20000 in
theorem cd_X6_at : zm_cd yX6_at cX6_at 3 (some .int) 2 := ⟨(List.mem_of_getElem? (i := 389) (by decide +kernel)), (List.mem_of_getElem? (i := 5) (by decide +kernel)), by decide +kernel⟩
set_option maxRecDepth 20000 in
theorem cd_X5_count : zm_cd yX5_count cX5_count 2 (some .int) 1 := ⟨(List.mem_of_getElem? (i := 393) (by decide +kernel)), (List.mem_of_getElem? (i := 2) (by decide +kernel)), by decide +kernel⟩
set_option maxRecDepth 20000 in
theorem cd_X6_count : zm_cd yX6_count cX6_count 2 (some .int) 1 := ⟨(List.mem_of_getElem? (i := 397) (by decide +kernel)), (List.mem_of_getElem? (i := 5) (by decide +kernel)), by decide +kernel⟩
set_option maxRecDepth 20000 in
theorem cst_X6_70 : Cond.constant RX6 70 (65535) ∈ wsL_law := (List.mem_of_getElem? (i := 118) (by decide +kernel))
set_option maxRecDepth 20000 in
theorem cst_X2_18 : Cond.constantLong RX2 18 (2) ∈ wsL_law := (List.mem_of_getElem? (i := 239) (by decide +kernel))
set_option maxRecDepth 20000 in
theorem cst_X2_20 : Cond.constantLong RX2 20 (3) ∈ wsL_law := (List.mem_of_getElem? (i := 240) (by decide +kernel))
set_option maxRecDepth 20000 in
theorem cst_X2_25 : Cond.constantLong RX2 25 (5) ∈ wsL_law := (List.mem_of_getElem? (i := 243) (by decide +kernel))
set_option maxRecDepth 20000 in
theorem cst_X6_86 : Cond.constantLong RX6 86 (2) ∈ wsL_law := (List.mem_of_getElem? (i := 313) (by decide +kernel))
set_option maxRecDepth 20000 in
theorem cst_X6_88 : Cond.constantLong RX6 88 (3) ∈ wsL_law := (List.mem_of_getElem? (i := 314) (by decide +kernel))
set_option maxRecDepth 20000 in
theorem cst_X6_90 : Cond.constantLong RX6 90 (5) ∈ wsL_law := (List.mem_of_getElem? (i := 315) (by decide +kernel))
set_option maxRecDepth 20000 in
theorem in_X0 : Cond.instantiable RX0 4 ∈ wsL_law ∧ Cond.initialized RX0 ∈ wsL_law := ⟨(List.mem_of_getElem? (i := 168) (by decide +kernel)), (List.mem_of_getElem? (i := 169) (by decide +kernel))⟩
set_option maxRecDepth 20000 in
theorem in_X1 : Cond.instantiable RX1 3 ∈ wsL_law ∧ Cond.initialized RX1 ∈ wsL_law := ⟨(List.mem_of_getElem? (i := 57) (by decide +kernel)), (List.mem_of_getElem? (i := 58) (by decide +kernel))⟩
set_option maxRecDepth 20000 in
theorem in_X2 : Cond.instantiable RX2 4 ∈ wsL_law ∧ Cond.initialized RX2 ∈ wsL_law := ⟨(List.mem_of_getElem? (i := 51) (by decide +kernel)), (List.mem_of_getElem? (i := 52) (by decide +kernel))⟩
set_option maxRecDepth 20000 in
theorem in_X4 : Cond.instantiable RX4 3 ∈ wsL_law ∧ Cond.initialized RX4 ∈ wsL_law := ⟨(List.mem_of_getElem? (i := 54) (by decide +kernel)), (List.mem_of_getElem? (i := 55) (by decide +kernel))⟩
set_option maxRecDepth 20000 in
theorem in_X5 : Cond.instantiable RX5 10 ∈ wsL_law ∧ Cond.initialized RX5 ∈ wsL_law := ⟨(List.mem_of_getElem? (i := 1) (by decide +kernel)), (List.mem_of_getElem? (i := 2) (by decide +kernel))⟩
set_option maxRecDepth 20000 in
theorem in_X6 : Cond.instantiable RX6 17 ∈ wsL_law ∧ Cond.initialized RX6 ∈ wsL_law := ⟨(List.mem_of_getElem? (i := 4) (by decide +kernel)), (List.mem_of_getElem? (i := 5) (by decide +kernel))⟩
set_option maxRecDepth 20000 in
theorem st_X5_64 : Cond.fieldLink RX5 64 "PropStore" "ACT_VIEWS" "[I" ∈ wsL_law := (List.mem_of_getElem? (i := 166) (by decide +kernel))
set_option maxRecDepth 20000 in
theorem st_X5_163 : Cond.fieldLink RX5 163 "PropStore" "GOES_AS" "[I" ∈ wsL_law := (List.mem_of_getElem? (i := 223) (by decide +kernel))
set_option maxRecDepth 20000 in
theorem st_X5_167 : Cond.fieldLink RX5 167 "PropStore" "PART_VIEWS" "[I" ∈ wsL_law := (List.mem_of_getElem? (i := 249) (by decide +kernel))
set_option maxRecDepth 20000 in
theorem aw_int : Cond.arrayClass .int ∈ wsL_law := (List.mem_of_getElem? (i := 22) (by decide +kernel))
set_option maxRecDepth 20000 in
theorem aw_long : Cond.arrayClass .long ∈ wsL_law := (List.mem_of_getElem? (i := 26) (by decide +kernel))
