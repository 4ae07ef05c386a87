theorem dX5_cue_93 : decode cX5_cue 93 = .ok (.getfield 71, 3) := by decide +kernel
theorem dX5_cue_96 : decode cX5_cue 96 = .ok (.iconst 1, 1) := by decide +kernel
theorem dX5_cue_97 : decode cX5_cue 97 = .ok (.isub, 1) := by decide +kernel
theorem dX5_cue_98 : decode cX5_cue 98 = .ok (.ireturn, 1) := by decide +kernel
theorem dX5_strike_0 : decode cX5_strike 0 = .ok (.aload_n 0, 1) := by decide +kernel
theorem dX5_strike_1 : decode cX5_strike 1 = .ok (.getfield 71, 3) := by decide +kernel
theorem dX5_strike_4 : decode cX5_strike 4 = .ok (.istore_n 1, 1) := by decide +kernel
theorem dX5_strike_5 : decode cX5_strike 5 = .ok (.aload_n 0, 1) := by decide +kernel
theorem dX5_strike_6 : decode cX5_strike 6 = .ok (.iconst 0, 1) := by decide +kernel
theorem dX5_strike_7 : decode cX5_strike 7 = .ok (.putfield 71, 3) := by decide +kernel
theorem dX5_strike_10 : decode cX5_strike 10 = .ok (.iload_n 1, 1) := by decide +kernel
theorem dX5_strike_11 : decode cX5_strike 11 = .ok (.ireturn, 1) := by decide +kernel
theorem dX5_play_0 : decode cX5_play 0 = .ok (.iload_n 1, 1) := by decide +kernel
theorem dX5_play_1 : decode cX5_play 1 = .ok (.ifCond .lt 16, 3) := by decide +kernel
theorem dX5_play_4 : decode cX5_play 4 = .ok (.iload_n 2, 1) := by decide +kernel
theorem dX5_play_5 : decode cX5_play 5 = .ok (.iload_n 1, 1) := by decide +kernel
theorem dX5_play_6 : decode cX5_play 6 = .ok (.if_icmp .lt 11, 3) := by decide +kernel
theorem dX5_play_9 : decode cX5_play 9 = .ok (.iload_n 2, 1) := by decide +kernel
theorem dX5_play_10 : decode cX5_play 10 = .ok (.aload_n 0, 1) := by decide +kernel
theorem dX5_play_11 : decode cX5_play 11 = .ok (.getfield 71, 3) := by decide +kernel
theorem dX5_play_14 : decode cX5_play 14 = .ok (.if_icmp .lt 6, 3) := by decide +kernel
theorem dX5_play_17 : decode cX5_play 17 = .ok (.bipush (-2), 2) := by decide +kernel
theorem dX5_play_19 : decode cX5_play 19 = .ok (.ireturn, 1) := by decide +kernel
theorem dX5_play_20 : decode cX5_play 20 = .ok (.aload_n 0, 1) := by decide +kernel
theorem dX5_play_21 : decode cX5_play 21 = .ok (.iconst 0, 1) := by decide +kernel
theorem dX5_play_22 : decode cX5_play 22 = .ok (.putfield 77, 3) := by decide +kernel
theorem dX5_play_25 : decode cX5_play 25 = .ok (.aload_n 0, 1) := by decide +kernel
theorem dX5_play_26 : decode cX5_play 26 = .ok (.iconst (-1), 1) := by decide +kernel
theorem dX5_play_27 : decode cX5_play 27 = .ok (.putfield 24, 3) := by decide +kernel
theorem dX5_play_30 : decode cX5_play 30 = .ok (.iload_n 1, 1) := by decide +kernel
theorem dX5_play_31 : decode cX5_play 31 = .ok (.istore_n 3, 1) := by decide +kernel
theorem dX5_play_32 : decode cX5_play 32 = .ok (.iload_n 3, 1) := by decide +kernel
theorem dX5_play_33 : decode cX5_play 33 = .ok (.iload_n 2, 1) := by decide +kernel
theorem dX5_play_34 : decode cX5_play 34 = .ok (.if_icmp .gt 51, 3) := by decide +kernel
theorem dX5_play_37 : decode cX5_play 37 = .ok (.aload_n 0, 1) := by decide +kernel
theorem dX5_play_38 : decode cX5_play 38 = .ok (.aload_n 0, 1) := by decide +kernel
theorem dX5_play_39 : decode cX5_play 39 = .ok (.getfield 20, 3) := by decide +kernel
theorem dX5_play_42 : decode cX5_play 42 = .ok (.iload_n 3, 1) := by decide +kernel
theorem dX5_play_43 : decode cX5_play 43 = .ok (.aaload, 1) := by decide +kernel
theorem dX5_play_44 : decode cX5_play 44 = .ok (.invokevirtual 80, 3) := by decide +kernel
theorem dX5_play_47 : decode cX5_play 47 = .ok (.istore 4, 2) := by decide +kernel
theorem dX5_play_49 : decode cX5_play 49 = .ok (.iload 4, 2) := by decide +kernel
theorem dX5_play_51 : decode cX5_play 51 = .ok (.ifCond .eq 28, 3) := by decide +kernel
theorem dX5_play_54 : decode cX5_play 54 = .ok (.aload_n 0, 1) := by decide +kernel
theorem dX5_play_55 : decode cX5_play 55 = .ok (.iload 4, 2) := by decide +kernel
theorem dX5_play_57 : decode cX5_play 57 = .ok (.putfield 77, 3) := by decide +kernel
theorem dX5_play_60 : decode cX5_play 60 = .ok (.aload_n 0, 1) := by decide +kernel
theorem dX5_play_61 : decode cX5_play 61 = .ok (.iload_n 3, 1) := by decide +kernel
theorem dX5_play_62 : decode cX5_play 62 = .ok (.putfield 24, 3) := by decide +kernel
theorem dX5_play_65 : decode cX5_play 65 = .ok (.aload_n 0, 1) := by decide +kernel
theorem dX5_play_66 : decode cX5_play 66 = .ok (.dup, 1) := by decide +kernel
theorem dX5_play_67 : decode cX5_play 67 = .ok (.getfield 84, 3) := by decide +kernel
theorem dX5_play_70 : decode cX5_play 70 = .ok (.iconst 1, 1) := by decide +kernel
theorem dX5_play_71 : decode cX5_play 71 = .ok (.iadd, 1) := by decide +kernel
theorem dX5_play_72 : decode cX5_play 72 = .ok (.putfield 84, 3) := by decide +kernel
theorem dX5_play_75 : decode cX5_play 75 = .ok (.iload_n 3, 1) := by decide +kernel
theorem dX5_play_76 : decode cX5_play 76 = .ok (.iload_n 1, 1) := by decide +kernel
theorem dX5_play_77 : decode cX5_play 77 = .ok (.isub, 1) := by decide +kernel
theorem dX5_play_78 : decode cX5_play 78 = .ok (.ireturn, 1) := by decide +kernel
theorem dX5_play_79 : decode cX5_play 79 = .ok (.iinc 3 1, 3) := by decide +kernel
theorem dX5_play_82 : decode cX5_play 82 = .ok (.goto (-50), 3) := by decide +kernel
theorem dX5_play_85 : decode cX5_play 85 = .ok (.iload_n 2, 1) := by decide +kernel
theorem dX5_play_86 : decode cX5_play 86 = .ok (.iload_n 1, 1) := by decide +kernel
theorem dX5_play_87 : decode cX5_play 87 = .ok (.isub, 1) := by decide +kernel
theorem dX5_play_88 : decode cX5_play 88 = .ok (.iconst 1, 1) := by decide +kernel
theorem dX5_play_89 : decode cX5_play 89 = .ok (.iadd, 1) := by decide +kernel
theorem dX5_play_90 : decode cX5_play 90 = .ok (.ireturn, 1) := by decide +kernel
theorem dX5_miscue_0 : decode cX5_miscue 0 = .ok (.iload_n 1, 1) := by decide +kernel
theorem dX5_miscue_1 : decode cX5_miscue 1 = .ok (.tableswitch 42 0 2 #[27, 32, 37], 27) := by decide +kernel
theorem dX5_miscue_28 : decode cX5_miscue 28 = .ok (.aload_n 0, 1) := by decide +kernel
theorem dX5_miscue_29 : decode cX5_miscue 29 = .ok (.getfield 77, 3) := by decide +kernel
theorem dX5_miscue_32 : decode cX5_miscue 32 = .ok (.ireturn, 1) := by decide +kernel
theorem dX5_miscue_33 : decode cX5_miscue 33 = .ok (.aload_n 0, 1) := by decide +kernel
theorem dX5_miscue_34 : decode cX5_miscue 34 = .ok (.getfield 24, 3) := by decide +kernel
theorem dX5_miscue_37 : decode cX5_miscue 37 = .ok (.ireturn, 1) := by decide +kernel
theorem dX5_miscue_38 : decode cX5_miscue 38 = .ok (.aload_n 0, 1) := by decide +kernel
theorem dX5_miscue_39 : decode cX5_miscue 39 = .ok (.getfield 84, 3) := by decide +kernel
theorem dX5_miscue_42 : decode cX5_miscue 42 = .ok (.ireturn, 1) := by decide +kernel
theorem dX5_miscue_43 : decode cX5_miscue 43 = .ok (.bipush (-2), 2) := by decide +kernel
theorem dX5_miscue_45 : decode cX5_miscue 45 = .ok (.ireturn, 1) := by decide +kernel
theorem dX5_points_0 : decode cX5_points 0 = .ok (.aload_n 0, 1) := by decide +kernel
theorem dX5_points_1 : decode cX5_points 1 = .ok (.getfield 87, 3) := by decide +kernel
theorem dX5_points_4 : decode cX5_points 4 = .ok (.lreturn, 1) := by decide +kernel
theorem dX5_is_0 : decode cX5_is 0 = .ok (.aload_n 0, 1) := by decide +kernel
theorem dX5_is_1 : decode cX5_is 1 = .ok (.iload_n 1, 1) := by decide +kernel
theorem dX5_is_2 : decode cX5_is 2 = .ok (.invokevirtual 39, 3) := by decide +kernel
theorem dX5_is_5 : decode cX5_is 5 = .ok (.astore_n 3, 1) := by decide +kernel
theorem dX5_is_6 : decode cX5_is 6 = .ok (.aload_n 3, 1) := by decide +kernel
theorem dX5_is_7 : decode cX5_is 7 = .ok (.ifnull 10, 3) := by decide +kernel
theorem dX5_is_10 : decode cX5_is 10 = .ok (.iload_n 2, 1) := by decide +kernel
theorem dX5_is_11 : decode cX5_is 11 = .ok (.invokestatic 61, 3) := by decide +kernel
theorem dX5_is_14 : decode cX5_is 14 = .ok (.ifCond .ne 6, 3) := by decide +kernel
theorem dX5_is_17 : decode cX5_is 17 = .ok (.bipush (-2), 2) := by decide +kernel
theorem dX5_is_19 : decode cX5_is 19 = .ok (.ireturn, 1) := by decide +kernel
theorem dX5_is_20 : decode cX5_is 20 = .ok (.aload_n 3, 1) := by decide +kernel
theorem dX5_is_21 : decode cX5_is 21 = .ok (.iload_n 2, 1) := by decide +kernel
theorem dX5_is_22 : decode cX5_is 22 = .ok (.invokestatic 91, 3) := by decide +kernel
theorem dX5_is_25 : decode cX5_is 25 = .ok (.ifCond .eq 7, 3) := by decide +kernel
theorem dX5_is_28 : decode cX5_is 28 = .ok (.iconst 1, 1) := by decide +kernel
theorem dX5_is_29 : decode cX5_is 29 = .ok (.goto 4, 3) := by decide +kernel
theorem dX5_is_32 : decode cX5_is 32 = .ok (.iconst 0, 1) := by decide +kernel
theorem dX5_is_33 : decode cX5_is 33 = .ok (.ireturn, 1) := by decide +kernel
theorem dX5_worth_0 : decode cX5_worth 0 = .ok (.aload_n 0, 1) := by decide +kernel
theorem dX5_worth_1 : decode cX5_worth 1 = .ok (.iload_n 1, 1) := by decide +kernel
theorem dX5_worth_2 : decode cX5_worth 2 = .ok (.invokevirtual 39, 3) := by decide +kernel
theorem dX5_worth_5 : decode cX5_worth 5 = .ok (.astore_n 3, 1) := by decide +kernel
theorem dX5_worth_6 : decode cX5_worth 6 = .ok (.aload_n 3, 1) := by decide +kernel
theorem dX5_worth_7 : decode cX5_worth 7 = .ok (.ifnull 18, 3) := by decide +kernel
theorem dX5_worth_10 : decode cX5_worth 10 = .ok (.iload_n 2, 1) := by decide +kernel
theorem dX5_worth_11 : decode cX5_worth 11 = .ok (.invokestatic 61, 3) := by decide +kernel
theorem dX5_worth_14 : decode cX5_worth 14 = .ok (.ifCond .eq 11, 3) := by decide +kernel
theorem dX5_worth_17 : decode cX5_worth 17 = .ok (.aload_n 3, 1) := by decide +kernel
theorem dX5_worth_18 : decode cX5_worth 18 = .ok (.iload_n 2, 1) := by decide +kernel
theorem dX5_worth_19 : decode cX5_worth 19 = .ok (.invokestatic 91, 3) := by decide +kernel
theorem dX5_worth_22 : decode cX5_worth 22 = .ok (.ifCond .ne 5, 3) := by decide +kernel
theorem dX5_worth_25 : decode cX5_worth 25 = .ok (.lconst 0, 1) := by decide +kernel
theorem dX5_worth_26 : decode cX5_worth 26 = .ok (.lreturn, 1) := by decide +kernel
theorem dX5_worth_27 : decode cX5_worth 27 = .ok (.aload_n 3, 1) := by decide +kernel
theorem dX5_worth_28 : decode cX5_worth 28 = .ok (.iload_n 2, 1) := by decide +kernel
theorem dX5_worth_29 : decode cX5_worth 29 = .ok (.invokevirtual 95, 3) := by decide +kernel
theorem dX5_worth_32 : decode cX5_worth 32 = .ok (.lreturn, 1) := by decide +kernel
theorem dX5_wear_0 : decode cX5_wear 0 = .ok (.aload_n 0, 1) := by decide +kernel
theorem dX5_wear_1 : decode cX5_wear 1 = .ok (.iload_n 1, 1) := by decide +kernel
theorem dX5_wear_2 : decode cX5_wear 2 = .ok (.invokevirtual 39, 3) := by decide +kernel
theorem dX5_wear_5 : decode cX5_wear 5 = .ok (.astore_n 2, 1) := by decide +kernel
theorem dX5_wear_6 : decode cX5_wear 6 = .ok (.aload_n 2, 1) := by decide +kernel
theorem dX5_wear_7 : decode cX5_wear 7 = .ok (.ifnonnull 6, 3) := by decide +kernel
theorem dX5_wear_10 : decode cX5_wear 10 = .ok (.bipush (-2), 2) := by decide +kernel
theorem dX5_wear_12 : decode cX5_wear 12 = .ok (.ireturn, 1) := by decide +kernel
theorem dX5_wear_13 : decode cX5_wear 13 = .ok (.aload_n 2, 1) := by decide +kernel
theorem dX5_wear_14 : decode cX5_wear 14 = .ok (.instanceof 99, 3) := by decide +kernel
theorem dX5_wear_17 : decode cX5_wear 17 = .ok (.ifCond .eq 17, 3) := by decide +kernel
theorem dX5_wear_20 : decode cX5_wear 20 = .ok (.aload_n 2, 1) := by decide +kernel
theorem dX5_wear_21 : decode cX5_wear 21 = .ok (.checkcast 99, 3) := by decide +kernel
theorem dX5_wear_24 : decode cX5_wear 24 = .ok (.astore_n 3, 1) := by decide +kernel
theorem dX5_wear_25 : decode cX5_wear 25 = .ok (.aload_n 3, 1) := by decide +kernel
theorem dX5_wear_26 : decode cX5_wear 26 = .ok (.getfield 101, 3) := by decide +kernel
theorem dX5_wear_29 : decode cX5_wear 29 = .ok (.bipush 7, 2) := by decide +kernel
theorem dX5_wear_31 : decode cX5_wear 31 = .ok (.if_icmp .ne 6, 3) := by decide +kernel
theorem dX5_wear_34 : decode cX5_wear 34 = .ok (.bipush (-5), 2) := by decide +kernel
theorem dX5_wear_36 : decode cX5_wear 36 = .ok (.ireturn, 1) := by decide +kernel
theorem dX5_wear_37 : decode cX5_wear 37 = .ok (.aload_n 3, 1) := by decide +kernel
theorem dX5_wear_38 : decode cX5_wear 38 = .ok (.getfield 104, 3) := by decide +kernel
theorem dX5_wear_41 : decode cX5_wear 41 = .ok (.ireturn, 1) := by decide +kernel
theorem dX5_at_0 : decode cX5_at 0 = .ok (.aload_n 0, 1) := by decide +kernel
theorem dX5_at_1 : decode cX5_at 1 = .ok (.iload_n 1, 1) := by decide +kernel
theorem dX5_at_2 : decode cX5_at 2 = .ok (.invokevirtual 39, 3) := by decide +kernel
theorem dX5_at_5 : decode cX5_at 5 = .ok (.astore_n 3, 1) := by decide +kernel
theorem dX5_at_6 : decode cX5_at 6 = .ok (.aload_n 3, 1) := by decide +kernel
theorem dX5_at_7 : decode cX5_at 7 = .ok (.ifnonnull 6, 3) := by decide +kernel
theorem dX5_at_10 : decode cX5_at 10 = .ok (.bipush (-2), 2) := by decide +kernel
theorem dX5_at_12 : decode cX5_at 12 = .ok (.ireturn, 1) := by decide +kernel
theorem dX5_at_13 : decode cX5_at 13 = .ok (.aload_n 3, 1) := by decide +kernel
theorem dX5_at_14 : decode cX5_at 14 = .ok (.instanceof 107, 3) := by decide +kernel
theorem dX5_at_17 : decode cX5_at 17 = .ok (.ifCond .eq 12, 3) := by decide +kernel
theorem dX5_at_20 : decode cX5_at 20 = .ok (.aload_n 3, 1) := by decide +kernel
theorem dX5_at_21 : decode cX5_at 21 = .ok (.checkcast 107, 3) := by decide +kernel
theorem dX5_at_24 : decode cX5_at 24 = .ok (.astore 4, 2) := by decide +kernel
theorem dX5_at_26 : decode cX5_at 26 = .ok (.goto 6, 3) := by decide +kernel
theorem dX5_at_29 : decode cX5_at 29 = .ok (.bipush (-5), 2) := by decide +kernel
theorem dX5_at_31 : decode cX5_at 31 = .ok (.ireturn, 1) := by decide +kernel
theorem dX5_at_32 : decode cX5_at 32 = .ok (.aload 4, 2) := by decide +kernel
theorem dX5_at_34 : decode cX5_at 34 = .ok (.iload_n 2, 1) := by decide +kernel
theorem dX5_at_35 : decode cX5_at 35 = .ok (.invokevirtual 109, 3) := by decide +kernel
theorem dX5_at_38 : decode cX5_at 38 = .ok (.ifCond .eq 16, 3) := by decide +kernel
theorem dX5_at_41 : decode cX5_at 41 = .ok (.aload 4, 2) := by decide +kernel
theorem dX5_at_43 : decode cX5_at 43 = .ok (.getfield 112, 3) := by decide +kernel
theorem dX5_at_46 : decode cX5_at 46 = .ok (.iload_n 2, 1) := by decide +kernel
theorem dX5_at_47 : decode cX5_at 47 = .ok (.aaload, 1) := by decide +kernel
theorem dX5_at_48 : decode cX5_at 48 = .ok (.invokestatic 53, 3) := by decide +kernel
theorem dX5_at_51 : decode cX5_at 51 = .ok (.goto 5, 3) := by decide +kernel
theorem dX5_at_54 : decode cX5_at 54 = .ok (.bipush (-6), 2) := by decide +kernel
theorem dX5_at_56 : decode cX5_at 56 = .ok (.ireturn, 1) := by decide +kernel
theorem dX5_count_0 : decode cX5_count 0 = .ok (.iload_n 1, 1) := by decide +kernel
theorem dX5_count_1 : decode cX5_count 1 = .ok (.lookupswitch 37 #[(0, 27), (1, 32)], 27) := by decide +kernel
theorem dX5_count_28 : decode cX5_count 28 = .ok (.aload_n 0, 1) := by decide +kernel
theorem dX5_count_29 : decode cX5_count 29 = .ok (.getfield 32, 3) := by decide +kernel
theorem dX5_count_32 : decode cX5_count 32 = .ok (.ireturn, 1) := by decide +kernel
theorem dX5_count_33 : decode cX5_count 33 = .ok (.aload_n 0, 1) := by decide +kernel
theorem dX5_count_34 : decode cX5_count 34 = .ok (.getfield 71, 3) := by decide +kernel
theorem dX5_count_37 : decode cX5_count 37 = .ok (.ireturn, 1) := by decide +kernel
theorem dX5_count_38 : decode cX5_count 38 = .ok (.bipush (-2), 2) := by decide +kernel
theorem dX5_count_40 : decode cX5_count 40 = .ok (.ireturn, 1) := by decide +kernel
theorem dX5_perform_0 : decode cX5_perform 0 = .ok (.aload_n 0, 1) := by decide +kernel
theorem dX5_perform_1 : decode cX5_perform 1 = .ok (.getfield 15, 3) := by decide +kernel
theorem dX5_perform_4 : decode cX5_perform 4 = .ok (.aload_n 1, 1) := by decide +kernel
theorem dX5_perform_5 : decode cX5_perform 5 = .ok (.getfield 115, 3) := by decide +kernel
theorem dX5_perform_8 : decode cX5_perform 8 = .ok (.aaload, 1) := by decide +kernel
theorem dX5_perform_9 : decode cX5_perform 9 = .ok (.astore_n 2, 1) := by decide +kernel
theorem dX5_perform_10 : decode cX5_perform 10 = .ok (.aload_n 2, 1) := by decide +kernel
theorem dX5_perform_11 : decode cX5_perform 11 = .ok (.aload_n 1, 1) := by decide +kernel
theorem dX5_perform_12 : decode cX5_perform 12 = .ok (.getfield 118, 3) := by decide +kernel
theorem dX5_perform_15 : decode cX5_perform 15 = .ok (.invokestatic 91, 3) := by decide +kernel
theorem dX5_perform_18 : decode cX5_perform 18 = .ok (.ifCond .ne 6, 3) := by decide +kernel
theorem dX5_perform_21 : decode cX5_perform 21 = .ok (.bipush (-5), 2) := by decide +kernel
theorem dX5_perform_23 : decode cX5_perform 23 = .ok (.ireturn, 1) := by decide +kernel
theorem dX5_perform_24 : decode cX5_perform 24 = .ok (.aload_n 1, 1) := by decide +kernel
theorem dX5_perform_25 : decode cX5_perform 25 = .ok (.getfield 121, 3) := by decide +kernel
theorem dX5_perform_28 : decode cX5_perform 28 = .ok (.tableswitch 99 0 4 #[36, 46, 55, 65, 79], 36) := by decide +kernel
theorem dX5_perform_64 : decode cX5_perform 64 = .ok (.aload_n 0, 1) := by decide +kernel
theorem dX5_perform_65 : decode cX5_perform 65 = .ok (.aload_n 2, 1) := by decide +kernel
theorem dX5_perform_66 : decode cX5_perform 66 = .ok (.aload_n 1, 1) := by decide +kernel
theorem dX5_perform_67 : decode cX5_perform 67 = .ok (.getfield 118, 3) := by decide +kernel
theorem dX5_perform_70 : decode cX5_perform 70 = .ok (.invokevirtual 124, 3) := by decide +kernel
theorem dX5_perform_73 : decode cX5_perform 73 = .ok (.ireturn, 1) := by decide +kernel
theorem dX5_perform_74 : decode cX5_perform 74 = .ok (.aload_n 2, 1) := by decide +kernel
theorem dX5_perform_75 : decode cX5_perform 75 = .ok (.aload_n 1, 1) := by decide +kernel
theorem dX5_perform_76 : decode cX5_perform 76 = .ok (.getfield 118, 3) := by decide +kernel
theorem dX5_perform_79 : decode cX5_perform 79 = .ok (.invokestatic 128, 3) := by decide +kernel
theorem dX5_perform_82 : decode cX5_perform 82 = .ok (.ireturn, 1) := by decide +kernel
theorem dX5_perform_83 : decode cX5_perform 83 = .ok (.aload_n 0, 1) := by decide +kernel
theorem dX5_perform_84 : decode cX5_perform 84 = .ok (.aload_n 2, 1) := by decide +kernel
theorem dX5_perform_85 : decode cX5_perform 85 = .ok (.aload_n 1, 1) := by decide +kernel
theorem dX5_perform_86 : decode cX5_perform 86 = .ok (.getfield 131, 3) := by decide +kernel
theorem dX5_perform_89 : decode cX5_perform 89 = .ok (.invokevirtual 134, 3) := by decide +kernel
theorem dX5_perform_92 : decode cX5_perform 92 = .ok (.ireturn, 1) := by decide +kernel
theorem dX5_perform_93 : decode cX5_perform 93 = .ok (.aload_n 0, 1) := by decide +kernel
theorem dX5_perform_94 : decode cX5_perform 94 = .ok (.aload_n 2, 1) := by decide +kernel
theorem dX5_perform_95 : decode cX5_perform 95 = .ok (.aload_n 1, 1) := by decide +kernel
theorem dX5_perform_96 : decode cX5_perform 96 = .ok (.getfield 118, 3) := by decide +kernel
theorem dX5_perform_99 : decode cX5_perform 99 = .ok (.aload_n 1, 1) := by decide +kernel
theorem dX5_perform_100 : decode cX5_perform 100 = .ok (.getfield 131, 3) := by decide +kernel
theorem dX5_perform_103 : decode cX5_perform 103 = .ok (.invokevirtual 137, 3) := by decide +kernel
theorem dX5_perform_106 : decode cX5_perform 106 = .ok (.ireturn, 1) := by decide +kernel
theorem dX5_perform_107 : decode cX5_perform 107 = .ok (.aload_n 0, 1) := by decide +kernel
theorem dX5_perform_108 : decode cX5_perform 108 = .ok (.getfield 15, 3) := by decide +kernel
theorem dX5_perform_111 : decode cX5_perform 111 = .ok (.aload_n 1, 1) := by decide +kernel
theorem dX5_perform_112 : decode cX5_perform 112 = .ok (.getfield 115, 3) := by decide +kernel
theorem dX5_perform_115 : decode cX5_perform 115 = .ok (.aload_n 0, 1) := by decide +kernel
theorem dX5_perform_116 : decode cX5_perform 116 = .ok (.getfield 57, 3) := by decide +kernel
theorem dX5_perform_119 : decode cX5_perform 119 = .ok (.aastore, 1) := by decide +kernel
theorem dX5_perform_120 : decode cX5_perform 120 = .ok (.aload_n 0, 1) := by decide +kernel
theorem dX5_perform_121 : decode cX5_perform 121 = .ok (.aload_n 2, 1) := by decide +kernel
theorem dX5_perform_122 : decode cX5_perform 122 = .ok (.putfield 57, 3) := by decide +kernel
theorem dX5_perform_125 : decode cX5_perform 125 = .ok (.iconst 0, 1) := by decide +kernel
theorem dX5_perform_126 : decode cX5_perform 126 = .ok (.ireturn, 1) := by decide +kernel
theorem dX5_perform_127 : decode cX5_perform 127 = .ok (.aload_n 0, 1) := by decide +kernel
theorem dX5_perform_128 : decode cX5_perform 128 = .ok (.getfield 15, 3) := by decide +kernel
theorem dX5_perform_131 : decode cX5_perform 131 = .ok (.aload_n 1, 1) := by decide +kernel
theorem dX5_perform_132 : decode cX5_perform 132 = .ok (.getfield 131, 3) := by decide +kernel
theorem dX5_perform_135 : decode cX5_perform 135 = .ok (.aload_n 2, 1) := by decide +kernel
theorem dX5_perform_136 : decode cX5_perform 136 = .ok (.aastore, 1) := by decide +kernel
theorem dX5_perform_137 : decode cX5_perform 137 = .ok (.iconst 0, 1) := by decide +kernel
theorem dX5_perform_138 : decode cX5_perform 138 = .ok (.ireturn, 1) := by decide +kernel
theorem dX5_showProp_0 : decode cX5_showProp 0 = .ok (.aload_n 1, 1) := by decide +kernel
theorem dX5_showProp_1 : decode cX5_showProp 1 = .ok (.ifnonnull 6, 3) := by decide +kernel
theorem dX5_showProp_4 : decode cX5_showProp 4 = .ok (.bipush (-4), 2) := by decide +kernel
theorem dX5_showProp_6 : decode cX5_showProp 6 = .ok (.ireturn, 1) := by decide +kernel
theorem dX5_showProp_7 : decode cX5_showProp 7 = .ok (.aload_n 0, 1) := by decide +kernel
theorem dX5_showProp_8 : decode cX5_showProp 8 = .ok (.dup, 1) := by decide +kernel
theorem dX5_showProp_9 : decode cX5_showProp 9 = .ok (.getfield 87, 3) := by decide +kernel
theorem dX5_showProp_12 : decode cX5_showProp 12 = .ok (.aload_n 1, 1) := by decide +kernel
theorem dX5_showProp_13 : decode cX5_showProp 13 = .ok (.iload_n 2, 1) := by decide +kernel
theorem dX5_showProp_14 : decode cX5_showProp 14 = .ok (.invokevirtual 95, 3) := by decide +kernel
theorem dX5_showProp_17 : decode cX5_showProp 17 = .ok (.ladd, 1) := by decide +kernel
theorem dX5_showProp_18 : decode cX5_showProp 18 = .ok (.putfield 87, 3) := by decide +kernel
theorem dX5_showProp_21 : decode cX5_showProp 21 = .ok (.iconst 0, 1) := by decide +kernel
theorem dX5_showProp_22 : decode cX5_showProp 22 = .ok (.ireturn, 1) := by decide +kernel
theorem dX5_wearProp_0 : decode cX5_wearProp 0 = .ok (.aload_n 0, 1) := by decide +kernel
theorem dX5_wearProp_1 : decode cX5_wearProp 1 = .ok (.ifnonnull 6, 3) := by decide +kernel
theorem dX5_wearProp_4 : decode cX5_wearProp 4 = .ok (.bipush (-4), 2) := by decide +kernel
theorem dX5_wearProp_6 : decode cX5_wearProp 6 = .ok (.ireturn, 1) := by decide +kernel
theorem dX5_wearProp_7 : decode cX5_wearProp 7 = .ok (.aload_n 0, 1) := by decide +kernel
theorem dX5_wearProp_8 : decode cX5_wearProp 8 = .ok (.iload_n 1, 1) := by decide +kernel
theorem dX5_wearProp_9 : decode cX5_wearProp 9 = .ok (.invokevirtual 141, 3) := by decide +kernel
theorem dX5_wearProp_12 : decode cX5_wearProp 12 = .ok (.iconst 0, 1) := by decide +kernel
theorem dX5_wearProp_13 : decode cX5_wearProp 13 = .ok (.ireturn, 1) := by decide +kernel
theorem dX5_takePart_0 : decode cX5_takePart 0 = .ok (.aload_n 1, 1) := by decide +kernel
theorem dX5_takePart_1 : decode cX5_takePart 1 = .ok (.instanceof 107, 3) := by decide +kernel
theorem dX5_takePart_4 : decode cX5_takePart 4 = .ok (.ifCond .eq 11, 3) := by decide +kernel
theorem dX5_takePart_7 : decode cX5_takePart 7 = .ok (.aload_n 1, 1) := by decide +kernel
theorem dX5_takePart_8 : decode cX5_takePart 8 = .ok (.checkcast 107, 3) := by decide +kernel
theorem dX5_takePart_11 : decode cX5_takePart 11 = .ok (.astore_n 3, 1) := by decide +kernel
theorem dX5_takePart_12 : decode cX5_takePart 12 = .ok (.goto 6, 3) := by decide +kernel
theorem dX5_takePart_15 : decode cX5_takePart 15 = .ok (.bipush (-4), 2) := by decide +kernel
theorem dX5_takePart_17 : decode cX5_takePart 17 = .ok (.ireturn, 1) := by decide +kernel
theorem dX5_takePart_18 : decode cX5_takePart 18 = .ok (.aload_n 3, 1) := by decide +kernel
theorem dX5_takePart_19 : decode cX5_takePart 19 = .ok (.iload_n 2, 1) := by decide +kernel
theorem dX5_takePart_20 : decode cX5_takePart 20 = .ok (.invokevirtual 109, 3) := by decide +kernel
theorem dX5_takePart_23 : decode cX5_takePart 23 = .ok (.ifCond .ne 6, 3) := by decide +kernel
theorem dX5_takePart_26 : decode cX5_takePart 26 = .ok (.bipush (-6), 2) := by decide +kernel
theorem dX5_takePart_28 : decode cX5_takePart 28 = .ok (.ireturn, 1) := by decide +kernel
theorem dX5_takePart_29 : decode cX5_takePart 29 = .ok (.aload_n 0, 1) := by decide +kernel
theorem dX5_takePart_30 : decode cX5_takePart 30 = .ok (.aload_n 3, 1) := by decide +kernel
theorem dX5_takePart_31 : decode cX5_takePart 31 = .ok (.getfield 112, 3) := by decide +kernel
theorem dX5_takePart_34 : decode cX5_takePart 34 = .ok (.iload_n 2, 1) := by decide +kernel
theorem dX5_takePart_35 : decode cX5_takePart 35 = .ok (.aaload, 1) := by decide +kernel
theorem dX5_takePart_36 : decode cX5_takePart 36 = .ok (.putfield 57, 3) := by decide +kernel
theorem dX5_takePart_39 : decode cX5_takePart 39 = .ok (.aload_n 3, 1) := by decide +kernel
theorem dX5_takePart_40 : decode cX5_takePart 40 = .ok (.getfield 112, 3) := by decide +kernel
theorem dX5_takePart_43 : decode cX5_takePart 43 = .ok (.iload_n 2, 1) := by decide +kernel
theorem dX5_takePart_44 : decode cX5_takePart 44 = .ok (.aconst_null, 1) := by decide +kernel
theorem dX5_takePart_45 : decode cX5_takePart 45 = .ok (.aastore, 1) := by decide +kernel
theorem dX5_takePart_46 : decode cX5_takePart 46 = .ok (.iconst 0, 1) := by decide +kernel
theorem dX5_takePart_47 : decode cX5_takePart 47 = .ok (.ireturn, 1) := by decide +kernel
theorem dX5_layPart_0 : decode cX5_layPart 0 = .ok (.aload_n 0, 1) := by decide +kernel
theorem dX5_layPart_1 : decode cX5_layPart 1 = .ok (.getfield 57, 3) := by decide +kernel
theorem dX5_layPart_4 : decode cX5_layPart 4 = .ok (.iload_n 2, 1) := by decide +kernel
theorem dX5_layPart_5 : decode cX5_layPart 5 = .ok (.invokestatic 145, 3) := by decide +kernel
theorem dX5_layPart_8 : decode cX5_layPart 8 = .ok (.invokestatic 91, 3) := by decide +kernel
theorem dX5_layPart_11 : decode cX5_layPart 11 = .ok (.ifCond .ne 6, 3) := by decide +kernel
theorem dX5_layPart_14 : decode cX5_layPart 14 = .ok (.bipush (-5), 2) := by decide +kernel
theorem dX5_layPart_16 : decode cX5_layPart 16 = .ok (.ireturn, 1) := by decide +kernel
theorem dX5_layPart_17 : decode cX5_layPart 17 = .ok (.aload_n 1, 1) := by decide +kernel
theorem dX5_layPart_18 : decode cX5_layPart 18 = .ok (.instanceof 107, 3) := by decide +kernel
theorem dX5_layPart_21 : decode cX5_layPart 21 = .ok (.ifCond .eq 12, 3) := by decide +kernel
theorem dX5_layPart_24 : decode cX5_layPart 24 = .ok (.aload_n 1, 1) := by decide +kernel
theorem dX5_layPart_25 : decode cX5_layPart 25 = .ok (.checkcast 107, 3) := by decide +kernel
theorem dX5_layPart_28 : decode cX5_layPart 28 = .ok (.astore 4, 2) := by decide +kernel
theorem dX5_layPart_30 : decode cX5_layPart 30 = .ok (.goto 6, 3) := by decide +kernel
theorem dX5_layPart_33 : decode cX5_layPart 33 = .ok (.bipush (-4), 2) := by decide +kernel
theorem dX5_layPart_35 : decode cX5_layPart 35 = .ok (.ireturn, 1) := by decide +kernel
theorem dX5_layPart_36 : decode cX5_layPart 36 = .ok (.aload 4, 2) := by decide +kernel
theorem dX5_layPart_38 : decode cX5_layPart 38 = .ok (.iload_n 3, 1) := by decide +kernel
theorem dX5_layPart_39 : decode cX5_layPart 39 = .ok (.invokevirtual 109, 3) := by decide +kernel
theorem dX5_layPart_42 : decode cX5_layPart 42 = .ok (.ifCond .ne 6, 3) := by decide +kernel
theorem dX5_layPart_45 : decode cX5_layPart 45 = .ok (.bipush (-6), 2) := by decide +kernel
theorem dX5_layPart_47 : decode cX5_layPart 47 = .ok (.ireturn, 1) := by decide +kernel
theorem dX5_layPart_48 : decode cX5_layPart 48 = .ok (.aload_n 0, 1) := by decide +kernel
theorem dX5_layPart_49 : decode cX5_layPart 49 = .ok (.getfield 57, 3) := by decide +kernel
theorem dX5_layPart_52 : decode cX5_layPart 52 = .ok (.aload 4, 2) := by decide +kernel
theorem dX5_layPart_54 : decode cX5_layPart 54 = .ok (.getfield 148, 3) := by decide +kernel
theorem dX5_layPart_57 : decode cX5_layPart 57 = .ok (.invokestatic 145, 3) := by decide +kernel
theorem dX5_layPart_60 : decode cX5_layPart 60 = .ok (.invokestatic 91, 3) := by decide +kernel
theorem dX5_layPart_63 : decode cX5_layPart 63 = .ok (.ifCond .ne 6, 3) := by decide +kernel
theorem dX5_layPart_66 : decode cX5_layPart 66 = .ok (.bipush (-7), 2) := by decide +kernel
theorem dX5_layPart_68 : decode cX5_layPart 68 = .ok (.ireturn, 1) := by decide +kernel
theorem dX5_layPart_69 : decode cX5_layPart 69 = .ok (.aload 4, 2) := by decide +kernel
theorem dX5_layPart_71 : decode cX5_layPart 71 = .ok (.getfield 112, 3) := by decide +kernel
theorem dX5_layPart_74 : decode cX5_layPart 74 = .ok (.iload_n 3, 1) := by decide +kernel
theorem dX5_layPart_75 : decode cX5_layPart 75 = .ok (.aload_n 0, 1) := by decide +kernel
theorem dX5_layPart_76 : decode cX5_layPart 76 = .ok (.getfield 57, 3) := by decide +kernel
theorem dX5_layPart_79 : decode cX5_layPart 79 = .ok (.aastore, 1) := by decide +kernel
theorem dX5_layPart_80 : decode cX5_layPart 80 = .ok (.aload_n 0, 1) := by decide +kernel
theorem dX5_layPart_81 : decode cX5_layPart 81 = .ok (.aconst_null, 1) := by decide +kernel
theorem dX5_layPart_82 : decode cX5_layPart 82 = .ok (.putfield 57, 3) := by decide +kernel
theorem dX5_layPart_85 : decode cX5_layPart 85 = .ok (.iconst 0, 1) := by decide +kernel
theorem dX5_layPart_86 : decode cX5_layPart 86 = .ok (.ireturn, 1) := by decide +kernel
theorem dX5_find_0 : decode cX5_find 0 = .ok (.iload_n 1, 1) := by decide +kernel
theorem dX5_find_1 : decode cX5_find 1 = .ok (.ifCond .lt 20, 3) := by decide +kernel
theorem dX5_find_4 : decode cX5_find 4 = .ok (.iload_n 1, 1) := by decide +kernel
theorem dX5_find_5 : decode cX5_find 5 = .ok (.aload_n 0, 1) := by decide +kernel
theorem dX5_find_6 : decode cX5_find 6 = .ok (.getfield 32, 3) := by decide +kernel
theorem dX5_find_9 : decode cX5_find 9 = .ok (.if_icmp .ge 12, 3) := by decide +kernel
theorem dX5_find_12 : decode cX5_find 12 = .ok (.aload_n 0, 1) := by decide +kernel
theorem dX5_find_13 : decode cX5_find 13 = .ok (.getfield 11, 3) := by decide +kernel
theorem dX5_find_16 : decode cX5_find 16 = .ok (.iload_n 1, 1) := by decide +kernel
theorem dX5_find_17 : decode cX5_find 17 = .ok (.aaload, 1) := by decide +kernel
theorem dX5_find_18 : decode cX5_find 18 = .ok (.goto 4, 3) := by decide +kernel
theorem dX5_find_21 : decode cX5_find 21 = .ok (.aconst_null, 1) := by decide +kernel
theorem dX5_find_22 : decode cX5_find 22 = .ok (.areturn, 1) := by decide +kernel
theorem dX5_mostOf_0 : decode cX5_mostOf 0 = .ok (.iload_n 0, 1) := by decide +kernel
theorem dX5_mostOf_1 : decode cX5_mostOf 1 = .ok (.invokestatic 149, 3) := by decide +kernel
theorem dX5_mostOf_4 : decode cX5_mostOf 4 = .ok (.ifCond .eq 8, 3) := by decide +kernel
theorem dX5_mostOf_7 : decode cX5_mostOf 7 = .ok (.bipush 100, 2) := by decide +kernel
theorem dX5_mostOf_9 : decode cX5_mostOf 9 = .ok (.goto 4, 3) := by decide +kernel
theorem dX5_mostOf_12 : decode cX5_mostOf 12 = .ok (.iconst 5, 1) := by decide +kernel
theorem dX5_mostOf_13 : decode cX5_mostOf 13 = .ok (.ireturn, 1) := by decide +kernel
theorem dX5_newProp_0 : decode cX5_newProp 0 = .ok (.iload_n 1, 1) := by decide +kernel
theorem dX5_newProp_1 : decode cX5_newProp 1 = .ok (.invokestatic 149, 3) := by decide +kernel
theorem dX5_newProp_4 : decode cX5_newProp 4 = .ok (.ifCond .eq 14, 3) := by decide +kernel
theorem dX5_newProp_7 : decode cX5_newProp 7 = .ok (.new 99, 3) := by decide +kernel
theorem dX5_newProp_10 : decode cX5_newProp 10 = .ok (.dup, 1) := by decide +kernel
theorem dX5_newProp_11 : decode cX5_newProp 11 = .ok (.iload_n 0, 1) := by decide +kernel
theorem dX5_newProp_12 : decode cX5_newProp 12 = .ok (.iload_n 1, 1) := by decide +kernel
theorem dX5_newProp_13 : decode cX5_newProp 13 = .ok (.iload_n 2, 1) := by decide +kernel
theorem dX5_newProp_14 : decode cX5_newProp 14 = .ok (.invokespecial 152, 3) := by decide +kernel
theorem dX5_newProp_17 : decode cX5_newProp 17 = .ok (.areturn, 1) := by decide +kernel
theorem dX5_newProp_18 : decode cX5_newProp 18 = .ok (.iload_n 1, 1) := by decide +kernel
theorem dX5_newProp_19 : decode cX5_newProp 19 = .ok (.invokestatic 155, 3) := by decide +kernel
theorem dX5_newProp_22 : decode cX5_newProp 22 = .ok (.ifCond .eq 14, 3) := by decide +kernel
theorem dX5_newProp_25 : decode cX5_newProp 25 = .ok (.new 107, 3) := by decide +kernel
theorem dX5_newProp_28 : decode cX5_newProp 28 = .ok (.dup, 1) := by decide +kernel
theorem dX5_newProp_29 : decode cX5_newProp 29 = .ok (.iload_n 0, 1) := by decide +kernel
theorem dX5_newProp_30 : decode cX5_newProp 30 = .ok (.iload_n 1, 1) := by decide +kernel
theorem dX5_newProp_31 : decode cX5_newProp 31 = .ok (.iload_n 2, 1) := by decide +kernel
theorem dX5_newProp_32 : decode cX5_newProp 32 = .ok (.invokespecial 158, 3) := by decide +kernel
theorem dX5_newProp_35 : decode cX5_newProp 35 = .ok (.areturn, 1) := by decide +kernel
theorem dX5_newProp_36 : decode cX5_newProp 36 = .ok (.new 43, 3) := by decide +kernel
theorem dX5_newProp_39 : decode cX5_newProp 39 = .ok (.dup, 1) := by decide +kernel
theorem dX5_newProp_40 : decode cX5_newProp 40 = .ok (.iload_n 0, 1) := by decide +kernel
theorem dX5_newProp_41 : decode cX5_newProp 41 = .ok (.iload_n 1, 1) := by decide +kernel
theorem dX5_newProp_42 : decode cX5_newProp 42 = .ok (.iload_n 1, 1) := by decide +kernel
theorem dX5_newProp_43 : decode cX5_newProp 43 = .ok (.iconst 3, 1) := by decide +kernel
theorem dX5_newProp_44 : decode cX5_newProp 44 = .ok (.if_icmp .ne 9, 3) := by decide +kernel
theorem dX5_newProp_47 : decode cX5_newProp 47 = .ok (.iload_n 2, 1) := by decide +kernel
theorem dX5_newProp_48 : decode cX5_newProp 48 = .ok (.iconst 3, 1) := by decide +kernel
theorem dX5_newProp_49 : decode cX5_newProp 49 = .ok (.imul, 1) := by decide +kernel
theorem dX5_newProp_50 : decode cX5_newProp 50 = .ok (.goto 4, 3) := by decide +kernel
theorem dX5_newProp_53 : decode cX5_newProp 53 = .ok (.iload_n 2, 1) := by decide +kernel
theorem dX5_newProp_54 : decode cX5_newProp 54 = .ok (.invokespecial 159, 3) := by decide +kernel
theorem dX5_newProp_57 : decode cX5_newProp 57 = .ok (.areturn, 1) := by decide +kernel
theorem dX5_numberOf_0 : decode cX5_numberOf 0 = .ok (.aload_n 0, 1) := by decide +kernel
theorem dX5_numberOf_1 : decode cX5_numberOf 1 = .ok (.ifnonnull 7, 3) := by decide +kernel
theorem dX5_numberOf_4 : decode cX5_numberOf 4 = .ok (.iconst (-1), 1) := by decide +kernel
theorem dX5_numberOf_5 : decode cX5_numberOf 5 = .ok (.goto 7, 3) := by decide +kernel
theorem dX5_numberOf_8 : decode cX5_numberOf 8 = .ok (.aload_n 0, 1) := by decide +kernel
theorem dX5_numberOf_9 : decode cX5_numberOf 9 = .ok (.getfield 160, 3) := by decide +kernel
theorem dX5_numberOf_12 : decode cX5_numberOf 12 = .ok (.ireturn, 1) := by decide +kernel
theorem dX5_goesAs_0 : decode cX5_goesAs 0 = .ok (.aload_n 0, 1) := by decide +kernel
