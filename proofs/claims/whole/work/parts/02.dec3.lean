theorem dX6_set_73 : decode cX6_set 73 = .ok (.iload_n 1, 1) := by decide +kernel
theorem dX6_set_74 : decode cX6_set 74 = .ok (.iaload, 1) := by decide +kernel
theorem dX6_set_75 : decode cX6_set 75 = .ok (.iconst 1, 1) := by decide +kernel
theorem dX6_set_76 : decode cX6_set 76 = .ok (.if_icmp .ne 9, 3) := by decide +kernel
theorem dX6_set_79 : decode cX6_set 79 = .ok (.iload_n 3, 1) := by decide +kernel
theorem dX6_set_80 : decode cX6_set 80 = .ok (.i2s, 1) := by decide +kernel
theorem dX6_set_81 : decode cX6_set 81 = .ok (.i2l, 1) := by decide +kernel
theorem dX6_set_82 : decode cX6_set 82 = .ok (.goto 21, 3) := by decide +kernel
theorem dX6_set_85 : decode cX6_set 85 = .ok (.aload_n 0, 1) := by decide +kernel
theorem dX6_set_86 : decode cX6_set 86 = .ok (.getfield 7, 3) := by decide +kernel
theorem dX6_set_89 : decode cX6_set 89 = .ok (.iload_n 1, 1) := by decide +kernel
theorem dX6_set_90 : decode cX6_set 90 = .ok (.iaload, 1) := by decide +kernel
theorem dX6_set_91 : decode cX6_set 91 = .ok (.iconst 2, 1) := by decide +kernel
theorem dX6_set_92 : decode cX6_set 92 = .ok (.if_icmp .ne 8, 3) := by decide +kernel
theorem dX6_set_95 : decode cX6_set 95 = .ok (.iload_n 3, 1) := by decide +kernel
theorem dX6_set_96 : decode cX6_set 96 = .ok (.i2l, 1) := by decide +kernel
theorem dX6_set_97 : decode cX6_set 97 = .ok (.goto 6, 3) := by decide +kernel
theorem dX6_set_100 : decode cX6_set 100 = .ok (.iload_n 3, 1) := by decide +kernel
theorem dX6_set_101 : decode cX6_set 101 = .ok (.i2b, 1) := by decide +kernel
theorem dX6_set_102 : decode cX6_set 102 = .ok (.i2l, 1) := by decide +kernel
theorem dX6_set_103 : decode cX6_set 103 = .ok (.lastore, 1) := by decide +kernel
theorem dX6_set_104 : decode cX6_set 104 = .ok (.iconst 1, 1) := by decide +kernel
theorem dX6_set_105 : decode cX6_set 105 = .ok (.ireturn, 1) := by decide +kernel
theorem dX6_slot_0 : decode cX6_slot 0 = .ok (.iload_n 1, 1) := by decide +kernel
theorem dX6_slot_1 : decode cX6_slot 1 = .ok (.invokestatic 71, 3) := by decide +kernel
theorem dX6_slot_4 : decode cX6_slot 4 = .ok (.ifCond .eq 16, 3) := by decide +kernel
theorem dX6_slot_7 : decode cX6_slot 7 = .ok (.iload_n 2, 1) := by decide +kernel
theorem dX6_slot_8 : decode cX6_slot 8 = .ok (.iconst (-1), 1) := by decide +kernel
theorem dX6_slot_9 : decode cX6_slot 9 = .ok (.if_icmp .eq 14, 3) := by decide +kernel
theorem dX6_slot_12 : decode cX6_slot 12 = .ok (.aload_n 0, 1) := by decide +kernel
theorem dX6_slot_13 : decode cX6_slot 13 = .ok (.iload_n 2, 1) := by decide +kernel
theorem dX6_slot_14 : decode cX6_slot 14 = .ok (.invokevirtual 63, 3) := by decide +kernel
theorem dX6_slot_17 : decode cX6_slot 17 = .ok (.ifCond .ne 6, 3) := by decide +kernel
theorem dX6_slot_20 : decode cX6_slot 20 = .ok (.bipush (-2), 2) := by decide +kernel
theorem dX6_slot_22 : decode cX6_slot 22 = .ok (.ireturn, 1) := by decide +kernel
theorem dX6_slot_23 : decode cX6_slot 23 = .ok (.aload_n 0, 1) := by decide +kernel
theorem dX6_slot_24 : decode cX6_slot 24 = .ok (.getfield 26, 3) := by decide +kernel
theorem dX6_slot_27 : decode cX6_slot 27 = .ok (.iload_n 1, 1) := by decide +kernel
theorem dX6_slot_28 : decode cX6_slot 28 = .ok (.iaload, 1) := by decide +kernel
theorem dX6_slot_29 : decode cX6_slot 29 = .ok (.istore_n 3, 1) := by decide +kernel
theorem dX6_slot_30 : decode cX6_slot 30 = .ok (.aload_n 0, 1) := by decide +kernel
theorem dX6_slot_31 : decode cX6_slot 31 = .ok (.getfield 26, 3) := by decide +kernel
theorem dX6_slot_34 : decode cX6_slot 34 = .ok (.iload_n 1, 1) := by decide +kernel
theorem dX6_slot_35 : decode cX6_slot 35 = .ok (.iload_n 2, 1) := by decide +kernel
theorem dX6_slot_36 : decode cX6_slot 36 = .ok (.iastore, 1) := by decide +kernel
theorem dX6_slot_37 : decode cX6_slot 37 = .ok (.iload_n 3, 1) := by decide +kernel
theorem dX6_slot_38 : decode cX6_slot 38 = .ok (.ireturn, 1) := by decide +kernel
theorem dX6_held_0 : decode cX6_held 0 = .ok (.iload_n 1, 1) := by decide +kernel
theorem dX6_held_1 : decode cX6_held 1 = .ok (.invokestatic 71, 3) := by decide +kernel
theorem dX6_held_4 : decode cX6_held 4 = .ok (.ifCond .eq 12, 3) := by decide +kernel
theorem dX6_held_7 : decode cX6_held 7 = .ok (.aload_n 0, 1) := by decide +kernel
theorem dX6_held_8 : decode cX6_held 8 = .ok (.getfield 26, 3) := by decide +kernel
theorem dX6_held_11 : decode cX6_held 11 = .ok (.iload_n 1, 1) := by decide +kernel
theorem dX6_held_12 : decode cX6_held 12 = .ok (.iaload, 1) := by decide +kernel
theorem dX6_held_13 : decode cX6_held 13 = .ok (.goto 5, 3) := by decide +kernel
theorem dX6_held_16 : decode cX6_held 16 = .ok (.bipush (-2), 2) := by decide +kernel
theorem dX6_held_18 : decode cX6_held 18 = .ok (.ireturn, 1) := by decide +kernel
theorem dX6_hand_0 : decode cX6_hand 0 = .ok (.aload_n 0, 1) := by decide +kernel
theorem dX6_hand_1 : decode cX6_hand 1 = .ok (.getfield 29, 3) := by decide +kernel
theorem dX6_hand_4 : decode cX6_hand 4 = .ok (.ireturn, 1) := by decide +kernel
theorem dX6_has_0 : decode cX6_has 0 = .ok (.iload_n 0, 1) := by decide +kernel
theorem dX6_has_1 : decode cX6_has 1 = .ok (.tableswitch 70 1 3 #[27, 65, 65], 27) := by decide +kernel
theorem dX6_has_28 : decode cX6_has 28 = .ok (.iload_n 1, 1) := by decide +kernel
theorem dX6_has_29 : decode cX6_has 29 = .ok (.iconst 4, 1) := by decide +kernel
theorem dX6_has_30 : decode cX6_has 30 = .ok (.bipush 6, 2) := by decide +kernel
theorem dX6_has_32 : decode cX6_has 32 = .ok (.invokestatic 51, 3) := by decide +kernel
theorem dX6_has_35 : decode cX6_has 35 = .ok (.ifCond .ne 25, 3) := by decide +kernel
theorem dX6_has_38 : decode cX6_has 38 = .ok (.iload_n 1, 1) := by decide +kernel
theorem dX6_has_39 : decode cX6_has 39 = .ok (.bipush 8, 2) := by decide +kernel
theorem dX6_has_41 : decode cX6_has 41 = .ok (.bipush 10, 2) := by decide +kernel
theorem dX6_has_43 : decode cX6_has 43 = .ok (.invokestatic 51, 3) := by decide +kernel
theorem dX6_has_46 : decode cX6_has 46 = .ok (.ifCond .ne 14, 3) := by decide +kernel
theorem dX6_has_49 : decode cX6_has 49 = .ok (.iload_n 1, 1) := by decide +kernel
theorem dX6_has_50 : decode cX6_has 50 = .ok (.bipush 13, 2) := by decide +kernel
theorem dX6_has_52 : decode cX6_has 52 = .ok (.bipush 14, 2) := by decide +kernel
theorem dX6_has_54 : decode cX6_has 54 = .ok (.invokestatic 51, 3) := by decide +kernel
theorem dX6_has_57 : decode cX6_has 57 = .ok (.ifCond .eq 7, 3) := by decide +kernel
theorem dX6_has_60 : decode cX6_has 60 = .ok (.iconst 1, 1) := by decide +kernel
theorem dX6_has_61 : decode cX6_has 61 = .ok (.goto 4, 3) := by decide +kernel
theorem dX6_has_64 : decode cX6_has 64 = .ok (.iconst 0, 1) := by decide +kernel
theorem dX6_has_65 : decode cX6_has 65 = .ok (.ireturn, 1) := by decide +kernel
theorem dX6_has_66 : decode cX6_has 66 = .ok (.iload_n 1, 1) := by decide +kernel
theorem dX6_has_67 : decode cX6_has 67 = .ok (.invokestatic 74, 3) := by decide +kernel
theorem dX6_has_70 : decode cX6_has 70 = .ok (.ireturn, 1) := by decide +kernel
theorem dX6_has_71 : decode cX6_has 71 = .ok (.iconst 1, 1) := by decide +kernel
theorem dX6_has_72 : decode cX6_has 72 = .ok (.ireturn, 1) := by decide +kernel
theorem dX6_cue_0 : decode cX6_cue 0 = .ok (.iload_n 1, 1) := by decide +kernel
theorem dX6_cue_1 : decode cX6_cue 1 = .ok (.iconst 0, 1) := by decide +kernel
theorem dX6_cue_2 : decode cX6_cue 2 = .ok (.iconst 5, 1) := by decide +kernel
theorem dX6_cue_3 : decode cX6_cue 3 = .ok (.invokestatic 51, 3) := by decide +kernel
theorem dX6_cue_6 : decode cX6_cue 6 = .ok (.ifCond .eq 36, 3) := by decide +kernel
theorem dX6_cue_9 : decode cX6_cue 9 = .ok (.iload_n 2, 1) := by decide +kernel
theorem dX6_cue_10 : decode cX6_cue 10 = .ok (.invokestatic 71, 3) := by decide +kernel
theorem dX6_cue_13 : decode cX6_cue 13 = .ok (.ifCond .eq 29, 3) := by decide +kernel
theorem dX6_cue_16 : decode cX6_cue 16 = .ok (.iload_n 3, 1) := by decide +kernel
theorem dX6_cue_17 : decode cX6_cue 17 = .ok (.invokestatic 77, 3) := by decide +kernel
theorem dX6_cue_20 : decode cX6_cue 20 = .ok (.ifCond .eq 22, 3) := by decide +kernel
theorem dX6_cue_23 : decode cX6_cue 23 = .ok (.iload_n 1, 1) := by decide +kernel
theorem dX6_cue_24 : decode cX6_cue 24 = .ok (.iload_n 3, 1) := by decide +kernel
theorem dX6_cue_25 : decode cX6_cue 25 = .ok (.invokestatic 80, 3) := by decide +kernel
theorem dX6_cue_28 : decode cX6_cue 28 = .ok (.ifCond .eq 14, 3) := by decide +kernel
theorem dX6_cue_31 : decode cX6_cue 31 = .ok (.iload 4, 2) := by decide +kernel
theorem dX6_cue_33 : decode cX6_cue 33 = .ok (.iconst 0, 1) := by decide +kernel
theorem dX6_cue_34 : decode cX6_cue 34 = .ok (.bipush 9, 2) := by decide +kernel
theorem dX6_cue_36 : decode cX6_cue 36 = .ok (.invokestatic 51, 3) := by decide +kernel
theorem dX6_cue_39 : decode cX6_cue 39 = .ok (.ifCond .ne 6, 3) := by decide +kernel
theorem dX6_cue_42 : decode cX6_cue 42 = .ok (.bipush (-2), 2) := by decide +kernel
theorem dX6_cue_44 : decode cX6_cue 44 = .ok (.ireturn, 1) := by decide +kernel
theorem dX6_cue_45 : decode cX6_cue 45 = .ok (.aload_n 0, 1) := by decide +kernel
theorem dX6_cue_46 : decode cX6_cue 46 = .ok (.getfield 83, 3) := by decide +kernel
theorem dX6_cue_49 : decode cX6_cue 49 = .ok (.bipush 30, 2) := by decide +kernel
theorem dX6_cue_51 : decode cX6_cue 51 = .ok (.if_icmp .ne 6, 3) := by decide +kernel
theorem dX6_cue_54 : decode cX6_cue 54 = .ok (.bipush (-3), 2) := by decide +kernel
theorem dX6_cue_56 : decode cX6_cue 56 = .ok (.ireturn, 1) := by decide +kernel
theorem dX6_cue_57 : decode cX6_cue 57 = .ok (.aload_n 0, 1) := by decide +kernel
theorem dX6_cue_58 : decode cX6_cue 58 = .ok (.getfield 33, 3) := by decide +kernel
theorem dX6_cue_61 : decode cX6_cue 61 = .ok (.aload_n 0, 1) := by decide +kernel
theorem dX6_cue_62 : decode cX6_cue 62 = .ok (.getfield 83, 3) := by decide +kernel
theorem dX6_cue_65 : decode cX6_cue 65 = .ok (.iload_n 1, 1) := by decide +kernel
theorem dX6_cue_66 : decode cX6_cue 66 = .ok (.iastore, 1) := by decide +kernel
theorem dX6_cue_67 : decode cX6_cue 67 = .ok (.aload_n 0, 1) := by decide +kernel
theorem dX6_cue_68 : decode cX6_cue 68 = .ok (.getfield 36, 3) := by decide +kernel
theorem dX6_cue_71 : decode cX6_cue 71 = .ok (.aload_n 0, 1) := by decide +kernel
theorem dX6_cue_72 : decode cX6_cue 72 = .ok (.getfield 83, 3) := by decide +kernel
theorem dX6_cue_75 : decode cX6_cue 75 = .ok (.iload_n 2, 1) := by decide +kernel
theorem dX6_cue_76 : decode cX6_cue 76 = .ok (.iastore, 1) := by decide +kernel
theorem dX6_cue_77 : decode cX6_cue 77 = .ok (.aload_n 0, 1) := by decide +kernel
theorem dX6_cue_78 : decode cX6_cue 78 = .ok (.getfield 39, 3) := by decide +kernel
theorem dX6_cue_81 : decode cX6_cue 81 = .ok (.aload_n 0, 1) := by decide +kernel
theorem dX6_cue_82 : decode cX6_cue 82 = .ok (.getfield 83, 3) := by decide +kernel
theorem dX6_cue_85 : decode cX6_cue 85 = .ok (.iload_n 3, 1) := by decide +kernel
theorem dX6_cue_86 : decode cX6_cue 86 = .ok (.iastore, 1) := by decide +kernel
theorem dX6_cue_87 : decode cX6_cue 87 = .ok (.aload_n 0, 1) := by decide +kernel
theorem dX6_cue_88 : decode cX6_cue 88 = .ok (.getfield 42, 3) := by decide +kernel
theorem dX6_cue_91 : decode cX6_cue 91 = .ok (.aload_n 0, 1) := by decide +kernel
theorem dX6_cue_92 : decode cX6_cue 92 = .ok (.getfield 83, 3) := by decide +kernel
theorem dX6_cue_95 : decode cX6_cue 95 = .ok (.iload 4, 2) := by decide +kernel
theorem dX6_cue_97 : decode cX6_cue 97 = .ok (.iastore, 1) := by decide +kernel
theorem dX6_cue_98 : decode cX6_cue 98 = .ok (.aload_n 0, 1) := by decide +kernel
theorem dX6_cue_99 : decode cX6_cue 99 = .ok (.dup, 1) := by decide +kernel
theorem dX6_cue_100 : decode cX6_cue 100 = .ok (.getfield 83, 3) := by decide +kernel
theorem dX6_cue_103 : decode cX6_cue 103 = .ok (.iconst 1, 1) := by decide +kernel
theorem dX6_cue_104 : decode cX6_cue 104 = .ok (.iadd, 1) := by decide +kernel
theorem dX6_cue_105 : decode cX6_cue 105 = .ok (.putfield 83, 3) := by decide +kernel
theorem dX6_cue_108 : decode cX6_cue 108 = .ok (.aload_n 0, 1) := by decide +kernel
theorem dX6_cue_109 : decode cX6_cue 109 = .ok (.getfield 83, 3) := by decide +kernel
theorem dX6_cue_112 : decode cX6_cue 112 = .ok (.iconst 1, 1) := by decide +kernel
theorem dX6_cue_113 : decode cX6_cue 113 = .ok (.isub, 1) := by decide +kernel
theorem dX6_cue_114 : decode cX6_cue 114 = .ok (.ireturn, 1) := by decide +kernel
theorem dX6_strike_0 : decode cX6_strike 0 = .ok (.aload_n 0, 1) := by decide +kernel
theorem dX6_strike_1 : decode cX6_strike 1 = .ok (.getfield 83, 3) := by decide +kernel
theorem dX6_strike_4 : decode cX6_strike 4 = .ok (.istore_n 1, 1) := by decide +kernel
theorem dX6_strike_5 : decode cX6_strike 5 = .ok (.aload_n 0, 1) := by decide +kernel
theorem dX6_strike_6 : decode cX6_strike 6 = .ok (.iconst 0, 1) := by decide +kernel
theorem dX6_strike_7 : decode cX6_strike 7 = .ok (.putfield 83, 3) := by decide +kernel
theorem dX6_strike_10 : decode cX6_strike 10 = .ok (.iload_n 1, 1) := by decide +kernel
theorem dX6_strike_11 : decode cX6_strike 11 = .ok (.ireturn, 1) := by decide +kernel
theorem dX6_inner_0 : decode cX6_inner 0 = .ok (.iload_n 0, 1) := by decide +kernel
theorem dX6_inner_1 : decode cX6_inner 1 = .ok (.tableswitch 62 8 14 #[43, 45, 47, 50, 53, 56, 59], 43) := by decide +kernel
theorem dX6_inner_44 : decode cX6_inner 44 = .ok (.iconst 4, 1) := by decide +kernel
theorem dX6_inner_45 : decode cX6_inner 45 = .ok (.ireturn, 1) := by decide +kernel
theorem dX6_inner_46 : decode cX6_inner 46 = .ok (.iconst 5, 1) := by decide +kernel
theorem dX6_inner_47 : decode cX6_inner 47 = .ok (.ireturn, 1) := by decide +kernel
theorem dX6_inner_48 : decode cX6_inner 48 = .ok (.bipush 6, 2) := by decide +kernel
theorem dX6_inner_50 : decode cX6_inner 50 = .ok (.ireturn, 1) := by decide +kernel
theorem dX6_inner_51 : decode cX6_inner 51 = .ok (.bipush 16, 2) := by decide +kernel
theorem dX6_inner_53 : decode cX6_inner 53 = .ok (.ireturn, 1) := by decide +kernel
theorem dX6_inner_54 : decode cX6_inner 54 = .ok (.bipush 7, 2) := by decide +kernel
theorem dX6_inner_56 : decode cX6_inner 56 = .ok (.ireturn, 1) := by decide +kernel
theorem dX6_inner_57 : decode cX6_inner 57 = .ok (.bipush 8, 2) := by decide +kernel
theorem dX6_inner_59 : decode cX6_inner 59 = .ok (.ireturn, 1) := by decide +kernel
theorem dX6_inner_60 : decode cX6_inner 60 = .ok (.bipush 10, 2) := by decide +kernel
theorem dX6_inner_62 : decode cX6_inner 62 = .ok (.ireturn, 1) := by decide +kernel
theorem dX6_inner_63 : decode cX6_inner 63 = .ok (.bipush 11, 2) := by decide +kernel
theorem dX6_inner_65 : decode cX6_inner 65 = .ok (.ireturn, 1) := by decide +kernel
theorem dX6_worthOfOne_0 : decode cX6_worthOfOne 0 = .ok (.aload_n 0, 1) := by decide +kernel
theorem dX6_worthOfOne_1 : decode cX6_worthOfOne 1 = .ok (.getfield 13, 3) := by decide +kernel
theorem dX6_worthOfOne_4 : decode cX6_worthOfOne 4 = .ok (.iload_n 1, 1) := by decide +kernel
theorem dX6_worthOfOne_5 : decode cX6_worthOfOne 5 = .ok (.iaload, 1) := by decide +kernel
theorem dX6_worthOfOne_6 : decode cX6_worthOfOne 6 = .ok (.i2l, 1) := by decide +kernel
theorem dX6_worthOfOne_7 : decode cX6_worthOfOne 7 = .ok (.lstore_n 3, 1) := by decide +kernel
theorem dX6_worthOfOne_8 : decode cX6_worthOfOne 8 = .ok (.iload_n 2, 1) := by decide +kernel
theorem dX6_worthOfOne_9 : decode cX6_worthOfOne 9 = .ok (.tableswitch 61 4 7 #[31, 41, 53, 59], 31) := by decide +kernel
theorem dX6_worthOfOne_40 : decode cX6_worthOfOne 40 = .ok (.lload_n 3, 1) := by decide +kernel
theorem dX6_worthOfOne_41 : decode cX6_worthOfOne 41 = .ok (.aload_n 0, 1) := by decide +kernel
theorem dX6_worthOfOne_42 : decode cX6_worthOfOne 42 = .ok (.getfield 16, 3) := by decide +kernel
theorem dX6_worthOfOne_45 : decode cX6_worthOfOne 45 = .ok (.iload_n 1, 1) := by decide +kernel
theorem dX6_worthOfOne_46 : decode cX6_worthOfOne 46 = .ok (.iaload, 1) := by decide +kernel
theorem dX6_worthOfOne_47 : decode cX6_worthOfOne 47 = .ok (.i2l, 1) := by decide +kernel
theorem dX6_worthOfOne_48 : decode cX6_worthOfOne 48 = .ok (.ladd, 1) := by decide +kernel
theorem dX6_worthOfOne_49 : decode cX6_worthOfOne 49 = .ok (.lreturn, 1) := by decide +kernel
theorem dX6_worthOfOne_50 : decode cX6_worthOfOne 50 = .ok (.ldc2_w 86, 3) := by decide +kernel
theorem dX6_worthOfOne_53 : decode cX6_worthOfOne 53 = .ok (.aload_n 0, 1) := by decide +kernel
theorem dX6_worthOfOne_54 : decode cX6_worthOfOne 54 = .ok (.getfield 16, 3) := by decide +kernel
theorem dX6_worthOfOne_57 : decode cX6_worthOfOne 57 = .ok (.iload_n 1, 1) := by decide +kernel
theorem dX6_worthOfOne_58 : decode cX6_worthOfOne 58 = .ok (.iaload, 1) := by decide +kernel
theorem dX6_worthOfOne_59 : decode cX6_worthOfOne 59 = .ok (.i2l, 1) := by decide +kernel
theorem dX6_worthOfOne_60 : decode cX6_worthOfOne 60 = .ok (.lmul, 1) := by decide +kernel
theorem dX6_worthOfOne_61 : decode cX6_worthOfOne 61 = .ok (.lreturn, 1) := by decide +kernel
theorem dX6_worthOfOne_62 : decode cX6_worthOfOne 62 = .ok (.ldc2_w 88, 3) := by decide +kernel
theorem dX6_worthOfOne_65 : decode cX6_worthOfOne 65 = .ok (.lload_n 3, 1) := by decide +kernel
theorem dX6_worthOfOne_66 : decode cX6_worthOfOne 66 = .ok (.lmul, 1) := by decide +kernel
theorem dX6_worthOfOne_67 : decode cX6_worthOfOne 67 = .ok (.lreturn, 1) := by decide +kernel
theorem dX6_worthOfOne_68 : decode cX6_worthOfOne 68 = .ok (.lload_n 3, 1) := by decide +kernel
theorem dX6_worthOfOne_69 : decode cX6_worthOfOne 69 = .ok (.lreturn, 1) := by decide +kernel
theorem dX6_worthOfOne_70 : decode cX6_worthOfOne 70 = .ok (.aload_n 0, 1) := by decide +kernel
theorem dX6_worthOfOne_71 : decode cX6_worthOfOne 71 = .ok (.getfield 7, 3) := by decide +kernel
theorem dX6_worthOfOne_74 : decode cX6_worthOfOne 74 = .ok (.iload_n 1, 1) := by decide +kernel
theorem dX6_worthOfOne_75 : decode cX6_worthOfOne 75 = .ok (.iaload, 1) := by decide +kernel
theorem dX6_worthOfOne_76 : decode cX6_worthOfOne 76 = .ok (.bipush 6, 2) := by decide +kernel
theorem dX6_worthOfOne_78 : decode cX6_worthOfOne 78 = .ok (.if_icmp .ne 11, 3) := by decide +kernel
theorem dX6_worthOfOne_81 : decode cX6_worthOfOne 81 = .ok (.lload_n 3, 1) := by decide +kernel
theorem dX6_worthOfOne_82 : decode cX6_worthOfOne 82 = .ok (.ldc2_w 90, 3) := by decide +kernel
theorem dX6_worthOfOne_85 : decode cX6_worthOfOne 85 = .ok (.ladd, 1) := by decide +kernel
theorem dX6_worthOfOne_86 : decode cX6_worthOfOne 86 = .ok (.goto 8, 3) := by decide +kernel
theorem dX6_worthOfOne_89 : decode cX6_worthOfOne 89 = .ok (.ldc2_w 86, 3) := by decide +kernel
theorem dX6_worthOfOne_92 : decode cX6_worthOfOne 92 = .ok (.lload_n 3, 1) := by decide +kernel
theorem dX6_worthOfOne_93 : decode cX6_worthOfOne 93 = .ok (.lmul, 1) := by decide +kernel
theorem dX6_worthOfOne_94 : decode cX6_worthOfOne 94 = .ok (.lreturn, 1) := by decide +kernel
theorem dX6_worthOfNumbers_0 : decode cX6_worthOfNumbers 0 = .ok (.lconst 0, 1) := by decide +kernel
theorem dX6_worthOfNumbers_1 : decode cX6_worthOfNumbers 1 = .ok (.lstore_n 2, 1) := by decide +kernel
theorem dX6_worthOfNumbers_2 : decode cX6_worthOfNumbers 2 = .ok (.iconst 0, 1) := by decide +kernel
theorem dX6_worthOfNumbers_3 : decode cX6_worthOfNumbers 3 = .ok (.istore 4, 2) := by decide +kernel
theorem dX6_worthOfNumbers_5 : decode cX6_worthOfNumbers 5 = .ok (.iload 4, 2) := by decide +kernel
theorem dX6_worthOfNumbers_7 : decode cX6_worthOfNumbers 7 = .ok (.aload_n 0, 1) := by decide +kernel
theorem dX6_worthOfNumbers_8 : decode cX6_worthOfNumbers 8 = .ok (.iload_n 1, 1) := by decide +kernel
theorem dX6_worthOfNumbers_9 : decode cX6_worthOfNumbers 9 = .ok (.invokevirtual 66, 3) := by decide +kernel
theorem dX6_worthOfNumbers_12 : decode cX6_worthOfNumbers 12 = .ok (.if_icmp .ge 24, 3) := by decide +kernel
theorem dX6_worthOfNumbers_15 : decode cX6_worthOfNumbers 15 = .ok (.lload_n 2, 1) := by decide +kernel
theorem dX6_worthOfNumbers_16 : decode cX6_worthOfNumbers 16 = .ok (.aload_n 0, 1) := by decide +kernel
theorem dX6_worthOfNumbers_17 : decode cX6_worthOfNumbers 17 = .ok (.getfield 19, 3) := by decide +kernel
theorem dX6_worthOfNumbers_20 : decode cX6_worthOfNumbers 20 = .ok (.bipush 15, 2) := by decide +kernel
theorem dX6_worthOfNumbers_22 : decode cX6_worthOfNumbers 22 = .ok (.iload_n 1, 1) := by decide +kernel
theorem dX6_worthOfNumbers_23 : decode cX6_worthOfNumbers 23 = .ok (.imul, 1) := by decide +kernel
theorem dX6_worthOfNumbers_24 : decode cX6_worthOfNumbers 24 = .ok (.iload 4, 2) := by decide +kernel
theorem dX6_worthOfNumbers_26 : decode cX6_worthOfNumbers 26 = .ok (.iadd, 1) := by decide +kernel
theorem dX6_worthOfNumbers_27 : decode cX6_worthOfNumbers 27 = .ok (.laload, 1) := by decide +kernel
theorem dX6_worthOfNumbers_28 : decode cX6_worthOfNumbers 28 = .ok (.ladd, 1) := by decide +kernel
theorem dX6_worthOfNumbers_29 : decode cX6_worthOfNumbers 29 = .ok (.lstore_n 2, 1) := by decide +kernel
theorem dX6_worthOfNumbers_30 : decode cX6_worthOfNumbers 30 = .ok (.iinc 4 1, 3) := by decide +kernel
theorem dX6_worthOfNumbers_33 : decode cX6_worthOfNumbers 33 = .ok (.goto (-28), 3) := by decide +kernel
theorem dX6_worthOfNumbers_36 : decode cX6_worthOfNumbers 36 = .ok (.lload_n 2, 1) := by decide +kernel
theorem dX6_worthOfNumbers_37 : decode cX6_worthOfNumbers 37 = .ok (.lreturn, 1) := by decide +kernel
theorem dX6_worthOfRow_0 : decode cX6_worthOfRow 0 = .ok (.lconst 0, 1) := by decide +kernel
theorem dX6_worthOfRow_1 : decode cX6_worthOfRow 1 = .ok (.lstore_n 3, 1) := by decide +kernel
theorem dX6_worthOfRow_2 : decode cX6_worthOfRow 2 = .ok (.iconst 0, 1) := by decide +kernel
theorem dX6_worthOfRow_3 : decode cX6_worthOfRow 3 = .ok (.istore 5, 2) := by decide +kernel
theorem dX6_worthOfRow_5 : decode cX6_worthOfRow 5 = .ok (.iload 5, 2) := by decide +kernel
theorem dX6_worthOfRow_7 : decode cX6_worthOfRow 7 = .ok (.aload_n 0, 1) := by decide +kernel
theorem dX6_worthOfRow_8 : decode cX6_worthOfRow 8 = .ok (.getfield 13, 3) := by decide +kernel
theorem dX6_worthOfRow_11 : decode cX6_worthOfRow 11 = .ok (.iload_n 1, 1) := by decide +kernel
theorem dX6_worthOfRow_12 : decode cX6_worthOfRow 12 = .ok (.iaload, 1) := by decide +kernel
theorem dX6_worthOfRow_13 : decode cX6_worthOfRow 13 = .ok (.if_icmp .ge 45, 3) := by decide +kernel
theorem dX6_worthOfRow_16 : decode cX6_worthOfRow 16 = .ok (.aload_n 0, 1) := by decide +kernel
theorem dX6_worthOfRow_17 : decode cX6_worthOfRow 17 = .ok (.getfield 23, 3) := by decide +kernel
theorem dX6_worthOfRow_20 : decode cX6_worthOfRow 20 = .ok (.iconst 5, 1) := by decide +kernel
theorem dX6_worthOfRow_21 : decode cX6_worthOfRow 21 = .ok (.iload_n 1, 1) := by decide +kernel
theorem dX6_worthOfRow_22 : decode cX6_worthOfRow 22 = .ok (.imul, 1) := by decide +kernel
theorem dX6_worthOfRow_23 : decode cX6_worthOfRow 23 = .ok (.iload 5, 2) := by decide +kernel
theorem dX6_worthOfRow_25 : decode cX6_worthOfRow 25 = .ok (.iadd, 1) := by decide +kernel
theorem dX6_worthOfRow_26 : decode cX6_worthOfRow 26 = .ok (.iaload, 1) := by decide +kernel
theorem dX6_worthOfRow_27 : decode cX6_worthOfRow 27 = .ok (.istore 6, 2) := by decide +kernel
theorem dX6_worthOfRow_29 : decode cX6_worthOfRow 29 = .ok (.lload_n 3, 1) := by decide +kernel
theorem dX6_worthOfRow_30 : decode cX6_worthOfRow 30 = .ok (.iload 6, 2) := by decide +kernel
theorem dX6_worthOfRow_32 : decode cX6_worthOfRow 32 = .ok (.iconst (-1), 1) := by decide +kernel
theorem dX6_worthOfRow_33 : decode cX6_worthOfRow 33 = .ok (.if_icmp .ne 7, 3) := by decide +kernel
theorem dX6_worthOfRow_36 : decode cX6_worthOfRow 36 = .ok (.lconst 0, 1) := by decide +kernel
theorem dX6_worthOfRow_37 : decode cX6_worthOfRow 37 = .ok (.goto 13, 3) := by decide +kernel
theorem dX6_worthOfRow_40 : decode cX6_worthOfRow 40 = .ok (.aload_n 0, 1) := by decide +kernel
theorem dX6_worthOfRow_41 : decode cX6_worthOfRow 41 = .ok (.iload 6, 2) := by decide +kernel
theorem dX6_worthOfRow_43 : decode cX6_worthOfRow 43 = .ok (.iload_n 2, 1) := by decide +kernel
theorem dX6_worthOfRow_44 : decode cX6_worthOfRow 44 = .ok (.invokestatic 92, 3) := by decide +kernel
theorem dX6_worthOfRow_47 : decode cX6_worthOfRow 47 = .ok (.invokevirtual 95, 3) := by decide +kernel
theorem dX6_worthOfRow_50 : decode cX6_worthOfRow 50 = .ok (.ladd, 1) := by decide +kernel
theorem dX6_worthOfRow_51 : decode cX6_worthOfRow 51 = .ok (.lstore_n 3, 1) := by decide +kernel
theorem dX6_worthOfRow_52 : decode cX6_worthOfRow 52 = .ok (.iinc 5 1, 3) := by decide +kernel
theorem dX6_worthOfRow_55 : decode cX6_worthOfRow 55 = .ok (.goto (-50), 3) := by decide +kernel
theorem dX6_worthOfRow_58 : decode cX6_worthOfRow 58 = .ok (.lload_n 3, 1) := by decide +kernel
theorem dX6_worthOfRow_59 : decode cX6_worthOfRow 59 = .ok (.lreturn, 1) := by decide +kernel
theorem dX6_worthOf_0 : decode cX6_worthOf 0 = .ok (.iload_n 2, 1) := by decide +kernel
theorem dX6_worthOf_1 : decode cX6_worthOf 1 = .ok (.iconst 4, 1) := by decide +kernel
theorem dX6_worthOf_2 : decode cX6_worthOf 2 = .ok (.if_icmp .ge 9, 3) := by decide +kernel
theorem dX6_worthOf_5 : decode cX6_worthOf 5 = .ok (.aload_n 0, 1) := by decide +kernel
theorem dX6_worthOf_6 : decode cX6_worthOf 6 = .ok (.iload_n 1, 1) := by decide +kernel
theorem dX6_worthOf_7 : decode cX6_worthOf 7 = .ok (.invokevirtual 99, 3) := by decide +kernel
theorem dX6_worthOf_10 : decode cX6_worthOf 10 = .ok (.lreturn, 1) := by decide +kernel
theorem dX6_worthOf_11 : decode cX6_worthOf 11 = .ok (.iload_n 2, 1) := by decide +kernel
theorem dX6_worthOf_12 : decode cX6_worthOf 12 = .ok (.bipush 8, 2) := by decide +kernel
theorem dX6_worthOf_14 : decode cX6_worthOf 14 = .ok (.if_icmp .lt 9, 3) := by decide +kernel
theorem dX6_worthOf_17 : decode cX6_worthOf 17 = .ok (.iload_n 2, 1) := by decide +kernel
theorem dX6_worthOf_18 : decode cX6_worthOf 18 = .ok (.bipush 16, 2) := by decide +kernel
theorem dX6_worthOf_20 : decode cX6_worthOf 20 = .ok (.if_icmp .ne 10, 3) := by decide +kernel
theorem dX6_worthOf_23 : decode cX6_worthOf 23 = .ok (.aload_n 0, 1) := by decide +kernel
theorem dX6_worthOf_24 : decode cX6_worthOf 24 = .ok (.iload_n 1, 1) := by decide +kernel
theorem dX6_worthOf_25 : decode cX6_worthOf 25 = .ok (.iload_n 2, 1) := by decide +kernel
theorem dX6_worthOf_26 : decode cX6_worthOf 26 = .ok (.invokevirtual 95, 3) := by decide +kernel
theorem dX6_worthOf_29 : decode cX6_worthOf 29 = .ok (.lreturn, 1) := by decide +kernel
theorem dX6_worthOf_30 : decode cX6_worthOf 30 = .ok (.iload_n 2, 1) := by decide +kernel
theorem dX6_worthOf_31 : decode cX6_worthOf 31 = .ok (.bipush 13, 2) := by decide +kernel
theorem dX6_worthOf_33 : decode cX6_worthOf 33 = .ok (.if_icmp .ge 10, 3) := by decide +kernel
theorem dX6_worthOf_36 : decode cX6_worthOf 36 = .ok (.aload_n 0, 1) := by decide +kernel
theorem dX6_worthOf_37 : decode cX6_worthOf 37 = .ok (.iload_n 1, 1) := by decide +kernel
theorem dX6_worthOf_38 : decode cX6_worthOf 38 = .ok (.iload_n 2, 1) := by decide +kernel
theorem dX6_worthOf_39 : decode cX6_worthOf 39 = .ok (.invokevirtual 103, 3) := by decide +kernel
theorem dX6_worthOf_42 : decode cX6_worthOf 42 = .ok (.lreturn, 1) := by decide +kernel
theorem dX6_worthOf_43 : decode cX6_worthOf 43 = .ok (.lconst 0, 1) := by decide +kernel
theorem dX6_worthOf_44 : decode cX6_worthOf 44 = .ok (.lstore_n 3, 1) := by decide +kernel
theorem dX6_worthOf_45 : decode cX6_worthOf 45 = .ok (.iconst 0, 1) := by decide +kernel
theorem dX6_worthOf_46 : decode cX6_worthOf 46 = .ok (.istore 5, 2) := by decide +kernel
theorem dX6_worthOf_48 : decode cX6_worthOf 48 = .ok (.iload 5, 2) := by decide +kernel
theorem dX6_worthOf_50 : decode cX6_worthOf 50 = .ok (.aload_n 0, 1) := by decide +kernel
theorem dX6_worthOf_51 : decode cX6_worthOf 51 = .ok (.getfield 13, 3) := by decide +kernel
theorem dX6_worthOf_54 : decode cX6_worthOf 54 = .ok (.iload_n 1, 1) := by decide +kernel
theorem dX6_worthOf_55 : decode cX6_worthOf 55 = .ok (.iaload, 1) := by decide +kernel
theorem dX6_worthOf_56 : decode cX6_worthOf 56 = .ok (.if_icmp .ge 45, 3) := by decide +kernel
theorem dX6_worthOf_59 : decode cX6_worthOf 59 = .ok (.aload_n 0, 1) := by decide +kernel
theorem dX6_worthOf_60 : decode cX6_worthOf 60 = .ok (.getfield 23, 3) := by decide +kernel
theorem dX6_worthOf_63 : decode cX6_worthOf 63 = .ok (.iconst 5, 1) := by decide +kernel
theorem dX6_worthOf_64 : decode cX6_worthOf 64 = .ok (.iload_n 1, 1) := by decide +kernel
theorem dX6_worthOf_65 : decode cX6_worthOf 65 = .ok (.imul, 1) := by decide +kernel
theorem dX6_worthOf_66 : decode cX6_worthOf 66 = .ok (.iload 5, 2) := by decide +kernel
theorem dX6_worthOf_68 : decode cX6_worthOf 68 = .ok (.iadd, 1) := by decide +kernel
theorem dX6_worthOf_69 : decode cX6_worthOf 69 = .ok (.iaload, 1) := by decide +kernel
theorem dX6_worthOf_70 : decode cX6_worthOf 70 = .ok (.istore 6, 2) := by decide +kernel
theorem dX6_worthOf_72 : decode cX6_worthOf 72 = .ok (.lload_n 3, 1) := by decide +kernel
theorem dX6_worthOf_73 : decode cX6_worthOf 73 = .ok (.iload 6, 2) := by decide +kernel
theorem dX6_worthOf_75 : decode cX6_worthOf 75 = .ok (.iconst (-1), 1) := by decide +kernel
theorem dX6_worthOf_76 : decode cX6_worthOf 76 = .ok (.if_icmp .ne 7, 3) := by decide +kernel
theorem dX6_worthOf_79 : decode cX6_worthOf 79 = .ok (.lconst 0, 1) := by decide +kernel
theorem dX6_worthOf_80 : decode cX6_worthOf 80 = .ok (.goto 13, 3) := by decide +kernel
theorem dX6_worthOf_83 : decode cX6_worthOf 83 = .ok (.aload_n 0, 1) := by decide +kernel
theorem dX6_worthOf_84 : decode cX6_worthOf 84 = .ok (.iload 6, 2) := by decide +kernel
theorem dX6_worthOf_86 : decode cX6_worthOf 86 = .ok (.iload_n 2, 1) := by decide +kernel
theorem dX6_worthOf_87 : decode cX6_worthOf 87 = .ok (.invokestatic 92, 3) := by decide +kernel
theorem dX6_worthOf_90 : decode cX6_worthOf 90 = .ok (.invokevirtual 103, 3) := by decide +kernel
theorem dX6_worthOf_93 : decode cX6_worthOf 93 = .ok (.ladd, 1) := by decide +kernel
theorem dX6_worthOf_94 : decode cX6_worthOf 94 = .ok (.lstore_n 3, 1) := by decide +kernel
theorem dX6_worthOf_95 : decode cX6_worthOf 95 = .ok (.iinc 5 1, 3) := by decide +kernel
theorem dX6_worthOf_98 : decode cX6_worthOf 98 = .ok (.goto (-50), 3) := by decide +kernel
theorem dX6_worthOf_101 : decode cX6_worthOf 101 = .ok (.lload_n 3, 1) := by decide +kernel
theorem dX6_worthOf_102 : decode cX6_worthOf 102 = .ok (.lreturn, 1) := by decide +kernel
theorem dX6_wearRow_0 : decode cX6_wearRow 0 = .ok (.iconst 0, 1) := by decide +kernel
theorem dX6_wearRow_1 : decode cX6_wearRow 1 = .ok (.istore_n 2, 1) := by decide +kernel
theorem dX6_wearRow_2 : decode cX6_wearRow 2 = .ok (.iload_n 2, 1) := by decide +kernel
theorem dX6_wearRow_3 : decode cX6_wearRow 3 = .ok (.aload_n 0, 1) := by decide +kernel
theorem dX6_wearRow_4 : decode cX6_wearRow 4 = .ok (.getfield 13, 3) := by decide +kernel
theorem dX6_wearRow_7 : decode cX6_wearRow 7 = .ok (.iload_n 1, 1) := by decide +kernel
theorem dX6_wearRow_8 : decode cX6_wearRow 8 = .ok (.iaload, 1) := by decide +kernel
theorem dX6_wearRow_9 : decode cX6_wearRow 9 = .ok (.if_icmp .ge 35, 3) := by decide +kernel
theorem dX6_wearRow_12 : decode cX6_wearRow 12 = .ok (.aload_n 0, 1) := by decide +kernel
theorem dX6_wearRow_13 : decode cX6_wearRow 13 = .ok (.getfield 23, 3) := by decide +kernel
theorem dX6_wearRow_16 : decode cX6_wearRow 16 = .ok (.iconst 5, 1) := by decide +kernel
theorem dX6_wearRow_17 : decode cX6_wearRow 17 = .ok (.iload_n 1, 1) := by decide +kernel
theorem dX6_wearRow_18 : decode cX6_wearRow 18 = .ok (.imul, 1) := by decide +kernel
theorem dX6_wearRow_19 : decode cX6_wearRow 19 = .ok (.iload_n 2, 1) := by decide +kernel
theorem dX6_wearRow_20 : decode cX6_wearRow 20 = .ok (.iadd, 1) := by decide +kernel
theorem dX6_wearRow_21 : decode cX6_wearRow 21 = .ok (.iaload, 1) := by decide +kernel
theorem dX6_wearRow_22 : decode cX6_wearRow 22 = .ok (.istore_n 3, 1) := by decide +kernel
theorem dX6_wearRow_23 : decode cX6_wearRow 23 = .ok (.iload_n 3, 1) := by decide +kernel
theorem dX6_wearRow_24 : decode cX6_wearRow 24 = .ok (.iconst (-1), 1) := by decide +kernel
theorem dX6_wearRow_25 : decode cX6_wearRow 25 = .ok (.if_icmp .eq 13, 3) := by decide +kernel
theorem dX6_wearRow_28 : decode cX6_wearRow 28 = .ok (.aload_n 0, 1) := by decide +kernel
theorem dX6_wearRow_29 : decode cX6_wearRow 29 = .ok (.getfield 16, 3) := by decide +kernel
theorem dX6_wearRow_32 : decode cX6_wearRow 32 = .ok (.iload_n 3, 1) := by decide +kernel
theorem dX6_wearRow_33 : decode cX6_wearRow 33 = .ok (.dup2, 1) := by decide +kernel
theorem dX6_wearRow_34 : decode cX6_wearRow 34 = .ok (.iaload, 1) := by decide +kernel
theorem dX6_wearRow_35 : decode cX6_wearRow 35 = .ok (.iconst 1, 1) := by decide +kernel
theorem dX6_wearRow_36 : decode cX6_wearRow 36 = .ok (.iadd, 1) := by decide +kernel
theorem dX6_wearRow_37 : decode cX6_wearRow 37 = .ok (.iastore, 1) := by decide +kernel
theorem dX6_wearRow_38 : decode cX6_wearRow 38 = .ok (.iinc 2 1, 3) := by decide +kernel
theorem dX6_wearRow_41 : decode cX6_wearRow 41 = .ok (.goto (-39), 3) := by decide +kernel
theorem dX6_wearRow_44 : decode cX6_wearRow 44 = .ok (.return_, 1) := by decide +kernel
theorem dX6_wearAll_0 : decode cX6_wearAll 0 = .ok (.aload_n 0, 1) := by decide +kernel
theorem dX6_wearAll_1 : decode cX6_wearAll 1 = .ok (.getfield 7, 3) := by decide +kernel
theorem dX6_wearAll_4 : decode cX6_wearAll 4 = .ok (.iload_n 1, 1) := by decide +kernel
theorem dX6_wearAll_5 : decode cX6_wearAll 5 = .ok (.iaload, 1) := by decide +kernel
theorem dX6_wearAll_6 : decode cX6_wearAll 6 = .ok (.invokestatic 59, 3) := by decide +kernel
theorem dX6_wearAll_9 : decode cX6_wearAll 9 = .ok (.ifCond .eq 16, 3) := by decide +kernel
theorem dX6_wearAll_12 : decode cX6_wearAll 12 = .ok (.aload_n 0, 1) := by decide +kernel
theorem dX6_wearAll_13 : decode cX6_wearAll 13 = .ok (.getfield 16, 3) := by decide +kernel
theorem dX6_wearAll_16 : decode cX6_wearAll 16 = .ok (.iload_n 1, 1) := by decide +kernel
theorem dX6_wearAll_17 : decode cX6_wearAll 17 = .ok (.dup2, 1) := by decide +kernel
theorem dX6_wearAll_18 : decode cX6_wearAll 18 = .ok (.iaload, 1) := by decide +kernel
theorem dX6_wearAll_19 : decode cX6_wearAll 19 = .ok (.iconst 1, 1) := by decide +kernel
theorem dX6_wearAll_20 : decode cX6_wearAll 20 = .ok (.iadd, 1) := by decide +kernel
theorem dX6_wearAll_21 : decode cX6_wearAll 21 = .ok (.iastore, 1) := by decide +kernel
theorem dX6_wearAll_22 : decode cX6_wearAll 22 = .ok (.goto 61, 3) := by decide +kernel
theorem dX6_wearAll_25 : decode cX6_wearAll 25 = .ok (.aload_n 0, 1) := by decide +kernel
theorem dX6_wearAll_26 : decode cX6_wearAll 26 = .ok (.getfield 7, 3) := by decide +kernel
theorem dX6_wearAll_29 : decode cX6_wearAll 29 = .ok (.iload_n 1, 1) := by decide +kernel
theorem dX6_wearAll_30 : decode cX6_wearAll 30 = .ok (.iaload, 1) := by decide +kernel
theorem dX6_wearAll_31 : decode cX6_wearAll 31 = .ok (.bipush 13, 2) := by decide +kernel
theorem dX6_wearAll_33 : decode cX6_wearAll 33 = .ok (.if_icmp .ge 11, 3) := by decide +kernel
theorem dX6_wearAll_36 : decode cX6_wearAll 36 = .ok (.aload_n 0, 1) := by decide +kernel
theorem dX6_wearAll_37 : decode cX6_wearAll 37 = .ok (.iload_n 1, 1) := by decide +kernel
theorem dX6_wearAll_38 : decode cX6_wearAll 38 = .ok (.invokevirtual 106, 3) := by decide +kernel
theorem dX6_wearAll_41 : decode cX6_wearAll 41 = .ok (.goto 42, 3) := by decide +kernel
theorem dX6_wearAll_44 : decode cX6_wearAll 44 = .ok (.iconst 0, 1) := by decide +kernel
theorem dX6_wearAll_45 : decode cX6_wearAll 45 = .ok (.istore_n 2, 1) := by decide +kernel
theorem dX6_wearAll_46 : decode cX6_wearAll 46 = .ok (.iload_n 2, 1) := by decide +kernel
