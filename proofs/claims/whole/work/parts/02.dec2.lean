theorem dX5_goesAs_1 : decode cX5_goesAs 1 = .ok (.ifnull 18, 3) := by decide +kernel
theorem dX5_goesAs_4 : decode cX5_goesAs 4 = .ok (.getstatic 163, 3) := by decide +kernel
theorem dX5_goesAs_7 : decode cX5_goesAs 7 = .ok (.aload_n 0, 1) := by decide +kernel
theorem dX5_goesAs_8 : decode cX5_goesAs 8 = .ok (.getfield 166, 3) := by decide +kernel
theorem dX5_goesAs_11 : decode cX5_goesAs 11 = .ok (.iaload, 1) := by decide +kernel
theorem dX5_goesAs_12 : decode cX5_goesAs 12 = .ok (.iload_n 1, 1) := by decide +kernel
theorem dX5_goesAs_13 : decode cX5_goesAs 13 = .ok (.invokestatic 68, 3) := by decide +kernel
theorem dX5_goesAs_16 : decode cX5_goesAs 16 = .ok (.ifCond .eq 7, 3) := by decide +kernel
theorem dX5_goesAs_19 : decode cX5_goesAs 19 = .ok (.iconst 1, 1) := by decide +kernel
theorem dX5_goesAs_20 : decode cX5_goesAs 20 = .ok (.goto 4, 3) := by decide +kernel
theorem dX5_goesAs_23 : decode cX5_goesAs 23 = .ok (.iconst 0, 1) := by decide +kernel
theorem dX5_goesAs_24 : decode cX5_goesAs 24 = .ok (.ireturn, 1) := by decide +kernel
theorem dX5_isAmong_0 : decode cX5_isAmong 0 = .ok (.iload_n 0, 1) := by decide +kernel
theorem dX5_isAmong_1 : decode cX5_isAmong 1 = .ok (.iload_n 1, 1) := by decide +kernel
theorem dX5_isAmong_2 : decode cX5_isAmong 2 = .ok (.ishr, 1) := by decide +kernel
theorem dX5_isAmong_3 : decode cX5_isAmong 3 = .ok (.iconst 1, 1) := by decide +kernel
theorem dX5_isAmong_4 : decode cX5_isAmong 4 = .ok (.iand, 1) := by decide +kernel
theorem dX5_isAmong_5 : decode cX5_isAmong 5 = .ok (.iconst 1, 1) := by decide +kernel
theorem dX5_isAmong_6 : decode cX5_isAmong 6 = .ok (.if_icmp .ne 7, 3) := by decide +kernel
theorem dX5_isAmong_9 : decode cX5_isAmong 9 = .ok (.iconst 1, 1) := by decide +kernel
theorem dX5_isAmong_10 : decode cX5_isAmong 10 = .ok (.goto 4, 3) := by decide +kernel
theorem dX5_isAmong_13 : decode cX5_isAmong 13 = .ok (.iconst 0, 1) := by decide +kernel
theorem dX5_isAmong_14 : decode cX5_isAmong 14 = .ok (.ireturn, 1) := by decide +kernel
theorem dX5_isSlot_0 : decode cX5_isSlot 0 = .ok (.iload_n 0, 1) := by decide +kernel
theorem dX5_isSlot_1 : decode cX5_isSlot 1 = .ok (.ifCond .lt 13, 3) := by decide +kernel
theorem dX5_isSlot_4 : decode cX5_isSlot 4 = .ok (.iload_n 0, 1) := by decide +kernel
theorem dX5_isSlot_5 : decode cX5_isSlot 5 = .ok (.bipush 10, 2) := by decide +kernel
theorem dX5_isSlot_7 : decode cX5_isSlot 7 = .ok (.if_icmp .ge 7, 3) := by decide +kernel
theorem dX5_isSlot_10 : decode cX5_isSlot 10 = .ok (.iconst 1, 1) := by decide +kernel
theorem dX5_isSlot_11 : decode cX5_isSlot 11 = .ok (.goto 4, 3) := by decide +kernel
theorem dX5_isSlot_14 : decode cX5_isSlot 14 = .ok (.iconst 0, 1) := by decide +kernel
theorem dX5_isSlot_15 : decode cX5_isSlot 15 = .ok (.ireturn, 1) := by decide +kernel
theorem dX5_isView_0 : decode cX5_isView 0 = .ok (.iload_n 0, 1) := by decide +kernel
theorem dX5_isView_1 : decode cX5_isView 1 = .ok (.ifCond .lt 13, 3) := by decide +kernel
theorem dX5_isView_4 : decode cX5_isView 4 = .ok (.iload_n 0, 1) := by decide +kernel
theorem dX5_isView_5 : decode cX5_isView 5 = .ok (.bipush 16, 2) := by decide +kernel
theorem dX5_isView_7 : decode cX5_isView 7 = .ok (.if_icmp .gt 7, 3) := by decide +kernel
theorem dX5_isView_10 : decode cX5_isView 10 = .ok (.iconst 1, 1) := by decide +kernel
theorem dX5_isView_11 : decode cX5_isView 11 = .ok (.goto 4, 3) := by decide +kernel
theorem dX5_isView_14 : decode cX5_isView 14 = .ok (.iconst 0, 1) := by decide +kernel
theorem dX5_isView_15 : decode cX5_isView 15 = .ok (.ireturn, 1) := by decide +kernel
theorem dX5_isPiece_0 : decode cX5_isPiece 0 = .ok (.iload_n 0, 1) := by decide +kernel
theorem dX5_isPiece_1 : decode cX5_isPiece 1 = .ok (.iconst 4, 1) := by decide +kernel
theorem dX5_isPiece_2 : decode cX5_isPiece 2 = .ok (.if_icmp .lt 13, 3) := by decide +kernel
theorem dX5_isPiece_5 : decode cX5_isPiece 5 = .ok (.iload_n 0, 1) := by decide +kernel
theorem dX5_isPiece_6 : decode cX5_isPiece 6 = .ok (.bipush 7, 2) := by decide +kernel
theorem dX5_isPiece_8 : decode cX5_isPiece 8 = .ok (.if_icmp .gt 7, 3) := by decide +kernel
theorem dX5_isPiece_11 : decode cX5_isPiece 11 = .ok (.iconst 1, 1) := by decide +kernel
theorem dX5_isPiece_12 : decode cX5_isPiece 12 = .ok (.goto 4, 3) := by decide +kernel
theorem dX5_isPiece_15 : decode cX5_isPiece 15 = .ok (.iconst 0, 1) := by decide +kernel
theorem dX5_isPiece_16 : decode cX5_isPiece 16 = .ok (.ireturn, 1) := by decide +kernel
theorem dX5_isRow_0 : decode cX5_isRow 0 = .ok (.iload_n 0, 1) := by decide +kernel
theorem dX5_isRow_1 : decode cX5_isRow 1 = .ok (.bipush 8, 2) := by decide +kernel
theorem dX5_isRow_3 : decode cX5_isRow 3 = .ok (.if_icmp .lt 13, 3) := by decide +kernel
theorem dX5_isRow_6 : decode cX5_isRow 6 = .ok (.iload_n 0, 1) := by decide +kernel
theorem dX5_isRow_7 : decode cX5_isRow 7 = .ok (.bipush 15, 2) := by decide +kernel
theorem dX5_isRow_9 : decode cX5_isRow 9 = .ok (.if_icmp .gt 7, 3) := by decide +kernel
theorem dX5_isRow_12 : decode cX5_isRow 12 = .ok (.iconst 1, 1) := by decide +kernel
theorem dX5_isRow_13 : decode cX5_isRow 13 = .ok (.goto 4, 3) := by decide +kernel
theorem dX5_isRow_16 : decode cX5_isRow 16 = .ok (.iconst 0, 1) := by decide +kernel
theorem dX5_isRow_17 : decode cX5_isRow 17 = .ok (.ireturn, 1) := by decide +kernel
theorem dX5_partView_0 : decode cX5_partView 0 = .ok (.iload_n 0, 1) := by decide +kernel
theorem dX5_partView_1 : decode cX5_partView 1 = .ok (.invokestatic 155, 3) := by decide +kernel
theorem dX5_partView_4 : decode cX5_partView 4 = .ok (.ifCond .eq 14, 3) := by decide +kernel
theorem dX5_partView_7 : decode cX5_partView 7 = .ok (.getstatic 167, 3) := by decide +kernel
theorem dX5_partView_10 : decode cX5_partView 10 = .ok (.iload_n 0, 1) := by decide +kernel
theorem dX5_partView_11 : decode cX5_partView 11 = .ok (.bipush 8, 2) := by decide +kernel
theorem dX5_partView_13 : decode cX5_partView 13 = .ok (.isub, 1) := by decide +kernel
theorem dX5_partView_14 : decode cX5_partView 14 = .ok (.iaload, 1) := by decide +kernel
theorem dX5_partView_15 : decode cX5_partView 15 = .ok (.goto 4, 3) := by decide +kernel
theorem dX5_partView_18 : decode cX5_partView 18 = .ok (.iconst (-1), 1) := by decide +kernel
theorem dX5_partView_19 : decode cX5_partView 19 = .ok (.ireturn, 1) := by decide +kernel
theorem dX6_init_0 : decode cX6_init 0 = .ok (.aload_n 0, 1) := by decide +kernel
theorem dX6_init_1 : decode cX6_init 1 = .ok (.invokespecial 1, 3) := by decide +kernel
theorem dX6_init_4 : decode cX6_init 4 = .ok (.aload_n 0, 1) := by decide +kernel
theorem dX6_init_5 : decode cX6_init 5 = .ok (.bipush 50, 2) := by decide +kernel
theorem dX6_init_7 : decode cX6_init 7 = .ok (.newarray .int, 2) := by decide +kernel
theorem dX6_init_9 : decode cX6_init 9 = .ok (.putfield 7, 3) := by decide +kernel
theorem dX6_init_12 : decode cX6_init 12 = .ok (.aload_n 0, 1) := by decide +kernel
theorem dX6_init_13 : decode cX6_init 13 = .ok (.bipush 50, 2) := by decide +kernel
theorem dX6_init_15 : decode cX6_init 15 = .ok (.newarray .int, 2) := by decide +kernel
theorem dX6_init_17 : decode cX6_init 17 = .ok (.putfield 13, 3) := by decide +kernel
theorem dX6_init_20 : decode cX6_init 20 = .ok (.aload_n 0, 1) := by decide +kernel
theorem dX6_init_21 : decode cX6_init 21 = .ok (.bipush 50, 2) := by decide +kernel
theorem dX6_init_23 : decode cX6_init 23 = .ok (.newarray .int, 2) := by decide +kernel
theorem dX6_init_25 : decode cX6_init 25 = .ok (.putfield 16, 3) := by decide +kernel
theorem dX6_init_28 : decode cX6_init 28 = .ok (.aload_n 0, 1) := by decide +kernel
theorem dX6_init_29 : decode cX6_init 29 = .ok (.sipush 750, 3) := by decide +kernel
theorem dX6_init_32 : decode cX6_init 32 = .ok (.newarray .long, 2) := by decide +kernel
theorem dX6_init_34 : decode cX6_init 34 = .ok (.putfield 19, 3) := by decide +kernel
theorem dX6_init_37 : decode cX6_init 37 = .ok (.aload_n 0, 1) := by decide +kernel
theorem dX6_init_38 : decode cX6_init 38 = .ok (.sipush 250, 3) := by decide +kernel
theorem dX6_init_41 : decode cX6_init 41 = .ok (.newarray .int, 2) := by decide +kernel
theorem dX6_init_43 : decode cX6_init 43 = .ok (.putfield 23, 3) := by decide +kernel
theorem dX6_init_46 : decode cX6_init 46 = .ok (.aload_n 0, 1) := by decide +kernel
theorem dX6_init_47 : decode cX6_init 47 = .ok (.bipush 10, 2) := by decide +kernel
theorem dX6_init_49 : decode cX6_init 49 = .ok (.newarray .int, 2) := by decide +kernel
theorem dX6_init_51 : decode cX6_init 51 = .ok (.putfield 26, 3) := by decide +kernel
theorem dX6_init_54 : decode cX6_init 54 = .ok (.aload_n 0, 1) := by decide +kernel
theorem dX6_init_55 : decode cX6_init 55 = .ok (.iconst (-1), 1) := by decide +kernel
theorem dX6_init_56 : decode cX6_init 56 = .ok (.putfield 29, 3) := by decide +kernel
theorem dX6_init_59 : decode cX6_init 59 = .ok (.aload_n 0, 1) := by decide +kernel
theorem dX6_init_60 : decode cX6_init 60 = .ok (.bipush 30, 2) := by decide +kernel
theorem dX6_init_62 : decode cX6_init 62 = .ok (.newarray .int, 2) := by decide +kernel
theorem dX6_init_64 : decode cX6_init 64 = .ok (.putfield 33, 3) := by decide +kernel
theorem dX6_init_67 : decode cX6_init 67 = .ok (.aload_n 0, 1) := by decide +kernel
theorem dX6_init_68 : decode cX6_init 68 = .ok (.bipush 30, 2) := by decide +kernel
theorem dX6_init_70 : decode cX6_init 70 = .ok (.newarray .int, 2) := by decide +kernel
theorem dX6_init_72 : decode cX6_init 72 = .ok (.putfield 36, 3) := by decide +kernel
theorem dX6_init_75 : decode cX6_init 75 = .ok (.aload_n 0, 1) := by decide +kernel
theorem dX6_init_76 : decode cX6_init 76 = .ok (.bipush 30, 2) := by decide +kernel
theorem dX6_init_78 : decode cX6_init 78 = .ok (.newarray .int, 2) := by decide +kernel
theorem dX6_init_80 : decode cX6_init 80 = .ok (.putfield 39, 3) := by decide +kernel
theorem dX6_init_83 : decode cX6_init 83 = .ok (.aload_n 0, 1) := by decide +kernel
theorem dX6_init_84 : decode cX6_init 84 = .ok (.bipush 30, 2) := by decide +kernel
theorem dX6_init_86 : decode cX6_init 86 = .ok (.newarray .int, 2) := by decide +kernel
theorem dX6_init_88 : decode cX6_init 88 = .ok (.putfield 42, 3) := by decide +kernel
theorem dX6_init_91 : decode cX6_init 91 = .ok (.aload_n 0, 1) := by decide +kernel
theorem dX6_init_92 : decode cX6_init 92 = .ok (.iconst (-1), 1) := by decide +kernel
theorem dX6_init_93 : decode cX6_init 93 = .ok (.putfield 45, 3) := by decide +kernel
theorem dX6_init_96 : decode cX6_init 96 = .ok (.iconst 0, 1) := by decide +kernel
theorem dX6_init_97 : decode cX6_init 97 = .ok (.istore_n 1, 1) := by decide +kernel
theorem dX6_init_98 : decode cX6_init 98 = .ok (.iload_n 1, 1) := by decide +kernel
theorem dX6_init_99 : decode cX6_init 99 = .ok (.bipush 10, 2) := by decide +kernel
theorem dX6_init_101 : decode cX6_init 101 = .ok (.if_icmp .ge 16, 3) := by decide +kernel
theorem dX6_init_104 : decode cX6_init 104 = .ok (.aload_n 0, 1) := by decide +kernel
theorem dX6_init_105 : decode cX6_init 105 = .ok (.getfield 26, 3) := by decide +kernel
theorem dX6_init_108 : decode cX6_init 108 = .ok (.iload_n 1, 1) := by decide +kernel
theorem dX6_init_109 : decode cX6_init 109 = .ok (.iconst (-1), 1) := by decide +kernel
theorem dX6_init_110 : decode cX6_init 110 = .ok (.iastore, 1) := by decide +kernel
theorem dX6_init_111 : decode cX6_init 111 = .ok (.iinc 1 1, 3) := by decide +kernel
theorem dX6_init_114 : decode cX6_init 114 = .ok (.goto (-16), 3) := by decide +kernel
theorem dX6_init_117 : decode cX6_init 117 = .ok (.return_, 1) := by decide +kernel
theorem dX6_isIn_0 : decode cX6_isIn 0 = .ok (.iload_n 0, 1) := by decide +kernel
theorem dX6_isIn_1 : decode cX6_isIn 1 = .ok (.iload_n 1, 1) := by decide +kernel
theorem dX6_isIn_2 : decode cX6_isIn 2 = .ok (.if_icmp .lt 12, 3) := by decide +kernel
theorem dX6_isIn_5 : decode cX6_isIn 5 = .ok (.iload_n 0, 1) := by decide +kernel
theorem dX6_isIn_6 : decode cX6_isIn 6 = .ok (.iload_n 2, 1) := by decide +kernel
theorem dX6_isIn_7 : decode cX6_isIn 7 = .ok (.if_icmp .gt 7, 3) := by decide +kernel
theorem dX6_isIn_10 : decode cX6_isIn 10 = .ok (.iconst 1, 1) := by decide +kernel
theorem dX6_isIn_11 : decode cX6_isIn 11 = .ok (.goto 4, 3) := by decide +kernel
theorem dX6_isIn_14 : decode cX6_isIn 14 = .ok (.iconst 0, 1) := by decide +kernel
theorem dX6_isIn_15 : decode cX6_isIn 15 = .ok (.ireturn, 1) := by decide +kernel
theorem dX6_isProp_0 : decode cX6_isProp 0 = .ok (.iload_n 1, 1) := by decide +kernel
theorem dX6_isProp_1 : decode cX6_isProp 1 = .ok (.iconst 0, 1) := by decide +kernel
theorem dX6_isProp_2 : decode cX6_isProp 2 = .ok (.aload_n 0, 1) := by decide +kernel
theorem dX6_isProp_3 : decode cX6_isProp 3 = .ok (.getfield 48, 3) := by decide +kernel
theorem dX6_isProp_6 : decode cX6_isProp 6 = .ok (.iconst 1, 1) := by decide +kernel
theorem dX6_isProp_7 : decode cX6_isProp 7 = .ok (.isub, 1) := by decide +kernel
theorem dX6_isProp_8 : decode cX6_isProp 8 = .ok (.invokestatic 51, 3) := by decide +kernel
theorem dX6_isProp_11 : decode cX6_isProp 11 = .ok (.ireturn, 1) := by decide +kernel
theorem dX6_isView_0 : decode cX6_isView 0 = .ok (.iload_n 0, 1) := by decide +kernel
theorem dX6_isView_1 : decode cX6_isView 1 = .ok (.iconst 0, 1) := by decide +kernel
theorem dX6_isView_2 : decode cX6_isView 2 = .ok (.bipush 16, 2) := by decide +kernel
theorem dX6_isView_4 : decode cX6_isView 4 = .ok (.invokestatic 51, 3) := by decide +kernel
theorem dX6_isView_7 : decode cX6_isView 7 = .ok (.ireturn, 1) := by decide +kernel
theorem dX6_isSlot_0 : decode cX6_isSlot 0 = .ok (.iload_n 0, 1) := by decide +kernel
theorem dX6_isSlot_1 : decode cX6_isSlot 1 = .ok (.iconst 0, 1) := by decide +kernel
theorem dX6_isSlot_2 : decode cX6_isSlot 2 = .ok (.bipush 9, 2) := by decide +kernel
theorem dX6_isSlot_4 : decode cX6_isSlot 4 = .ok (.invokestatic 51, 3) := by decide +kernel
theorem dX6_isSlot_7 : decode cX6_isSlot 7 = .ok (.ireturn, 1) := by decide +kernel
theorem dX6_isSingle_0 : decode cX6_isSingle 0 = .ok (.iload_n 0, 1) := by decide +kernel
theorem dX6_isSingle_1 : decode cX6_isSingle 1 = .ok (.iconst 4, 1) := by decide +kernel
theorem dX6_isSingle_2 : decode cX6_isSingle 2 = .ok (.bipush 7, 2) := by decide +kernel
theorem dX6_isSingle_4 : decode cX6_isSingle 4 = .ok (.invokestatic 51, 3) := by decide +kernel
theorem dX6_isSingle_7 : decode cX6_isSingle 7 = .ok (.ireturn, 1) := by decide +kernel
theorem dX6_isRow_0 : decode cX6_isRow 0 = .ok (.iload_n 0, 1) := by decide +kernel
theorem dX6_isRow_1 : decode cX6_isRow 1 = .ok (.bipush 8, 2) := by decide +kernel
theorem dX6_isRow_3 : decode cX6_isRow 3 = .ok (.bipush 15, 2) := by decide +kernel
theorem dX6_isRow_5 : decode cX6_isRow 5 = .ok (.invokestatic 51, 3) := by decide +kernel
theorem dX6_isRow_8 : decode cX6_isRow 8 = .ok (.ireturn, 1) := by decide +kernel
theorem dX6_goesAs_0 : decode cX6_goesAs 0 = .ok (.iload_n 0, 1) := by decide +kernel
theorem dX6_goesAs_1 : decode cX6_goesAs 1 = .ok (.iload_n 1, 1) := by decide +kernel
theorem dX6_goesAs_2 : decode cX6_goesAs 2 = .ok (.if_icmp .ne 5, 3) := by decide +kernel
theorem dX6_goesAs_5 : decode cX6_goesAs 5 = .ok (.iconst 1, 1) := by decide +kernel
theorem dX6_goesAs_6 : decode cX6_goesAs 6 = .ok (.ireturn, 1) := by decide +kernel
theorem dX6_goesAs_7 : decode cX6_goesAs 7 = .ok (.iload_n 0, 1) := by decide +kernel
theorem dX6_goesAs_8 : decode cX6_goesAs 8 = .ok (.tableswitch 156 5 14 #[56, 67, 84, 156, 96, 108, 156, 126, 156, 138], 56) := by decide +kernel
theorem dX6_goesAs_64 : decode cX6_goesAs 64 = .ok (.iload_n 1, 1) := by decide +kernel
theorem dX6_goesAs_65 : decode cX6_goesAs 65 = .ok (.iconst 4, 1) := by decide +kernel
theorem dX6_goesAs_66 : decode cX6_goesAs 66 = .ok (.if_icmp .ne 7, 3) := by decide +kernel
theorem dX6_goesAs_69 : decode cX6_goesAs 69 = .ok (.iconst 1, 1) := by decide +kernel
theorem dX6_goesAs_70 : decode cX6_goesAs 70 = .ok (.goto 4, 3) := by decide +kernel
theorem dX6_goesAs_73 : decode cX6_goesAs 73 = .ok (.iconst 0, 1) := by decide +kernel
theorem dX6_goesAs_74 : decode cX6_goesAs 74 = .ok (.ireturn, 1) := by decide +kernel
theorem dX6_goesAs_75 : decode cX6_goesAs 75 = .ok (.iload_n 1, 1) := by decide +kernel
theorem dX6_goesAs_76 : decode cX6_goesAs 76 = .ok (.iconst 4, 1) := by decide +kernel
theorem dX6_goesAs_77 : decode cX6_goesAs 77 = .ok (.if_icmp .eq 9, 3) := by decide +kernel
theorem dX6_goesAs_80 : decode cX6_goesAs 80 = .ok (.iload_n 1, 1) := by decide +kernel
theorem dX6_goesAs_81 : decode cX6_goesAs 81 = .ok (.bipush 16, 2) := by decide +kernel
theorem dX6_goesAs_83 : decode cX6_goesAs 83 = .ok (.if_icmp .ne 7, 3) := by decide +kernel
theorem dX6_goesAs_86 : decode cX6_goesAs 86 = .ok (.iconst 1, 1) := by decide +kernel
theorem dX6_goesAs_87 : decode cX6_goesAs 87 = .ok (.goto 4, 3) := by decide +kernel
theorem dX6_goesAs_90 : decode cX6_goesAs 90 = .ok (.iconst 0, 1) := by decide +kernel
theorem dX6_goesAs_91 : decode cX6_goesAs 91 = .ok (.ireturn, 1) := by decide +kernel
theorem dX6_goesAs_92 : decode cX6_goesAs 92 = .ok (.iload_n 1, 1) := by decide +kernel
theorem dX6_goesAs_93 : decode cX6_goesAs 93 = .ok (.bipush 16, 2) := by decide +kernel
theorem dX6_goesAs_95 : decode cX6_goesAs 95 = .ok (.if_icmp .ne 7, 3) := by decide +kernel
theorem dX6_goesAs_98 : decode cX6_goesAs 98 = .ok (.iconst 1, 1) := by decide +kernel
theorem dX6_goesAs_99 : decode cX6_goesAs 99 = .ok (.goto 4, 3) := by decide +kernel
theorem dX6_goesAs_102 : decode cX6_goesAs 102 = .ok (.iconst 0, 1) := by decide +kernel
theorem dX6_goesAs_103 : decode cX6_goesAs 103 = .ok (.ireturn, 1) := by decide +kernel
theorem dX6_goesAs_104 : decode cX6_goesAs 104 = .ok (.iload_n 1, 1) := by decide +kernel
theorem dX6_goesAs_105 : decode cX6_goesAs 105 = .ok (.bipush 8, 2) := by decide +kernel
theorem dX6_goesAs_107 : decode cX6_goesAs 107 = .ok (.if_icmp .ne 7, 3) := by decide +kernel
theorem dX6_goesAs_110 : decode cX6_goesAs 110 = .ok (.iconst 1, 1) := by decide +kernel
theorem dX6_goesAs_111 : decode cX6_goesAs 111 = .ok (.goto 4, 3) := by decide +kernel
theorem dX6_goesAs_114 : decode cX6_goesAs 114 = .ok (.iconst 0, 1) := by decide +kernel
theorem dX6_goesAs_115 : decode cX6_goesAs 115 = .ok (.ireturn, 1) := by decide +kernel
theorem dX6_goesAs_116 : decode cX6_goesAs 116 = .ok (.iload_n 1, 1) := by decide +kernel
theorem dX6_goesAs_117 : decode cX6_goesAs 117 = .ok (.bipush 8, 2) := by decide +kernel
theorem dX6_goesAs_119 : decode cX6_goesAs 119 = .ok (.if_icmp .eq 9, 3) := by decide +kernel
theorem dX6_goesAs_122 : decode cX6_goesAs 122 = .ok (.iload_n 1, 1) := by decide +kernel
theorem dX6_goesAs_123 : decode cX6_goesAs 123 = .ok (.bipush 11, 2) := by decide +kernel
theorem dX6_goesAs_125 : decode cX6_goesAs 125 = .ok (.if_icmp .ne 7, 3) := by decide +kernel
theorem dX6_goesAs_128 : decode cX6_goesAs 128 = .ok (.iconst 1, 1) := by decide +kernel
theorem dX6_goesAs_129 : decode cX6_goesAs 129 = .ok (.goto 4, 3) := by decide +kernel
theorem dX6_goesAs_132 : decode cX6_goesAs 132 = .ok (.iconst 0, 1) := by decide +kernel
theorem dX6_goesAs_133 : decode cX6_goesAs 133 = .ok (.ireturn, 1) := by decide +kernel
theorem dX6_goesAs_134 : decode cX6_goesAs 134 = .ok (.iload_n 1, 1) := by decide +kernel
theorem dX6_goesAs_135 : decode cX6_goesAs 135 = .ok (.bipush 11, 2) := by decide +kernel
theorem dX6_goesAs_137 : decode cX6_goesAs 137 = .ok (.if_icmp .ne 7, 3) := by decide +kernel
theorem dX6_goesAs_140 : decode cX6_goesAs 140 = .ok (.iconst 1, 1) := by decide +kernel
theorem dX6_goesAs_141 : decode cX6_goesAs 141 = .ok (.goto 4, 3) := by decide +kernel
theorem dX6_goesAs_144 : decode cX6_goesAs 144 = .ok (.iconst 0, 1) := by decide +kernel
theorem dX6_goesAs_145 : decode cX6_goesAs 145 = .ok (.ireturn, 1) := by decide +kernel
theorem dX6_goesAs_146 : decode cX6_goesAs 146 = .ok (.iload_n 1, 1) := by decide +kernel
theorem dX6_goesAs_147 : decode cX6_goesAs 147 = .ok (.bipush 13, 2) := by decide +kernel
theorem dX6_goesAs_149 : decode cX6_goesAs 149 = .ok (.if_icmp .eq 9, 3) := by decide +kernel
theorem dX6_goesAs_152 : decode cX6_goesAs 152 = .ok (.iload_n 1, 1) := by decide +kernel
theorem dX6_goesAs_153 : decode cX6_goesAs 153 = .ok (.bipush 15, 2) := by decide +kernel
theorem dX6_goesAs_155 : decode cX6_goesAs 155 = .ok (.if_icmp .ne 7, 3) := by decide +kernel
theorem dX6_goesAs_158 : decode cX6_goesAs 158 = .ok (.iconst 1, 1) := by decide +kernel
theorem dX6_goesAs_159 : decode cX6_goesAs 159 = .ok (.goto 4, 3) := by decide +kernel
theorem dX6_goesAs_162 : decode cX6_goesAs 162 = .ok (.iconst 0, 1) := by decide +kernel
theorem dX6_goesAs_163 : decode cX6_goesAs 163 = .ok (.ireturn, 1) := by decide +kernel
theorem dX6_goesAs_164 : decode cX6_goesAs 164 = .ok (.iconst 0, 1) := by decide +kernel
theorem dX6_goesAs_165 : decode cX6_goesAs 165 = .ok (.ireturn, 1) := by decide +kernel
theorem dX6_goes_0 : decode cX6_goes 0 = .ok (.iload_n 1, 1) := by decide +kernel
theorem dX6_goes_1 : decode cX6_goes 1 = .ok (.iconst (-1), 1) := by decide +kernel
theorem dX6_goes_2 : decode cX6_goes 2 = .ok (.if_icmp .eq 16, 3) := by decide +kernel
theorem dX6_goes_5 : decode cX6_goes 5 = .ok (.aload_n 0, 1) := by decide +kernel
theorem dX6_goes_6 : decode cX6_goes 6 = .ok (.getfield 7, 3) := by decide +kernel
theorem dX6_goes_9 : decode cX6_goes 9 = .ok (.iload_n 1, 1) := by decide +kernel
theorem dX6_goes_10 : decode cX6_goes 10 = .ok (.iaload, 1) := by decide +kernel
theorem dX6_goes_11 : decode cX6_goes 11 = .ok (.iload_n 2, 1) := by decide +kernel
theorem dX6_goes_12 : decode cX6_goes 12 = .ok (.invokestatic 55, 3) := by decide +kernel
theorem dX6_goes_15 : decode cX6_goes 15 = .ok (.ifCond .eq 7, 3) := by decide +kernel
theorem dX6_goes_18 : decode cX6_goes 18 = .ok (.iconst 1, 1) := by decide +kernel
theorem dX6_goes_19 : decode cX6_goes 19 = .ok (.goto 4, 3) := by decide +kernel
theorem dX6_goes_22 : decode cX6_goes 22 = .ok (.iconst 0, 1) := by decide +kernel
theorem dX6_goes_23 : decode cX6_goes 23 = .ok (.ireturn, 1) := by decide +kernel
theorem dX6_prop_0 : decode cX6_prop 0 = .ok (.iload_n 1, 1) := by decide +kernel
theorem dX6_prop_1 : decode cX6_prop 1 = .ok (.iconst 0, 1) := by decide +kernel
theorem dX6_prop_2 : decode cX6_prop 2 = .ok (.bipush 15, 2) := by decide +kernel
theorem dX6_prop_4 : decode cX6_prop 4 = .ok (.invokestatic 51, 3) := by decide +kernel
theorem dX6_prop_7 : decode cX6_prop 7 = .ok (.ifCond .eq 24, 3) := by decide +kernel
theorem dX6_prop_10 : decode cX6_prop 10 = .ok (.iload_n 2, 1) := by decide +kernel
theorem dX6_prop_11 : decode cX6_prop 11 = .ok (.iconst 0, 1) := by decide +kernel
theorem dX6_prop_12 : decode cX6_prop 12 = .ok (.iload_n 1, 1) := by decide +kernel
theorem dX6_prop_13 : decode cX6_prop 13 = .ok (.invokestatic 59, 3) := by decide +kernel
theorem dX6_prop_16 : decode cX6_prop 16 = .ok (.ifCond .eq 8, 3) := by decide +kernel
theorem dX6_prop_19 : decode cX6_prop 19 = .ok (.bipush 100, 2) := by decide +kernel
theorem dX6_prop_21 : decode cX6_prop 21 = .ok (.goto 4, 3) := by decide +kernel
theorem dX6_prop_24 : decode cX6_prop 24 = .ok (.iconst 5, 1) := by decide +kernel
theorem dX6_prop_25 : decode cX6_prop 25 = .ok (.invokestatic 51, 3) := by decide +kernel
theorem dX6_prop_28 : decode cX6_prop 28 = .ok (.ifCond .ne 6, 3) := by decide +kernel
theorem dX6_prop_31 : decode cX6_prop 31 = .ok (.bipush (-2), 2) := by decide +kernel
theorem dX6_prop_33 : decode cX6_prop 33 = .ok (.ireturn, 1) := by decide +kernel
theorem dX6_prop_34 : decode cX6_prop 34 = .ok (.aload_n 0, 1) := by decide +kernel
theorem dX6_prop_35 : decode cX6_prop 35 = .ok (.getfield 48, 3) := by decide +kernel
theorem dX6_prop_38 : decode cX6_prop 38 = .ok (.bipush 50, 2) := by decide +kernel
theorem dX6_prop_40 : decode cX6_prop 40 = .ok (.if_icmp .ne 6, 3) := by decide +kernel
theorem dX6_prop_43 : decode cX6_prop 43 = .ok (.bipush (-3), 2) := by decide +kernel
theorem dX6_prop_45 : decode cX6_prop 45 = .ok (.ireturn, 1) := by decide +kernel
theorem dX6_prop_46 : decode cX6_prop 46 = .ok (.aload_n 0, 1) := by decide +kernel
theorem dX6_prop_47 : decode cX6_prop 47 = .ok (.getfield 7, 3) := by decide +kernel
theorem dX6_prop_50 : decode cX6_prop 50 = .ok (.aload_n 0, 1) := by decide +kernel
theorem dX6_prop_51 : decode cX6_prop 51 = .ok (.getfield 48, 3) := by decide +kernel
theorem dX6_prop_54 : decode cX6_prop 54 = .ok (.iload_n 1, 1) := by decide +kernel
theorem dX6_prop_55 : decode cX6_prop 55 = .ok (.iastore, 1) := by decide +kernel
theorem dX6_prop_56 : decode cX6_prop 56 = .ok (.aload_n 0, 1) := by decide +kernel
theorem dX6_prop_57 : decode cX6_prop 57 = .ok (.getfield 13, 3) := by decide +kernel
theorem dX6_prop_60 : decode cX6_prop 60 = .ok (.aload_n 0, 1) := by decide +kernel
theorem dX6_prop_61 : decode cX6_prop 61 = .ok (.getfield 48, 3) := by decide +kernel
theorem dX6_prop_64 : decode cX6_prop 64 = .ok (.iload_n 2, 1) := by decide +kernel
theorem dX6_prop_65 : decode cX6_prop 65 = .ok (.iastore, 1) := by decide +kernel
theorem dX6_prop_66 : decode cX6_prop 66 = .ok (.aload_n 0, 1) := by decide +kernel
theorem dX6_prop_67 : decode cX6_prop 67 = .ok (.getfield 16, 3) := by decide +kernel
theorem dX6_prop_70 : decode cX6_prop 70 = .ok (.aload_n 0, 1) := by decide +kernel
theorem dX6_prop_71 : decode cX6_prop 71 = .ok (.getfield 48, 3) := by decide +kernel
theorem dX6_prop_74 : decode cX6_prop 74 = .ok (.iconst 0, 1) := by decide +kernel
theorem dX6_prop_75 : decode cX6_prop 75 = .ok (.iastore, 1) := by decide +kernel
theorem dX6_prop_76 : decode cX6_prop 76 = .ok (.iconst 0, 1) := by decide +kernel
theorem dX6_prop_77 : decode cX6_prop 77 = .ok (.istore_n 3, 1) := by decide +kernel
theorem dX6_prop_78 : decode cX6_prop 78 = .ok (.iload_n 3, 1) := by decide +kernel
theorem dX6_prop_79 : decode cX6_prop 79 = .ok (.bipush 15, 2) := by decide +kernel
theorem dX6_prop_81 : decode cX6_prop 81 = .ok (.if_icmp .ge 24, 3) := by decide +kernel
theorem dX6_prop_84 : decode cX6_prop 84 = .ok (.aload_n 0, 1) := by decide +kernel
theorem dX6_prop_85 : decode cX6_prop 85 = .ok (.getfield 19, 3) := by decide +kernel
theorem dX6_prop_88 : decode cX6_prop 88 = .ok (.bipush 15, 2) := by decide +kernel
theorem dX6_prop_90 : decode cX6_prop 90 = .ok (.aload_n 0, 1) := by decide +kernel
theorem dX6_prop_91 : decode cX6_prop 91 = .ok (.getfield 48, 3) := by decide +kernel
theorem dX6_prop_94 : decode cX6_prop 94 = .ok (.imul, 1) := by decide +kernel
theorem dX6_prop_95 : decode cX6_prop 95 = .ok (.iload_n 3, 1) := by decide +kernel
theorem dX6_prop_96 : decode cX6_prop 96 = .ok (.iadd, 1) := by decide +kernel
theorem dX6_prop_97 : decode cX6_prop 97 = .ok (.lconst 0, 1) := by decide +kernel
theorem dX6_prop_98 : decode cX6_prop 98 = .ok (.lastore, 1) := by decide +kernel
theorem dX6_prop_99 : decode cX6_prop 99 = .ok (.iinc 3 1, 3) := by decide +kernel
theorem dX6_prop_102 : decode cX6_prop 102 = .ok (.goto (-24), 3) := by decide +kernel
theorem dX6_prop_105 : decode cX6_prop 105 = .ok (.iconst 0, 1) := by decide +kernel
theorem dX6_prop_106 : decode cX6_prop 106 = .ok (.istore_n 3, 1) := by decide +kernel
theorem dX6_prop_107 : decode cX6_prop 107 = .ok (.iload_n 3, 1) := by decide +kernel
theorem dX6_prop_108 : decode cX6_prop 108 = .ok (.iconst 5, 1) := by decide +kernel
theorem dX6_prop_109 : decode cX6_prop 109 = .ok (.if_icmp .ge 23, 3) := by decide +kernel
theorem dX6_prop_112 : decode cX6_prop 112 = .ok (.aload_n 0, 1) := by decide +kernel
theorem dX6_prop_113 : decode cX6_prop 113 = .ok (.getfield 23, 3) := by decide +kernel
theorem dX6_prop_116 : decode cX6_prop 116 = .ok (.iconst 5, 1) := by decide +kernel
theorem dX6_prop_117 : decode cX6_prop 117 = .ok (.aload_n 0, 1) := by decide +kernel
theorem dX6_prop_118 : decode cX6_prop 118 = .ok (.getfield 48, 3) := by decide +kernel
theorem dX6_prop_121 : decode cX6_prop 121 = .ok (.imul, 1) := by decide +kernel
theorem dX6_prop_122 : decode cX6_prop 122 = .ok (.iload_n 3, 1) := by decide +kernel
theorem dX6_prop_123 : decode cX6_prop 123 = .ok (.iadd, 1) := by decide +kernel
theorem dX6_prop_124 : decode cX6_prop 124 = .ok (.iconst (-1), 1) := by decide +kernel
theorem dX6_prop_125 : decode cX6_prop 125 = .ok (.iastore, 1) := by decide +kernel
theorem dX6_prop_126 : decode cX6_prop 126 = .ok (.iinc 3 1, 3) := by decide +kernel
theorem dX6_prop_129 : decode cX6_prop 129 = .ok (.goto (-22), 3) := by decide +kernel
theorem dX6_prop_132 : decode cX6_prop 132 = .ok (.aload_n 0, 1) := by decide +kernel
theorem dX6_prop_133 : decode cX6_prop 133 = .ok (.dup, 1) := by decide +kernel
theorem dX6_prop_134 : decode cX6_prop 134 = .ok (.getfield 48, 3) := by decide +kernel
theorem dX6_prop_137 : decode cX6_prop 137 = .ok (.iconst 1, 1) := by decide +kernel
theorem dX6_prop_138 : decode cX6_prop 138 = .ok (.iadd, 1) := by decide +kernel
theorem dX6_prop_139 : decode cX6_prop 139 = .ok (.putfield 48, 3) := by decide +kernel
theorem dX6_prop_142 : decode cX6_prop 142 = .ok (.aload_n 0, 1) := by decide +kernel
theorem dX6_prop_143 : decode cX6_prop 143 = .ok (.getfield 48, 3) := by decide +kernel
theorem dX6_prop_146 : decode cX6_prop 146 = .ok (.iconst 1, 1) := by decide +kernel
theorem dX6_prop_147 : decode cX6_prop 147 = .ok (.isub, 1) := by decide +kernel
theorem dX6_prop_148 : decode cX6_prop 148 = .ok (.ireturn, 1) := by decide +kernel
theorem dX6_many_0 : decode cX6_many 0 = .ok (.aload_n 0, 1) := by decide +kernel
theorem dX6_many_1 : decode cX6_many 1 = .ok (.getfield 7, 3) := by decide +kernel
theorem dX6_many_4 : decode cX6_many 4 = .ok (.iload_n 1, 1) := by decide +kernel
theorem dX6_many_5 : decode cX6_many 5 = .ok (.iaload, 1) := by decide +kernel
theorem dX6_many_6 : decode cX6_many 6 = .ok (.iconst 3, 1) := by decide +kernel
theorem dX6_many_7 : decode cX6_many 7 = .ok (.if_icmp .ne 14, 3) := by decide +kernel
theorem dX6_many_10 : decode cX6_many 10 = .ok (.iconst 3, 1) := by decide +kernel
theorem dX6_many_11 : decode cX6_many 11 = .ok (.aload_n 0, 1) := by decide +kernel
theorem dX6_many_12 : decode cX6_many 12 = .ok (.getfield 13, 3) := by decide +kernel
theorem dX6_many_15 : decode cX6_many 15 = .ok (.iload_n 1, 1) := by decide +kernel
theorem dX6_many_16 : decode cX6_many 16 = .ok (.iaload, 1) := by decide +kernel
theorem dX6_many_17 : decode cX6_many 17 = .ok (.imul, 1) := by decide +kernel
theorem dX6_many_18 : decode cX6_many 18 = .ok (.goto 9, 3) := by decide +kernel
theorem dX6_many_21 : decode cX6_many 21 = .ok (.aload_n 0, 1) := by decide +kernel
theorem dX6_many_22 : decode cX6_many 22 = .ok (.getfield 13, 3) := by decide +kernel
theorem dX6_many_25 : decode cX6_many 25 = .ok (.iload_n 1, 1) := by decide +kernel
theorem dX6_many_26 : decode cX6_many 26 = .ok (.iaload, 1) := by decide +kernel
theorem dX6_many_27 : decode cX6_many 27 = .ok (.ireturn, 1) := by decide +kernel
theorem dX6_set_0 : decode cX6_set 0 = .ok (.aload_n 0, 1) := by decide +kernel
theorem dX6_set_1 : decode cX6_set 1 = .ok (.iload_n 1, 1) := by decide +kernel
theorem dX6_set_2 : decode cX6_set 2 = .ok (.invokevirtual 63, 3) := by decide +kernel
theorem dX6_set_5 : decode cX6_set 5 = .ok (.ifCond .ne 6, 3) := by decide +kernel
theorem dX6_set_8 : decode cX6_set 8 = .ok (.bipush (-2), 2) := by decide +kernel
theorem dX6_set_10 : decode cX6_set 10 = .ok (.ireturn, 1) := by decide +kernel
theorem dX6_set_11 : decode cX6_set 11 = .ok (.aload_n 0, 1) := by decide +kernel
theorem dX6_set_12 : decode cX6_set 12 = .ok (.getfield 7, 3) := by decide +kernel
theorem dX6_set_15 : decode cX6_set 15 = .ok (.iload_n 1, 1) := by decide +kernel
theorem dX6_set_16 : decode cX6_set 16 = .ok (.iaload, 1) := by decide +kernel
theorem dX6_set_17 : decode cX6_set 17 = .ok (.iconst 3, 1) := by decide +kernel
theorem dX6_set_18 : decode cX6_set 18 = .ok (.if_icmp .le 6, 3) := by decide +kernel
theorem dX6_set_21 : decode cX6_set 21 = .ok (.bipush (-5), 2) := by decide +kernel
theorem dX6_set_23 : decode cX6_set 23 = .ok (.ireturn, 1) := by decide +kernel
theorem dX6_set_24 : decode cX6_set 24 = .ok (.iload_n 2, 1) := by decide +kernel
theorem dX6_set_25 : decode cX6_set 25 = .ok (.iconst 0, 1) := by decide +kernel
theorem dX6_set_26 : decode cX6_set 26 = .ok (.aload_n 0, 1) := by decide +kernel
theorem dX6_set_27 : decode cX6_set 27 = .ok (.iload_n 1, 1) := by decide +kernel
theorem dX6_set_28 : decode cX6_set 28 = .ok (.invokevirtual 66, 3) := by decide +kernel
theorem dX6_set_31 : decode cX6_set 31 = .ok (.iconst 1, 1) := by decide +kernel
theorem dX6_set_32 : decode cX6_set 32 = .ok (.isub, 1) := by decide +kernel
theorem dX6_set_33 : decode cX6_set 33 = .ok (.invokestatic 51, 3) := by decide +kernel
theorem dX6_set_36 : decode cX6_set 36 = .ok (.ifCond .ne 6, 3) := by decide +kernel
theorem dX6_set_39 : decode cX6_set 39 = .ok (.bipush (-6), 2) := by decide +kernel
theorem dX6_set_41 : decode cX6_set 41 = .ok (.ireturn, 1) := by decide +kernel
theorem dX6_set_42 : decode cX6_set 42 = .ok (.aload_n 0, 1) := by decide +kernel
theorem dX6_set_43 : decode cX6_set 43 = .ok (.getfield 19, 3) := by decide +kernel
theorem dX6_set_46 : decode cX6_set 46 = .ok (.bipush 15, 2) := by decide +kernel
theorem dX6_set_48 : decode cX6_set 48 = .ok (.iload_n 1, 1) := by decide +kernel
theorem dX6_set_49 : decode cX6_set 49 = .ok (.imul, 1) := by decide +kernel
theorem dX6_set_50 : decode cX6_set 50 = .ok (.iload_n 2, 1) := by decide +kernel
theorem dX6_set_51 : decode cX6_set 51 = .ok (.iadd, 1) := by decide +kernel
theorem dX6_set_52 : decode cX6_set 52 = .ok (.aload_n 0, 1) := by decide +kernel
theorem dX6_set_53 : decode cX6_set 53 = .ok (.getfield 7, 3) := by decide +kernel
theorem dX6_set_56 : decode cX6_set 56 = .ok (.iload_n 1, 1) := by decide +kernel
theorem dX6_set_57 : decode cX6_set 57 = .ok (.iaload, 1) := by decide +kernel
theorem dX6_set_58 : decode cX6_set 58 = .ok (.ifCond .ne 11, 3) := by decide +kernel
theorem dX6_set_61 : decode cX6_set 61 = .ok (.iload_n 3, 1) := by decide +kernel
theorem dX6_set_62 : decode cX6_set 62 = .ok (.ldc 70, 2) := by decide +kernel
theorem dX6_set_64 : decode cX6_set 64 = .ok (.iand, 1) := by decide +kernel
theorem dX6_set_65 : decode cX6_set 65 = .ok (.i2l, 1) := by decide +kernel
theorem dX6_set_66 : decode cX6_set 66 = .ok (.goto 37, 3) := by decide +kernel
theorem dX6_set_69 : decode cX6_set 69 = .ok (.aload_n 0, 1) := by decide +kernel
theorem dX6_set_70 : decode cX6_set 70 = .ok (.getfield 7, 3) := by decide +kernel
