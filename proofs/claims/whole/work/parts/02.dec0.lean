theorem dX0_init_0 : decode cX0_init 0 = .ok (.aload_n 0, 1) := by decide +kernel
theorem dX0_init_1 : decode cX0_init 1 = .ok (.invokespecial 1, 3) := by decide +kernel
theorem dX0_init_4 : decode cX0_init 4 = .ok (.aload_n 0, 1) := by decide +kernel
theorem dX0_init_5 : decode cX0_init 5 = .ok (.iload_n 1, 1) := by decide +kernel
theorem dX0_init_6 : decode cX0_init 6 = .ok (.putfield 7, 3) := by decide +kernel
theorem dX0_init_9 : decode cX0_init 9 = .ok (.aload_n 0, 1) := by decide +kernel
theorem dX0_init_10 : decode cX0_init 10 = .ok (.iload_n 2, 1) := by decide +kernel
theorem dX0_init_11 : decode cX0_init 11 = .ok (.putfield 13, 3) := by decide +kernel
theorem dX0_init_14 : decode cX0_init 14 = .ok (.aload_n 0, 1) := by decide +kernel
theorem dX0_init_15 : decode cX0_init 15 = .ok (.iload_n 3, 1) := by decide +kernel
theorem dX0_init_16 : decode cX0_init 16 = .ok (.putfield 16, 3) := by decide +kernel
theorem dX0_init_19 : decode cX0_init 19 = .ok (.aload_n 0, 1) := by decide +kernel
theorem dX0_init_20 : decode cX0_init 20 = .ok (.iload 4, 2) := by decide +kernel
theorem dX0_init_22 : decode cX0_init 22 = .ok (.putfield 19, 3) := by decide +kernel
theorem dX0_init_25 : decode cX0_init 25 = .ok (.return_, 1) := by decide +kernel
theorem dX1_init_0 : decode cX1_init 0 = .ok (.aload_n 0, 1) := by decide +kernel
theorem dX1_init_1 : decode cX1_init 1 = .ok (.iload_n 1, 1) := by decide +kernel
theorem dX1_init_2 : decode cX1_init 2 = .ok (.iload_n 2, 1) := by decide +kernel
theorem dX1_init_3 : decode cX1_init 3 = .ok (.invokespecial 3, 3) := by decide +kernel
theorem dX1_init_6 : decode cX1_init 6 = .ok (.aload_n 0, 1) := by decide +kernel
theorem dX1_init_7 : decode cX1_init 7 = .ok (.iload_n 3, 1) := by decide +kernel
theorem dX1_init_8 : decode cX1_init 8 = .ok (.newarray .long, 2) := by decide +kernel
theorem dX1_init_10 : decode cX1_init 10 = .ok (.putfield 9, 3) := by decide +kernel
theorem dX1_init_13 : decode cX1_init 13 = .ok (.return_, 1) := by decide +kernel
theorem dX1_put_0 : decode cX1_put 0 = .ok (.iload_n 1, 1) := by decide +kernel
theorem dX1_put_1 : decode cX1_put 1 = .ok (.ifCond .lt 12, 3) := by decide +kernel
theorem dX1_put_4 : decode cX1_put 4 = .ok (.iload_n 1, 1) := by decide +kernel
theorem dX1_put_5 : decode cX1_put 5 = .ok (.aload_n 0, 1) := by decide +kernel
theorem dX1_put_6 : decode cX1_put 6 = .ok (.getfield 9, 3) := by decide +kernel
theorem dX1_put_9 : decode cX1_put 9 = .ok (.arraylength, 1) := by decide +kernel
theorem dX1_put_10 : decode cX1_put 10 = .ok (.if_icmp .lt 5, 3) := by decide +kernel
theorem dX1_put_13 : decode cX1_put 13 = .ok (.iconst 0, 1) := by decide +kernel
theorem dX1_put_14 : decode cX1_put 14 = .ok (.ireturn, 1) := by decide +kernel
theorem dX1_put_15 : decode cX1_put 15 = .ok (.aload_n 0, 1) := by decide +kernel
theorem dX1_put_16 : decode cX1_put 16 = .ok (.getfield 9, 3) := by decide +kernel
theorem dX1_put_19 : decode cX1_put 19 = .ok (.iload_n 1, 1) := by decide +kernel
theorem dX1_put_20 : decode cX1_put 20 = .ok (.aload_n 0, 1) := by decide +kernel
theorem dX1_put_21 : decode cX1_put 21 = .ok (.iload_n 2, 1) := by decide +kernel
theorem dX1_put_22 : decode cX1_put 22 = .ok (.invokevirtual 15, 3) := by decide +kernel
theorem dX1_put_25 : decode cX1_put 25 = .ok (.lastore, 1) := by decide +kernel
theorem dX1_put_26 : decode cX1_put 26 = .ok (.iconst 1, 1) := by decide +kernel
theorem dX1_put_27 : decode cX1_put 27 = .ok (.ireturn, 1) := by decide +kernel
theorem dX1_cut_0 : decode cX1_cut 0 = .ok (.aload_n 0, 1) := by decide +kernel
theorem dX1_cut_1 : decode cX1_cut 1 = .ok (.getfield 19, 3) := by decide +kernel
theorem dX1_cut_4 : decode cX1_cut 4 = .ok (.tableswitch 44 0 3 #[32, 36, 44, 40], 32) := by decide +kernel
theorem dX1_cut_36 : decode cX1_cut 36 = .ok (.iload_n 1, 1) := by decide +kernel
theorem dX1_cut_37 : decode cX1_cut 37 = .ok (.i2c, 1) := by decide +kernel
theorem dX1_cut_38 : decode cX1_cut 38 = .ok (.i2l, 1) := by decide +kernel
theorem dX1_cut_39 : decode cX1_cut 39 = .ok (.lreturn, 1) := by decide +kernel
theorem dX1_cut_40 : decode cX1_cut 40 = .ok (.iload_n 1, 1) := by decide +kernel
theorem dX1_cut_41 : decode cX1_cut 41 = .ok (.i2s, 1) := by decide +kernel
theorem dX1_cut_42 : decode cX1_cut 42 = .ok (.i2l, 1) := by decide +kernel
theorem dX1_cut_43 : decode cX1_cut 43 = .ok (.lreturn, 1) := by decide +kernel
theorem dX1_cut_44 : decode cX1_cut 44 = .ok (.iload_n 1, 1) := by decide +kernel
theorem dX1_cut_45 : decode cX1_cut 45 = .ok (.i2b, 1) := by decide +kernel
theorem dX1_cut_46 : decode cX1_cut 46 = .ok (.i2l, 1) := by decide +kernel
theorem dX1_cut_47 : decode cX1_cut 47 = .ok (.lreturn, 1) := by decide +kernel
theorem dX1_cut_48 : decode cX1_cut 48 = .ok (.iload_n 1, 1) := by decide +kernel
theorem dX1_cut_49 : decode cX1_cut 49 = .ok (.i2l, 1) := by decide +kernel
theorem dX1_cut_50 : decode cX1_cut 50 = .ok (.lreturn, 1) := by decide +kernel
theorem dX1_worthBy_0 : decode cX1_worthBy 0 = .ok (.lconst 0, 1) := by decide +kernel
theorem dX1_worthBy_1 : decode cX1_worthBy 1 = .ok (.lstore_n 2, 1) := by decide +kernel
theorem dX1_worthBy_2 : decode cX1_worthBy 2 = .ok (.iconst 0, 1) := by decide +kernel
theorem dX1_worthBy_3 : decode cX1_worthBy 3 = .ok (.istore 4, 2) := by decide +kernel
theorem dX1_worthBy_5 : decode cX1_worthBy 5 = .ok (.iload 4, 2) := by decide +kernel
theorem dX1_worthBy_7 : decode cX1_worthBy 7 = .ok (.aload_n 0, 1) := by decide +kernel
theorem dX1_worthBy_8 : decode cX1_worthBy 8 = .ok (.getfield 9, 3) := by decide +kernel
theorem dX1_worthBy_11 : decode cX1_worthBy 11 = .ok (.arraylength, 1) := by decide +kernel
theorem dX1_worthBy_12 : decode cX1_worthBy 12 = .ok (.if_icmp .ge 19, 3) := by decide +kernel
theorem dX1_worthBy_15 : decode cX1_worthBy 15 = .ok (.lload_n 2, 1) := by decide +kernel
theorem dX1_worthBy_16 : decode cX1_worthBy 16 = .ok (.aload_n 0, 1) := by decide +kernel
theorem dX1_worthBy_17 : decode cX1_worthBy 17 = .ok (.getfield 9, 3) := by decide +kernel
theorem dX1_worthBy_20 : decode cX1_worthBy 20 = .ok (.iload 4, 2) := by decide +kernel
theorem dX1_worthBy_22 : decode cX1_worthBy 22 = .ok (.laload, 1) := by decide +kernel
theorem dX1_worthBy_23 : decode cX1_worthBy 23 = .ok (.ladd, 1) := by decide +kernel
theorem dX1_worthBy_24 : decode cX1_worthBy 24 = .ok (.lstore_n 2, 1) := by decide +kernel
theorem dX1_worthBy_25 : decode cX1_worthBy 25 = .ok (.iinc 4 1, 3) := by decide +kernel
theorem dX1_worthBy_28 : decode cX1_worthBy 28 = .ok (.goto (-23), 3) := by decide +kernel
theorem dX1_worthBy_31 : decode cX1_worthBy 31 = .ok (.lload_n 2, 1) := by decide +kernel
theorem dX1_worthBy_32 : decode cX1_worthBy 32 = .ok (.lreturn, 1) := by decide +kernel
theorem dX1_putOn_0 : decode cX1_putOn 0 = .ok (.return_, 1) := by decide +kernel
theorem dX2_init_0 : decode cX2_init 0 = .ok (.aload_n 0, 1) := by decide +kernel
theorem dX2_init_1 : decode cX2_init 1 = .ok (.iload_n 1, 1) := by decide +kernel
theorem dX2_init_2 : decode cX2_init 2 = .ok (.iload_n 2, 1) := by decide +kernel
theorem dX2_init_3 : decode cX2_init 3 = .ok (.invokespecial 3, 3) := by decide +kernel
theorem dX2_init_6 : decode cX2_init 6 = .ok (.aload_n 0, 1) := by decide +kernel
theorem dX2_init_7 : decode cX2_init 7 = .ok (.iload_n 3, 1) := by decide +kernel
theorem dX2_init_8 : decode cX2_init 8 = .ok (.putfield 9, 3) := by decide +kernel
theorem dX2_init_11 : decode cX2_init 11 = .ok (.return_, 1) := by decide +kernel
theorem dX2_worthBy_0 : decode cX2_worthBy 0 = .ok (.iload_n 1, 1) := by decide +kernel
theorem dX2_worthBy_1 : decode cX2_worthBy 1 = .ok (.tableswitch 136 4 16 #[67, 79, 89, 99, 136, 136, 136, 136, 136, 136, 136, 136, 105], 67) := by decide +kernel
theorem dX2_worthBy_68 : decode cX2_worthBy 68 = .ok (.aload_n 0, 1) := by decide +kernel
theorem dX2_worthBy_69 : decode cX2_worthBy 69 = .ok (.getfield 9, 3) := by decide +kernel
theorem dX2_worthBy_72 : decode cX2_worthBy 72 = .ok (.i2l, 1) := by decide +kernel
theorem dX2_worthBy_73 : decode cX2_worthBy 73 = .ok (.aload_n 0, 1) := by decide +kernel
theorem dX2_worthBy_74 : decode cX2_worthBy 74 = .ok (.getfield 15, 3) := by decide +kernel
theorem dX2_worthBy_77 : decode cX2_worthBy 77 = .ok (.i2l, 1) := by decide +kernel
theorem dX2_worthBy_78 : decode cX2_worthBy 78 = .ok (.ladd, 1) := by decide +kernel
theorem dX2_worthBy_79 : decode cX2_worthBy 79 = .ok (.lreturn, 1) := by decide +kernel
theorem dX2_worthBy_80 : decode cX2_worthBy 80 = .ok (.ldc2_w 18, 3) := by decide +kernel
theorem dX2_worthBy_83 : decode cX2_worthBy 83 = .ok (.aload_n 0, 1) := by decide +kernel
theorem dX2_worthBy_84 : decode cX2_worthBy 84 = .ok (.getfield 15, 3) := by decide +kernel
theorem dX2_worthBy_87 : decode cX2_worthBy 87 = .ok (.i2l, 1) := by decide +kernel
theorem dX2_worthBy_88 : decode cX2_worthBy 88 = .ok (.lmul, 1) := by decide +kernel
theorem dX2_worthBy_89 : decode cX2_worthBy 89 = .ok (.lreturn, 1) := by decide +kernel
theorem dX2_worthBy_90 : decode cX2_worthBy 90 = .ok (.ldc2_w 20, 3) := by decide +kernel
theorem dX2_worthBy_93 : decode cX2_worthBy 93 = .ok (.aload_n 0, 1) := by decide +kernel
theorem dX2_worthBy_94 : decode cX2_worthBy 94 = .ok (.getfield 9, 3) := by decide +kernel
theorem dX2_worthBy_97 : decode cX2_worthBy 97 = .ok (.i2l, 1) := by decide +kernel
theorem dX2_worthBy_98 : decode cX2_worthBy 98 = .ok (.lmul, 1) := by decide +kernel
theorem dX2_worthBy_99 : decode cX2_worthBy 99 = .ok (.lreturn, 1) := by decide +kernel
theorem dX2_worthBy_100 : decode cX2_worthBy 100 = .ok (.aload_n 0, 1) := by decide +kernel
theorem dX2_worthBy_101 : decode cX2_worthBy 101 = .ok (.getfield 9, 3) := by decide +kernel
theorem dX2_worthBy_104 : decode cX2_worthBy 104 = .ok (.i2l, 1) := by decide +kernel
theorem dX2_worthBy_105 : decode cX2_worthBy 105 = .ok (.lreturn, 1) := by decide +kernel
theorem dX2_worthBy_106 : decode cX2_worthBy 106 = .ok (.aload_n 0, 1) := by decide +kernel
theorem dX2_worthBy_107 : decode cX2_worthBy 107 = .ok (.getfield 22, 3) := by decide +kernel
theorem dX2_worthBy_110 : decode cX2_worthBy 110 = .ok (.bipush 6, 2) := by decide +kernel
theorem dX2_worthBy_112 : decode cX2_worthBy 112 = .ok (.if_icmp .ne 15, 3) := by decide +kernel
theorem dX2_worthBy_115 : decode cX2_worthBy 115 = .ok (.aload_n 0, 1) := by decide +kernel
theorem dX2_worthBy_116 : decode cX2_worthBy 116 = .ok (.getfield 9, 3) := by decide +kernel
theorem dX2_worthBy_119 : decode cX2_worthBy 119 = .ok (.i2l, 1) := by decide +kernel
theorem dX2_worthBy_120 : decode cX2_worthBy 120 = .ok (.ldc2_w 25, 3) := by decide +kernel
theorem dX2_worthBy_123 : decode cX2_worthBy 123 = .ok (.ladd, 1) := by decide +kernel
theorem dX2_worthBy_124 : decode cX2_worthBy 124 = .ok (.goto 12, 3) := by decide +kernel
theorem dX2_worthBy_127 : decode cX2_worthBy 127 = .ok (.ldc2_w 18, 3) := by decide +kernel
theorem dX2_worthBy_130 : decode cX2_worthBy 130 = .ok (.aload_n 0, 1) := by decide +kernel
theorem dX2_worthBy_131 : decode cX2_worthBy 131 = .ok (.getfield 9, 3) := by decide +kernel
theorem dX2_worthBy_134 : decode cX2_worthBy 134 = .ok (.i2l, 1) := by decide +kernel
theorem dX2_worthBy_135 : decode cX2_worthBy 135 = .ok (.lmul, 1) := by decide +kernel
theorem dX2_worthBy_136 : decode cX2_worthBy 136 = .ok (.lreturn, 1) := by decide +kernel
theorem dX2_worthBy_137 : decode cX2_worthBy 137 = .ok (.lconst 0, 1) := by decide +kernel
theorem dX2_worthBy_138 : decode cX2_worthBy 138 = .ok (.lreturn, 1) := by decide +kernel
theorem dX2_putOn_0 : decode cX2_putOn 0 = .ok (.aload_n 0, 1) := by decide +kernel
theorem dX2_putOn_1 : decode cX2_putOn 1 = .ok (.dup, 1) := by decide +kernel
theorem dX2_putOn_2 : decode cX2_putOn 2 = .ok (.getfield 15, 3) := by decide +kernel
theorem dX2_putOn_5 : decode cX2_putOn 5 = .ok (.iconst 1, 1) := by decide +kernel
theorem dX2_putOn_6 : decode cX2_putOn 6 = .ok (.iadd, 1) := by decide +kernel
theorem dX2_putOn_7 : decode cX2_putOn 7 = .ok (.putfield 15, 3) := by decide +kernel
theorem dX2_putOn_10 : decode cX2_putOn 10 = .ok (.return_, 1) := by decide +kernel
theorem dX3_init_0 : decode cX3_init 0 = .ok (.aload_n 0, 1) := by decide +kernel
theorem dX3_init_1 : decode cX3_init 1 = .ok (.invokespecial 1, 3) := by decide +kernel
theorem dX3_init_4 : decode cX3_init 4 = .ok (.aload_n 0, 1) := by decide +kernel
theorem dX3_init_5 : decode cX3_init 5 = .ok (.iload_n 1, 1) := by decide +kernel
theorem dX3_init_6 : decode cX3_init 6 = .ok (.putfield 7, 3) := by decide +kernel
theorem dX3_init_9 : decode cX3_init 9 = .ok (.aload_n 0, 1) := by decide +kernel
theorem dX3_init_10 : decode cX3_init 10 = .ok (.iload_n 2, 1) := by decide +kernel
theorem dX3_init_11 : decode cX3_init 11 = .ok (.putfield 13, 3) := by decide +kernel
theorem dX3_init_14 : decode cX3_init 14 = .ok (.return_, 1) := by decide +kernel
theorem dX4_init_0 : decode cX4_init 0 = .ok (.aload_n 0, 1) := by decide +kernel
theorem dX4_init_1 : decode cX4_init 1 = .ok (.iload_n 1, 1) := by decide +kernel
theorem dX4_init_2 : decode cX4_init 2 = .ok (.iload_n 2, 1) := by decide +kernel
theorem dX4_init_3 : decode cX4_init 3 = .ok (.invokespecial 1, 3) := by decide +kernel
theorem dX4_init_6 : decode cX4_init 6 = .ok (.aload_n 0, 1) := by decide +kernel
theorem dX4_init_7 : decode cX4_init 7 = .ok (.iload_n 3, 1) := by decide +kernel
theorem dX4_init_8 : decode cX4_init 8 = .ok (.anewarray 2, 3) := by decide +kernel
theorem dX4_init_11 : decode cX4_init 11 = .ok (.putfield 7, 3) := by decide +kernel
theorem dX4_init_14 : decode cX4_init 14 = .ok (.return_, 1) := by decide +kernel
theorem dX4_hasPlace_0 : decode cX4_hasPlace 0 = .ok (.iload_n 1, 1) := by decide +kernel
theorem dX4_hasPlace_1 : decode cX4_hasPlace 1 = .ok (.ifCond .lt 16, 3) := by decide +kernel
theorem dX4_hasPlace_4 : decode cX4_hasPlace 4 = .ok (.iload_n 1, 1) := by decide +kernel
theorem dX4_hasPlace_5 : decode cX4_hasPlace 5 = .ok (.aload_n 0, 1) := by decide +kernel
theorem dX4_hasPlace_6 : decode cX4_hasPlace 6 = .ok (.getfield 7, 3) := by decide +kernel
theorem dX4_hasPlace_9 : decode cX4_hasPlace 9 = .ok (.arraylength, 1) := by decide +kernel
theorem dX4_hasPlace_10 : decode cX4_hasPlace 10 = .ok (.if_icmp .ge 7, 3) := by decide +kernel
theorem dX4_hasPlace_13 : decode cX4_hasPlace 13 = .ok (.iconst 1, 1) := by decide +kernel
theorem dX4_hasPlace_14 : decode cX4_hasPlace 14 = .ok (.goto 4, 3) := by decide +kernel
theorem dX4_hasPlace_17 : decode cX4_hasPlace 17 = .ok (.iconst 0, 1) := by decide +kernel
theorem dX4_hasPlace_18 : decode cX4_hasPlace 18 = .ok (.ireturn, 1) := by decide +kernel
theorem dX4_worthBy_0 : decode cX4_worthBy 0 = .ok (.lconst 0, 1) := by decide +kernel
theorem dX4_worthBy_1 : decode cX4_worthBy 1 = .ok (.lstore_n 2, 1) := by decide +kernel
theorem dX4_worthBy_2 : decode cX4_worthBy 2 = .ok (.iload_n 1, 1) := by decide +kernel
theorem dX4_worthBy_3 : decode cX4_worthBy 3 = .ok (.invokestatic 13, 3) := by decide +kernel
theorem dX4_worthBy_6 : decode cX4_worthBy 6 = .ok (.ifCond .eq 52, 3) := by decide +kernel
theorem dX4_worthBy_9 : decode cX4_worthBy 9 = .ok (.iconst 0, 1) := by decide +kernel
theorem dX4_worthBy_10 : decode cX4_worthBy 10 = .ok (.istore 4, 2) := by decide +kernel
theorem dX4_worthBy_12 : decode cX4_worthBy 12 = .ok (.iload 4, 2) := by decide +kernel
theorem dX4_worthBy_14 : decode cX4_worthBy 14 = .ok (.aload_n 0, 1) := by decide +kernel
theorem dX4_worthBy_15 : decode cX4_worthBy 15 = .ok (.getfield 7, 3) := by decide +kernel
theorem dX4_worthBy_18 : decode cX4_worthBy 18 = .ok (.arraylength, 1) := by decide +kernel
theorem dX4_worthBy_19 : decode cX4_worthBy 19 = .ok (.if_icmp .ge 39, 3) := by decide +kernel
theorem dX4_worthBy_22 : decode cX4_worthBy 22 = .ok (.aload_n 0, 1) := by decide +kernel
theorem dX4_worthBy_23 : decode cX4_worthBy 23 = .ok (.getfield 7, 3) := by decide +kernel
theorem dX4_worthBy_26 : decode cX4_worthBy 26 = .ok (.iload 4, 2) := by decide +kernel
theorem dX4_worthBy_28 : decode cX4_worthBy 28 = .ok (.aaload, 1) := by decide +kernel
theorem dX4_worthBy_29 : decode cX4_worthBy 29 = .ok (.astore 5, 2) := by decide +kernel
theorem dX4_worthBy_31 : decode cX4_worthBy 31 = .ok (.lload_n 2, 1) := by decide +kernel
theorem dX4_worthBy_32 : decode cX4_worthBy 32 = .ok (.aload 5, 2) := by decide +kernel
theorem dX4_worthBy_34 : decode cX4_worthBy 34 = .ok (.ifnonnull 7, 3) := by decide +kernel
theorem dX4_worthBy_37 : decode cX4_worthBy 37 = .ok (.lconst 0, 1) := by decide +kernel
theorem dX4_worthBy_38 : decode cX4_worthBy 38 = .ok (.goto 12, 3) := by decide +kernel
theorem dX4_worthBy_41 : decode cX4_worthBy 41 = .ok (.aload 5, 2) := by decide +kernel
theorem dX4_worthBy_43 : decode cX4_worthBy 43 = .ok (.iload_n 1, 1) := by decide +kernel
theorem dX4_worthBy_44 : decode cX4_worthBy 44 = .ok (.invokestatic 19, 3) := by decide +kernel
theorem dX4_worthBy_47 : decode cX4_worthBy 47 = .ok (.invokevirtual 23, 3) := by decide +kernel
theorem dX4_worthBy_50 : decode cX4_worthBy 50 = .ok (.ladd, 1) := by decide +kernel
theorem dX4_worthBy_51 : decode cX4_worthBy 51 = .ok (.lstore_n 2, 1) := by decide +kernel
theorem dX4_worthBy_52 : decode cX4_worthBy 52 = .ok (.iinc 4 1, 3) := by decide +kernel
theorem dX4_worthBy_55 : decode cX4_worthBy 55 = .ok (.goto (-43), 3) := by decide +kernel
theorem dX4_worthBy_58 : decode cX4_worthBy 58 = .ok (.lload_n 2, 1) := by decide +kernel
theorem dX4_worthBy_59 : decode cX4_worthBy 59 = .ok (.lreturn, 1) := by decide +kernel
theorem dX4_putOn_0 : decode cX4_putOn 0 = .ok (.iload_n 1, 1) := by decide +kernel
theorem dX4_putOn_1 : decode cX4_putOn 1 = .ok (.invokestatic 13, 3) := by decide +kernel
theorem dX4_putOn_4 : decode cX4_putOn 4 = .ok (.ifCond .eq 39, 3) := by decide +kernel
theorem dX4_putOn_7 : decode cX4_putOn 7 = .ok (.iconst 0, 1) := by decide +kernel
theorem dX4_putOn_8 : decode cX4_putOn 8 = .ok (.istore_n 2, 1) := by decide +kernel
theorem dX4_putOn_9 : decode cX4_putOn 9 = .ok (.iload_n 2, 1) := by decide +kernel
theorem dX4_putOn_10 : decode cX4_putOn 10 = .ok (.aload_n 0, 1) := by decide +kernel
theorem dX4_putOn_11 : decode cX4_putOn 11 = .ok (.getfield 7, 3) := by decide +kernel
theorem dX4_putOn_14 : decode cX4_putOn 14 = .ok (.arraylength, 1) := by decide +kernel
theorem dX4_putOn_15 : decode cX4_putOn 15 = .ok (.if_icmp .ge 28, 3) := by decide +kernel
theorem dX4_putOn_18 : decode cX4_putOn 18 = .ok (.aload_n 0, 1) := by decide +kernel
theorem dX4_putOn_19 : decode cX4_putOn 19 = .ok (.getfield 7, 3) := by decide +kernel
theorem dX4_putOn_22 : decode cX4_putOn 22 = .ok (.iload_n 2, 1) := by decide +kernel
theorem dX4_putOn_23 : decode cX4_putOn 23 = .ok (.aaload, 1) := by decide +kernel
theorem dX4_putOn_24 : decode cX4_putOn 24 = .ok (.astore_n 3, 1) := by decide +kernel
theorem dX4_putOn_25 : decode cX4_putOn 25 = .ok (.aload_n 3, 1) := by decide +kernel
theorem dX4_putOn_26 : decode cX4_putOn 26 = .ok (.ifnull 11, 3) := by decide +kernel
theorem dX4_putOn_29 : decode cX4_putOn 29 = .ok (.aload_n 3, 1) := by decide +kernel
theorem dX4_putOn_30 : decode cX4_putOn 30 = .ok (.iload_n 1, 1) := by decide +kernel
theorem dX4_putOn_31 : decode cX4_putOn 31 = .ok (.invokestatic 19, 3) := by decide +kernel
theorem dX4_putOn_34 : decode cX4_putOn 34 = .ok (.invokevirtual 27, 3) := by decide +kernel
theorem dX4_putOn_37 : decode cX4_putOn 37 = .ok (.iinc 2 1, 3) := by decide +kernel
theorem dX4_putOn_40 : decode cX4_putOn 40 = .ok (.goto (-31), 3) := by decide +kernel
theorem dX4_putOn_43 : decode cX4_putOn 43 = .ok (.return_, 1) := by decide +kernel
theorem dX5_init_0 : decode cX5_init 0 = .ok (.aload_n 0, 1) := by decide +kernel
theorem dX5_init_1 : decode cX5_init 1 = .ok (.invokespecial 3, 3) := by decide +kernel
theorem dX5_init_4 : decode cX5_init 4 = .ok (.aload_n 0, 1) := by decide +kernel
theorem dX5_init_5 : decode cX5_init 5 = .ok (.bipush 50, 2) := by decide +kernel
theorem dX5_init_7 : decode cX5_init 7 = .ok (.anewarray 9, 3) := by decide +kernel
theorem dX5_init_10 : decode cX5_init 10 = .ok (.putfield 11, 3) := by decide +kernel
theorem dX5_init_13 : decode cX5_init 13 = .ok (.aload_n 0, 1) := by decide +kernel
theorem dX5_init_14 : decode cX5_init 14 = .ok (.bipush 10, 2) := by decide +kernel
theorem dX5_init_16 : decode cX5_init 16 = .ok (.anewarray 9, 3) := by decide +kernel
theorem dX5_init_19 : decode cX5_init 19 = .ok (.putfield 15, 3) := by decide +kernel
theorem dX5_init_22 : decode cX5_init 22 = .ok (.aload_n 0, 1) := by decide +kernel
theorem dX5_init_23 : decode cX5_init 23 = .ok (.bipush 30, 2) := by decide +kernel
theorem dX5_init_25 : decode cX5_init 25 = .ok (.anewarray 18, 3) := by decide +kernel
theorem dX5_init_28 : decode cX5_init 28 = .ok (.putfield 20, 3) := by decide +kernel
theorem dX5_init_31 : decode cX5_init 31 = .ok (.aload_n 0, 1) := by decide +kernel
theorem dX5_init_32 : decode cX5_init 32 = .ok (.iconst (-1), 1) := by decide +kernel
theorem dX5_init_33 : decode cX5_init 33 = .ok (.putfield 24, 3) := by decide +kernel
theorem dX5_init_36 : decode cX5_init 36 = .ok (.return_, 1) := by decide +kernel
theorem dX5_prop_0 : decode cX5_prop 0 = .ok (.iload_n 1, 1) := by decide +kernel
theorem dX5_prop_1 : decode cX5_prop 1 = .ok (.ifCond .lt 21, 3) := by decide +kernel
theorem dX5_prop_4 : decode cX5_prop 4 = .ok (.iload_n 1, 1) := by decide +kernel
theorem dX5_prop_5 : decode cX5_prop 5 = .ok (.bipush 15, 2) := by decide +kernel
theorem dX5_prop_7 : decode cX5_prop 7 = .ok (.if_icmp .gt 15, 3) := by decide +kernel
theorem dX5_prop_10 : decode cX5_prop 10 = .ok (.iload_n 2, 1) := by decide +kernel
theorem dX5_prop_11 : decode cX5_prop 11 = .ok (.ifCond .lt 11, 3) := by decide +kernel
theorem dX5_prop_14 : decode cX5_prop 14 = .ok (.iload_n 2, 1) := by decide +kernel
theorem dX5_prop_15 : decode cX5_prop 15 = .ok (.iload_n 1, 1) := by decide +kernel
theorem dX5_prop_16 : decode cX5_prop 16 = .ok (.invokestatic 28, 3) := by decide +kernel
theorem dX5_prop_19 : decode cX5_prop 19 = .ok (.if_icmp .le 6, 3) := by decide +kernel
theorem dX5_prop_22 : decode cX5_prop 22 = .ok (.bipush (-2), 2) := by decide +kernel
theorem dX5_prop_24 : decode cX5_prop 24 = .ok (.ireturn, 1) := by decide +kernel
theorem dX5_prop_25 : decode cX5_prop 25 = .ok (.aload_n 0, 1) := by decide +kernel
theorem dX5_prop_26 : decode cX5_prop 26 = .ok (.getfield 32, 3) := by decide +kernel
theorem dX5_prop_29 : decode cX5_prop 29 = .ok (.bipush 50, 2) := by decide +kernel
theorem dX5_prop_31 : decode cX5_prop 31 = .ok (.if_icmp .lt 6, 3) := by decide +kernel
theorem dX5_prop_34 : decode cX5_prop 34 = .ok (.bipush (-3), 2) := by decide +kernel
theorem dX5_prop_36 : decode cX5_prop 36 = .ok (.ireturn, 1) := by decide +kernel
theorem dX5_prop_37 : decode cX5_prop 37 = .ok (.aload_n 0, 1) := by decide +kernel
theorem dX5_prop_38 : decode cX5_prop 38 = .ok (.getfield 11, 3) := by decide +kernel
theorem dX5_prop_41 : decode cX5_prop 41 = .ok (.aload_n 0, 1) := by decide +kernel
theorem dX5_prop_42 : decode cX5_prop 42 = .ok (.getfield 32, 3) := by decide +kernel
theorem dX5_prop_45 : decode cX5_prop 45 = .ok (.aload_n 0, 1) := by decide +kernel
theorem dX5_prop_46 : decode cX5_prop 46 = .ok (.getfield 32, 3) := by decide +kernel
theorem dX5_prop_49 : decode cX5_prop 49 = .ok (.iload_n 1, 1) := by decide +kernel
theorem dX5_prop_50 : decode cX5_prop 50 = .ok (.iload_n 2, 1) := by decide +kernel
theorem dX5_prop_51 : decode cX5_prop 51 = .ok (.invokestatic 35, 3) := by decide +kernel
theorem dX5_prop_54 : decode cX5_prop 54 = .ok (.aastore, 1) := by decide +kernel
theorem dX5_prop_55 : decode cX5_prop 55 = .ok (.aload_n 0, 1) := by decide +kernel
theorem dX5_prop_56 : decode cX5_prop 56 = .ok (.dup, 1) := by decide +kernel
theorem dX5_prop_57 : decode cX5_prop 57 = .ok (.getfield 32, 3) := by decide +kernel
theorem dX5_prop_60 : decode cX5_prop 60 = .ok (.iconst 1, 1) := by decide +kernel
theorem dX5_prop_61 : decode cX5_prop 61 = .ok (.iadd, 1) := by decide +kernel
theorem dX5_prop_62 : decode cX5_prop 62 = .ok (.putfield 32, 3) := by decide +kernel
theorem dX5_prop_65 : decode cX5_prop 65 = .ok (.aload_n 0, 1) := by decide +kernel
theorem dX5_prop_66 : decode cX5_prop 66 = .ok (.getfield 32, 3) := by decide +kernel
theorem dX5_prop_69 : decode cX5_prop 69 = .ok (.iconst 1, 1) := by decide +kernel
theorem dX5_prop_70 : decode cX5_prop 70 = .ok (.isub, 1) := by decide +kernel
theorem dX5_prop_71 : decode cX5_prop 71 = .ok (.ireturn, 1) := by decide +kernel
theorem dX5_set_0 : decode cX5_set 0 = .ok (.aload_n 0, 1) := by decide +kernel
theorem dX5_set_1 : decode cX5_set 1 = .ok (.iload_n 1, 1) := by decide +kernel
theorem dX5_set_2 : decode cX5_set 2 = .ok (.invokevirtual 39, 3) := by decide +kernel
theorem dX5_set_5 : decode cX5_set 5 = .ok (.astore 4, 2) := by decide +kernel
theorem dX5_set_7 : decode cX5_set 7 = .ok (.aload 4, 2) := by decide +kernel
theorem dX5_set_9 : decode cX5_set 9 = .ok (.ifnonnull 6, 3) := by decide +kernel
theorem dX5_set_12 : decode cX5_set 12 = .ok (.bipush (-2), 2) := by decide +kernel
theorem dX5_set_14 : decode cX5_set 14 = .ok (.ireturn, 1) := by decide +kernel
theorem dX5_set_15 : decode cX5_set 15 = .ok (.aload 4, 2) := by decide +kernel
theorem dX5_set_17 : decode cX5_set 17 = .ok (.instanceof 43, 3) := by decide +kernel
theorem dX5_set_20 : decode cX5_set 20 = .ok (.ifCond .eq 13, 3) := by decide +kernel
theorem dX5_set_23 : decode cX5_set 23 = .ok (.aload 4, 2) := by decide +kernel
theorem dX5_set_25 : decode cX5_set 25 = .ok (.checkcast 43, 3) := by decide +kernel
theorem dX5_set_28 : decode cX5_set 28 = .ok (.astore 5, 2) := by decide +kernel
theorem dX5_set_30 : decode cX5_set 30 = .ok (.goto 6, 3) := by decide +kernel
theorem dX5_set_33 : decode cX5_set 33 = .ok (.bipush (-5), 2) := by decide +kernel
theorem dX5_set_35 : decode cX5_set 35 = .ok (.ireturn, 1) := by decide +kernel
theorem dX5_set_36 : decode cX5_set 36 = .ok (.aload 5, 2) := by decide +kernel
theorem dX5_set_38 : decode cX5_set 38 = .ok (.iload_n 2, 1) := by decide +kernel
theorem dX5_set_39 : decode cX5_set 39 = .ok (.iload_n 3, 1) := by decide +kernel
theorem dX5_set_40 : decode cX5_set 40 = .ok (.invokevirtual 45, 3) := by decide +kernel
theorem dX5_set_43 : decode cX5_set 43 = .ok (.ifCond .eq 7, 3) := by decide +kernel
theorem dX5_set_46 : decode cX5_set 46 = .ok (.iconst 1, 1) := by decide +kernel
theorem dX5_set_47 : decode cX5_set 47 = .ok (.goto 5, 3) := by decide +kernel
theorem dX5_set_50 : decode cX5_set 50 = .ok (.bipush (-6), 2) := by decide +kernel
theorem dX5_set_52 : decode cX5_set 52 = .ok (.ireturn, 1) := by decide +kernel
theorem dX5_slot_0 : decode cX5_slot 0 = .ok (.aload_n 0, 1) := by decide +kernel
theorem dX5_slot_1 : decode cX5_slot 1 = .ok (.iload_n 2, 1) := by decide +kernel
theorem dX5_slot_2 : decode cX5_slot 2 = .ok (.invokevirtual 39, 3) := by decide +kernel
theorem dX5_slot_5 : decode cX5_slot 5 = .ok (.astore_n 3, 1) := by decide +kernel
theorem dX5_slot_6 : decode cX5_slot 6 = .ok (.iload_n 1, 1) := by decide +kernel
theorem dX5_slot_7 : decode cX5_slot 7 = .ok (.invokestatic 49, 3) := by decide +kernel
theorem dX5_slot_10 : decode cX5_slot 10 = .ok (.ifCond .eq 12, 3) := by decide +kernel
theorem dX5_slot_13 : decode cX5_slot 13 = .ok (.aload_n 3, 1) := by decide +kernel
theorem dX5_slot_14 : decode cX5_slot 14 = .ok (.ifnonnull 11, 3) := by decide +kernel
theorem dX5_slot_17 : decode cX5_slot 17 = .ok (.iload_n 2, 1) := by decide +kernel
theorem dX5_slot_18 : decode cX5_slot 18 = .ok (.iconst (-1), 1) := by decide +kernel
theorem dX5_slot_19 : decode cX5_slot 19 = .ok (.if_icmp .eq 6, 3) := by decide +kernel
theorem dX5_slot_22 : decode cX5_slot 22 = .ok (.bipush (-2), 2) := by decide +kernel
theorem dX5_slot_24 : decode cX5_slot 24 = .ok (.ireturn, 1) := by decide +kernel
theorem dX5_slot_25 : decode cX5_slot 25 = .ok (.aload_n 0, 1) := by decide +kernel
theorem dX5_slot_26 : decode cX5_slot 26 = .ok (.getfield 15, 3) := by decide +kernel
theorem dX5_slot_29 : decode cX5_slot 29 = .ok (.iload_n 1, 1) := by decide +kernel
theorem dX5_slot_30 : decode cX5_slot 30 = .ok (.aaload, 1) := by decide +kernel
theorem dX5_slot_31 : decode cX5_slot 31 = .ok (.astore 4, 2) := by decide +kernel
theorem dX5_slot_33 : decode cX5_slot 33 = .ok (.aload_n 0, 1) := by decide +kernel
theorem dX5_slot_34 : decode cX5_slot 34 = .ok (.getfield 15, 3) := by decide +kernel
theorem dX5_slot_37 : decode cX5_slot 37 = .ok (.iload_n 1, 1) := by decide +kernel
theorem dX5_slot_38 : decode cX5_slot 38 = .ok (.aload_n 3, 1) := by decide +kernel
theorem dX5_slot_39 : decode cX5_slot 39 = .ok (.aastore, 1) := by decide +kernel
theorem dX5_slot_40 : decode cX5_slot 40 = .ok (.aload 4, 2) := by decide +kernel
theorem dX5_slot_42 : decode cX5_slot 42 = .ok (.invokestatic 53, 3) := by decide +kernel
theorem dX5_slot_45 : decode cX5_slot 45 = .ok (.ireturn, 1) := by decide +kernel
theorem dX5_held_0 : decode cX5_held 0 = .ok (.iload_n 1, 1) := by decide +kernel
theorem dX5_held_1 : decode cX5_held 1 = .ok (.invokestatic 49, 3) := by decide +kernel
theorem dX5_held_4 : decode cX5_held 4 = .ok (.ifCond .eq 15, 3) := by decide +kernel
theorem dX5_held_7 : decode cX5_held 7 = .ok (.aload_n 0, 1) := by decide +kernel
theorem dX5_held_8 : decode cX5_held 8 = .ok (.getfield 15, 3) := by decide +kernel
theorem dX5_held_11 : decode cX5_held 11 = .ok (.iload_n 1, 1) := by decide +kernel
theorem dX5_held_12 : decode cX5_held 12 = .ok (.aaload, 1) := by decide +kernel
theorem dX5_held_13 : decode cX5_held 13 = .ok (.invokestatic 53, 3) := by decide +kernel
theorem dX5_held_16 : decode cX5_held 16 = .ok (.goto 5, 3) := by decide +kernel
theorem dX5_held_19 : decode cX5_held 19 = .ok (.bipush (-2), 2) := by decide +kernel
theorem dX5_held_21 : decode cX5_held 21 = .ok (.ireturn, 1) := by decide +kernel
theorem dX5_hand_0 : decode cX5_hand 0 = .ok (.aload_n 0, 1) := by decide +kernel
theorem dX5_hand_1 : decode cX5_hand 1 = .ok (.getfield 57, 3) := by decide +kernel
theorem dX5_hand_4 : decode cX5_hand 4 = .ok (.invokestatic 53, 3) := by decide +kernel
theorem dX5_hand_7 : decode cX5_hand 7 = .ok (.ireturn, 1) := by decide +kernel
theorem dX5_cue_0 : decode cX5_cue 0 = .ok (.iload_n 1, 1) := by decide +kernel
theorem dX5_cue_1 : decode cX5_cue 1 = .ok (.ifCond .lt 30, 3) := by decide +kernel
theorem dX5_cue_4 : decode cX5_cue 4 = .ok (.iload_n 1, 1) := by decide +kernel
theorem dX5_cue_5 : decode cX5_cue 5 = .ok (.iconst 5, 1) := by decide +kernel
theorem dX5_cue_6 : decode cX5_cue 6 = .ok (.if_icmp .gt 25, 3) := by decide +kernel
theorem dX5_cue_9 : decode cX5_cue 9 = .ok (.iload_n 2, 1) := by decide +kernel
theorem dX5_cue_10 : decode cX5_cue 10 = .ok (.invokestatic 49, 3) := by decide +kernel
theorem dX5_cue_13 : decode cX5_cue 13 = .ok (.ifCond .eq 18, 3) := by decide +kernel
theorem dX5_cue_16 : decode cX5_cue 16 = .ok (.iload_n 3, 1) := by decide +kernel
theorem dX5_cue_17 : decode cX5_cue 17 = .ok (.invokestatic 61, 3) := by decide +kernel
theorem dX5_cue_20 : decode cX5_cue 20 = .ok (.ifCond .eq 11, 3) := by decide +kernel
theorem dX5_cue_23 : decode cX5_cue 23 = .ok (.iload 4, 2) := by decide +kernel
theorem dX5_cue_25 : decode cX5_cue 25 = .ok (.invokestatic 49, 3) := by decide +kernel
theorem dX5_cue_28 : decode cX5_cue 28 = .ok (.ifCond .ne 6, 3) := by decide +kernel
theorem dX5_cue_31 : decode cX5_cue 31 = .ok (.bipush (-2), 2) := by decide +kernel
theorem dX5_cue_33 : decode cX5_cue 33 = .ok (.ireturn, 1) := by decide +kernel
theorem dX5_cue_34 : decode cX5_cue 34 = .ok (.getstatic 64, 3) := by decide +kernel
theorem dX5_cue_37 : decode cX5_cue 37 = .ok (.iload_n 1, 1) := by decide +kernel
theorem dX5_cue_38 : decode cX5_cue 38 = .ok (.iaload, 1) := by decide +kernel
theorem dX5_cue_39 : decode cX5_cue 39 = .ok (.iload_n 3, 1) := by decide +kernel
theorem dX5_cue_40 : decode cX5_cue 40 = .ok (.invokestatic 68, 3) := by decide +kernel
theorem dX5_cue_43 : decode cX5_cue 43 = .ok (.ifCond .ne 6, 3) := by decide +kernel
theorem dX5_cue_46 : decode cX5_cue 46 = .ok (.bipush (-2), 2) := by decide +kernel
theorem dX5_cue_48 : decode cX5_cue 48 = .ok (.ireturn, 1) := by decide +kernel
theorem dX5_cue_49 : decode cX5_cue 49 = .ok (.aload_n 0, 1) := by decide +kernel
theorem dX5_cue_50 : decode cX5_cue 50 = .ok (.getfield 71, 3) := by decide +kernel
theorem dX5_cue_53 : decode cX5_cue 53 = .ok (.bipush 30, 2) := by decide +kernel
theorem dX5_cue_55 : decode cX5_cue 55 = .ok (.if_icmp .lt 6, 3) := by decide +kernel
theorem dX5_cue_58 : decode cX5_cue 58 = .ok (.bipush (-3), 2) := by decide +kernel
theorem dX5_cue_60 : decode cX5_cue 60 = .ok (.ireturn, 1) := by decide +kernel
theorem dX5_cue_61 : decode cX5_cue 61 = .ok (.aload_n 0, 1) := by decide +kernel
theorem dX5_cue_62 : decode cX5_cue 62 = .ok (.getfield 20, 3) := by decide +kernel
theorem dX5_cue_65 : decode cX5_cue 65 = .ok (.aload_n 0, 1) := by decide +kernel
theorem dX5_cue_66 : decode cX5_cue 66 = .ok (.getfield 71, 3) := by decide +kernel
theorem dX5_cue_69 : decode cX5_cue 69 = .ok (.new 18, 3) := by decide +kernel
theorem dX5_cue_72 : decode cX5_cue 72 = .ok (.dup, 1) := by decide +kernel
theorem dX5_cue_73 : decode cX5_cue 73 = .ok (.iload_n 1, 1) := by decide +kernel
theorem dX5_cue_74 : decode cX5_cue 74 = .ok (.iload_n 2, 1) := by decide +kernel
theorem dX5_cue_75 : decode cX5_cue 75 = .ok (.iload_n 3, 1) := by decide +kernel
theorem dX5_cue_76 : decode cX5_cue 76 = .ok (.iload 4, 2) := by decide +kernel
theorem dX5_cue_78 : decode cX5_cue 78 = .ok (.invokespecial 74, 3) := by decide +kernel
theorem dX5_cue_81 : decode cX5_cue 81 = .ok (.aastore, 1) := by decide +kernel
theorem dX5_cue_82 : decode cX5_cue 82 = .ok (.aload_n 0, 1) := by decide +kernel
theorem dX5_cue_83 : decode cX5_cue 83 = .ok (.dup, 1) := by decide +kernel
theorem dX5_cue_84 : decode cX5_cue 84 = .ok (.getfield 71, 3) := by decide +kernel
theorem dX5_cue_87 : decode cX5_cue 87 = .ok (.iconst 1, 1) := by decide +kernel
theorem dX5_cue_88 : decode cX5_cue 88 = .ok (.iadd, 1) := by decide +kernel
theorem dX5_cue_89 : decode cX5_cue 89 = .ok (.putfield 71, 3) := by decide +kernel
theorem dX5_cue_92 : decode cX5_cue 92 = .ok (.aload_n 0, 1) := by decide +kernel
