theorem dX6_wearAll_47 : decode cX6_wearAll 47 = .ok (.aload_n 0, 1) := by decide +kernel
theorem dX6_wearAll_48 : decode cX6_wearAll 48 = .ok (.getfield 13, 3) := by decide +kernel
theorem dX6_wearAll_51 : decode cX6_wearAll 51 = .ok (.iload_n 1, 1) := by decide +kernel
theorem dX6_wearAll_52 : decode cX6_wearAll 52 = .ok (.iaload, 1) := by decide +kernel
theorem dX6_wearAll_53 : decode cX6_wearAll 53 = .ok (.if_icmp .ge 30, 3) := by decide +kernel
theorem dX6_wearAll_56 : decode cX6_wearAll 56 = .ok (.aload_n 0, 1) := by decide +kernel
theorem dX6_wearAll_57 : decode cX6_wearAll 57 = .ok (.getfield 23, 3) := by decide +kernel
theorem dX6_wearAll_60 : decode cX6_wearAll 60 = .ok (.iconst 5, 1) := by decide +kernel
theorem dX6_wearAll_61 : decode cX6_wearAll 61 = .ok (.iload_n 1, 1) := by decide +kernel
theorem dX6_wearAll_62 : decode cX6_wearAll 62 = .ok (.imul, 1) := by decide +kernel
theorem dX6_wearAll_63 : decode cX6_wearAll 63 = .ok (.iload_n 2, 1) := by decide +kernel
theorem dX6_wearAll_64 : decode cX6_wearAll 64 = .ok (.iadd, 1) := by decide +kernel
theorem dX6_wearAll_65 : decode cX6_wearAll 65 = .ok (.iaload, 1) := by decide +kernel
theorem dX6_wearAll_66 : decode cX6_wearAll 66 = .ok (.istore_n 3, 1) := by decide +kernel
theorem dX6_wearAll_67 : decode cX6_wearAll 67 = .ok (.iload_n 3, 1) := by decide +kernel
theorem dX6_wearAll_68 : decode cX6_wearAll 68 = .ok (.iconst (-1), 1) := by decide +kernel
theorem dX6_wearAll_69 : decode cX6_wearAll 69 = .ok (.if_icmp .eq 8, 3) := by decide +kernel
theorem dX6_wearAll_72 : decode cX6_wearAll 72 = .ok (.aload_n 0, 1) := by decide +kernel
theorem dX6_wearAll_73 : decode cX6_wearAll 73 = .ok (.iload_n 3, 1) := by decide +kernel
theorem dX6_wearAll_74 : decode cX6_wearAll 74 = .ok (.invokevirtual 106, 3) := by decide +kernel
theorem dX6_wearAll_77 : decode cX6_wearAll 77 = .ok (.iinc 2 1, 3) := by decide +kernel
theorem dX6_wearAll_80 : decode cX6_wearAll 80 = .ok (.goto (-34), 3) := by decide +kernel
theorem dX6_wearAll_83 : decode cX6_wearAll 83 = .ok (.return_, 1) := by decide +kernel
theorem dX6_take_0 : decode cX6_take 0 = .ok (.iload_n 2, 1) := by decide +kernel
theorem dX6_take_1 : decode cX6_take 1 = .ok (.aload_n 0, 1) := by decide +kernel
theorem dX6_take_2 : decode cX6_take 2 = .ok (.getfield 13, 3) := by decide +kernel
theorem dX6_take_5 : decode cX6_take 5 = .ok (.iload_n 1, 1) := by decide +kernel
theorem dX6_take_6 : decode cX6_take 6 = .ok (.iaload, 1) := by decide +kernel
theorem dX6_take_7 : decode cX6_take 7 = .ok (.if_icmp .lt 6, 3) := by decide +kernel
theorem dX6_take_10 : decode cX6_take 10 = .ok (.bipush (-6), 2) := by decide +kernel
theorem dX6_take_12 : decode cX6_take 12 = .ok (.ireturn, 1) := by decide +kernel
theorem dX6_take_13 : decode cX6_take 13 = .ok (.aload_n 0, 1) := by decide +kernel
theorem dX6_take_14 : decode cX6_take 14 = .ok (.aload_n 0, 1) := by decide +kernel
theorem dX6_take_15 : decode cX6_take 15 = .ok (.getfield 23, 3) := by decide +kernel
theorem dX6_take_18 : decode cX6_take 18 = .ok (.iconst 5, 1) := by decide +kernel
theorem dX6_take_19 : decode cX6_take 19 = .ok (.iload_n 1, 1) := by decide +kernel
theorem dX6_take_20 : decode cX6_take 20 = .ok (.imul, 1) := by decide +kernel
theorem dX6_take_21 : decode cX6_take 21 = .ok (.iload_n 2, 1) := by decide +kernel
theorem dX6_take_22 : decode cX6_take 22 = .ok (.iadd, 1) := by decide +kernel
theorem dX6_take_23 : decode cX6_take 23 = .ok (.iaload, 1) := by decide +kernel
theorem dX6_take_24 : decode cX6_take 24 = .ok (.putfield 29, 3) := by decide +kernel
theorem dX6_take_27 : decode cX6_take 27 = .ok (.aload_n 0, 1) := by decide +kernel
theorem dX6_take_28 : decode cX6_take 28 = .ok (.getfield 23, 3) := by decide +kernel
theorem dX6_take_31 : decode cX6_take 31 = .ok (.iconst 5, 1) := by decide +kernel
theorem dX6_take_32 : decode cX6_take 32 = .ok (.iload_n 1, 1) := by decide +kernel
theorem dX6_take_33 : decode cX6_take 33 = .ok (.imul, 1) := by decide +kernel
theorem dX6_take_34 : decode cX6_take 34 = .ok (.iload_n 2, 1) := by decide +kernel
theorem dX6_take_35 : decode cX6_take 35 = .ok (.iadd, 1) := by decide +kernel
theorem dX6_take_36 : decode cX6_take 36 = .ok (.iconst (-1), 1) := by decide +kernel
theorem dX6_take_37 : decode cX6_take 37 = .ok (.iastore, 1) := by decide +kernel
theorem dX6_take_38 : decode cX6_take 38 = .ok (.iconst 0, 1) := by decide +kernel
theorem dX6_take_39 : decode cX6_take 39 = .ok (.ireturn, 1) := by decide +kernel
theorem dX6_lay_0 : decode cX6_lay 0 = .ok (.aload_n 0, 1) := by decide +kernel
theorem dX6_lay_1 : decode cX6_lay 1 = .ok (.aload_n 0, 1) := by decide +kernel
theorem dX6_lay_2 : decode cX6_lay 2 = .ok (.getfield 29, 3) := by decide +kernel
theorem dX6_lay_5 : decode cX6_lay 5 = .ok (.iload_n 2, 1) := by decide +kernel
theorem dX6_lay_6 : decode cX6_lay 6 = .ok (.invokestatic 92, 3) := by decide +kernel
theorem dX6_lay_9 : decode cX6_lay 9 = .ok (.invokevirtual 110, 3) := by decide +kernel
theorem dX6_lay_12 : decode cX6_lay 12 = .ok (.ifCond .ne 6, 3) := by decide +kernel
theorem dX6_lay_15 : decode cX6_lay 15 = .ok (.bipush (-5), 2) := by decide +kernel
theorem dX6_lay_17 : decode cX6_lay 17 = .ok (.ireturn, 1) := by decide +kernel
theorem dX6_lay_18 : decode cX6_lay 18 = .ok (.iload_n 1, 1) := by decide +kernel
theorem dX6_lay_19 : decode cX6_lay 19 = .ok (.iconst (-1), 1) := by decide +kernel
theorem dX6_lay_20 : decode cX6_lay 20 = .ok (.if_icmp .ne 6, 3) := by decide +kernel
theorem dX6_lay_23 : decode cX6_lay 23 = .ok (.bipush (-4), 2) := by decide +kernel
theorem dX6_lay_25 : decode cX6_lay 25 = .ok (.ireturn, 1) := by decide +kernel
theorem dX6_lay_26 : decode cX6_lay 26 = .ok (.iload_n 3, 1) := by decide +kernel
theorem dX6_lay_27 : decode cX6_lay 27 = .ok (.aload_n 0, 1) := by decide +kernel
theorem dX6_lay_28 : decode cX6_lay 28 = .ok (.getfield 13, 3) := by decide +kernel
theorem dX6_lay_31 : decode cX6_lay 31 = .ok (.iload_n 1, 1) := by decide +kernel
theorem dX6_lay_32 : decode cX6_lay 32 = .ok (.iaload, 1) := by decide +kernel
theorem dX6_lay_33 : decode cX6_lay 33 = .ok (.if_icmp .lt 6, 3) := by decide +kernel
theorem dX6_lay_36 : decode cX6_lay 36 = .ok (.bipush (-6), 2) := by decide +kernel
theorem dX6_lay_38 : decode cX6_lay 38 = .ok (.ireturn, 1) := by decide +kernel
theorem dX6_lay_39 : decode cX6_lay 39 = .ok (.aload_n 0, 1) := by decide +kernel
theorem dX6_lay_40 : decode cX6_lay 40 = .ok (.aload_n 0, 1) := by decide +kernel
theorem dX6_lay_41 : decode cX6_lay 41 = .ok (.getfield 29, 3) := by decide +kernel
theorem dX6_lay_44 : decode cX6_lay 44 = .ok (.aload_n 0, 1) := by decide +kernel
theorem dX6_lay_45 : decode cX6_lay 45 = .ok (.getfield 7, 3) := by decide +kernel
theorem dX6_lay_48 : decode cX6_lay 48 = .ok (.iload_n 1, 1) := by decide +kernel
theorem dX6_lay_49 : decode cX6_lay 49 = .ok (.iaload, 1) := by decide +kernel
theorem dX6_lay_50 : decode cX6_lay 50 = .ok (.invokestatic 92, 3) := by decide +kernel
theorem dX6_lay_53 : decode cX6_lay 53 = .ok (.invokevirtual 110, 3) := by decide +kernel
theorem dX6_lay_56 : decode cX6_lay 56 = .ok (.ifCond .ne 6, 3) := by decide +kernel
theorem dX6_lay_59 : decode cX6_lay 59 = .ok (.bipush (-7), 2) := by decide +kernel
theorem dX6_lay_61 : decode cX6_lay 61 = .ok (.ireturn, 1) := by decide +kernel
theorem dX6_lay_62 : decode cX6_lay 62 = .ok (.aload_n 0, 1) := by decide +kernel
theorem dX6_lay_63 : decode cX6_lay 63 = .ok (.getfield 23, 3) := by decide +kernel
theorem dX6_lay_66 : decode cX6_lay 66 = .ok (.iconst 5, 1) := by decide +kernel
theorem dX6_lay_67 : decode cX6_lay 67 = .ok (.iload_n 1, 1) := by decide +kernel
theorem dX6_lay_68 : decode cX6_lay 68 = .ok (.imul, 1) := by decide +kernel
theorem dX6_lay_69 : decode cX6_lay 69 = .ok (.iload_n 3, 1) := by decide +kernel
theorem dX6_lay_70 : decode cX6_lay 70 = .ok (.iadd, 1) := by decide +kernel
theorem dX6_lay_71 : decode cX6_lay 71 = .ok (.aload_n 0, 1) := by decide +kernel
theorem dX6_lay_72 : decode cX6_lay 72 = .ok (.getfield 29, 3) := by decide +kernel
theorem dX6_lay_75 : decode cX6_lay 75 = .ok (.iastore, 1) := by decide +kernel
theorem dX6_lay_76 : decode cX6_lay 76 = .ok (.aload_n 0, 1) := by decide +kernel
theorem dX6_lay_77 : decode cX6_lay 77 = .ok (.iconst (-1), 1) := by decide +kernel
theorem dX6_lay_78 : decode cX6_lay 78 = .ok (.putfield 29, 3) := by decide +kernel
theorem dX6_lay_81 : decode cX6_lay 81 = .ok (.iconst 0, 1) := by decide +kernel
theorem dX6_lay_82 : decode cX6_lay 82 = .ok (.ireturn, 1) := by decide +kernel
theorem dX6_done_0 : decode cX6_done 0 = .ok (.aload_n 0, 1) := by decide +kernel
theorem dX6_done_1 : decode cX6_done 1 = .ok (.getfield 36, 3) := by decide +kernel
theorem dX6_done_4 : decode cX6_done 4 = .ok (.iload_n 1, 1) := by decide +kernel
theorem dX6_done_5 : decode cX6_done 5 = .ok (.iaload, 1) := by decide +kernel
theorem dX6_done_6 : decode cX6_done 6 = .ok (.istore_n 2, 1) := by decide +kernel
theorem dX6_done_7 : decode cX6_done 7 = .ok (.aload_n 0, 1) := by decide +kernel
theorem dX6_done_8 : decode cX6_done 8 = .ok (.getfield 26, 3) := by decide +kernel
theorem dX6_done_11 : decode cX6_done 11 = .ok (.iload_n 2, 1) := by decide +kernel
theorem dX6_done_12 : decode cX6_done 12 = .ok (.iaload, 1) := by decide +kernel
theorem dX6_done_13 : decode cX6_done 13 = .ok (.istore_n 3, 1) := by decide +kernel
theorem dX6_done_14 : decode cX6_done 14 = .ok (.aload_n 0, 1) := by decide +kernel
theorem dX6_done_15 : decode cX6_done 15 = .ok (.getfield 39, 3) := by decide +kernel
theorem dX6_done_18 : decode cX6_done 18 = .ok (.iload_n 1, 1) := by decide +kernel
theorem dX6_done_19 : decode cX6_done 19 = .ok (.iaload, 1) := by decide +kernel
theorem dX6_done_20 : decode cX6_done 20 = .ok (.istore 4, 2) := by decide +kernel
theorem dX6_done_22 : decode cX6_done 22 = .ok (.aload_n 0, 1) := by decide +kernel
theorem dX6_done_23 : decode cX6_done 23 = .ok (.iload_n 3, 1) := by decide +kernel
theorem dX6_done_24 : decode cX6_done 24 = .ok (.iload 4, 2) := by decide +kernel
theorem dX6_done_26 : decode cX6_done 26 = .ok (.invokevirtual 110, 3) := by decide +kernel
theorem dX6_done_29 : decode cX6_done 29 = .ok (.ifCond .ne 6, 3) := by decide +kernel
theorem dX6_done_32 : decode cX6_done 32 = .ok (.bipush (-5), 2) := by decide +kernel
theorem dX6_done_34 : decode cX6_done 34 = .ok (.ireturn, 1) := by decide +kernel
theorem dX6_done_35 : decode cX6_done 35 = .ok (.iload_n 3, 1) := by decide +kernel
theorem dX6_done_36 : decode cX6_done 36 = .ok (.iconst (-1), 1) := by decide +kernel
theorem dX6_done_37 : decode cX6_done 37 = .ok (.if_icmp .ne 16, 3) := by decide +kernel
theorem dX6_done_40 : decode cX6_done 40 = .ok (.aload_n 0, 1) := by decide +kernel
theorem dX6_done_41 : decode cX6_done 41 = .ok (.getfield 33, 3) := by decide +kernel
theorem dX6_done_44 : decode cX6_done 44 = .ok (.iload_n 1, 1) := by decide +kernel
theorem dX6_done_45 : decode cX6_done 45 = .ok (.iaload, 1) := by decide +kernel
theorem dX6_done_46 : decode cX6_done 46 = .ok (.iconst 3, 1) := by decide +kernel
theorem dX6_done_47 : decode cX6_done 47 = .ok (.if_icmp .ge 6, 3) := by decide +kernel
theorem dX6_done_50 : decode cX6_done 50 = .ok (.bipush (-4), 2) := by decide +kernel
theorem dX6_done_52 : decode cX6_done 52 = .ok (.ireturn, 1) := by decide +kernel
theorem dX6_done_53 : decode cX6_done 53 = .ok (.aload_n 0, 1) := by decide +kernel
theorem dX6_done_54 : decode cX6_done 54 = .ok (.getfield 33, 3) := by decide +kernel
theorem dX6_done_57 : decode cX6_done 57 = .ok (.iload_n 1, 1) := by decide +kernel
theorem dX6_done_58 : decode cX6_done 58 = .ok (.iaload, 1) := by decide +kernel
theorem dX6_done_59 : decode cX6_done 59 = .ok (.tableswitch 101 0 4 #[33, 51, 58, 70, 84], 33) := by decide +kernel
theorem dX6_done_92 : decode cX6_done 92 = .ok (.aload_n 0, 1) := by decide +kernel
theorem dX6_done_93 : decode cX6_done 93 = .ok (.dup, 1) := by decide +kernel
theorem dX6_done_94 : decode cX6_done 94 = .ok (.getfield 113, 3) := by decide +kernel
theorem dX6_done_97 : decode cX6_done 97 = .ok (.aload_n 0, 1) := by decide +kernel
theorem dX6_done_98 : decode cX6_done 98 = .ok (.iload_n 3, 1) := by decide +kernel
theorem dX6_done_99 : decode cX6_done 99 = .ok (.iload 4, 2) := by decide +kernel
theorem dX6_done_101 : decode cX6_done 101 = .ok (.invokevirtual 117, 3) := by decide +kernel
theorem dX6_done_104 : decode cX6_done 104 = .ok (.ladd, 1) := by decide +kernel
theorem dX6_done_105 : decode cX6_done 105 = .ok (.putfield 113, 3) := by decide +kernel
theorem dX6_done_108 : decode cX6_done 108 = .ok (.iconst 0, 1) := by decide +kernel
theorem dX6_done_109 : decode cX6_done 109 = .ok (.ireturn, 1) := by decide +kernel
theorem dX6_done_110 : decode cX6_done 110 = .ok (.aload_n 0, 1) := by decide +kernel
theorem dX6_done_111 : decode cX6_done 111 = .ok (.iload_n 3, 1) := by decide +kernel
theorem dX6_done_112 : decode cX6_done 112 = .ok (.invokevirtual 120, 3) := by decide +kernel
theorem dX6_done_115 : decode cX6_done 115 = .ok (.iconst 0, 1) := by decide +kernel
theorem dX6_done_116 : decode cX6_done 116 = .ok (.ireturn, 1) := by decide +kernel
theorem dX6_done_117 : decode cX6_done 117 = .ok (.aload_n 0, 1) := by decide +kernel
theorem dX6_done_118 : decode cX6_done 118 = .ok (.iload_n 3, 1) := by decide +kernel
theorem dX6_done_119 : decode cX6_done 119 = .ok (.aload_n 0, 1) := by decide +kernel
theorem dX6_done_120 : decode cX6_done 120 = .ok (.getfield 42, 3) := by decide +kernel
theorem dX6_done_123 : decode cX6_done 123 = .ok (.iload_n 1, 1) := by decide +kernel
theorem dX6_done_124 : decode cX6_done 124 = .ok (.iaload, 1) := by decide +kernel
theorem dX6_done_125 : decode cX6_done 125 = .ok (.invokevirtual 123, 3) := by decide +kernel
theorem dX6_done_128 : decode cX6_done 128 = .ok (.ireturn, 1) := by decide +kernel
theorem dX6_done_129 : decode cX6_done 129 = .ok (.aload_n 0, 1) := by decide +kernel
theorem dX6_done_130 : decode cX6_done 130 = .ok (.iload_n 3, 1) := by decide +kernel
theorem dX6_done_131 : decode cX6_done 131 = .ok (.iload 4, 2) := by decide +kernel
theorem dX6_done_133 : decode cX6_done 133 = .ok (.aload_n 0, 1) := by decide +kernel
theorem dX6_done_134 : decode cX6_done 134 = .ok (.getfield 42, 3) := by decide +kernel
theorem dX6_done_137 : decode cX6_done 137 = .ok (.iload_n 1, 1) := by decide +kernel
theorem dX6_done_138 : decode cX6_done 138 = .ok (.iaload, 1) := by decide +kernel
theorem dX6_done_139 : decode cX6_done 139 = .ok (.invokevirtual 127, 3) := by decide +kernel
theorem dX6_done_142 : decode cX6_done 142 = .ok (.ireturn, 1) := by decide +kernel
theorem dX6_done_143 : decode cX6_done 143 = .ok (.aload_n 0, 1) := by decide +kernel
theorem dX6_done_144 : decode cX6_done 144 = .ok (.getfield 26, 3) := by decide +kernel
theorem dX6_done_147 : decode cX6_done 147 = .ok (.iload_n 2, 1) := by decide +kernel
theorem dX6_done_148 : decode cX6_done 148 = .ok (.aload_n 0, 1) := by decide +kernel
theorem dX6_done_149 : decode cX6_done 149 = .ok (.getfield 29, 3) := by decide +kernel
theorem dX6_done_152 : decode cX6_done 152 = .ok (.iastore, 1) := by decide +kernel
theorem dX6_done_153 : decode cX6_done 153 = .ok (.aload_n 0, 1) := by decide +kernel
theorem dX6_done_154 : decode cX6_done 154 = .ok (.iload_n 3, 1) := by decide +kernel
theorem dX6_done_155 : decode cX6_done 155 = .ok (.putfield 29, 3) := by decide +kernel
theorem dX6_done_158 : decode cX6_done 158 = .ok (.iconst 0, 1) := by decide +kernel
theorem dX6_done_159 : decode cX6_done 159 = .ok (.ireturn, 1) := by decide +kernel
theorem dX6_done_160 : decode cX6_done 160 = .ok (.aload_n 0, 1) := by decide +kernel
theorem dX6_done_161 : decode cX6_done 161 = .ok (.getfield 26, 3) := by decide +kernel
theorem dX6_done_164 : decode cX6_done 164 = .ok (.aload_n 0, 1) := by decide +kernel
theorem dX6_done_165 : decode cX6_done 165 = .ok (.getfield 42, 3) := by decide +kernel
theorem dX6_done_168 : decode cX6_done 168 = .ok (.iload_n 1, 1) := by decide +kernel
theorem dX6_done_169 : decode cX6_done 169 = .ok (.iaload, 1) := by decide +kernel
theorem dX6_done_170 : decode cX6_done 170 = .ok (.iload_n 3, 1) := by decide +kernel
theorem dX6_done_171 : decode cX6_done 171 = .ok (.iastore, 1) := by decide +kernel
theorem dX6_done_172 : decode cX6_done 172 = .ok (.iconst 0, 1) := by decide +kernel
theorem dX6_done_173 : decode cX6_done 173 = .ok (.ireturn, 1) := by decide +kernel
theorem dX6_play_0 : decode cX6_play 0 = .ok (.iload_n 1, 1) := by decide +kernel
theorem dX6_play_1 : decode cX6_play 1 = .ok (.iconst 0, 1) := by decide +kernel
theorem dX6_play_2 : decode cX6_play 2 = .ok (.aload_n 0, 1) := by decide +kernel
theorem dX6_play_3 : decode cX6_play 3 = .ok (.getfield 83, 3) := by decide +kernel
theorem dX6_play_6 : decode cX6_play 6 = .ok (.iconst 1, 1) := by decide +kernel
theorem dX6_play_7 : decode cX6_play 7 = .ok (.isub, 1) := by decide +kernel
theorem dX6_play_8 : decode cX6_play 8 = .ok (.invokestatic 51, 3) := by decide +kernel
theorem dX6_play_11 : decode cX6_play 11 = .ok (.ifCond .eq 17, 3) := by decide +kernel
theorem dX6_play_14 : decode cX6_play 14 = .ok (.iload_n 2, 1) := by decide +kernel
theorem dX6_play_15 : decode cX6_play 15 = .ok (.iload_n 1, 1) := by decide +kernel
theorem dX6_play_16 : decode cX6_play 16 = .ok (.aload_n 0, 1) := by decide +kernel
theorem dX6_play_17 : decode cX6_play 17 = .ok (.getfield 83, 3) := by decide +kernel
theorem dX6_play_20 : decode cX6_play 20 = .ok (.iconst 1, 1) := by decide +kernel
theorem dX6_play_21 : decode cX6_play 21 = .ok (.isub, 1) := by decide +kernel
theorem dX6_play_22 : decode cX6_play 22 = .ok (.invokestatic 51, 3) := by decide +kernel
theorem dX6_play_25 : decode cX6_play 25 = .ok (.ifCond .ne 6, 3) := by decide +kernel
theorem dX6_play_28 : decode cX6_play 28 = .ok (.bipush (-2), 2) := by decide +kernel
theorem dX6_play_30 : decode cX6_play 30 = .ok (.ireturn, 1) := by decide +kernel
theorem dX6_play_31 : decode cX6_play 31 = .ok (.aload_n 0, 1) := by decide +kernel
theorem dX6_play_32 : decode cX6_play 32 = .ok (.iconst 0, 1) := by decide +kernel
theorem dX6_play_33 : decode cX6_play 33 = .ok (.putfield 131, 3) := by decide +kernel
theorem dX6_play_36 : decode cX6_play 36 = .ok (.aload_n 0, 1) := by decide +kernel
theorem dX6_play_37 : decode cX6_play 37 = .ok (.iconst (-1), 1) := by decide +kernel
theorem dX6_play_38 : decode cX6_play 38 = .ok (.putfield 45, 3) := by decide +kernel
theorem dX6_play_41 : decode cX6_play 41 = .ok (.iconst 0, 1) := by decide +kernel
theorem dX6_play_42 : decode cX6_play 42 = .ok (.istore_n 3, 1) := by decide +kernel
theorem dX6_play_43 : decode cX6_play 43 = .ok (.iload_n 1, 1) := by decide +kernel
theorem dX6_play_44 : decode cX6_play 44 = .ok (.istore 4, 2) := by decide +kernel
theorem dX6_play_46 : decode cX6_play 46 = .ok (.iload 4, 2) := by decide +kernel
theorem dX6_play_48 : decode cX6_play 48 = .ok (.iload_n 2, 1) := by decide +kernel
theorem dX6_play_49 : decode cX6_play 49 = .ok (.if_icmp .gt 55, 3) := by decide +kernel
theorem dX6_play_52 : decode cX6_play 52 = .ok (.aload_n 0, 1) := by decide +kernel
theorem dX6_play_53 : decode cX6_play 53 = .ok (.getfield 131, 3) := by decide +kernel
theorem dX6_play_56 : decode cX6_play 56 = .ok (.ifCond .ne 48, 3) := by decide +kernel
theorem dX6_play_59 : decode cX6_play 59 = .ok (.aload_n 0, 1) := by decide +kernel
theorem dX6_play_60 : decode cX6_play 60 = .ok (.aload_n 0, 1) := by decide +kernel
theorem dX6_play_61 : decode cX6_play 61 = .ok (.iload 4, 2) := by decide +kernel
theorem dX6_play_63 : decode cX6_play 63 = .ok (.invokevirtual 134, 3) := by decide +kernel
theorem dX6_play_66 : decode cX6_play 66 = .ok (.putfield 131, 3) := by decide +kernel
theorem dX6_play_69 : decode cX6_play 69 = .ok (.aload_n 0, 1) := by decide +kernel
theorem dX6_play_70 : decode cX6_play 70 = .ok (.getfield 131, 3) := by decide +kernel
theorem dX6_play_73 : decode cX6_play 73 = .ok (.ifCond .ne 9, 3) := by decide +kernel
theorem dX6_play_76 : decode cX6_play 76 = .ok (.iinc 3 1, 3) := by decide +kernel
theorem dX6_play_79 : decode cX6_play 79 = .ok (.goto 19, 3) := by decide +kernel
theorem dX6_play_82 : decode cX6_play 82 = .ok (.aload_n 0, 1) := by decide +kernel
theorem dX6_play_83 : decode cX6_play 83 = .ok (.iload 4, 2) := by decide +kernel
theorem dX6_play_85 : decode cX6_play 85 = .ok (.putfield 45, 3) := by decide +kernel
theorem dX6_play_88 : decode cX6_play 88 = .ok (.aload_n 0, 1) := by decide +kernel
theorem dX6_play_89 : decode cX6_play 89 = .ok (.dup, 1) := by decide +kernel
theorem dX6_play_90 : decode cX6_play 90 = .ok (.getfield 137, 3) := by decide +kernel
theorem dX6_play_93 : decode cX6_play 93 = .ok (.iconst 1, 1) := by decide +kernel
theorem dX6_play_94 : decode cX6_play 94 = .ok (.iadd, 1) := by decide +kernel
theorem dX6_play_95 : decode cX6_play 95 = .ok (.putfield 137, 3) := by decide +kernel
theorem dX6_play_98 : decode cX6_play 98 = .ok (.iinc 4 1, 3) := by decide +kernel
theorem dX6_play_101 : decode cX6_play 101 = .ok (.goto (-55), 3) := by decide +kernel
theorem dX6_play_104 : decode cX6_play 104 = .ok (.iload_n 3, 1) := by decide +kernel
theorem dX6_play_105 : decode cX6_play 105 = .ok (.ireturn, 1) := by decide +kernel
theorem dX6_miscue_0 : decode cX6_miscue 0 = .ok (.iload_n 1, 1) := by decide +kernel
theorem dX6_miscue_1 : decode cX6_miscue 1 = .ok (.ifCond .ne 10, 3) := by decide +kernel
theorem dX6_miscue_4 : decode cX6_miscue 4 = .ok (.aload_n 0, 1) := by decide +kernel
theorem dX6_miscue_5 : decode cX6_miscue 5 = .ok (.getfield 131, 3) := by decide +kernel
theorem dX6_miscue_8 : decode cX6_miscue 8 = .ok (.goto 29, 3) := by decide +kernel
theorem dX6_miscue_11 : decode cX6_miscue 11 = .ok (.iload_n 1, 1) := by decide +kernel
theorem dX6_miscue_12 : decode cX6_miscue 12 = .ok (.iconst 1, 1) := by decide +kernel
theorem dX6_miscue_13 : decode cX6_miscue 13 = .ok (.if_icmp .ne 10, 3) := by decide +kernel
theorem dX6_miscue_16 : decode cX6_miscue 16 = .ok (.aload_n 0, 1) := by decide +kernel
theorem dX6_miscue_17 : decode cX6_miscue 17 = .ok (.getfield 45, 3) := by decide +kernel
theorem dX6_miscue_20 : decode cX6_miscue 20 = .ok (.goto 17, 3) := by decide +kernel
theorem dX6_miscue_23 : decode cX6_miscue 23 = .ok (.iload_n 1, 1) := by decide +kernel
theorem dX6_miscue_24 : decode cX6_miscue 24 = .ok (.iconst 2, 1) := by decide +kernel
theorem dX6_miscue_25 : decode cX6_miscue 25 = .ok (.if_icmp .ne 10, 3) := by decide +kernel
theorem dX6_miscue_28 : decode cX6_miscue 28 = .ok (.aload_n 0, 1) := by decide +kernel
theorem dX6_miscue_29 : decode cX6_miscue 29 = .ok (.getfield 137, 3) := by decide +kernel
theorem dX6_miscue_32 : decode cX6_miscue 32 = .ok (.goto 5, 3) := by decide +kernel
theorem dX6_miscue_35 : decode cX6_miscue 35 = .ok (.bipush (-2), 2) := by decide +kernel
theorem dX6_miscue_37 : decode cX6_miscue 37 = .ok (.ireturn, 1) := by decide +kernel
theorem dX6_points_0 : decode cX6_points 0 = .ok (.aload_n 0, 1) := by decide +kernel
theorem dX6_points_1 : decode cX6_points 1 = .ok (.getfield 113, 3) := by decide +kernel
theorem dX6_points_4 : decode cX6_points 4 = .ok (.lreturn, 1) := by decide +kernel
theorem dX6_is_0 : decode cX6_is 0 = .ok (.aload_n 0, 1) := by decide +kernel
theorem dX6_is_1 : decode cX6_is 1 = .ok (.iload_n 1, 1) := by decide +kernel
theorem dX6_is_2 : decode cX6_is 2 = .ok (.invokevirtual 63, 3) := by decide +kernel
theorem dX6_is_5 : decode cX6_is 5 = .ok (.ifCond .eq 10, 3) := by decide +kernel
theorem dX6_is_8 : decode cX6_is 8 = .ok (.iload_n 2, 1) := by decide +kernel
theorem dX6_is_9 : decode cX6_is 9 = .ok (.invokestatic 77, 3) := by decide +kernel
theorem dX6_is_12 : decode cX6_is 12 = .ok (.ifCond .ne 8, 3) := by decide +kernel
theorem dX6_is_15 : decode cX6_is 15 = .ok (.bipush (-2), 2) := by decide +kernel
theorem dX6_is_17 : decode cX6_is 17 = .ok (.goto 21, 3) := by decide +kernel
theorem dX6_is_20 : decode cX6_is 20 = .ok (.aload_n 0, 1) := by decide +kernel
theorem dX6_is_21 : decode cX6_is 21 = .ok (.getfield 7, 3) := by decide +kernel
theorem dX6_is_24 : decode cX6_is 24 = .ok (.iload_n 1, 1) := by decide +kernel
theorem dX6_is_25 : decode cX6_is 25 = .ok (.iaload, 1) := by decide +kernel
theorem dX6_is_26 : decode cX6_is 26 = .ok (.iload_n 2, 1) := by decide +kernel
theorem dX6_is_27 : decode cX6_is 27 = .ok (.invokestatic 55, 3) := by decide +kernel
theorem dX6_is_30 : decode cX6_is 30 = .ok (.ifCond .eq 7, 3) := by decide +kernel
theorem dX6_is_33 : decode cX6_is 33 = .ok (.iconst 1, 1) := by decide +kernel
theorem dX6_is_34 : decode cX6_is 34 = .ok (.goto 4, 3) := by decide +kernel
theorem dX6_is_37 : decode cX6_is 37 = .ok (.iconst 0, 1) := by decide +kernel
theorem dX6_is_38 : decode cX6_is 38 = .ok (.ireturn, 1) := by decide +kernel
theorem dX6_worth_0 : decode cX6_worth 0 = .ok (.aload_n 0, 1) := by decide +kernel
theorem dX6_worth_1 : decode cX6_worth 1 = .ok (.iload_n 1, 1) := by decide +kernel
theorem dX6_worth_2 : decode cX6_worth 2 = .ok (.invokevirtual 63, 3) := by decide +kernel
theorem dX6_worth_5 : decode cX6_worth 5 = .ok (.ifCond .eq 32, 3) := by decide +kernel
theorem dX6_worth_8 : decode cX6_worth 8 = .ok (.iload_n 2, 1) := by decide +kernel
theorem dX6_worth_9 : decode cX6_worth 9 = .ok (.invokestatic 77, 3) := by decide +kernel
theorem dX6_worth_12 : decode cX6_worth 12 = .ok (.ifCond .eq 25, 3) := by decide +kernel
theorem dX6_worth_15 : decode cX6_worth 15 = .ok (.aload_n 0, 1) := by decide +kernel
theorem dX6_worth_16 : decode cX6_worth 16 = .ok (.getfield 7, 3) := by decide +kernel
theorem dX6_worth_19 : decode cX6_worth 19 = .ok (.iload_n 1, 1) := by decide +kernel
theorem dX6_worth_20 : decode cX6_worth 20 = .ok (.iaload, 1) := by decide +kernel
theorem dX6_worth_21 : decode cX6_worth 21 = .ok (.iload_n 2, 1) := by decide +kernel
theorem dX6_worth_22 : decode cX6_worth 22 = .ok (.invokestatic 55, 3) := by decide +kernel
theorem dX6_worth_25 : decode cX6_worth 25 = .ok (.ifCond .eq 12, 3) := by decide +kernel
theorem dX6_worth_28 : decode cX6_worth 28 = .ok (.aload_n 0, 1) := by decide +kernel
theorem dX6_worth_29 : decode cX6_worth 29 = .ok (.iload_n 1, 1) := by decide +kernel
theorem dX6_worth_30 : decode cX6_worth 30 = .ok (.iload_n 2, 1) := by decide +kernel
theorem dX6_worth_31 : decode cX6_worth 31 = .ok (.invokevirtual 117, 3) := by decide +kernel
theorem dX6_worth_34 : decode cX6_worth 34 = .ok (.goto 4, 3) := by decide +kernel
theorem dX6_worth_37 : decode cX6_worth 37 = .ok (.lconst 0, 1) := by decide +kernel
theorem dX6_worth_38 : decode cX6_worth 38 = .ok (.lreturn, 1) := by decide +kernel
theorem dX6_wear_0 : decode cX6_wear 0 = .ok (.aload_n 0, 1) := by decide +kernel
theorem dX6_wear_1 : decode cX6_wear 1 = .ok (.iload_n 1, 1) := by decide +kernel
theorem dX6_wear_2 : decode cX6_wear 2 = .ok (.invokevirtual 63, 3) := by decide +kernel
theorem dX6_wear_5 : decode cX6_wear 5 = .ok (.ifCond .ne 8, 3) := by decide +kernel
theorem dX6_wear_8 : decode cX6_wear 8 = .ok (.bipush (-2), 2) := by decide +kernel
theorem dX6_wear_10 : decode cX6_wear 10 = .ok (.goto 29, 3) := by decide +kernel
theorem dX6_wear_13 : decode cX6_wear 13 = .ok (.aload_n 0, 1) := by decide +kernel
theorem dX6_wear_14 : decode cX6_wear 14 = .ok (.getfield 7, 3) := by decide +kernel
theorem dX6_wear_17 : decode cX6_wear 17 = .ok (.iload_n 1, 1) := by decide +kernel
theorem dX6_wear_18 : decode cX6_wear 18 = .ok (.iaload, 1) := by decide +kernel
theorem dX6_wear_19 : decode cX6_wear 19 = .ok (.iconst 4, 1) := by decide +kernel
theorem dX6_wear_20 : decode cX6_wear 20 = .ok (.bipush 6, 2) := by decide +kernel
theorem dX6_wear_22 : decode cX6_wear 22 = .ok (.invokestatic 51, 3) := by decide +kernel
theorem dX6_wear_25 : decode cX6_wear 25 = .ok (.ifCond .eq 12, 3) := by decide +kernel
theorem dX6_wear_28 : decode cX6_wear 28 = .ok (.aload_n 0, 1) := by decide +kernel
theorem dX6_wear_29 : decode cX6_wear 29 = .ok (.getfield 16, 3) := by decide +kernel
theorem dX6_wear_32 : decode cX6_wear 32 = .ok (.iload_n 1, 1) := by decide +kernel
theorem dX6_wear_33 : decode cX6_wear 33 = .ok (.iaload, 1) := by decide +kernel
theorem dX6_wear_34 : decode cX6_wear 34 = .ok (.goto 5, 3) := by decide +kernel
theorem dX6_wear_37 : decode cX6_wear 37 = .ok (.bipush (-5), 2) := by decide +kernel
theorem dX6_wear_39 : decode cX6_wear 39 = .ok (.ireturn, 1) := by decide +kernel
theorem dX6_at_0 : decode cX6_at 0 = .ok (.aload_n 0, 1) := by decide +kernel
theorem dX6_at_1 : decode cX6_at 1 = .ok (.iload_n 1, 1) := by decide +kernel
theorem dX6_at_2 : decode cX6_at 2 = .ok (.invokevirtual 63, 3) := by decide +kernel
theorem dX6_at_5 : decode cX6_at 5 = .ok (.ifCond .ne 6, 3) := by decide +kernel
theorem dX6_at_8 : decode cX6_at 8 = .ok (.bipush (-2), 2) := by decide +kernel
theorem dX6_at_10 : decode cX6_at 10 = .ok (.ireturn, 1) := by decide +kernel
theorem dX6_at_11 : decode cX6_at 11 = .ok (.aload_n 0, 1) := by decide +kernel
theorem dX6_at_12 : decode cX6_at 12 = .ok (.getfield 7, 3) := by decide +kernel
theorem dX6_at_15 : decode cX6_at 15 = .ok (.iload_n 1, 1) := by decide +kernel
theorem dX6_at_16 : decode cX6_at 16 = .ok (.iaload, 1) := by decide +kernel
theorem dX6_at_17 : decode cX6_at 17 = .ok (.invokestatic 74, 3) := by decide +kernel
theorem dX6_at_20 : decode cX6_at 20 = .ok (.ifCond .ne 6, 3) := by decide +kernel
theorem dX6_at_23 : decode cX6_at 23 = .ok (.bipush (-5), 2) := by decide +kernel
theorem dX6_at_25 : decode cX6_at 25 = .ok (.ireturn, 1) := by decide +kernel
theorem dX6_at_26 : decode cX6_at 26 = .ok (.iload_n 2, 1) := by decide +kernel
theorem dX6_at_27 : decode cX6_at 27 = .ok (.iconst 0, 1) := by decide +kernel
theorem dX6_at_28 : decode cX6_at 28 = .ok (.aload_n 0, 1) := by decide +kernel
theorem dX6_at_29 : decode cX6_at 29 = .ok (.getfield 13, 3) := by decide +kernel
theorem dX6_at_32 : decode cX6_at 32 = .ok (.iload_n 1, 1) := by decide +kernel
theorem dX6_at_33 : decode cX6_at 33 = .ok (.iaload, 1) := by decide +kernel
theorem dX6_at_34 : decode cX6_at 34 = .ok (.iconst 1, 1) := by decide +kernel
theorem dX6_at_35 : decode cX6_at 35 = .ok (.isub, 1) := by decide +kernel
theorem dX6_at_36 : decode cX6_at 36 = .ok (.invokestatic 51, 3) := by decide +kernel
theorem dX6_at_39 : decode cX6_at 39 = .ok (.ifCond .eq 16, 3) := by decide +kernel
theorem dX6_at_42 : decode cX6_at 42 = .ok (.aload_n 0, 1) := by decide +kernel
theorem dX6_at_43 : decode cX6_at 43 = .ok (.getfield 23, 3) := by decide +kernel
theorem dX6_at_46 : decode cX6_at 46 = .ok (.iconst 5, 1) := by decide +kernel
theorem dX6_at_47 : decode cX6_at 47 = .ok (.iload_n 1, 1) := by decide +kernel
theorem dX6_at_48 : decode cX6_at 48 = .ok (.imul, 1) := by decide +kernel
theorem dX6_at_49 : decode cX6_at 49 = .ok (.iload_n 2, 1) := by decide +kernel
theorem dX6_at_50 : decode cX6_at 50 = .ok (.iadd, 1) := by decide +kernel
theorem dX6_at_51 : decode cX6_at 51 = .ok (.iaload, 1) := by decide +kernel
theorem dX6_at_52 : decode cX6_at 52 = .ok (.goto 5, 3) := by decide +kernel
theorem dX6_at_55 : decode cX6_at 55 = .ok (.bipush (-6), 2) := by decide +kernel
theorem dX6_at_57 : decode cX6_at 57 = .ok (.ireturn, 1) := by decide +kernel
theorem dX6_count_0 : decode cX6_count 0 = .ok (.iload_n 1, 1) := by decide +kernel
theorem dX6_count_1 : decode cX6_count 1 = .ok (.ifCond .ne 10, 3) := by decide +kernel
theorem dX6_count_4 : decode cX6_count 4 = .ok (.aload_n 0, 1) := by decide +kernel
theorem dX6_count_5 : decode cX6_count 5 = .ok (.getfield 48, 3) := by decide +kernel
theorem dX6_count_8 : decode cX6_count 8 = .ok (.goto 17, 3) := by decide +kernel
theorem dX6_count_11 : decode cX6_count 11 = .ok (.iload_n 1, 1) := by decide +kernel
theorem dX6_count_12 : decode cX6_count 12 = .ok (.iconst 1, 1) := by decide +kernel
theorem dX6_count_13 : decode cX6_count 13 = .ok (.if_icmp .ne 10, 3) := by decide +kernel
theorem dX6_count_16 : decode cX6_count 16 = .ok (.aload_n 0, 1) := by decide +kernel
theorem dX6_count_17 : decode cX6_count 17 = .ok (.getfield 83, 3) := by decide +kernel
theorem dX6_count_20 : decode cX6_count 20 = .ok (.goto 5, 3) := by decide +kernel
theorem dX6_count_23 : decode cX6_count 23 = .ok (.bipush (-2), 2) := by decide +kernel
theorem dX6_count_25 : decode cX6_count 25 = .ok (.ireturn, 1) := by decide +kernel
theorem dL_law_0 : decode cL_law 0 = .ok (.new 7, 3) := by decide +kernel
theorem dL_law_3 : decode cL_law 3 = .ok (.dup, 1) := by decide +kernel
theorem dL_law_4 : decode cL_law 4 = .ok (.invokespecial 9, 3) := by decide +kernel
theorem dL_law_7 : decode cL_law 7 = .ok (.astore_n 1, 1) := by decide +kernel
theorem dL_law_8 : decode cL_law 8 = .ok (.new 10, 3) := by decide +kernel
theorem dL_law_11 : decode cL_law 11 = .ok (.dup, 1) := by decide +kernel
theorem dL_law_12 : decode cL_law 12 = .ok (.invokespecial 12, 3) := by decide +kernel
theorem dL_law_15 : decode cL_law 15 = .ok (.astore_n 2, 1) := by decide +kernel
theorem dL_law_16 : decode cL_law 16 = .ok (.iconst 0, 1) := by decide +kernel
theorem dL_law_17 : decode cL_law 17 = .ok (.istore_n 3, 1) := by decide +kernel
theorem dL_law_18 : decode cL_law 18 = .ok (.iload_n 3, 1) := by decide +kernel
theorem dL_law_19 : decode cL_law 19 = .ok (.aload_n 0, 1) := by decide +kernel
theorem dL_law_20 : decode cL_law 20 = .ok (.arraylength, 1) := by decide +kernel
theorem dL_law_21 : decode cL_law 21 = .ok (.iconst 5, 1) := by decide +kernel
theorem dL_law_22 : decode cL_law 22 = .ok (.isub, 1) := by decide +kernel
theorem dL_law_23 : decode cL_law 23 = .ok (.if_icmp .gt 518, 3) := by decide +kernel
theorem dL_law_26 : decode cL_law 26 = .ok (.aload_n 0, 1) := by decide +kernel
theorem dL_law_27 : decode cL_law 27 = .ok (.iload_n 3, 1) := by decide +kernel
