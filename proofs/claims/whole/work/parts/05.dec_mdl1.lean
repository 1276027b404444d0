theorem dX6_init_0 : decode cX6_init 0 = .ok (.aload_n 0, 1) := by decide +kernel
theorem dX6_init_1 : decode cX6_init 1 = .ok (.invokespecial 1, 3) := by decide +kernel
theorem dX6_init_4 : decode cX6_init 4 = .ok (.aload_n 0, 1) := by decide +kernel
theorem dX6_init_5 : decode cX6_init 5 = .ok (.iconst 4, 1) := by decide +kernel
theorem dX6_init_6 : decode cX6_init 6 = .ok (.newarray .int, 2) := by decide +kernel
theorem dX6_init_8 : decode cX6_init 8 = .ok (.putfield 7, 3) := by decide +kernel
theorem dX6_init_11 : decode cX6_init 11 = .ok (.aload_n 0, 1) := by decide +kernel
theorem dX6_init_12 : decode cX6_init 12 = .ok (.iconst 4, 1) := by decide +kernel
theorem dX6_init_13 : decode cX6_init 13 = .ok (.newarray .int, 2) := by decide +kernel
theorem dX6_init_15 : decode cX6_init 15 = .ok (.putfield 13, 3) := by decide +kernel
theorem dX6_init_18 : decode cX6_init 18 = .ok (.aload_n 0, 1) := by decide +kernel
theorem dX6_init_19 : decode cX6_init 19 = .ok (.sipush 240, 3) := by decide +kernel
theorem dX6_init_22 : decode cX6_init 22 = .ok (.newarray .long, 2) := by decide +kernel
theorem dX6_init_24 : decode cX6_init 24 = .ok (.putfield 16, 3) := by decide +kernel
theorem dX6_init_27 : decode cX6_init 27 = .ok (.aload_n 0, 1) := by decide +kernel
theorem dX6_init_28 : decode cX6_init 28 = .ok (.bipush 60, 2) := by decide +kernel
theorem dX6_init_30 : decode cX6_init 30 = .ok (.newarray .long, 2) := by decide +kernel
theorem dX6_init_32 : decode cX6_init 32 = .ok (.putfield 20, 3) := by decide +kernel
theorem dX6_init_35 : decode cX6_init 35 = .ok (.aload_n 0, 1) := by decide +kernel
theorem dX6_init_36 : decode cX6_init 36 = .ok (.sipush 700, 3) := by decide +kernel
theorem dX6_init_39 : decode cX6_init 39 = .ok (.newarray .byte, 2) := by decide +kernel
theorem dX6_init_41 : decode cX6_init 41 = .ok (.putfield 23, 3) := by decide +kernel
theorem dX6_init_44 : decode cX6_init 44 = .ok (.aload_n 0, 1) := by decide +kernel
theorem dX6_init_45 : decode cX6_init 45 = .ok (.iconst (-1), 1) := by decide +kernel
theorem dX6_init_46 : decode cX6_init 46 = .ok (.putfield 27, 3) := by decide +kernel
theorem dX6_init_49 : decode cX6_init 49 = .ok (.aload_n 0, 1) := by decide +kernel
theorem dX6_init_50 : decode cX6_init 50 = .ok (.iconst 5, 1) := by decide +kernel
theorem dX6_init_51 : decode cX6_init 51 = .ok (.newarray .int, 2) := by decide +kernel
theorem dX6_init_53 : decode cX6_init 53 = .ok (.putfield 31, 3) := by decide +kernel
theorem dX6_init_56 : decode cX6_init 56 = .ok (.aload_n 0, 1) := by decide +kernel
theorem dX6_init_57 : decode cX6_init 57 = .ok (.bipush 35, 2) := by decide +kernel
theorem dX6_init_59 : decode cX6_init 59 = .ok (.newarray .int, 2) := by decide +kernel
theorem dX6_init_61 : decode cX6_init 61 = .ok (.putfield 34, 3) := by decide +kernel
theorem dX6_init_64 : decode cX6_init 64 = .ok (.aload_n 0, 1) := by decide +kernel
theorem dX6_init_65 : decode cX6_init 65 = .ok (.bipush 60, 2) := by decide +kernel
theorem dX6_init_67 : decode cX6_init 67 = .ok (.newarray .int, 2) := by decide +kernel
theorem dX6_init_69 : decode cX6_init 69 = .ok (.putfield 37, 3) := by decide +kernel
theorem dX6_init_72 : decode cX6_init 72 = .ok (.aload_n 0, 1) := by decide +kernel
theorem dX6_init_73 : decode cX6_init 73 = .ok (.bipush 20, 2) := by decide +kernel
theorem dX6_init_75 : decode cX6_init 75 = .ok (.newarray .int, 2) := by decide +kernel
theorem dX6_init_77 : decode cX6_init 77 = .ok (.putfield 40, 3) := by decide +kernel
theorem dX6_init_80 : decode cX6_init 80 = .ok (.aload_n 0, 1) := by decide +kernel
theorem dX6_init_81 : decode cX6_init 81 = .ok (.sipush 140, 3) := by decide +kernel
theorem dX6_init_84 : decode cX6_init 84 = .ok (.newarray .int, 2) := by decide +kernel
theorem dX6_init_86 : decode cX6_init 86 = .ok (.putfield 43, 3) := by decide +kernel
theorem dX6_init_89 : decode cX6_init 89 = .ok (.aload_n 0, 1) := by decide +kernel
theorem dX6_init_90 : decode cX6_init 90 = .ok (.sipush 600, 3) := by decide +kernel
theorem dX6_init_93 : decode cX6_init 93 = .ok (.newarray .int, 2) := by decide +kernel
theorem dX6_init_95 : decode cX6_init 95 = .ok (.putfield 46, 3) := by decide +kernel
theorem dX6_init_98 : decode cX6_init 98 = .ok (.aload_n 0, 1) := by decide +kernel
theorem dX6_init_99 : decode cX6_init 99 = .ok (.iconst 3, 1) := by decide +kernel
theorem dX6_init_100 : decode cX6_init 100 = .ok (.newarray .boolean, 2) := by decide +kernel
theorem dX6_init_102 : decode cX6_init 102 = .ok (.putfield 49, 3) := by decide +kernel
theorem dX6_init_105 : decode cX6_init 105 = .ok (.aload_n 0, 1) := by decide +kernel
theorem dX6_init_106 : decode cX6_init 106 = .ok (.bipush 7, 2) := by decide +kernel
theorem dX6_init_108 : decode cX6_init 108 = .ok (.newarray .int, 2) := by decide +kernel
theorem dX6_init_110 : decode cX6_init 110 = .ok (.putfield 53, 3) := by decide +kernel
theorem dX6_init_113 : decode cX6_init 113 = .ok (.aload_n 0, 1) := by decide +kernel
theorem dX6_init_114 : decode cX6_init 114 = .ok (.bipush 7, 2) := by decide +kernel
theorem dX6_init_116 : decode cX6_init 116 = .ok (.newarray .int, 2) := by decide +kernel
theorem dX6_init_118 : decode cX6_init 118 = .ok (.putfield 56, 3) := by decide +kernel
theorem dX6_init_121 : decode cX6_init 121 = .ok (.aload_n 0, 1) := by decide +kernel
theorem dX6_init_122 : decode cX6_init 122 = .ok (.iconst 4, 1) := by decide +kernel
theorem dX6_init_123 : decode cX6_init 123 = .ok (.newarray .int, 2) := by decide +kernel
theorem dX6_init_125 : decode cX6_init 125 = .ok (.putfield 59, 3) := by decide +kernel
theorem dX6_init_128 : decode cX6_init 128 = .ok (.aload_n 0, 1) := by decide +kernel
theorem dX6_init_129 : decode cX6_init 129 = .ok (.sipush 147, 3) := by decide +kernel
theorem dX6_init_132 : decode cX6_init 132 = .ok (.newarray .int, 2) := by decide +kernel
theorem dX6_init_134 : decode cX6_init 134 = .ok (.putfield 62, 3) := by decide +kernel
theorem dX6_init_137 : decode cX6_init 137 = .ok (.aload_n 0, 1) := by decide +kernel
theorem dX6_init_138 : decode cX6_init 138 = .ok (.sipush 147, 3) := by decide +kernel
theorem dX6_init_141 : decode cX6_init 141 = .ok (.newarray .boolean, 2) := by decide +kernel
theorem dX6_init_143 : decode cX6_init 143 = .ok (.putfield 65, 3) := by decide +kernel
theorem dX6_init_146 : decode cX6_init 146 = .ok (.aload_n 0, 1) := by decide +kernel
theorem dX6_init_147 : decode cX6_init 147 = .ok (.bipush 7, 2) := by decide +kernel
theorem dX6_init_149 : decode cX6_init 149 = .ok (.newarray .int, 2) := by decide +kernel
theorem dX6_init_151 : decode cX6_init 151 = .ok (.putfield 68, 3) := by decide +kernel
theorem dX6_init_154 : decode cX6_init 154 = .ok (.aload_n 0, 1) := by decide +kernel
theorem dX6_init_155 : decode cX6_init 155 = .ok (.sipush 1281, 3) := by decide +kernel
theorem dX6_init_158 : decode cX6_init 158 = .ok (.newarray .int, 2) := by decide +kernel
theorem dX6_init_160 : decode cX6_init 160 = .ok (.putfield 71, 3) := by decide +kernel
theorem dX6_init_163 : decode cX6_init 163 = .ok (.iconst 0, 1) := by decide +kernel
theorem dX6_init_164 : decode cX6_init 164 = .ok (.istore_n 1, 1) := by decide +kernel
theorem dX6_init_165 : decode cX6_init 165 = .ok (.iload_n 1, 1) := by decide +kernel
theorem dX6_init_166 : decode cX6_init 166 = .ok (.iconst 4, 1) := by decide +kernel
theorem dX6_init_167 : decode cX6_init 167 = .ok (.if_icmp .ge 16, 3) := by decide +kernel
theorem dX6_init_170 : decode cX6_init 170 = .ok (.aload_n 0, 1) := by decide +kernel
theorem dX6_init_171 : decode cX6_init 171 = .ok (.getfield 7, 3) := by decide +kernel
theorem dX6_init_174 : decode cX6_init 174 = .ok (.iload_n 1, 1) := by decide +kernel
theorem dX6_init_175 : decode cX6_init 175 = .ok (.iconst (-1), 1) := by decide +kernel
theorem dX6_init_176 : decode cX6_init 176 = .ok (.iastore, 1) := by decide +kernel
theorem dX6_init_177 : decode cX6_init 177 = .ok (.iinc 1 1, 3) := by decide +kernel
theorem dX6_init_180 : decode cX6_init 180 = .ok (.goto (-15), 3) := by decide +kernel
theorem dX6_init_183 : decode cX6_init 183 = .ok (.return_, 1) := by decide +kernel
theorem dX6_in_0 : decode cX6_in 0 = .ok (.lload_n 0, 1) := by decide +kernel
theorem dX6_in_1 : decode cX6_in 1 = .ok (.lload_n 2, 1) := by decide +kernel
theorem dX6_in_2 : decode cX6_in 2 = .ok (.lcmp, 1) := by decide +kernel
theorem dX6_in_3 : decode cX6_in 3 = .ok (.ifCond .lt 14, 3) := by decide +kernel
theorem dX6_in_6 : decode cX6_in 6 = .ok (.lload_n 0, 1) := by decide +kernel
theorem dX6_in_7 : decode cX6_in 7 = .ok (.lload 4, 2) := by decide +kernel
theorem dX6_in_9 : decode cX6_in 9 = .ok (.lcmp, 1) := by decide +kernel
theorem dX6_in_10 : decode cX6_in 10 = .ok (.ifCond .gt 7, 3) := by decide +kernel
theorem dX6_in_13 : decode cX6_in 13 = .ok (.iconst 1, 1) := by decide +kernel
theorem dX6_in_14 : decode cX6_in 14 = .ok (.goto 4, 3) := by decide +kernel
theorem dX6_in_17 : decode cX6_in 17 = .ok (.iconst 0, 1) := by decide +kernel
theorem dX6_in_18 : decode cX6_in 18 = .ok (.ireturn, 1) := by decide +kernel
theorem dX6_isSlot_0 : decode cX6_isSlot 0 = .ok (.iload_n 0, 1) := by decide +kernel
theorem dX6_isSlot_1 : decode cX6_isSlot 1 = .ok (.i2l, 1) := by decide +kernel
theorem dX6_isSlot_2 : decode cX6_isSlot 2 = .ok (.lconst 0, 1) := by decide +kernel
theorem dX6_isSlot_3 : decode cX6_isSlot 3 = .ok (.ldc2_w 77, 3) := by decide +kernel
theorem dX6_isSlot_6 : decode cX6_isSlot 6 = .ok (.invokestatic 79, 3) := by decide +kernel
theorem dX6_isSlot_9 : decode cX6_isSlot 9 = .ok (.ireturn, 1) := by decide +kernel
theorem dX6_row_0 : decode cX6_row 0 = .ok (.aload_n 0, 1) := by decide +kernel
theorem dX6_row_1 : decode cX6_row 1 = .ok (.iconst 0, 1) := by decide +kernel
theorem dX6_row_2 : decode cX6_row 2 = .ok (.putfield 74, 3) := by decide +kernel
theorem dX6_row_5 : decode cX6_row 5 = .ok (.iload_n 1, 1) := by decide +kernel
theorem dX6_row_6 : decode cX6_row 6 = .ok (.invokestatic 83, 3) := by decide +kernel
theorem dX6_row_9 : decode cX6_row 9 = .ok (.ifCond .eq 21, 3) := by decide +kernel
theorem dX6_row_12 : decode cX6_row 12 = .ok (.iload_n 2, 1) := by decide +kernel
theorem dX6_row_13 : decode cX6_row 13 = .ok (.i2l, 1) := by decide +kernel
theorem dX6_row_14 : decode cX6_row 14 = .ok (.lconst 0, 1) := by decide +kernel
theorem dX6_row_15 : decode cX6_row 15 = .ok (.ldc2_w 77, 3) := by decide +kernel
theorem dX6_row_18 : decode cX6_row 18 = .ok (.invokestatic 79, 3) := by decide +kernel
theorem dX6_row_21 : decode cX6_row 21 = .ok (.ifCond .eq 9, 3) := by decide +kernel
theorem dX6_row_24 : decode cX6_row 24 = .ok (.iload_n 3, 1) := by decide +kernel
theorem dX6_row_25 : decode cX6_row 25 = .ok (.bipush 60, 2) := by decide +kernel
theorem dX6_row_27 : decode cX6_row 27 = .ok (.if_icmp .le 6, 3) := by decide +kernel
theorem dX6_row_30 : decode cX6_row 30 = .ok (.bipush (-2), 2) := by decide +kernel
theorem dX6_row_32 : decode cX6_row 32 = .ok (.ireturn, 1) := by decide +kernel
theorem dX6_row_33 : decode cX6_row 33 = .ok (.iload_n 3, 1) := by decide +kernel
theorem dX6_row_34 : decode cX6_row 34 = .ok (.ifCond .ge 6, 3) := by decide +kernel
theorem dX6_row_37 : decode cX6_row 37 = .ok (.bipush (-3), 2) := by decide +kernel
theorem dX6_row_39 : decode cX6_row 39 = .ok (.ireturn, 1) := by decide +kernel
theorem dX6_row_40 : decode cX6_row 40 = .ok (.aload_n 0, 1) := by decide +kernel
theorem dX6_row_41 : decode cX6_row 41 = .ok (.getfield 7, 3) := by decide +kernel
theorem dX6_row_44 : decode cX6_row 44 = .ok (.iload_n 1, 1) := by decide +kernel
theorem dX6_row_45 : decode cX6_row 45 = .ok (.iload_n 2, 1) := by decide +kernel
theorem dX6_row_46 : decode cX6_row 46 = .ok (.iastore, 1) := by decide +kernel
theorem dX6_row_47 : decode cX6_row 47 = .ok (.aload_n 0, 1) := by decide +kernel
theorem dX6_row_48 : decode cX6_row 48 = .ok (.getfield 13, 3) := by decide +kernel
theorem dX6_row_51 : decode cX6_row 51 = .ok (.iload_n 1, 1) := by decide +kernel
theorem dX6_row_52 : decode cX6_row 52 = .ok (.iload_n 3, 1) := by decide +kernel
theorem dX6_row_53 : decode cX6_row 53 = .ok (.iastore, 1) := by decide +kernel
theorem dX6_row_54 : decode cX6_row 54 = .ok (.iconst 0, 1) := by decide +kernel
theorem dX6_row_55 : decode cX6_row 55 = .ok (.istore 4, 2) := by decide +kernel
theorem dX6_row_57 : decode cX6_row 57 = .ok (.iload 4, 2) := by decide +kernel
theorem dX6_row_59 : decode cX6_row 59 = .ok (.iload_n 3, 1) := by decide +kernel
theorem dX6_row_60 : decode cX6_row 60 = .ok (.if_icmp .ge 22, 3) := by decide +kernel
theorem dX6_row_63 : decode cX6_row 63 = .ok (.aload_n 0, 1) := by decide +kernel
theorem dX6_row_64 : decode cX6_row 64 = .ok (.getfield 16, 3) := by decide +kernel
theorem dX6_row_67 : decode cX6_row 67 = .ok (.bipush 60, 2) := by decide +kernel
theorem dX6_row_69 : decode cX6_row 69 = .ok (.iload_n 1, 1) := by decide +kernel
theorem dX6_row_70 : decode cX6_row 70 = .ok (.imul, 1) := by decide +kernel
theorem dX6_row_71 : decode cX6_row 71 = .ok (.iload 4, 2) := by decide +kernel
theorem dX6_row_73 : decode cX6_row 73 = .ok (.iadd, 1) := by decide +kernel
theorem dX6_row_74 : decode cX6_row 74 = .ok (.lconst 0, 1) := by decide +kernel
theorem dX6_row_75 : decode cX6_row 75 = .ok (.lastore, 1) := by decide +kernel
theorem dX6_row_76 : decode cX6_row 76 = .ok (.iinc 4 1, 3) := by decide +kernel
theorem dX6_row_79 : decode cX6_row 79 = .ok (.goto (-22), 3) := by decide +kernel
theorem dX6_row_82 : decode cX6_row 82 = .ok (.iconst 0, 1) := by decide +kernel
theorem dX6_row_83 : decode cX6_row 83 = .ok (.ireturn, 1) := by decide +kernel
theorem dX6_cut_0 : decode cX6_cut 0 = .ok (.iload_n 2, 1) := by decide +kernel
theorem dX6_cut_1 : decode cX6_cut 1 = .ok (.ifCond .ne 10, 3) := by decide +kernel
theorem dX6_cut_4 : decode cX6_cut 4 = .ok (.lload_n 0, 1) := by decide +kernel
theorem dX6_cut_5 : decode cX6_cut 5 = .ok (.l2i, 1) := by decide +kernel
theorem dX6_cut_6 : decode cX6_cut 6 = .ok (.i2b, 1) := by decide +kernel
theorem dX6_cut_7 : decode cX6_cut 7 = .ok (.i2l, 1) := by decide +kernel
theorem dX6_cut_8 : decode cX6_cut 8 = .ok (.goto 27, 3) := by decide +kernel
theorem dX6_cut_11 : decode cX6_cut 11 = .ok (.iload_n 2, 1) := by decide +kernel
theorem dX6_cut_12 : decode cX6_cut 12 = .ok (.iconst 1, 1) := by decide +kernel
theorem dX6_cut_13 : decode cX6_cut 13 = .ok (.if_icmp .ne 10, 3) := by decide +kernel
theorem dX6_cut_16 : decode cX6_cut 16 = .ok (.lload_n 0, 1) := by decide +kernel
theorem dX6_cut_17 : decode cX6_cut 17 = .ok (.l2i, 1) := by decide +kernel
theorem dX6_cut_18 : decode cX6_cut 18 = .ok (.i2s, 1) := by decide +kernel
theorem dX6_cut_19 : decode cX6_cut 19 = .ok (.i2l, 1) := by decide +kernel
theorem dX6_cut_20 : decode cX6_cut 20 = .ok (.goto 15, 3) := by decide +kernel
theorem dX6_cut_23 : decode cX6_cut 23 = .ok (.iload_n 2, 1) := by decide +kernel
theorem dX6_cut_24 : decode cX6_cut 24 = .ok (.iconst 2, 1) := by decide +kernel
theorem dX6_cut_25 : decode cX6_cut 25 = .ok (.if_icmp .ne 9, 3) := by decide +kernel
theorem dX6_cut_28 : decode cX6_cut 28 = .ok (.lload_n 0, 1) := by decide +kernel
theorem dX6_cut_29 : decode cX6_cut 29 = .ok (.l2i, 1) := by decide +kernel
theorem dX6_cut_30 : decode cX6_cut 30 = .ok (.i2l, 1) := by decide +kernel
theorem dX6_cut_31 : decode cX6_cut 31 = .ok (.goto 4, 3) := by decide +kernel
theorem dX6_cut_34 : decode cX6_cut 34 = .ok (.lload_n 0, 1) := by decide +kernel
theorem dX6_cut_35 : decode cX6_cut 35 = .ok (.lreturn, 1) := by decide +kernel
theorem dX6_write_0 : decode cX6_write 0 = .ok (.aload_n 0, 1) := by decide +kernel
theorem dX6_write_1 : decode cX6_write 1 = .ok (.iconst 0, 1) := by decide +kernel
theorem dX6_write_2 : decode cX6_write 2 = .ok (.putfield 74, 3) := by decide +kernel
theorem dX6_write_5 : decode cX6_write 5 = .ok (.iload_n 1, 1) := by decide +kernel
theorem dX6_write_6 : decode cX6_write 6 = .ok (.invokestatic 83, 3) := by decide +kernel
theorem dX6_write_9 : decode cX6_write 9 = .ok (.ifCond .ne 6, 3) := by decide +kernel
theorem dX6_write_12 : decode cX6_write 12 = .ok (.bipush (-2), 2) := by decide +kernel
theorem dX6_write_14 : decode cX6_write 14 = .ok (.ireturn, 1) := by decide +kernel
theorem dX6_write_15 : decode cX6_write 15 = .ok (.aload_n 0, 1) := by decide +kernel
theorem dX6_write_16 : decode cX6_write 16 = .ok (.getfield 7, 3) := by decide +kernel
theorem dX6_write_19 : decode cX6_write 19 = .ok (.iload_n 1, 1) := by decide +kernel
theorem dX6_write_20 : decode cX6_write 20 = .ok (.iaload, 1) := by decide +kernel
theorem dX6_write_21 : decode cX6_write 21 = .ok (.iconst (-1), 1) := by decide +kernel
theorem dX6_write_22 : decode cX6_write 22 = .ok (.if_icmp .ne 6, 3) := by decide +kernel
theorem dX6_write_25 : decode cX6_write 25 = .ok (.bipush (-6), 2) := by decide +kernel
theorem dX6_write_27 : decode cX6_write 27 = .ok (.ireturn, 1) := by decide +kernel
theorem dX6_write_28 : decode cX6_write 28 = .ok (.iload_n 2, 1) := by decide +kernel
theorem dX6_write_29 : decode cX6_write 29 = .ok (.i2l, 1) := by decide +kernel
theorem dX6_write_30 : decode cX6_write 30 = .ok (.lconst 0, 1) := by decide +kernel
theorem dX6_write_31 : decode cX6_write 31 = .ok (.aload_n 0, 1) := by decide +kernel
theorem dX6_write_32 : decode cX6_write 32 = .ok (.getfield 13, 3) := by decide +kernel
theorem dX6_write_35 : decode cX6_write 35 = .ok (.iload_n 1, 1) := by decide +kernel
theorem dX6_write_36 : decode cX6_write 36 = .ok (.iaload, 1) := by decide +kernel
theorem dX6_write_37 : decode cX6_write 37 = .ok (.iconst 1, 1) := by decide +kernel
theorem dX6_write_38 : decode cX6_write 38 = .ok (.isub, 1) := by decide +kernel
theorem dX6_write_39 : decode cX6_write 39 = .ok (.i2l, 1) := by decide +kernel
theorem dX6_write_40 : decode cX6_write 40 = .ok (.invokestatic 79, 3) := by decide +kernel
theorem dX6_write_43 : decode cX6_write 43 = .ok (.ifCond .ne 6, 3) := by decide +kernel
theorem dX6_write_46 : decode cX6_write 46 = .ok (.bipush (-7), 2) := by decide +kernel
theorem dX6_write_48 : decode cX6_write 48 = .ok (.ireturn, 1) := by decide +kernel
theorem dX6_write_49 : decode cX6_write 49 = .ok (.aload_n 0, 1) := by decide +kernel
theorem dX6_write_50 : decode cX6_write 50 = .ok (.getfield 16, 3) := by decide +kernel
theorem dX6_write_53 : decode cX6_write 53 = .ok (.bipush 60, 2) := by decide +kernel
theorem dX6_write_55 : decode cX6_write 55 = .ok (.iload_n 1, 1) := by decide +kernel
theorem dX6_write_56 : decode cX6_write 56 = .ok (.imul, 1) := by decide +kernel
theorem dX6_write_57 : decode cX6_write 57 = .ok (.iload_n 2, 1) := by decide +kernel
theorem dX6_write_58 : decode cX6_write 58 = .ok (.iadd, 1) := by decide +kernel
theorem dX6_write_59 : decode cX6_write 59 = .ok (.lload_n 3, 1) := by decide +kernel
theorem dX6_write_60 : decode cX6_write 60 = .ok (.aload_n 0, 1) := by decide +kernel
theorem dX6_write_61 : decode cX6_write 61 = .ok (.getfield 7, 3) := by decide +kernel
theorem dX6_write_64 : decode cX6_write 64 = .ok (.iload_n 1, 1) := by decide +kernel
theorem dX6_write_65 : decode cX6_write 65 = .ok (.iaload, 1) := by decide +kernel
theorem dX6_write_66 : decode cX6_write 66 = .ok (.invokestatic 87, 3) := by decide +kernel
theorem dX6_write_69 : decode cX6_write 69 = .ok (.lastore, 1) := by decide +kernel
theorem dX6_write_70 : decode cX6_write 70 = .ok (.iconst 0, 1) := by decide +kernel
theorem dX6_write_71 : decode cX6_write 71 = .ok (.ireturn, 1) := by decide +kernel
theorem dX6_paste_0 : decode cX6_paste 0 = .ok (.aload_n 0, 1) := by decide +kernel
theorem dX6_paste_1 : decode cX6_paste 1 = .ok (.iconst 0, 1) := by decide +kernel
theorem dX6_paste_2 : decode cX6_paste 2 = .ok (.putfield 74, 3) := by decide +kernel
theorem dX6_paste_5 : decode cX6_paste 5 = .ok (.iload_n 1, 1) := by decide +kernel
theorem dX6_paste_6 : decode cX6_paste 6 = .ok (.invokestatic 83, 3) := by decide +kernel
theorem dX6_paste_9 : decode cX6_paste 9 = .ok (.ifCond .eq 10, 3) := by decide +kernel
theorem dX6_paste_12 : decode cX6_paste 12 = .ok (.iload_n 3, 1) := by decide +kernel
theorem dX6_paste_13 : decode cX6_paste 13 = .ok (.invokestatic 83, 3) := by decide +kernel
theorem dX6_paste_16 : decode cX6_paste 16 = .ok (.ifCond .ne 6, 3) := by decide +kernel
theorem dX6_paste_19 : decode cX6_paste 19 = .ok (.bipush (-2), 2) := by decide +kernel
theorem dX6_paste_21 : decode cX6_paste 21 = .ok (.ireturn, 1) := by decide +kernel
theorem dX6_paste_22 : decode cX6_paste 22 = .ok (.aload_n 0, 1) := by decide +kernel
theorem dX6_paste_23 : decode cX6_paste 23 = .ok (.getfield 7, 3) := by decide +kernel
theorem dX6_paste_26 : decode cX6_paste 26 = .ok (.iload_n 1, 1) := by decide +kernel
theorem dX6_paste_27 : decode cX6_paste 27 = .ok (.iaload, 1) := by decide +kernel
theorem dX6_paste_28 : decode cX6_paste 28 = .ok (.iconst (-1), 1) := by decide +kernel
theorem dX6_paste_29 : decode cX6_paste 29 = .ok (.if_icmp .eq 13, 3) := by decide +kernel
theorem dX6_paste_32 : decode cX6_paste 32 = .ok (.aload_n 0, 1) := by decide +kernel
theorem dX6_paste_33 : decode cX6_paste 33 = .ok (.getfield 7, 3) := by decide +kernel
theorem dX6_paste_36 : decode cX6_paste 36 = .ok (.iload_n 3, 1) := by decide +kernel
theorem dX6_paste_37 : decode cX6_paste 37 = .ok (.iaload, 1) := by decide +kernel
theorem dX6_paste_38 : decode cX6_paste 38 = .ok (.iconst (-1), 1) := by decide +kernel
theorem dX6_paste_39 : decode cX6_paste 39 = .ok (.if_icmp .ne 6, 3) := by decide +kernel
theorem dX6_paste_42 : decode cX6_paste 42 = .ok (.bipush (-6), 2) := by decide +kernel
theorem dX6_paste_44 : decode cX6_paste 44 = .ok (.ireturn, 1) := by decide +kernel
theorem dX6_paste_45 : decode cX6_paste 45 = .ok (.aload_n 0, 1) := by decide +kernel
theorem dX6_paste_46 : decode cX6_paste 46 = .ok (.getfield 7, 3) := by decide +kernel
theorem dX6_paste_49 : decode cX6_paste 49 = .ok (.iload_n 1, 1) := by decide +kernel
theorem dX6_paste_50 : decode cX6_paste 50 = .ok (.iaload, 1) := by decide +kernel
theorem dX6_paste_51 : decode cX6_paste 51 = .ok (.aload_n 0, 1) := by decide +kernel
theorem dX6_paste_52 : decode cX6_paste 52 = .ok (.getfield 7, 3) := by decide +kernel
theorem dX6_paste_55 : decode cX6_paste 55 = .ok (.iload_n 3, 1) := by decide +kernel
theorem dX6_paste_56 : decode cX6_paste 56 = .ok (.iaload, 1) := by decide +kernel
theorem dX6_paste_57 : decode cX6_paste 57 = .ok (.if_icmp .eq 6, 3) := by decide +kernel
theorem dX6_paste_60 : decode cX6_paste 60 = .ok (.bipush (-8), 2) := by decide +kernel
theorem dX6_paste_62 : decode cX6_paste 62 = .ok (.ireturn, 1) := by decide +kernel
theorem dX6_paste_63 : decode cX6_paste 63 = .ok (.iload_n 2, 1) := by decide +kernel
theorem dX6_paste_64 : decode cX6_paste 64 = .ok (.ifCond .lt 48, 3) := by decide +kernel
theorem dX6_paste_67 : decode cX6_paste 67 = .ok (.iload 4, 2) := by decide +kernel
theorem dX6_paste_69 : decode cX6_paste 69 = .ok (.ifCond .lt 43, 3) := by decide +kernel
theorem dX6_paste_72 : decode cX6_paste 72 = .ok (.iload 5, 2) := by decide +kernel
theorem dX6_paste_74 : decode cX6_paste 74 = .ok (.ifCond .lt 38, 3) := by decide +kernel
theorem dX6_paste_77 : decode cX6_paste 77 = .ok (.iload_n 2, 1) := by decide +kernel
theorem dX6_paste_78 : decode cX6_paste 78 = .ok (.i2l, 1) := by decide +kernel
theorem dX6_paste_79 : decode cX6_paste 79 = .ok (.iload 5, 2) := by decide +kernel
theorem dX6_paste_81 : decode cX6_paste 81 = .ok (.i2l, 1) := by decide +kernel
theorem dX6_paste_82 : decode cX6_paste 82 = .ok (.ladd, 1) := by decide +kernel
theorem dX6_paste_83 : decode cX6_paste 83 = .ok (.aload_n 0, 1) := by decide +kernel
theorem dX6_paste_84 : decode cX6_paste 84 = .ok (.getfield 13, 3) := by decide +kernel
theorem dX6_paste_87 : decode cX6_paste 87 = .ok (.iload_n 1, 1) := by decide +kernel
theorem dX6_paste_88 : decode cX6_paste 88 = .ok (.iaload, 1) := by decide +kernel
theorem dX6_paste_89 : decode cX6_paste 89 = .ok (.i2l, 1) := by decide +kernel
theorem dX6_paste_90 : decode cX6_paste 90 = .ok (.lcmp, 1) := by decide +kernel
theorem dX6_paste_91 : decode cX6_paste 91 = .ok (.ifCond .gt 21, 3) := by decide +kernel
theorem dX6_paste_94 : decode cX6_paste 94 = .ok (.iload 4, 2) := by decide +kernel
theorem dX6_paste_96 : decode cX6_paste 96 = .ok (.i2l, 1) := by decide +kernel
theorem dX6_paste_97 : decode cX6_paste 97 = .ok (.iload 5, 2) := by decide +kernel
theorem dX6_paste_99 : decode cX6_paste 99 = .ok (.i2l, 1) := by decide +kernel
theorem dX6_paste_100 : decode cX6_paste 100 = .ok (.ladd, 1) := by decide +kernel
theorem dX6_paste_101 : decode cX6_paste 101 = .ok (.aload_n 0, 1) := by decide +kernel
theorem dX6_paste_102 : decode cX6_paste 102 = .ok (.getfield 13, 3) := by decide +kernel
theorem dX6_paste_105 : decode cX6_paste 105 = .ok (.iload_n 3, 1) := by decide +kernel
theorem dX6_paste_106 : decode cX6_paste 106 = .ok (.iaload, 1) := by decide +kernel
theorem dX6_paste_107 : decode cX6_paste 107 = .ok (.i2l, 1) := by decide +kernel
theorem dX6_paste_108 : decode cX6_paste 108 = .ok (.lcmp, 1) := by decide +kernel
theorem dX6_paste_109 : decode cX6_paste 109 = .ok (.ifCond .le 6, 3) := by decide +kernel
theorem dX6_paste_112 : decode cX6_paste 112 = .ok (.bipush (-7), 2) := by decide +kernel
theorem dX6_paste_114 : decode cX6_paste 114 = .ok (.ireturn, 1) := by decide +kernel
theorem dX6_paste_115 : decode cX6_paste 115 = .ok (.iconst 0, 1) := by decide +kernel
theorem dX6_paste_116 : decode cX6_paste 116 = .ok (.istore 6, 2) := by decide +kernel
theorem dX6_paste_118 : decode cX6_paste 118 = .ok (.iload 6, 2) := by decide +kernel
theorem dX6_paste_120 : decode cX6_paste 120 = .ok (.iload 5, 2) := by decide +kernel
theorem dX6_paste_122 : decode cX6_paste 122 = .ok (.if_icmp .ge 30, 3) := by decide +kernel
theorem dX6_paste_125 : decode cX6_paste 125 = .ok (.aload_n 0, 1) := by decide +kernel
theorem dX6_paste_126 : decode cX6_paste 126 = .ok (.getfield 20, 3) := by decide +kernel
theorem dX6_paste_129 : decode cX6_paste 129 = .ok (.iload 6, 2) := by decide +kernel
theorem dX6_paste_131 : decode cX6_paste 131 = .ok (.aload_n 0, 1) := by decide +kernel
theorem dX6_paste_132 : decode cX6_paste 132 = .ok (.getfield 16, 3) := by decide +kernel
theorem dX6_paste_135 : decode cX6_paste 135 = .ok (.bipush 60, 2) := by decide +kernel
theorem dX6_paste_137 : decode cX6_paste 137 = .ok (.iload_n 1, 1) := by decide +kernel
theorem dX6_paste_138 : decode cX6_paste 138 = .ok (.imul, 1) := by decide +kernel
theorem dX6_paste_139 : decode cX6_paste 139 = .ok (.iload_n 2, 1) := by decide +kernel
theorem dX6_paste_140 : decode cX6_paste 140 = .ok (.iadd, 1) := by decide +kernel
theorem dX6_paste_141 : decode cX6_paste 141 = .ok (.iload 6, 2) := by decide +kernel
theorem dX6_paste_143 : decode cX6_paste 143 = .ok (.iadd, 1) := by decide +kernel
theorem dX6_paste_144 : decode cX6_paste 144 = .ok (.laload, 1) := by decide +kernel
theorem dX6_paste_145 : decode cX6_paste 145 = .ok (.lastore, 1) := by decide +kernel
theorem dX6_paste_146 : decode cX6_paste 146 = .ok (.iinc 6 1, 3) := by decide +kernel
theorem dX6_paste_149 : decode cX6_paste 149 = .ok (.goto (-31), 3) := by decide +kernel
theorem dX6_paste_152 : decode cX6_paste 152 = .ok (.iconst 0, 1) := by decide +kernel
theorem dX6_paste_153 : decode cX6_paste 153 = .ok (.istore 6, 2) := by decide +kernel
theorem dX6_paste_155 : decode cX6_paste 155 = .ok (.iload 6, 2) := by decide +kernel
theorem dX6_paste_157 : decode cX6_paste 157 = .ok (.iload 5, 2) := by decide +kernel
theorem dX6_paste_159 : decode cX6_paste 159 = .ok (.if_icmp .ge 31, 3) := by decide +kernel
theorem dX6_paste_162 : decode cX6_paste 162 = .ok (.aload_n 0, 1) := by decide +kernel
theorem dX6_paste_163 : decode cX6_paste 163 = .ok (.getfield 16, 3) := by decide +kernel
theorem dX6_paste_166 : decode cX6_paste 166 = .ok (.bipush 60, 2) := by decide +kernel
theorem dX6_paste_168 : decode cX6_paste 168 = .ok (.iload_n 3, 1) := by decide +kernel
theorem dX6_paste_169 : decode cX6_paste 169 = .ok (.imul, 1) := by decide +kernel
theorem dX6_paste_170 : decode cX6_paste 170 = .ok (.iload 4, 2) := by decide +kernel
theorem dX6_paste_172 : decode cX6_paste 172 = .ok (.iadd, 1) := by decide +kernel
theorem dX6_paste_173 : decode cX6_paste 173 = .ok (.iload 6, 2) := by decide +kernel
theorem dX6_paste_175 : decode cX6_paste 175 = .ok (.iadd, 1) := by decide +kernel
theorem dX6_paste_176 : decode cX6_paste 176 = .ok (.aload_n 0, 1) := by decide +kernel
theorem dX6_paste_177 : decode cX6_paste 177 = .ok (.getfield 20, 3) := by decide +kernel
theorem dX6_paste_180 : decode cX6_paste 180 = .ok (.iload 6, 2) := by decide +kernel
theorem dX6_paste_182 : decode cX6_paste 182 = .ok (.laload, 1) := by decide +kernel
theorem dX6_paste_183 : decode cX6_paste 183 = .ok (.lastore, 1) := by decide +kernel
theorem dX6_paste_184 : decode cX6_paste 184 = .ok (.iinc 6 1, 3) := by decide +kernel
theorem dX6_paste_187 : decode cX6_paste 187 = .ok (.goto (-32), 3) := by decide +kernel
theorem dX6_paste_190 : decode cX6_paste 190 = .ok (.iconst 0, 1) := by decide +kernel
theorem dX6_paste_191 : decode cX6_paste 191 = .ok (.ireturn, 1) := by decide +kernel
theorem dX6_feed_0 : decode cX6_feed 0 = .ok (.aload_n 0, 1) := by decide +kernel
theorem dX6_feed_1 : decode cX6_feed 1 = .ok (.iconst 0, 1) := by decide +kernel
theorem dX6_feed_2 : decode cX6_feed 2 = .ok (.putfield 74, 3) := by decide +kernel
theorem dX6_feed_5 : decode cX6_feed 5 = .ok (.aload_n 0, 1) := by decide +kernel
theorem dX6_feed_6 : decode cX6_feed 6 = .ok (.getfield 91, 3) := by decide +kernel
theorem dX6_feed_9 : decode cX6_feed 9 = .ok (.bipush 20, 2) := by decide +kernel
theorem dX6_feed_11 : decode cX6_feed 11 = .ok (.iadd, 1) := by decide +kernel
theorem dX6_feed_12 : decode cX6_feed 12 = .ok (.sipush 700, 3) := by decide +kernel
theorem dX6_feed_15 : decode cX6_feed 15 = .ok (.if_icmp .le 5, 3) := by decide +kernel
theorem dX6_feed_18 : decode cX6_feed 18 = .ok (.iconst (-1), 1) := by decide +kernel
theorem dX6_feed_19 : decode cX6_feed 19 = .ok (.ireturn, 1) := by decide +kernel
theorem dX6_feed_20 : decode cX6_feed 20 = .ok (.aload_n 0, 1) := by decide +kernel
theorem dX6_feed_21 : decode cX6_feed 21 = .ok (.iload_n 1, 1) := by decide +kernel
theorem dX6_feed_22 : decode cX6_feed 22 = .ok (.invokevirtual 94, 3) := by decide +kernel
theorem dX6_feed_25 : decode cX6_feed 25 = .ok (.aload_n 0, 1) := by decide +kernel
theorem dX6_feed_26 : decode cX6_feed 26 = .ok (.iload_n 2, 1) := by decide +kernel
theorem dX6_feed_27 : decode cX6_feed 27 = .ok (.invokevirtual 94, 3) := by decide +kernel
theorem dX6_feed_30 : decode cX6_feed 30 = .ok (.aload_n 0, 1) := by decide +kernel
theorem dX6_feed_31 : decode cX6_feed 31 = .ok (.iload_n 3, 1) := by decide +kernel
theorem dX6_feed_32 : decode cX6_feed 32 = .ok (.invokevirtual 94, 3) := by decide +kernel
theorem dX6_feed_35 : decode cX6_feed 35 = .ok (.aload_n 0, 1) := by decide +kernel
theorem dX6_feed_36 : decode cX6_feed 36 = .ok (.iload 4, 2) := by decide +kernel
theorem dX6_feed_38 : decode cX6_feed 38 = .ok (.invokevirtual 94, 3) := by decide +kernel
theorem dX6_feed_41 : decode cX6_feed 41 = .ok (.aload_n 0, 1) := by decide +kernel
theorem dX6_feed_42 : decode cX6_feed 42 = .ok (.iload 5, 2) := by decide +kernel
theorem dX6_feed_44 : decode cX6_feed 44 = .ok (.invokevirtual 94, 3) := by decide +kernel
theorem dX6_feed_47 : decode cX6_feed 47 = .ok (.aload_n 0, 1) := by decide +kernel
theorem dX6_feed_48 : decode cX6_feed 48 = .ok (.getfield 91, 3) := by decide +kernel
theorem dX6_feed_51 : decode cX6_feed 51 = .ok (.ireturn, 1) := by decide +kernel
theorem dX6_four_0 : decode cX6_four 0 = .ok (.bipush 24, 2) := by decide +kernel
theorem dX6_four_2 : decode cX6_four 2 = .ok (.istore_n 2, 1) := by decide +kernel
theorem dX6_four_3 : decode cX6_four 3 = .ok (.iload_n 2, 1) := by decide +kernel
theorem dX6_four_4 : decode cX6_four 4 = .ok (.ifCond .lt 32, 3) := by decide +kernel
theorem dX6_four_7 : decode cX6_four 7 = .ok (.aload_n 0, 1) := by decide +kernel
theorem dX6_four_8 : decode cX6_four 8 = .ok (.getfield 23, 3) := by decide +kernel
theorem dX6_four_11 : decode cX6_four 11 = .ok (.aload_n 0, 1) := by decide +kernel
theorem dX6_four_12 : decode cX6_four 12 = .ok (.getfield 91, 3) := by decide +kernel
theorem dX6_four_15 : decode cX6_four 15 = .ok (.iload_n 1, 1) := by decide +kernel
theorem dX6_four_16 : decode cX6_four 16 = .ok (.iload_n 2, 1) := by decide +kernel
theorem dX6_four_17 : decode cX6_four 17 = .ok (.ishr, 1) := by decide +kernel
theorem dX6_four_18 : decode cX6_four 18 = .ok (.i2b, 1) := by decide +kernel
theorem dX6_four_19 : decode cX6_four 19 = .ok (.bastore, 1) := by decide +kernel
theorem dX6_four_20 : decode cX6_four 20 = .ok (.aload_n 0, 1) := by decide +kernel
theorem dX6_four_21 : decode cX6_four 21 = .ok (.dup, 1) := by decide +kernel
theorem dX6_four_22 : decode cX6_four 22 = .ok (.getfield 91, 3) := by decide +kernel
theorem dX6_four_25 : decode cX6_four 25 = .ok (.iconst 1, 1) := by decide +kernel
theorem dX6_four_26 : decode cX6_four 26 = .ok (.iadd, 1) := by decide +kernel
theorem dX6_four_27 : decode cX6_four 27 = .ok (.putfield 91, 3) := by decide +kernel
theorem dX6_four_30 : decode cX6_four 30 = .ok (.iinc 2 (-8), 3) := by decide +kernel
theorem dX6_four_33 : decode cX6_four 33 = .ok (.goto (-30), 3) := by decide +kernel
theorem dX6_four_36 : decode cX6_four 36 = .ok (.return_, 1) := by decide +kernel
theorem dX6_end_0 : decode cX6_end 0 = .ok (.aload_n 0, 1) := by decide +kernel
theorem dX6_end_1 : decode cX6_end 1 = .ok (.iconst 0, 1) := by decide +kernel
theorem dX6_end_2 : decode cX6_end 2 = .ok (.putfield 74, 3) := by decide +kernel
theorem dX6_end_5 : decode cX6_end 5 = .ok (.iload_n 1, 1) := by decide +kernel
theorem dX6_end_6 : decode cX6_end 6 = .ok (.i2l, 1) := by decide +kernel
theorem dX6_end_7 : decode cX6_end 7 = .ok (.lconst 0, 1) := by decide +kernel
theorem dX6_end_8 : decode cX6_end 8 = .ok (.aload_n 0, 1) := by decide +kernel
theorem dX6_end_9 : decode cX6_end 9 = .ok (.getfield 91, 3) := by decide +kernel
theorem dX6_end_12 : decode cX6_end 12 = .ok (.i2l, 1) := by decide +kernel
theorem dX6_end_13 : decode cX6_end 13 = .ok (.invokestatic 79, 3) := by decide +kernel
theorem dX6_end_16 : decode cX6_end 16 = .ok (.ifCond .ne 5, 3) := by decide +kernel
theorem dX6_end_19 : decode cX6_end 19 = .ok (.iconst (-1), 1) := by decide +kernel
theorem dX6_end_20 : decode cX6_end 20 = .ok (.ireturn, 1) := by decide +kernel
theorem dX6_end_21 : decode cX6_end 21 = .ok (.aload_n 0, 1) := by decide +kernel
theorem dX6_end_22 : decode cX6_end 22 = .ok (.iload_n 1, 1) := by decide +kernel
theorem dX6_end_23 : decode cX6_end 23 = .ok (.putfield 91, 3) := by decide +kernel
theorem dX6_end_26 : decode cX6_end 26 = .ok (.iload_n 1, 1) := by decide +kernel
theorem dX6_end_27 : decode cX6_end 27 = .ok (.ireturn, 1) := by decide +kernel
theorem dX6_isByte_0 : decode cX6_isByte 0 = .ok (.iload_n 1, 1) := by decide +kernel
theorem dX6_isByte_1 : decode cX6_isByte 1 = .ok (.aload_n 0, 1) := by decide +kernel
theorem dX6_isByte_2 : decode cX6_isByte 2 = .ok (.getfield 91, 3) := by decide +kernel
theorem dX6_isByte_5 : decode cX6_isByte 5 = .ok (.if_icmp .ge 27, 3) := by decide +kernel
theorem dX6_isByte_8 : decode cX6_isByte 8 = .ok (.aload_n 0, 1) := by decide +kernel
theorem dX6_isByte_9 : decode cX6_isByte 9 = .ok (.getfield 23, 3) := by decide +kernel
theorem dX6_isByte_12 : decode cX6_isByte 12 = .ok (.iload_n 1, 1) := by decide +kernel
theorem dX6_isByte_13 : decode cX6_isByte 13 = .ok (.baload, 1) := by decide +kernel
theorem dX6_isByte_14 : decode cX6_isByte 14 = .ok (.iload_n 2, 1) := by decide +kernel
theorem dX6_isByte_15 : decode cX6_isByte 15 = .ok (.if_icmp .lt 17, 3) := by decide +kernel
theorem dX6_isByte_18 : decode cX6_isByte 18 = .ok (.aload_n 0, 1) := by decide +kernel
theorem dX6_isByte_19 : decode cX6_isByte 19 = .ok (.getfield 23, 3) := by decide +kernel
theorem dX6_isByte_22 : decode cX6_isByte 22 = .ok (.iload_n 1, 1) := by decide +kernel
theorem dX6_isByte_23 : decode cX6_isByte 23 = .ok (.baload, 1) := by decide +kernel
theorem dX6_isByte_24 : decode cX6_isByte 24 = .ok (.iload_n 3, 1) := by decide +kernel
theorem dX6_isByte_25 : decode cX6_isByte 25 = .ok (.if_icmp .gt 7, 3) := by decide +kernel
theorem dX6_isByte_28 : decode cX6_isByte 28 = .ok (.iconst 1, 1) := by decide +kernel
theorem dX6_isByte_29 : decode cX6_isByte 29 = .ok (.goto 4, 3) := by decide +kernel
theorem dX6_isByte_32 : decode cX6_isByte 32 = .ok (.iconst 0, 1) := by decide +kernel
theorem dX6_isByte_33 : decode cX6_isByte 33 = .ok (.ireturn, 1) := by decide +kernel
theorem dX6_next_0 : decode cX6_next 0 = .ok (.aload_n 0, 1) := by decide +kernel
theorem dX6_next_1 : decode cX6_next 1 = .ok (.aload_n 0, 1) := by decide +kernel
theorem dX6_next_2 : decode cX6_next 2 = .ok (.getfield 98, 3) := by decide +kernel
theorem dX6_next_5 : decode cX6_next 5 = .ok (.bipush 32, 2) := by decide +kernel
theorem dX6_next_7 : decode cX6_next 7 = .ok (.bipush 32, 2) := by decide +kernel
theorem dX6_next_9 : decode cX6_next 9 = .ok (.invokevirtual 101, 3) := by decide +kernel
theorem dX6_next_12 : decode cX6_next 12 = .ok (.ifCond .ne 18, 3) := by decide +kernel
theorem dX6_next_15 : decode cX6_next 15 = .ok (.aload_n 0, 1) := by decide +kernel
theorem dX6_next_16 : decode cX6_next 16 = .ok (.aload_n 0, 1) := by decide +kernel
theorem dX6_next_17 : decode cX6_next 17 = .ok (.getfield 98, 3) := by decide +kernel
theorem dX6_next_20 : decode cX6_next 20 = .ok (.bipush 10, 2) := by decide +kernel
theorem dX6_next_22 : decode cX6_next 22 = .ok (.bipush 10, 2) := by decide +kernel
theorem dX6_next_24 : decode cX6_next 24 = .ok (.invokevirtual 101, 3) := by decide +kernel
theorem dX6_next_27 : decode cX6_next 27 = .ok (.ifCond .eq 16, 3) := by decide +kernel
theorem dX6_next_30 : decode cX6_next 30 = .ok (.aload_n 0, 1) := by decide +kernel
theorem dX6_next_31 : decode cX6_next 31 = .ok (.dup, 1) := by decide +kernel
theorem dX6_next_32 : decode cX6_next 32 = .ok (.getfield 98, 3) := by decide +kernel
theorem dX6_next_35 : decode cX6_next 35 = .ok (.iconst 1, 1) := by decide +kernel
theorem dX6_next_36 : decode cX6_next 36 = .ok (.iadd, 1) := by decide +kernel
theorem dX6_next_37 : decode cX6_next 37 = .ok (.putfield 98, 3) := by decide +kernel
theorem dX6_next_40 : decode cX6_next 40 = .ok (.goto (-40), 3) := by decide +kernel
theorem dX6_next_43 : decode cX6_next 43 = .ok (.aload_n 0, 1) := by decide +kernel
theorem dX6_next_44 : decode cX6_next 44 = .ok (.aload_n 0, 1) := by decide +kernel
theorem dX6_next_45 : decode cX6_next 45 = .ok (.getfield 98, 3) := by decide +kernel
theorem dX6_next_48 : decode cX6_next 48 = .ok (.putfield 105, 3) := by decide +kernel
theorem dX6_next_51 : decode cX6_next 51 = .ok (.aload_n 0, 1) := by decide +kernel
theorem dX6_next_52 : decode cX6_next 52 = .ok (.iconst 0, 1) := by decide +kernel
theorem dX6_next_53 : decode cX6_next 53 = .ok (.putfield 108, 3) := by decide +kernel
theorem dX6_next_56 : decode cX6_next 56 = .ok (.aload_n 0, 1) := by decide +kernel
theorem dX6_next_57 : decode cX6_next 57 = .ok (.lconst 0, 1) := by decide +kernel
theorem dX6_next_58 : decode cX6_next 58 = .ok (.putfield 111, 3) := by decide +kernel
theorem dX6_next_61 : decode cX6_next 61 = .ok (.aload_n 0, 1) := by decide +kernel
theorem dX6_next_62 : decode cX6_next 62 = .ok (.getfield 98, 3) := by decide +kernel
theorem dX6_next_65 : decode cX6_next 65 = .ok (.aload_n 0, 1) := by decide +kernel
theorem dX6_next_66 : decode cX6_next 66 = .ok (.getfield 91, 3) := by decide +kernel
theorem dX6_next_69 : decode cX6_next 69 = .ok (.if_icmp .ne 11, 3) := by decide +kernel
theorem dX6_next_72 : decode cX6_next 72 = .ok (.aload_n 0, 1) := by decide +kernel
theorem dX6_next_73 : decode cX6_next 73 = .ok (.iconst 0, 1) := by decide +kernel
theorem dX6_next_74 : decode cX6_next 74 = .ok (.putfield 115, 3) := by decide +kernel
theorem dX6_next_77 : decode cX6_next 77 = .ok (.goto 230, 3) := by decide +kernel
theorem dX6_next_80 : decode cX6_next 80 = .ok (.aload_n 0, 1) := by decide +kernel
theorem dX6_next_81 : decode cX6_next 81 = .ok (.aload_n 0, 1) := by decide +kernel
theorem dX6_next_82 : decode cX6_next 82 = .ok (.getfield 98, 3) := by decide +kernel
theorem dX6_next_85 : decode cX6_next 85 = .ok (.bipush 97, 2) := by decide +kernel
theorem dX6_next_87 : decode cX6_next 87 = .ok (.bipush 122, 2) := by decide +kernel
theorem dX6_next_89 : decode cX6_next 89 = .ok (.invokevirtual 101, 3) := by decide +kernel
theorem dX6_next_92 : decode cX6_next 92 = .ok (.ifCond .eq 96, 3) := by decide +kernel
theorem dX6_next_95 : decode cX6_next 95 = .ok (.aload_n 0, 1) := by decide +kernel
theorem dX6_next_96 : decode cX6_next 96 = .ok (.iconst 1, 1) := by decide +kernel
theorem dX6_next_97 : decode cX6_next 97 = .ok (.putfield 115, 3) := by decide +kernel
theorem dX6_next_100 : decode cX6_next 100 = .ok (.iconst 0, 1) := by decide +kernel
theorem dX6_next_101 : decode cX6_next 101 = .ok (.istore_n 1, 1) := by decide +kernel
theorem dX6_next_102 : decode cX6_next 102 = .ok (.aload_n 0, 1) := by decide +kernel
theorem dX6_next_103 : decode cX6_next 103 = .ok (.aload_n 0, 1) := by decide +kernel
theorem dX6_next_104 : decode cX6_next 104 = .ok (.getfield 98, 3) := by decide +kernel
theorem dX6_next_107 : decode cX6_next 107 = .ok (.bipush 97, 2) := by decide +kernel
theorem dX6_next_109 : decode cX6_next 109 = .ok (.bipush 122, 2) := by decide +kernel
theorem dX6_next_111 : decode cX6_next 111 = .ok (.invokevirtual 101, 3) := by decide +kernel
theorem dX6_next_114 : decode cX6_next 114 = .ok (.ifCond .eq 71, 3) := by decide +kernel
theorem dX6_next_117 : decode cX6_next 117 = .ok (.aload_n 0, 1) := by decide +kernel
theorem dX6_next_118 : decode cX6_next 118 = .ok (.iload_n 1, 1) := by decide +kernel
theorem dX6_next_119 : decode cX6_next 119 = .ok (.bipush 11, 2) := by decide +kernel
theorem dX6_next_121 : decode cX6_next 121 = .ok (.if_icmp .le 9, 3) := by decide +kernel
theorem dX6_next_124 : decode cX6_next 124 = .ok (.ldc2_w 118, 3) := by decide +kernel
theorem dX6_next_127 : decode cX6_next 127 = .ok (.goto 26, 3) := by decide +kernel
theorem dX6_next_130 : decode cX6_next 130 = .ok (.ldc2_w 120, 3) := by decide +kernel
theorem dX6_next_133 : decode cX6_next 133 = .ok (.aload_n 0, 1) := by decide +kernel
theorem dX6_next_134 : decode cX6_next 134 = .ok (.getfield 111, 3) := by decide +kernel
theorem dX6_next_137 : decode cX6_next 137 = .ok (.lmul, 1) := by decide +kernel
theorem dX6_next_138 : decode cX6_next 138 = .ok (.aload_n 0, 1) := by decide +kernel
theorem dX6_next_139 : decode cX6_next 139 = .ok (.getfield 23, 3) := by decide +kernel
theorem dX6_next_142 : decode cX6_next 142 = .ok (.aload_n 0, 1) := by decide +kernel
theorem dX6_next_143 : decode cX6_next 143 = .ok (.getfield 98, 3) := by decide +kernel
theorem dX6_next_146 : decode cX6_next 146 = .ok (.baload, 1) := by decide +kernel
theorem dX6_next_147 : decode cX6_next 147 = .ok (.i2l, 1) := by decide +kernel
theorem dX6_next_148 : decode cX6_next 148 = .ok (.ladd, 1) := by decide +kernel
theorem dX6_next_149 : decode cX6_next 149 = .ok (.ldc2_w 122, 3) := by decide +kernel
theorem dX6_next_152 : decode cX6_next 152 = .ok (.lsub, 1) := by decide +kernel
theorem dX6_next_153 : decode cX6_next 153 = .ok (.putfield 111, 3) := by decide +kernel
theorem dX6_next_156 : decode cX6_next 156 = .ok (.iload_n 1, 1) := by decide +kernel
theorem dX6_next_157 : decode cX6_next 157 = .ok (.bipush 11, 2) := by decide +kernel
theorem dX6_next_159 : decode cX6_next 159 = .ok (.if_icmp .le 10, 3) := by decide +kernel
theorem dX6_next_162 : decode cX6_next 162 = .ok (.aload_n 0, 1) := by decide +kernel
theorem dX6_next_163 : decode cX6_next 163 = .ok (.ldc2_w 118, 3) := by decide +kernel
theorem dX6_next_166 : decode cX6_next 166 = .ok (.putfield 111, 3) := by decide +kernel
theorem dX6_next_169 : decode cX6_next 169 = .ok (.aload_n 0, 1) := by decide +kernel
theorem dX6_next_170 : decode cX6_next 170 = .ok (.dup, 1) := by decide +kernel
theorem dX6_next_171 : decode cX6_next 171 = .ok (.getfield 98, 3) := by decide +kernel
theorem dX6_next_174 : decode cX6_next 174 = .ok (.iconst 1, 1) := by decide +kernel
theorem dX6_next_175 : decode cX6_next 175 = .ok (.iadd, 1) := by decide +kernel
theorem dX6_next_176 : decode cX6_next 176 = .ok (.putfield 98, 3) := by decide +kernel
theorem dX6_next_179 : decode cX6_next 179 = .ok (.iinc 1 1, 3) := by decide +kernel
theorem dX6_next_182 : decode cX6_next 182 = .ok (.goto (-80), 3) := by decide +kernel
theorem dX6_next_185 : decode cX6_next 185 = .ok (.goto 122, 3) := by decide +kernel
theorem dX6_next_188 : decode cX6_next 188 = .ok (.aload_n 0, 1) := by decide +kernel
theorem dX6_next_189 : decode cX6_next 189 = .ok (.aload_n 0, 1) := by decide +kernel
theorem dX6_next_190 : decode cX6_next 190 = .ok (.getfield 98, 3) := by decide +kernel
theorem dX6_next_193 : decode cX6_next 193 = .ok (.bipush 48, 2) := by decide +kernel
theorem dX6_next_195 : decode cX6_next 195 = .ok (.bipush 57, 2) := by decide +kernel
theorem dX6_next_197 : decode cX6_next 197 = .ok (.invokevirtual 101, 3) := by decide +kernel
theorem dX6_next_200 : decode cX6_next 200 = .ok (.ifCond .eq 74, 3) := by decide +kernel
theorem dX6_next_203 : decode cX6_next 203 = .ok (.aload_n 0, 1) := by decide +kernel
theorem dX6_next_204 : decode cX6_next 204 = .ok (.iconst 2, 1) := by decide +kernel
theorem dX6_next_205 : decode cX6_next 205 = .ok (.putfield 115, 3) := by decide +kernel
theorem dX6_next_208 : decode cX6_next 208 = .ok (.aload_n 0, 1) := by decide +kernel
theorem dX6_next_209 : decode cX6_next 209 = .ok (.aload_n 0, 1) := by decide +kernel
theorem dX6_next_210 : decode cX6_next 210 = .ok (.getfield 98, 3) := by decide +kernel
theorem dX6_next_213 : decode cX6_next 213 = .ok (.bipush 48, 2) := by decide +kernel
theorem dX6_next_215 : decode cX6_next 215 = .ok (.bipush 57, 2) := by decide +kernel
theorem dX6_next_217 : decode cX6_next 217 = .ok (.invokevirtual 101, 3) := by decide +kernel
theorem dX6_next_220 : decode cX6_next 220 = .ok (.ifCond .eq 87, 3) := by decide +kernel
theorem dX6_next_223 : decode cX6_next 223 = .ok (.aload_n 0, 1) := by decide +kernel
theorem dX6_next_224 : decode cX6_next 224 = .ok (.aload_n 0, 1) := by decide +kernel
theorem dX6_next_225 : decode cX6_next 225 = .ok (.getfield 108, 3) := by decide +kernel
theorem dX6_next_228 : decode cX6_next 228 = .ok (.ldc 124, 2) := by decide +kernel
theorem dX6_next_230 : decode cX6_next 230 = .ok (.if_icmp .le 8, 3) := by decide +kernel
theorem dX6_next_233 : decode cX6_next 233 = .ok (.ldc 125, 2) := by decide +kernel
theorem dX6_next_235 : decode cX6_next 235 = .ok (.goto 23, 3) := by decide +kernel
theorem dX6_next_238 : decode cX6_next 238 = .ok (.bipush 10, 2) := by decide +kernel
theorem dX6_next_240 : decode cX6_next 240 = .ok (.aload_n 0, 1) := by decide +kernel
theorem dX6_next_241 : decode cX6_next 241 = .ok (.getfield 108, 3) := by decide +kernel
theorem dX6_next_244 : decode cX6_next 244 = .ok (.imul, 1) := by decide +kernel
theorem dX6_next_245 : decode cX6_next 245 = .ok (.aload_n 0, 1) := by decide +kernel
theorem dX6_next_246 : decode cX6_next 246 = .ok (.getfield 23, 3) := by decide +kernel
theorem dX6_next_249 : decode cX6_next 249 = .ok (.aload_n 0, 1) := by decide +kernel
theorem dX6_next_250 : decode cX6_next 250 = .ok (.getfield 98, 3) := by decide +kernel
theorem dX6_next_253 : decode cX6_next 253 = .ok (.baload, 1) := by decide +kernel
theorem dX6_next_254 : decode cX6_next 254 = .ok (.iadd, 1) := by decide +kernel
theorem dX6_next_255 : decode cX6_next 255 = .ok (.bipush 48, 2) := by decide +kernel
theorem dX6_next_257 : decode cX6_next 257 = .ok (.isub, 1) := by decide +kernel
theorem dX6_next_258 : decode cX6_next 258 = .ok (.putfield 108, 3) := by decide +kernel
theorem dX6_next_261 : decode cX6_next 261 = .ok (.aload_n 0, 1) := by decide +kernel
theorem dX6_next_262 : decode cX6_next 262 = .ok (.dup, 1) := by decide +kernel
theorem dX6_next_263 : decode cX6_next 263 = .ok (.getfield 98, 3) := by decide +kernel
theorem dX6_next_266 : decode cX6_next 266 = .ok (.iconst 1, 1) := by decide +kernel
theorem dX6_next_267 : decode cX6_next 267 = .ok (.iadd, 1) := by decide +kernel
theorem dX6_next_268 : decode cX6_next 268 = .ok (.putfield 98, 3) := by decide +kernel
theorem dX6_next_271 : decode cX6_next 271 = .ok (.goto (-63), 3) := by decide +kernel
theorem dX6_next_274 : decode cX6_next 274 = .ok (.aload_n 0, 1) := by decide +kernel
theorem dX6_next_275 : decode cX6_next 275 = .ok (.aload_n 0, 1) := by decide +kernel
theorem dX6_next_276 : decode cX6_next 276 = .ok (.getfield 23, 3) := by decide +kernel
theorem dX6_next_279 : decode cX6_next 279 = .ok (.aload_n 0, 1) := by decide +kernel
theorem dX6_next_280 : decode cX6_next 280 = .ok (.getfield 98, 3) := by decide +kernel
theorem dX6_next_283 : decode cX6_next 283 = .ok (.baload, 1) := by decide +kernel
theorem dX6_next_284 : decode cX6_next 284 = .ok (.bipush 59, 2) := by decide +kernel
theorem dX6_next_286 : decode cX6_next 286 = .ok (.if_icmp .ne 7, 3) := by decide +kernel
theorem dX6_next_289 : decode cX6_next 289 = .ok (.iconst 3, 1) := by decide +kernel
theorem dX6_next_290 : decode cX6_next 290 = .ok (.goto 4, 3) := by decide +kernel
theorem dX6_next_293 : decode cX6_next 293 = .ok (.iconst 4, 1) := by decide +kernel
theorem dX6_next_294 : decode cX6_next 294 = .ok (.putfield 115, 3) := by decide +kernel
theorem dX6_next_297 : decode cX6_next 297 = .ok (.aload_n 0, 1) := by decide +kernel
theorem dX6_next_298 : decode cX6_next 298 = .ok (.dup, 1) := by decide +kernel
theorem dX6_next_299 : decode cX6_next 299 = .ok (.getfield 98, 3) := by decide +kernel
theorem dX6_next_302 : decode cX6_next 302 = .ok (.iconst 1, 1) := by decide +kernel
theorem dX6_next_303 : decode cX6_next 303 = .ok (.iadd, 1) := by decide +kernel
theorem dX6_next_304 : decode cX6_next 304 = .ok (.putfield 98, 3) := by decide +kernel
theorem dX6_next_307 : decode cX6_next 307 = .ok (.return_, 1) := by decide +kernel
theorem dX6_isGood_0 : decode cX6_isGood 0 = .ok (.aload_n 0, 1) := by decide +kernel
theorem dX6_isGood_1 : decode cX6_isGood 1 = .ok (.getfield 126, 3) := by decide +kernel
theorem dX6_isGood_4 : decode cX6_isGood 4 = .ok (.ifCond .ne 7, 3) := by decide +kernel
theorem dX6_isGood_7 : decode cX6_isGood 7 = .ok (.iconst 1, 1) := by decide +kernel
theorem dX6_isGood_8 : decode cX6_isGood 8 = .ok (.goto 4, 3) := by decide +kernel
theorem dX6_isGood_11 : decode cX6_isGood 11 = .ok (.iconst 0, 1) := by decide +kernel
theorem dX6_isGood_12 : decode cX6_isGood 12 = .ok (.ireturn, 1) := by decide +kernel
theorem dX6_fails_0 : decode cX6_fails 0 = .ok (.aload_n 0, 1) := by decide +kernel
theorem dX6_fails_1 : decode cX6_fails 1 = .ok (.getfield 126, 3) := by decide +kernel
theorem dX6_fails_4 : decode cX6_fails 4 = .ok (.ifCond .eq 4, 3) := by decide +kernel
theorem dX6_fails_7 : decode cX6_fails 7 = .ok (.return_, 1) := by decide +kernel
theorem dX6_fails_8 : decode cX6_fails 8 = .ok (.aload_n 0, 1) := by decide +kernel
theorem dX6_fails_9 : decode cX6_fails 9 = .ok (.iload_n 1, 1) := by decide +kernel
theorem dX6_fails_10 : decode cX6_fails 10 = .ok (.putfield 126, 3) := by decide +kernel
theorem dX6_fails_13 : decode cX6_fails 13 = .ok (.aload_n 0, 1) := by decide +kernel
theorem dX6_fails_14 : decode cX6_fails 14 = .ok (.aload_n 0, 1) := by decide +kernel
theorem dX6_fails_15 : decode cX6_fails 15 = .ok (.getfield 105, 3) := by decide +kernel
theorem dX6_fails_18 : decode cX6_fails 18 = .ok (.putfield 129, 3) := by decide +kernel
theorem dX6_fails_21 : decode cX6_fails 21 = .ok (.return_, 1) := by decide +kernel
theorem dX6_is_0 : decode cX6_is 0 = .ok (.aload_n 0, 1) := by decide +kernel
theorem dX6_is_1 : decode cX6_is 1 = .ok (.getfield 126, 3) := by decide +kernel
theorem dX6_is_4 : decode cX6_is 4 = .ok (.ifCond .ne 24, 3) := by decide +kernel
theorem dX6_is_7 : decode cX6_is 7 = .ok (.aload_n 0, 1) := by decide +kernel
theorem dX6_is_8 : decode cX6_is 8 = .ok (.getfield 115, 3) := by decide +kernel
theorem dX6_is_11 : decode cX6_is 11 = .ok (.iconst 1, 1) := by decide +kernel
theorem dX6_is_12 : decode cX6_is 12 = .ok (.if_icmp .ne 16, 3) := by decide +kernel
theorem dX6_is_15 : decode cX6_is 15 = .ok (.aload_n 0, 1) := by decide +kernel
theorem dX6_is_16 : decode cX6_is 16 = .ok (.getfield 111, 3) := by decide +kernel
theorem dX6_is_19 : decode cX6_is 19 = .ok (.lload_n 1, 1) := by decide +kernel
theorem dX6_is_20 : decode cX6_is 20 = .ok (.lcmp, 1) := by decide +kernel
theorem dX6_is_21 : decode cX6_is 21 = .ok (.ifCond .ne 7, 3) := by decide +kernel
theorem dX6_is_24 : decode cX6_is 24 = .ok (.iconst 1, 1) := by decide +kernel
theorem dX6_is_25 : decode cX6_is 25 = .ok (.goto 4, 3) := by decide +kernel
theorem dX6_is_28 : decode cX6_is 28 = .ok (.iconst 0, 1) := by decide +kernel
theorem dX6_is_29 : decode cX6_is 29 = .ok (.ireturn, 1) := by decide +kernel
theorem dX6_takesWord_0 : decode cX6_takesWord 0 = .ok (.aload_n 0, 1) := by decide +kernel
theorem dX6_takesWord_1 : decode cX6_takesWord 1 = .ok (.lload_n 1, 1) := by decide +kernel
theorem dX6_takesWord_2 : decode cX6_takesWord 2 = .ok (.invokevirtual 132, 3) := by decide +kernel
theorem dX6_takesWord_5 : decode cX6_takesWord 5 = .ok (.ifCond .ne 5, 3) := by decide +kernel
theorem dX6_takesWord_8 : decode cX6_takesWord 8 = .ok (.iconst 0, 1) := by decide +kernel
theorem dX6_takesWord_9 : decode cX6_takesWord 9 = .ok (.ireturn, 1) := by decide +kernel
theorem dX6_takesWord_10 : decode cX6_takesWord 10 = .ok (.aload_n 0, 1) := by decide +kernel
theorem dX6_takesWord_11 : decode cX6_takesWord 11 = .ok (.invokevirtual 136, 3) := by decide +kernel
theorem dX6_takesWord_14 : decode cX6_takesWord 14 = .ok (.iconst 1, 1) := by decide +kernel
theorem dX6_takesWord_15 : decode cX6_takesWord 15 = .ok (.ireturn, 1) := by decide +kernel
theorem dX6_asks_0 : decode cX6_asks 0 = .ok (.aload_n 0, 1) := by decide +kernel
theorem dX6_asks_1 : decode cX6_asks 1 = .ok (.lload_n 1, 1) := by decide +kernel
theorem dX6_asks_2 : decode cX6_asks 2 = .ok (.invokevirtual 139, 3) := by decide +kernel
theorem dX6_asks_5 : decode cX6_asks 5 = .ok (.ifCond .ne 8, 3) := by decide +kernel
theorem dX6_asks_8 : decode cX6_asks 8 = .ok (.aload_n 0, 1) := by decide +kernel
theorem dX6_asks_9 : decode cX6_asks 9 = .ok (.iconst 1, 1) := by decide +kernel
theorem dX6_asks_10 : decode cX6_asks 10 = .ok (.invokevirtual 142, 3) := by decide +kernel
theorem dX6_asks_13 : decode cX6_asks 13 = .ok (.return_, 1) := by decide +kernel
theorem dX6_number_0 : decode cX6_number 0 = .ok (.aload_n 0, 1) := by decide +kernel
theorem dX6_number_1 : decode cX6_number 1 = .ok (.getfield 126, 3) := by decide +kernel
theorem dX6_number_4 : decode cX6_number 4 = .ok (.ifCond .eq 5, 3) := by decide +kernel
theorem dX6_number_7 : decode cX6_number 7 = .ok (.iload_n 1, 1) := by decide +kernel
theorem dX6_number_8 : decode cX6_number 8 = .ok (.ireturn, 1) := by decide +kernel
theorem dX6_number_9 : decode cX6_number 9 = .ok (.aload_n 0, 1) := by decide +kernel
theorem dX6_number_10 : decode cX6_number 10 = .ok (.getfield 115, 3) := by decide +kernel
theorem dX6_number_13 : decode cX6_number 13 = .ok (.iconst 2, 1) := by decide +kernel
theorem dX6_number_14 : decode cX6_number 14 = .ok (.if_icmp .eq 10, 3) := by decide +kernel
theorem dX6_number_17 : decode cX6_number 17 = .ok (.aload_n 0, 1) := by decide +kernel
theorem dX6_number_18 : decode cX6_number 18 = .ok (.iconst 1, 1) := by decide +kernel
theorem dX6_number_19 : decode cX6_number 19 = .ok (.invokevirtual 142, 3) := by decide +kernel
theorem dX6_number_22 : decode cX6_number 22 = .ok (.iload_n 1, 1) := by decide +kernel
theorem dX6_number_23 : decode cX6_number 23 = .ok (.ireturn, 1) := by decide +kernel
theorem dX6_number_24 : decode cX6_number 24 = .ok (.aload_n 0, 1) := by decide +kernel
theorem dX6_number_25 : decode cX6_number 25 = .ok (.getfield 108, 3) := by decide +kernel
theorem dX6_number_28 : decode cX6_number 28 = .ok (.i2l, 1) := by decide +kernel
theorem dX6_number_29 : decode cX6_number 29 = .ok (.iload_n 1, 1) := by decide +kernel
theorem dX6_number_30 : decode cX6_number 30 = .ok (.i2l, 1) := by decide +kernel
theorem dX6_number_31 : decode cX6_number 31 = .ok (.iload_n 2, 1) := by decide +kernel
theorem dX6_number_32 : decode cX6_number 32 = .ok (.i2l, 1) := by decide +kernel
theorem dX6_number_33 : decode cX6_number 33 = .ok (.invokestatic 79, 3) := by decide +kernel
theorem dX6_number_36 : decode cX6_number 36 = .ok (.ifCond .ne 10, 3) := by decide +kernel
theorem dX6_number_39 : decode cX6_number 39 = .ok (.aload_n 0, 1) := by decide +kernel
theorem dX6_number_40 : decode cX6_number 40 = .ok (.iconst 2, 1) := by decide +kernel
theorem dX6_number_41 : decode cX6_number 41 = .ok (.invokevirtual 142, 3) := by decide +kernel
theorem dX6_number_44 : decode cX6_number 44 = .ok (.iload_n 1, 1) := by decide +kernel
theorem dX6_number_45 : decode cX6_number 45 = .ok (.ireturn, 1) := by decide +kernel
theorem dX6_number_46 : decode cX6_number 46 = .ok (.aload_n 0, 1) := by decide +kernel
theorem dX6_number_47 : decode cX6_number 47 = .ok (.getfield 108, 3) := by decide +kernel
theorem dX6_number_50 : decode cX6_number 50 = .ok (.istore_n 3, 1) := by decide +kernel
theorem dX6_number_51 : decode cX6_number 51 = .ok (.aload_n 0, 1) := by decide +kernel
theorem dX6_number_52 : decode cX6_number 52 = .ok (.invokevirtual 136, 3) := by decide +kernel
theorem dX6_number_55 : decode cX6_number 55 = .ok (.iload_n 3, 1) := by decide +kernel
theorem dX6_number_56 : decode cX6_number 56 = .ok (.ireturn, 1) := by decide +kernel
theorem dX6_number__0 : decode cX6_number_ 0 = .ok (.aload_n 0, 1) := by decide +kernel
theorem dX6_number__1 : decode cX6_number_ 1 = .ok (.lload_n 1, 1) := by decide +kernel
theorem dX6_number__2 : decode cX6_number_ 2 = .ok (.invokevirtual 145, 3) := by decide +kernel
theorem dX6_number__5 : decode cX6_number_ 5 = .ok (.aload_n 0, 1) := by decide +kernel
theorem dX6_number__6 : decode cX6_number_ 6 = .ok (.iload_n 3, 1) := by decide +kernel
theorem dX6_number__7 : decode cX6_number_ 7 = .ok (.iload 4, 2) := by decide +kernel
theorem dX6_number__9 : decode cX6_number_ 9 = .ok (.invokevirtual 149, 3) := by decide +kernel
theorem dX6_number__12 : decode cX6_number_ 12 = .ok (.ireturn, 1) := by decide +kernel
theorem dX6_ends_0 : decode cX6_ends 0 = .ok (.aload_n 0, 1) := by decide +kernel
theorem dX6_ends_1 : decode cX6_ends 1 = .ok (.getfield 115, 3) := by decide +kernel
theorem dX6_ends_4 : decode cX6_ends 4 = .ok (.iconst 3, 1) := by decide +kernel
theorem dX6_ends_5 : decode cX6_ends 5 = .ok (.if_icmp .eq 8, 3) := by decide +kernel
theorem dX6_ends_8 : decode cX6_ends 8 = .ok (.aload_n 0, 1) := by decide +kernel
theorem dX6_ends_9 : decode cX6_ends 9 = .ok (.iconst 1, 1) := by decide +kernel
theorem dX6_ends_10 : decode cX6_ends 10 = .ok (.invokevirtual 142, 3) := by decide +kernel
theorem dX6_ends_13 : decode cX6_ends 13 = .ok (.aload_n 0, 1) := by decide +kernel
theorem dX6_ends_14 : decode cX6_ends 14 = .ok (.getfield 126, 3) := by decide +kernel
theorem dX6_ends_17 : decode cX6_ends 17 = .ok (.ifCond .ne 7, 3) := by decide +kernel
theorem dX6_ends_20 : decode cX6_ends 20 = .ok (.aload_n 0, 1) := by decide +kernel
theorem dX6_ends_21 : decode cX6_ends 21 = .ok (.invokevirtual 136, 3) := by decide +kernel
theorem dX6_ends_24 : decode cX6_ends 24 = .ok (.return_, 1) := by decide +kernel
theorem dX6_begins_0 : decode cX6_begins 0 = .ok (.aload_n 0, 1) := by decide +kernel
theorem dX6_begins_1 : decode cX6_begins 1 = .ok (.iconst 0, 1) := by decide +kernel
theorem dX6_begins_2 : decode cX6_begins 2 = .ok (.putfield 126, 3) := by decide +kernel
theorem dX6_begins_5 : decode cX6_begins 5 = .ok (.aload_n 0, 1) := by decide +kernel
theorem dX6_begins_6 : decode cX6_begins 6 = .ok (.iconst (-1), 1) := by decide +kernel
theorem dX6_begins_7 : decode cX6_begins 7 = .ok (.putfield 129, 3) := by decide +kernel
theorem dX6_begins_10 : decode cX6_begins 10 = .ok (.aload_n 0, 1) := by decide +kernel
theorem dX6_begins_11 : decode cX6_begins 11 = .ok (.iconst 0, 1) := by decide +kernel
theorem dX6_begins_12 : decode cX6_begins 12 = .ok (.putfield 98, 3) := by decide +kernel
theorem dX6_begins_15 : decode cX6_begins 15 = .ok (.aload_n 0, 1) := by decide +kernel
theorem dX6_begins_16 : decode cX6_begins 16 = .ok (.invokevirtual 136, 3) := by decide +kernel
theorem dX6_begins_19 : decode cX6_begins 19 = .ok (.return_, 1) := by decide +kernel
theorem dX6_isOver_0 : decode cX6_isOver 0 = .ok (.aload_n 0, 1) := by decide +kernel
theorem dX6_isOver_1 : decode cX6_isOver 1 = .ok (.iconst 0, 1) := by decide +kernel
theorem dX6_isOver_2 : decode cX6_isOver 2 = .ok (.putfield 91, 3) := by decide +kernel
theorem dX6_isOver_5 : decode cX6_isOver 5 = .ok (.aload_n 0, 1) := by decide +kernel
theorem dX6_isOver_6 : decode cX6_isOver 6 = .ok (.aload_n 0, 1) := by decide +kernel
theorem dX6_isOver_7 : decode cX6_isOver 7 = .ok (.getfield 126, 3) := by decide +kernel
theorem dX6_isOver_10 : decode cX6_isOver 10 = .ok (.putfield 153, 3) := by decide +kernel
theorem dX6_isOver_13 : decode cX6_isOver 13 = .ok (.aload_n 0, 1) := by decide +kernel
theorem dX6_isOver_14 : decode cX6_isOver 14 = .ok (.aload_n 0, 1) := by decide +kernel
theorem dX6_isOver_15 : decode cX6_isOver 15 = .ok (.getfield 126, 3) := by decide +kernel
theorem dX6_isOver_18 : decode cX6_isOver 18 = .ok (.ifCond .ne 7, 3) := by decide +kernel
theorem dX6_isOver_21 : decode cX6_isOver 21 = .ok (.iconst (-1), 1) := by decide +kernel
theorem dX6_isOver_22 : decode cX6_isOver 22 = .ok (.goto 7, 3) := by decide +kernel
theorem dX6_isOver_25 : decode cX6_isOver 25 = .ok (.aload_n 0, 1) := by decide +kernel
theorem dX6_isOver_26 : decode cX6_isOver 26 = .ok (.getfield 129, 3) := by decide +kernel
theorem dX6_isOver_29 : decode cX6_isOver 29 = .ok (.putfield 27, 3) := by decide +kernel
theorem dX6_isOver_32 : decode cX6_isOver 32 = .ok (.return_, 1) := by decide +kernel
theorem dX6_fault_0 : decode cX6_fault 0 = .ok (.aload_n 0, 1) := by decide +kernel
theorem dX6_fault_1 : decode cX6_fault 1 = .ok (.iconst 0, 1) := by decide +kernel
theorem dX6_fault_2 : decode cX6_fault 2 = .ok (.putfield 74, 3) := by decide +kernel
theorem dX6_fault_5 : decode cX6_fault 5 = .ok (.iload_n 1, 1) := by decide +kernel
theorem dX6_fault_6 : decode cX6_fault 6 = .ok (.ifCond .ne 10, 3) := by decide +kernel
theorem dX6_fault_9 : decode cX6_fault 9 = .ok (.aload_n 0, 1) := by decide +kernel
theorem dX6_fault_10 : decode cX6_fault 10 = .ok (.getfield 153, 3) := by decide +kernel
theorem dX6_fault_13 : decode cX6_fault 13 = .ok (.goto 16, 3) := by decide +kernel
theorem dX6_fault_16 : decode cX6_fault 16 = .ok (.iload_n 1, 1) := by decide +kernel
theorem dX6_fault_17 : decode cX6_fault 17 = .ok (.iconst 1, 1) := by decide +kernel
theorem dX6_fault_18 : decode cX6_fault 18 = .ok (.if_icmp .ne 10, 3) := by decide +kernel
theorem dX6_fault_21 : decode cX6_fault 21 = .ok (.aload_n 0, 1) := by decide +kernel
theorem dX6_fault_22 : decode cX6_fault 22 = .ok (.getfield 27, 3) := by decide +kernel
theorem dX6_fault_25 : decode cX6_fault 25 = .ok (.goto 4, 3) := by decide +kernel
theorem dX6_fault_28 : decode cX6_fault 28 = .ok (.iconst (-1), 1) := by decide +kernel
theorem dX6_fault_29 : decode cX6_fault 29 = .ok (.ireturn, 1) := by decide +kernel
theorem dX6_hasRead_0 : decode cX6_hasRead 0 = .ok (.aload_n 0, 1) := by decide +kernel
theorem dX6_hasRead_1 : decode cX6_hasRead 1 = .ok (.getfield 34, 3) := by decide +kernel
theorem dX6_hasRead_4 : decode cX6_hasRead 4 = .ok (.bipush 28, 2) := by decide +kernel
theorem dX6_hasRead_6 : decode cX6_hasRead 6 = .ok (.iload_n 1, 1) := by decide +kernel
theorem dX6_hasRead_7 : decode cX6_hasRead 7 = .ok (.iadd, 1) := by decide +kernel
theorem dX6_hasRead_8 : decode cX6_hasRead 8 = .ok (.iaload, 1) := by decide +kernel
theorem dX6_hasRead_9 : decode cX6_hasRead 9 = .ok (.ireturn, 1) := by decide +kernel
theorem dX6_tells_0 : decode cX6_tells 0 = .ok (.aload_n 0, 1) := by decide +kernel
theorem dX6_tells_1 : decode cX6_tells 1 = .ok (.getfield 34, 3) := by decide +kernel
theorem dX6_tells_4 : decode cX6_tells 4 = .ok (.bipush 28, 2) := by decide +kernel
theorem dX6_tells_6 : decode cX6_tells 6 = .ok (.iload_n 1, 1) := by decide +kernel
theorem dX6_tells_7 : decode cX6_tells 7 = .ok (.iadd, 1) := by decide +kernel
theorem dX6_tells_8 : decode cX6_tells 8 = .ok (.iload_n 2, 1) := by decide +kernel
theorem dX6_tells_9 : decode cX6_tells 9 = .ok (.iastore, 1) := by decide +kernel
theorem dX6_tells_10 : decode cX6_tells 10 = .ok (.return_, 1) := by decide +kernel
theorem dX6_inkLine_0 : decode cX6_inkLine 0 = .ok (.iconst 3, 1) := by decide +kernel
theorem dX6_inkLine_1 : decode cX6_inkLine 1 = .ok (.bipush 16, 2) := by decide +kernel
theorem dX6_inkLine_3 : decode cX6_inkLine 3 = .ok (.aload_n 0, 1) := by decide +kernel
theorem dX6_inkLine_4 : decode cX6_inkLine 4 = .ok (.iconst 3, 1) := by decide +kernel
theorem dX6_inkLine_5 : decode cX6_inkLine 5 = .ok (.invokevirtual 156, 3) := by decide +kernel
theorem dX6_inkLine_8 : decode cX6_inkLine 8 = .ok (.iadd, 1) := by decide +kernel
theorem dX6_inkLine_9 : decode cX6_inkLine 9 = .ok (.imul, 1) := by decide +kernel
theorem dX6_inkLine_10 : decode cX6_inkLine 10 = .ok (.istore_n 1, 1) := by decide +kernel
theorem dX6_inkLine_11 : decode cX6_inkLine 11 = .ok (.aload_n 0, 1) := by decide +kernel
theorem dX6_inkLine_12 : decode cX6_inkLine 12 = .ok (.getfield 37, 3) := by decide +kernel
theorem dX6_inkLine_15 : decode cX6_inkLine 15 = .ok (.iload_n 1, 1) := by decide +kernel
theorem dX6_inkLine_16 : decode cX6_inkLine 16 = .ok (.aload_n 0, 1) := by decide +kernel
theorem dX6_inkLine_17 : decode cX6_inkLine 17 = .ok (.ldc2_w 160, 3) := by decide +kernel
theorem dX6_inkLine_20 : decode cX6_inkLine 20 = .ok (.iconst 1, 1) := by decide +kernel
theorem dX6_inkLine_21 : decode cX6_inkLine 21 = .ok (.bipush 20, 2) := by decide +kernel
theorem dX6_inkLine_23 : decode cX6_inkLine 23 = .ok (.invokevirtual 162, 3) := by decide +kernel
theorem dX6_inkLine_26 : decode cX6_inkLine 26 = .ok (.iastore, 1) := by decide +kernel
theorem dX6_inkLine_27 : decode cX6_inkLine 27 = .ok (.aload_n 0, 1) := by decide +kernel
theorem dX6_inkLine_28 : decode cX6_inkLine 28 = .ok (.getfield 37, 3) := by decide +kernel
theorem dX6_inkLine_31 : decode cX6_inkLine 31 = .ok (.iload_n 1, 1) := by decide +kernel
theorem dX6_inkLine_32 : decode cX6_inkLine 32 = .ok (.iconst 1, 1) := by decide +kernel
theorem dX6_inkLine_33 : decode cX6_inkLine 33 = .ok (.iadd, 1) := by decide +kernel
theorem dX6_inkLine_34 : decode cX6_inkLine 34 = .ok (.aload_n 0, 1) := by decide +kernel
theorem dX6_inkLine_35 : decode cX6_inkLine 35 = .ok (.ldc2_w 165, 3) := by decide +kernel
theorem dX6_inkLine_38 : decode cX6_inkLine 38 = .ok (.iconst 1, 1) := by decide +kernel
theorem dX6_inkLine_39 : decode cX6_inkLine 39 = .ok (.bipush 60, 2) := by decide +kernel
theorem dX6_inkLine_41 : decode cX6_inkLine 41 = .ok (.invokevirtual 162, 3) := by decide +kernel
theorem dX6_inkLine_44 : decode cX6_inkLine 44 = .ok (.iastore, 1) := by decide +kernel
theorem dX6_inkLine_45 : decode cX6_inkLine 45 = .ok (.aload_n 0, 1) := by decide +kernel
theorem dX6_inkLine_46 : decode cX6_inkLine 46 = .ok (.getfield 37, 3) := by decide +kernel
theorem dX6_inkLine_49 : decode cX6_inkLine 49 = .ok (.iload_n 1, 1) := by decide +kernel
theorem dX6_inkLine_50 : decode cX6_inkLine 50 = .ok (.iconst 2, 1) := by decide +kernel
theorem dX6_inkLine_51 : decode cX6_inkLine 51 = .ok (.iadd, 1) := by decide +kernel
theorem dX6_inkLine_52 : decode cX6_inkLine 52 = .ok (.aload_n 0, 1) := by decide +kernel
theorem dX6_inkLine_53 : decode cX6_inkLine 53 = .ok (.ldc2_w 167, 3) := by decide +kernel
theorem dX6_inkLine_56 : decode cX6_inkLine 56 = .ok (.iconst 0, 1) := by decide +kernel
theorem dX6_inkLine_57 : decode cX6_inkLine 57 = .ok (.bipush 9, 2) := by decide +kernel
theorem dX6_inkLine_59 : decode cX6_inkLine 59 = .ok (.invokevirtual 162, 3) := by decide +kernel
theorem dX6_inkLine_62 : decode cX6_inkLine 62 = .ok (.iastore, 1) := by decide +kernel
theorem dX6_inkLine_63 : decode cX6_inkLine 63 = .ok (.aload_n 0, 1) := by decide +kernel
theorem dX6_inkLine_64 : decode cX6_inkLine 64 = .ok (.iconst 3, 1) := by decide +kernel
theorem dX6_inkLine_65 : decode cX6_inkLine 65 = .ok (.aload_n 0, 1) := by decide +kernel
theorem dX6_inkLine_66 : decode cX6_inkLine 66 = .ok (.iconst 3, 1) := by decide +kernel
theorem dX6_inkLine_67 : decode cX6_inkLine 67 = .ok (.invokevirtual 156, 3) := by decide +kernel
theorem dX6_inkLine_70 : decode cX6_inkLine 70 = .ok (.iconst 1, 1) := by decide +kernel
theorem dX6_inkLine_71 : decode cX6_inkLine 71 = .ok (.iadd, 1) := by decide +kernel
theorem dX6_inkLine_72 : decode cX6_inkLine 72 = .ok (.invokevirtual 169, 3) := by decide +kernel
theorem dX6_inkLine_75 : decode cX6_inkLine 75 = .ok (.return_, 1) := by decide +kernel
theorem dX6_pageLine_0 : decode cX6_pageLine 0 = .ok (.aload_n 0, 1) := by decide +kernel
theorem dX6_pageLine_1 : decode cX6_pageLine 1 = .ok (.getfield 126, 3) := by decide +kernel
theorem dX6_pageLine_4 : decode cX6_pageLine 4 = .ok (.ifCond .ne 17, 3) := by decide +kernel
theorem dX6_pageLine_7 : decode cX6_pageLine 7 = .ok (.aload_n 0, 1) := by decide +kernel
theorem dX6_pageLine_8 : decode cX6_pageLine 8 = .ok (.ldc2_w 173, 3) := by decide +kernel
theorem dX6_pageLine_11 : decode cX6_pageLine 11 = .ok (.invokevirtual 132, 3) := by decide +kernel
theorem dX6_pageLine_14 : decode cX6_pageLine 14 = .ok (.ifCond .eq 7, 3) := by decide +kernel
theorem dX6_pageLine_17 : decode cX6_pageLine 17 = .ok (.iconst 1, 1) := by decide +kernel
theorem dX6_pageLine_18 : decode cX6_pageLine 18 = .ok (.goto 4, 3) := by decide +kernel
theorem dX6_pageLine_21 : decode cX6_pageLine 21 = .ok (.iconst 0, 1) := by decide +kernel
theorem dX6_pageLine_22 : decode cX6_pageLine 22 = .ok (.istore_n 1, 1) := by decide +kernel
theorem dX6_pageLine_23 : decode cX6_pageLine 23 = .ok (.iload_n 1, 1) := by decide +kernel
theorem dX6_pageLine_24 : decode cX6_pageLine 24 = .ok (.ifCond .eq 7, 3) := by decide +kernel
theorem dX6_pageLine_27 : decode cX6_pageLine 27 = .ok (.aload_n 0, 1) := by decide +kernel
theorem dX6_pageLine_28 : decode cX6_pageLine 28 = .ok (.invokevirtual 136, 3) := by decide +kernel
theorem dX6_pageLine_31 : decode cX6_pageLine 31 = .ok (.aload_n 0, 1) := by decide +kernel
theorem dX6_pageLine_32 : decode cX6_pageLine 32 = .ok (.getfield 40, 3) := by decide +kernel
theorem dX6_pageLine_35 : decode cX6_pageLine 35 = .ok (.bipush 16, 2) := by decide +kernel
theorem dX6_pageLine_37 : decode cX6_pageLine 37 = .ok (.aload_n 0, 1) := by decide +kernel
theorem dX6_pageLine_38 : decode cX6_pageLine 38 = .ok (.iconst 4, 1) := by decide +kernel
theorem dX6_pageLine_39 : decode cX6_pageLine 39 = .ok (.invokevirtual 156, 3) := by decide +kernel
theorem dX6_pageLine_42 : decode cX6_pageLine 42 = .ok (.iadd, 1) := by decide +kernel
theorem dX6_pageLine_43 : decode cX6_pageLine 43 = .ok (.iload_n 1, 1) := by decide +kernel
theorem dX6_pageLine_44 : decode cX6_pageLine 44 = .ok (.ifCond .eq 7, 3) := by decide +kernel
theorem dX6_pageLine_47 : decode cX6_pageLine 47 = .ok (.iconst 1, 1) := by decide +kernel
theorem dX6_pageLine_48 : decode cX6_pageLine 48 = .ok (.goto 4, 3) := by decide +kernel
theorem dX6_pageLine_51 : decode cX6_pageLine 51 = .ok (.iconst 0, 1) := by decide +kernel
theorem dX6_pageLine_52 : decode cX6_pageLine 52 = .ok (.iastore, 1) := by decide +kernel
theorem dX6_pageLine_53 : decode cX6_pageLine 53 = .ok (.aload_n 0, 1) := by decide +kernel
theorem dX6_pageLine_54 : decode cX6_pageLine 54 = .ok (.iconst 4, 1) := by decide +kernel
theorem dX6_pageLine_55 : decode cX6_pageLine 55 = .ok (.aload_n 0, 1) := by decide +kernel
theorem dX6_pageLine_56 : decode cX6_pageLine 56 = .ok (.iconst 4, 1) := by decide +kernel
theorem dX6_pageLine_57 : decode cX6_pageLine 57 = .ok (.invokevirtual 156, 3) := by decide +kernel
theorem dX6_pageLine_60 : decode cX6_pageLine 60 = .ok (.iconst 1, 1) := by decide +kernel
theorem dX6_pageLine_61 : decode cX6_pageLine 61 = .ok (.iadd, 1) := by decide +kernel
theorem dX6_pageLine_62 : decode cX6_pageLine 62 = .ok (.invokevirtual 169, 3) := by decide +kernel
theorem dX6_pageLine_65 : decode cX6_pageLine 65 = .ok (.return_, 1) := by decide +kernel
theorem dX6_entryLine_0 : decode cX6_entryLine 0 = .ok (.iconst 4, 1) := by decide +kernel
theorem dX6_entryLine_1 : decode cX6_entryLine 1 = .ok (.bipush 28, 2) := by decide +kernel
theorem dX6_entryLine_3 : decode cX6_entryLine 3 = .ok (.aload_n 0, 1) := by decide +kernel
theorem dX6_entryLine_4 : decode cX6_entryLine 4 = .ok (.iconst 5, 1) := by decide +kernel
theorem dX6_entryLine_5 : decode cX6_entryLine 5 = .ok (.invokevirtual 156, 3) := by decide +kernel
theorem dX6_entryLine_8 : decode cX6_entryLine 8 = .ok (.iadd, 1) := by decide +kernel
theorem dX6_entryLine_9 : decode cX6_entryLine 9 = .ok (.imul, 1) := by decide +kernel
theorem dX6_entryLine_10 : decode cX6_entryLine 10 = .ok (.istore_n 1, 1) := by decide +kernel
theorem dX6_entryLine_11 : decode cX6_entryLine 11 = .ok (.aload_n 0, 1) := by decide +kernel
theorem dX6_entryLine_12 : decode cX6_entryLine 12 = .ok (.getfield 43, 3) := by decide +kernel
theorem dX6_entryLine_15 : decode cX6_entryLine 15 = .ok (.iload_n 1, 1) := by decide +kernel
theorem dX6_entryLine_16 : decode cX6_entryLine 16 = .ok (.aload_n 0, 1) := by decide +kernel
theorem dX6_entryLine_17 : decode cX6_entryLine 17 = .ok (.ldc2_w 175, 3) := by decide +kernel
theorem dX6_entryLine_20 : decode cX6_entryLine 20 = .ok (.iconst 0, 1) := by decide +kernel
theorem dX6_entryLine_21 : decode cX6_entryLine 21 = .ok (.aload_n 0, 1) := by decide +kernel
theorem dX6_entryLine_22 : decode cX6_entryLine 22 = .ok (.iconst 4, 1) := by decide +kernel
theorem dX6_entryLine_23 : decode cX6_entryLine 23 = .ok (.invokevirtual 156, 3) := by decide +kernel
theorem dX6_entryLine_26 : decode cX6_entryLine 26 = .ok (.iconst 1, 1) := by decide +kernel
theorem dX6_entryLine_27 : decode cX6_entryLine 27 = .ok (.isub, 1) := by decide +kernel
theorem dX6_entryLine_28 : decode cX6_entryLine 28 = .ok (.invokevirtual 162, 3) := by decide +kernel
theorem dX6_entryLine_31 : decode cX6_entryLine 31 = .ok (.iastore, 1) := by decide +kernel
theorem dX6_entryLine_32 : decode cX6_entryLine 32 = .ok (.aload_n 0, 1) := by decide +kernel
theorem dX6_entryLine_33 : decode cX6_entryLine 33 = .ok (.getfield 43, 3) := by decide +kernel
theorem dX6_entryLine_36 : decode cX6_entryLine 36 = .ok (.iload_n 1, 1) := by decide +kernel
theorem dX6_entryLine_37 : decode cX6_entryLine 37 = .ok (.iconst 1, 1) := by decide +kernel
theorem dX6_entryLine_38 : decode cX6_entryLine 38 = .ok (.iadd, 1) := by decide +kernel
theorem dX6_entryLine_39 : decode cX6_entryLine 39 = .ok (.aload_n 0, 1) := by decide +kernel
theorem dX6_entryLine_40 : decode cX6_entryLine 40 = .ok (.ldc2_w 177, 3) := by decide +kernel
theorem dX6_entryLine_43 : decode cX6_entryLine 43 = .ok (.iconst 0, 1) := by decide +kernel
theorem dX6_entryLine_44 : decode cX6_entryLine 44 = .ok (.aload_n 0, 1) := by decide +kernel
theorem dX6_entryLine_45 : decode cX6_entryLine 45 = .ok (.iconst 3, 1) := by decide +kernel
theorem dX6_entryLine_46 : decode cX6_entryLine 46 = .ok (.invokevirtual 156, 3) := by decide +kernel
theorem dX6_entryLine_49 : decode cX6_entryLine 49 = .ok (.iconst 1, 1) := by decide +kernel
theorem dX6_entryLine_50 : decode cX6_entryLine 50 = .ok (.isub, 1) := by decide +kernel
theorem dX6_entryLine_51 : decode cX6_entryLine 51 = .ok (.invokevirtual 162, 3) := by decide +kernel
theorem dX6_entryLine_54 : decode cX6_entryLine 54 = .ok (.iastore, 1) := by decide +kernel
theorem dX6_entryLine_55 : decode cX6_entryLine 55 = .ok (.aload_n 0, 1) := by decide +kernel
theorem dX6_entryLine_56 : decode cX6_entryLine 56 = .ok (.getfield 43, 3) := by decide +kernel
theorem dX6_entryLine_59 : decode cX6_entryLine 59 = .ok (.iload_n 1, 1) := by decide +kernel
theorem dX6_entryLine_60 : decode cX6_entryLine 60 = .ok (.iconst 2, 1) := by decide +kernel
theorem dX6_entryLine_61 : decode cX6_entryLine 61 = .ok (.iadd, 1) := by decide +kernel
theorem dX6_entryLine_62 : decode cX6_entryLine 62 = .ok (.aload_n 0, 1) := by decide +kernel
theorem dX6_entryLine_63 : decode cX6_entryLine 63 = .ok (.ldc2_w 179, 3) := by decide +kernel
theorem dX6_entryLine_66 : decode cX6_entryLine 66 = .ok (.iconst 0, 1) := by decide +kernel
theorem dX6_entryLine_67 : decode cX6_entryLine 67 = .ok (.bipush 20, 2) := by decide +kernel
theorem dX6_entryLine_69 : decode cX6_entryLine 69 = .ok (.invokevirtual 162, 3) := by decide +kernel
theorem dX6_entryLine_72 : decode cX6_entryLine 72 = .ok (.iastore, 1) := by decide +kernel
theorem dX6_entryLine_73 : decode cX6_entryLine 73 = .ok (.aload_n 0, 1) := by decide +kernel
theorem dX6_entryLine_74 : decode cX6_entryLine 74 = .ok (.getfield 43, 3) := by decide +kernel
theorem dX6_entryLine_77 : decode cX6_entryLine 77 = .ok (.iload_n 1, 1) := by decide +kernel
theorem dX6_entryLine_78 : decode cX6_entryLine 78 = .ok (.iconst 3, 1) := by decide +kernel
theorem dX6_entryLine_79 : decode cX6_entryLine 79 = .ok (.iadd, 1) := by decide +kernel
theorem dX6_entryLine_80 : decode cX6_entryLine 80 = .ok (.aload_n 0, 1) := by decide +kernel
theorem dX6_entryLine_81 : decode cX6_entryLine 81 = .ok (.ldc2_w 181, 3) := by decide +kernel
theorem dX6_entryLine_84 : decode cX6_entryLine 84 = .ok (.iconst 0, 1) := by decide +kernel
theorem dX6_entryLine_85 : decode cX6_entryLine 85 = .ok (.bipush 20, 2) := by decide +kernel
theorem dX6_entryLine_87 : decode cX6_entryLine 87 = .ok (.invokevirtual 162, 3) := by decide +kernel
theorem dX6_entryLine_90 : decode cX6_entryLine 90 = .ok (.iastore, 1) := by decide +kernel
theorem dX6_entryLine_91 : decode cX6_entryLine 91 = .ok (.aload_n 0, 1) := by decide +kernel
theorem dX6_entryLine_92 : decode cX6_entryLine 92 = .ok (.iconst 5, 1) := by decide +kernel
theorem dX6_entryLine_93 : decode cX6_entryLine 93 = .ok (.aload_n 0, 1) := by decide +kernel
theorem dX6_entryLine_94 : decode cX6_entryLine 94 = .ok (.iconst 5, 1) := by decide +kernel
theorem dX6_entryLine_95 : decode cX6_entryLine 95 = .ok (.invokevirtual 156, 3) := by decide +kernel
theorem dX6_entryLine_98 : decode cX6_entryLine 98 = .ok (.iconst 1, 1) := by decide +kernel
theorem dX6_entryLine_99 : decode cX6_entryLine 99 = .ok (.iadd, 1) := by decide +kernel
theorem dX6_entryLine_100 : decode cX6_entryLine 100 = .ok (.invokevirtual 169, 3) := by decide +kernel
theorem dX6_entryLine_103 : decode cX6_entryLine 103 = .ok (.return_, 1) := by decide +kernel
theorem dX6_isRoom_0 : decode cX6_isRoom 0 = .ok (.iload_n 1, 1) := by decide +kernel
theorem dX6_isRoom_1 : decode cX6_isRoom 1 = .ok (.ifCond .eq 17, 3) := by decide +kernel
theorem dX6_isRoom_4 : decode cX6_isRoom 4 = .ok (.aload_n 0, 1) := by decide +kernel
theorem dX6_isRoom_5 : decode cX6_isRoom 5 = .ok (.iload_n 2, 1) := by decide +kernel
theorem dX6_isRoom_6 : decode cX6_isRoom 6 = .ok (.invokevirtual 156, 3) := by decide +kernel
theorem dX6_isRoom_9 : decode cX6_isRoom 9 = .ok (.iload_n 3, 1) := by decide +kernel
theorem dX6_isRoom_10 : decode cX6_isRoom 10 = .ok (.if_icmp .ne 8, 3) := by decide +kernel
theorem dX6_isRoom_13 : decode cX6_isRoom 13 = .ok (.aload_n 0, 1) := by decide +kernel
theorem dX6_isRoom_14 : decode cX6_isRoom 14 = .ok (.iconst 3, 1) := by decide +kernel
theorem dX6_isRoom_15 : decode cX6_isRoom 15 = .ok (.invokevirtual 142, 3) := by decide +kernel
theorem dX6_isRoom_18 : decode cX6_isRoom 18 = .ok (.iload_n 1, 1) := by decide +kernel
theorem dX6_isRoom_19 : decode cX6_isRoom 19 = .ok (.ifCond .eq 14, 3) := by decide +kernel
theorem dX6_isRoom_22 : decode cX6_isRoom 22 = .ok (.aload_n 0, 1) := by decide +kernel
theorem dX6_isRoom_23 : decode cX6_isRoom 23 = .ok (.getfield 126, 3) := by decide +kernel
theorem dX6_isRoom_26 : decode cX6_isRoom 26 = .ok (.ifCond .ne 7, 3) := by decide +kernel
theorem dX6_isRoom_29 : decode cX6_isRoom 29 = .ok (.aload_n 0, 1) := by decide +kernel
theorem dX6_isRoom_30 : decode cX6_isRoom 30 = .ok (.invokevirtual 136, 3) := by decide +kernel
theorem dX6_isRoom_33 : decode cX6_isRoom 33 = .ok (.iload_n 1, 1) := by decide +kernel
theorem dX6_isRoom_34 : decode cX6_isRoom 34 = .ok (.ifCond .eq 14, 3) := by decide +kernel
theorem dX6_isRoom_37 : decode cX6_isRoom 37 = .ok (.aload_n 0, 1) := by decide +kernel
theorem dX6_isRoom_38 : decode cX6_isRoom 38 = .ok (.getfield 126, 3) := by decide +kernel
theorem dX6_isRoom_41 : decode cX6_isRoom 41 = .ok (.ifCond .ne 7, 3) := by decide +kernel
theorem dX6_isRoom_44 : decode cX6_isRoom 44 = .ok (.iconst 1, 1) := by decide +kernel
theorem dX6_isRoom_45 : decode cX6_isRoom 45 = .ok (.goto 4, 3) := by decide +kernel
theorem dX6_isRoom_48 : decode cX6_isRoom 48 = .ok (.iconst 0, 1) := by decide +kernel
theorem dX6_isRoom_49 : decode cX6_isRoom 49 = .ok (.ireturn, 1) := by decide +kernel
theorem dX6_lineHere_0 : decode cX6_lineHere 0 = .ok (.aload_n 0, 1) := by decide +kernel
theorem dX6_lineHere_1 : decode cX6_lineHere 1 = .ok (.aload_n 0, 1) := by decide +kernel
theorem dX6_lineHere_2 : decode cX6_lineHere 2 = .ok (.ldc2_w 183, 3) := by decide +kernel
theorem dX6_lineHere_5 : decode cX6_lineHere 5 = .ok (.invokevirtual 132, 3) := by decide +kernel
theorem dX6_lineHere_8 : decode cX6_lineHere 8 = .ok (.iconst 3, 1) := by decide +kernel
theorem dX6_lineHere_9 : decode cX6_lineHere 9 = .ok (.iconst 4, 1) := by decide +kernel
theorem dX6_lineHere_10 : decode cX6_lineHere 10 = .ok (.invokevirtual 185, 3) := by decide +kernel
theorem dX6_lineHere_13 : decode cX6_lineHere 13 = .ok (.ifCond .eq 10, 3) := by decide +kernel
theorem dX6_lineHere_16 : decode cX6_lineHere 16 = .ok (.aload_n 0, 1) := by decide +kernel
theorem dX6_lineHere_17 : decode cX6_lineHere 17 = .ok (.invokevirtual 189, 3) := by decide +kernel
theorem dX6_lineHere_20 : decode cX6_lineHere 20 = .ok (.goto 76, 3) := by decide +kernel
theorem dX6_lineHere_23 : decode cX6_lineHere 23 = .ok (.aload_n 0, 1) := by decide +kernel
theorem dX6_lineHere_24 : decode cX6_lineHere 24 = .ok (.getfield 126, 3) := by decide +kernel
theorem dX6_lineHere_27 : decode cX6_lineHere 27 = .ok (.ifCond .ne 26, 3) := by decide +kernel
theorem dX6_lineHere_30 : decode cX6_lineHere 30 = .ok (.aload_n 0, 1) := by decide +kernel
theorem dX6_lineHere_31 : decode cX6_lineHere 31 = .ok (.aload_n 0, 1) := by decide +kernel
theorem dX6_lineHere_32 : decode cX6_lineHere 32 = .ok (.ldc2_w 192, 3) := by decide +kernel
theorem dX6_lineHere_35 : decode cX6_lineHere 35 = .ok (.invokevirtual 132, 3) := by decide +kernel
theorem dX6_lineHere_38 : decode cX6_lineHere 38 = .ok (.iconst 4, 1) := by decide +kernel
theorem dX6_lineHere_39 : decode cX6_lineHere 39 = .ok (.iconst 4, 1) := by decide +kernel
theorem dX6_lineHere_40 : decode cX6_lineHere 40 = .ok (.invokevirtual 185, 3) := by decide +kernel
theorem dX6_lineHere_43 : decode cX6_lineHere 43 = .ok (.ifCond .eq 10, 3) := by decide +kernel
theorem dX6_lineHere_46 : decode cX6_lineHere 46 = .ok (.aload_n 0, 1) := by decide +kernel
theorem dX6_lineHere_47 : decode cX6_lineHere 47 = .ok (.invokevirtual 194, 3) := by decide +kernel
theorem dX6_lineHere_50 : decode cX6_lineHere 50 = .ok (.goto 46, 3) := by decide +kernel
theorem dX6_lineHere_53 : decode cX6_lineHere 53 = .ok (.aload_n 0, 1) := by decide +kernel
theorem dX6_lineHere_54 : decode cX6_lineHere 54 = .ok (.getfield 126, 3) := by decide +kernel
theorem dX6_lineHere_57 : decode cX6_lineHere 57 = .ok (.ifCond .ne 27, 3) := by decide +kernel
theorem dX6_lineHere_60 : decode cX6_lineHere 60 = .ok (.aload_n 0, 1) := by decide +kernel
theorem dX6_lineHere_61 : decode cX6_lineHere 61 = .ok (.aload_n 0, 1) := by decide +kernel
theorem dX6_lineHere_62 : decode cX6_lineHere 62 = .ok (.ldc2_w 197, 3) := by decide +kernel
theorem dX6_lineHere_65 : decode cX6_lineHere 65 = .ok (.invokevirtual 132, 3) := by decide +kernel
theorem dX6_lineHere_68 : decode cX6_lineHere 68 = .ok (.iconst 5, 1) := by decide +kernel
theorem dX6_lineHere_69 : decode cX6_lineHere 69 = .ok (.bipush 7, 2) := by decide +kernel
theorem dX6_lineHere_71 : decode cX6_lineHere 71 = .ok (.invokevirtual 185, 3) := by decide +kernel
theorem dX6_lineHere_74 : decode cX6_lineHere 74 = .ok (.ifCond .eq 10, 3) := by decide +kernel
theorem dX6_lineHere_77 : decode cX6_lineHere 77 = .ok (.aload_n 0, 1) := by decide +kernel
theorem dX6_lineHere_78 : decode cX6_lineHere 78 = .ok (.invokevirtual 199, 3) := by decide +kernel
theorem dX6_lineHere_81 : decode cX6_lineHere 81 = .ok (.goto 15, 3) := by decide +kernel
theorem dX6_lineHere_84 : decode cX6_lineHere 84 = .ok (.aload_n 0, 1) := by decide +kernel
theorem dX6_lineHere_85 : decode cX6_lineHere 85 = .ok (.getfield 126, 3) := by decide +kernel
theorem dX6_lineHere_88 : decode cX6_lineHere 88 = .ok (.ifCond .ne 8, 3) := by decide +kernel
theorem dX6_lineHere_91 : decode cX6_lineHere 91 = .ok (.aload_n 0, 1) := by decide +kernel
theorem dX6_lineHere_92 : decode cX6_lineHere 92 = .ok (.iconst 1, 1) := by decide +kernel
theorem dX6_lineHere_93 : decode cX6_lineHere 93 = .ok (.invokevirtual 142, 3) := by decide +kernel
theorem dX6_lineHere_96 : decode cX6_lineHere 96 = .ok (.return_, 1) := by decide +kernel
theorem dX6_clears_0 : decode cX6_clears 0 = .ok (.aload_n 0, 1) := by decide +kernel
theorem dX6_clears_1 : decode cX6_clears 1 = .ok (.getfield 31, 3) := by decide +kernel
theorem dX6_clears_4 : decode cX6_clears 4 = .ok (.iconst 4, 1) := by decide +kernel
theorem dX6_clears_5 : decode cX6_clears 5 = .ok (.iconst 0, 1) := by decide +kernel
theorem dX6_clears_6 : decode cX6_clears 6 = .ok (.iastore, 1) := by decide +kernel
theorem dX6_clears_7 : decode cX6_clears 7 = .ok (.iconst 0, 1) := by decide +kernel
theorem dX6_clears_8 : decode cX6_clears 8 = .ok (.istore_n 1, 1) := by decide +kernel
theorem dX6_clears_9 : decode cX6_clears 9 = .ok (.iload_n 1, 1) := by decide +kernel
theorem dX6_clears_10 : decode cX6_clears 10 = .ok (.bipush 7, 2) := by decide +kernel
theorem dX6_clears_12 : decode cX6_clears 12 = .ok (.if_icmp .ge 15, 3) := by decide +kernel
theorem dX6_clears_15 : decode cX6_clears 15 = .ok (.aload_n 0, 1) := by decide +kernel
theorem dX6_clears_16 : decode cX6_clears 16 = .ok (.iload_n 1, 1) := by decide +kernel
theorem dX6_clears_17 : decode cX6_clears 17 = .ok (.iconst 0, 1) := by decide +kernel
theorem dX6_clears_18 : decode cX6_clears 18 = .ok (.invokevirtual 169, 3) := by decide +kernel
theorem dX6_clears_21 : decode cX6_clears 21 = .ok (.iinc 1 1, 3) := by decide +kernel
theorem dX6_clears_24 : decode cX6_clears 24 = .ok (.goto (-15), 3) := by decide +kernel
theorem dX6_clears_27 : decode cX6_clears 27 = .ok (.return_, 1) := by decide +kernel
theorem dX6_book_0 : decode cX6_book 0 = .ok (.aload_n 0, 1) := by decide +kernel
theorem dX6_book_1 : decode cX6_book 1 = .ok (.iconst 0, 1) := by decide +kernel
theorem dX6_book_2 : decode cX6_book 2 = .ok (.putfield 74, 3) := by decide +kernel
theorem dX6_book_5 : decode cX6_book 5 = .ok (.aload_n 0, 1) := by decide +kernel
theorem dX6_book_6 : decode cX6_book 6 = .ok (.invokevirtual 202, 3) := by decide +kernel
theorem dX6_book_9 : decode cX6_book 9 = .ok (.aload_n 0, 1) := by decide +kernel
theorem dX6_book_10 : decode cX6_book 10 = .ok (.invokevirtual 205, 3) := by decide +kernel
theorem dX6_book_13 : decode cX6_book 13 = .ok (.aload_n 0, 1) := by decide +kernel
theorem dX6_book_14 : decode cX6_book 14 = .ok (.invokevirtual 208, 3) := by decide +kernel
theorem dX6_book_17 : decode cX6_book 17 = .ok (.ifCond .eq 101, 3) := by decide +kernel
theorem dX6_book_20 : decode cX6_book 20 = .ok (.aload_n 0, 1) := by decide +kernel
theorem dX6_book_21 : decode cX6_book 21 = .ok (.getfield 115, 3) := by decide +kernel
theorem dX6_book_24 : decode cX6_book 24 = .ok (.ifCond .eq 94, 3) := by decide +kernel
theorem dX6_book_27 : decode cX6_book 27 = .ok (.aload_n 0, 1) := by decide +kernel
theorem dX6_book_28 : decode cX6_book 28 = .ok (.getfield 31, 3) := by decide +kernel
theorem dX6_book_31 : decode cX6_book 31 = .ok (.iconst 4, 1) := by decide +kernel
theorem dX6_book_32 : decode cX6_book 32 = .ok (.iaload, 1) := by decide +kernel
theorem dX6_book_33 : decode cX6_book 33 = .ok (.ifCond .ne 57, 3) := by decide +kernel
theorem dX6_book_36 : decode cX6_book 36 = .ok (.aload_n 0, 1) := by decide +kernel
theorem dX6_book_37 : decode cX6_book 37 = .ok (.ldc2_w 212, 3) := by decide +kernel
theorem dX6_book_40 : decode cX6_book 40 = .ok (.invokevirtual 145, 3) := by decide +kernel
theorem dX6_book_43 : decode cX6_book 43 = .ok (.aload_n 0, 1) := by decide +kernel
theorem dX6_book_44 : decode cX6_book 44 = .ok (.iconst 0, 1) := by decide +kernel
theorem dX6_book_45 : decode cX6_book 45 = .ok (.aload_n 0, 1) := by decide +kernel
theorem dX6_book_46 : decode cX6_book 46 = .ok (.ldc2_w 214, 3) := by decide +kernel
theorem dX6_book_49 : decode cX6_book 49 = .ok (.iconst 1, 1) := by decide +kernel
theorem dX6_book_50 : decode cX6_book 50 = .ok (.bipush 20, 2) := by decide +kernel
theorem dX6_book_52 : decode cX6_book 52 = .ok (.invokevirtual 162, 3) := by decide +kernel
theorem dX6_book_55 : decode cX6_book 55 = .ok (.invokevirtual 169, 3) := by decide +kernel
theorem dX6_book_58 : decode cX6_book 58 = .ok (.aload_n 0, 1) := by decide +kernel
theorem dX6_book_59 : decode cX6_book 59 = .ok (.iconst 1, 1) := by decide +kernel
theorem dX6_book_60 : decode cX6_book 60 = .ok (.aload_n 0, 1) := by decide +kernel
theorem dX6_book_61 : decode cX6_book 61 = .ok (.ldc2_w 216, 3) := by decide +kernel
theorem dX6_book_64 : decode cX6_book 64 = .ok (.iconst 0, 1) := by decide +kernel
theorem dX6_book_65 : decode cX6_book 65 = .ok (.iconst 3, 1) := by decide +kernel
theorem dX6_book_66 : decode cX6_book 66 = .ok (.invokevirtual 162, 3) := by decide +kernel
theorem dX6_book_69 : decode cX6_book 69 = .ok (.invokevirtual 169, 3) := by decide +kernel
theorem dX6_book_72 : decode cX6_book 72 = .ok (.aload_n 0, 1) := by decide +kernel
theorem dX6_book_73 : decode cX6_book 73 = .ok (.iconst 2, 1) := by decide +kernel
theorem dX6_book_74 : decode cX6_book 74 = .ok (.aload_n 0, 1) := by decide +kernel
theorem dX6_book_75 : decode cX6_book 75 = .ok (.ldc2_w 218, 3) := by decide +kernel
theorem dX6_book_78 : decode cX6_book 78 = .ok (.iconst 0, 1) := by decide +kernel
theorem dX6_book_79 : decode cX6_book 79 = .ok (.bipush 10, 2) := by decide +kernel
theorem dX6_book_81 : decode cX6_book 81 = .ok (.invokevirtual 162, 3) := by decide +kernel
theorem dX6_book_84 : decode cX6_book 84 = .ok (.invokevirtual 169, 3) := by decide +kernel
theorem dX6_book_87 : decode cX6_book 87 = .ok (.goto 7, 3) := by decide +kernel
theorem dX6_book_90 : decode cX6_book 90 = .ok (.aload_n 0, 1) := by decide +kernel
theorem dX6_book_91 : decode cX6_book 91 = .ok (.invokevirtual 220, 3) := by decide +kernel
theorem dX6_book_94 : decode cX6_book 94 = .ok (.aload_n 0, 1) := by decide +kernel
theorem dX6_book_95 : decode cX6_book 95 = .ok (.invokevirtual 208, 3) := by decide +kernel
theorem dX6_book_98 : decode cX6_book 98 = .ok (.ifCond .eq 7, 3) := by decide +kernel
theorem dX6_book_101 : decode cX6_book 101 = .ok (.aload_n 0, 1) := by decide +kernel
theorem dX6_book_102 : decode cX6_book 102 = .ok (.invokevirtual 223, 3) := by decide +kernel
theorem dX6_book_105 : decode cX6_book 105 = .ok (.aload_n 0, 1) := by decide +kernel
theorem dX6_book_106 : decode cX6_book 106 = .ok (.getfield 31, 3) := by decide +kernel
theorem dX6_book_109 : decode cX6_book 109 = .ok (.iconst 4, 1) := by decide +kernel
theorem dX6_book_110 : decode cX6_book 110 = .ok (.dup2, 1) := by decide +kernel
theorem dX6_book_111 : decode cX6_book 111 = .ok (.iaload, 1) := by decide +kernel
theorem dX6_book_112 : decode cX6_book 112 = .ok (.iconst 1, 1) := by decide +kernel
theorem dX6_book_113 : decode cX6_book 113 = .ok (.iadd, 1) := by decide +kernel
theorem dX6_book_114 : decode cX6_book 114 = .ok (.iastore, 1) := by decide +kernel
theorem dX6_book_115 : decode cX6_book 115 = .ok (.goto (-102), 3) := by decide +kernel
theorem dX6_book_118 : decode cX6_book 118 = .ok (.aload_n 0, 1) := by decide +kernel
theorem dX6_book_119 : decode cX6_book 119 = .ok (.invokevirtual 226, 3) := by decide +kernel
theorem dX6_book_122 : decode cX6_book 122 = .ok (.aload_n 0, 1) := by decide +kernel
theorem dX6_book_123 : decode cX6_book 123 = .ok (.getfield 126, 3) := by decide +kernel
theorem dX6_book_126 : decode cX6_book 126 = .ok (.ifCond .eq 6, 3) := by decide +kernel
theorem dX6_book_129 : decode cX6_book 129 = .ok (.bipush (-4), 2) := by decide +kernel
theorem dX6_book_131 : decode cX6_book 131 = .ok (.ireturn, 1) := by decide +kernel
theorem dX6_book_132 : decode cX6_book 132 = .ok (.aload_n 0, 1) := by decide +kernel
theorem dX6_book_133 : decode cX6_book 133 = .ok (.iconst 4, 1) := by decide +kernel
theorem dX6_book_134 : decode cX6_book 134 = .ok (.iconst 0, 1) := by decide +kernel
theorem dX6_book_135 : decode cX6_book 135 = .ok (.invokevirtual 229, 3) := by decide +kernel
theorem dX6_book_138 : decode cX6_book 138 = .ok (.aload_n 0, 1) := by decide +kernel
theorem dX6_book_139 : decode cX6_book 139 = .ok (.getfield 31, 3) := by decide +kernel
theorem dX6_book_142 : decode cX6_book 142 = .ok (.iconst 0, 1) := by decide +kernel
theorem dX6_book_143 : decode cX6_book 143 = .ok (.iaload, 1) := by decide +kernel
theorem dX6_book_144 : decode cX6_book 144 = .ok (.ireturn, 1) := by decide +kernel
theorem dX6_copyRow_0 : decode cX6_copyRow 0 = .ok (.iconst 0, 1) := by decide +kernel
theorem dX6_copyRow_1 : decode cX6_copyRow 1 = .ok (.istore 4, 2) := by decide +kernel
theorem dX6_copyRow_3 : decode cX6_copyRow 3 = .ok (.iload 4, 2) := by decide +kernel
theorem dX6_copyRow_5 : decode cX6_copyRow 5 = .ok (.iload_n 1, 1) := by decide +kernel
theorem dX6_copyRow_6 : decode cX6_copyRow 6 = .ok (.if_icmp .ge 25, 3) := by decide +kernel
theorem dX6_copyRow_9 : decode cX6_copyRow 9 = .ok (.aload_n 0, 1) := by decide +kernel
theorem dX6_copyRow_10 : decode cX6_copyRow 10 = .ok (.iload_n 1, 1) := by decide +kernel
theorem dX6_copyRow_11 : decode cX6_copyRow 11 = .ok (.iload_n 3, 1) := by decide +kernel
theorem dX6_copyRow_12 : decode cX6_copyRow 12 = .ok (.imul, 1) := by decide +kernel
theorem dX6_copyRow_13 : decode cX6_copyRow 13 = .ok (.iload 4, 2) := by decide +kernel
theorem dX6_copyRow_15 : decode cX6_copyRow 15 = .ok (.iadd, 1) := by decide +kernel
theorem dX6_copyRow_16 : decode cX6_copyRow 16 = .ok (.aload_n 0, 1) := by decide +kernel
theorem dX6_copyRow_17 : decode cX6_copyRow 17 = .ok (.iload_n 1, 1) := by decide +kernel
theorem dX6_copyRow_18 : decode cX6_copyRow 18 = .ok (.iload_n 2, 1) := by decide +kernel
theorem dX6_copyRow_19 : decode cX6_copyRow 19 = .ok (.imul, 1) := by decide +kernel
theorem dX6_copyRow_20 : decode cX6_copyRow 20 = .ok (.iload 4, 2) := by decide +kernel
theorem dX6_copyRow_22 : decode cX6_copyRow 22 = .ok (.iadd, 1) := by decide +kernel
theorem dX6_copyRow_23 : decode cX6_copyRow 23 = .ok (.iaload, 1) := by decide +kernel
theorem dX6_copyRow_24 : decode cX6_copyRow 24 = .ok (.iastore, 1) := by decide +kernel
theorem dX6_copyRow_25 : decode cX6_copyRow 25 = .ok (.iinc 4 1, 3) := by decide +kernel
theorem dX6_copyRow_28 : decode cX6_copyRow 28 = .ok (.goto (-25), 3) := by decide +kernel
theorem dX6_copyRow_31 : decode cX6_copyRow 31 = .ok (.return_, 1) := by decide +kernel
theorem dX6_copyBook_0 : decode cX6_copyBook 0 = .ok (.aload_n 0, 1) := by decide +kernel
theorem dX6_copyBook_1 : decode cX6_copyBook 1 = .ok (.getfield 31, 3) := by decide +kernel
theorem dX6_copyBook_4 : decode cX6_copyBook 4 = .ok (.iconst 1, 1) := by decide +kernel
theorem dX6_copyBook_5 : decode cX6_copyBook 5 = .ok (.iload_n 1, 1) := by decide +kernel
theorem dX6_copyBook_6 : decode cX6_copyBook 6 = .ok (.iload_n 2, 1) := by decide +kernel
theorem dX6_copyBook_7 : decode cX6_copyBook 7 = .ok (.invokestatic 232, 3) := by decide +kernel
theorem dX6_copyBook_10 : decode cX6_copyBook 10 = .ok (.aload_n 0, 1) := by decide +kernel
theorem dX6_copyBook_11 : decode cX6_copyBook 11 = .ok (.getfield 34, 3) := by decide +kernel
theorem dX6_copyBook_14 : decode cX6_copyBook 14 = .ok (.bipush 7, 2) := by decide +kernel
theorem dX6_copyBook_16 : decode cX6_copyBook 16 = .ok (.iload_n 1, 1) := by decide +kernel
theorem dX6_copyBook_17 : decode cX6_copyBook 17 = .ok (.iload_n 2, 1) := by decide +kernel
theorem dX6_copyBook_18 : decode cX6_copyBook 18 = .ok (.invokestatic 232, 3) := by decide +kernel
theorem dX6_copyBook_21 : decode cX6_copyBook 21 = .ok (.aload_n 0, 1) := by decide +kernel
theorem dX6_copyBook_22 : decode cX6_copyBook 22 = .ok (.getfield 37, 3) := by decide +kernel
theorem dX6_copyBook_25 : decode cX6_copyBook 25 = .ok (.bipush 12, 2) := by decide +kernel
theorem dX6_copyBook_27 : decode cX6_copyBook 27 = .ok (.iload_n 1, 1) := by decide +kernel
theorem dX6_copyBook_28 : decode cX6_copyBook 28 = .ok (.iload_n 2, 1) := by decide +kernel
theorem dX6_copyBook_29 : decode cX6_copyBook 29 = .ok (.invokestatic 232, 3) := by decide +kernel
theorem dX6_copyBook_32 : decode cX6_copyBook 32 = .ok (.aload_n 0, 1) := by decide +kernel
theorem dX6_copyBook_33 : decode cX6_copyBook 33 = .ok (.getfield 40, 3) := by decide +kernel
theorem dX6_copyBook_36 : decode cX6_copyBook 36 = .ok (.iconst 4, 1) := by decide +kernel
theorem dX6_copyBook_37 : decode cX6_copyBook 37 = .ok (.iload_n 1, 1) := by decide +kernel
theorem dX6_copyBook_38 : decode cX6_copyBook 38 = .ok (.iload_n 2, 1) := by decide +kernel
theorem dX6_copyBook_39 : decode cX6_copyBook 39 = .ok (.invokestatic 232, 3) := by decide +kernel
theorem dX6_copyBook_42 : decode cX6_copyBook 42 = .ok (.aload_n 0, 1) := by decide +kernel
theorem dX6_copyBook_43 : decode cX6_copyBook 43 = .ok (.getfield 43, 3) := by decide +kernel
theorem dX6_copyBook_46 : decode cX6_copyBook 46 = .ok (.bipush 28, 2) := by decide +kernel
theorem dX6_copyBook_48 : decode cX6_copyBook 48 = .ok (.iload_n 1, 1) := by decide +kernel
theorem dX6_copyBook_49 : decode cX6_copyBook 49 = .ok (.iload_n 2, 1) := by decide +kernel
theorem dX6_copyBook_50 : decode cX6_copyBook 50 = .ok (.invokestatic 232, 3) := by decide +kernel
theorem dX6_copyBook_53 : decode cX6_copyBook 53 = .ok (.aload_n 0, 1) := by decide +kernel
theorem dX6_copyBook_54 : decode cX6_copyBook 54 = .ok (.getfield 46, 3) := by decide +kernel
theorem dX6_copyBook_57 : decode cX6_copyBook 57 = .ok (.bipush 120, 2) := by decide +kernel
theorem dX6_copyBook_59 : decode cX6_copyBook 59 = .ok (.iload_n 1, 1) := by decide +kernel
theorem dX6_copyBook_60 : decode cX6_copyBook 60 = .ok (.iload_n 2, 1) := by decide +kernel
theorem dX6_copyBook_61 : decode cX6_copyBook 61 = .ok (.invokestatic 232, 3) := by decide +kernel
theorem dX6_copyBook_64 : decode cX6_copyBook 64 = .ok (.return_, 1) := by decide +kernel
theorem dX6_isBook_0 : decode cX6_isBook 0 = .ok (.aload_n 0, 1) := by decide +kernel
theorem dX6_isBook_1 : decode cX6_isBook 1 = .ok (.getfield 31, 3) := by decide +kernel
theorem dX6_isBook_4 : decode cX6_isBook 4 = .ok (.iconst 0, 1) := by decide +kernel
theorem dX6_isBook_5 : decode cX6_isBook 5 = .ok (.iaload, 1) := by decide +kernel
theorem dX6_isBook_6 : decode cX6_isBook 6 = .ok (.ifCond .le 7, 3) := by decide +kernel
theorem dX6_isBook_9 : decode cX6_isBook 9 = .ok (.iconst 1, 1) := by decide +kernel
theorem dX6_isBook_10 : decode cX6_isBook 10 = .ok (.goto 4, 3) := by decide +kernel
theorem dX6_isBook_13 : decode cX6_isBook 13 = .ok (.iconst 0, 1) := by decide +kernel
theorem dX6_isBook_14 : decode cX6_isBook 14 = .ok (.ireturn, 1) := by decide +kernel
theorem dX6_entries_0 : decode cX6_entries 0 = .ok (.aload_n 0, 1) := by decide +kernel
theorem dX6_entries_1 : decode cX6_entries 1 = .ok (.getfield 34, 3) := by decide +kernel
theorem dX6_entries_4 : decode cX6_entries 4 = .ok (.iconst 5, 1) := by decide +kernel
theorem dX6_entries_5 : decode cX6_entries 5 = .ok (.iaload, 1) := by decide +kernel
theorem dX6_entries_6 : decode cX6_entries 6 = .ok (.ireturn, 1) := by decide +kernel
theorem dX6_years_0 : decode cX6_years 0 = .ok (.aload_n 0, 1) := by decide +kernel
theorem dX6_years_1 : decode cX6_years 1 = .ok (.getfield 34, 3) := by decide +kernel
theorem dX6_years_4 : decode cX6_years 4 = .ok (.iconst 0, 1) := by decide +kernel
theorem dX6_years_5 : decode cX6_years 5 = .ok (.iaload, 1) := by decide +kernel
theorem dX6_years_6 : decode cX6_years 6 = .ok (.ireturn, 1) := by decide +kernel
theorem dX6_isInk_0 : decode cX6_isInk 0 = .ok (.iload_n 1, 1) := by decide +kernel
theorem dX6_isInk_1 : decode cX6_isInk 1 = .ok (.i2l, 1) := by decide +kernel
theorem dX6_isInk_2 : decode cX6_isInk 2 = .ok (.lconst 0, 1) := by decide +kernel
theorem dX6_isInk_3 : decode cX6_isInk 3 = .ok (.aload_n 0, 1) := by decide +kernel
theorem dX6_isInk_4 : decode cX6_isInk 4 = .ok (.getfield 34, 3) := by decide +kernel
theorem dX6_isInk_7 : decode cX6_isInk 7 = .ok (.iconst 3, 1) := by decide +kernel
theorem dX6_isInk_8 : decode cX6_isInk 8 = .ok (.iaload, 1) := by decide +kernel
theorem dX6_isInk_9 : decode cX6_isInk 9 = .ok (.i2l, 1) := by decide +kernel
theorem dX6_isInk_10 : decode cX6_isInk 10 = .ok (.lconst 1, 1) := by decide +kernel
theorem dX6_isInk_11 : decode cX6_isInk 11 = .ok (.lsub, 1) := by decide +kernel
theorem dX6_isInk_12 : decode cX6_isInk 12 = .ok (.invokestatic 79, 3) := by decide +kernel
theorem dX6_isInk_15 : decode cX6_isInk 15 = .ok (.ireturn, 1) := by decide +kernel
theorem dX6_isPage_0 : decode cX6_isPage 0 = .ok (.iload_n 1, 1) := by decide +kernel
theorem dX6_isPage_1 : decode cX6_isPage 1 = .ok (.i2l, 1) := by decide +kernel
theorem dX6_isPage_2 : decode cX6_isPage 2 = .ok (.lconst 0, 1) := by decide +kernel
theorem dX6_isPage_3 : decode cX6_isPage 3 = .ok (.aload_n 0, 1) := by decide +kernel
theorem dX6_isPage_4 : decode cX6_isPage 4 = .ok (.getfield 34, 3) := by decide +kernel
theorem dX6_isPage_7 : decode cX6_isPage 7 = .ok (.iconst 4, 1) := by decide +kernel
theorem dX6_isPage_8 : decode cX6_isPage 8 = .ok (.iaload, 1) := by decide +kernel
theorem dX6_isPage_9 : decode cX6_isPage 9 = .ok (.i2l, 1) := by decide +kernel
theorem dX6_isPage_10 : decode cX6_isPage 10 = .ok (.lconst 1, 1) := by decide +kernel
theorem dX6_isPage_11 : decode cX6_isPage 11 = .ok (.lsub, 1) := by decide +kernel
theorem dX6_isPage_12 : decode cX6_isPage 12 = .ok (.invokestatic 79, 3) := by decide +kernel
theorem dX6_isPage_15 : decode cX6_isPage 15 = .ok (.ireturn, 1) := by decide +kernel
theorem dX6_isEntry_0 : decode cX6_isEntry 0 = .ok (.lload_n 1, 1) := by decide +kernel
theorem dX6_isEntry_1 : decode cX6_isEntry 1 = .ok (.lconst 0, 1) := by decide +kernel
theorem dX6_isEntry_2 : decode cX6_isEntry 2 = .ok (.aload_n 0, 1) := by decide +kernel
theorem dX6_isEntry_3 : decode cX6_isEntry 3 = .ok (.invokevirtual 236, 3) := by decide +kernel
theorem dX6_isEntry_6 : decode cX6_isEntry 6 = .ok (.i2l, 1) := by decide +kernel
theorem dX6_isEntry_7 : decode cX6_isEntry 7 = .ok (.lconst 1, 1) := by decide +kernel
theorem dX6_isEntry_8 : decode cX6_isEntry 8 = .ok (.lsub, 1) := by decide +kernel
theorem dX6_isEntry_9 : decode cX6_isEntry 9 = .ok (.invokestatic 79, 3) := by decide +kernel
theorem dX6_isEntry_12 : decode cX6_isEntry 12 = .ok (.ireturn, 1) := by decide +kernel
theorem dX6_isYear_0 : decode cX6_isYear 0 = .ok (.aload_n 0, 1) := by decide +kernel
theorem dX6_isYear_1 : decode cX6_isYear 1 = .ok (.invokevirtual 240, 3) := by decide +kernel
theorem dX6_isYear_4 : decode cX6_isYear 4 = .ok (.ifCond .eq 20, 3) := by decide +kernel
theorem dX6_isYear_7 : decode cX6_isYear 7 = .ok (.lload_n 1, 1) := by decide +kernel
theorem dX6_isYear_8 : decode cX6_isYear 8 = .ok (.lconst 0, 1) := by decide +kernel
theorem dX6_isYear_9 : decode cX6_isYear 9 = .ok (.aload_n 0, 1) := by decide +kernel
theorem dX6_isYear_10 : decode cX6_isYear 10 = .ok (.invokevirtual 243, 3) := by decide +kernel
theorem dX6_isYear_13 : decode cX6_isYear 13 = .ok (.i2l, 1) := by decide +kernel
theorem dX6_isYear_14 : decode cX6_isYear 14 = .ok (.invokestatic 79, 3) := by decide +kernel
theorem dX6_isYear_17 : decode cX6_isYear 17 = .ok (.ifCond .eq 7, 3) := by decide +kernel
theorem dX6_isYear_20 : decode cX6_isYear 20 = .ok (.iconst 1, 1) := by decide +kernel
theorem dX6_isYear_21 : decode cX6_isYear 21 = .ok (.goto 4, 3) := by decide +kernel
theorem dX6_isYear_24 : decode cX6_isYear 24 = .ok (.iconst 0, 1) := by decide +kernel
theorem dX6_isYear_25 : decode cX6_isYear 25 = .ok (.ireturn, 1) := by decide +kernel
theorem dX6_isThen_0 : decode cX6_isThen 0 = .ok (.aload_n 0, 1) := by decide +kernel
theorem dX6_isThen_1 : decode cX6_isThen 1 = .ok (.iload_n 1, 1) := by decide +kernel
theorem dX6_isThen_2 : decode cX6_isThen 2 = .ok (.i2l, 1) := by decide +kernel
theorem dX6_isThen_3 : decode cX6_isThen 3 = .ok (.invokevirtual 246, 3) := by decide +kernel
theorem dX6_isThen_6 : decode cX6_isThen 6 = .ok (.ifCond .eq 16, 3) := by decide +kernel
theorem dX6_isThen_9 : decode cX6_isThen 9 = .ok (.aload_n 0, 1) := by decide +kernel
theorem dX6_isThen_10 : decode cX6_isThen 10 = .ok (.iload_n 2, 1) := by decide +kernel
theorem dX6_isThen_11 : decode cX6_isThen 11 = .ok (.i2l, 1) := by decide +kernel
theorem dX6_isThen_12 : decode cX6_isThen 12 = .ok (.invokevirtual 249, 3) := by decide +kernel
theorem dX6_isThen_15 : decode cX6_isThen 15 = .ok (.ifCond .eq 7, 3) := by decide +kernel
theorem dX6_isThen_18 : decode cX6_isThen 18 = .ok (.iconst 1, 1) := by decide +kernel
theorem dX6_isThen_19 : decode cX6_isThen 19 = .ok (.goto 4, 3) := by decide +kernel
theorem dX6_isThen_22 : decode cX6_isThen 22 = .ok (.iconst 0, 1) := by decide +kernel
theorem dX6_isThen_23 : decode cX6_isThen 23 = .ok (.ireturn, 1) := by decide +kernel
theorem dX6_isHalf_0 : decode cX6_isHalf 0 = .ok (.iload_n 0, 1) := by decide +kernel
theorem dX6_isHalf_1 : decode cX6_isHalf 1 = .ok (.i2l, 1) := by decide +kernel
theorem dX6_isHalf_2 : decode cX6_isHalf 2 = .ok (.lconst 0, 1) := by decide +kernel
theorem dX6_isHalf_3 : decode cX6_isHalf 3 = .ok (.lconst 1, 1) := by decide +kernel
theorem dX6_isHalf_4 : decode cX6_isHalf 4 = .ok (.invokestatic 79, 3) := by decide +kernel
theorem dX6_isHalf_7 : decode cX6_isHalf 7 = .ok (.ireturn, 1) := by decide +kernel
theorem dX6_isBit_0 : decode cX6_isBit 0 = .ok (.iload_n 0, 1) := by decide +kernel
theorem dX6_isBit_1 : decode cX6_isBit 1 = .ok (.iload_n 1, 1) := by decide +kernel
theorem dX6_isBit_2 : decode cX6_isBit 2 = .ok (.ishr, 1) := by decide +kernel
theorem dX6_isBit_3 : decode cX6_isBit 3 = .ok (.iconst 1, 1) := by decide +kernel
theorem dX6_isBit_4 : decode cX6_isBit 4 = .ok (.iand, 1) := by decide +kernel
theorem dX6_isBit_5 : decode cX6_isBit 5 = .ok (.iconst 1, 1) := by decide +kernel
theorem dX6_isBit_6 : decode cX6_isBit 6 = .ok (.if_icmp .ne 7, 3) := by decide +kernel
theorem dX6_isBit_9 : decode cX6_isBit 9 = .ok (.iconst 1, 1) := by decide +kernel
theorem dX6_isBit_10 : decode cX6_isBit 10 = .ok (.goto 4, 3) := by decide +kernel
theorem dX6_isBit_13 : decode cX6_isBit 13 = .ok (.iconst 0, 1) := by decide +kernel
theorem dX6_isBit_14 : decode cX6_isBit 14 = .ok (.ireturn, 1) := by decide +kernel
theorem dX6_sizeOf_0 : decode cX6_sizeOf 0 = .ok (.iconst 0, 1) := by decide +kernel
theorem dX6_sizeOf_1 : decode cX6_sizeOf 1 = .ok (.istore_n 1, 1) := by decide +kernel
theorem dX6_sizeOf_2 : decode cX6_sizeOf 2 = .ok (.iload_n 0, 1) := by decide +kernel
theorem dX6_sizeOf_3 : decode cX6_sizeOf 3 = .ok (.istore_n 2, 1) := by decide +kernel
theorem dX6_sizeOf_4 : decode cX6_sizeOf 4 = .ok (.iload_n 2, 1) := by decide +kernel
theorem dX6_sizeOf_5 : decode cX6_sizeOf 5 = .ok (.ifCond .eq 15, 3) := by decide +kernel
theorem dX6_sizeOf_8 : decode cX6_sizeOf 8 = .ok (.iinc 1 1, 3) := by decide +kernel
theorem dX6_sizeOf_11 : decode cX6_sizeOf 11 = .ok (.iload_n 2, 1) := by decide +kernel
theorem dX6_sizeOf_12 : decode cX6_sizeOf 12 = .ok (.iload_n 2, 1) := by decide +kernel
theorem dX6_sizeOf_13 : decode cX6_sizeOf 13 = .ok (.iconst 1, 1) := by decide +kernel
theorem dX6_sizeOf_14 : decode cX6_sizeOf 14 = .ok (.isub, 1) := by decide +kernel
theorem dX6_sizeOf_15 : decode cX6_sizeOf 15 = .ok (.iand, 1) := by decide +kernel
theorem dX6_sizeOf_16 : decode cX6_sizeOf 16 = .ok (.istore_n 2, 1) := by decide +kernel
theorem dX6_sizeOf_17 : decode cX6_sizeOf 17 = .ok (.goto (-13), 3) := by decide +kernel
theorem dX6_sizeOf_20 : decode cX6_sizeOf 20 = .ok (.iload_n 1, 1) := by decide +kernel
theorem dX6_sizeOf_21 : decode cX6_sizeOf 21 = .ok (.ireturn, 1) := by decide +kernel
theorem dX6_lessOf_0 : decode cX6_lessOf 0 = .ok (.iload_n 0, 1) := by decide +kernel
theorem dX6_lessOf_1 : decode cX6_lessOf 1 = .ok (.iload_n 1, 1) := by decide +kernel
theorem dX6_lessOf_2 : decode cX6_lessOf 2 = .ok (.if_icmp .ge 7, 3) := by decide +kernel
theorem dX6_lessOf_5 : decode cX6_lessOf 5 = .ok (.iload_n 0, 1) := by decide +kernel
theorem dX6_lessOf_6 : decode cX6_lessOf 6 = .ok (.goto 4, 3) := by decide +kernel
theorem dX6_lessOf_9 : decode cX6_lessOf 9 = .ok (.iload_n 1, 1) := by decide +kernel
theorem dX6_lessOf_10 : decode cX6_lessOf 10 = .ok (.ireturn, 1) := by decide +kernel
theorem dX6_moreOf_0 : decode cX6_moreOf 0 = .ok (.iload_n 0, 1) := by decide +kernel
theorem dX6_moreOf_1 : decode cX6_moreOf 1 = .ok (.iload_n 1, 1) := by decide +kernel
theorem dX6_moreOf_2 : decode cX6_moreOf 2 = .ok (.if_icmp .le 7, 3) := by decide +kernel
theorem dX6_moreOf_5 : decode cX6_moreOf 5 = .ok (.iload_n 0, 1) := by decide +kernel
theorem dX6_moreOf_6 : decode cX6_moreOf 6 = .ok (.goto 4, 3) := by decide +kernel
theorem dX6_moreOf_9 : decode cX6_moreOf 9 = .ok (.iload_n 1, 1) := by decide +kernel
theorem dX6_moreOf_10 : decode cX6_moreOf 10 = .ok (.ireturn, 1) := by decide +kernel
theorem dX6_lays_0 : decode cX6_lays 0 = .ok (.aload_n 0, 1) := by decide +kernel
theorem dX6_lays_1 : decode cX6_lays 1 = .ok (.aload_n 0, 1) := by decide +kernel
theorem dX6_lays_2 : decode cX6_lays 2 = .ok (.getfield 34, 3) := by decide +kernel
theorem dX6_lays_5 : decode cX6_lays 5 = .ok (.iconst 1, 1) := by decide +kernel
theorem dX6_lays_6 : decode cX6_lays 6 = .ok (.iaload, 1) := by decide +kernel
theorem dX6_lays_7 : decode cX6_lays 7 = .ok (.putfield 252, 3) := by decide +kernel
theorem dX6_lays_10 : decode cX6_lays 10 = .ok (.aload_n 0, 1) := by decide +kernel
theorem dX6_lays_11 : decode cX6_lays 11 = .ok (.iconst 0, 1) := by decide +kernel
theorem dX6_lays_12 : decode cX6_lays 12 = .ok (.putfield 255, 3) := by decide +kernel
theorem dX6_lays_15 : decode cX6_lays 15 = .ok (.aload_n 0, 1) := by decide +kernel
theorem dX6_lays_16 : decode cX6_lays 16 = .ok (.iconst 0, 1) := by decide +kernel
theorem dX6_lays_17 : decode cX6_lays 17 = .ok (.putfield 258, 3) := by decide +kernel
theorem dX6_lays_20 : decode cX6_lays 20 = .ok (.aload_n 0, 1) := by decide +kernel
theorem dX6_lays_21 : decode cX6_lays 21 = .ok (.iconst (-1), 1) := by decide +kernel
theorem dX6_lays_22 : decode cX6_lays 22 = .ok (.putfield 261, 3) := by decide +kernel
theorem dX6_lays_25 : decode cX6_lays 25 = .ok (.aload_n 0, 1) := by decide +kernel
theorem dX6_lays_26 : decode cX6_lays 26 = .ok (.iconst 0, 1) := by decide +kernel
theorem dX6_lays_27 : decode cX6_lays 27 = .ok (.putfield 264, 3) := by decide +kernel
theorem dX6_lays_30 : decode cX6_lays 30 = .ok (.aload_n 0, 1) := by decide +kernel
theorem dX6_lays_31 : decode cX6_lays 31 = .ok (.iconst (-1), 1) := by decide +kernel
theorem dX6_lays_32 : decode cX6_lays 32 = .ok (.putfield 267, 3) := by decide +kernel
theorem dX6_lays_35 : decode cX6_lays 35 = .ok (.iconst 0, 1) := by decide +kernel
theorem dX6_lays_36 : decode cX6_lays 36 = .ok (.istore_n 1, 1) := by decide +kernel
theorem dX6_lays_37 : decode cX6_lays 37 = .ok (.iload_n 1, 1) := by decide +kernel
theorem dX6_lays_38 : decode cX6_lays 38 = .ok (.aload_n 0, 1) := by decide +kernel
theorem dX6_lays_39 : decode cX6_lays 39 = .ok (.invokevirtual 236, 3) := by decide +kernel
theorem dX6_lays_42 : decode cX6_lays 42 = .ok (.if_icmp .ge 41, 3) := by decide +kernel
theorem dX6_lays_45 : decode cX6_lays 45 = .ok (.aload_n 0, 1) := by decide +kernel
theorem dX6_lays_46 : decode cX6_lays 46 = .ok (.getfield 53, 3) := by decide +kernel
theorem dX6_lays_49 : decode cX6_lays 49 = .ok (.iload_n 1, 1) := by decide +kernel
theorem dX6_lays_50 : decode cX6_lays 50 = .ok (.aload_n 0, 1) := by decide +kernel
theorem dX6_lays_51 : decode cX6_lays 51 = .ok (.getfield 43, 3) := by decide +kernel
theorem dX6_lays_54 : decode cX6_lays 54 = .ok (.iconst 4, 1) := by decide +kernel
theorem dX6_lays_55 : decode cX6_lays 55 = .ok (.iload_n 1, 1) := by decide +kernel
theorem dX6_lays_56 : decode cX6_lays 56 = .ok (.imul, 1) := by decide +kernel
theorem dX6_lays_57 : decode cX6_lays 57 = .ok (.iconst 2, 1) := by decide +kernel
theorem dX6_lays_58 : decode cX6_lays 58 = .ok (.iadd, 1) := by decide +kernel
theorem dX6_lays_59 : decode cX6_lays 59 = .ok (.iaload, 1) := by decide +kernel
theorem dX6_lays_60 : decode cX6_lays 60 = .ok (.iastore, 1) := by decide +kernel
theorem dX6_lays_61 : decode cX6_lays 61 = .ok (.aload_n 0, 1) := by decide +kernel
theorem dX6_lays_62 : decode cX6_lays 62 = .ok (.getfield 56, 3) := by decide +kernel
theorem dX6_lays_65 : decode cX6_lays 65 = .ok (.iload_n 1, 1) := by decide +kernel
theorem dX6_lays_66 : decode cX6_lays 66 = .ok (.aload_n 0, 1) := by decide +kernel
theorem dX6_lays_67 : decode cX6_lays 67 = .ok (.getfield 43, 3) := by decide +kernel
theorem dX6_lays_70 : decode cX6_lays 70 = .ok (.iconst 4, 1) := by decide +kernel
theorem dX6_lays_71 : decode cX6_lays 71 = .ok (.iload_n 1, 1) := by decide +kernel
theorem dX6_lays_72 : decode cX6_lays 72 = .ok (.imul, 1) := by decide +kernel
theorem dX6_lays_73 : decode cX6_lays 73 = .ok (.iconst 1, 1) := by decide +kernel
theorem dX6_lays_74 : decode cX6_lays 74 = .ok (.iadd, 1) := by decide +kernel
theorem dX6_lays_75 : decode cX6_lays 75 = .ok (.iaload, 1) := by decide +kernel
theorem dX6_lays_76 : decode cX6_lays 76 = .ok (.iastore, 1) := by decide +kernel
theorem dX6_lays_77 : decode cX6_lays 77 = .ok (.iinc 1 1, 3) := by decide +kernel
theorem dX6_lays_80 : decode cX6_lays 80 = .ok (.goto (-43), 3) := by decide +kernel
theorem dX6_lays_83 : decode cX6_lays 83 = .ok (.iconst 0, 1) := by decide +kernel
theorem dX6_lays_84 : decode cX6_lays 84 = .ok (.istore_n 1, 1) := by decide +kernel
theorem dX6_lays_85 : decode cX6_lays 85 = .ok (.iload_n 1, 1) := by decide +kernel
theorem dX6_lays_86 : decode cX6_lays 86 = .ok (.aload_n 0, 1) := by decide +kernel
theorem dX6_lays_87 : decode cX6_lays 87 = .ok (.getfield 34, 3) := by decide +kernel
theorem dX6_lays_90 : decode cX6_lays 90 = .ok (.iconst 4, 1) := by decide +kernel
theorem dX6_lays_91 : decode cX6_lays 91 = .ok (.iaload, 1) := by decide +kernel
theorem dX6_lays_92 : decode cX6_lays 92 = .ok (.if_icmp .ge 21, 3) := by decide +kernel
theorem dX6_lays_95 : decode cX6_lays 95 = .ok (.aload_n 0, 1) := by decide +kernel
theorem dX6_lays_96 : decode cX6_lays 96 = .ok (.getfield 59, 3) := by decide +kernel
theorem dX6_lays_99 : decode cX6_lays 99 = .ok (.iload_n 1, 1) := by decide +kernel
theorem dX6_lays_100 : decode cX6_lays 100 = .ok (.aload_n 0, 1) := by decide +kernel
theorem dX6_lays_101 : decode cX6_lays 101 = .ok (.getfield 40, 3) := by decide +kernel
theorem dX6_lays_104 : decode cX6_lays 104 = .ok (.iload_n 1, 1) := by decide +kernel
theorem dX6_lays_105 : decode cX6_lays 105 = .ok (.iaload, 1) := by decide +kernel
theorem dX6_lays_106 : decode cX6_lays 106 = .ok (.iastore, 1) := by decide +kernel
theorem dX6_lays_107 : decode cX6_lays 107 = .ok (.iinc 1 1, 3) := by decide +kernel
theorem dX6_lays_110 : decode cX6_lays 110 = .ok (.goto (-25), 3) := by decide +kernel
theorem dX6_lays_113 : decode cX6_lays 113 = .ok (.return_, 1) := by decide +kernel
theorem dX6_placeOf_0 : decode cX6_placeOf 0 = .ok (.iconst 0, 1) := by decide +kernel
theorem dX6_placeOf_1 : decode cX6_placeOf 1 = .ok (.istore_n 2, 1) := by decide +kernel
theorem dX6_placeOf_2 : decode cX6_placeOf 2 = .ok (.iconst 0, 1) := by decide +kernel
theorem dX6_placeOf_3 : decode cX6_placeOf 3 = .ok (.istore_n 3, 1) := by decide +kernel
theorem dX6_placeOf_4 : decode cX6_placeOf 4 = .ok (.iload_n 3, 1) := by decide +kernel
theorem dX6_placeOf_5 : decode cX6_placeOf 5 = .ok (.iload_n 1, 1) := by decide +kernel
theorem dX6_placeOf_6 : decode cX6_placeOf 6 = .ok (.if_icmp .ge 36, 3) := by decide +kernel
theorem dX6_placeOf_9 : decode cX6_placeOf 9 = .ok (.iload_n 2, 1) := by decide +kernel
theorem dX6_placeOf_10 : decode cX6_placeOf 10 = .ok (.aload_n 0, 1) := by decide +kernel
theorem dX6_placeOf_11 : decode cX6_placeOf 11 = .ok (.getfield 43, 3) := by decide +kernel
theorem dX6_placeOf_14 : decode cX6_placeOf 14 = .ok (.iconst 4, 1) := by decide +kernel
theorem dX6_placeOf_15 : decode cX6_placeOf 15 = .ok (.iload_n 3, 1) := by decide +kernel
theorem dX6_placeOf_16 : decode cX6_placeOf 16 = .ok (.imul, 1) := by decide +kernel
theorem dX6_placeOf_17 : decode cX6_placeOf 17 = .ok (.iaload, 1) := by decide +kernel
theorem dX6_placeOf_18 : decode cX6_placeOf 18 = .ok (.aload_n 0, 1) := by decide +kernel
theorem dX6_placeOf_19 : decode cX6_placeOf 19 = .ok (.getfield 43, 3) := by decide +kernel
theorem dX6_placeOf_22 : decode cX6_placeOf 22 = .ok (.iconst 4, 1) := by decide +kernel
theorem dX6_placeOf_23 : decode cX6_placeOf 23 = .ok (.iload_n 1, 1) := by decide +kernel
theorem dX6_placeOf_24 : decode cX6_placeOf 24 = .ok (.imul, 1) := by decide +kernel
theorem dX6_placeOf_25 : decode cX6_placeOf 25 = .ok (.iaload, 1) := by decide +kernel
theorem dX6_placeOf_26 : decode cX6_placeOf 26 = .ok (.if_icmp .ne 7, 3) := by decide +kernel
theorem dX6_placeOf_29 : decode cX6_placeOf 29 = .ok (.iconst 1, 1) := by decide +kernel
theorem dX6_placeOf_30 : decode cX6_placeOf 30 = .ok (.goto 4, 3) := by decide +kernel
theorem dX6_placeOf_33 : decode cX6_placeOf 33 = .ok (.iconst 0, 1) := by decide +kernel
theorem dX6_placeOf_34 : decode cX6_placeOf 34 = .ok (.iadd, 1) := by decide +kernel
theorem dX6_placeOf_35 : decode cX6_placeOf 35 = .ok (.istore_n 2, 1) := by decide +kernel
theorem dX6_placeOf_36 : decode cX6_placeOf 36 = .ok (.iinc 3 1, 3) := by decide +kernel
theorem dX6_placeOf_39 : decode cX6_placeOf 39 = .ok (.goto (-35), 3) := by decide +kernel
theorem dX6_placeOf_42 : decode cX6_placeOf 42 = .ok (.iload_n 2, 1) := by decide +kernel
theorem dX6_placeOf_43 : decode cX6_placeOf 43 = .ok (.ireturn, 1) := by decide +kernel
theorem dX6_facing_0 : decode cX6_facing 0 = .ok (.aload_n 0, 1) := by decide +kernel
theorem dX6_facing_1 : decode cX6_facing 1 = .ok (.getfield 43, 3) := by decide +kernel
theorem dX6_facing_4 : decode cX6_facing 4 = .ok (.iconst 4, 1) := by decide +kernel
theorem dX6_facing_5 : decode cX6_facing 5 = .ok (.iload_n 1, 1) := by decide +kernel
theorem dX6_facing_6 : decode cX6_facing 6 = .ok (.imul, 1) := by decide +kernel
theorem dX6_facing_7 : decode cX6_facing 7 = .ok (.iaload, 1) := by decide +kernel
theorem dX6_facing_8 : decode cX6_facing 8 = .ok (.iconst 2, 1) := by decide +kernel
theorem dX6_facing_9 : decode cX6_facing 9 = .ok (.irem, 1) := by decide +kernel
theorem dX6_facing_10 : decode cX6_facing 10 = .ok (.ifCond .ne 16, 3) := by decide +kernel
theorem dX6_facing_13 : decode cX6_facing 13 = .ok (.aload_n 0, 1) := by decide +kernel
theorem dX6_facing_14 : decode cX6_facing 14 = .ok (.getfield 43, 3) := by decide +kernel
theorem dX6_facing_17 : decode cX6_facing 17 = .ok (.iconst 4, 1) := by decide +kernel
theorem dX6_facing_18 : decode cX6_facing 18 = .ok (.iload_n 1, 1) := by decide +kernel
theorem dX6_facing_19 : decode cX6_facing 19 = .ok (.imul, 1) := by decide +kernel
theorem dX6_facing_20 : decode cX6_facing 20 = .ok (.iaload, 1) := by decide +kernel
theorem dX6_facing_21 : decode cX6_facing 21 = .ok (.iconst 1, 1) := by decide +kernel
theorem dX6_facing_22 : decode cX6_facing 22 = .ok (.iadd, 1) := by decide +kernel
theorem dX6_facing_23 : decode cX6_facing 23 = .ok (.goto 13, 3) := by decide +kernel
theorem dX6_facing_26 : decode cX6_facing 26 = .ok (.aload_n 0, 1) := by decide +kernel
theorem dX6_facing_27 : decode cX6_facing 27 = .ok (.getfield 43, 3) := by decide +kernel
theorem dX6_facing_30 : decode cX6_facing 30 = .ok (.iconst 4, 1) := by decide +kernel
theorem dX6_facing_31 : decode cX6_facing 31 = .ok (.iload_n 1, 1) := by decide +kernel
theorem dX6_facing_32 : decode cX6_facing 32 = .ok (.imul, 1) := by decide +kernel
theorem dX6_facing_33 : decode cX6_facing 33 = .ok (.iaload, 1) := by decide +kernel
theorem dX6_facing_34 : decode cX6_facing 34 = .ok (.iconst 1, 1) := by decide +kernel
theorem dX6_facing_35 : decode cX6_facing 35 = .ok (.isub, 1) := by decide +kernel
theorem dX6_facing_36 : decode cX6_facing 36 = .ok (.istore_n 2, 1) := by decide +kernel
theorem dX6_facing_37 : decode cX6_facing 37 = .ok (.iconst 0, 1) := by decide +kernel
theorem dX6_facing_38 : decode cX6_facing 38 = .ok (.istore_n 3, 1) := by decide +kernel
theorem dX6_facing_39 : decode cX6_facing 39 = .ok (.iload_n 3, 1) := by decide +kernel
theorem dX6_facing_40 : decode cX6_facing 40 = .ok (.aload_n 0, 1) := by decide +kernel
theorem dX6_facing_41 : decode cX6_facing 41 = .ok (.invokevirtual 236, 3) := by decide +kernel
theorem dX6_facing_44 : decode cX6_facing 44 = .ok (.if_icmp .ge 36, 3) := by decide +kernel
theorem dX6_facing_47 : decode cX6_facing 47 = .ok (.aload_n 0, 1) := by decide +kernel
theorem dX6_facing_48 : decode cX6_facing 48 = .ok (.getfield 43, 3) := by decide +kernel
theorem dX6_facing_51 : decode cX6_facing 51 = .ok (.iconst 4, 1) := by decide +kernel
theorem dX6_facing_52 : decode cX6_facing 52 = .ok (.iload_n 3, 1) := by decide +kernel
theorem dX6_facing_53 : decode cX6_facing 53 = .ok (.imul, 1) := by decide +kernel
theorem dX6_facing_54 : decode cX6_facing 54 = .ok (.iaload, 1) := by decide +kernel
theorem dX6_facing_55 : decode cX6_facing 55 = .ok (.iload_n 2, 1) := by decide +kernel
theorem dX6_facing_56 : decode cX6_facing 56 = .ok (.if_icmp .ne 18, 3) := by decide +kernel
theorem dX6_facing_59 : decode cX6_facing 59 = .ok (.aload_n 0, 1) := by decide +kernel
theorem dX6_facing_60 : decode cX6_facing 60 = .ok (.iload_n 3, 1) := by decide +kernel
theorem dX6_facing_61 : decode cX6_facing 61 = .ok (.invokevirtual 270, 3) := by decide +kernel
theorem dX6_facing_64 : decode cX6_facing 64 = .ok (.aload_n 0, 1) := by decide +kernel
theorem dX6_facing_65 : decode cX6_facing 65 = .ok (.iload_n 1, 1) := by decide +kernel
theorem dX6_facing_66 : decode cX6_facing 66 = .ok (.invokevirtual 270, 3) := by decide +kernel
theorem dX6_facing_69 : decode cX6_facing 69 = .ok (.if_icmp .ne 5, 3) := by decide +kernel
theorem dX6_facing_72 : decode cX6_facing 72 = .ok (.iload_n 3, 1) := by decide +kernel
theorem dX6_facing_73 : decode cX6_facing 73 = .ok (.ireturn, 1) := by decide +kernel
theorem dX6_facing_74 : decode cX6_facing 74 = .ok (.iinc 3 1, 3) := by decide +kernel
theorem dX6_facing_77 : decode cX6_facing 77 = .ok (.goto (-38), 3) := by decide +kernel
theorem dX6_facing_80 : decode cX6_facing 80 = .ok (.iconst (-1), 1) := by decide +kernel
theorem dX6_facing_81 : decode cX6_facing 81 = .ok (.ireturn, 1) := by decide +kernel
theorem dX6_isThere_0 : decode cX6_isThere 0 = .ok (.aload_n 0, 1) := by decide +kernel
theorem dX6_isThere_1 : decode cX6_isThere 1 = .ok (.getfield 258, 3) := by decide +kernel
theorem dX6_isThere_4 : decode cX6_isThere 4 = .ok (.iload_n 1, 1) := by decide +kernel
theorem dX6_isThere_5 : decode cX6_isThere 5 = .ok (.invokestatic 273, 3) := by decide +kernel
theorem dX6_isThere_8 : decode cX6_isThere 8 = .ok (.ifCond .ne 17, 3) := by decide +kernel
theorem dX6_isThere_11 : decode cX6_isThere 11 = .ok (.aload_n 0, 1) := by decide +kernel
theorem dX6_isThere_12 : decode cX6_isThere 12 = .ok (.getfield 53, 3) := by decide +kernel
theorem dX6_isThere_15 : decode cX6_isThere 15 = .ok (.iload_n 1, 1) := by decide +kernel
theorem dX6_isThere_16 : decode cX6_isThere 16 = .ok (.iaload, 1) := by decide +kernel
theorem dX6_isThere_17 : decode cX6_isThere 17 = .ok (.iload_n 2, 1) := by decide +kernel
theorem dX6_isThere_18 : decode cX6_isThere 18 = .ok (.if_icmp .gt 7, 3) := by decide +kernel
theorem dX6_isThere_21 : decode cX6_isThere 21 = .ok (.iconst 1, 1) := by decide +kernel
theorem dX6_isThere_22 : decode cX6_isThere 22 = .ok (.goto 4, 3) := by decide +kernel
theorem dX6_isThere_25 : decode cX6_isThere 25 = .ok (.iconst 0, 1) := by decide +kernel
theorem dX6_isThere_26 : decode cX6_isThere 26 = .ok (.ireturn, 1) := by decide +kernel
theorem dX6_shadeOf_0 : decode cX6_shadeOf 0 = .ok (.aload_n 0, 1) := by decide +kernel
theorem dX6_shadeOf_1 : decode cX6_shadeOf 1 = .ok (.getfield 62, 3) := by decide +kernel
theorem dX6_shadeOf_4 : decode cX6_shadeOf 4 = .ok (.bipush 7, 2) := by decide +kernel
theorem dX6_shadeOf_6 : decode cX6_shadeOf 6 = .ok (.iload_n 2, 1) := by decide +kernel
theorem dX6_shadeOf_7 : decode cX6_shadeOf 7 = .ok (.imul, 1) := by decide +kernel
theorem dX6_shadeOf_8 : decode cX6_shadeOf 8 = .ok (.iload_n 1, 1) := by decide +kernel
theorem dX6_shadeOf_9 : decode cX6_shadeOf 9 = .ok (.iadd, 1) := by decide +kernel
theorem dX6_shadeOf_10 : decode cX6_shadeOf 10 = .ok (.iaload, 1) := by decide +kernel
theorem dX6_shadeOf_11 : decode cX6_shadeOf 11 = .ok (.ireturn, 1) := by decide +kernel
theorem dX6_begin0_0 : decode cX6_begin0 0 = .ok (.aload_n 0, 1) := by decide +kernel
theorem dX6_begin0_1 : decode cX6_begin0 1 = .ok (.getfield 68, 3) := by decide +kernel
theorem dX6_begin0_4 : decode cX6_begin0 4 = .ok (.iload_n 1, 1) := by decide +kernel
theorem dX6_begin0_5 : decode cX6_begin0 5 = .ok (.iload_n 3, 1) := by decide +kernel
theorem dX6_begin0_6 : decode cX6_begin0 6 = .ok (.iastore, 1) := by decide +kernel
theorem dX6_begin0_7 : decode cX6_begin0 7 = .ok (.aload_n 0, 1) := by decide +kernel
theorem dX6_begin0_8 : decode cX6_begin0 8 = .ok (.getfield 62, 3) := by decide +kernel
theorem dX6_begin0_11 : decode cX6_begin0 11 = .ok (.bipush 7, 2) := by decide +kernel
theorem dX6_begin0_13 : decode cX6_begin0 13 = .ok (.iload_n 2, 1) := by decide +kernel
theorem dX6_begin0_14 : decode cX6_begin0 14 = .ok (.imul, 1) := by decide +kernel
theorem dX6_begin0_15 : decode cX6_begin0 15 = .ok (.iload_n 1, 1) := by decide +kernel
theorem dX6_begin0_16 : decode cX6_begin0 16 = .ok (.iadd, 1) := by decide +kernel
theorem dX6_begin0_17 : decode cX6_begin0 17 = .ok (.aload_n 0, 1) := by decide +kernel
theorem dX6_begin0_18 : decode cX6_begin0 18 = .ok (.getfield 37, 3) := by decide +kernel
theorem dX6_begin0_21 : decode cX6_begin0 21 = .ok (.iconst 3, 1) := by decide +kernel
theorem dX6_begin0_22 : decode cX6_begin0 22 = .ok (.iload_n 3, 1) := by decide +kernel
theorem dX6_begin0_23 : decode cX6_begin0 23 = .ok (.imul, 1) := by decide +kernel
theorem dX6_begin0_24 : decode cX6_begin0 24 = .ok (.iaload, 1) := by decide +kernel
theorem dX6_begin0_25 : decode cX6_begin0 25 = .ok (.aload_n 0, 1) := by decide +kernel
theorem dX6_begin0_26 : decode cX6_begin0 26 = .ok (.getfield 37, 3) := by decide +kernel
theorem dX6_begin0_29 : decode cX6_begin0 29 = .ok (.iconst 3, 1) := by decide +kernel
theorem dX6_begin0_30 : decode cX6_begin0 30 = .ok (.iload_n 3, 1) := by decide +kernel
theorem dX6_begin0_31 : decode cX6_begin0 31 = .ok (.imul, 1) := by decide +kernel
theorem dX6_begin0_32 : decode cX6_begin0 32 = .ok (.iconst 1, 1) := by decide +kernel
theorem dX6_begin0_33 : decode cX6_begin0 33 = .ok (.iadd, 1) := by decide +kernel
theorem dX6_begin0_34 : decode cX6_begin0 34 = .ok (.iaload, 1) := by decide +kernel
theorem dX6_begin0_35 : decode cX6_begin0 35 = .ok (.invokestatic 277, 3) := by decide +kernel
theorem dX6_begin0_38 : decode cX6_begin0 38 = .ok (.iastore, 1) := by decide +kernel
theorem dX6_begin0_39 : decode cX6_begin0 39 = .ok (.aload_n 0, 1) := by decide +kernel
theorem dX6_begin0_40 : decode cX6_begin0 40 = .ok (.getfield 65, 3) := by decide +kernel
theorem dX6_begin0_43 : decode cX6_begin0 43 = .ok (.bipush 7, 2) := by decide +kernel
theorem dX6_begin0_45 : decode cX6_begin0 45 = .ok (.iload_n 2, 1) := by decide +kernel
theorem dX6_begin0_46 : decode cX6_begin0 46 = .ok (.imul, 1) := by decide +kernel
theorem dX6_begin0_47 : decode cX6_begin0 47 = .ok (.iload_n 1, 1) := by decide +kernel
theorem dX6_begin0_48 : decode cX6_begin0 48 = .ok (.iadd, 1) := by decide +kernel
theorem dX6_begin0_49 : decode cX6_begin0 49 = .ok (.aload_n 0, 1) := by decide +kernel
theorem dX6_begin0_50 : decode cX6_begin0 50 = .ok (.getfield 37, 3) := by decide +kernel
theorem dX6_begin0_53 : decode cX6_begin0 53 = .ok (.iconst 3, 1) := by decide +kernel
theorem dX6_begin0_54 : decode cX6_begin0 54 = .ok (.iload_n 3, 1) := by decide +kernel
theorem dX6_begin0_55 : decode cX6_begin0 55 = .ok (.imul, 1) := by decide +kernel
theorem dX6_begin0_56 : decode cX6_begin0 56 = .ok (.iaload, 1) := by decide +kernel
theorem dX6_begin0_57 : decode cX6_begin0 57 = .ok (.aload_n 0, 1) := by decide +kernel
theorem dX6_begin0_58 : decode cX6_begin0 58 = .ok (.getfield 37, 3) := by decide +kernel
theorem dX6_begin0_61 : decode cX6_begin0 61 = .ok (.iconst 3, 1) := by decide +kernel
theorem dX6_begin0_62 : decode cX6_begin0 62 = .ok (.iload_n 3, 1) := by decide +kernel
theorem dX6_begin0_63 : decode cX6_begin0 63 = .ok (.imul, 1) := by decide +kernel
theorem dX6_begin0_64 : decode cX6_begin0 64 = .ok (.iconst 1, 1) := by decide +kernel
theorem dX6_begin0_65 : decode cX6_begin0 65 = .ok (.iadd, 1) := by decide +kernel
theorem dX6_begin0_66 : decode cX6_begin0 66 = .ok (.iaload, 1) := by decide +kernel
theorem dX6_begin0_67 : decode cX6_begin0 67 = .ok (.if_icmp .ge 7, 3) := by decide +kernel
theorem dX6_begin0_70 : decode cX6_begin0 70 = .ok (.iconst 1, 1) := by decide +kernel
theorem dX6_begin0_71 : decode cX6_begin0 71 = .ok (.goto 4, 3) := by decide +kernel
theorem dX6_begin0_74 : decode cX6_begin0 74 = .ok (.iconst 0, 1) := by decide +kernel
theorem dX6_begin0_75 : decode cX6_begin0 75 = .ok (.bastore, 1) := by decide +kernel
theorem dX6_begin0_76 : decode cX6_begin0 76 = .ok (.return_, 1) := by decide +kernel
theorem dX6_bleach0_0 : decode cX6_bleach0 0 = .ok (.aload_n 0, 1) := by decide +kernel
theorem dX6_bleach0_1 : decode cX6_bleach0 1 = .ok (.getfield 62, 3) := by decide +kernel
theorem dX6_bleach0_4 : decode cX6_bleach0 4 = .ok (.bipush 7, 2) := by decide +kernel
theorem dX6_bleach0_6 : decode cX6_bleach0 6 = .ok (.iload_n 2, 1) := by decide +kernel
theorem dX6_bleach0_7 : decode cX6_bleach0 7 = .ok (.imul, 1) := by decide +kernel
theorem dX6_bleach0_8 : decode cX6_bleach0 8 = .ok (.iload_n 1, 1) := by decide +kernel
theorem dX6_bleach0_9 : decode cX6_bleach0 9 = .ok (.iadd, 1) := by decide +kernel
theorem dX6_bleach0_10 : decode cX6_bleach0 10 = .ok (.iconst 0, 1) := by decide +kernel
theorem dX6_bleach0_11 : decode cX6_bleach0 11 = .ok (.aload_n 0, 1) := by decide +kernel
theorem dX6_bleach0_12 : decode cX6_bleach0 12 = .ok (.getfield 62, 3) := by decide +kernel
theorem dX6_bleach0_15 : decode cX6_bleach0 15 = .ok (.bipush 7, 2) := by decide +kernel
theorem dX6_bleach0_17 : decode cX6_bleach0 17 = .ok (.iload_n 2, 1) := by decide +kernel
theorem dX6_bleach0_18 : decode cX6_bleach0 18 = .ok (.imul, 1) := by decide +kernel
theorem dX6_bleach0_19 : decode cX6_bleach0 19 = .ok (.iload_n 1, 1) := by decide +kernel
theorem dX6_bleach0_20 : decode cX6_bleach0 20 = .ok (.iadd, 1) := by decide +kernel
theorem dX6_bleach0_21 : decode cX6_bleach0 21 = .ok (.iaload, 1) := by decide +kernel
theorem dX6_bleach0_22 : decode cX6_bleach0 22 = .ok (.bipush 10, 2) := by decide +kernel
theorem dX6_bleach0_24 : decode cX6_bleach0 24 = .ok (.isub, 1) := by decide +kernel
theorem dX6_bleach0_25 : decode cX6_bleach0 25 = .ok (.invokestatic 280, 3) := by decide +kernel
theorem dX6_bleach0_28 : decode cX6_bleach0 28 = .ok (.iastore, 1) := by decide +kernel
theorem dX6_bleach0_29 : decode cX6_bleach0 29 = .ok (.aload_n 0, 1) := by decide +kernel
theorem dX6_bleach0_30 : decode cX6_bleach0 30 = .ok (.getfield 65, 3) := by decide +kernel
theorem dX6_bleach0_33 : decode cX6_bleach0 33 = .ok (.bipush 7, 2) := by decide +kernel
theorem dX6_bleach0_35 : decode cX6_bleach0 35 = .ok (.iload_n 2, 1) := by decide +kernel
theorem dX6_bleach0_36 : decode cX6_bleach0 36 = .ok (.imul, 1) := by decide +kernel
theorem dX6_bleach0_37 : decode cX6_bleach0 37 = .ok (.iload_n 1, 1) := by decide +kernel
theorem dX6_bleach0_38 : decode cX6_bleach0 38 = .ok (.iadd, 1) := by decide +kernel
theorem dX6_bleach0_39 : decode cX6_bleach0 39 = .ok (.iconst 0, 1) := by decide +kernel
theorem dX6_bleach0_40 : decode cX6_bleach0 40 = .ok (.bastore, 1) := by decide +kernel
theorem dX6_bleach0_41 : decode cX6_bleach0 41 = .ok (.return_, 1) := by decide +kernel
theorem dX6_fadeBy_0 : decode cX6_fadeBy 0 = .ok (.iload_n 0, 1) := by decide +kernel
theorem dX6_fadeBy_1 : decode cX6_fadeBy 1 = .ok (.iconst 3, 1) := by decide +kernel
theorem dX6_fadeBy_2 : decode cX6_fadeBy 2 = .ok (.if_icmp .ne 13, 3) := by decide +kernel
theorem dX6_fadeBy_5 : decode cX6_fadeBy 5 = .ok (.iload 4, 2) := by decide +kernel
theorem dX6_fadeBy_7 : decode cX6_fadeBy 7 = .ok (.iconst 2, 1) := by decide +kernel
theorem dX6_fadeBy_8 : decode cX6_fadeBy 8 = .ok (.irem, 1) := by decide +kernel
theorem dX6_fadeBy_9 : decode cX6_fadeBy 9 = .ok (.iconst 1, 1) := by decide +kernel
theorem dX6_fadeBy_10 : decode cX6_fadeBy 10 = .ok (.if_icmp .ne 5, 3) := by decide +kernel
theorem dX6_fadeBy_13 : decode cX6_fadeBy 13 = .ok (.iconst 0, 1) := by decide +kernel
theorem dX6_fadeBy_14 : decode cX6_fadeBy 14 = .ok (.ireturn, 1) := by decide +kernel
theorem dX6_fadeBy_15 : decode cX6_fadeBy 15 = .ok (.iload_n 1, 1) := by decide +kernel
theorem dX6_fadeBy_16 : decode cX6_fadeBy 16 = .ok (.iload_n 0, 1) := by decide +kernel
theorem dX6_fadeBy_17 : decode cX6_fadeBy 17 = .ok (.iconst 1, 1) := by decide +kernel
theorem dX6_fadeBy_18 : decode cX6_fadeBy 18 = .ok (.if_icmp .ne 12, 3) := by decide +kernel
theorem dX6_fadeBy_21 : decode cX6_fadeBy 21 = .ok (.iload_n 2, 1) := by decide +kernel
theorem dX6_fadeBy_22 : decode cX6_fadeBy 22 = .ok (.iconst 1, 1) := by decide +kernel
theorem dX6_fadeBy_23 : decode cX6_fadeBy 23 = .ok (.if_icmp .ne 7, 3) := by decide +kernel
theorem dX6_fadeBy_26 : decode cX6_fadeBy 26 = .ok (.iconst 2, 1) := by decide +kernel
theorem dX6_fadeBy_27 : decode cX6_fadeBy 27 = .ok (.goto 4, 3) := by decide +kernel
theorem dX6_fadeBy_30 : decode cX6_fadeBy 30 = .ok (.iconst 1, 1) := by decide +kernel
theorem dX6_fadeBy_31 : decode cX6_fadeBy 31 = .ok (.imul, 1) := by decide +kernel
theorem dX6_fadeBy_32 : decode cX6_fadeBy 32 = .ok (.iconst 2, 1) := by decide +kernel
theorem dX6_fadeBy_33 : decode cX6_fadeBy 33 = .ok (.iload_n 3, 1) := by decide +kernel
theorem dX6_fadeBy_34 : decode cX6_fadeBy 34 = .ok (.imul, 1) := by decide +kernel
theorem dX6_fadeBy_35 : decode cX6_fadeBy 35 = .ok (.iadd, 1) := by decide +kernel
theorem dX6_fadeBy_36 : decode cX6_fadeBy 36 = .ok (.ireturn, 1) := by decide +kernel
theorem dX6_steps_0 : decode cX6_steps 0 = .ok (.aload_n 0, 1) := by decide +kernel
theorem dX6_steps_1 : decode cX6_steps 1 = .ok (.getfield 68, 3) := by decide +kernel
theorem dX6_steps_4 : decode cX6_steps 4 = .ok (.iload_n 1, 1) := by decide +kernel
theorem dX6_steps_5 : decode cX6_steps 5 = .ok (.iaload, 1) := by decide +kernel
theorem dX6_steps_6 : decode cX6_steps 6 = .ok (.istore_n 3, 1) := by decide +kernel
theorem dX6_steps_7 : decode cX6_steps 7 = .ok (.aload_n 0, 1) := by decide +kernel
theorem dX6_steps_8 : decode cX6_steps 8 = .ok (.iload_n 1, 1) := by decide +kernel
theorem dX6_steps_9 : decode cX6_steps 9 = .ok (.iload_n 2, 1) := by decide +kernel
theorem dX6_steps_10 : decode cX6_steps 10 = .ok (.iconst 1, 1) := by decide +kernel
theorem dX6_steps_11 : decode cX6_steps 11 = .ok (.isub, 1) := by decide +kernel
theorem dX6_steps_12 : decode cX6_steps 12 = .ok (.invokevirtual 283, 3) := by decide +kernel
theorem dX6_steps_15 : decode cX6_steps 15 = .ok (.istore 4, 2) := by decide +kernel
theorem dX6_steps_17 : decode cX6_steps 17 = .ok (.aload_n 0, 1) := by decide +kernel
theorem dX6_steps_18 : decode cX6_steps 18 = .ok (.getfield 65, 3) := by decide +kernel
theorem dX6_steps_21 : decode cX6_steps 21 = .ok (.bipush 7, 2) := by decide +kernel
theorem dX6_steps_23 : decode cX6_steps 23 = .ok (.iload_n 2, 1) := by decide +kernel
theorem dX6_steps_24 : decode cX6_steps 24 = .ok (.imul, 1) := by decide +kernel
theorem dX6_steps_25 : decode cX6_steps 25 = .ok (.bipush 7, 2) := by decide +kernel
theorem dX6_steps_27 : decode cX6_steps 27 = .ok (.isub, 1) := by decide +kernel
theorem dX6_steps_28 : decode cX6_steps 28 = .ok (.iload_n 1, 1) := by decide +kernel
theorem dX6_steps_29 : decode cX6_steps 29 = .ok (.iadd, 1) := by decide +kernel
theorem dX6_steps_30 : decode cX6_steps 30 = .ok (.baload, 1) := by decide +kernel
theorem dX6_steps_31 : decode cX6_steps 31 = .ok (.ifCond .eq 81, 3) := by decide +kernel
theorem dX6_steps_34 : decode cX6_steps 34 = .ok (.aload_n 0, 1) := by decide +kernel
theorem dX6_steps_35 : decode cX6_steps 35 = .ok (.getfield 62, 3) := by decide +kernel
theorem dX6_steps_38 : decode cX6_steps 38 = .ok (.bipush 7, 2) := by decide +kernel
theorem dX6_steps_40 : decode cX6_steps 40 = .ok (.iload_n 2, 1) := by decide +kernel
theorem dX6_steps_41 : decode cX6_steps 41 = .ok (.imul, 1) := by decide +kernel
theorem dX6_steps_42 : decode cX6_steps 42 = .ok (.iload_n 1, 1) := by decide +kernel
theorem dX6_steps_43 : decode cX6_steps 43 = .ok (.iadd, 1) := by decide +kernel
theorem dX6_steps_44 : decode cX6_steps 44 = .ok (.aload_n 0, 1) := by decide +kernel
theorem dX6_steps_45 : decode cX6_steps 45 = .ok (.getfield 37, 3) := by decide +kernel
theorem dX6_steps_48 : decode cX6_steps 48 = .ok (.iconst 3, 1) := by decide +kernel
theorem dX6_steps_49 : decode cX6_steps 49 = .ok (.iload_n 3, 1) := by decide +kernel
theorem dX6_steps_50 : decode cX6_steps 50 = .ok (.imul, 1) := by decide +kernel
theorem dX6_steps_51 : decode cX6_steps 51 = .ok (.iconst 1, 1) := by decide +kernel
theorem dX6_steps_52 : decode cX6_steps 52 = .ok (.iadd, 1) := by decide +kernel
theorem dX6_steps_53 : decode cX6_steps 53 = .ok (.iaload, 1) := by decide +kernel
theorem dX6_steps_54 : decode cX6_steps 54 = .ok (.iload 4, 2) := by decide +kernel
theorem dX6_steps_56 : decode cX6_steps 56 = .ok (.aload_n 0, 1) := by decide +kernel
theorem dX6_steps_57 : decode cX6_steps 57 = .ok (.getfield 37, 3) := by decide +kernel
theorem dX6_steps_60 : decode cX6_steps 60 = .ok (.iconst 3, 1) := by decide +kernel
theorem dX6_steps_61 : decode cX6_steps 61 = .ok (.iload_n 3, 1) := by decide +kernel
theorem dX6_steps_62 : decode cX6_steps 62 = .ok (.imul, 1) := by decide +kernel
theorem dX6_steps_63 : decode cX6_steps 63 = .ok (.iaload, 1) := by decide +kernel
theorem dX6_steps_64 : decode cX6_steps 64 = .ok (.iadd, 1) := by decide +kernel
theorem dX6_steps_65 : decode cX6_steps 65 = .ok (.invokestatic 277, 3) := by decide +kernel
theorem dX6_steps_68 : decode cX6_steps 68 = .ok (.iastore, 1) := by decide +kernel
theorem dX6_steps_69 : decode cX6_steps 69 = .ok (.aload_n 0, 1) := by decide +kernel
theorem dX6_steps_70 : decode cX6_steps 70 = .ok (.getfield 65, 3) := by decide +kernel
theorem dX6_steps_73 : decode cX6_steps 73 = .ok (.bipush 7, 2) := by decide +kernel
theorem dX6_steps_75 : decode cX6_steps 75 = .ok (.iload_n 2, 1) := by decide +kernel
theorem dX6_steps_76 : decode cX6_steps 76 = .ok (.imul, 1) := by decide +kernel
theorem dX6_steps_77 : decode cX6_steps 77 = .ok (.iload_n 1, 1) := by decide +kernel
theorem dX6_steps_78 : decode cX6_steps 78 = .ok (.iadd, 1) := by decide +kernel
theorem dX6_steps_79 : decode cX6_steps 79 = .ok (.iload 4, 2) := by decide +kernel
theorem dX6_steps_81 : decode cX6_steps 81 = .ok (.aload_n 0, 1) := by decide +kernel
theorem dX6_steps_82 : decode cX6_steps 82 = .ok (.getfield 37, 3) := by decide +kernel
theorem dX6_steps_85 : decode cX6_steps 85 = .ok (.iconst 3, 1) := by decide +kernel
theorem dX6_steps_86 : decode cX6_steps 86 = .ok (.iload_n 3, 1) := by decide +kernel
theorem dX6_steps_87 : decode cX6_steps 87 = .ok (.imul, 1) := by decide +kernel
theorem dX6_steps_88 : decode cX6_steps 88 = .ok (.iaload, 1) := by decide +kernel
theorem dX6_steps_89 : decode cX6_steps 89 = .ok (.iadd, 1) := by decide +kernel
theorem dX6_steps_90 : decode cX6_steps 90 = .ok (.aload_n 0, 1) := by decide +kernel
theorem dX6_steps_91 : decode cX6_steps 91 = .ok (.getfield 37, 3) := by decide +kernel
theorem dX6_steps_94 : decode cX6_steps 94 = .ok (.iconst 3, 1) := by decide +kernel
theorem dX6_steps_95 : decode cX6_steps 95 = .ok (.iload_n 3, 1) := by decide +kernel
theorem dX6_steps_96 : decode cX6_steps 96 = .ok (.imul, 1) := by decide +kernel
theorem dX6_steps_97 : decode cX6_steps 97 = .ok (.iconst 1, 1) := by decide +kernel
theorem dX6_steps_98 : decode cX6_steps 98 = .ok (.iadd, 1) := by decide +kernel
theorem dX6_steps_99 : decode cX6_steps 99 = .ok (.iaload, 1) := by decide +kernel
theorem dX6_steps_100 : decode cX6_steps 100 = .ok (.if_icmp .ge 7, 3) := by decide +kernel
theorem dX6_steps_103 : decode cX6_steps 103 = .ok (.iconst 1, 1) := by decide +kernel
theorem dX6_steps_104 : decode cX6_steps 104 = .ok (.goto 4, 3) := by decide +kernel
theorem dX6_steps_107 : decode cX6_steps 107 = .ok (.iconst 0, 1) := by decide +kernel
theorem dX6_steps_108 : decode cX6_steps 108 = .ok (.bastore, 1) := by decide +kernel
theorem dX6_steps_109 : decode cX6_steps 109 = .ok (.goto 74, 3) := by decide +kernel
theorem dX6_steps_112 : decode cX6_steps 112 = .ok (.aload_n 0, 1) := by decide +kernel
theorem dX6_steps_113 : decode cX6_steps 113 = .ok (.getfield 62, 3) := by decide +kernel
theorem dX6_steps_116 : decode cX6_steps 116 = .ok (.bipush 7, 2) := by decide +kernel
theorem dX6_steps_118 : decode cX6_steps 118 = .ok (.iload_n 2, 1) := by decide +kernel
theorem dX6_steps_119 : decode cX6_steps 119 = .ok (.imul, 1) := by decide +kernel
theorem dX6_steps_120 : decode cX6_steps 120 = .ok (.iload_n 1, 1) := by decide +kernel
theorem dX6_steps_121 : decode cX6_steps 121 = .ok (.iadd, 1) := by decide +kernel
theorem dX6_steps_122 : decode cX6_steps 122 = .ok (.iconst 0, 1) := by decide +kernel
theorem dX6_steps_123 : decode cX6_steps 123 = .ok (.iload 4, 2) := by decide +kernel
theorem dX6_steps_125 : decode cX6_steps 125 = .ok (.aload_n 0, 1) := by decide +kernel
theorem dX6_steps_126 : decode cX6_steps 126 = .ok (.getfield 252, 3) := by decide +kernel
theorem dX6_steps_129 : decode cX6_steps 129 = .ok (.aload_n 0, 1) := by decide +kernel
theorem dX6_steps_130 : decode cX6_steps 130 = .ok (.getfield 37, 3) := by decide +kernel
theorem dX6_steps_133 : decode cX6_steps 133 = .ok (.iconst 3, 1) := by decide +kernel
theorem dX6_steps_134 : decode cX6_steps 134 = .ok (.iload_n 3, 1) := by decide +kernel
theorem dX6_steps_135 : decode cX6_steps 135 = .ok (.imul, 1) := by decide +kernel
theorem dX6_steps_136 : decode cX6_steps 136 = .ok (.iconst 2, 1) := by decide +kernel
theorem dX6_steps_137 : decode cX6_steps 137 = .ok (.iadd, 1) := by decide +kernel
theorem dX6_steps_138 : decode cX6_steps 138 = .ok (.iaload, 1) := by decide +kernel
theorem dX6_steps_139 : decode cX6_steps 139 = .ok (.aload_n 0, 1) := by decide +kernel
theorem dX6_steps_140 : decode cX6_steps 140 = .ok (.getfield 59, 3) := by decide +kernel
theorem dX6_steps_143 : decode cX6_steps 143 = .ok (.aload_n 0, 1) := by decide +kernel
theorem dX6_steps_144 : decode cX6_steps 144 = .ok (.getfield 43, 3) := by decide +kernel
theorem dX6_steps_147 : decode cX6_steps 147 = .ok (.iconst 4, 1) := by decide +kernel
theorem dX6_steps_148 : decode cX6_steps 148 = .ok (.iload_n 1, 1) := by decide +kernel
theorem dX6_steps_149 : decode cX6_steps 149 = .ok (.imul, 1) := by decide +kernel
theorem dX6_steps_150 : decode cX6_steps 150 = .ok (.iaload, 1) := by decide +kernel
theorem dX6_steps_151 : decode cX6_steps 151 = .ok (.iaload, 1) := by decide +kernel
theorem dX6_steps_152 : decode cX6_steps 152 = .ok (.aload_n 0, 1) := by decide +kernel
theorem dX6_steps_153 : decode cX6_steps 153 = .ok (.getfield 255, 3) := by decide +kernel
theorem dX6_steps_156 : decode cX6_steps 156 = .ok (.iload_n 2, 1) := by decide +kernel
theorem dX6_steps_157 : decode cX6_steps 157 = .ok (.iconst 1, 1) := by decide +kernel
theorem dX6_steps_158 : decode cX6_steps 158 = .ok (.isub, 1) := by decide +kernel
theorem dX6_steps_159 : decode cX6_steps 159 = .ok (.ishr, 1) := by decide +kernel
theorem dX6_steps_160 : decode cX6_steps 160 = .ok (.iconst 1, 1) := by decide +kernel
theorem dX6_steps_161 : decode cX6_steps 161 = .ok (.iand, 1) := by decide +kernel
theorem dX6_steps_162 : decode cX6_steps 162 = .ok (.iload_n 2, 1) := by decide +kernel
theorem dX6_steps_163 : decode cX6_steps 163 = .ok (.invokestatic 286, 3) := by decide +kernel
theorem dX6_steps_166 : decode cX6_steps 166 = .ok (.isub, 1) := by decide +kernel
theorem dX6_steps_167 : decode cX6_steps 167 = .ok (.invokestatic 280, 3) := by decide +kernel
theorem dX6_steps_170 : decode cX6_steps 170 = .ok (.iastore, 1) := by decide +kernel
theorem dX6_steps_171 : decode cX6_steps 171 = .ok (.aload_n 0, 1) := by decide +kernel
theorem dX6_steps_172 : decode cX6_steps 172 = .ok (.getfield 65, 3) := by decide +kernel
theorem dX6_steps_175 : decode cX6_steps 175 = .ok (.bipush 7, 2) := by decide +kernel
theorem dX6_steps_177 : decode cX6_steps 177 = .ok (.iload_n 2, 1) := by decide +kernel
theorem dX6_steps_178 : decode cX6_steps 178 = .ok (.imul, 1) := by decide +kernel
theorem dX6_steps_179 : decode cX6_steps 179 = .ok (.iload_n 1, 1) := by decide +kernel
theorem dX6_steps_180 : decode cX6_steps 180 = .ok (.iadd, 1) := by decide +kernel
theorem dX6_steps_181 : decode cX6_steps 181 = .ok (.iconst 0, 1) := by decide +kernel
theorem dX6_steps_182 : decode cX6_steps 182 = .ok (.bastore, 1) := by decide +kernel
theorem dX6_steps_183 : decode cX6_steps 183 = .ok (.aload_n 0, 1) := by decide +kernel
theorem dX6_steps_184 : decode cX6_steps 184 = .ok (.iload_n 1, 1) := by decide +kernel
theorem dX6_steps_185 : decode cX6_steps 185 = .ok (.invokevirtual 290, 3) := by decide +kernel
theorem dX6_steps_188 : decode cX6_steps 188 = .ok (.istore 5, 2) := by decide +kernel
theorem dX6_steps_190 : decode cX6_steps 190 = .ok (.aload_n 0, 1) := by decide +kernel
theorem dX6_steps_191 : decode cX6_steps 191 = .ok (.getfield 252, 3) := by decide +kernel
theorem dX6_steps_194 : decode cX6_steps 194 = .ok (.iconst 2, 1) := by decide +kernel
theorem dX6_steps_195 : decode cX6_steps 195 = .ok (.if_icmp .ne 67, 3) := by decide +kernel
theorem dX6_steps_198 : decode cX6_steps 198 = .ok (.iload 5, 2) := by decide +kernel
theorem dX6_steps_200 : decode cX6_steps 200 = .ok (.iconst (-1), 1) := by decide +kernel
theorem dX6_steps_201 : decode cX6_steps 201 = .ok (.if_icmp .eq 61, 3) := by decide +kernel
theorem dX6_steps_204 : decode cX6_steps 204 = .ok (.aload_n 0, 1) := by decide +kernel
theorem dX6_steps_205 : decode cX6_steps 205 = .ok (.iload 5, 2) := by decide +kernel
theorem dX6_steps_207 : decode cX6_steps 207 = .ok (.iload_n 2, 1) := by decide +kernel
theorem dX6_steps_208 : decode cX6_steps 208 = .ok (.iconst 1, 1) := by decide +kernel
theorem dX6_steps_209 : decode cX6_steps 209 = .ok (.isub, 1) := by decide +kernel
theorem dX6_steps_210 : decode cX6_steps 210 = .ok (.invokevirtual 293, 3) := by decide +kernel
theorem dX6_steps_213 : decode cX6_steps 213 = .ok (.ifCond .eq 49, 3) := by decide +kernel
theorem dX6_steps_216 : decode cX6_steps 216 = .ok (.aload_n 0, 1) := by decide +kernel
theorem dX6_steps_217 : decode cX6_steps 217 = .ok (.iload 5, 2) := by decide +kernel
theorem dX6_steps_219 : decode cX6_steps 219 = .ok (.iload_n 2, 1) := by decide +kernel
theorem dX6_steps_220 : decode cX6_steps 220 = .ok (.iconst 1, 1) := by decide +kernel
theorem dX6_steps_221 : decode cX6_steps 221 = .ok (.isub, 1) := by decide +kernel
theorem dX6_steps_222 : decode cX6_steps 222 = .ok (.invokevirtual 283, 3) := by decide +kernel
theorem dX6_steps_225 : decode cX6_steps 225 = .ok (.iload 4, 2) := by decide +kernel
theorem dX6_steps_227 : decode cX6_steps 227 = .ok (.isub, 1) := by decide +kernel
theorem dX6_steps_228 : decode cX6_steps 228 = .ok (.bipush 10, 2) := by decide +kernel
theorem dX6_steps_230 : decode cX6_steps 230 = .ok (.if_icmp .lt 32, 3) := by decide +kernel
theorem dX6_steps_233 : decode cX6_steps 233 = .ok (.aload_n 0, 1) := by decide +kernel
theorem dX6_steps_234 : decode cX6_steps 234 = .ok (.getfield 62, 3) := by decide +kernel
theorem dX6_steps_237 : decode cX6_steps 237 = .ok (.bipush 7, 2) := by decide +kernel
theorem dX6_steps_239 : decode cX6_steps 239 = .ok (.iload_n 2, 1) := by decide +kernel
theorem dX6_steps_240 : decode cX6_steps 240 = .ok (.imul, 1) := by decide +kernel
theorem dX6_steps_241 : decode cX6_steps 241 = .ok (.iload_n 1, 1) := by decide +kernel
theorem dX6_steps_242 : decode cX6_steps 242 = .ok (.iadd, 1) := by decide +kernel
theorem dX6_steps_243 : decode cX6_steps 243 = .ok (.bipush 60, 2) := by decide +kernel
theorem dX6_steps_245 : decode cX6_steps 245 = .ok (.aload_n 0, 1) := by decide +kernel
theorem dX6_steps_246 : decode cX6_steps 246 = .ok (.getfield 62, 3) := by decide +kernel
theorem dX6_steps_249 : decode cX6_steps 249 = .ok (.bipush 7, 2) := by decide +kernel
theorem dX6_steps_251 : decode cX6_steps 251 = .ok (.iload_n 2, 1) := by decide +kernel
theorem dX6_steps_252 : decode cX6_steps 252 = .ok (.imul, 1) := by decide +kernel
theorem dX6_steps_253 : decode cX6_steps 253 = .ok (.iload_n 1, 1) := by decide +kernel
theorem dX6_steps_254 : decode cX6_steps 254 = .ok (.iadd, 1) := by decide +kernel
theorem dX6_steps_255 : decode cX6_steps 255 = .ok (.iaload, 1) := by decide +kernel
theorem dX6_steps_256 : decode cX6_steps 256 = .ok (.iconst 1, 1) := by decide +kernel
theorem dX6_steps_257 : decode cX6_steps 257 = .ok (.iadd, 1) := by decide +kernel
theorem dX6_steps_258 : decode cX6_steps 258 = .ok (.invokestatic 277, 3) := by decide +kernel
theorem dX6_steps_261 : decode cX6_steps 261 = .ok (.iastore, 1) := by decide +kernel
theorem dX6_steps_262 : decode cX6_steps 262 = .ok (.return_, 1) := by decide +kernel
theorem dX6_actsOf_0 : decode cX6_actsOf 0 = .ok (.iconst 0, 1) := by decide +kernel
theorem dX6_actsOf_1 : decode cX6_actsOf 1 = .ok (.istore_n 2, 1) := by decide +kernel
theorem dX6_actsOf_2 : decode cX6_actsOf 2 = .ok (.iload_n 2, 1) := by decide +kernel
theorem dX6_actsOf_3 : decode cX6_actsOf 3 = .ok (.aload_n 0, 1) := by decide +kernel
theorem dX6_actsOf_4 : decode cX6_actsOf 4 = .ok (.getfield 34, 3) := by decide +kernel
theorem dX6_actsOf_7 : decode cX6_actsOf 7 = .ok (.bipush 6, 2) := by decide +kernel
theorem dX6_actsOf_9 : decode cX6_actsOf 9 = .ok (.iaload, 1) := by decide +kernel
theorem dX6_actsOf_10 : decode cX6_actsOf 10 = .ok (.if_icmp .ge 82, 3) := by decide +kernel
theorem dX6_actsOf_13 : decode cX6_actsOf 13 = .ok (.aload_n 0, 1) := by decide +kernel
theorem dX6_actsOf_14 : decode cX6_actsOf 14 = .ok (.getfield 46, 3) := by decide +kernel
theorem dX6_actsOf_17 : decode cX6_actsOf 17 = .ok (.iconst 4, 1) := by decide +kernel
theorem dX6_actsOf_18 : decode cX6_actsOf 18 = .ok (.iload_n 2, 1) := by decide +kernel
theorem dX6_actsOf_19 : decode cX6_actsOf 19 = .ok (.imul, 1) := by decide +kernel
theorem dX6_actsOf_20 : decode cX6_actsOf 20 = .ok (.iconst 1, 1) := by decide +kernel
theorem dX6_actsOf_21 : decode cX6_actsOf 21 = .ok (.iadd, 1) := by decide +kernel
theorem dX6_actsOf_22 : decode cX6_actsOf 22 = .ok (.iaload, 1) := by decide +kernel
theorem dX6_actsOf_23 : decode cX6_actsOf 23 = .ok (.istore_n 3, 1) := by decide +kernel
theorem dX6_actsOf_24 : decode cX6_actsOf 24 = .ok (.aload_n 0, 1) := by decide +kernel
theorem dX6_actsOf_25 : decode cX6_actsOf 25 = .ok (.getfield 46, 3) := by decide +kernel
theorem dX6_actsOf_28 : decode cX6_actsOf 28 = .ok (.iconst 4, 1) := by decide +kernel
theorem dX6_actsOf_29 : decode cX6_actsOf 29 = .ok (.iload_n 2, 1) := by decide +kernel
theorem dX6_actsOf_30 : decode cX6_actsOf 30 = .ok (.imul, 1) := by decide +kernel
theorem dX6_actsOf_31 : decode cX6_actsOf 31 = .ok (.iconst 3, 1) := by decide +kernel
theorem dX6_actsOf_32 : decode cX6_actsOf 32 = .ok (.iadd, 1) := by decide +kernel
theorem dX6_actsOf_33 : decode cX6_actsOf 33 = .ok (.iaload, 1) := by decide +kernel
theorem dX6_actsOf_34 : decode cX6_actsOf 34 = .ok (.iload_n 1, 1) := by decide +kernel
theorem dX6_actsOf_35 : decode cX6_actsOf 35 = .ok (.if_icmp .ne 51, 3) := by decide +kernel
theorem dX6_actsOf_38 : decode cX6_actsOf 38 = .ok (.aload_n 0, 1) := by decide +kernel
theorem dX6_actsOf_39 : decode cX6_actsOf 39 = .ok (.iload_n 3, 1) := by decide +kernel
theorem dX6_actsOf_40 : decode cX6_actsOf 40 = .ok (.iload_n 1, 1) := by decide +kernel
theorem dX6_actsOf_41 : decode cX6_actsOf 41 = .ok (.invokevirtual 293, 3) := by decide +kernel
theorem dX6_actsOf_44 : decode cX6_actsOf 44 = .ok (.ifCond .ne 6, 3) := by decide +kernel
theorem dX6_actsOf_47 : decode cX6_actsOf 47 = .ok (.goto 39, 3) := by decide +kernel
theorem dX6_actsOf_50 : decode cX6_actsOf 50 = .ok (.aload_n 0, 1) := by decide +kernel
theorem dX6_actsOf_51 : decode cX6_actsOf 51 = .ok (.getfield 46, 3) := by decide +kernel
theorem dX6_actsOf_54 : decode cX6_actsOf 54 = .ok (.iconst 4, 1) := by decide +kernel
theorem dX6_actsOf_55 : decode cX6_actsOf 55 = .ok (.iload_n 2, 1) := by decide +kernel
theorem dX6_actsOf_56 : decode cX6_actsOf 56 = .ok (.imul, 1) := by decide +kernel
theorem dX6_actsOf_57 : decode cX6_actsOf 57 = .ok (.iaload, 1) := by decide +kernel
theorem dX6_actsOf_58 : decode cX6_actsOf 58 = .ok (.ifCond .ne 22, 3) := by decide +kernel
theorem dX6_actsOf_61 : decode cX6_actsOf 61 = .ok (.aload_n 0, 1) := by decide +kernel
theorem dX6_actsOf_62 : decode cX6_actsOf 62 = .ok (.iload_n 3, 1) := by decide +kernel
theorem dX6_actsOf_63 : decode cX6_actsOf 63 = .ok (.iload_n 1, 1) := by decide +kernel
theorem dX6_actsOf_64 : decode cX6_actsOf 64 = .ok (.aload_n 0, 1) := by decide +kernel
theorem dX6_actsOf_65 : decode cX6_actsOf 65 = .ok (.getfield 46, 3) := by decide +kernel
theorem dX6_actsOf_68 : decode cX6_actsOf 68 = .ok (.iconst 4, 1) := by decide +kernel
theorem dX6_actsOf_69 : decode cX6_actsOf 69 = .ok (.iload_n 2, 1) := by decide +kernel
theorem dX6_actsOf_70 : decode cX6_actsOf 70 = .ok (.imul, 1) := by decide +kernel
theorem dX6_actsOf_71 : decode cX6_actsOf 71 = .ok (.iconst 2, 1) := by decide +kernel
theorem dX6_actsOf_72 : decode cX6_actsOf 72 = .ok (.iadd, 1) := by decide +kernel
theorem dX6_actsOf_73 : decode cX6_actsOf 73 = .ok (.iaload, 1) := by decide +kernel
theorem dX6_actsOf_74 : decode cX6_actsOf 74 = .ok (.invokevirtual 296, 3) := by decide +kernel
theorem dX6_actsOf_77 : decode cX6_actsOf 77 = .ok (.goto 9, 3) := by decide +kernel
theorem dX6_actsOf_80 : decode cX6_actsOf 80 = .ok (.aload_n 0, 1) := by decide +kernel
theorem dX6_actsOf_81 : decode cX6_actsOf 81 = .ok (.iload_n 3, 1) := by decide +kernel
theorem dX6_actsOf_82 : decode cX6_actsOf 82 = .ok (.iload_n 1, 1) := by decide +kernel
theorem dX6_actsOf_83 : decode cX6_actsOf 83 = .ok (.invokevirtual 300, 3) := by decide +kernel
theorem dX6_actsOf_86 : decode cX6_actsOf 86 = .ok (.iinc 2 1, 3) := by decide +kernel
theorem dX6_actsOf_89 : decode cX6_actsOf 89 = .ok (.goto (-87), 3) := by decide +kernel
theorem dX6_actsOf_92 : decode cX6_actsOf 92 = .ok (.aload_n 0, 1) := by decide +kernel
theorem dX6_actsOf_93 : decode cX6_actsOf 93 = .ok (.getfield 261, 3) := by decide +kernel
theorem dX6_actsOf_96 : decode cX6_actsOf 96 = .ok (.iconst (-1), 1) := by decide +kernel
theorem dX6_actsOf_97 : decode cX6_actsOf 97 = .ok (.if_icmp .eq 48, 3) := by decide +kernel
theorem dX6_actsOf_100 : decode cX6_actsOf 100 = .ok (.aload_n 0, 1) := by decide +kernel
theorem dX6_actsOf_101 : decode cX6_actsOf 101 = .ok (.getfield 303, 3) := by decide +kernel
theorem dX6_actsOf_104 : decode cX6_actsOf 104 = .ok (.iload_n 1, 1) := by decide +kernel
theorem dX6_actsOf_105 : decode cX6_actsOf 105 = .ok (.if_icmp .ne 40, 3) := by decide +kernel
theorem dX6_actsOf_108 : decode cX6_actsOf 108 = .ok (.aload_n 0, 1) := by decide +kernel
theorem dX6_actsOf_109 : decode cX6_actsOf 109 = .ok (.aload_n 0, 1) := by decide +kernel
theorem dX6_actsOf_110 : decode cX6_actsOf 110 = .ok (.getfield 261, 3) := by decide +kernel
theorem dX6_actsOf_113 : decode cX6_actsOf 113 = .ok (.iload_n 1, 1) := by decide +kernel
theorem dX6_actsOf_114 : decode cX6_actsOf 114 = .ok (.invokevirtual 293, 3) := by decide +kernel
theorem dX6_actsOf_117 : decode cX6_actsOf 117 = .ok (.ifCond .eq 28, 3) := by decide +kernel
theorem dX6_actsOf_120 : decode cX6_actsOf 120 = .ok (.iconst 0, 1) := by decide +kernel
theorem dX6_actsOf_121 : decode cX6_actsOf 121 = .ok (.istore_n 2, 1) := by decide +kernel
theorem dX6_actsOf_122 : decode cX6_actsOf 122 = .ok (.iload_n 2, 1) := by decide +kernel
theorem dX6_actsOf_123 : decode cX6_actsOf 123 = .ok (.aload_n 0, 1) := by decide +kernel
theorem dX6_actsOf_124 : decode cX6_actsOf 124 = .ok (.getfield 264, 3) := by decide +kernel
theorem dX6_actsOf_127 : decode cX6_actsOf 127 = .ok (.if_icmp .ge 18, 3) := by decide +kernel
theorem dX6_actsOf_130 : decode cX6_actsOf 130 = .ok (.aload_n 0, 1) := by decide +kernel
theorem dX6_actsOf_131 : decode cX6_actsOf 131 = .ok (.aload_n 0, 1) := by decide +kernel
theorem dX6_actsOf_132 : decode cX6_actsOf 132 = .ok (.getfield 261, 3) := by decide +kernel
theorem dX6_actsOf_135 : decode cX6_actsOf 135 = .ok (.iload_n 1, 1) := by decide +kernel
theorem dX6_actsOf_136 : decode cX6_actsOf 136 = .ok (.invokevirtual 300, 3) := by decide +kernel
theorem dX6_actsOf_139 : decode cX6_actsOf 139 = .ok (.iinc 2 1, 3) := by decide +kernel
theorem dX6_actsOf_142 : decode cX6_actsOf 142 = .ok (.goto (-20), 3) := by decide +kernel
theorem dX6_actsOf_145 : decode cX6_actsOf 145 = .ok (.aload_n 0, 1) := by decide +kernel
theorem dX6_actsOf_146 : decode cX6_actsOf 146 = .ok (.getfield 267, 3) := by decide +kernel
theorem dX6_actsOf_149 : decode cX6_actsOf 149 = .ok (.iconst (-1), 1) := by decide +kernel
theorem dX6_actsOf_150 : decode cX6_actsOf 150 = .ok (.if_icmp .eq 45, 3) := by decide +kernel
theorem dX6_actsOf_153 : decode cX6_actsOf 153 = .ok (.aload_n 0, 1) := by decide +kernel
theorem dX6_actsOf_154 : decode cX6_actsOf 154 = .ok (.getfield 306, 3) := by decide +kernel
theorem dX6_actsOf_157 : decode cX6_actsOf 157 = .ok (.iload_n 1, 1) := by decide +kernel
theorem dX6_actsOf_158 : decode cX6_actsOf 158 = .ok (.if_icmp .ne 37, 3) := by decide +kernel
theorem dX6_actsOf_161 : decode cX6_actsOf 161 = .ok (.aload_n 0, 1) := by decide +kernel
theorem dX6_actsOf_162 : decode cX6_actsOf 162 = .ok (.aload_n 0, 1) := by decide +kernel
theorem dX6_actsOf_163 : decode cX6_actsOf 163 = .ok (.getfield 267, 3) := by decide +kernel
theorem dX6_actsOf_166 : decode cX6_actsOf 166 = .ok (.iload_n 1, 1) := by decide +kernel
theorem dX6_actsOf_167 : decode cX6_actsOf 167 = .ok (.invokevirtual 293, 3) := by decide +kernel
theorem dX6_actsOf_170 : decode cX6_actsOf 170 = .ok (.ifCond .eq 25, 3) := by decide +kernel
theorem dX6_actsOf_173 : decode cX6_actsOf 173 = .ok (.aload_n 0, 1) := by decide +kernel
theorem dX6_actsOf_174 : decode cX6_actsOf 174 = .ok (.aload_n 0, 1) := by decide +kernel
theorem dX6_actsOf_175 : decode cX6_actsOf 175 = .ok (.getfield 267, 3) := by decide +kernel
theorem dX6_actsOf_178 : decode cX6_actsOf 178 = .ok (.iload_n 1, 1) := by decide +kernel
theorem dX6_actsOf_179 : decode cX6_actsOf 179 = .ok (.aload_n 0, 1) := by decide +kernel
theorem dX6_actsOf_180 : decode cX6_actsOf 180 = .ok (.getfield 43, 3) := by decide +kernel
theorem dX6_actsOf_183 : decode cX6_actsOf 183 = .ok (.iconst 4, 1) := by decide +kernel
theorem dX6_actsOf_184 : decode cX6_actsOf 184 = .ok (.aload_n 0, 1) := by decide +kernel
theorem dX6_actsOf_185 : decode cX6_actsOf 185 = .ok (.getfield 267, 3) := by decide +kernel
theorem dX6_actsOf_188 : decode cX6_actsOf 188 = .ok (.imul, 1) := by decide +kernel
theorem dX6_actsOf_189 : decode cX6_actsOf 189 = .ok (.iconst 1, 1) := by decide +kernel
theorem dX6_actsOf_190 : decode cX6_actsOf 190 = .ok (.iadd, 1) := by decide +kernel
theorem dX6_actsOf_191 : decode cX6_actsOf 191 = .ok (.iaload, 1) := by decide +kernel
theorem dX6_actsOf_192 : decode cX6_actsOf 192 = .ok (.invokevirtual 296, 3) := by decide +kernel
theorem dX6_actsOf_195 : decode cX6_actsOf 195 = .ok (.return_, 1) := by decide +kernel
theorem dX6_runs_0 : decode cX6_runs 0 = .ok (.iconst 0, 1) := by decide +kernel
theorem dX6_runs_1 : decode cX6_runs 1 = .ok (.istore_n 1, 1) := by decide +kernel
theorem dX6_runs_2 : decode cX6_runs 2 = .ok (.iload_n 1, 1) := by decide +kernel
theorem dX6_runs_3 : decode cX6_runs 3 = .ok (.aload_n 0, 1) := by decide +kernel
theorem dX6_runs_4 : decode cX6_runs 4 = .ok (.invokevirtual 243, 3) := by decide +kernel
theorem dX6_runs_7 : decode cX6_runs 7 = .ok (.if_icmp .gt 97, 3) := by decide +kernel
theorem dX6_runs_10 : decode cX6_runs 10 = .ok (.iconst 0, 1) := by decide +kernel
theorem dX6_runs_11 : decode cX6_runs 11 = .ok (.istore_n 2, 1) := by decide +kernel
theorem dX6_runs_12 : decode cX6_runs 12 = .ok (.iload_n 2, 1) := by decide +kernel
theorem dX6_runs_13 : decode cX6_runs 13 = .ok (.aload_n 0, 1) := by decide +kernel
theorem dX6_runs_14 : decode cX6_runs 14 = .ok (.invokevirtual 236, 3) := by decide +kernel
theorem dX6_runs_17 : decode cX6_runs 17 = .ok (.if_icmp .ge 76, 3) := by decide +kernel
theorem dX6_runs_20 : decode cX6_runs 20 = .ok (.aload_n 0, 1) := by decide +kernel
theorem dX6_runs_21 : decode cX6_runs 21 = .ok (.getfield 62, 3) := by decide +kernel
theorem dX6_runs_24 : decode cX6_runs 24 = .ok (.bipush 7, 2) := by decide +kernel
theorem dX6_runs_26 : decode cX6_runs 26 = .ok (.iload_n 1, 1) := by decide +kernel
theorem dX6_runs_27 : decode cX6_runs 27 = .ok (.imul, 1) := by decide +kernel
theorem dX6_runs_28 : decode cX6_runs 28 = .ok (.iload_n 2, 1) := by decide +kernel
theorem dX6_runs_29 : decode cX6_runs 29 = .ok (.iadd, 1) := by decide +kernel
theorem dX6_runs_30 : decode cX6_runs 30 = .ok (.iconst 0, 1) := by decide +kernel
theorem dX6_runs_31 : decode cX6_runs 31 = .ok (.iastore, 1) := by decide +kernel
theorem dX6_runs_32 : decode cX6_runs 32 = .ok (.aload_n 0, 1) := by decide +kernel
theorem dX6_runs_33 : decode cX6_runs 33 = .ok (.getfield 65, 3) := by decide +kernel
theorem dX6_runs_36 : decode cX6_runs 36 = .ok (.bipush 7, 2) := by decide +kernel
theorem dX6_runs_38 : decode cX6_runs 38 = .ok (.iload_n 1, 1) := by decide +kernel
theorem dX6_runs_39 : decode cX6_runs 39 = .ok (.imul, 1) := by decide +kernel
theorem dX6_runs_40 : decode cX6_runs 40 = .ok (.iload_n 2, 1) := by decide +kernel
theorem dX6_runs_41 : decode cX6_runs 41 = .ok (.iadd, 1) := by decide +kernel
theorem dX6_runs_42 : decode cX6_runs 42 = .ok (.iconst 0, 1) := by decide +kernel
theorem dX6_runs_43 : decode cX6_runs 43 = .ok (.bastore, 1) := by decide +kernel
theorem dX6_runs_44 : decode cX6_runs 44 = .ok (.aload_n 0, 1) := by decide +kernel
theorem dX6_runs_45 : decode cX6_runs 45 = .ok (.iload_n 2, 1) := by decide +kernel
theorem dX6_runs_46 : decode cX6_runs 46 = .ok (.iload_n 1, 1) := by decide +kernel
theorem dX6_runs_47 : decode cX6_runs 47 = .ok (.invokevirtual 293, 3) := by decide +kernel
theorem dX6_runs_50 : decode cX6_runs 50 = .ok (.ifCond .ne 6, 3) := by decide +kernel
theorem dX6_runs_53 : decode cX6_runs 53 = .ok (.goto 34, 3) := by decide +kernel
theorem dX6_runs_56 : decode cX6_runs 56 = .ok (.aload_n 0, 1) := by decide +kernel
theorem dX6_runs_57 : decode cX6_runs 57 = .ok (.getfield 53, 3) := by decide +kernel
theorem dX6_runs_60 : decode cX6_runs 60 = .ok (.iload_n 2, 1) := by decide +kernel
theorem dX6_runs_61 : decode cX6_runs 61 = .ok (.iaload, 1) := by decide +kernel
theorem dX6_runs_62 : decode cX6_runs 62 = .ok (.iload_n 1, 1) := by decide +kernel
theorem dX6_runs_63 : decode cX6_runs 63 = .ok (.if_icmp .ne 18, 3) := by decide +kernel
theorem dX6_runs_66 : decode cX6_runs 66 = .ok (.aload_n 0, 1) := by decide +kernel
theorem dX6_runs_67 : decode cX6_runs 67 = .ok (.iload_n 2, 1) := by decide +kernel
theorem dX6_runs_68 : decode cX6_runs 68 = .ok (.iload_n 1, 1) := by decide +kernel
theorem dX6_runs_69 : decode cX6_runs 69 = .ok (.aload_n 0, 1) := by decide +kernel
theorem dX6_runs_70 : decode cX6_runs 70 = .ok (.getfield 56, 3) := by decide +kernel
theorem dX6_runs_73 : decode cX6_runs 73 = .ok (.iload_n 2, 1) := by decide +kernel
theorem dX6_runs_74 : decode cX6_runs 74 = .ok (.iaload, 1) := by decide +kernel
theorem dX6_runs_75 : decode cX6_runs 75 = .ok (.invokevirtual 296, 3) := by decide +kernel
theorem dX6_runs_78 : decode cX6_runs 78 = .ok (.goto 9, 3) := by decide +kernel
theorem dX6_runs_81 : decode cX6_runs 81 = .ok (.aload_n 0, 1) := by decide +kernel
theorem dX6_runs_82 : decode cX6_runs 82 = .ok (.iload_n 2, 1) := by decide +kernel
theorem dX6_runs_83 : decode cX6_runs 83 = .ok (.iload_n 1, 1) := by decide +kernel
theorem dX6_runs_84 : decode cX6_runs 84 = .ok (.invokevirtual 309, 3) := by decide +kernel
theorem dX6_runs_87 : decode cX6_runs 87 = .ok (.iinc 2 1, 3) := by decide +kernel
theorem dX6_runs_90 : decode cX6_runs 90 = .ok (.goto (-78), 3) := by decide +kernel
theorem dX6_runs_93 : decode cX6_runs 93 = .ok (.aload_n 0, 1) := by decide +kernel
theorem dX6_runs_94 : decode cX6_runs 94 = .ok (.iload_n 1, 1) := by decide +kernel
theorem dX6_runs_95 : decode cX6_runs 95 = .ok (.invokevirtual 312, 3) := by decide +kernel
theorem dX6_runs_98 : decode cX6_runs 98 = .ok (.iinc 1 1, 3) := by decide +kernel
theorem dX6_runs_101 : decode cX6_runs 101 = .ok (.goto (-99), 3) := by decide +kernel
theorem dX6_runs_104 : decode cX6_runs 104 = .ok (.return_, 1) := by decide +kernel
theorem dX6_laysNow_0 : decode cX6_laysNow 0 = .ok (.aload_n 0, 1) := by decide +kernel
theorem dX6_laysNow_1 : decode cX6_laysNow 1 = .ok (.invokevirtual 315, 3) := by decide +kernel
theorem dX6_laysNow_4 : decode cX6_laysNow 4 = .ok (.aload_n 0, 1) := by decide +kernel
theorem dX6_laysNow_5 : decode cX6_laysNow 5 = .ok (.invokevirtual 318, 3) := by decide +kernel
theorem dX6_laysNow_8 : decode cX6_laysNow 8 = .ok (.return_, 1) := by decide +kernel
theorem dX6_lastOf_0 : decode cX6_lastOf 0 = .ok (.aload_n 0, 1) := by decide +kernel
theorem dX6_lastOf_1 : decode cX6_lastOf 1 = .ok (.iload_n 1, 1) := by decide +kernel
theorem dX6_lastOf_2 : decode cX6_lastOf 2 = .ok (.aload_n 0, 1) := by decide +kernel
theorem dX6_lastOf_3 : decode cX6_lastOf 3 = .ok (.invokevirtual 243, 3) := by decide +kernel
theorem dX6_lastOf_6 : decode cX6_lastOf 6 = .ok (.invokevirtual 283, 3) := by decide +kernel
theorem dX6_lastOf_9 : decode cX6_lastOf 9 = .ok (.ireturn, 1) := by decide +kernel
theorem dX6_allAt_0 : decode cX6_allAt 0 = .ok (.iconst 0, 1) := by decide +kernel
theorem dX6_allAt_1 : decode cX6_allAt 1 = .ok (.istore_n 2, 1) := by decide +kernel
theorem dX6_allAt_2 : decode cX6_allAt 2 = .ok (.iconst 0, 1) := by decide +kernel
theorem dX6_allAt_3 : decode cX6_allAt 3 = .ok (.istore_n 3, 1) := by decide +kernel
theorem dX6_allAt_4 : decode cX6_allAt 4 = .ok (.iload_n 3, 1) := by decide +kernel
theorem dX6_allAt_5 : decode cX6_allAt 5 = .ok (.aload_n 0, 1) := by decide +kernel
theorem dX6_allAt_6 : decode cX6_allAt 6 = .ok (.invokevirtual 236, 3) := by decide +kernel
theorem dX6_allAt_9 : decode cX6_allAt 9 = .ok (.if_icmp .ge 18, 3) := by decide +kernel
theorem dX6_allAt_12 : decode cX6_allAt 12 = .ok (.iload_n 2, 1) := by decide +kernel
theorem dX6_allAt_13 : decode cX6_allAt 13 = .ok (.aload_n 0, 1) := by decide +kernel
theorem dX6_allAt_14 : decode cX6_allAt 14 = .ok (.iload_n 3, 1) := by decide +kernel
theorem dX6_allAt_15 : decode cX6_allAt 15 = .ok (.iload_n 1, 1) := by decide +kernel
theorem dX6_allAt_16 : decode cX6_allAt 16 = .ok (.invokevirtual 283, 3) := by decide +kernel
theorem dX6_allAt_19 : decode cX6_allAt 19 = .ok (.iadd, 1) := by decide +kernel
theorem dX6_allAt_20 : decode cX6_allAt 20 = .ok (.istore_n 2, 1) := by decide +kernel
theorem dX6_allAt_21 : decode cX6_allAt 21 = .ok (.iinc 3 1, 3) := by decide +kernel
theorem dX6_allAt_24 : decode cX6_allAt 24 = .ok (.goto (-20), 3) := by decide +kernel
theorem dX6_allAt_27 : decode cX6_allAt 27 = .ok (.iload_n 2, 1) := by decide +kernel
theorem dX6_allAt_28 : decode cX6_allAt 28 = .ok (.ireturn, 1) := by decide +kernel
theorem dX6_clearAt_0 : decode cX6_clearAt 0 = .ok (.iconst 0, 1) := by decide +kernel
theorem dX6_clearAt_1 : decode cX6_clearAt 1 = .ok (.istore_n 2, 1) := by decide +kernel
theorem dX6_clearAt_2 : decode cX6_clearAt 2 = .ok (.iconst 0, 1) := by decide +kernel
theorem dX6_clearAt_3 : decode cX6_clearAt 3 = .ok (.istore_n 3, 1) := by decide +kernel
theorem dX6_clearAt_4 : decode cX6_clearAt 4 = .ok (.iload_n 3, 1) := by decide +kernel
theorem dX6_clearAt_5 : decode cX6_clearAt 5 = .ok (.aload_n 0, 1) := by decide +kernel
theorem dX6_clearAt_6 : decode cX6_clearAt 6 = .ok (.invokevirtual 236, 3) := by decide +kernel
theorem dX6_clearAt_9 : decode cX6_clearAt 9 = .ok (.if_icmp .ge 29, 3) := by decide +kernel
theorem dX6_clearAt_12 : decode cX6_clearAt 12 = .ok (.iload_n 2, 1) := by decide +kernel
theorem dX6_clearAt_13 : decode cX6_clearAt 13 = .ok (.aload_n 0, 1) := by decide +kernel
theorem dX6_clearAt_14 : decode cX6_clearAt 14 = .ok (.iload_n 3, 1) := by decide +kernel
theorem dX6_clearAt_15 : decode cX6_clearAt 15 = .ok (.iload_n 1, 1) := by decide +kernel
theorem dX6_clearAt_16 : decode cX6_clearAt 16 = .ok (.invokevirtual 283, 3) := by decide +kernel
theorem dX6_clearAt_19 : decode cX6_clearAt 19 = .ok (.iconst 5, 1) := by decide +kernel
theorem dX6_clearAt_20 : decode cX6_clearAt 20 = .ok (.if_icmp .lt 9, 3) := by decide +kernel
theorem dX6_clearAt_23 : decode cX6_clearAt 23 = .ok (.iconst 1, 1) := by decide +kernel
theorem dX6_clearAt_24 : decode cX6_clearAt 24 = .ok (.iload_n 3, 1) := by decide +kernel
theorem dX6_clearAt_25 : decode cX6_clearAt 25 = .ok (.ishl, 1) := by decide +kernel
theorem dX6_clearAt_26 : decode cX6_clearAt 26 = .ok (.goto 4, 3) := by decide +kernel
theorem dX6_clearAt_29 : decode cX6_clearAt 29 = .ok (.iconst 0, 1) := by decide +kernel
theorem dX6_clearAt_30 : decode cX6_clearAt 30 = .ok (.ior, 1) := by decide +kernel
theorem dX6_clearAt_31 : decode cX6_clearAt 31 = .ok (.istore_n 2, 1) := by decide +kernel
theorem dX6_clearAt_32 : decode cX6_clearAt 32 = .ok (.iinc 3 1, 3) := by decide +kernel
theorem dX6_clearAt_35 : decode cX6_clearAt 35 = .ok (.goto (-31), 3) := by decide +kernel
theorem dX6_clearAt_38 : decode cX6_clearAt 38 = .ok (.iload_n 2, 1) := by decide +kernel
theorem dX6_clearAt_39 : decode cX6_clearAt 39 = .ok (.ireturn, 1) := by decide +kernel
theorem dX6_ink_0 : decode cX6_ink 0 = .ok (.aload_n 0, 1) := by decide +kernel
theorem dX6_ink_1 : decode cX6_ink 1 = .ok (.iconst 0, 1) := by decide +kernel
theorem dX6_ink_2 : decode cX6_ink 2 = .ok (.putfield 74, 3) := by decide +kernel
theorem dX6_ink_5 : decode cX6_ink 5 = .ok (.aload_n 0, 1) := by decide +kernel
theorem dX6_ink_6 : decode cX6_ink 6 = .ok (.iload_n 1, 1) := by decide +kernel
theorem dX6_ink_7 : decode cX6_ink 7 = .ok (.invokevirtual 321, 3) := by decide +kernel
theorem dX6_ink_10 : decode cX6_ink 10 = .ok (.ifCond .eq 28, 3) := by decide +kernel
theorem dX6_ink_13 : decode cX6_ink 13 = .ok (.iload_n 2, 1) := by decide +kernel
theorem dX6_ink_14 : decode cX6_ink 14 = .ok (.i2l, 1) := by decide +kernel
theorem dX6_ink_15 : decode cX6_ink 15 = .ok (.lconst 0, 1) := by decide +kernel
theorem dX6_ink_16 : decode cX6_ink 16 = .ok (.ldc2_w 324, 3) := by decide +kernel
theorem dX6_ink_19 : decode cX6_ink 19 = .ok (.invokestatic 79, 3) := by decide +kernel
theorem dX6_ink_22 : decode cX6_ink 22 = .ok (.ifCond .eq 16, 3) := by decide +kernel
theorem dX6_ink_25 : decode cX6_ink 25 = .ok (.aload_n 0, 1) := by decide +kernel
theorem dX6_ink_26 : decode cX6_ink 26 = .ok (.getfield 37, 3) := by decide +kernel
theorem dX6_ink_29 : decode cX6_ink 29 = .ok (.iconst 3, 1) := by decide +kernel
theorem dX6_ink_30 : decode cX6_ink 30 = .ok (.iload_n 1, 1) := by decide +kernel
theorem dX6_ink_31 : decode cX6_ink 31 = .ok (.imul, 1) := by decide +kernel
theorem dX6_ink_32 : decode cX6_ink 32 = .ok (.iload_n 2, 1) := by decide +kernel
theorem dX6_ink_33 : decode cX6_ink 33 = .ok (.iadd, 1) := by decide +kernel
theorem dX6_ink_34 : decode cX6_ink 34 = .ok (.iaload, 1) := by decide +kernel
theorem dX6_ink_35 : decode cX6_ink 35 = .ok (.goto 5, 3) := by decide +kernel
theorem dX6_ink_38 : decode cX6_ink 38 = .ok (.bipush (-2), 2) := by decide +kernel
theorem dX6_ink_40 : decode cX6_ink 40 = .ok (.ireturn, 1) := by decide +kernel
theorem dX6_page_0 : decode cX6_page 0 = .ok (.aload_n 0, 1) := by decide +kernel
theorem dX6_page_1 : decode cX6_page 1 = .ok (.iconst 0, 1) := by decide +kernel
theorem dX6_page_2 : decode cX6_page 2 = .ok (.putfield 74, 3) := by decide +kernel
theorem dX6_page_5 : decode cX6_page 5 = .ok (.aload_n 0, 1) := by decide +kernel
theorem dX6_page_6 : decode cX6_page 6 = .ok (.iload_n 1, 1) := by decide +kernel
theorem dX6_page_7 : decode cX6_page 7 = .ok (.invokevirtual 326, 3) := by decide +kernel
theorem dX6_page_10 : decode cX6_page 10 = .ok (.ifCond .eq 12, 3) := by decide +kernel
theorem dX6_page_13 : decode cX6_page 13 = .ok (.aload_n 0, 1) := by decide +kernel
theorem dX6_page_14 : decode cX6_page 14 = .ok (.getfield 40, 3) := by decide +kernel
theorem dX6_page_17 : decode cX6_page 17 = .ok (.iload_n 1, 1) := by decide +kernel
theorem dX6_page_18 : decode cX6_page 18 = .ok (.iaload, 1) := by decide +kernel
theorem dX6_page_19 : decode cX6_page 19 = .ok (.goto 5, 3) := by decide +kernel
theorem dX6_page_22 : decode cX6_page 22 = .ok (.bipush (-2), 2) := by decide +kernel
theorem dX6_page_24 : decode cX6_page 24 = .ok (.ireturn, 1) := by decide +kernel
theorem dX6_entry_0 : decode cX6_entry 0 = .ok (.aload_n 0, 1) := by decide +kernel
theorem dX6_entry_1 : decode cX6_entry 1 = .ok (.iconst 0, 1) := by decide +kernel
theorem dX6_entry_2 : decode cX6_entry 2 = .ok (.putfield 74, 3) := by decide +kernel
theorem dX6_entry_5 : decode cX6_entry 5 = .ok (.aload_n 0, 1) := by decide +kernel
theorem dX6_entry_6 : decode cX6_entry 6 = .ok (.iload_n 1, 1) := by decide +kernel
theorem dX6_entry_7 : decode cX6_entry 7 = .ok (.i2l, 1) := by decide +kernel
theorem dX6_entry_8 : decode cX6_entry 8 = .ok (.invokevirtual 246, 3) := by decide +kernel
theorem dX6_entry_11 : decode cX6_entry 11 = .ok (.ifCond .eq 15, 3) := by decide +kernel
theorem dX6_entry_14 : decode cX6_entry 14 = .ok (.iload_n 2, 1) := by decide +kernel
theorem dX6_entry_15 : decode cX6_entry 15 = .ok (.i2l, 1) := by decide +kernel
theorem dX6_entry_16 : decode cX6_entry 16 = .ok (.lconst 0, 1) := by decide +kernel
theorem dX6_entry_17 : decode cX6_entry 17 = .ok (.ldc2_w 329, 3) := by decide +kernel
theorem dX6_entry_20 : decode cX6_entry 20 = .ok (.invokestatic 79, 3) := by decide +kernel
theorem dX6_entry_23 : decode cX6_entry 23 = .ok (.ifCond .ne 6, 3) := by decide +kernel
theorem dX6_entry_26 : decode cX6_entry 26 = .ok (.bipush (-2), 2) := by decide +kernel
theorem dX6_entry_28 : decode cX6_entry 28 = .ok (.ireturn, 1) := by decide +kernel
theorem dX6_entry_29 : decode cX6_entry 29 = .ok (.iload_n 2, 1) := by decide +kernel
theorem dX6_entry_30 : decode cX6_entry 30 = .ok (.iconst 4, 1) := by decide +kernel
theorem dX6_entry_31 : decode cX6_entry 31 = .ok (.if_icmp .ne 11, 3) := by decide +kernel
theorem dX6_entry_34 : decode cX6_entry 34 = .ok (.aload_n 0, 1) := by decide +kernel
theorem dX6_entry_35 : decode cX6_entry 35 = .ok (.iload_n 1, 1) := by decide +kernel
theorem dX6_entry_36 : decode cX6_entry 36 = .ok (.invokevirtual 270, 3) := by decide +kernel
theorem dX6_entry_39 : decode cX6_entry 39 = .ok (.goto 13, 3) := by decide +kernel
theorem dX6_entry_42 : decode cX6_entry 42 = .ok (.aload_n 0, 1) := by decide +kernel
theorem dX6_entry_43 : decode cX6_entry 43 = .ok (.getfield 43, 3) := by decide +kernel
theorem dX6_entry_46 : decode cX6_entry 46 = .ok (.iconst 4, 1) := by decide +kernel
theorem dX6_entry_47 : decode cX6_entry 47 = .ok (.iload_n 1, 1) := by decide +kernel
theorem dX6_entry_48 : decode cX6_entry 48 = .ok (.imul, 1) := by decide +kernel
theorem dX6_entry_49 : decode cX6_entry 49 = .ok (.iload_n 2, 1) := by decide +kernel
theorem dX6_entry_50 : decode cX6_entry 50 = .ok (.iadd, 1) := by decide +kernel
theorem dX6_entry_51 : decode cX6_entry 51 = .ok (.iaload, 1) := by decide +kernel
theorem dX6_entry_52 : decode cX6_entry 52 = .ok (.ireturn, 1) := by decide +kernel
theorem dX6_on_0 : decode cX6_on 0 = .ok (.aload_n 0, 1) := by decide +kernel
theorem dX6_on_1 : decode cX6_on 1 = .ok (.iconst 0, 1) := by decide +kernel
theorem dX6_on_2 : decode cX6_on 2 = .ok (.putfield 74, 3) := by decide +kernel
theorem dX6_on_5 : decode cX6_on 5 = .ok (.aload_n 0, 1) := by decide +kernel
theorem dX6_on_6 : decode cX6_on 6 = .ok (.iload_n 1, 1) := by decide +kernel
theorem dX6_on_7 : decode cX6_on 7 = .ok (.invokevirtual 326, 3) := by decide +kernel
theorem dX6_on_10 : decode cX6_on 10 = .ok (.ifCond .ne 6, 3) := by decide +kernel
theorem dX6_on_13 : decode cX6_on 13 = .ok (.bipush (-2), 2) := by decide +kernel
theorem dX6_on_15 : decode cX6_on 15 = .ok (.ireturn, 1) := by decide +kernel
theorem dX6_on_16 : decode cX6_on 16 = .ok (.iconst 0, 1) := by decide +kernel
theorem dX6_on_17 : decode cX6_on 17 = .ok (.istore_n 2, 1) := by decide +kernel
theorem dX6_on_18 : decode cX6_on 18 = .ok (.iconst 0, 1) := by decide +kernel
theorem dX6_on_19 : decode cX6_on 19 = .ok (.istore_n 3, 1) := by decide +kernel
theorem dX6_on_20 : decode cX6_on 20 = .ok (.iload_n 3, 1) := by decide +kernel
theorem dX6_on_21 : decode cX6_on 21 = .ok (.aload_n 0, 1) := by decide +kernel
theorem dX6_on_22 : decode cX6_on 22 = .ok (.invokevirtual 236, 3) := by decide +kernel
theorem dX6_on_25 : decode cX6_on 25 = .ok (.if_icmp .ge 31, 3) := by decide +kernel
theorem dX6_on_28 : decode cX6_on 28 = .ok (.iload_n 2, 1) := by decide +kernel
theorem dX6_on_29 : decode cX6_on 29 = .ok (.aload_n 0, 1) := by decide +kernel
theorem dX6_on_30 : decode cX6_on 30 = .ok (.getfield 43, 3) := by decide +kernel
theorem dX6_on_33 : decode cX6_on 33 = .ok (.iconst 4, 1) := by decide +kernel
theorem dX6_on_34 : decode cX6_on 34 = .ok (.iload_n 3, 1) := by decide +kernel
theorem dX6_on_35 : decode cX6_on 35 = .ok (.imul, 1) := by decide +kernel
theorem dX6_on_36 : decode cX6_on 36 = .ok (.iaload, 1) := by decide +kernel
theorem dX6_on_37 : decode cX6_on 37 = .ok (.iload_n 1, 1) := by decide +kernel
theorem dX6_on_38 : decode cX6_on 38 = .ok (.if_icmp .ne 9, 3) := by decide +kernel
theorem dX6_on_41 : decode cX6_on 41 = .ok (.iconst 1, 1) := by decide +kernel
theorem dX6_on_42 : decode cX6_on 42 = .ok (.iload_n 3, 1) := by decide +kernel
theorem dX6_on_43 : decode cX6_on 43 = .ok (.ishl, 1) := by decide +kernel
theorem dX6_on_44 : decode cX6_on 44 = .ok (.goto 4, 3) := by decide +kernel
theorem dX6_on_47 : decode cX6_on 47 = .ok (.iconst 0, 1) := by decide +kernel
theorem dX6_on_48 : decode cX6_on 48 = .ok (.ior, 1) := by decide +kernel
theorem dX6_on_49 : decode cX6_on 49 = .ok (.istore_n 2, 1) := by decide +kernel
theorem dX6_on_50 : decode cX6_on 50 = .ok (.iinc 3 1, 3) := by decide +kernel
theorem dX6_on_53 : decode cX6_on 53 = .ok (.goto (-33), 3) := by decide +kernel
theorem dX6_on_56 : decode cX6_on 56 = .ok (.iload_n 2, 1) := by decide +kernel
theorem dX6_on_57 : decode cX6_on 57 = .ok (.ireturn, 1) := by decide +kernel
theorem dX6_faces_0 : decode cX6_faces 0 = .ok (.aload_n 0, 1) := by decide +kernel
theorem dX6_faces_1 : decode cX6_faces 1 = .ok (.iconst 0, 1) := by decide +kernel
theorem dX6_faces_2 : decode cX6_faces 2 = .ok (.putfield 74, 3) := by decide +kernel
theorem dX6_faces_5 : decode cX6_faces 5 = .ok (.aload_n 0, 1) := by decide +kernel
theorem dX6_faces_6 : decode cX6_faces 6 = .ok (.iload_n 1, 1) := by decide +kernel
theorem dX6_faces_7 : decode cX6_faces 7 = .ok (.i2l, 1) := by decide +kernel
theorem dX6_faces_8 : decode cX6_faces 8 = .ok (.invokevirtual 246, 3) := by decide +kernel
theorem dX6_faces_11 : decode cX6_faces 11 = .ok (.ifCond .eq 11, 3) := by decide +kernel
theorem dX6_faces_14 : decode cX6_faces 14 = .ok (.aload_n 0, 1) := by decide +kernel
theorem dX6_faces_15 : decode cX6_faces 15 = .ok (.iload_n 1, 1) := by decide +kernel
theorem dX6_faces_16 : decode cX6_faces 16 = .ok (.invokevirtual 290, 3) := by decide +kernel
theorem dX6_faces_19 : decode cX6_faces 19 = .ok (.goto 5, 3) := by decide +kernel
theorem dX6_faces_22 : decode cX6_faces 22 = .ok (.bipush (-2), 2) := by decide +kernel
theorem dX6_faces_24 : decode cX6_faces 24 = .ok (.ireturn, 1) := by decide +kernel
theorem dX6_thereAt_0 : decode cX6_thereAt 0 = .ok (.iconst 0, 1) := by decide +kernel
theorem dX6_thereAt_1 : decode cX6_thereAt 1 = .ok (.istore_n 2, 1) := by decide +kernel
theorem dX6_thereAt_2 : decode cX6_thereAt 2 = .ok (.iconst 0, 1) := by decide +kernel
theorem dX6_thereAt_3 : decode cX6_thereAt 3 = .ok (.istore_n 3, 1) := by decide +kernel
theorem dX6_thereAt_4 : decode cX6_thereAt 4 = .ok (.iload_n 3, 1) := by decide +kernel
theorem dX6_thereAt_5 : decode cX6_thereAt 5 = .ok (.aload_n 0, 1) := by decide +kernel
theorem dX6_thereAt_6 : decode cX6_thereAt 6 = .ok (.invokevirtual 236, 3) := by decide +kernel
theorem dX6_thereAt_9 : decode cX6_thereAt 9 = .ok (.if_icmp .ge 28, 3) := by decide +kernel
theorem dX6_thereAt_12 : decode cX6_thereAt 12 = .ok (.iload_n 2, 1) := by decide +kernel
theorem dX6_thereAt_13 : decode cX6_thereAt 13 = .ok (.aload_n 0, 1) := by decide +kernel
theorem dX6_thereAt_14 : decode cX6_thereAt 14 = .ok (.iload_n 3, 1) := by decide +kernel
theorem dX6_thereAt_15 : decode cX6_thereAt 15 = .ok (.iload_n 1, 1) := by decide +kernel
theorem dX6_thereAt_16 : decode cX6_thereAt 16 = .ok (.invokevirtual 293, 3) := by decide +kernel
theorem dX6_thereAt_19 : decode cX6_thereAt 19 = .ok (.ifCond .eq 9, 3) := by decide +kernel
theorem dX6_thereAt_22 : decode cX6_thereAt 22 = .ok (.iconst 1, 1) := by decide +kernel
theorem dX6_thereAt_23 : decode cX6_thereAt 23 = .ok (.iload_n 3, 1) := by decide +kernel
theorem dX6_thereAt_24 : decode cX6_thereAt 24 = .ok (.ishl, 1) := by decide +kernel
theorem dX6_thereAt_25 : decode cX6_thereAt 25 = .ok (.goto 4, 3) := by decide +kernel
theorem dX6_thereAt_28 : decode cX6_thereAt 28 = .ok (.iconst 0, 1) := by decide +kernel
theorem dX6_thereAt_29 : decode cX6_thereAt 29 = .ok (.ior, 1) := by decide +kernel
theorem dX6_thereAt_30 : decode cX6_thereAt 30 = .ok (.istore_n 2, 1) := by decide +kernel
theorem dX6_thereAt_31 : decode cX6_thereAt 31 = .ok (.iinc 3 1, 3) := by decide +kernel
theorem dX6_thereAt_34 : decode cX6_thereAt 34 = .ok (.goto (-30), 3) := by decide +kernel
theorem dX6_thereAt_37 : decode cX6_thereAt 37 = .ok (.iload_n 2, 1) := by decide +kernel
theorem dX6_thereAt_38 : decode cX6_thereAt 38 = .ok (.ireturn, 1) := by decide +kernel
theorem dX6_there_0 : decode cX6_there 0 = .ok (.aload_n 0, 1) := by decide +kernel
theorem dX6_there_1 : decode cX6_there 1 = .ok (.iconst 0, 1) := by decide +kernel
theorem dX6_there_2 : decode cX6_there 2 = .ok (.putfield 74, 3) := by decide +kernel
theorem dX6_there_5 : decode cX6_there 5 = .ok (.aload_n 0, 1) := by decide +kernel
theorem dX6_there_6 : decode cX6_there 6 = .ok (.iload_n 1, 1) := by decide +kernel
theorem dX6_there_7 : decode cX6_there 7 = .ok (.i2l, 1) := by decide +kernel
theorem dX6_there_8 : decode cX6_there 8 = .ok (.invokevirtual 249, 3) := by decide +kernel
theorem dX6_there_11 : decode cX6_there 11 = .ok (.ifCond .ne 6, 3) := by decide +kernel
theorem dX6_there_14 : decode cX6_there 14 = .ok (.bipush (-2), 2) := by decide +kernel
theorem dX6_there_16 : decode cX6_there 16 = .ok (.ireturn, 1) := by decide +kernel
theorem dX6_there_17 : decode cX6_there 17 = .ok (.aload_n 0, 1) := by decide +kernel
theorem dX6_there_18 : decode cX6_there 18 = .ok (.invokevirtual 315, 3) := by decide +kernel
theorem dX6_there_21 : decode cX6_there 21 = .ok (.aload_n 0, 1) := by decide +kernel
theorem dX6_there_22 : decode cX6_there 22 = .ok (.iload_n 1, 1) := by decide +kernel
theorem dX6_there_23 : decode cX6_there 23 = .ok (.invokevirtual 331, 3) := by decide +kernel
theorem dX6_there_26 : decode cX6_there 26 = .ok (.ireturn, 1) := by decide +kernel
theorem dX6_shade_0 : decode cX6_shade 0 = .ok (.aload_n 0, 1) := by decide +kernel
theorem dX6_shade_1 : decode cX6_shade 1 = .ok (.iconst 0, 1) := by decide +kernel
theorem dX6_shade_2 : decode cX6_shade 2 = .ok (.putfield 74, 3) := by decide +kernel
theorem dX6_shade_5 : decode cX6_shade 5 = .ok (.aload_n 0, 1) := by decide +kernel
theorem dX6_shade_6 : decode cX6_shade 6 = .ok (.iload_n 1, 1) := by decide +kernel
theorem dX6_shade_7 : decode cX6_shade 7 = .ok (.iload_n 2, 1) := by decide +kernel
theorem dX6_shade_8 : decode cX6_shade 8 = .ok (.invokevirtual 334, 3) := by decide +kernel
theorem dX6_shade_11 : decode cX6_shade 11 = .ok (.ifCond .ne 6, 3) := by decide +kernel
theorem dX6_shade_14 : decode cX6_shade 14 = .ok (.bipush (-2), 2) := by decide +kernel
theorem dX6_shade_16 : decode cX6_shade 16 = .ok (.ireturn, 1) := by decide +kernel
theorem dX6_shade_17 : decode cX6_shade 17 = .ok (.aload_n 0, 1) := by decide +kernel
theorem dX6_shade_18 : decode cX6_shade 18 = .ok (.invokevirtual 337, 3) := by decide +kernel
theorem dX6_shade_21 : decode cX6_shade 21 = .ok (.aload_n 0, 1) := by decide +kernel
theorem dX6_shade_22 : decode cX6_shade 22 = .ok (.iload_n 1, 1) := by decide +kernel
theorem dX6_shade_23 : decode cX6_shade 23 = .ok (.iload_n 2, 1) := by decide +kernel
theorem dX6_shade_24 : decode cX6_shade 24 = .ok (.invokevirtual 283, 3) := by decide +kernel
theorem dX6_shade_27 : decode cX6_shade 27 = .ok (.ireturn, 1) := by decide +kernel
theorem dX6_ripeOf_0 : decode cX6_ripeOf 0 = .ok (.iconst 0, 1) := by decide +kernel
theorem dX6_ripeOf_1 : decode cX6_ripeOf 1 = .ok (.istore_n 2, 1) := by decide +kernel
theorem dX6_ripeOf_2 : decode cX6_ripeOf 2 = .ok (.iconst 1, 1) := by decide +kernel
theorem dX6_ripeOf_3 : decode cX6_ripeOf 3 = .ok (.istore_n 3, 1) := by decide +kernel
theorem dX6_ripeOf_4 : decode cX6_ripeOf 4 = .ok (.iload_n 3, 1) := by decide +kernel
theorem dX6_ripeOf_5 : decode cX6_ripeOf 5 = .ok (.aload_n 0, 1) := by decide +kernel
theorem dX6_ripeOf_6 : decode cX6_ripeOf 6 = .ok (.invokevirtual 243, 3) := by decide +kernel
theorem dX6_ripeOf_9 : decode cX6_ripeOf 9 = .ok (.if_icmp .gt 26, 3) := by decide +kernel
theorem dX6_ripeOf_12 : decode cX6_ripeOf 12 = .ok (.aload_n 0, 1) := by decide +kernel
theorem dX6_ripeOf_13 : decode cX6_ripeOf 13 = .ok (.iload_n 1, 1) := by decide +kernel
theorem dX6_ripeOf_14 : decode cX6_ripeOf 14 = .ok (.iload_n 3, 1) := by decide +kernel
theorem dX6_ripeOf_15 : decode cX6_ripeOf 15 = .ok (.invokevirtual 283, 3) := by decide +kernel
theorem dX6_ripeOf_18 : decode cX6_ripeOf 18 = .ok (.aload_n 0, 1) := by decide +kernel
theorem dX6_ripeOf_19 : decode cX6_ripeOf 19 = .ok (.iload_n 1, 1) := by decide +kernel
theorem dX6_ripeOf_20 : decode cX6_ripeOf 20 = .ok (.iload_n 2, 1) := by decide +kernel
theorem dX6_ripeOf_21 : decode cX6_ripeOf 21 = .ok (.invokevirtual 283, 3) := by decide +kernel
theorem dX6_ripeOf_24 : decode cX6_ripeOf 24 = .ok (.if_icmp .le 5, 3) := by decide +kernel
theorem dX6_ripeOf_27 : decode cX6_ripeOf 27 = .ok (.iload_n 3, 1) := by decide +kernel
theorem dX6_ripeOf_28 : decode cX6_ripeOf 28 = .ok (.istore_n 2, 1) := by decide +kernel
theorem dX6_ripeOf_29 : decode cX6_ripeOf 29 = .ok (.iinc 3 1, 3) := by decide +kernel
theorem dX6_ripeOf_32 : decode cX6_ripeOf 32 = .ok (.goto (-28), 3) := by decide +kernel
theorem dX6_ripeOf_35 : decode cX6_ripeOf 35 = .ok (.iload_n 2, 1) := by decide +kernel
theorem dX6_ripeOf_36 : decode cX6_ripeOf 36 = .ok (.ireturn, 1) := by decide +kernel
theorem dX6_peak_0 : decode cX6_peak 0 = .ok (.aload_n 0, 1) := by decide +kernel
theorem dX6_peak_1 : decode cX6_peak 1 = .ok (.iconst 0, 1) := by decide +kernel
theorem dX6_peak_2 : decode cX6_peak 2 = .ok (.putfield 74, 3) := by decide +kernel
theorem dX6_peak_5 : decode cX6_peak 5 = .ok (.aload_n 0, 1) := by decide +kernel
theorem dX6_peak_6 : decode cX6_peak 6 = .ok (.iload_n 1, 1) := by decide +kernel
theorem dX6_peak_7 : decode cX6_peak 7 = .ok (.i2l, 1) := by decide +kernel
theorem dX6_peak_8 : decode cX6_peak 8 = .ok (.invokevirtual 246, 3) := by decide +kernel
theorem dX6_peak_11 : decode cX6_peak 11 = .ok (.ifCond .ne 6, 3) := by decide +kernel
theorem dX6_peak_14 : decode cX6_peak 14 = .ok (.bipush (-2), 2) := by decide +kernel
theorem dX6_peak_16 : decode cX6_peak 16 = .ok (.ireturn, 1) := by decide +kernel
theorem dX6_peak_17 : decode cX6_peak 17 = .ok (.aload_n 0, 1) := by decide +kernel
theorem dX6_peak_18 : decode cX6_peak 18 = .ok (.invokevirtual 337, 3) := by decide +kernel
theorem dX6_peak_21 : decode cX6_peak 21 = .ok (.aload_n 0, 1) := by decide +kernel
theorem dX6_peak_22 : decode cX6_peak 22 = .ok (.iload_n 1, 1) := by decide +kernel
theorem dX6_peak_23 : decode cX6_peak 23 = .ok (.aload_n 0, 1) := by decide +kernel
theorem dX6_peak_24 : decode cX6_peak 24 = .ok (.iload_n 1, 1) := by decide +kernel
theorem dX6_peak_25 : decode cX6_peak 25 = .ok (.invokevirtual 340, 3) := by decide +kernel
theorem dX6_peak_28 : decode cX6_peak 28 = .ok (.invokevirtual 283, 3) := by decide +kernel
theorem dX6_peak_31 : decode cX6_peak 31 = .ok (.ireturn, 1) := by decide +kernel
theorem dX6_ripe_0 : decode cX6_ripe 0 = .ok (.aload_n 0, 1) := by decide +kernel
theorem dX6_ripe_1 : decode cX6_ripe 1 = .ok (.iconst 0, 1) := by decide +kernel
theorem dX6_ripe_2 : decode cX6_ripe 2 = .ok (.putfield 74, 3) := by decide +kernel
theorem dX6_ripe_5 : decode cX6_ripe 5 = .ok (.aload_n 0, 1) := by decide +kernel
theorem dX6_ripe_6 : decode cX6_ripe 6 = .ok (.iload_n 1, 1) := by decide +kernel
theorem dX6_ripe_7 : decode cX6_ripe 7 = .ok (.i2l, 1) := by decide +kernel
theorem dX6_ripe_8 : decode cX6_ripe 8 = .ok (.invokevirtual 246, 3) := by decide +kernel
theorem dX6_ripe_11 : decode cX6_ripe 11 = .ok (.ifCond .ne 6, 3) := by decide +kernel
theorem dX6_ripe_14 : decode cX6_ripe 14 = .ok (.bipush (-2), 2) := by decide +kernel
theorem dX6_ripe_16 : decode cX6_ripe 16 = .ok (.ireturn, 1) := by decide +kernel
theorem dX6_ripe_17 : decode cX6_ripe 17 = .ok (.aload_n 0, 1) := by decide +kernel
theorem dX6_ripe_18 : decode cX6_ripe 18 = .ok (.invokevirtual 337, 3) := by decide +kernel
theorem dX6_ripe_21 : decode cX6_ripe 21 = .ok (.aload_n 0, 1) := by decide +kernel
theorem dX6_ripe_22 : decode cX6_ripe 22 = .ok (.iload_n 1, 1) := by decide +kernel
theorem dX6_ripe_23 : decode cX6_ripe 23 = .ok (.invokevirtual 340, 3) := by decide +kernel
theorem dX6_ripe_26 : decode cX6_ripe 26 = .ok (.ireturn, 1) := by decide +kernel
theorem dX6_blank_0 : decode cX6_blank 0 = .ok (.aload_n 0, 1) := by decide +kernel
theorem dX6_blank_1 : decode cX6_blank 1 = .ok (.iconst 0, 1) := by decide +kernel
theorem dX6_blank_2 : decode cX6_blank 2 = .ok (.putfield 74, 3) := by decide +kernel
theorem dX6_blank_5 : decode cX6_blank 5 = .ok (.aload_n 0, 1) := by decide +kernel
theorem dX6_blank_6 : decode cX6_blank 6 = .ok (.iload_n 1, 1) := by decide +kernel
theorem dX6_blank_7 : decode cX6_blank 7 = .ok (.i2l, 1) := by decide +kernel
theorem dX6_blank_8 : decode cX6_blank 8 = .ok (.invokevirtual 246, 3) := by decide +kernel
theorem dX6_blank_11 : decode cX6_blank 11 = .ok (.ifCond .ne 6, 3) := by decide +kernel
theorem dX6_blank_14 : decode cX6_blank 14 = .ok (.bipush (-2), 2) := by decide +kernel
theorem dX6_blank_16 : decode cX6_blank 16 = .ok (.ireturn, 1) := by decide +kernel
theorem dX6_blank_17 : decode cX6_blank 17 = .ok (.aload_n 0, 1) := by decide +kernel
theorem dX6_blank_18 : decode cX6_blank 18 = .ok (.invokevirtual 337, 3) := by decide +kernel
theorem dX6_blank_21 : decode cX6_blank 21 = .ok (.iconst 0, 1) := by decide +kernel
theorem dX6_blank_22 : decode cX6_blank 22 = .ok (.istore_n 2, 1) := by decide +kernel
theorem dX6_blank_23 : decode cX6_blank 23 = .ok (.iload_n 2, 1) := by decide +kernel
theorem dX6_blank_24 : decode cX6_blank 24 = .ok (.aload_n 0, 1) := by decide +kernel
theorem dX6_blank_25 : decode cX6_blank 25 = .ok (.invokevirtual 243, 3) := by decide +kernel
theorem dX6_blank_28 : decode cX6_blank 28 = .ok (.if_icmp .gt 29, 3) := by decide +kernel
theorem dX6_blank_31 : decode cX6_blank 31 = .ok (.aload_n 0, 1) := by decide +kernel
theorem dX6_blank_32 : decode cX6_blank 32 = .ok (.iload_n 1, 1) := by decide +kernel
theorem dX6_blank_33 : decode cX6_blank 33 = .ok (.iload_n 2, 1) := by decide +kernel
theorem dX6_blank_34 : decode cX6_blank 34 = .ok (.invokevirtual 293, 3) := by decide +kernel
theorem dX6_blank_37 : decode cX6_blank 37 = .ok (.ifCond .eq 14, 3) := by decide +kernel
theorem dX6_blank_40 : decode cX6_blank 40 = .ok (.aload_n 0, 1) := by decide +kernel
theorem dX6_blank_41 : decode cX6_blank 41 = .ok (.iload_n 1, 1) := by decide +kernel
theorem dX6_blank_42 : decode cX6_blank 42 = .ok (.iload_n 2, 1) := by decide +kernel
theorem dX6_blank_43 : decode cX6_blank 43 = .ok (.invokevirtual 283, 3) := by decide +kernel
theorem dX6_blank_46 : decode cX6_blank 46 = .ok (.ifCond .ne 5, 3) := by decide +kernel
theorem dX6_blank_49 : decode cX6_blank 49 = .ok (.iload_n 2, 1) := by decide +kernel
theorem dX6_blank_50 : decode cX6_blank 50 = .ok (.ireturn, 1) := by decide +kernel
theorem dX6_blank_51 : decode cX6_blank 51 = .ok (.iinc 2 1, 3) := by decide +kernel
theorem dX6_blank_54 : decode cX6_blank 54 = .ok (.goto (-31), 3) := by decide +kernel
theorem dX6_blank_57 : decode cX6_blank 57 = .ok (.iconst (-1), 1) := by decide +kernel
theorem dX6_blank_58 : decode cX6_blank 58 = .ok (.ireturn, 1) := by decide +kernel
theorem dX6_clear_0 : decode cX6_clear 0 = .ok (.aload_n 0, 1) := by decide +kernel
theorem dX6_clear_1 : decode cX6_clear 1 = .ok (.iconst 0, 1) := by decide +kernel
theorem dX6_clear_2 : decode cX6_clear 2 = .ok (.putfield 74, 3) := by decide +kernel
theorem dX6_clear_5 : decode cX6_clear 5 = .ok (.aload_n 0, 1) := by decide +kernel
theorem dX6_clear_6 : decode cX6_clear 6 = .ok (.iload_n 1, 1) := by decide +kernel
theorem dX6_clear_7 : decode cX6_clear 7 = .ok (.i2l, 1) := by decide +kernel
theorem dX6_clear_8 : decode cX6_clear 8 = .ok (.invokevirtual 249, 3) := by decide +kernel
theorem dX6_clear_11 : decode cX6_clear 11 = .ok (.ifCond .ne 6, 3) := by decide +kernel
theorem dX6_clear_14 : decode cX6_clear 14 = .ok (.bipush (-2), 2) := by decide +kernel
theorem dX6_clear_16 : decode cX6_clear 16 = .ok (.ireturn, 1) := by decide +kernel
theorem dX6_clear_17 : decode cX6_clear 17 = .ok (.aload_n 0, 1) := by decide +kernel
theorem dX6_clear_18 : decode cX6_clear 18 = .ok (.invokevirtual 337, 3) := by decide +kernel
theorem dX6_clear_21 : decode cX6_clear 21 = .ok (.aload_n 0, 1) := by decide +kernel
theorem dX6_clear_22 : decode cX6_clear 22 = .ok (.iload_n 1, 1) := by decide +kernel
theorem dX6_clear_23 : decode cX6_clear 23 = .ok (.invokevirtual 343, 3) := by decide +kernel
theorem dX6_clear_26 : decode cX6_clear 26 = .ok (.ireturn, 1) := by decide +kernel
theorem dX6_all_0 : decode cX6_all 0 = .ok (.aload_n 0, 1) := by decide +kernel
theorem dX6_all_1 : decode cX6_all 1 = .ok (.iconst 0, 1) := by decide +kernel
theorem dX6_all_2 : decode cX6_all 2 = .ok (.putfield 74, 3) := by decide +kernel
theorem dX6_all_5 : decode cX6_all 5 = .ok (.aload_n 0, 1) := by decide +kernel
theorem dX6_all_6 : decode cX6_all 6 = .ok (.iload_n 1, 1) := by decide +kernel
theorem dX6_all_7 : decode cX6_all 7 = .ok (.i2l, 1) := by decide +kernel
theorem dX6_all_8 : decode cX6_all 8 = .ok (.invokevirtual 249, 3) := by decide +kernel
theorem dX6_all_11 : decode cX6_all 11 = .ok (.ifCond .ne 6, 3) := by decide +kernel
theorem dX6_all_14 : decode cX6_all 14 = .ok (.bipush (-2), 2) := by decide +kernel
theorem dX6_all_16 : decode cX6_all 16 = .ok (.ireturn, 1) := by decide +kernel
theorem dX6_all_17 : decode cX6_all 17 = .ok (.aload_n 0, 1) := by decide +kernel
theorem dX6_all_18 : decode cX6_all 18 = .ok (.invokevirtual 337, 3) := by decide +kernel
theorem dX6_all_21 : decode cX6_all 21 = .ok (.aload_n 0, 1) := by decide +kernel
theorem dX6_all_22 : decode cX6_all 22 = .ok (.iload_n 1, 1) := by decide +kernel
theorem dX6_all_23 : decode cX6_all 23 = .ok (.invokevirtual 346, 3) := by decide +kernel
theorem dX6_all_26 : decode cX6_all 26 = .ok (.ireturn, 1) := by decide +kernel
theorem dX6_oneBy_0 : decode cX6_oneBy 0 = .ok (.iconst (-1), 1) := by decide +kernel
theorem dX6_oneBy_1 : decode cX6_oneBy 1 = .ok (.istore_n 3, 1) := by decide +kernel
theorem dX6_oneBy_2 : decode cX6_oneBy 2 = .ok (.iconst 0, 1) := by decide +kernel
theorem dX6_oneBy_3 : decode cX6_oneBy 3 = .ok (.istore 4, 2) := by decide +kernel
theorem dX6_oneBy_5 : decode cX6_oneBy 5 = .ok (.iload 4, 2) := by decide +kernel
theorem dX6_oneBy_7 : decode cX6_oneBy 7 = .ok (.aload_n 0, 1) := by decide +kernel
theorem dX6_oneBy_8 : decode cX6_oneBy 8 = .ok (.invokevirtual 236, 3) := by decide +kernel
theorem dX6_oneBy_11 : decode cX6_oneBy 11 = .ok (.if_icmp .ge 47, 3) := by decide +kernel
theorem dX6_oneBy_14 : decode cX6_oneBy 14 = .ok (.aload_n 0, 1) := by decide +kernel
theorem dX6_oneBy_15 : decode cX6_oneBy 15 = .ok (.iload 4, 2) := by decide +kernel
theorem dX6_oneBy_17 : decode cX6_oneBy 17 = .ok (.iload_n 1, 1) := by decide +kernel
theorem dX6_oneBy_18 : decode cX6_oneBy 18 = .ok (.invokevirtual 293, 3) := by decide +kernel
theorem dX6_oneBy_21 : decode cX6_oneBy 21 = .ok (.ifCond .eq 31, 3) := by decide +kernel
theorem dX6_oneBy_24 : decode cX6_oneBy 24 = .ok (.iload_n 3, 1) := by decide +kernel
theorem dX6_oneBy_25 : decode cX6_oneBy 25 = .ok (.iconst (-1), 1) := by decide +kernel
theorem dX6_oneBy_26 : decode cX6_oneBy 26 = .ok (.if_icmp .eq 23, 3) := by decide +kernel
theorem dX6_oneBy_29 : decode cX6_oneBy 29 = .ok (.iload_n 2, 1) := by decide +kernel
theorem dX6_oneBy_30 : decode cX6_oneBy 30 = .ok (.aload_n 0, 1) := by decide +kernel
theorem dX6_oneBy_31 : decode cX6_oneBy 31 = .ok (.iload 4, 2) := by decide +kernel
theorem dX6_oneBy_33 : decode cX6_oneBy 33 = .ok (.iload_n 1, 1) := by decide +kernel
theorem dX6_oneBy_34 : decode cX6_oneBy 34 = .ok (.invokevirtual 283, 3) := by decide +kernel
theorem dX6_oneBy_37 : decode cX6_oneBy 37 = .ok (.imul, 1) := by decide +kernel
theorem dX6_oneBy_38 : decode cX6_oneBy 38 = .ok (.iload_n 2, 1) := by decide +kernel
theorem dX6_oneBy_39 : decode cX6_oneBy 39 = .ok (.aload_n 0, 1) := by decide +kernel
theorem dX6_oneBy_40 : decode cX6_oneBy 40 = .ok (.iload_n 3, 1) := by decide +kernel
theorem dX6_oneBy_41 : decode cX6_oneBy 41 = .ok (.iload_n 1, 1) := by decide +kernel
theorem dX6_oneBy_42 : decode cX6_oneBy 42 = .ok (.invokevirtual 283, 3) := by decide +kernel
theorem dX6_oneBy_45 : decode cX6_oneBy 45 = .ok (.imul, 1) := by decide +kernel
theorem dX6_oneBy_46 : decode cX6_oneBy 46 = .ok (.if_icmp .le 6, 3) := by decide +kernel
theorem dX6_oneBy_49 : decode cX6_oneBy 49 = .ok (.iload 4, 2) := by decide +kernel
theorem dX6_oneBy_51 : decode cX6_oneBy 51 = .ok (.istore_n 3, 1) := by decide +kernel
theorem dX6_oneBy_52 : decode cX6_oneBy 52 = .ok (.iinc 4 1, 3) := by decide +kernel
theorem dX6_oneBy_55 : decode cX6_oneBy 55 = .ok (.goto (-50), 3) := by decide +kernel
theorem dX6_oneBy_58 : decode cX6_oneBy 58 = .ok (.iload_n 3, 1) := by decide +kernel
theorem dX6_oneBy_59 : decode cX6_oneBy 59 = .ok (.ireturn, 1) := by decide +kernel
theorem dX6_darkest_0 : decode cX6_darkest 0 = .ok (.aload_n 0, 1) := by decide +kernel
theorem dX6_darkest_1 : decode cX6_darkest 1 = .ok (.iconst 0, 1) := by decide +kernel
theorem dX6_darkest_2 : decode cX6_darkest 2 = .ok (.putfield 74, 3) := by decide +kernel
theorem dX6_darkest_5 : decode cX6_darkest 5 = .ok (.aload_n 0, 1) := by decide +kernel
theorem dX6_darkest_6 : decode cX6_darkest 6 = .ok (.iload_n 1, 1) := by decide +kernel
theorem dX6_darkest_7 : decode cX6_darkest 7 = .ok (.i2l, 1) := by decide +kernel
theorem dX6_darkest_8 : decode cX6_darkest 8 = .ok (.invokevirtual 249, 3) := by decide +kernel
theorem dX6_darkest_11 : decode cX6_darkest 11 = .ok (.ifCond .ne 6, 3) := by decide +kernel
theorem dX6_darkest_14 : decode cX6_darkest 14 = .ok (.bipush (-2), 2) := by decide +kernel
theorem dX6_darkest_16 : decode cX6_darkest 16 = .ok (.ireturn, 1) := by decide +kernel
theorem dX6_darkest_17 : decode cX6_darkest 17 = .ok (.aload_n 0, 1) := by decide +kernel
theorem dX6_darkest_18 : decode cX6_darkest 18 = .ok (.invokevirtual 337, 3) := by decide +kernel
theorem dX6_darkest_21 : decode cX6_darkest 21 = .ok (.aload_n 0, 1) := by decide +kernel
theorem dX6_darkest_22 : decode cX6_darkest 22 = .ok (.iload_n 1, 1) := by decide +kernel
theorem dX6_darkest_23 : decode cX6_darkest 23 = .ok (.iconst 1, 1) := by decide +kernel
theorem dX6_darkest_24 : decode cX6_darkest 24 = .ok (.invokevirtual 349, 3) := by decide +kernel
theorem dX6_darkest_27 : decode cX6_darkest 27 = .ok (.ireturn, 1) := by decide +kernel
theorem dX6_palest_0 : decode cX6_palest 0 = .ok (.aload_n 0, 1) := by decide +kernel
theorem dX6_palest_1 : decode cX6_palest 1 = .ok (.iconst 0, 1) := by decide +kernel
theorem dX6_palest_2 : decode cX6_palest 2 = .ok (.putfield 74, 3) := by decide +kernel
theorem dX6_palest_5 : decode cX6_palest 5 = .ok (.aload_n 0, 1) := by decide +kernel
theorem dX6_palest_6 : decode cX6_palest 6 = .ok (.iload_n 1, 1) := by decide +kernel
theorem dX6_palest_7 : decode cX6_palest 7 = .ok (.i2l, 1) := by decide +kernel
theorem dX6_palest_8 : decode cX6_palest 8 = .ok (.invokevirtual 249, 3) := by decide +kernel
theorem dX6_palest_11 : decode cX6_palest 11 = .ok (.ifCond .ne 6, 3) := by decide +kernel
theorem dX6_palest_14 : decode cX6_palest 14 = .ok (.bipush (-2), 2) := by decide +kernel
theorem dX6_palest_16 : decode cX6_palest 16 = .ok (.ireturn, 1) := by decide +kernel
theorem dX6_palest_17 : decode cX6_palest 17 = .ok (.aload_n 0, 1) := by decide +kernel
theorem dX6_palest_18 : decode cX6_palest 18 = .ok (.invokevirtual 337, 3) := by decide +kernel
theorem dX6_palest_21 : decode cX6_palest 21 = .ok (.aload_n 0, 1) := by decide +kernel
theorem dX6_palest_22 : decode cX6_palest 22 = .ok (.iload_n 1, 1) := by decide +kernel
theorem dX6_palest_23 : decode cX6_palest 23 = .ok (.iconst (-1), 1) := by decide +kernel
theorem dX6_palest_24 : decode cX6_palest 24 = .ok (.invokevirtual 349, 3) := by decide +kernel
theorem dX6_palest_27 : decode cX6_palest 27 = .ok (.ireturn, 1) := by decide +kernel
theorem dX6_sortsOf_0 : decode cX6_sortsOf 0 = .ok (.iconst 0, 1) := by decide +kernel
theorem dX6_sortsOf_1 : decode cX6_sortsOf 1 = .ok (.istore_n 3, 1) := by decide +kernel
theorem dX6_sortsOf_2 : decode cX6_sortsOf 2 = .ok (.iconst 0, 1) := by decide +kernel
theorem dX6_sortsOf_3 : decode cX6_sortsOf 3 = .ok (.istore 4, 2) := by decide +kernel
theorem dX6_sortsOf_5 : decode cX6_sortsOf 5 = .ok (.iload 4, 2) := by decide +kernel
theorem dX6_sortsOf_7 : decode cX6_sortsOf 7 = .ok (.aload_n 0, 1) := by decide +kernel
theorem dX6_sortsOf_8 : decode cX6_sortsOf 8 = .ok (.invokevirtual 236, 3) := by decide +kernel
theorem dX6_sortsOf_11 : decode cX6_sortsOf 11 = .ok (.if_icmp .ge 110, 3) := by decide +kernel
theorem dX6_sortsOf_14 : decode cX6_sortsOf 14 = .ok (.iload_n 1, 1) := by decide +kernel
theorem dX6_sortsOf_15 : decode cX6_sortsOf 15 = .ok (.iload 4, 2) := by decide +kernel
theorem dX6_sortsOf_17 : decode cX6_sortsOf 17 = .ok (.invokestatic 273, 3) := by decide +kernel
theorem dX6_sortsOf_20 : decode cX6_sortsOf 20 = .ok (.ifCond .eq 17, 3) := by decide +kernel
theorem dX6_sortsOf_23 : decode cX6_sortsOf 23 = .ok (.aload_n 0, 1) := by decide +kernel
theorem dX6_sortsOf_24 : decode cX6_sortsOf 24 = .ok (.iload 4, 2) := by decide +kernel
theorem dX6_sortsOf_26 : decode cX6_sortsOf 26 = .ok (.iload_n 2, 1) := by decide +kernel
theorem dX6_sortsOf_27 : decode cX6_sortsOf 27 = .ok (.invokevirtual 293, 3) := by decide +kernel
theorem dX6_sortsOf_30 : decode cX6_sortsOf 30 = .ok (.ifCond .eq 7, 3) := by decide +kernel
theorem dX6_sortsOf_33 : decode cX6_sortsOf 33 = .ok (.iconst 1, 1) := by decide +kernel
theorem dX6_sortsOf_34 : decode cX6_sortsOf 34 = .ok (.goto 4, 3) := by decide +kernel
theorem dX6_sortsOf_37 : decode cX6_sortsOf 37 = .ok (.iconst 0, 1) := by decide +kernel
theorem dX6_sortsOf_38 : decode cX6_sortsOf 38 = .ok (.istore 5, 2) := by decide +kernel
theorem dX6_sortsOf_40 : decode cX6_sortsOf 40 = .ok (.iconst 0, 1) := by decide +kernel
theorem dX6_sortsOf_41 : decode cX6_sortsOf 41 = .ok (.istore 6, 2) := by decide +kernel
theorem dX6_sortsOf_43 : decode cX6_sortsOf 43 = .ok (.iload 6, 2) := by decide +kernel
theorem dX6_sortsOf_45 : decode cX6_sortsOf 45 = .ok (.iload 4, 2) := by decide +kernel
theorem dX6_sortsOf_47 : decode cX6_sortsOf 47 = .ok (.if_icmp .ge 55, 3) := by decide +kernel
theorem dX6_sortsOf_50 : decode cX6_sortsOf 50 = .ok (.iload 5, 2) := by decide +kernel
theorem dX6_sortsOf_52 : decode cX6_sortsOf 52 = .ok (.iload_n 1, 1) := by decide +kernel
theorem dX6_sortsOf_53 : decode cX6_sortsOf 53 = .ok (.iload 6, 2) := by decide +kernel
theorem dX6_sortsOf_55 : decode cX6_sortsOf 55 = .ok (.invokestatic 273, 3) := by decide +kernel
theorem dX6_sortsOf_58 : decode cX6_sortsOf 58 = .ok (.ifCond .eq 30, 3) := by decide +kernel
theorem dX6_sortsOf_61 : decode cX6_sortsOf 61 = .ok (.aload_n 0, 1) := by decide +kernel
theorem dX6_sortsOf_62 : decode cX6_sortsOf 62 = .ok (.iload 6, 2) := by decide +kernel
theorem dX6_sortsOf_64 : decode cX6_sortsOf 64 = .ok (.iload_n 2, 1) := by decide +kernel
theorem dX6_sortsOf_65 : decode cX6_sortsOf 65 = .ok (.invokevirtual 293, 3) := by decide +kernel
theorem dX6_sortsOf_68 : decode cX6_sortsOf 68 = .ok (.ifCond .eq 20, 3) := by decide +kernel
theorem dX6_sortsOf_71 : decode cX6_sortsOf 71 = .ok (.aload_n 0, 1) := by decide +kernel
theorem dX6_sortsOf_72 : decode cX6_sortsOf 72 = .ok (.iload 6, 2) := by decide +kernel
theorem dX6_sortsOf_74 : decode cX6_sortsOf 74 = .ok (.iload_n 2, 1) := by decide +kernel
theorem dX6_sortsOf_75 : decode cX6_sortsOf 75 = .ok (.invokevirtual 283, 3) := by decide +kernel
theorem dX6_sortsOf_78 : decode cX6_sortsOf 78 = .ok (.aload_n 0, 1) := by decide +kernel
theorem dX6_sortsOf_79 : decode cX6_sortsOf 79 = .ok (.iload 4, 2) := by decide +kernel
theorem dX6_sortsOf_81 : decode cX6_sortsOf 81 = .ok (.iload_n 2, 1) := by decide +kernel
theorem dX6_sortsOf_82 : decode cX6_sortsOf 82 = .ok (.invokevirtual 283, 3) := by decide +kernel
theorem dX6_sortsOf_85 : decode cX6_sortsOf 85 = .ok (.if_icmp .eq 7, 3) := by decide +kernel
theorem dX6_sortsOf_88 : decode cX6_sortsOf 88 = .ok (.iconst 1, 1) := by decide +kernel
theorem dX6_sortsOf_89 : decode cX6_sortsOf 89 = .ok (.goto 4, 3) := by decide +kernel
theorem dX6_sortsOf_92 : decode cX6_sortsOf 92 = .ok (.iconst 0, 1) := by decide +kernel
theorem dX6_sortsOf_93 : decode cX6_sortsOf 93 = .ok (.iand, 1) := by decide +kernel
theorem dX6_sortsOf_94 : decode cX6_sortsOf 94 = .ok (.istore 5, 2) := by decide +kernel
theorem dX6_sortsOf_96 : decode cX6_sortsOf 96 = .ok (.iinc 6 1, 3) := by decide +kernel
theorem dX6_sortsOf_99 : decode cX6_sortsOf 99 = .ok (.goto (-56), 3) := by decide +kernel
theorem dX6_sortsOf_102 : decode cX6_sortsOf 102 = .ok (.iload_n 3, 1) := by decide +kernel
theorem dX6_sortsOf_103 : decode cX6_sortsOf 103 = .ok (.iload 5, 2) := by decide +kernel
theorem dX6_sortsOf_105 : decode cX6_sortsOf 105 = .ok (.ifCond .eq 7, 3) := by decide +kernel
theorem dX6_sortsOf_108 : decode cX6_sortsOf 108 = .ok (.iconst 1, 1) := by decide +kernel
theorem dX6_sortsOf_109 : decode cX6_sortsOf 109 = .ok (.goto 4, 3) := by decide +kernel
theorem dX6_sortsOf_112 : decode cX6_sortsOf 112 = .ok (.iconst 0, 1) := by decide +kernel
theorem dX6_sortsOf_113 : decode cX6_sortsOf 113 = .ok (.iadd, 1) := by decide +kernel
theorem dX6_sortsOf_114 : decode cX6_sortsOf 114 = .ok (.istore_n 3, 1) := by decide +kernel
theorem dX6_sortsOf_115 : decode cX6_sortsOf 115 = .ok (.iinc 4 1, 3) := by decide +kernel
theorem dX6_sortsOf_118 : decode cX6_sortsOf 118 = .ok (.goto (-113), 3) := by decide +kernel
theorem dX6_sortsOf_121 : decode cX6_sortsOf 121 = .ok (.iload_n 3, 1) := by decide +kernel
theorem dX6_sortsOf_122 : decode cX6_sortsOf 122 = .ok (.ireturn, 1) := by decide +kernel
theorem dX6_sorts_0 : decode cX6_sorts 0 = .ok (.aload_n 0, 1) := by decide +kernel
theorem dX6_sorts_1 : decode cX6_sorts 1 = .ok (.iconst 0, 1) := by decide +kernel
theorem dX6_sorts_2 : decode cX6_sorts 2 = .ok (.putfield 74, 3) := by decide +kernel
theorem dX6_sorts_5 : decode cX6_sorts 5 = .ok (.aload_n 0, 1) := by decide +kernel
theorem dX6_sorts_6 : decode cX6_sorts 6 = .ok (.iload_n 1, 1) := by decide +kernel
theorem dX6_sorts_7 : decode cX6_sorts 7 = .ok (.i2l, 1) := by decide +kernel
theorem dX6_sorts_8 : decode cX6_sorts 8 = .ok (.invokevirtual 249, 3) := by decide +kernel
theorem dX6_sorts_11 : decode cX6_sorts 11 = .ok (.ifCond .ne 6, 3) := by decide +kernel
theorem dX6_sorts_14 : decode cX6_sorts 14 = .ok (.bipush (-2), 2) := by decide +kernel
theorem dX6_sorts_16 : decode cX6_sorts 16 = .ok (.ireturn, 1) := by decide +kernel
theorem dX6_sorts_17 : decode cX6_sorts 17 = .ok (.aload_n 0, 1) := by decide +kernel
theorem dX6_sorts_18 : decode cX6_sorts 18 = .ok (.invokevirtual 337, 3) := by decide +kernel
theorem dX6_sorts_21 : decode cX6_sorts 21 = .ok (.aload_n 0, 1) := by decide +kernel
theorem dX6_sorts_22 : decode cX6_sorts 22 = .ok (.bipush 127, 2) := by decide +kernel
theorem dX6_sorts_24 : decode cX6_sorts 24 = .ok (.iload_n 1, 1) := by decide +kernel
theorem dX6_sorts_25 : decode cX6_sorts 25 = .ok (.invokevirtual 352, 3) := by decide +kernel
theorem dX6_sorts_28 : decode cX6_sorts 28 = .ok (.ireturn, 1) := by decide +kernel
theorem dX6_alike_0 : decode cX6_alike 0 = .ok (.aload_n 0, 1) := by decide +kernel
theorem dX6_alike_1 : decode cX6_alike 1 = .ok (.iconst 0, 1) := by decide +kernel
theorem dX6_alike_2 : decode cX6_alike 2 = .ok (.putfield 74, 3) := by decide +kernel
theorem dX6_alike_5 : decode cX6_alike 5 = .ok (.aload_n 0, 1) := by decide +kernel
theorem dX6_alike_6 : decode cX6_alike 6 = .ok (.iload_n 1, 1) := by decide +kernel
theorem dX6_alike_7 : decode cX6_alike 7 = .ok (.i2l, 1) := by decide +kernel
theorem dX6_alike_8 : decode cX6_alike 8 = .ok (.invokevirtual 249, 3) := by decide +kernel
theorem dX6_alike_11 : decode cX6_alike 11 = .ok (.ifCond .ne 6, 3) := by decide +kernel
theorem dX6_alike_14 : decode cX6_alike 14 = .ok (.bipush (-2), 2) := by decide +kernel
theorem dX6_alike_16 : decode cX6_alike 16 = .ok (.ireturn, 1) := by decide +kernel
theorem dX6_alike_17 : decode cX6_alike 17 = .ok (.aload_n 0, 1) := by decide +kernel
theorem dX6_alike_18 : decode cX6_alike 18 = .ok (.invokevirtual 337, 3) := by decide +kernel
theorem dX6_alike_21 : decode cX6_alike 21 = .ok (.iconst 0, 1) := by decide +kernel
theorem dX6_alike_22 : decode cX6_alike 22 = .ok (.istore_n 2, 1) := by decide +kernel
theorem dX6_alike_23 : decode cX6_alike 23 = .ok (.iconst 0, 1) := by decide +kernel
theorem dX6_alike_24 : decode cX6_alike 24 = .ok (.istore_n 3, 1) := by decide +kernel
theorem dX6_alike_25 : decode cX6_alike 25 = .ok (.iload_n 3, 1) := by decide +kernel
theorem dX6_alike_26 : decode cX6_alike 26 = .ok (.aload_n 0, 1) := by decide +kernel
theorem dX6_alike_27 : decode cX6_alike 27 = .ok (.invokevirtual 236, 3) := by decide +kernel
theorem dX6_alike_30 : decode cX6_alike 30 = .ok (.if_icmp .ge 72, 3) := by decide +kernel
theorem dX6_alike_33 : decode cX6_alike 33 = .ok (.iload_n 3, 1) := by decide +kernel
theorem dX6_alike_34 : decode cX6_alike 34 = .ok (.iconst 1, 1) := by decide +kernel
theorem dX6_alike_35 : decode cX6_alike 35 = .ok (.iadd, 1) := by decide +kernel
theorem dX6_alike_36 : decode cX6_alike 36 = .ok (.istore 4, 2) := by decide +kernel
theorem dX6_alike_38 : decode cX6_alike 38 = .ok (.iload 4, 2) := by decide +kernel
theorem dX6_alike_40 : decode cX6_alike 40 = .ok (.aload_n 0, 1) := by decide +kernel
theorem dX6_alike_41 : decode cX6_alike 41 = .ok (.invokevirtual 236, 3) := by decide +kernel
theorem dX6_alike_44 : decode cX6_alike 44 = .ok (.if_icmp .ge 52, 3) := by decide +kernel
theorem dX6_alike_47 : decode cX6_alike 47 = .ok (.iload_n 2, 1) := by decide +kernel
theorem dX6_alike_48 : decode cX6_alike 48 = .ok (.aload_n 0, 1) := by decide +kernel
theorem dX6_alike_49 : decode cX6_alike 49 = .ok (.iload_n 3, 1) := by decide +kernel
theorem dX6_alike_50 : decode cX6_alike 50 = .ok (.iload_n 1, 1) := by decide +kernel
theorem dX6_alike_51 : decode cX6_alike 51 = .ok (.invokevirtual 293, 3) := by decide +kernel
theorem dX6_alike_54 : decode cX6_alike 54 = .ok (.ifCond .eq 33, 3) := by decide +kernel
theorem dX6_alike_57 : decode cX6_alike 57 = .ok (.aload_n 0, 1) := by decide +kernel
theorem dX6_alike_58 : decode cX6_alike 58 = .ok (.iload 4, 2) := by decide +kernel
theorem dX6_alike_60 : decode cX6_alike 60 = .ok (.iload_n 1, 1) := by decide +kernel
theorem dX6_alike_61 : decode cX6_alike 61 = .ok (.invokevirtual 293, 3) := by decide +kernel
theorem dX6_alike_64 : decode cX6_alike 64 = .ok (.ifCond .eq 23, 3) := by decide +kernel
theorem dX6_alike_67 : decode cX6_alike 67 = .ok (.aload_n 0, 1) := by decide +kernel
theorem dX6_alike_68 : decode cX6_alike 68 = .ok (.iload_n 3, 1) := by decide +kernel
theorem dX6_alike_69 : decode cX6_alike 69 = .ok (.iload_n 1, 1) := by decide +kernel
theorem dX6_alike_70 : decode cX6_alike 70 = .ok (.invokevirtual 283, 3) := by decide +kernel
theorem dX6_alike_73 : decode cX6_alike 73 = .ok (.aload_n 0, 1) := by decide +kernel
theorem dX6_alike_74 : decode cX6_alike 74 = .ok (.iload 4, 2) := by decide +kernel
theorem dX6_alike_76 : decode cX6_alike 76 = .ok (.iload_n 1, 1) := by decide +kernel
theorem dX6_alike_77 : decode cX6_alike 77 = .ok (.invokevirtual 283, 3) := by decide +kernel
theorem dX6_alike_80 : decode cX6_alike 80 = .ok (.if_icmp .ne 7, 3) := by decide +kernel
theorem dX6_alike_83 : decode cX6_alike 83 = .ok (.iconst 1, 1) := by decide +kernel
theorem dX6_alike_84 : decode cX6_alike 84 = .ok (.goto 4, 3) := by decide +kernel
theorem dX6_alike_87 : decode cX6_alike 87 = .ok (.iconst 0, 1) := by decide +kernel
theorem dX6_alike_88 : decode cX6_alike 88 = .ok (.iadd, 1) := by decide +kernel
theorem dX6_alike_89 : decode cX6_alike 89 = .ok (.istore_n 2, 1) := by decide +kernel
theorem dX6_alike_90 : decode cX6_alike 90 = .ok (.iinc 4 1, 3) := by decide +kernel
theorem dX6_alike_93 : decode cX6_alike 93 = .ok (.goto (-55), 3) := by decide +kernel
theorem dX6_alike_96 : decode cX6_alike 96 = .ok (.iinc 3 1, 3) := by decide +kernel
theorem dX6_alike_99 : decode cX6_alike 99 = .ok (.goto (-74), 3) := by decide +kernel
theorem dX6_alike_102 : decode cX6_alike 102 = .ok (.iload_n 2, 1) := by decide +kernel
theorem dX6_alike_103 : decode cX6_alike 103 = .ok (.ireturn, 1) := by decide +kernel
theorem dX6_rising_0 : decode cX6_rising 0 = .ok (.aload_n 0, 1) := by decide +kernel
theorem dX6_rising_1 : decode cX6_rising 1 = .ok (.iconst 0, 1) := by decide +kernel
theorem dX6_rising_2 : decode cX6_rising 2 = .ok (.putfield 74, 3) := by decide +kernel
theorem dX6_rising_5 : decode cX6_rising 5 = .ok (.aload_n 0, 1) := by decide +kernel
theorem dX6_rising_6 : decode cX6_rising 6 = .ok (.iload_n 1, 1) := by decide +kernel
theorem dX6_rising_7 : decode cX6_rising 7 = .ok (.i2l, 1) := by decide +kernel
theorem dX6_rising_8 : decode cX6_rising 8 = .ok (.invokevirtual 249, 3) := by decide +kernel
theorem dX6_rising_11 : decode cX6_rising 11 = .ok (.ifCond .ne 6, 3) := by decide +kernel
theorem dX6_rising_14 : decode cX6_rising 14 = .ok (.bipush (-2), 2) := by decide +kernel
theorem dX6_rising_16 : decode cX6_rising 16 = .ok (.ireturn, 1) := by decide +kernel
theorem dX6_rising_17 : decode cX6_rising 17 = .ok (.aload_n 0, 1) := by decide +kernel
theorem dX6_rising_18 : decode cX6_rising 18 = .ok (.invokevirtual 337, 3) := by decide +kernel
theorem dX6_rising_21 : decode cX6_rising 21 = .ok (.iconst 0, 1) := by decide +kernel
theorem dX6_rising_22 : decode cX6_rising 22 = .ok (.istore_n 2, 1) := by decide +kernel
theorem dX6_rising_23 : decode cX6_rising 23 = .ok (.iconst 0, 1) := by decide +kernel
theorem dX6_rising_24 : decode cX6_rising 24 = .ok (.istore_n 3, 1) := by decide +kernel
theorem dX6_rising_25 : decode cX6_rising 25 = .ok (.iload_n 3, 1) := by decide +kernel
theorem dX6_rising_26 : decode cX6_rising 26 = .ok (.aload_n 0, 1) := by decide +kernel
theorem dX6_rising_27 : decode cX6_rising 27 = .ok (.invokevirtual 236, 3) := by decide +kernel
theorem dX6_rising_30 : decode cX6_rising 30 = .ok (.if_icmp .ge 33, 3) := by decide +kernel
theorem dX6_rising_33 : decode cX6_rising 33 = .ok (.iload_n 2, 1) := by decide +kernel
theorem dX6_rising_34 : decode cX6_rising 34 = .ok (.aload_n 0, 1) := by decide +kernel
theorem dX6_rising_35 : decode cX6_rising 35 = .ok (.getfield 65, 3) := by decide +kernel
theorem dX6_rising_38 : decode cX6_rising 38 = .ok (.bipush 7, 2) := by decide +kernel
theorem dX6_rising_40 : decode cX6_rising 40 = .ok (.iload_n 1, 1) := by decide +kernel
theorem dX6_rising_41 : decode cX6_rising 41 = .ok (.imul, 1) := by decide +kernel
theorem dX6_rising_42 : decode cX6_rising 42 = .ok (.iload_n 3, 1) := by decide +kernel
theorem dX6_rising_43 : decode cX6_rising 43 = .ok (.iadd, 1) := by decide +kernel
theorem dX6_rising_44 : decode cX6_rising 44 = .ok (.baload, 1) := by decide +kernel
theorem dX6_rising_45 : decode cX6_rising 45 = .ok (.ifCond .eq 9, 3) := by decide +kernel
theorem dX6_rising_48 : decode cX6_rising 48 = .ok (.iconst 1, 1) := by decide +kernel
theorem dX6_rising_49 : decode cX6_rising 49 = .ok (.iload_n 3, 1) := by decide +kernel
theorem dX6_rising_50 : decode cX6_rising 50 = .ok (.ishl, 1) := by decide +kernel
theorem dX6_rising_51 : decode cX6_rising 51 = .ok (.goto 4, 3) := by decide +kernel
theorem dX6_rising_54 : decode cX6_rising 54 = .ok (.iconst 0, 1) := by decide +kernel
theorem dX6_rising_55 : decode cX6_rising 55 = .ok (.ior, 1) := by decide +kernel
theorem dX6_rising_56 : decode cX6_rising 56 = .ok (.istore_n 2, 1) := by decide +kernel
theorem dX6_rising_57 : decode cX6_rising 57 = .ok (.iinc 3 1, 3) := by decide +kernel
theorem dX6_rising_60 : decode cX6_rising 60 = .ok (.goto (-35), 3) := by decide +kernel
theorem dX6_rising_63 : decode cX6_rising 63 = .ok (.iload_n 2, 1) := by decide +kernel
theorem dX6_rising_64 : decode cX6_rising 64 = .ok (.ireturn, 1) := by decide +kernel
theorem dX6_paling_0 : decode cX6_paling 0 = .ok (.aload_n 0, 1) := by decide +kernel
theorem dX6_paling_1 : decode cX6_paling 1 = .ok (.iconst 0, 1) := by decide +kernel
theorem dX6_paling_2 : decode cX6_paling 2 = .ok (.putfield 74, 3) := by decide +kernel
theorem dX6_paling_5 : decode cX6_paling 5 = .ok (.aload_n 0, 1) := by decide +kernel
theorem dX6_paling_6 : decode cX6_paling 6 = .ok (.iload_n 1, 1) := by decide +kernel
theorem dX6_paling_7 : decode cX6_paling 7 = .ok (.i2l, 1) := by decide +kernel
theorem dX6_paling_8 : decode cX6_paling 8 = .ok (.invokevirtual 249, 3) := by decide +kernel
theorem dX6_paling_11 : decode cX6_paling 11 = .ok (.ifCond .ne 6, 3) := by decide +kernel
theorem dX6_paling_14 : decode cX6_paling 14 = .ok (.bipush (-2), 2) := by decide +kernel
theorem dX6_paling_16 : decode cX6_paling 16 = .ok (.ireturn, 1) := by decide +kernel
theorem dX6_paling_17 : decode cX6_paling 17 = .ok (.aload_n 0, 1) := by decide +kernel
theorem dX6_paling_18 : decode cX6_paling 18 = .ok (.invokevirtual 337, 3) := by decide +kernel
theorem dX6_paling_21 : decode cX6_paling 21 = .ok (.iconst 0, 1) := by decide +kernel
theorem dX6_paling_22 : decode cX6_paling 22 = .ok (.istore_n 2, 1) := by decide +kernel
theorem dX6_paling_23 : decode cX6_paling 23 = .ok (.iconst 0, 1) := by decide +kernel
theorem dX6_paling_24 : decode cX6_paling 24 = .ok (.istore_n 3, 1) := by decide +kernel
theorem dX6_paling_25 : decode cX6_paling 25 = .ok (.iload_n 3, 1) := by decide +kernel
theorem dX6_paling_26 : decode cX6_paling 26 = .ok (.aload_n 0, 1) := by decide +kernel
theorem dX6_paling_27 : decode cX6_paling 27 = .ok (.invokevirtual 236, 3) := by decide +kernel
theorem dX6_paling_30 : decode cX6_paling 30 = .ok (.if_icmp .ge 40, 3) := by decide +kernel
theorem dX6_paling_33 : decode cX6_paling 33 = .ok (.iload_n 2, 1) := by decide +kernel
theorem dX6_paling_34 : decode cX6_paling 34 = .ok (.iload_n 1, 1) := by decide +kernel
theorem dX6_paling_35 : decode cX6_paling 35 = .ok (.ifCond .le 26, 3) := by decide +kernel
theorem dX6_paling_38 : decode cX6_paling 38 = .ok (.aload_n 0, 1) := by decide +kernel
theorem dX6_paling_39 : decode cX6_paling 39 = .ok (.iload_n 3, 1) := by decide +kernel
theorem dX6_paling_40 : decode cX6_paling 40 = .ok (.iload_n 1, 1) := by decide +kernel
theorem dX6_paling_41 : decode cX6_paling 41 = .ok (.invokevirtual 283, 3) := by decide +kernel
theorem dX6_paling_44 : decode cX6_paling 44 = .ok (.aload_n 0, 1) := by decide +kernel
theorem dX6_paling_45 : decode cX6_paling 45 = .ok (.iload_n 3, 1) := by decide +kernel
theorem dX6_paling_46 : decode cX6_paling 46 = .ok (.iload_n 1, 1) := by decide +kernel
theorem dX6_paling_47 : decode cX6_paling 47 = .ok (.iconst 1, 1) := by decide +kernel
theorem dX6_paling_48 : decode cX6_paling 48 = .ok (.isub, 1) := by decide +kernel
theorem dX6_paling_49 : decode cX6_paling 49 = .ok (.invokevirtual 283, 3) := by decide +kernel
theorem dX6_paling_52 : decode cX6_paling 52 = .ok (.if_icmp .ge 9, 3) := by decide +kernel
theorem dX6_paling_55 : decode cX6_paling 55 = .ok (.iconst 1, 1) := by decide +kernel
theorem dX6_paling_56 : decode cX6_paling 56 = .ok (.iload_n 3, 1) := by decide +kernel
theorem dX6_paling_57 : decode cX6_paling 57 = .ok (.ishl, 1) := by decide +kernel
theorem dX6_paling_58 : decode cX6_paling 58 = .ok (.goto 4, 3) := by decide +kernel
theorem dX6_paling_61 : decode cX6_paling 61 = .ok (.iconst 0, 1) := by decide +kernel
theorem dX6_paling_62 : decode cX6_paling 62 = .ok (.ior, 1) := by decide +kernel
theorem dX6_paling_63 : decode cX6_paling 63 = .ok (.istore_n 2, 1) := by decide +kernel
theorem dX6_paling_64 : decode cX6_paling 64 = .ok (.iinc 3 1, 3) := by decide +kernel
theorem dX6_paling_67 : decode cX6_paling 67 = .ok (.goto (-42), 3) := by decide +kernel
theorem dX6_paling_70 : decode cX6_paling 70 = .ok (.iload_n 2, 1) := by decide +kernel
theorem dX6_paling_71 : decode cX6_paling 71 = .ok (.ireturn, 1) := by decide +kernel
theorem dX6_cross_0 : decode cX6_cross 0 = .ok (.aload_n 0, 1) := by decide +kernel
theorem dX6_cross_1 : decode cX6_cross 1 = .ok (.iconst 0, 1) := by decide +kernel
theorem dX6_cross_2 : decode cX6_cross 2 = .ok (.putfield 74, 3) := by decide +kernel
theorem dX6_cross_5 : decode cX6_cross 5 = .ok (.aload_n 0, 1) := by decide +kernel
theorem dX6_cross_6 : decode cX6_cross 6 = .ok (.iload_n 1, 1) := by decide +kernel
theorem dX6_cross_7 : decode cX6_cross 7 = .ok (.i2l, 1) := by decide +kernel
theorem dX6_cross_8 : decode cX6_cross 8 = .ok (.invokevirtual 246, 3) := by decide +kernel
theorem dX6_cross_11 : decode cX6_cross 11 = .ok (.ifCond .eq 12, 3) := by decide +kernel
theorem dX6_cross_14 : decode cX6_cross 14 = .ok (.aload_n 0, 1) := by decide +kernel
theorem dX6_cross_15 : decode cX6_cross 15 = .ok (.iload_n 2, 1) := by decide +kernel
theorem dX6_cross_16 : decode cX6_cross 16 = .ok (.i2l, 1) := by decide +kernel
theorem dX6_cross_17 : decode cX6_cross 17 = .ok (.invokevirtual 246, 3) := by decide +kernel
theorem dX6_cross_20 : decode cX6_cross 20 = .ok (.ifCond .ne 6, 3) := by decide +kernel
theorem dX6_cross_23 : decode cX6_cross 23 = .ok (.bipush (-2), 2) := by decide +kernel
theorem dX6_cross_25 : decode cX6_cross 25 = .ok (.ireturn, 1) := by decide +kernel
theorem dX6_cross_26 : decode cX6_cross 26 = .ok (.aload_n 0, 1) := by decide +kernel
theorem dX6_cross_27 : decode cX6_cross 27 = .ok (.invokevirtual 337, 3) := by decide +kernel
theorem dX6_cross_30 : decode cX6_cross 30 = .ok (.iconst 0, 1) := by decide +kernel
theorem dX6_cross_31 : decode cX6_cross 31 = .ok (.istore_n 3, 1) := by decide +kernel
theorem dX6_cross_32 : decode cX6_cross 32 = .ok (.iload_n 3, 1) := by decide +kernel
theorem dX6_cross_33 : decode cX6_cross 33 = .ok (.aload_n 0, 1) := by decide +kernel
theorem dX6_cross_34 : decode cX6_cross 34 = .ok (.invokevirtual 243, 3) := by decide +kernel
theorem dX6_cross_37 : decode cX6_cross 37 = .ok (.if_icmp .gt 44, 3) := by decide +kernel
theorem dX6_cross_40 : decode cX6_cross 40 = .ok (.aload_n 0, 1) := by decide +kernel
theorem dX6_cross_41 : decode cX6_cross 41 = .ok (.iload_n 1, 1) := by decide +kernel
theorem dX6_cross_42 : decode cX6_cross 42 = .ok (.iload_n 3, 1) := by decide +kernel
theorem dX6_cross_43 : decode cX6_cross 43 = .ok (.invokevirtual 293, 3) := by decide +kernel
theorem dX6_cross_46 : decode cX6_cross 46 = .ok (.ifCond .eq 29, 3) := by decide +kernel
theorem dX6_cross_49 : decode cX6_cross 49 = .ok (.aload_n 0, 1) := by decide +kernel
theorem dX6_cross_50 : decode cX6_cross 50 = .ok (.iload_n 2, 1) := by decide +kernel
theorem dX6_cross_51 : decode cX6_cross 51 = .ok (.iload_n 3, 1) := by decide +kernel
theorem dX6_cross_52 : decode cX6_cross 52 = .ok (.invokevirtual 293, 3) := by decide +kernel
theorem dX6_cross_55 : decode cX6_cross 55 = .ok (.ifCond .eq 20, 3) := by decide +kernel
theorem dX6_cross_58 : decode cX6_cross 58 = .ok (.aload_n 0, 1) := by decide +kernel
theorem dX6_cross_59 : decode cX6_cross 59 = .ok (.iload_n 1, 1) := by decide +kernel
theorem dX6_cross_60 : decode cX6_cross 60 = .ok (.iload_n 3, 1) := by decide +kernel
theorem dX6_cross_61 : decode cX6_cross 61 = .ok (.invokevirtual 283, 3) := by decide +kernel
theorem dX6_cross_64 : decode cX6_cross 64 = .ok (.aload_n 0, 1) := by decide +kernel
theorem dX6_cross_65 : decode cX6_cross 65 = .ok (.iload_n 2, 1) := by decide +kernel
theorem dX6_cross_66 : decode cX6_cross 66 = .ok (.iload_n 3, 1) := by decide +kernel
theorem dX6_cross_67 : decode cX6_cross 67 = .ok (.invokevirtual 283, 3) := by decide +kernel
theorem dX6_cross_70 : decode cX6_cross 70 = .ok (.if_icmp .le 5, 3) := by decide +kernel
theorem dX6_cross_73 : decode cX6_cross 73 = .ok (.iload_n 3, 1) := by decide +kernel
theorem dX6_cross_74 : decode cX6_cross 74 = .ok (.ireturn, 1) := by decide +kernel
theorem dX6_cross_75 : decode cX6_cross 75 = .ok (.iinc 3 1, 3) := by decide +kernel
theorem dX6_cross_78 : decode cX6_cross 78 = .ok (.goto (-46), 3) := by decide +kernel
theorem dX6_cross_81 : decode cX6_cross 81 = .ok (.iconst (-1), 1) := by decide +kernel
theorem dX6_cross_82 : decode cX6_cross 82 = .ok (.ireturn, 1) := by decide +kernel
theorem dX6_orderOf_0 : decode cX6_orderOf 0 = .ok (.aload_n 0, 1) := by decide +kernel
theorem dX6_orderOf_1 : decode cX6_orderOf 1 = .ok (.iload_n 1, 1) := by decide +kernel
theorem dX6_orderOf_2 : decode cX6_orderOf 2 = .ok (.iload_n 3, 1) := by decide +kernel
theorem dX6_orderOf_3 : decode cX6_orderOf 3 = .ok (.invokevirtual 283, 3) := by decide +kernel
theorem dX6_orderOf_6 : decode cX6_orderOf 6 = .ok (.aload_n 0, 1) := by decide +kernel
theorem dX6_orderOf_7 : decode cX6_orderOf 7 = .ok (.iload_n 2, 1) := by decide +kernel
theorem dX6_orderOf_8 : decode cX6_orderOf 8 = .ok (.iload_n 3, 1) := by decide +kernel
theorem dX6_orderOf_9 : decode cX6_orderOf 9 = .ok (.invokevirtual 283, 3) := by decide +kernel
theorem dX6_orderOf_12 : decode cX6_orderOf 12 = .ok (.if_icmp .le 7, 3) := by decide +kernel
theorem dX6_orderOf_15 : decode cX6_orderOf 15 = .ok (.iconst 1, 1) := by decide +kernel
theorem dX6_orderOf_16 : decode cX6_orderOf 16 = .ok (.goto 23, 3) := by decide +kernel
theorem dX6_orderOf_19 : decode cX6_orderOf 19 = .ok (.aload_n 0, 1) := by decide +kernel
theorem dX6_orderOf_20 : decode cX6_orderOf 20 = .ok (.iload_n 1, 1) := by decide +kernel
theorem dX6_orderOf_21 : decode cX6_orderOf 21 = .ok (.iload_n 3, 1) := by decide +kernel
theorem dX6_orderOf_22 : decode cX6_orderOf 22 = .ok (.invokevirtual 283, 3) := by decide +kernel
theorem dX6_orderOf_25 : decode cX6_orderOf 25 = .ok (.aload_n 0, 1) := by decide +kernel
theorem dX6_orderOf_26 : decode cX6_orderOf 26 = .ok (.iload_n 2, 1) := by decide +kernel
theorem dX6_orderOf_27 : decode cX6_orderOf 27 = .ok (.iload_n 3, 1) := by decide +kernel
theorem dX6_orderOf_28 : decode cX6_orderOf 28 = .ok (.invokevirtual 283, 3) := by decide +kernel
theorem dX6_orderOf_31 : decode cX6_orderOf 31 = .ok (.if_icmp .ge 7, 3) := by decide +kernel
theorem dX6_orderOf_34 : decode cX6_orderOf 34 = .ok (.iconst (-1), 1) := by decide +kernel
theorem dX6_orderOf_35 : decode cX6_orderOf 35 = .ok (.goto 4, 3) := by decide +kernel
theorem dX6_orderOf_38 : decode cX6_orderOf 38 = .ok (.iconst 0, 1) := by decide +kernel
theorem dX6_orderOf_39 : decode cX6_orderOf 39 = .ok (.ireturn, 1) := by decide +kernel
theorem dX6_swaps_0 : decode cX6_swaps 0 = .ok (.aload_n 0, 1) := by decide +kernel
theorem dX6_swaps_1 : decode cX6_swaps 1 = .ok (.iconst 0, 1) := by decide +kernel
theorem dX6_swaps_2 : decode cX6_swaps 2 = .ok (.putfield 74, 3) := by decide +kernel
theorem dX6_swaps_5 : decode cX6_swaps 5 = .ok (.aload_n 0, 1) := by decide +kernel
theorem dX6_swaps_6 : decode cX6_swaps 6 = .ok (.iload_n 1, 1) := by decide +kernel
theorem dX6_swaps_7 : decode cX6_swaps 7 = .ok (.i2l, 1) := by decide +kernel
theorem dX6_swaps_8 : decode cX6_swaps 8 = .ok (.invokevirtual 246, 3) := by decide +kernel
theorem dX6_swaps_11 : decode cX6_swaps 11 = .ok (.ifCond .eq 12, 3) := by decide +kernel
theorem dX6_swaps_14 : decode cX6_swaps 14 = .ok (.aload_n 0, 1) := by decide +kernel
theorem dX6_swaps_15 : decode cX6_swaps 15 = .ok (.iload_n 2, 1) := by decide +kernel
theorem dX6_swaps_16 : decode cX6_swaps 16 = .ok (.i2l, 1) := by decide +kernel
theorem dX6_swaps_17 : decode cX6_swaps 17 = .ok (.invokevirtual 246, 3) := by decide +kernel
theorem dX6_swaps_20 : decode cX6_swaps 20 = .ok (.ifCond .ne 6, 3) := by decide +kernel
theorem dX6_swaps_23 : decode cX6_swaps 23 = .ok (.bipush (-2), 2) := by decide +kernel
theorem dX6_swaps_25 : decode cX6_swaps 25 = .ok (.ireturn, 1) := by decide +kernel
theorem dX6_swaps_26 : decode cX6_swaps 26 = .ok (.aload_n 0, 1) := by decide +kernel
theorem dX6_swaps_27 : decode cX6_swaps 27 = .ok (.invokevirtual 337, 3) := by decide +kernel
theorem dX6_swaps_30 : decode cX6_swaps 30 = .ok (.iconst 0, 1) := by decide +kernel
theorem dX6_swaps_31 : decode cX6_swaps 31 = .ok (.istore_n 3, 1) := by decide +kernel
theorem dX6_swaps_32 : decode cX6_swaps 32 = .ok (.iconst 1, 1) := by decide +kernel
