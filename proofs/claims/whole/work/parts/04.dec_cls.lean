theorem dX5_init_0 : decode cX5_init 0 = .ok (.aload_n 0, 1) := by decide +kernel
theorem dX5_init_1 : decode cX5_init 1 = .ok (.invokespecial 1, 3) := by decide +kernel
theorem dX5_init_4 : decode cX5_init 4 = .ok (.aload_n 0, 1) := by decide +kernel
theorem dX5_init_5 : decode cX5_init 5 = .ok (.new 7, 3) := by decide +kernel
theorem dX5_init_8 : decode cX5_init 8 = .ok (.dup, 1) := by decide +kernel
theorem dX5_init_9 : decode cX5_init 9 = .ok (.invokespecial 9, 3) := by decide +kernel
theorem dX5_init_12 : decode cX5_init 12 = .ok (.putfield 10, 3) := by decide +kernel
theorem dX5_init_15 : decode cX5_init 15 = .ok (.aload_n 0, 1) := by decide +kernel
theorem dX5_init_16 : decode cX5_init 16 = .ok (.new 16, 3) := by decide +kernel
theorem dX5_init_19 : decode cX5_init 19 = .ok (.dup, 1) := by decide +kernel
theorem dX5_init_20 : decode cX5_init 20 = .ok (.invokespecial 18, 3) := by decide +kernel
theorem dX5_init_23 : decode cX5_init 23 = .ok (.putfield 19, 3) := by decide +kernel
theorem dX5_init_26 : decode cX5_init 26 = .ok (.aload_n 0, 1) := by decide +kernel
theorem dX5_init_27 : decode cX5_init 27 = .ok (.new 16, 3) := by decide +kernel
theorem dX5_init_30 : decode cX5_init 30 = .ok (.dup, 1) := by decide +kernel
theorem dX5_init_31 : decode cX5_init 31 = .ok (.invokespecial 18, 3) := by decide +kernel
theorem dX5_init_34 : decode cX5_init 34 = .ok (.putfield 23, 3) := by decide +kernel
theorem dX5_init_37 : decode cX5_init 37 = .ok (.aload_n 0, 1) := by decide +kernel
theorem dX5_init_38 : decode cX5_init 38 = .ok (.new 16, 3) := by decide +kernel
theorem dX5_init_41 : decode cX5_init 41 = .ok (.dup, 1) := by decide +kernel
theorem dX5_init_42 : decode cX5_init 42 = .ok (.invokespecial 18, 3) := by decide +kernel
theorem dX5_init_45 : decode cX5_init 45 = .ok (.putfield 26, 3) := by decide +kernel
theorem dX5_init_48 : decode cX5_init 48 = .ok (.aload_n 0, 1) := by decide +kernel
theorem dX5_init_49 : decode cX5_init 49 = .ok (.new 29, 3) := by decide +kernel
theorem dX5_init_52 : decode cX5_init 52 = .ok (.dup, 1) := by decide +kernel
theorem dX5_init_53 : decode cX5_init 53 = .ok (.invokespecial 31, 3) := by decide +kernel
theorem dX5_init_56 : decode cX5_init 56 = .ok (.putfield 32, 3) := by decide +kernel
theorem dX5_init_59 : decode cX5_init 59 = .ok (.aload_n 0, 1) := by decide +kernel
theorem dX5_init_60 : decode cX5_init 60 = .ok (.new 29, 3) := by decide +kernel
theorem dX5_init_63 : decode cX5_init 63 = .ok (.dup, 1) := by decide +kernel
theorem dX5_init_64 : decode cX5_init 64 = .ok (.invokespecial 31, 3) := by decide +kernel
theorem dX5_init_67 : decode cX5_init 67 = .ok (.putfield 36, 3) := by decide +kernel
theorem dX5_init_70 : decode cX5_init 70 = .ok (.aload_n 0, 1) := by decide +kernel
theorem dX5_init_71 : decode cX5_init 71 = .ok (.iconst 3, 1) := by decide +kernel
theorem dX5_init_72 : decode cX5_init 72 = .ok (.anewarray 16, 3) := by decide +kernel
theorem dX5_init_75 : decode cX5_init 75 = .ok (.putfield 39, 3) := by decide +kernel
theorem dX5_init_78 : decode cX5_init 78 = .ok (.aload_n 0, 1) := by decide +kernel
theorem dX5_init_79 : decode cX5_init 79 = .ok (.iconst 3, 1) := by decide +kernel
theorem dX5_init_80 : decode cX5_init 80 = .ok (.newarray .boolean, 2) := by decide +kernel
theorem dX5_init_82 : decode cX5_init 82 = .ok (.putfield 43, 3) := by decide +kernel
theorem dX5_init_85 : decode cX5_init 85 = .ok (.aload_n 0, 1) := by decide +kernel
theorem dX5_init_86 : decode cX5_init 86 = .ok (.iconst 4, 1) := by decide +kernel
theorem dX5_init_87 : decode cX5_init 87 = .ok (.anewarray 47, 3) := by decide +kernel
theorem dX5_init_90 : decode cX5_init 90 = .ok (.putfield 49, 3) := by decide +kernel
theorem dX5_init_93 : decode cX5_init 93 = .ok (.aload_n 0, 1) := by decide +kernel
theorem dX5_init_94 : decode cX5_init 94 = .ok (.bipush 21, 2) := by decide +kernel
theorem dX5_init_96 : decode cX5_init 96 = .ok (.bipush 21, 2) := by decide +kernel
theorem dX5_init_98 : decode cX5_init 98 = .ok (.multianewarray 53 2, 4) := by decide +kernel
theorem dX5_init_102 : decode cX5_init 102 = .ok (.putfield 55, 3) := by decide +kernel
theorem dX5_init_105 : decode cX5_init 105 = .ok (.aload_n 0, 1) := by decide +kernel
theorem dX5_init_106 : decode cX5_init 106 = .ok (.bipush 61, 2) := by decide +kernel
theorem dX5_init_108 : decode cX5_init 108 = .ok (.newarray .int, 2) := by decide +kernel
theorem dX5_init_110 : decode cX5_init 110 = .ok (.putfield 58, 3) := by decide +kernel
theorem dX5_init_113 : decode cX5_init 113 = .ok (.aload_n 0, 1) := by decide +kernel
theorem dX5_init_114 : decode cX5_init 114 = .ok (.iconst 4, 1) := by decide +kernel
theorem dX5_init_115 : decode cX5_init 115 = .ok (.newarray .int, 2) := by decide +kernel
theorem dX5_init_117 : decode cX5_init 117 = .ok (.putfield 62, 3) := by decide +kernel
theorem dX5_init_120 : decode cX5_init 120 = .ok (.aload_n 0, 1) := by decide +kernel
theorem dX5_init_121 : decode cX5_init 121 = .ok (.iconst 4, 1) := by decide +kernel
theorem dX5_init_122 : decode cX5_init 122 = .ok (.newarray .int, 2) := by decide +kernel
theorem dX5_init_124 : decode cX5_init 124 = .ok (.putfield 65, 3) := by decide +kernel
theorem dX5_init_127 : decode cX5_init 127 = .ok (.aload_n 0, 1) := by decide +kernel
theorem dX5_init_128 : decode cX5_init 128 = .ok (.iconst 0, 1) := by decide +kernel
theorem dX5_init_129 : decode cX5_init 129 = .ok (.putfield 68, 3) := by decide +kernel
theorem dX5_init_132 : decode cX5_init 132 = .ok (.aload_n 0, 1) := by decide +kernel
theorem dX5_init_133 : decode cX5_init 133 = .ok (.iconst (-1), 1) := by decide +kernel
theorem dX5_init_134 : decode cX5_init 134 = .ok (.putfield 72, 3) := by decide +kernel
theorem dX5_init_137 : decode cX5_init 137 = .ok (.iconst 0, 1) := by decide +kernel
theorem dX5_init_138 : decode cX5_init 138 = .ok (.istore_n 1, 1) := by decide +kernel
theorem dX5_init_139 : decode cX5_init 139 = .ok (.iload_n 1, 1) := by decide +kernel
theorem dX5_init_140 : decode cX5_init 140 = .ok (.iconst 3, 1) := by decide +kernel
theorem dX5_init_141 : decode cX5_init 141 = .ok (.if_icmp .ge 22, 3) := by decide +kernel
theorem dX5_init_144 : decode cX5_init 144 = .ok (.aload_n 0, 1) := by decide +kernel
theorem dX5_init_145 : decode cX5_init 145 = .ok (.getfield 39, 3) := by decide +kernel
theorem dX5_init_148 : decode cX5_init 148 = .ok (.iload_n 1, 1) := by decide +kernel
theorem dX5_init_149 : decode cX5_init 149 = .ok (.new 16, 3) := by decide +kernel
theorem dX5_init_152 : decode cX5_init 152 = .ok (.dup, 1) := by decide +kernel
theorem dX5_init_153 : decode cX5_init 153 = .ok (.invokespecial 18, 3) := by decide +kernel
theorem dX5_init_156 : decode cX5_init 156 = .ok (.aastore, 1) := by decide +kernel
theorem dX5_init_157 : decode cX5_init 157 = .ok (.iinc 1 1, 3) := by decide +kernel
theorem dX5_init_160 : decode cX5_init 160 = .ok (.goto (-21), 3) := by decide +kernel
theorem dX5_init_163 : decode cX5_init 163 = .ok (.iconst 0, 1) := by decide +kernel
theorem dX5_init_164 : decode cX5_init 164 = .ok (.istore_n 1, 1) := by decide +kernel
theorem dX5_init_165 : decode cX5_init 165 = .ok (.iload_n 1, 1) := by decide +kernel
theorem dX5_init_166 : decode cX5_init 166 = .ok (.iconst 4, 1) := by decide +kernel
theorem dX5_init_167 : decode cX5_init 167 = .ok (.if_icmp .ge 22, 3) := by decide +kernel
theorem dX5_init_170 : decode cX5_init 170 = .ok (.aload_n 0, 1) := by decide +kernel
theorem dX5_init_171 : decode cX5_init 171 = .ok (.getfield 49, 3) := by decide +kernel
theorem dX5_init_174 : decode cX5_init 174 = .ok (.iload_n 1, 1) := by decide +kernel
theorem dX5_init_175 : decode cX5_init 175 = .ok (.new 47, 3) := by decide +kernel
theorem dX5_init_178 : decode cX5_init 178 = .ok (.dup, 1) := by decide +kernel
theorem dX5_init_179 : decode cX5_init 179 = .ok (.invokespecial 75, 3) := by decide +kernel
theorem dX5_init_182 : decode cX5_init 182 = .ok (.aastore, 1) := by decide +kernel
theorem dX5_init_183 : decode cX5_init 183 = .ok (.iinc 1 1, 3) := by decide +kernel
theorem dX5_init_186 : decode cX5_init 186 = .ok (.goto (-21), 3) := by decide +kernel
theorem dX5_init_189 : decode cX5_init 189 = .ok (.return_, 1) := by decide +kernel
theorem dX5_feed_0 : decode cX5_feed 0 = .ok (.aload_n 0, 1) := by decide +kernel
theorem dX5_feed_1 : decode cX5_feed 1 = .ok (.getfield 10, 3) := by decide +kernel
theorem dX5_feed_4 : decode cX5_feed 4 = .ok (.getfield 76, 3) := by decide +kernel
theorem dX5_feed_7 : decode cX5_feed 7 = .ok (.bipush 20, 2) := by decide +kernel
theorem dX5_feed_9 : decode cX5_feed 9 = .ok (.iadd, 1) := by decide +kernel
theorem dX5_feed_10 : decode cX5_feed 10 = .ok (.sipush 700, 3) := by decide +kernel
theorem dX5_feed_13 : decode cX5_feed 13 = .ok (.if_icmp .le 5, 3) := by decide +kernel
theorem dX5_feed_16 : decode cX5_feed 16 = .ok (.iconst (-1), 1) := by decide +kernel
theorem dX5_feed_17 : decode cX5_feed 17 = .ok (.ireturn, 1) := by decide +kernel
theorem dX5_feed_18 : decode cX5_feed 18 = .ok (.aload_n 0, 1) := by decide +kernel
theorem dX5_feed_19 : decode cX5_feed 19 = .ok (.getfield 10, 3) := by decide +kernel
theorem dX5_feed_22 : decode cX5_feed 22 = .ok (.iload_n 1, 1) := by decide +kernel
theorem dX5_feed_23 : decode cX5_feed 23 = .ok (.invokevirtual 79, 3) := by decide +kernel
theorem dX5_feed_26 : decode cX5_feed 26 = .ok (.aload_n 0, 1) := by decide +kernel
theorem dX5_feed_27 : decode cX5_feed 27 = .ok (.getfield 10, 3) := by decide +kernel
theorem dX5_feed_30 : decode cX5_feed 30 = .ok (.iload_n 2, 1) := by decide +kernel
theorem dX5_feed_31 : decode cX5_feed 31 = .ok (.invokevirtual 79, 3) := by decide +kernel
theorem dX5_feed_34 : decode cX5_feed 34 = .ok (.aload_n 0, 1) := by decide +kernel
theorem dX5_feed_35 : decode cX5_feed 35 = .ok (.getfield 10, 3) := by decide +kernel
theorem dX5_feed_38 : decode cX5_feed 38 = .ok (.iload_n 3, 1) := by decide +kernel
theorem dX5_feed_39 : decode cX5_feed 39 = .ok (.invokevirtual 79, 3) := by decide +kernel
theorem dX5_feed_42 : decode cX5_feed 42 = .ok (.aload_n 0, 1) := by decide +kernel
theorem dX5_feed_43 : decode cX5_feed 43 = .ok (.getfield 10, 3) := by decide +kernel
theorem dX5_feed_46 : decode cX5_feed 46 = .ok (.iload 4, 2) := by decide +kernel
theorem dX5_feed_48 : decode cX5_feed 48 = .ok (.invokevirtual 79, 3) := by decide +kernel
theorem dX5_feed_51 : decode cX5_feed 51 = .ok (.aload_n 0, 1) := by decide +kernel
theorem dX5_feed_52 : decode cX5_feed 52 = .ok (.getfield 10, 3) := by decide +kernel
theorem dX5_feed_55 : decode cX5_feed 55 = .ok (.iload 5, 2) := by decide +kernel
theorem dX5_feed_57 : decode cX5_feed 57 = .ok (.invokevirtual 79, 3) := by decide +kernel
theorem dX5_feed_60 : decode cX5_feed 60 = .ok (.aload_n 0, 1) := by decide +kernel
theorem dX5_feed_61 : decode cX5_feed 61 = .ok (.getfield 10, 3) := by decide +kernel
theorem dX5_feed_64 : decode cX5_feed 64 = .ok (.getfield 76, 3) := by decide +kernel
theorem dX5_feed_67 : decode cX5_feed 67 = .ok (.ireturn, 1) := by decide +kernel
theorem dX5_end_0 : decode cX5_end 0 = .ok (.iload_n 1, 1) := by decide +kernel
theorem dX5_end_1 : decode cX5_end 1 = .ok (.ifCond .lt 14, 3) := by decide +kernel
theorem dX5_end_4 : decode cX5_end 4 = .ok (.iload_n 1, 1) := by decide +kernel
theorem dX5_end_5 : decode cX5_end 5 = .ok (.aload_n 0, 1) := by decide +kernel
theorem dX5_end_6 : decode cX5_end 6 = .ok (.getfield 10, 3) := by decide +kernel
theorem dX5_end_9 : decode cX5_end 9 = .ok (.getfield 76, 3) := by decide +kernel
theorem dX5_end_12 : decode cX5_end 12 = .ok (.if_icmp .le 5, 3) := by decide +kernel
theorem dX5_end_15 : decode cX5_end 15 = .ok (.iconst (-1), 1) := by decide +kernel
theorem dX5_end_16 : decode cX5_end 16 = .ok (.ireturn, 1) := by decide +kernel
theorem dX5_end_17 : decode cX5_end 17 = .ok (.aload_n 0, 1) := by decide +kernel
theorem dX5_end_18 : decode cX5_end 18 = .ok (.getfield 10, 3) := by decide +kernel
theorem dX5_end_21 : decode cX5_end 21 = .ok (.iload_n 1, 1) := by decide +kernel
theorem dX5_end_22 : decode cX5_end 22 = .ok (.putfield 76, 3) := by decide +kernel
theorem dX5_end_25 : decode cX5_end 25 = .ok (.iload_n 1, 1) := by decide +kernel
theorem dX5_end_26 : decode cX5_end 26 = .ok (.ireturn, 1) := by decide +kernel
theorem dX5_book_0 : decode cX5_book 0 = .ok (.aload_n 0, 1) := by decide +kernel
theorem dX5_book_1 : decode cX5_book 1 = .ok (.getfield 19, 3) := by decide +kernel
theorem dX5_book_4 : decode cX5_book 4 = .ok (.invokevirtual 83, 3) := by decide +kernel
theorem dX5_book_7 : decode cX5_book 7 = .ok (.aload_n 0, 1) := by decide +kernel
theorem dX5_book_8 : decode cX5_book 8 = .ok (.getfield 10, 3) := by decide +kernel
theorem dX5_book_11 : decode cX5_book 11 = .ok (.aload_n 0, 1) := by decide +kernel
theorem dX5_book_12 : decode cX5_book 12 = .ok (.getfield 19, 3) := by decide +kernel
theorem dX5_book_15 : decode cX5_book 15 = .ok (.invokevirtual 86, 3) := by decide +kernel
theorem dX5_book_18 : decode cX5_book 18 = .ok (.aload_n 0, 1) := by decide +kernel
theorem dX5_book_19 : decode cX5_book 19 = .ok (.getfield 10, 3) := by decide +kernel
theorem dX5_book_22 : decode cX5_book 22 = .ok (.iconst 0, 1) := by decide +kernel
theorem dX5_book_23 : decode cX5_book 23 = .ok (.putfield 76, 3) := by decide +kernel
theorem dX5_book_26 : decode cX5_book 26 = .ok (.aload_n 0, 1) := by decide +kernel
theorem dX5_book_27 : decode cX5_book 27 = .ok (.aload_n 0, 1) := by decide +kernel
theorem dX5_book_28 : decode cX5_book 28 = .ok (.getfield 10, 3) := by decide +kernel
theorem dX5_book_31 : decode cX5_book 31 = .ok (.getfield 90, 3) := by decide +kernel
theorem dX5_book_34 : decode cX5_book 34 = .ok (.putfield 68, 3) := by decide +kernel
theorem dX5_book_37 : decode cX5_book 37 = .ok (.aload_n 0, 1) := by decide +kernel
theorem dX5_book_38 : decode cX5_book 38 = .ok (.aload_n 0, 1) := by decide +kernel
theorem dX5_book_39 : decode cX5_book 39 = .ok (.getfield 10, 3) := by decide +kernel
theorem dX5_book_42 : decode cX5_book 42 = .ok (.getfield 93, 3) := by decide +kernel
theorem dX5_book_45 : decode cX5_book 45 = .ok (.putfield 72, 3) := by decide +kernel
theorem dX5_book_48 : decode cX5_book 48 = .ok (.aload_n 0, 1) := by decide +kernel
theorem dX5_book_49 : decode cX5_book 49 = .ok (.getfield 68, 3) := by decide +kernel
theorem dX5_book_52 : decode cX5_book 52 = .ok (.ifCond .eq 6, 3) := by decide +kernel
theorem dX5_book_55 : decode cX5_book 55 = .ok (.bipush (-4), 2) := by decide +kernel
theorem dX5_book_57 : decode cX5_book 57 = .ok (.ireturn, 1) := by decide +kernel
theorem dX5_book_58 : decode cX5_book 58 = .ok (.aload_n 0, 1) := by decide +kernel
theorem dX5_book_59 : decode cX5_book 59 = .ok (.getfield 23, 3) := by decide +kernel
theorem dX5_book_62 : decode cX5_book 62 = .ok (.aload_n 0, 1) := by decide +kernel
theorem dX5_book_63 : decode cX5_book 63 = .ok (.getfield 19, 3) := by decide +kernel
theorem dX5_book_66 : decode cX5_book 66 = .ok (.invokevirtual 96, 3) := by decide +kernel
theorem dX5_book_69 : decode cX5_book 69 = .ok (.aload_n 0, 1) := by decide +kernel
theorem dX5_book_70 : decode cX5_book 70 = .ok (.getfield 32, 3) := by decide +kernel
theorem dX5_book_73 : decode cX5_book 73 = .ok (.aload_n 0, 1) := by decide +kernel
theorem dX5_book_74 : decode cX5_book 74 = .ok (.getfield 23, 3) := by decide +kernel
theorem dX5_book_77 : decode cX5_book 77 = .ok (.iconst 0, 1) := by decide +kernel
theorem dX5_book_78 : decode cX5_book 78 = .ok (.invokevirtual 99, 3) := by decide +kernel
theorem dX5_book_81 : decode cX5_book 81 = .ok (.aload_n 0, 1) := by decide +kernel
theorem dX5_book_82 : decode cX5_book 82 = .ok (.getfield 23, 3) := by decide +kernel
theorem dX5_book_85 : decode cX5_book 85 = .ok (.getfield 103, 3) := by decide +kernel
theorem dX5_book_88 : decode cX5_book 88 = .ok (.ireturn, 1) := by decide +kernel
theorem dX5_fault_0 : decode cX5_fault 0 = .ok (.iload_n 1, 1) := by decide +kernel
theorem dX5_fault_1 : decode cX5_fault 1 = .ok (.ifCond .ne 8, 3) := by decide +kernel
theorem dX5_fault_4 : decode cX5_fault 4 = .ok (.aload_n 0, 1) := by decide +kernel
theorem dX5_fault_5 : decode cX5_fault 5 = .ok (.getfield 68, 3) := by decide +kernel
theorem dX5_fault_8 : decode cX5_fault 8 = .ok (.ireturn, 1) := by decide +kernel
theorem dX5_fault_9 : decode cX5_fault 9 = .ok (.iload_n 1, 1) := by decide +kernel
theorem dX5_fault_10 : decode cX5_fault 10 = .ok (.iconst 1, 1) := by decide +kernel
theorem dX5_fault_11 : decode cX5_fault 11 = .ok (.if_icmp .ne 10, 3) := by decide +kernel
theorem dX5_fault_14 : decode cX5_fault 14 = .ok (.aload_n 0, 1) := by decide +kernel
theorem dX5_fault_15 : decode cX5_fault 15 = .ok (.getfield 72, 3) := by decide +kernel
theorem dX5_fault_18 : decode cX5_fault 18 = .ok (.goto 4, 3) := by decide +kernel
theorem dX5_fault_21 : decode cX5_fault 21 = .ok (.iconst (-1), 1) := by decide +kernel
theorem dX5_fault_22 : decode cX5_fault 22 = .ok (.ireturn, 1) := by decide +kernel
theorem dX5_ink_0 : decode cX5_ink 0 = .ok (.aload_n 0, 1) := by decide +kernel
theorem dX5_ink_1 : decode cX5_ink 1 = .ok (.iload_n 1, 1) := by decide +kernel
theorem dX5_ink_2 : decode cX5_ink 2 = .ok (.invokevirtual 106, 3) := by decide +kernel
theorem dX5_ink_5 : decode cX5_ink 5 = .ok (.ifCond .eq 6, 3) := by decide +kernel
theorem dX5_ink_8 : decode cX5_ink 8 = .ok (.bipush (-2), 2) := by decide +kernel
theorem dX5_ink_10 : decode cX5_ink 10 = .ok (.ireturn, 1) := by decide +kernel
theorem dX5_ink_11 : decode cX5_ink 11 = .ok (.iload_n 2, 1) := by decide +kernel
theorem dX5_ink_12 : decode cX5_ink 12 = .ok (.tableswitch 58 0 2 #[28, 38, 48], 28) := by decide +kernel
theorem dX5_ink_40 : decode cX5_ink 40 = .ok (.aload_n 0, 1) := by decide +kernel
theorem dX5_ink_41 : decode cX5_ink 41 = .ok (.getfield 23, 3) := by decide +kernel
theorem dX5_ink_44 : decode cX5_ink 44 = .ok (.getfield 110, 3) := by decide +kernel
theorem dX5_ink_47 : decode cX5_ink 47 = .ok (.iload_n 1, 1) := by decide +kernel
theorem dX5_ink_48 : decode cX5_ink 48 = .ok (.iaload, 1) := by decide +kernel
theorem dX5_ink_49 : decode cX5_ink 49 = .ok (.ireturn, 1) := by decide +kernel
theorem dX5_ink_50 : decode cX5_ink 50 = .ok (.aload_n 0, 1) := by decide +kernel
theorem dX5_ink_51 : decode cX5_ink 51 = .ok (.getfield 23, 3) := by decide +kernel
theorem dX5_ink_54 : decode cX5_ink 54 = .ok (.getfield 113, 3) := by decide +kernel
theorem dX5_ink_57 : decode cX5_ink 57 = .ok (.iload_n 1, 1) := by decide +kernel
theorem dX5_ink_58 : decode cX5_ink 58 = .ok (.iaload, 1) := by decide +kernel
theorem dX5_ink_59 : decode cX5_ink 59 = .ok (.ireturn, 1) := by decide +kernel
theorem dX5_ink_60 : decode cX5_ink 60 = .ok (.aload_n 0, 1) := by decide +kernel
theorem dX5_ink_61 : decode cX5_ink 61 = .ok (.getfield 23, 3) := by decide +kernel
theorem dX5_ink_64 : decode cX5_ink 64 = .ok (.getfield 116, 3) := by decide +kernel
theorem dX5_ink_67 : decode cX5_ink 67 = .ok (.iload_n 1, 1) := by decide +kernel
theorem dX5_ink_68 : decode cX5_ink 68 = .ok (.iaload, 1) := by decide +kernel
theorem dX5_ink_69 : decode cX5_ink 69 = .ok (.ireturn, 1) := by decide +kernel
theorem dX5_ink_70 : decode cX5_ink 70 = .ok (.bipush (-2), 2) := by decide +kernel
theorem dX5_ink_72 : decode cX5_ink 72 = .ok (.ireturn, 1) := by decide +kernel
theorem dX5_page_0 : decode cX5_page 0 = .ok (.aload_n 0, 1) := by decide +kernel
theorem dX5_page_1 : decode cX5_page 1 = .ok (.iload_n 1, 1) := by decide +kernel
theorem dX5_page_2 : decode cX5_page 2 = .ok (.invokevirtual 119, 3) := by decide +kernel
theorem dX5_page_5 : decode cX5_page 5 = .ok (.ifCond .eq 8, 3) := by decide +kernel
theorem dX5_page_8 : decode cX5_page 8 = .ok (.bipush (-2), 2) := by decide +kernel
theorem dX5_page_10 : decode cX5_page 10 = .ok (.goto 12, 3) := by decide +kernel
theorem dX5_page_13 : decode cX5_page 13 = .ok (.aload_n 0, 1) := by decide +kernel
theorem dX5_page_14 : decode cX5_page 14 = .ok (.getfield 23, 3) := by decide +kernel
theorem dX5_page_17 : decode cX5_page 17 = .ok (.getfield 122, 3) := by decide +kernel
theorem dX5_page_20 : decode cX5_page 20 = .ok (.iload_n 1, 1) := by decide +kernel
theorem dX5_page_21 : decode cX5_page 21 = .ok (.iaload, 1) := by decide +kernel
theorem dX5_page_22 : decode cX5_page 22 = .ok (.ireturn, 1) := by decide +kernel
theorem dX5_entry_0 : decode cX5_entry 0 = .ok (.aload_n 0, 1) := by decide +kernel
theorem dX5_entry_1 : decode cX5_entry 1 = .ok (.iload_n 1, 1) := by decide +kernel
theorem dX5_entry_2 : decode cX5_entry 2 = .ok (.invokevirtual 125, 3) := by decide +kernel
theorem dX5_entry_5 : decode cX5_entry 5 = .ok (.ifCond .eq 6, 3) := by decide +kernel
theorem dX5_entry_8 : decode cX5_entry 8 = .ok (.bipush (-2), 2) := by decide +kernel
theorem dX5_entry_10 : decode cX5_entry 10 = .ok (.ireturn, 1) := by decide +kernel
theorem dX5_entry_11 : decode cX5_entry 11 = .ok (.iload_n 2, 1) := by decide +kernel
theorem dX5_entry_12 : decode cX5_entry 12 = .ok (.tableswitch 86 0 4 #[36, 46, 56, 66, 76], 36) := by decide +kernel
theorem dX5_entry_48 : decode cX5_entry 48 = .ok (.aload_n 0, 1) := by decide +kernel
theorem dX5_entry_49 : decode cX5_entry 49 = .ok (.getfield 23, 3) := by decide +kernel
theorem dX5_entry_52 : decode cX5_entry 52 = .ok (.getfield 128, 3) := by decide +kernel
theorem dX5_entry_55 : decode cX5_entry 55 = .ok (.iload_n 1, 1) := by decide +kernel
theorem dX5_entry_56 : decode cX5_entry 56 = .ok (.iaload, 1) := by decide +kernel
theorem dX5_entry_57 : decode cX5_entry 57 = .ok (.ireturn, 1) := by decide +kernel
theorem dX5_entry_58 : decode cX5_entry 58 = .ok (.aload_n 0, 1) := by decide +kernel
theorem dX5_entry_59 : decode cX5_entry 59 = .ok (.getfield 23, 3) := by decide +kernel
theorem dX5_entry_62 : decode cX5_entry 62 = .ok (.getfield 131, 3) := by decide +kernel
theorem dX5_entry_65 : decode cX5_entry 65 = .ok (.iload_n 1, 1) := by decide +kernel
theorem dX5_entry_66 : decode cX5_entry 66 = .ok (.iaload, 1) := by decide +kernel
theorem dX5_entry_67 : decode cX5_entry 67 = .ok (.ireturn, 1) := by decide +kernel
theorem dX5_entry_68 : decode cX5_entry 68 = .ok (.aload_n 0, 1) := by decide +kernel
theorem dX5_entry_69 : decode cX5_entry 69 = .ok (.getfield 23, 3) := by decide +kernel
theorem dX5_entry_72 : decode cX5_entry 72 = .ok (.getfield 134, 3) := by decide +kernel
theorem dX5_entry_75 : decode cX5_entry 75 = .ok (.iload_n 1, 1) := by decide +kernel
theorem dX5_entry_76 : decode cX5_entry 76 = .ok (.iaload, 1) := by decide +kernel
theorem dX5_entry_77 : decode cX5_entry 77 = .ok (.ireturn, 1) := by decide +kernel
theorem dX5_entry_78 : decode cX5_entry 78 = .ok (.aload_n 0, 1) := by decide +kernel
theorem dX5_entry_79 : decode cX5_entry 79 = .ok (.getfield 23, 3) := by decide +kernel
theorem dX5_entry_82 : decode cX5_entry 82 = .ok (.getfield 137, 3) := by decide +kernel
theorem dX5_entry_85 : decode cX5_entry 85 = .ok (.iload_n 1, 1) := by decide +kernel
theorem dX5_entry_86 : decode cX5_entry 86 = .ok (.iaload, 1) := by decide +kernel
theorem dX5_entry_87 : decode cX5_entry 87 = .ok (.ireturn, 1) := by decide +kernel
theorem dX5_entry_88 : decode cX5_entry 88 = .ok (.aload_n 0, 1) := by decide +kernel
theorem dX5_entry_89 : decode cX5_entry 89 = .ok (.getfield 23, 3) := by decide +kernel
theorem dX5_entry_92 : decode cX5_entry 92 = .ok (.getfield 140, 3) := by decide +kernel
theorem dX5_entry_95 : decode cX5_entry 95 = .ok (.iload_n 1, 1) := by decide +kernel
theorem dX5_entry_96 : decode cX5_entry 96 = .ok (.iaload, 1) := by decide +kernel
theorem dX5_entry_97 : decode cX5_entry 97 = .ok (.ireturn, 1) := by decide +kernel
theorem dX5_entry_98 : decode cX5_entry 98 = .ok (.bipush (-2), 2) := by decide +kernel
theorem dX5_entry_100 : decode cX5_entry 100 = .ok (.ireturn, 1) := by decide +kernel
theorem dX5_on_0 : decode cX5_on 0 = .ok (.aload_n 0, 1) := by decide +kernel
theorem dX5_on_1 : decode cX5_on 1 = .ok (.iload_n 1, 1) := by decide +kernel
theorem dX5_on_2 : decode cX5_on 2 = .ok (.invokevirtual 119, 3) := by decide +kernel
theorem dX5_on_5 : decode cX5_on 5 = .ok (.ifCond .eq 8, 3) := by decide +kernel
theorem dX5_on_8 : decode cX5_on 8 = .ok (.bipush (-2), 2) := by decide +kernel
theorem dX5_on_10 : decode cX5_on 10 = .ok (.goto 8, 3) := by decide +kernel
theorem dX5_on_13 : decode cX5_on 13 = .ok (.aload_n 0, 1) := by decide +kernel
theorem dX5_on_14 : decode cX5_on 14 = .ok (.iload_n 1, 1) := by decide +kernel
theorem dX5_on_15 : decode cX5_on 15 = .ok (.invokevirtual 142, 3) := by decide +kernel
theorem dX5_on_18 : decode cX5_on 18 = .ok (.ireturn, 1) := by decide +kernel
theorem dX5_faces_0 : decode cX5_faces 0 = .ok (.aload_n 0, 1) := by decide +kernel
theorem dX5_faces_1 : decode cX5_faces 1 = .ok (.iload_n 1, 1) := by decide +kernel
theorem dX5_faces_2 : decode cX5_faces 2 = .ok (.invokevirtual 125, 3) := by decide +kernel
theorem dX5_faces_5 : decode cX5_faces 5 = .ok (.ifCond .eq 8, 3) := by decide +kernel
theorem dX5_faces_8 : decode cX5_faces 8 = .ok (.bipush (-2), 2) := by decide +kernel
theorem dX5_faces_10 : decode cX5_faces 10 = .ok (.goto 12, 3) := by decide +kernel
theorem dX5_faces_13 : decode cX5_faces 13 = .ok (.aload_n 0, 1) := by decide +kernel
theorem dX5_faces_14 : decode cX5_faces 14 = .ok (.getfield 23, 3) := by decide +kernel
theorem dX5_faces_17 : decode cX5_faces 17 = .ok (.getfield 146, 3) := by decide +kernel
theorem dX5_faces_20 : decode cX5_faces 20 = .ok (.iload_n 1, 1) := by decide +kernel
theorem dX5_faces_21 : decode cX5_faces 21 = .ok (.iaload, 1) := by decide +kernel
theorem dX5_faces_22 : decode cX5_faces 22 = .ok (.ireturn, 1) := by decide +kernel
theorem dX5_there_0 : decode cX5_there 0 = .ok (.aload_n 0, 1) := by decide +kernel
theorem dX5_there_1 : decode cX5_there 1 = .ok (.iload_n 1, 1) := by decide +kernel
theorem dX5_there_2 : decode cX5_there 2 = .ok (.invokevirtual 149, 3) := by decide +kernel
theorem dX5_there_5 : decode cX5_there 5 = .ok (.ifCond .eq 8, 3) := by decide +kernel
theorem dX5_there_8 : decode cX5_there 8 = .ok (.bipush (-2), 2) := by decide +kernel
theorem dX5_there_10 : decode cX5_there 10 = .ok (.goto 8, 3) := by decide +kernel
theorem dX5_there_13 : decode cX5_there 13 = .ok (.aload_n 0, 1) := by decide +kernel
theorem dX5_there_14 : decode cX5_there 14 = .ok (.iload_n 1, 1) := by decide +kernel
theorem dX5_there_15 : decode cX5_there 15 = .ok (.invokevirtual 152, 3) := by decide +kernel
theorem dX5_there_18 : decode cX5_there 18 = .ok (.ireturn, 1) := by decide +kernel
theorem dX5_put_0 : decode cX5_put 0 = .ok (.aload_n 0, 1) := by decide +kernel
theorem dX5_put_1 : decode cX5_put 1 = .ok (.invokevirtual 155, 3) := by decide +kernel
theorem dX5_put_4 : decode cX5_put 4 = .ok (.ifCond .eq 6, 3) := by decide +kernel
theorem dX5_put_7 : decode cX5_put 7 = .ok (.bipush (-2), 2) := by decide +kernel
theorem dX5_put_9 : decode cX5_put 9 = .ok (.ireturn, 1) := by decide +kernel
theorem dX5_put_10 : decode cX5_put 10 = .ok (.iconst 0, 1) := by decide +kernel
theorem dX5_put_11 : decode cX5_put 11 = .ok (.istore_n 1, 1) := by decide +kernel
theorem dX5_put_12 : decode cX5_put 12 = .ok (.iconst 0, 1) := by decide +kernel
theorem dX5_put_13 : decode cX5_put 13 = .ok (.istore_n 2, 1) := by decide +kernel
theorem dX5_put_14 : decode cX5_put 14 = .ok (.iload_n 2, 1) := by decide +kernel
theorem dX5_put_15 : decode cX5_put 15 = .ok (.aload_n 0, 1) := by decide +kernel
theorem dX5_put_16 : decode cX5_put 16 = .ok (.getfield 23, 3) := by decide +kernel
theorem dX5_put_19 : decode cX5_put 19 = .ok (.getfield 159, 3) := by decide +kernel
theorem dX5_put_22 : decode cX5_put 22 = .ok (.if_icmp .ge 23, 3) := by decide +kernel
theorem dX5_put_25 : decode cX5_put 25 = .ok (.aload_n 0, 1) := by decide +kernel
theorem dX5_put_26 : decode cX5_put 26 = .ok (.iload_n 2, 1) := by decide +kernel
theorem dX5_put_27 : decode cX5_put 27 = .ok (.invokevirtual 162, 3) := by decide +kernel
theorem dX5_put_30 : decode cX5_put 30 = .ok (.ifCond .eq 9, 3) := by decide +kernel
theorem dX5_put_33 : decode cX5_put 33 = .ok (.iload_n 1, 1) := by decide +kernel
theorem dX5_put_34 : decode cX5_put 34 = .ok (.iconst 1, 1) := by decide +kernel
theorem dX5_put_35 : decode cX5_put 35 = .ok (.iload_n 2, 1) := by decide +kernel
theorem dX5_put_36 : decode cX5_put 36 = .ok (.ishl, 1) := by decide +kernel
theorem dX5_put_37 : decode cX5_put 37 = .ok (.ior, 1) := by decide +kernel
theorem dX5_put_38 : decode cX5_put 38 = .ok (.istore_n 1, 1) := by decide +kernel
theorem dX5_put_39 : decode cX5_put 39 = .ok (.iinc 2 1, 3) := by decide +kernel
theorem dX5_put_42 : decode cX5_put 42 = .ok (.goto (-28), 3) := by decide +kernel
theorem dX5_put_45 : decode cX5_put 45 = .ok (.iload_n 1, 1) := by decide +kernel
theorem dX5_put_46 : decode cX5_put 46 = .ok (.ireturn, 1) := by decide +kernel
theorem dX5_lies_0 : decode cX5_lies 0 = .ok (.aload_n 0, 1) := by decide +kernel
theorem dX5_lies_1 : decode cX5_lies 1 = .ok (.invokevirtual 155, 3) := by decide +kernel
theorem dX5_lies_4 : decode cX5_lies 4 = .ok (.ifCond .eq 6, 3) := by decide +kernel
theorem dX5_lies_7 : decode cX5_lies 7 = .ok (.bipush (-2), 2) := by decide +kernel
theorem dX5_lies_9 : decode cX5_lies 9 = .ok (.ireturn, 1) := by decide +kernel
theorem dX5_lies_10 : decode cX5_lies 10 = .ok (.iconst 0, 1) := by decide +kernel
theorem dX5_lies_11 : decode cX5_lies 11 = .ok (.istore_n 1, 1) := by decide +kernel
theorem dX5_lies_12 : decode cX5_lies 12 = .ok (.iconst 0, 1) := by decide +kernel
theorem dX5_lies_13 : decode cX5_lies 13 = .ok (.istore_n 2, 1) := by decide +kernel
theorem dX5_lies_14 : decode cX5_lies 14 = .ok (.iload_n 2, 1) := by decide +kernel
theorem dX5_lies_15 : decode cX5_lies 15 = .ok (.aload_n 0, 1) := by decide +kernel
theorem dX5_lies_16 : decode cX5_lies 16 = .ok (.getfield 23, 3) := by decide +kernel
theorem dX5_lies_19 : decode cX5_lies 19 = .ok (.getfield 159, 3) := by decide +kernel
theorem dX5_lies_22 : decode cX5_lies 22 = .ok (.if_icmp .ge 36, 3) := by decide +kernel
theorem dX5_lies_25 : decode cX5_lies 25 = .ok (.aload_n 0, 1) := by decide +kernel
theorem dX5_lies_26 : decode cX5_lies 26 = .ok (.getfield 23, 3) := by decide +kernel
theorem dX5_lies_29 : decode cX5_lies 29 = .ok (.getfield 137, 3) := by decide +kernel
theorem dX5_lies_32 : decode cX5_lies 32 = .ok (.iload_n 2, 1) := by decide +kernel
theorem dX5_lies_33 : decode cX5_lies 33 = .ok (.iaload, 1) := by decide +kernel
theorem dX5_lies_34 : decode cX5_lies 34 = .ok (.aload_n 0, 1) := by decide +kernel
theorem dX5_lies_35 : decode cX5_lies 35 = .ok (.getfield 23, 3) := by decide +kernel
theorem dX5_lies_38 : decode cX5_lies 38 = .ok (.getfield 134, 3) := by decide +kernel
theorem dX5_lies_41 : decode cX5_lies 41 = .ok (.iload_n 2, 1) := by decide +kernel
theorem dX5_lies_42 : decode cX5_lies 42 = .ok (.iaload, 1) := by decide +kernel
theorem dX5_lies_43 : decode cX5_lies 43 = .ok (.if_icmp .eq 9, 3) := by decide +kernel
theorem dX5_lies_46 : decode cX5_lies 46 = .ok (.iload_n 1, 1) := by decide +kernel
theorem dX5_lies_47 : decode cX5_lies 47 = .ok (.iconst 1, 1) := by decide +kernel
theorem dX5_lies_48 : decode cX5_lies 48 = .ok (.iload_n 2, 1) := by decide +kernel
theorem dX5_lies_49 : decode cX5_lies 49 = .ok (.ishl, 1) := by decide +kernel
theorem dX5_lies_50 : decode cX5_lies 50 = .ok (.ior, 1) := by decide +kernel
theorem dX5_lies_51 : decode cX5_lies 51 = .ok (.istore_n 1, 1) := by decide +kernel
theorem dX5_lies_52 : decode cX5_lies 52 = .ok (.iinc 2 1, 3) := by decide +kernel
theorem dX5_lies_55 : decode cX5_lies 55 = .ok (.goto (-41), 3) := by decide +kernel
theorem dX5_lies_58 : decode cX5_lies 58 = .ok (.iload_n 1, 1) := by decide +kernel
theorem dX5_lies_59 : decode cX5_lies 59 = .ok (.ireturn, 1) := by decide +kernel
theorem dX5_uses_0 : decode cX5_uses 0 = .ok (.aload_n 0, 1) := by decide +kernel
theorem dX5_uses_1 : decode cX5_uses 1 = .ok (.iload_n 1, 1) := by decide +kernel
theorem dX5_uses_2 : decode cX5_uses 2 = .ok (.invokevirtual 106, 3) := by decide +kernel
theorem dX5_uses_5 : decode cX5_uses 5 = .ok (.ifCond .eq 6, 3) := by decide +kernel
theorem dX5_uses_8 : decode cX5_uses 8 = .ok (.bipush (-2), 2) := by decide +kernel
theorem dX5_uses_10 : decode cX5_uses 10 = .ok (.ireturn, 1) := by decide +kernel
theorem dX5_uses_11 : decode cX5_uses 11 = .ok (.iconst 0, 1) := by decide +kernel
theorem dX5_uses_12 : decode cX5_uses 12 = .ok (.istore_n 2, 1) := by decide +kernel
theorem dX5_uses_13 : decode cX5_uses 13 = .ok (.iconst 0, 1) := by decide +kernel
theorem dX5_uses_14 : decode cX5_uses 14 = .ok (.istore_n 3, 1) := by decide +kernel
theorem dX5_uses_15 : decode cX5_uses 15 = .ok (.iload_n 3, 1) := by decide +kernel
theorem dX5_uses_16 : decode cX5_uses 16 = .ok (.aload_n 0, 1) := by decide +kernel
theorem dX5_uses_17 : decode cX5_uses 17 = .ok (.getfield 23, 3) := by decide +kernel
theorem dX5_uses_20 : decode cX5_uses 20 = .ok (.getfield 159, 3) := by decide +kernel
theorem dX5_uses_23 : decode cX5_uses 23 = .ok (.if_icmp .ge 28, 3) := by decide +kernel
theorem dX5_uses_26 : decode cX5_uses 26 = .ok (.aload_n 0, 1) := by decide +kernel
theorem dX5_uses_27 : decode cX5_uses 27 = .ok (.getfield 23, 3) := by decide +kernel
theorem dX5_uses_30 : decode cX5_uses 30 = .ok (.getfield 131, 3) := by decide +kernel
theorem dX5_uses_33 : decode cX5_uses 33 = .ok (.iload_n 3, 1) := by decide +kernel
theorem dX5_uses_34 : decode cX5_uses 34 = .ok (.iaload, 1) := by decide +kernel
theorem dX5_uses_35 : decode cX5_uses 35 = .ok (.iload_n 1, 1) := by decide +kernel
theorem dX5_uses_36 : decode cX5_uses 36 = .ok (.if_icmp .ne 9, 3) := by decide +kernel
theorem dX5_uses_39 : decode cX5_uses 39 = .ok (.iload_n 2, 1) := by decide +kernel
theorem dX5_uses_40 : decode cX5_uses 40 = .ok (.iconst 1, 1) := by decide +kernel
theorem dX5_uses_41 : decode cX5_uses 41 = .ok (.iload_n 3, 1) := by decide +kernel
theorem dX5_uses_42 : decode cX5_uses 42 = .ok (.ishl, 1) := by decide +kernel
theorem dX5_uses_43 : decode cX5_uses 43 = .ok (.ior, 1) := by decide +kernel
theorem dX5_uses_44 : decode cX5_uses 44 = .ok (.istore_n 2, 1) := by decide +kernel
theorem dX5_uses_45 : decode cX5_uses 45 = .ok (.iinc 3 1, 3) := by decide +kernel
theorem dX5_uses_48 : decode cX5_uses 48 = .ok (.goto (-33), 3) := by decide +kernel
theorem dX5_uses_51 : decode cX5_uses 51 = .ok (.iload_n 2, 1) := by decide +kernel
theorem dX5_uses_52 : decode cX5_uses 52 = .ok (.ireturn, 1) := by decide +kernel
theorem dX5_newest_0 : decode cX5_newest 0 = .ok (.aload_n 0, 1) := by decide +kernel
theorem dX5_newest_1 : decode cX5_newest 1 = .ok (.iload_n 1, 1) := by decide +kernel
theorem dX5_newest_2 : decode cX5_newest 2 = .ok (.invokevirtual 149, 3) := by decide +kernel
theorem dX5_newest_5 : decode cX5_newest 5 = .ok (.ifCond .eq 6, 3) := by decide +kernel
theorem dX5_newest_8 : decode cX5_newest 8 = .ok (.bipush (-2), 2) := by decide +kernel
theorem dX5_newest_10 : decode cX5_newest 10 = .ok (.ireturn, 1) := by decide +kernel
theorem dX5_newest_11 : decode cX5_newest 11 = .ok (.iconst (-1), 1) := by decide +kernel
theorem dX5_newest_12 : decode cX5_newest 12 = .ok (.istore_n 2, 1) := by decide +kernel
theorem dX5_newest_13 : decode cX5_newest 13 = .ok (.iconst 0, 1) := by decide +kernel
theorem dX5_newest_14 : decode cX5_newest 14 = .ok (.istore_n 3, 1) := by decide +kernel
theorem dX5_newest_15 : decode cX5_newest 15 = .ok (.iload_n 3, 1) := by decide +kernel
theorem dX5_newest_16 : decode cX5_newest 16 = .ok (.aload_n 0, 1) := by decide +kernel
theorem dX5_newest_17 : decode cX5_newest 17 = .ok (.getfield 23, 3) := by decide +kernel
theorem dX5_newest_20 : decode cX5_newest 20 = .ok (.getfield 159, 3) := by decide +kernel
theorem dX5_newest_23 : decode cX5_newest 23 = .ok (.if_icmp .ge 49, 3) := by decide +kernel
theorem dX5_newest_26 : decode cX5_newest 26 = .ok (.aload_n 0, 1) := by decide +kernel
theorem dX5_newest_27 : decode cX5_newest 27 = .ok (.getfield 23, 3) := by decide +kernel
theorem dX5_newest_30 : decode cX5_newest 30 = .ok (.iload_n 3, 1) := by decide +kernel
theorem dX5_newest_31 : decode cX5_newest 31 = .ok (.iload_n 1, 1) := by decide +kernel
theorem dX5_newest_32 : decode cX5_newest 32 = .ok (.invokevirtual 165, 3) := by decide +kernel
theorem dX5_newest_35 : decode cX5_newest 35 = .ok (.ifCond .eq 31, 3) := by decide +kernel
theorem dX5_newest_38 : decode cX5_newest 38 = .ok (.iload_n 2, 1) := by decide +kernel
theorem dX5_newest_39 : decode cX5_newest 39 = .ok (.iconst (-1), 1) := by decide +kernel
theorem dX5_newest_40 : decode cX5_newest 40 = .ok (.if_icmp .eq 24, 3) := by decide +kernel
theorem dX5_newest_43 : decode cX5_newest 43 = .ok (.aload_n 0, 1) := by decide +kernel
theorem dX5_newest_44 : decode cX5_newest 44 = .ok (.getfield 23, 3) := by decide +kernel
theorem dX5_newest_47 : decode cX5_newest 47 = .ok (.getfield 134, 3) := by decide +kernel
theorem dX5_newest_50 : decode cX5_newest 50 = .ok (.iload_n 3, 1) := by decide +kernel
theorem dX5_newest_51 : decode cX5_newest 51 = .ok (.iaload, 1) := by decide +kernel
theorem dX5_newest_52 : decode cX5_newest 52 = .ok (.aload_n 0, 1) := by decide +kernel
theorem dX5_newest_53 : decode cX5_newest 53 = .ok (.getfield 23, 3) := by decide +kernel
theorem dX5_newest_56 : decode cX5_newest 56 = .ok (.getfield 134, 3) := by decide +kernel
theorem dX5_newest_59 : decode cX5_newest 59 = .ok (.iload_n 2, 1) := by decide +kernel
theorem dX5_newest_60 : decode cX5_newest 60 = .ok (.iaload, 1) := by decide +kernel
theorem dX5_newest_61 : decode cX5_newest 61 = .ok (.if_icmp .le 5, 3) := by decide +kernel
theorem dX5_newest_64 : decode cX5_newest 64 = .ok (.iload_n 3, 1) := by decide +kernel
theorem dX5_newest_65 : decode cX5_newest 65 = .ok (.istore_n 2, 1) := by decide +kernel
theorem dX5_newest_66 : decode cX5_newest 66 = .ok (.iinc 3 1, 3) := by decide +kernel
theorem dX5_newest_69 : decode cX5_newest 69 = .ok (.goto (-54), 3) := by decide +kernel
theorem dX5_newest_72 : decode cX5_newest 72 = .ok (.iload_n 2, 1) := by decide +kernel
theorem dX5_newest_73 : decode cX5_newest 73 = .ok (.ireturn, 1) := by decide +kernel
theorem dX5_oldest_0 : decode cX5_oldest 0 = .ok (.aload_n 0, 1) := by decide +kernel
theorem dX5_oldest_1 : decode cX5_oldest 1 = .ok (.iload_n 1, 1) := by decide +kernel
theorem dX5_oldest_2 : decode cX5_oldest 2 = .ok (.invokevirtual 149, 3) := by decide +kernel
theorem dX5_oldest_5 : decode cX5_oldest 5 = .ok (.ifCond .eq 6, 3) := by decide +kernel
theorem dX5_oldest_8 : decode cX5_oldest 8 = .ok (.bipush (-2), 2) := by decide +kernel
theorem dX5_oldest_10 : decode cX5_oldest 10 = .ok (.ireturn, 1) := by decide +kernel
theorem dX5_oldest_11 : decode cX5_oldest 11 = .ok (.iconst (-1), 1) := by decide +kernel
theorem dX5_oldest_12 : decode cX5_oldest 12 = .ok (.istore_n 2, 1) := by decide +kernel
theorem dX5_oldest_13 : decode cX5_oldest 13 = .ok (.iconst 0, 1) := by decide +kernel
theorem dX5_oldest_14 : decode cX5_oldest 14 = .ok (.istore_n 3, 1) := by decide +kernel
theorem dX5_oldest_15 : decode cX5_oldest 15 = .ok (.iload_n 3, 1) := by decide +kernel
theorem dX5_oldest_16 : decode cX5_oldest 16 = .ok (.aload_n 0, 1) := by decide +kernel
theorem dX5_oldest_17 : decode cX5_oldest 17 = .ok (.getfield 23, 3) := by decide +kernel
theorem dX5_oldest_20 : decode cX5_oldest 20 = .ok (.getfield 159, 3) := by decide +kernel
theorem dX5_oldest_23 : decode cX5_oldest 23 = .ok (.if_icmp .ge 49, 3) := by decide +kernel
theorem dX5_oldest_26 : decode cX5_oldest 26 = .ok (.aload_n 0, 1) := by decide +kernel
theorem dX5_oldest_27 : decode cX5_oldest 27 = .ok (.getfield 23, 3) := by decide +kernel
theorem dX5_oldest_30 : decode cX5_oldest 30 = .ok (.iload_n 3, 1) := by decide +kernel
theorem dX5_oldest_31 : decode cX5_oldest 31 = .ok (.iload_n 1, 1) := by decide +kernel
theorem dX5_oldest_32 : decode cX5_oldest 32 = .ok (.invokevirtual 165, 3) := by decide +kernel
theorem dX5_oldest_35 : decode cX5_oldest 35 = .ok (.ifCond .eq 31, 3) := by decide +kernel
theorem dX5_oldest_38 : decode cX5_oldest 38 = .ok (.iload_n 2, 1) := by decide +kernel
theorem dX5_oldest_39 : decode cX5_oldest 39 = .ok (.iconst (-1), 1) := by decide +kernel
theorem dX5_oldest_40 : decode cX5_oldest 40 = .ok (.if_icmp .eq 24, 3) := by decide +kernel
theorem dX5_oldest_43 : decode cX5_oldest 43 = .ok (.aload_n 0, 1) := by decide +kernel
theorem dX5_oldest_44 : decode cX5_oldest 44 = .ok (.getfield 23, 3) := by decide +kernel
theorem dX5_oldest_47 : decode cX5_oldest 47 = .ok (.getfield 134, 3) := by decide +kernel
theorem dX5_oldest_50 : decode cX5_oldest 50 = .ok (.iload_n 3, 1) := by decide +kernel
theorem dX5_oldest_51 : decode cX5_oldest 51 = .ok (.iaload, 1) := by decide +kernel
theorem dX5_oldest_52 : decode cX5_oldest 52 = .ok (.aload_n 0, 1) := by decide +kernel
theorem dX5_oldest_53 : decode cX5_oldest 53 = .ok (.getfield 23, 3) := by decide +kernel
theorem dX5_oldest_56 : decode cX5_oldest 56 = .ok (.getfield 134, 3) := by decide +kernel
theorem dX5_oldest_59 : decode cX5_oldest 59 = .ok (.iload_n 2, 1) := by decide +kernel
theorem dX5_oldest_60 : decode cX5_oldest 60 = .ok (.iaload, 1) := by decide +kernel
theorem dX5_oldest_61 : decode cX5_oldest 61 = .ok (.if_icmp .ge 5, 3) := by decide +kernel
theorem dX5_oldest_64 : decode cX5_oldest 64 = .ok (.iload_n 3, 1) := by decide +kernel
theorem dX5_oldest_65 : decode cX5_oldest 65 = .ok (.istore_n 2, 1) := by decide +kernel
theorem dX5_oldest_66 : decode cX5_oldest 66 = .ok (.iinc 3 1, 3) := by decide +kernel
theorem dX5_oldest_69 : decode cX5_oldest 69 = .ok (.goto (-54), 3) := by decide +kernel
theorem dX5_oldest_72 : decode cX5_oldest 72 = .ok (.iload_n 2, 1) := by decide +kernel
theorem dX5_oldest_73 : decode cX5_oldest 73 = .ok (.ireturn, 1) := by decide +kernel
theorem dX5_age_0 : decode cX5_age 0 = .ok (.aload_n 0, 1) := by decide +kernel
theorem dX5_age_1 : decode cX5_age 1 = .ok (.iload_n 1, 1) := by decide +kernel
theorem dX5_age_2 : decode cX5_age 2 = .ok (.invokevirtual 125, 3) := by decide +kernel
theorem dX5_age_5 : decode cX5_age 5 = .ok (.ifCond .ne 11, 3) := by decide +kernel
theorem dX5_age_8 : decode cX5_age 8 = .ok (.aload_n 0, 1) := by decide +kernel
theorem dX5_age_9 : decode cX5_age 9 = .ok (.iload_n 2, 1) := by decide +kernel
theorem dX5_age_10 : decode cX5_age 10 = .ok (.invokevirtual 149, 3) := by decide +kernel
theorem dX5_age_13 : decode cX5_age 13 = .ok (.ifCond .eq 6, 3) := by decide +kernel
theorem dX5_age_16 : decode cX5_age 16 = .ok (.bipush (-2), 2) := by decide +kernel
theorem dX5_age_18 : decode cX5_age 18 = .ok (.ireturn, 1) := by decide +kernel
theorem dX5_age_19 : decode cX5_age 19 = .ok (.aload_n 0, 1) := by decide +kernel
theorem dX5_age_20 : decode cX5_age 20 = .ok (.getfield 23, 3) := by decide +kernel
theorem dX5_age_23 : decode cX5_age 23 = .ok (.iload_n 1, 1) := by decide +kernel
theorem dX5_age_24 : decode cX5_age 24 = .ok (.iload_n 2, 1) := by decide +kernel
theorem dX5_age_25 : decode cX5_age 25 = .ok (.invokevirtual 165, 3) := by decide +kernel
theorem dX5_age_28 : decode cX5_age 28 = .ok (.ifCond .eq 17, 3) := by decide +kernel
theorem dX5_age_31 : decode cX5_age 31 = .ok (.iload_n 2, 1) := by decide +kernel
theorem dX5_age_32 : decode cX5_age 32 = .ok (.aload_n 0, 1) := by decide +kernel
theorem dX5_age_33 : decode cX5_age 33 = .ok (.getfield 23, 3) := by decide +kernel
theorem dX5_age_36 : decode cX5_age 36 = .ok (.getfield 134, 3) := by decide +kernel
theorem dX5_age_39 : decode cX5_age 39 = .ok (.iload_n 1, 1) := by decide +kernel
theorem dX5_age_40 : decode cX5_age 40 = .ok (.iaload, 1) := by decide +kernel
theorem dX5_age_41 : decode cX5_age 41 = .ok (.isub, 1) := by decide +kernel
theorem dX5_age_42 : decode cX5_age 42 = .ok (.goto 4, 3) := by decide +kernel
theorem dX5_age_45 : decode cX5_age 45 = .ok (.iconst (-1), 1) := by decide +kernel
theorem dX5_age_46 : decode cX5_age 46 = .ok (.ireturn, 1) := by decide +kernel
theorem dX5_order_0 : decode cX5_order 0 = .ok (.aload_n 0, 1) := by decide +kernel
theorem dX5_order_1 : decode cX5_order 1 = .ok (.iload_n 1, 1) := by decide +kernel
theorem dX5_order_2 : decode cX5_order 2 = .ok (.invokevirtual 119, 3) := by decide +kernel
theorem dX5_order_5 : decode cX5_order 5 = .ok (.ifCond .eq 6, 3) := by decide +kernel
theorem dX5_order_8 : decode cX5_order 8 = .ok (.bipush (-2), 2) := by decide +kernel
theorem dX5_order_10 : decode cX5_order 10 = .ok (.ireturn, 1) := by decide +kernel
theorem dX5_order_11 : decode cX5_order 11 = .ok (.iconst 0, 1) := by decide +kernel
theorem dX5_order_12 : decode cX5_order 12 = .ok (.istore_n 2, 1) := by decide +kernel
theorem dX5_order_13 : decode cX5_order 13 = .ok (.iload_n 2, 1) := by decide +kernel
theorem dX5_order_14 : decode cX5_order 14 = .ok (.aload_n 0, 1) := by decide +kernel
theorem dX5_order_15 : decode cX5_order 15 = .ok (.getfield 23, 3) := by decide +kernel
theorem dX5_order_18 : decode cX5_order 18 = .ok (.getfield 159, 3) := by decide +kernel
theorem dX5_order_21 : decode cX5_order 21 = .ok (.if_icmp .ge 32, 3) := by decide +kernel
theorem dX5_order_24 : decode cX5_order 24 = .ok (.aload_n 0, 1) := by decide +kernel
theorem dX5_order_25 : decode cX5_order 25 = .ok (.getfield 23, 3) := by decide +kernel
theorem dX5_order_28 : decode cX5_order 28 = .ok (.getfield 128, 3) := by decide +kernel
theorem dX5_order_31 : decode cX5_order 31 = .ok (.iload_n 2, 1) := by decide +kernel
theorem dX5_order_32 : decode cX5_order 32 = .ok (.iaload, 1) := by decide +kernel
theorem dX5_order_33 : decode cX5_order 33 = .ok (.iload_n 1, 1) := by decide +kernel
theorem dX5_order_34 : decode cX5_order 34 = .ok (.if_icmp .ne 13, 3) := by decide +kernel
theorem dX5_order_37 : decode cX5_order 37 = .ok (.aload_n 0, 1) := by decide +kernel
theorem dX5_order_38 : decode cX5_order 38 = .ok (.iload_n 2, 1) := by decide +kernel
theorem dX5_order_39 : decode cX5_order 39 = .ok (.invokevirtual 162, 3) := by decide +kernel
theorem dX5_order_42 : decode cX5_order 42 = .ok (.ifCond .eq 5, 3) := by decide +kernel
theorem dX5_order_45 : decode cX5_order 45 = .ok (.iconst 0, 1) := by decide +kernel
theorem dX5_order_46 : decode cX5_order 46 = .ok (.ireturn, 1) := by decide +kernel
theorem dX5_order_47 : decode cX5_order 47 = .ok (.iinc 2 1, 3) := by decide +kernel
theorem dX5_order_50 : decode cX5_order 50 = .ok (.goto (-37), 3) := by decide +kernel
theorem dX5_order_53 : decode cX5_order 53 = .ok (.iconst 1, 1) := by decide +kernel
theorem dX5_order_54 : decode cX5_order 54 = .ok (.ireturn, 1) := by decide +kernel
theorem dX5_shade_0 : decode cX5_shade 0 = .ok (.aload_n 0, 1) := by decide +kernel
theorem dX5_shade_1 : decode cX5_shade 1 = .ok (.iload_n 1, 1) := by decide +kernel
theorem dX5_shade_2 : decode cX5_shade 2 = .ok (.invokevirtual 125, 3) := by decide +kernel
theorem dX5_shade_5 : decode cX5_shade 5 = .ok (.ifCond .ne 11, 3) := by decide +kernel
theorem dX5_shade_8 : decode cX5_shade 8 = .ok (.aload_n 0, 1) := by decide +kernel
theorem dX5_shade_9 : decode cX5_shade 9 = .ok (.iload_n 2, 1) := by decide +kernel
theorem dX5_shade_10 : decode cX5_shade 10 = .ok (.invokevirtual 149, 3) := by decide +kernel
theorem dX5_shade_13 : decode cX5_shade 13 = .ok (.ifCond .eq 8, 3) := by decide +kernel
theorem dX5_shade_16 : decode cX5_shade 16 = .ok (.bipush (-2), 2) := by decide +kernel
theorem dX5_shade_18 : decode cX5_shade 18 = .ok (.goto 14, 3) := by decide +kernel
theorem dX5_shade_21 : decode cX5_shade 21 = .ok (.aload_n 0, 1) := by decide +kernel
theorem dX5_shade_22 : decode cX5_shade 22 = .ok (.getfield 32, 3) := by decide +kernel
theorem dX5_shade_25 : decode cX5_shade 25 = .ok (.getfield 169, 3) := by decide +kernel
theorem dX5_shade_28 : decode cX5_shade 28 = .ok (.iload_n 2, 1) := by decide +kernel
theorem dX5_shade_29 : decode cX5_shade 29 = .ok (.aaload, 1) := by decide +kernel
theorem dX5_shade_30 : decode cX5_shade 30 = .ok (.iload_n 1, 1) := by decide +kernel
theorem dX5_shade_31 : decode cX5_shade 31 = .ok (.iaload, 1) := by decide +kernel
theorem dX5_shade_32 : decode cX5_shade 32 = .ok (.ireturn, 1) := by decide +kernel
theorem dX5_peak_0 : decode cX5_peak 0 = .ok (.aload_n 0, 1) := by decide +kernel
theorem dX5_peak_1 : decode cX5_peak 1 = .ok (.iload_n 1, 1) := by decide +kernel
theorem dX5_peak_2 : decode cX5_peak 2 = .ok (.invokevirtual 125, 3) := by decide +kernel
theorem dX5_peak_5 : decode cX5_peak 5 = .ok (.ifCond .eq 8, 3) := by decide +kernel
theorem dX5_peak_8 : decode cX5_peak 8 = .ok (.bipush (-2), 2) := by decide +kernel
theorem dX5_peak_10 : decode cX5_peak 10 = .ok (.goto 18, 3) := by decide +kernel
theorem dX5_peak_13 : decode cX5_peak 13 = .ok (.aload_n 0, 1) := by decide +kernel
theorem dX5_peak_14 : decode cX5_peak 14 = .ok (.getfield 32, 3) := by decide +kernel
theorem dX5_peak_17 : decode cX5_peak 17 = .ok (.getfield 169, 3) := by decide +kernel
theorem dX5_peak_20 : decode cX5_peak 20 = .ok (.aload_n 0, 1) := by decide +kernel
theorem dX5_peak_21 : decode cX5_peak 21 = .ok (.iload_n 1, 1) := by decide +kernel
theorem dX5_peak_22 : decode cX5_peak 22 = .ok (.invokevirtual 172, 3) := by decide +kernel
theorem dX5_peak_25 : decode cX5_peak 25 = .ok (.aaload, 1) := by decide +kernel
theorem dX5_peak_26 : decode cX5_peak 26 = .ok (.iload_n 1, 1) := by decide +kernel
theorem dX5_peak_27 : decode cX5_peak 27 = .ok (.iaload, 1) := by decide +kernel
theorem dX5_peak_28 : decode cX5_peak 28 = .ok (.ireturn, 1) := by decide +kernel
theorem dX5_ripe_0 : decode cX5_ripe 0 = .ok (.aload_n 0, 1) := by decide +kernel
theorem dX5_ripe_1 : decode cX5_ripe 1 = .ok (.iload_n 1, 1) := by decide +kernel
theorem dX5_ripe_2 : decode cX5_ripe 2 = .ok (.invokevirtual 125, 3) := by decide +kernel
theorem dX5_ripe_5 : decode cX5_ripe 5 = .ok (.ifCond .eq 8, 3) := by decide +kernel
theorem dX5_ripe_8 : decode cX5_ripe 8 = .ok (.bipush (-2), 2) := by decide +kernel
theorem dX5_ripe_10 : decode cX5_ripe 10 = .ok (.goto 8, 3) := by decide +kernel
theorem dX5_ripe_13 : decode cX5_ripe 13 = .ok (.aload_n 0, 1) := by decide +kernel
theorem dX5_ripe_14 : decode cX5_ripe 14 = .ok (.iload_n 1, 1) := by decide +kernel
theorem dX5_ripe_15 : decode cX5_ripe 15 = .ok (.invokevirtual 172, 3) := by decide +kernel
theorem dX5_ripe_18 : decode cX5_ripe 18 = .ok (.ireturn, 1) := by decide +kernel
theorem dX5_blank_0 : decode cX5_blank 0 = .ok (.aload_n 0, 1) := by decide +kernel
theorem dX5_blank_1 : decode cX5_blank 1 = .ok (.iload_n 1, 1) := by decide +kernel
theorem dX5_blank_2 : decode cX5_blank 2 = .ok (.invokevirtual 125, 3) := by decide +kernel
theorem dX5_blank_5 : decode cX5_blank 5 = .ok (.ifCond .eq 6, 3) := by decide +kernel
theorem dX5_blank_8 : decode cX5_blank 8 = .ok (.bipush (-2), 2) := by decide +kernel
theorem dX5_blank_10 : decode cX5_blank 10 = .ok (.ireturn, 1) := by decide +kernel
theorem dX5_blank_11 : decode cX5_blank 11 = .ok (.aload_n 0, 1) := by decide +kernel
theorem dX5_blank_12 : decode cX5_blank 12 = .ok (.getfield 23, 3) := by decide +kernel
theorem dX5_blank_15 : decode cX5_blank 15 = .ok (.getfield 134, 3) := by decide +kernel
theorem dX5_blank_18 : decode cX5_blank 18 = .ok (.iload_n 1, 1) := by decide +kernel
theorem dX5_blank_19 : decode cX5_blank 19 = .ok (.iaload, 1) := by decide +kernel
theorem dX5_blank_20 : decode cX5_blank 20 = .ok (.istore_n 2, 1) := by decide +kernel
theorem dX5_blank_21 : decode cX5_blank 21 = .ok (.iload_n 2, 1) := by decide +kernel
theorem dX5_blank_22 : decode cX5_blank 22 = .ok (.aload_n 0, 1) := by decide +kernel
theorem dX5_blank_23 : decode cX5_blank 23 = .ok (.getfield 23, 3) := by decide +kernel
theorem dX5_blank_26 : decode cX5_blank 26 = .ok (.getfield 175, 3) := by decide +kernel
theorem dX5_blank_29 : decode cX5_blank 29 = .ok (.if_icmp .gt 25, 3) := by decide +kernel
theorem dX5_blank_32 : decode cX5_blank 32 = .ok (.aload_n 0, 1) := by decide +kernel
theorem dX5_blank_33 : decode cX5_blank 33 = .ok (.getfield 32, 3) := by decide +kernel
theorem dX5_blank_36 : decode cX5_blank 36 = .ok (.getfield 169, 3) := by decide +kernel
theorem dX5_blank_39 : decode cX5_blank 39 = .ok (.iload_n 2, 1) := by decide +kernel
theorem dX5_blank_40 : decode cX5_blank 40 = .ok (.aaload, 1) := by decide +kernel
theorem dX5_blank_41 : decode cX5_blank 41 = .ok (.iload_n 1, 1) := by decide +kernel
theorem dX5_blank_42 : decode cX5_blank 42 = .ok (.iaload, 1) := by decide +kernel
theorem dX5_blank_43 : decode cX5_blank 43 = .ok (.ifCond .ne 5, 3) := by decide +kernel
theorem dX5_blank_46 : decode cX5_blank 46 = .ok (.iload_n 2, 1) := by decide +kernel
theorem dX5_blank_47 : decode cX5_blank 47 = .ok (.ireturn, 1) := by decide +kernel
theorem dX5_blank_48 : decode cX5_blank 48 = .ok (.iinc 2 1, 3) := by decide +kernel
theorem dX5_blank_51 : decode cX5_blank 51 = .ok (.goto (-30), 3) := by decide +kernel
theorem dX5_blank_54 : decode cX5_blank 54 = .ok (.iconst (-1), 1) := by decide +kernel
theorem dX5_blank_55 : decode cX5_blank 55 = .ok (.ireturn, 1) := by decide +kernel
theorem dX5_steady_0 : decode cX5_steady 0 = .ok (.aload_n 0, 1) := by decide +kernel
theorem dX5_steady_1 : decode cX5_steady 1 = .ok (.iload_n 1, 1) := by decide +kernel
theorem dX5_steady_2 : decode cX5_steady 2 = .ok (.invokevirtual 125, 3) := by decide +kernel
theorem dX5_steady_5 : decode cX5_steady 5 = .ok (.ifCond .eq 6, 3) := by decide +kernel
theorem dX5_steady_8 : decode cX5_steady 8 = .ok (.bipush (-2), 2) := by decide +kernel
theorem dX5_steady_10 : decode cX5_steady 10 = .ok (.ireturn, 1) := by decide +kernel
theorem dX5_steady_11 : decode cX5_steady 11 = .ok (.iconst 0, 1) := by decide +kernel
theorem dX5_steady_12 : decode cX5_steady 12 = .ok (.istore_n 2, 1) := by decide +kernel
theorem dX5_steady_13 : decode cX5_steady 13 = .ok (.iconst 0, 1) := by decide +kernel
theorem dX5_steady_14 : decode cX5_steady 14 = .ok (.istore_n 3, 1) := by decide +kernel
theorem dX5_steady_15 : decode cX5_steady 15 = .ok (.aload_n 0, 1) := by decide +kernel
theorem dX5_steady_16 : decode cX5_steady 16 = .ok (.getfield 23, 3) := by decide +kernel
theorem dX5_steady_19 : decode cX5_steady 19 = .ok (.getfield 134, 3) := by decide +kernel
theorem dX5_steady_22 : decode cX5_steady 22 = .ok (.iload_n 1, 1) := by decide +kernel
theorem dX5_steady_23 : decode cX5_steady 23 = .ok (.iaload, 1) := by decide +kernel
theorem dX5_steady_24 : decode cX5_steady 24 = .ok (.istore 4, 2) := by decide +kernel
theorem dX5_steady_26 : decode cX5_steady 26 = .ok (.iload 4, 2) := by decide +kernel
theorem dX5_steady_28 : decode cX5_steady 28 = .ok (.aload_n 0, 1) := by decide +kernel
theorem dX5_steady_29 : decode cX5_steady 29 = .ok (.getfield 23, 3) := by decide +kernel
theorem dX5_steady_32 : decode cX5_steady 32 = .ok (.getfield 175, 3) := by decide +kernel
theorem dX5_steady_35 : decode cX5_steady 35 = .ok (.if_icmp .gt 68, 3) := by decide +kernel
theorem dX5_steady_38 : decode cX5_steady 38 = .ok (.iload_n 3, 1) := by decide +kernel
theorem dX5_steady_39 : decode cX5_steady 39 = .ok (.ifCond .le 36, 3) := by decide +kernel
theorem dX5_steady_42 : decode cX5_steady 42 = .ok (.aload_n 0, 1) := by decide +kernel
theorem dX5_steady_43 : decode cX5_steady 43 = .ok (.getfield 32, 3) := by decide +kernel
theorem dX5_steady_46 : decode cX5_steady 46 = .ok (.getfield 169, 3) := by decide +kernel
theorem dX5_steady_49 : decode cX5_steady 49 = .ok (.iload 4, 2) := by decide +kernel
theorem dX5_steady_51 : decode cX5_steady 51 = .ok (.aaload, 1) := by decide +kernel
theorem dX5_steady_52 : decode cX5_steady 52 = .ok (.iload_n 1, 1) := by decide +kernel
theorem dX5_steady_53 : decode cX5_steady 53 = .ok (.iaload, 1) := by decide +kernel
theorem dX5_steady_54 : decode cX5_steady 54 = .ok (.aload_n 0, 1) := by decide +kernel
theorem dX5_steady_55 : decode cX5_steady 55 = .ok (.getfield 32, 3) := by decide +kernel
theorem dX5_steady_58 : decode cX5_steady 58 = .ok (.getfield 169, 3) := by decide +kernel
theorem dX5_steady_61 : decode cX5_steady 61 = .ok (.iload 4, 2) := by decide +kernel
theorem dX5_steady_63 : decode cX5_steady 63 = .ok (.iconst 1, 1) := by decide +kernel
theorem dX5_steady_64 : decode cX5_steady 64 = .ok (.isub, 1) := by decide +kernel
theorem dX5_steady_65 : decode cX5_steady 65 = .ok (.aaload, 1) := by decide +kernel
theorem dX5_steady_66 : decode cX5_steady 66 = .ok (.iload_n 1, 1) := by decide +kernel
theorem dX5_steady_67 : decode cX5_steady 67 = .ok (.iaload, 1) := by decide +kernel
theorem dX5_steady_68 : decode cX5_steady 68 = .ok (.if_icmp .ne 7, 3) := by decide +kernel
theorem dX5_steady_71 : decode cX5_steady 71 = .ok (.iconst 1, 1) := by decide +kernel
theorem dX5_steady_72 : decode cX5_steady 72 = .ok (.goto 4, 3) := by decide +kernel
theorem dX5_steady_75 : decode cX5_steady 75 = .ok (.iconst 0, 1) := by decide +kernel
theorem dX5_steady_76 : decode cX5_steady 76 = .ok (.istore 5, 2) := by decide +kernel
theorem dX5_steady_78 : decode cX5_steady 78 = .ok (.iload 5, 2) := by decide +kernel
theorem dX5_steady_80 : decode cX5_steady 80 = .ok (.ifCond .eq 9, 3) := by decide +kernel
theorem dX5_steady_83 : decode cX5_steady 83 = .ok (.iload_n 3, 1) := by decide +kernel
theorem dX5_steady_84 : decode cX5_steady 84 = .ok (.iconst 1, 1) := by decide +kernel
theorem dX5_steady_85 : decode cX5_steady 85 = .ok (.iadd, 1) := by decide +kernel
theorem dX5_steady_86 : decode cX5_steady 86 = .ok (.goto 4, 3) := by decide +kernel
theorem dX5_steady_89 : decode cX5_steady 89 = .ok (.iconst 1, 1) := by decide +kernel
theorem dX5_steady_90 : decode cX5_steady 90 = .ok (.istore_n 3, 1) := by decide +kernel
theorem dX5_steady_91 : decode cX5_steady 91 = .ok (.iload_n 2, 1) := by decide +kernel
theorem dX5_steady_92 : decode cX5_steady 92 = .ok (.iload_n 3, 1) := by decide +kernel
theorem dX5_steady_93 : decode cX5_steady 93 = .ok (.invokestatic 178, 3) := by decide +kernel
theorem dX5_steady_96 : decode cX5_steady 96 = .ok (.istore_n 2, 1) := by decide +kernel
theorem dX5_steady_97 : decode cX5_steady 97 = .ok (.iinc 4 1, 3) := by decide +kernel
theorem dX5_steady_100 : decode cX5_steady 100 = .ok (.goto (-74), 3) := by decide +kernel
theorem dX5_steady_103 : decode cX5_steady 103 = .ok (.iload_n 2, 1) := by decide +kernel
theorem dX5_steady_104 : decode cX5_steady 104 = .ok (.ireturn, 1) := by decide +kernel
theorem dX5_falls_0 : decode cX5_falls 0 = .ok (.aload_n 0, 1) := by decide +kernel
theorem dX5_falls_1 : decode cX5_falls 1 = .ok (.iload_n 1, 1) := by decide +kernel
theorem dX5_falls_2 : decode cX5_falls 2 = .ok (.invokevirtual 125, 3) := by decide +kernel
theorem dX5_falls_5 : decode cX5_falls 5 = .ok (.ifCond .eq 6, 3) := by decide +kernel
theorem dX5_falls_8 : decode cX5_falls 8 = .ok (.bipush (-2), 2) := by decide +kernel
theorem dX5_falls_10 : decode cX5_falls 10 = .ok (.ireturn, 1) := by decide +kernel
theorem dX5_falls_11 : decode cX5_falls 11 = .ok (.iconst 0, 1) := by decide +kernel
theorem dX5_falls_12 : decode cX5_falls 12 = .ok (.istore_n 2, 1) := by decide +kernel
theorem dX5_falls_13 : decode cX5_falls 13 = .ok (.iconst 1, 1) := by decide +kernel
theorem dX5_falls_14 : decode cX5_falls 14 = .ok (.istore_n 3, 1) := by decide +kernel
theorem dX5_falls_15 : decode cX5_falls 15 = .ok (.iload_n 3, 1) := by decide +kernel
theorem dX5_falls_16 : decode cX5_falls 16 = .ok (.aload_n 0, 1) := by decide +kernel
theorem dX5_falls_17 : decode cX5_falls 17 = .ok (.getfield 23, 3) := by decide +kernel
theorem dX5_falls_20 : decode cX5_falls 20 = .ok (.getfield 175, 3) := by decide +kernel
theorem dX5_falls_23 : decode cX5_falls 23 = .ok (.if_icmp .gt 39, 3) := by decide +kernel
theorem dX5_falls_26 : decode cX5_falls 26 = .ok (.aload_n 0, 1) := by decide +kernel
theorem dX5_falls_27 : decode cX5_falls 27 = .ok (.getfield 32, 3) := by decide +kernel
theorem dX5_falls_30 : decode cX5_falls 30 = .ok (.getfield 169, 3) := by decide +kernel
theorem dX5_falls_33 : decode cX5_falls 33 = .ok (.iload_n 3, 1) := by decide +kernel
theorem dX5_falls_34 : decode cX5_falls 34 = .ok (.aaload, 1) := by decide +kernel
theorem dX5_falls_35 : decode cX5_falls 35 = .ok (.iload_n 1, 1) := by decide +kernel
theorem dX5_falls_36 : decode cX5_falls 36 = .ok (.iaload, 1) := by decide +kernel
theorem dX5_falls_37 : decode cX5_falls 37 = .ok (.aload_n 0, 1) := by decide +kernel
theorem dX5_falls_38 : decode cX5_falls 38 = .ok (.getfield 32, 3) := by decide +kernel
theorem dX5_falls_41 : decode cX5_falls 41 = .ok (.getfield 169, 3) := by decide +kernel
theorem dX5_falls_44 : decode cX5_falls 44 = .ok (.iload_n 3, 1) := by decide +kernel
theorem dX5_falls_45 : decode cX5_falls 45 = .ok (.iconst 1, 1) := by decide +kernel
theorem dX5_falls_46 : decode cX5_falls 46 = .ok (.isub, 1) := by decide +kernel
theorem dX5_falls_47 : decode cX5_falls 47 = .ok (.aaload, 1) := by decide +kernel
theorem dX5_falls_48 : decode cX5_falls 48 = .ok (.iload_n 1, 1) := by decide +kernel
theorem dX5_falls_49 : decode cX5_falls 49 = .ok (.iaload, 1) := by decide +kernel
theorem dX5_falls_50 : decode cX5_falls 50 = .ok (.if_icmp .ge 6, 3) := by decide +kernel
theorem dX5_falls_53 : decode cX5_falls 53 = .ok (.iinc 2 1, 3) := by decide +kernel
theorem dX5_falls_56 : decode cX5_falls 56 = .ok (.iinc 3 1, 3) := by decide +kernel
theorem dX5_falls_59 : decode cX5_falls 59 = .ok (.goto (-44), 3) := by decide +kernel
theorem dX5_falls_62 : decode cX5_falls 62 = .ok (.iload_n 2, 1) := by decide +kernel
theorem dX5_falls_63 : decode cX5_falls 63 = .ok (.ireturn, 1) := by decide +kernel
theorem dX5_lasts_0 : decode cX5_lasts 0 = .ok (.aload_n 0, 1) := by decide +kernel
theorem dX5_lasts_1 : decode cX5_lasts 1 = .ok (.iload_n 1, 1) := by decide +kernel
theorem dX5_lasts_2 : decode cX5_lasts 2 = .ok (.invokevirtual 125, 3) := by decide +kernel
theorem dX5_lasts_5 : decode cX5_lasts 5 = .ok (.ifCond .eq 6, 3) := by decide +kernel
theorem dX5_lasts_8 : decode cX5_lasts 8 = .ok (.bipush (-2), 2) := by decide +kernel
theorem dX5_lasts_10 : decode cX5_lasts 10 = .ok (.ireturn, 1) := by decide +kernel
theorem dX5_lasts_11 : decode cX5_lasts 11 = .ok (.iconst 0, 1) := by decide +kernel
theorem dX5_lasts_12 : decode cX5_lasts 12 = .ok (.istore_n 2, 1) := by decide +kernel
theorem dX5_lasts_13 : decode cX5_lasts 13 = .ok (.iconst 0, 1) := by decide +kernel
theorem dX5_lasts_14 : decode cX5_lasts 14 = .ok (.istore_n 3, 1) := by decide +kernel
theorem dX5_lasts_15 : decode cX5_lasts 15 = .ok (.iload_n 3, 1) := by decide +kernel
theorem dX5_lasts_16 : decode cX5_lasts 16 = .ok (.aload_n 0, 1) := by decide +kernel
theorem dX5_lasts_17 : decode cX5_lasts 17 = .ok (.getfield 23, 3) := by decide +kernel
theorem dX5_lasts_20 : decode cX5_lasts 20 = .ok (.getfield 175, 3) := by decide +kernel
theorem dX5_lasts_23 : decode cX5_lasts 23 = .ok (.if_icmp .gt 27, 3) := by decide +kernel
theorem dX5_lasts_26 : decode cX5_lasts 26 = .ok (.aload_n 0, 1) := by decide +kernel
theorem dX5_lasts_27 : decode cX5_lasts 27 = .ok (.getfield 32, 3) := by decide +kernel
theorem dX5_lasts_30 : decode cX5_lasts 30 = .ok (.getfield 169, 3) := by decide +kernel
theorem dX5_lasts_33 : decode cX5_lasts 33 = .ok (.iload_n 3, 1) := by decide +kernel
theorem dX5_lasts_34 : decode cX5_lasts 34 = .ok (.aaload, 1) := by decide +kernel
theorem dX5_lasts_35 : decode cX5_lasts 35 = .ok (.iload_n 1, 1) := by decide +kernel
theorem dX5_lasts_36 : decode cX5_lasts 36 = .ok (.iaload, 1) := by decide +kernel
theorem dX5_lasts_37 : decode cX5_lasts 37 = .ok (.iconst 5, 1) := by decide +kernel
theorem dX5_lasts_38 : decode cX5_lasts 38 = .ok (.if_icmp .lt 6, 3) := by decide +kernel
theorem dX5_lasts_41 : decode cX5_lasts 41 = .ok (.iinc 2 1, 3) := by decide +kernel
theorem dX5_lasts_44 : decode cX5_lasts 44 = .ok (.iinc 3 1, 3) := by decide +kernel
theorem dX5_lasts_47 : decode cX5_lasts 47 = .ok (.goto (-32), 3) := by decide +kernel
theorem dX5_lasts_50 : decode cX5_lasts 50 = .ok (.iload_n 2, 1) := by decide +kernel
theorem dX5_lasts_51 : decode cX5_lasts 51 = .ok (.ireturn, 1) := by decide +kernel
theorem dX5_cross_0 : decode cX5_cross 0 = .ok (.aload_n 0, 1) := by decide +kernel
theorem dX5_cross_1 : decode cX5_cross 1 = .ok (.iload_n 1, 1) := by decide +kernel
theorem dX5_cross_2 : decode cX5_cross 2 = .ok (.invokevirtual 125, 3) := by decide +kernel
theorem dX5_cross_5 : decode cX5_cross 5 = .ok (.ifCond .ne 11, 3) := by decide +kernel
theorem dX5_cross_8 : decode cX5_cross 8 = .ok (.aload_n 0, 1) := by decide +kernel
theorem dX5_cross_9 : decode cX5_cross 9 = .ok (.iload_n 2, 1) := by decide +kernel
theorem dX5_cross_10 : decode cX5_cross 10 = .ok (.invokevirtual 125, 3) := by decide +kernel
theorem dX5_cross_13 : decode cX5_cross 13 = .ok (.ifCond .eq 6, 3) := by decide +kernel
theorem dX5_cross_16 : decode cX5_cross 16 = .ok (.bipush (-2), 2) := by decide +kernel
theorem dX5_cross_18 : decode cX5_cross 18 = .ok (.ireturn, 1) := by decide +kernel
theorem dX5_cross_19 : decode cX5_cross 19 = .ok (.iconst 0, 1) := by decide +kernel
theorem dX5_cross_20 : decode cX5_cross 20 = .ok (.istore_n 3, 1) := by decide +kernel
theorem dX5_cross_21 : decode cX5_cross 21 = .ok (.iload_n 3, 1) := by decide +kernel
theorem dX5_cross_22 : decode cX5_cross 22 = .ok (.aload_n 0, 1) := by decide +kernel
theorem dX5_cross_23 : decode cX5_cross 23 = .ok (.getfield 23, 3) := by decide +kernel
theorem dX5_cross_26 : decode cX5_cross 26 = .ok (.getfield 175, 3) := by decide +kernel
theorem dX5_cross_29 : decode cX5_cross 29 = .ok (.if_icmp .gt 31, 3) := by decide +kernel
theorem dX5_cross_32 : decode cX5_cross 32 = .ok (.aload_n 0, 1) := by decide +kernel
theorem dX5_cross_33 : decode cX5_cross 33 = .ok (.iload_n 1, 1) := by decide +kernel
theorem dX5_cross_34 : decode cX5_cross 34 = .ok (.iload_n 2, 1) := by decide +kernel
theorem dX5_cross_35 : decode cX5_cross 35 = .ok (.iload_n 3, 1) := by decide +kernel
theorem dX5_cross_36 : decode cX5_cross 36 = .ok (.invokevirtual 184, 3) := by decide +kernel
theorem dX5_cross_39 : decode cX5_cross 39 = .ok (.ifCond .eq 15, 3) := by decide +kernel
theorem dX5_cross_42 : decode cX5_cross 42 = .ok (.aload_n 0, 1) := by decide +kernel
theorem dX5_cross_43 : decode cX5_cross 43 = .ok (.iload_n 1, 1) := by decide +kernel
theorem dX5_cross_44 : decode cX5_cross 44 = .ok (.iload_n 2, 1) := by decide +kernel
theorem dX5_cross_45 : decode cX5_cross 45 = .ok (.iload_n 3, 1) := by decide +kernel
theorem dX5_cross_46 : decode cX5_cross 46 = .ok (.invokevirtual 188, 3) := by decide +kernel
theorem dX5_cross_49 : decode cX5_cross 49 = .ok (.ifCond .le 5, 3) := by decide +kernel
theorem dX5_cross_52 : decode cX5_cross 52 = .ok (.iload_n 3, 1) := by decide +kernel
theorem dX5_cross_53 : decode cX5_cross 53 = .ok (.ireturn, 1) := by decide +kernel
theorem dX5_cross_54 : decode cX5_cross 54 = .ok (.iinc 3 1, 3) := by decide +kernel
theorem dX5_cross_57 : decode cX5_cross 57 = .ok (.goto (-36), 3) := by decide +kernel
theorem dX5_cross_60 : decode cX5_cross 60 = .ok (.iconst (-1), 1) := by decide +kernel
theorem dX5_cross_61 : decode cX5_cross 61 = .ok (.ireturn, 1) := by decide +kernel
theorem dX5_swaps_0 : decode cX5_swaps 0 = .ok (.aload_n 0, 1) := by decide +kernel
theorem dX5_swaps_1 : decode cX5_swaps 1 = .ok (.iload_n 1, 1) := by decide +kernel
theorem dX5_swaps_2 : decode cX5_swaps 2 = .ok (.invokevirtual 125, 3) := by decide +kernel
theorem dX5_swaps_5 : decode cX5_swaps 5 = .ok (.ifCond .ne 11, 3) := by decide +kernel
theorem dX5_swaps_8 : decode cX5_swaps 8 = .ok (.aload_n 0, 1) := by decide +kernel
theorem dX5_swaps_9 : decode cX5_swaps 9 = .ok (.iload_n 2, 1) := by decide +kernel
theorem dX5_swaps_10 : decode cX5_swaps 10 = .ok (.invokevirtual 125, 3) := by decide +kernel
theorem dX5_swaps_13 : decode cX5_swaps 13 = .ok (.ifCond .eq 6, 3) := by decide +kernel
theorem dX5_swaps_16 : decode cX5_swaps 16 = .ok (.bipush (-2), 2) := by decide +kernel
theorem dX5_swaps_18 : decode cX5_swaps 18 = .ok (.ireturn, 1) := by decide +kernel
theorem dX5_swaps_19 : decode cX5_swaps 19 = .ok (.iconst 0, 1) := by decide +kernel
theorem dX5_swaps_20 : decode cX5_swaps 20 = .ok (.istore_n 3, 1) := by decide +kernel
theorem dX5_swaps_21 : decode cX5_swaps 21 = .ok (.iconst 1, 1) := by decide +kernel
theorem dX5_swaps_22 : decode cX5_swaps 22 = .ok (.istore 4, 2) := by decide +kernel
theorem dX5_swaps_24 : decode cX5_swaps 24 = .ok (.iload 4, 2) := by decide +kernel
theorem dX5_swaps_26 : decode cX5_swaps 26 = .ok (.aload_n 0, 1) := by decide +kernel
theorem dX5_swaps_27 : decode cX5_swaps 27 = .ok (.getfield 23, 3) := by decide +kernel
theorem dX5_swaps_30 : decode cX5_swaps 30 = .ok (.getfield 175, 3) := by decide +kernel
theorem dX5_swaps_33 : decode cX5_swaps 33 = .ok (.if_icmp .gt 46, 3) := by decide +kernel
theorem dX5_swaps_36 : decode cX5_swaps 36 = .ok (.aload_n 0, 1) := by decide +kernel
theorem dX5_swaps_37 : decode cX5_swaps 37 = .ok (.iload_n 1, 1) := by decide +kernel
theorem dX5_swaps_38 : decode cX5_swaps 38 = .ok (.iload_n 2, 1) := by decide +kernel
theorem dX5_swaps_39 : decode cX5_swaps 39 = .ok (.iload 4, 2) := by decide +kernel
theorem dX5_swaps_41 : decode cX5_swaps 41 = .ok (.iconst 1, 1) := by decide +kernel
theorem dX5_swaps_42 : decode cX5_swaps 42 = .ok (.isub, 1) := by decide +kernel
theorem dX5_swaps_43 : decode cX5_swaps 43 = .ok (.invokevirtual 184, 3) := by decide +kernel
theorem dX5_swaps_46 : decode cX5_swaps 46 = .ok (.ifCond .eq 27, 3) := by decide +kernel
theorem dX5_swaps_49 : decode cX5_swaps 49 = .ok (.aload_n 0, 1) := by decide +kernel
theorem dX5_swaps_50 : decode cX5_swaps 50 = .ok (.iload_n 1, 1) := by decide +kernel
theorem dX5_swaps_51 : decode cX5_swaps 51 = .ok (.iload_n 2, 1) := by decide +kernel
theorem dX5_swaps_52 : decode cX5_swaps 52 = .ok (.iload 4, 2) := by decide +kernel
theorem dX5_swaps_54 : decode cX5_swaps 54 = .ok (.invokevirtual 188, 3) := by decide +kernel
theorem dX5_swaps_57 : decode cX5_swaps 57 = .ok (.aload_n 0, 1) := by decide +kernel
theorem dX5_swaps_58 : decode cX5_swaps 58 = .ok (.iload_n 1, 1) := by decide +kernel
theorem dX5_swaps_59 : decode cX5_swaps 59 = .ok (.iload_n 2, 1) := by decide +kernel
theorem dX5_swaps_60 : decode cX5_swaps 60 = .ok (.iload 4, 2) := by decide +kernel
theorem dX5_swaps_62 : decode cX5_swaps 62 = .ok (.iconst 1, 1) := by decide +kernel
theorem dX5_swaps_63 : decode cX5_swaps 63 = .ok (.isub, 1) := by decide +kernel
theorem dX5_swaps_64 : decode cX5_swaps 64 = .ok (.invokevirtual 188, 3) := by decide +kernel
theorem dX5_swaps_67 : decode cX5_swaps 67 = .ok (.if_icmp .eq 6, 3) := by decide +kernel
theorem dX5_swaps_70 : decode cX5_swaps 70 = .ok (.iinc 3 1, 3) := by decide +kernel
theorem dX5_swaps_73 : decode cX5_swaps 73 = .ok (.iinc 4 1, 3) := by decide +kernel
theorem dX5_swaps_76 : decode cX5_swaps 76 = .ok (.goto (-52), 3) := by decide +kernel
theorem dX5_swaps_79 : decode cX5_swaps 79 = .ok (.iload_n 3, 1) := by decide +kernel
theorem dX5_swaps_80 : decode cX5_swaps 80 = .ok (.ireturn, 1) := by decide +kernel
theorem dX5_match_0 : decode cX5_match 0 = .ok (.aload_n 0, 1) := by decide +kernel
theorem dX5_match_1 : decode cX5_match 1 = .ok (.iload_n 1, 1) := by decide +kernel
theorem dX5_match_2 : decode cX5_match 2 = .ok (.invokevirtual 125, 3) := by decide +kernel
theorem dX5_match_5 : decode cX5_match 5 = .ok (.ifCond .ne 11, 3) := by decide +kernel
theorem dX5_match_8 : decode cX5_match 8 = .ok (.aload_n 0, 1) := by decide +kernel
theorem dX5_match_9 : decode cX5_match 9 = .ok (.iload_n 2, 1) := by decide +kernel
theorem dX5_match_10 : decode cX5_match 10 = .ok (.invokevirtual 125, 3) := by decide +kernel
theorem dX5_match_13 : decode cX5_match 13 = .ok (.ifCond .eq 6, 3) := by decide +kernel
theorem dX5_match_16 : decode cX5_match 16 = .ok (.bipush (-2), 2) := by decide +kernel
theorem dX5_match_18 : decode cX5_match 18 = .ok (.ireturn, 1) := by decide +kernel
theorem dX5_match_19 : decode cX5_match 19 = .ok (.iconst 0, 1) := by decide +kernel
theorem dX5_match_20 : decode cX5_match 20 = .ok (.istore_n 3, 1) := by decide +kernel
theorem dX5_match_21 : decode cX5_match 21 = .ok (.iconst 0, 1) := by decide +kernel
theorem dX5_match_22 : decode cX5_match 22 = .ok (.istore 4, 2) := by decide +kernel
theorem dX5_match_24 : decode cX5_match 24 = .ok (.iload 4, 2) := by decide +kernel
theorem dX5_match_26 : decode cX5_match 26 = .ok (.aload_n 0, 1) := by decide +kernel
theorem dX5_match_27 : decode cX5_match 27 = .ok (.getfield 23, 3) := by decide +kernel
theorem dX5_match_30 : decode cX5_match 30 = .ok (.getfield 175, 3) := by decide +kernel
theorem dX5_match_33 : decode cX5_match 33 = .ok (.if_icmp .gt 34, 3) := by decide +kernel
theorem dX5_match_36 : decode cX5_match 36 = .ok (.aload_n 0, 1) := by decide +kernel
theorem dX5_match_37 : decode cX5_match 37 = .ok (.iload_n 1, 1) := by decide +kernel
theorem dX5_match_38 : decode cX5_match 38 = .ok (.iload_n 2, 1) := by decide +kernel
theorem dX5_match_39 : decode cX5_match 39 = .ok (.iload 4, 2) := by decide +kernel
theorem dX5_match_41 : decode cX5_match 41 = .ok (.invokevirtual 184, 3) := by decide +kernel
theorem dX5_match_44 : decode cX5_match 44 = .ok (.ifCond .eq 17, 3) := by decide +kernel
theorem dX5_match_47 : decode cX5_match 47 = .ok (.aload_n 0, 1) := by decide +kernel
theorem dX5_match_48 : decode cX5_match 48 = .ok (.iload_n 1, 1) := by decide +kernel
theorem dX5_match_49 : decode cX5_match 49 = .ok (.iload_n 2, 1) := by decide +kernel
theorem dX5_match_50 : decode cX5_match 50 = .ok (.iload 4, 2) := by decide +kernel
theorem dX5_match_52 : decode cX5_match 52 = .ok (.invokevirtual 188, 3) := by decide +kernel
theorem dX5_match_55 : decode cX5_match 55 = .ok (.ifCond .ne 6, 3) := by decide +kernel
theorem dX5_match_58 : decode cX5_match 58 = .ok (.iinc 3 1, 3) := by decide +kernel
theorem dX5_match_61 : decode cX5_match 61 = .ok (.iinc 4 1, 3) := by decide +kernel
theorem dX5_match_64 : decode cX5_match 64 = .ok (.goto (-40), 3) := by decide +kernel
theorem dX5_match_67 : decode cX5_match 67 = .ok (.iload_n 3, 1) := by decide +kernel
theorem dX5_match_68 : decode cX5_match 68 = .ok (.ireturn, 1) := by decide +kernel
theorem dX5_clear_0 : decode cX5_clear 0 = .ok (.aload_n 0, 1) := by decide +kernel
theorem dX5_clear_1 : decode cX5_clear 1 = .ok (.iload_n 1, 1) := by decide +kernel
theorem dX5_clear_2 : decode cX5_clear 2 = .ok (.invokevirtual 149, 3) := by decide +kernel
theorem dX5_clear_5 : decode cX5_clear 5 = .ok (.ifCond .eq 8, 3) := by decide +kernel
theorem dX5_clear_8 : decode cX5_clear 8 = .ok (.bipush (-2), 2) := by decide +kernel
theorem dX5_clear_10 : decode cX5_clear 10 = .ok (.goto 12, 3) := by decide +kernel
theorem dX5_clear_13 : decode cX5_clear 13 = .ok (.aload_n 0, 1) := by decide +kernel
theorem dX5_clear_14 : decode cX5_clear 14 = .ok (.aload_n 0, 1) := by decide +kernel
theorem dX5_clear_15 : decode cX5_clear 15 = .ok (.getfield 32, 3) := by decide +kernel
theorem dX5_clear_18 : decode cX5_clear 18 = .ok (.iload_n 1, 1) := by decide +kernel
theorem dX5_clear_19 : decode cX5_clear 19 = .ok (.invokevirtual 192, 3) := by decide +kernel
theorem dX5_clear_22 : decode cX5_clear 22 = .ok (.ireturn, 1) := by decide +kernel
theorem dX5_all_0 : decode cX5_all 0 = .ok (.aload_n 0, 1) := by decide +kernel
theorem dX5_all_1 : decode cX5_all 1 = .ok (.iload_n 1, 1) := by decide +kernel
theorem dX5_all_2 : decode cX5_all 2 = .ok (.invokevirtual 149, 3) := by decide +kernel
theorem dX5_all_5 : decode cX5_all 5 = .ok (.ifCond .eq 8, 3) := by decide +kernel
theorem dX5_all_8 : decode cX5_all 8 = .ok (.bipush (-2), 2) := by decide +kernel
theorem dX5_all_10 : decode cX5_all 10 = .ok (.goto 15, 3) := by decide +kernel
theorem dX5_all_13 : decode cX5_all 13 = .ok (.aload_n 0, 1) := by decide +kernel
theorem dX5_all_14 : decode cX5_all 14 = .ok (.getfield 32, 3) := by decide +kernel
theorem dX5_all_17 : decode cX5_all 17 = .ok (.aload_n 0, 1) := by decide +kernel
theorem dX5_all_18 : decode cX5_all 18 = .ok (.getfield 23, 3) := by decide +kernel
theorem dX5_all_21 : decode cX5_all 21 = .ok (.iload_n 1, 1) := by decide +kernel
theorem dX5_all_22 : decode cX5_all 22 = .ok (.invokevirtual 196, 3) := by decide +kernel
theorem dX5_all_25 : decode cX5_all 25 = .ok (.ireturn, 1) := by decide +kernel
theorem dX5_darkest_0 : decode cX5_darkest 0 = .ok (.aload_n 0, 1) := by decide +kernel
theorem dX5_darkest_1 : decode cX5_darkest 1 = .ok (.iload_n 1, 1) := by decide +kernel
theorem dX5_darkest_2 : decode cX5_darkest 2 = .ok (.invokevirtual 149, 3) := by decide +kernel
theorem dX5_darkest_5 : decode cX5_darkest 5 = .ok (.ifCond .eq 8, 3) := by decide +kernel
theorem dX5_darkest_8 : decode cX5_darkest 8 = .ok (.bipush (-2), 2) := by decide +kernel
theorem dX5_darkest_10 : decode cX5_darkest 10 = .ok (.goto 13, 3) := by decide +kernel
theorem dX5_darkest_13 : decode cX5_darkest 13 = .ok (.aload_n 0, 1) := by decide +kernel
theorem dX5_darkest_14 : decode cX5_darkest 14 = .ok (.aload_n 0, 1) := by decide +kernel
theorem dX5_darkest_15 : decode cX5_darkest 15 = .ok (.iload_n 1, 1) := by decide +kernel
theorem dX5_darkest_16 : decode cX5_darkest 16 = .ok (.invokevirtual 152, 3) := by decide +kernel
theorem dX5_darkest_19 : decode cX5_darkest 19 = .ok (.iload_n 1, 1) := by decide +kernel
theorem dX5_darkest_20 : decode cX5_darkest 20 = .ok (.invokevirtual 200, 3) := by decide +kernel
theorem dX5_darkest_23 : decode cX5_darkest 23 = .ok (.ireturn, 1) := by decide +kernel
theorem dX5_palest_0 : decode cX5_palest 0 = .ok (.aload_n 0, 1) := by decide +kernel
theorem dX5_palest_1 : decode cX5_palest 1 = .ok (.iload_n 1, 1) := by decide +kernel
theorem dX5_palest_2 : decode cX5_palest 2 = .ok (.invokevirtual 149, 3) := by decide +kernel
theorem dX5_palest_5 : decode cX5_palest 5 = .ok (.ifCond .eq 8, 3) := by decide +kernel
theorem dX5_palest_8 : decode cX5_palest 8 = .ok (.bipush (-2), 2) := by decide +kernel
theorem dX5_palest_10 : decode cX5_palest 10 = .ok (.goto 13, 3) := by decide +kernel
theorem dX5_palest_13 : decode cX5_palest 13 = .ok (.aload_n 0, 1) := by decide +kernel
theorem dX5_palest_14 : decode cX5_palest 14 = .ok (.aload_n 0, 1) := by decide +kernel
theorem dX5_palest_15 : decode cX5_palest 15 = .ok (.iload_n 1, 1) := by decide +kernel
theorem dX5_palest_16 : decode cX5_palest 16 = .ok (.invokevirtual 152, 3) := by decide +kernel
theorem dX5_palest_19 : decode cX5_palest 19 = .ok (.iload_n 1, 1) := by decide +kernel
theorem dX5_palest_20 : decode cX5_palest 20 = .ok (.invokevirtual 203, 3) := by decide +kernel
theorem dX5_palest_23 : decode cX5_palest 23 = .ok (.ireturn, 1) := by decide +kernel
theorem dX5_sorts_0 : decode cX5_sorts 0 = .ok (.aload_n 0, 1) := by decide +kernel
theorem dX5_sorts_1 : decode cX5_sorts 1 = .ok (.iload_n 1, 1) := by decide +kernel
theorem dX5_sorts_2 : decode cX5_sorts 2 = .ok (.invokevirtual 149, 3) := by decide +kernel
theorem dX5_sorts_5 : decode cX5_sorts 5 = .ok (.ifCond .eq 8, 3) := by decide +kernel
theorem dX5_sorts_8 : decode cX5_sorts 8 = .ok (.bipush (-2), 2) := by decide +kernel
theorem dX5_sorts_10 : decode cX5_sorts 10 = .ok (.goto 13, 3) := by decide +kernel
theorem dX5_sorts_13 : decode cX5_sorts 13 = .ok (.aload_n 0, 1) := by decide +kernel
theorem dX5_sorts_14 : decode cX5_sorts 14 = .ok (.aload_n 0, 1) := by decide +kernel
theorem dX5_sorts_15 : decode cX5_sorts 15 = .ok (.iload_n 1, 1) := by decide +kernel
theorem dX5_sorts_16 : decode cX5_sorts 16 = .ok (.invokevirtual 152, 3) := by decide +kernel
theorem dX5_sorts_19 : decode cX5_sorts 19 = .ok (.iload_n 1, 1) := by decide +kernel
theorem dX5_sorts_20 : decode cX5_sorts 20 = .ok (.invokevirtual 206, 3) := by decide +kernel
theorem dX5_sorts_23 : decode cX5_sorts 23 = .ok (.ireturn, 1) := by decide +kernel
theorem dX5_alike_0 : decode cX5_alike 0 = .ok (.aload_n 0, 1) := by decide +kernel
theorem dX5_alike_1 : decode cX5_alike 1 = .ok (.iload_n 1, 1) := by decide +kernel
theorem dX5_alike_2 : decode cX5_alike 2 = .ok (.invokevirtual 149, 3) := by decide +kernel
theorem dX5_alike_5 : decode cX5_alike 5 = .ok (.ifCond .eq 6, 3) := by decide +kernel
theorem dX5_alike_8 : decode cX5_alike 8 = .ok (.bipush (-2), 2) := by decide +kernel
theorem dX5_alike_10 : decode cX5_alike 10 = .ok (.ireturn, 1) := by decide +kernel
theorem dX5_alike_11 : decode cX5_alike 11 = .ok (.iconst 0, 1) := by decide +kernel
theorem dX5_alike_12 : decode cX5_alike 12 = .ok (.istore_n 2, 1) := by decide +kernel
theorem dX5_alike_13 : decode cX5_alike 13 = .ok (.iconst 0, 1) := by decide +kernel
theorem dX5_alike_14 : decode cX5_alike 14 = .ok (.istore_n 3, 1) := by decide +kernel
theorem dX5_alike_15 : decode cX5_alike 15 = .ok (.iload_n 3, 1) := by decide +kernel
theorem dX5_alike_16 : decode cX5_alike 16 = .ok (.aload_n 0, 1) := by decide +kernel
theorem dX5_alike_17 : decode cX5_alike 17 = .ok (.getfield 23, 3) := by decide +kernel
theorem dX5_alike_20 : decode cX5_alike 20 = .ok (.getfield 159, 3) := by decide +kernel
theorem dX5_alike_23 : decode cX5_alike 23 = .ok (.if_icmp .ge 57, 3) := by decide +kernel
theorem dX5_alike_26 : decode cX5_alike 26 = .ok (.iload_n 3, 1) := by decide +kernel
theorem dX5_alike_27 : decode cX5_alike 27 = .ok (.iconst 1, 1) := by decide +kernel
theorem dX5_alike_28 : decode cX5_alike 28 = .ok (.iadd, 1) := by decide +kernel
theorem dX5_alike_29 : decode cX5_alike 29 = .ok (.istore 4, 2) := by decide +kernel
theorem dX5_alike_31 : decode cX5_alike 31 = .ok (.iload 4, 2) := by decide +kernel
theorem dX5_alike_33 : decode cX5_alike 33 = .ok (.aload_n 0, 1) := by decide +kernel
theorem dX5_alike_34 : decode cX5_alike 34 = .ok (.getfield 23, 3) := by decide +kernel
theorem dX5_alike_37 : decode cX5_alike 37 = .ok (.getfield 159, 3) := by decide +kernel
theorem dX5_alike_40 : decode cX5_alike 40 = .ok (.if_icmp .ge 34, 3) := by decide +kernel
theorem dX5_alike_43 : decode cX5_alike 43 = .ok (.aload_n 0, 1) := by decide +kernel
theorem dX5_alike_44 : decode cX5_alike 44 = .ok (.iload_n 3, 1) := by decide +kernel
theorem dX5_alike_45 : decode cX5_alike 45 = .ok (.iload 4, 2) := by decide +kernel
theorem dX5_alike_47 : decode cX5_alike 47 = .ok (.iload_n 1, 1) := by decide +kernel
theorem dX5_alike_48 : decode cX5_alike 48 = .ok (.invokevirtual 184, 3) := by decide +kernel
theorem dX5_alike_51 : decode cX5_alike 51 = .ok (.ifCond .eq 17, 3) := by decide +kernel
theorem dX5_alike_54 : decode cX5_alike 54 = .ok (.aload_n 0, 1) := by decide +kernel
theorem dX5_alike_55 : decode cX5_alike 55 = .ok (.iload_n 3, 1) := by decide +kernel
theorem dX5_alike_56 : decode cX5_alike 56 = .ok (.iload 4, 2) := by decide +kernel
theorem dX5_alike_58 : decode cX5_alike 58 = .ok (.iload_n 1, 1) := by decide +kernel
theorem dX5_alike_59 : decode cX5_alike 59 = .ok (.invokevirtual 188, 3) := by decide +kernel
theorem dX5_alike_62 : decode cX5_alike 62 = .ok (.ifCond .ne 6, 3) := by decide +kernel
theorem dX5_alike_65 : decode cX5_alike 65 = .ok (.iinc 2 1, 3) := by decide +kernel
theorem dX5_alike_68 : decode cX5_alike 68 = .ok (.iinc 4 1, 3) := by decide +kernel
theorem dX5_alike_71 : decode cX5_alike 71 = .ok (.goto (-40), 3) := by decide +kernel
theorem dX5_alike_74 : decode cX5_alike 74 = .ok (.iinc 3 1, 3) := by decide +kernel
theorem dX5_alike_77 : decode cX5_alike 77 = .ok (.goto (-62), 3) := by decide +kernel
theorem dX5_alike_80 : decode cX5_alike 80 = .ok (.iload_n 2, 1) := by decide +kernel
theorem dX5_alike_81 : decode cX5_alike 81 = .ok (.ireturn, 1) := by decide +kernel
theorem dX5_rising_0 : decode cX5_rising 0 = .ok (.aload_n 0, 1) := by decide +kernel
theorem dX5_rising_1 : decode cX5_rising 1 = .ok (.iload_n 1, 1) := by decide +kernel
theorem dX5_rising_2 : decode cX5_rising 2 = .ok (.invokevirtual 149, 3) := by decide +kernel
theorem dX5_rising_5 : decode cX5_rising 5 = .ok (.ifCond .eq 8, 3) := by decide +kernel
theorem dX5_rising_8 : decode cX5_rising 8 = .ok (.bipush (-2), 2) := by decide +kernel
theorem dX5_rising_10 : decode cX5_rising 10 = .ok (.goto 12, 3) := by decide +kernel
theorem dX5_rising_13 : decode cX5_rising 13 = .ok (.aload_n 0, 1) := by decide +kernel
theorem dX5_rising_14 : decode cX5_rising 14 = .ok (.getfield 32, 3) := by decide +kernel
theorem dX5_rising_17 : decode cX5_rising 17 = .ok (.getfield 209, 3) := by decide +kernel
theorem dX5_rising_20 : decode cX5_rising 20 = .ok (.iload_n 1, 1) := by decide +kernel
theorem dX5_rising_21 : decode cX5_rising 21 = .ok (.iaload, 1) := by decide +kernel
theorem dX5_rising_22 : decode cX5_rising 22 = .ok (.ireturn, 1) := by decide +kernel
theorem dX5_paling_0 : decode cX5_paling 0 = .ok (.aload_n 0, 1) := by decide +kernel
theorem dX5_paling_1 : decode cX5_paling 1 = .ok (.iload_n 1, 1) := by decide +kernel
theorem dX5_paling_2 : decode cX5_paling 2 = .ok (.invokevirtual 149, 3) := by decide +kernel
theorem dX5_paling_5 : decode cX5_paling 5 = .ok (.ifCond .eq 6, 3) := by decide +kernel
theorem dX5_paling_8 : decode cX5_paling 8 = .ok (.bipush (-2), 2) := by decide +kernel
theorem dX5_paling_10 : decode cX5_paling 10 = .ok (.ireturn, 1) := by decide +kernel
theorem dX5_paling_11 : decode cX5_paling 11 = .ok (.iload_n 1, 1) := by decide +kernel
theorem dX5_paling_12 : decode cX5_paling 12 = .ok (.ifCond .ne 5, 3) := by decide +kernel
theorem dX5_paling_15 : decode cX5_paling 15 = .ok (.iconst 0, 1) := by decide +kernel
theorem dX5_paling_16 : decode cX5_paling 16 = .ok (.ireturn, 1) := by decide +kernel
theorem dX5_paling_17 : decode cX5_paling 17 = .ok (.iconst 0, 1) := by decide +kernel
theorem dX5_paling_18 : decode cX5_paling 18 = .ok (.istore_n 2, 1) := by decide +kernel
theorem dX5_paling_19 : decode cX5_paling 19 = .ok (.iconst 0, 1) := by decide +kernel
theorem dX5_paling_20 : decode cX5_paling 20 = .ok (.istore_n 3, 1) := by decide +kernel
theorem dX5_paling_21 : decode cX5_paling 21 = .ok (.iload_n 3, 1) := by decide +kernel
theorem dX5_paling_22 : decode cX5_paling 22 = .ok (.aload_n 0, 1) := by decide +kernel
theorem dX5_paling_23 : decode cX5_paling 23 = .ok (.getfield 23, 3) := by decide +kernel
theorem dX5_paling_26 : decode cX5_paling 26 = .ok (.getfield 159, 3) := by decide +kernel
theorem dX5_paling_29 : decode cX5_paling 29 = .ok (.if_icmp .ge 42, 3) := by decide +kernel
theorem dX5_paling_32 : decode cX5_paling 32 = .ok (.aload_n 0, 1) := by decide +kernel
theorem dX5_paling_33 : decode cX5_paling 33 = .ok (.getfield 32, 3) := by decide +kernel
theorem dX5_paling_36 : decode cX5_paling 36 = .ok (.getfield 169, 3) := by decide +kernel
theorem dX5_paling_39 : decode cX5_paling 39 = .ok (.iload_n 1, 1) := by decide +kernel
theorem dX5_paling_40 : decode cX5_paling 40 = .ok (.aaload, 1) := by decide +kernel
theorem dX5_paling_41 : decode cX5_paling 41 = .ok (.iload_n 3, 1) := by decide +kernel
theorem dX5_paling_42 : decode cX5_paling 42 = .ok (.iaload, 1) := by decide +kernel
theorem dX5_paling_43 : decode cX5_paling 43 = .ok (.aload_n 0, 1) := by decide +kernel
theorem dX5_paling_44 : decode cX5_paling 44 = .ok (.getfield 32, 3) := by decide +kernel
theorem dX5_paling_47 : decode cX5_paling 47 = .ok (.getfield 169, 3) := by decide +kernel
theorem dX5_paling_50 : decode cX5_paling 50 = .ok (.iload_n 1, 1) := by decide +kernel
theorem dX5_paling_51 : decode cX5_paling 51 = .ok (.iconst 1, 1) := by decide +kernel
theorem dX5_paling_52 : decode cX5_paling 52 = .ok (.isub, 1) := by decide +kernel
theorem dX5_paling_53 : decode cX5_paling 53 = .ok (.aaload, 1) := by decide +kernel
theorem dX5_paling_54 : decode cX5_paling 54 = .ok (.iload_n 3, 1) := by decide +kernel
theorem dX5_paling_55 : decode cX5_paling 55 = .ok (.iaload, 1) := by decide +kernel
theorem dX5_paling_56 : decode cX5_paling 56 = .ok (.if_icmp .ge 9, 3) := by decide +kernel
theorem dX5_paling_59 : decode cX5_paling 59 = .ok (.iload_n 2, 1) := by decide +kernel
theorem dX5_paling_60 : decode cX5_paling 60 = .ok (.iconst 1, 1) := by decide +kernel
theorem dX5_paling_61 : decode cX5_paling 61 = .ok (.iload_n 3, 1) := by decide +kernel
theorem dX5_paling_62 : decode cX5_paling 62 = .ok (.ishl, 1) := by decide +kernel
theorem dX5_paling_63 : decode cX5_paling 63 = .ok (.ior, 1) := by decide +kernel
theorem dX5_paling_64 : decode cX5_paling 64 = .ok (.istore_n 2, 1) := by decide +kernel
theorem dX5_paling_65 : decode cX5_paling 65 = .ok (.iinc 3 1, 3) := by decide +kernel
theorem dX5_paling_68 : decode cX5_paling 68 = .ok (.goto (-47), 3) := by decide +kernel
theorem dX5_paling_71 : decode cX5_paling 71 = .ok (.iload_n 2, 1) := by decide +kernel
theorem dX5_paling_72 : decode cX5_paling 72 = .ok (.ireturn, 1) := by decide +kernel
theorem dX5_bold_0 : decode cX5_bold 0 = .ok (.aload_n 0, 1) := by decide +kernel
theorem dX5_bold_1 : decode cX5_bold 1 = .ok (.iload_n 1, 1) := by decide +kernel
theorem dX5_bold_2 : decode cX5_bold 2 = .ok (.invokevirtual 119, 3) := by decide +kernel
theorem dX5_bold_5 : decode cX5_bold 5 = .ok (.ifCond .ne 11, 3) := by decide +kernel
theorem dX5_bold_8 : decode cX5_bold 8 = .ok (.aload_n 0, 1) := by decide +kernel
theorem dX5_bold_9 : decode cX5_bold 9 = .ok (.iload_n 2, 1) := by decide +kernel
theorem dX5_bold_10 : decode cX5_bold 10 = .ok (.invokevirtual 149, 3) := by decide +kernel
theorem dX5_bold_13 : decode cX5_bold 13 = .ok (.ifCond .eq 8, 3) := by decide +kernel
theorem dX5_bold_16 : decode cX5_bold 16 = .ok (.bipush (-2), 2) := by decide +kernel
theorem dX5_bold_18 : decode cX5_bold 18 = .ok (.goto 19, 3) := by decide +kernel
theorem dX5_bold_21 : decode cX5_bold 21 = .ok (.aload_n 0, 1) := by decide +kernel
theorem dX5_bold_22 : decode cX5_bold 22 = .ok (.aload_n 0, 1) := by decide +kernel
theorem dX5_bold_23 : decode cX5_bold 23 = .ok (.iload_n 2, 1) := by decide +kernel
theorem dX5_bold_24 : decode cX5_bold 24 = .ok (.invokevirtual 152, 3) := by decide +kernel
theorem dX5_bold_27 : decode cX5_bold 27 = .ok (.aload_n 0, 1) := by decide +kernel
theorem dX5_bold_28 : decode cX5_bold 28 = .ok (.iload_n 1, 1) := by decide +kernel
theorem dX5_bold_29 : decode cX5_bold 29 = .ok (.invokevirtual 142, 3) := by decide +kernel
theorem dX5_bold_32 : decode cX5_bold 32 = .ok (.iand, 1) := by decide +kernel
theorem dX5_bold_33 : decode cX5_bold 33 = .ok (.iload_n 2, 1) := by decide +kernel
theorem dX5_bold_34 : decode cX5_bold 34 = .ok (.invokevirtual 200, 3) := by decide +kernel
theorem dX5_bold_37 : decode cX5_bold 37 = .ok (.ireturn, 1) := by decide +kernel
theorem dX5_sum_0 : decode cX5_sum 0 = .ok (.aload_n 0, 1) := by decide +kernel
theorem dX5_sum_1 : decode cX5_sum 1 = .ok (.iload_n 1, 1) := by decide +kernel
theorem dX5_sum_2 : decode cX5_sum 2 = .ok (.invokevirtual 119, 3) := by decide +kernel
theorem dX5_sum_5 : decode cX5_sum 5 = .ok (.ifCond .ne 11, 3) := by decide +kernel
theorem dX5_sum_8 : decode cX5_sum 8 = .ok (.aload_n 0, 1) := by decide +kernel
theorem dX5_sum_9 : decode cX5_sum 9 = .ok (.iload_n 2, 1) := by decide +kernel
theorem dX5_sum_10 : decode cX5_sum 10 = .ok (.invokevirtual 149, 3) := by decide +kernel
theorem dX5_sum_13 : decode cX5_sum 13 = .ok (.ifCond .eq 6, 3) := by decide +kernel
theorem dX5_sum_16 : decode cX5_sum 16 = .ok (.bipush (-2), 2) := by decide +kernel
theorem dX5_sum_18 : decode cX5_sum 18 = .ok (.ireturn, 1) := by decide +kernel
theorem dX5_sum_19 : decode cX5_sum 19 = .ok (.iconst 0, 1) := by decide +kernel
theorem dX5_sum_20 : decode cX5_sum 20 = .ok (.istore_n 3, 1) := by decide +kernel
theorem dX5_sum_21 : decode cX5_sum 21 = .ok (.iconst 0, 1) := by decide +kernel
theorem dX5_sum_22 : decode cX5_sum 22 = .ok (.istore 4, 2) := by decide +kernel
theorem dX5_sum_24 : decode cX5_sum 24 = .ok (.iload 4, 2) := by decide +kernel
theorem dX5_sum_26 : decode cX5_sum 26 = .ok (.aload_n 0, 1) := by decide +kernel
theorem dX5_sum_27 : decode cX5_sum 27 = .ok (.getfield 23, 3) := by decide +kernel
theorem dX5_sum_30 : decode cX5_sum 30 = .ok (.getfield 159, 3) := by decide +kernel
theorem dX5_sum_33 : decode cX5_sum 33 = .ok (.if_icmp .ge 38, 3) := by decide +kernel
theorem dX5_sum_36 : decode cX5_sum 36 = .ok (.aload_n 0, 1) := by decide +kernel
theorem dX5_sum_37 : decode cX5_sum 37 = .ok (.getfield 23, 3) := by decide +kernel
theorem dX5_sum_40 : decode cX5_sum 40 = .ok (.getfield 128, 3) := by decide +kernel
theorem dX5_sum_43 : decode cX5_sum 43 = .ok (.iload 4, 2) := by decide +kernel
theorem dX5_sum_45 : decode cX5_sum 45 = .ok (.iaload, 1) := by decide +kernel
theorem dX5_sum_46 : decode cX5_sum 46 = .ok (.iload_n 1, 1) := by decide +kernel
theorem dX5_sum_47 : decode cX5_sum 47 = .ok (.if_icmp .ne 18, 3) := by decide +kernel
theorem dX5_sum_50 : decode cX5_sum 50 = .ok (.iload_n 3, 1) := by decide +kernel
theorem dX5_sum_51 : decode cX5_sum 51 = .ok (.aload_n 0, 1) := by decide +kernel
theorem dX5_sum_52 : decode cX5_sum 52 = .ok (.getfield 32, 3) := by decide +kernel
theorem dX5_sum_55 : decode cX5_sum 55 = .ok (.getfield 169, 3) := by decide +kernel
theorem dX5_sum_58 : decode cX5_sum 58 = .ok (.iload_n 2, 1) := by decide +kernel
theorem dX5_sum_59 : decode cX5_sum 59 = .ok (.aaload, 1) := by decide +kernel
theorem dX5_sum_60 : decode cX5_sum 60 = .ok (.iload 4, 2) := by decide +kernel
theorem dX5_sum_62 : decode cX5_sum 62 = .ok (.iaload, 1) := by decide +kernel
theorem dX5_sum_63 : decode cX5_sum 63 = .ok (.iadd, 1) := by decide +kernel
theorem dX5_sum_64 : decode cX5_sum 64 = .ok (.istore_n 3, 1) := by decide +kernel
theorem dX5_sum_65 : decode cX5_sum 65 = .ok (.iinc 4 1, 3) := by decide +kernel
theorem dX5_sum_68 : decode cX5_sum 68 = .ok (.goto (-44), 3) := by decide +kernel
theorem dX5_sum_71 : decode cX5_sum 71 = .ok (.iload_n 3, 1) := by decide +kernel
theorem dX5_sum_72 : decode cX5_sum 72 = .ok (.ireturn, 1) := by decide +kernel
theorem dX5_spread_0 : decode cX5_spread 0 = .ok (.aload_n 0, 1) := by decide +kernel
theorem dX5_spread_1 : decode cX5_spread 1 = .ok (.iload_n 1, 1) := by decide +kernel
theorem dX5_spread_2 : decode cX5_spread 2 = .ok (.invokevirtual 149, 3) := by decide +kernel
theorem dX5_spread_5 : decode cX5_spread 5 = .ok (.ifCond .eq 6, 3) := by decide +kernel
theorem dX5_spread_8 : decode cX5_spread 8 = .ok (.bipush (-2), 2) := by decide +kernel
theorem dX5_spread_10 : decode cX5_spread 10 = .ok (.ireturn, 1) := by decide +kernel
theorem dX5_spread_11 : decode cX5_spread 11 = .ok (.aload_n 0, 1) := by decide +kernel
theorem dX5_spread_12 : decode cX5_spread 12 = .ok (.aload_n 0, 1) := by decide +kernel
theorem dX5_spread_13 : decode cX5_spread 13 = .ok (.iload_n 1, 1) := by decide +kernel
theorem dX5_spread_14 : decode cX5_spread 14 = .ok (.invokevirtual 152, 3) := by decide +kernel
theorem dX5_spread_17 : decode cX5_spread 17 = .ok (.iload_n 1, 1) := by decide +kernel
theorem dX5_spread_18 : decode cX5_spread 18 = .ok (.invokevirtual 200, 3) := by decide +kernel
theorem dX5_spread_21 : decode cX5_spread 21 = .ok (.istore_n 2, 1) := by decide +kernel
theorem dX5_spread_22 : decode cX5_spread 22 = .ok (.aload_n 0, 1) := by decide +kernel
theorem dX5_spread_23 : decode cX5_spread 23 = .ok (.aload_n 0, 1) := by decide +kernel
theorem dX5_spread_24 : decode cX5_spread 24 = .ok (.iload_n 1, 1) := by decide +kernel
theorem dX5_spread_25 : decode cX5_spread 25 = .ok (.invokevirtual 152, 3) := by decide +kernel
theorem dX5_spread_28 : decode cX5_spread 28 = .ok (.iload_n 1, 1) := by decide +kernel
theorem dX5_spread_29 : decode cX5_spread 29 = .ok (.invokevirtual 203, 3) := by decide +kernel
theorem dX5_spread_32 : decode cX5_spread 32 = .ok (.istore_n 3, 1) := by decide +kernel
theorem dX5_spread_33 : decode cX5_spread 33 = .ok (.iload_n 2, 1) := by decide +kernel
theorem dX5_spread_34 : decode cX5_spread 34 = .ok (.iconst (-1), 1) := by decide +kernel
theorem dX5_spread_35 : decode cX5_spread 35 = .ok (.if_icmp .eq 8, 3) := by decide +kernel
theorem dX5_spread_38 : decode cX5_spread 38 = .ok (.iload_n 3, 1) := by decide +kernel
theorem dX5_spread_39 : decode cX5_spread 39 = .ok (.iconst (-1), 1) := by decide +kernel
theorem dX5_spread_40 : decode cX5_spread 40 = .ok (.if_icmp .ne 7, 3) := by decide +kernel
theorem dX5_spread_43 : decode cX5_spread 43 = .ok (.iconst 0, 1) := by decide +kernel
theorem dX5_spread_44 : decode cX5_spread 44 = .ok (.goto 26, 3) := by decide +kernel
theorem dX5_spread_47 : decode cX5_spread 47 = .ok (.aload_n 0, 1) := by decide +kernel
theorem dX5_spread_48 : decode cX5_spread 48 = .ok (.getfield 32, 3) := by decide +kernel
theorem dX5_spread_51 : decode cX5_spread 51 = .ok (.getfield 169, 3) := by decide +kernel
theorem dX5_spread_54 : decode cX5_spread 54 = .ok (.iload_n 1, 1) := by decide +kernel
theorem dX5_spread_55 : decode cX5_spread 55 = .ok (.aaload, 1) := by decide +kernel
theorem dX5_spread_56 : decode cX5_spread 56 = .ok (.iload_n 2, 1) := by decide +kernel
theorem dX5_spread_57 : decode cX5_spread 57 = .ok (.iaload, 1) := by decide +kernel
theorem dX5_spread_58 : decode cX5_spread 58 = .ok (.aload_n 0, 1) := by decide +kernel
theorem dX5_spread_59 : decode cX5_spread 59 = .ok (.getfield 32, 3) := by decide +kernel
theorem dX5_spread_62 : decode cX5_spread 62 = .ok (.getfield 169, 3) := by decide +kernel
theorem dX5_spread_65 : decode cX5_spread 65 = .ok (.iload_n 1, 1) := by decide +kernel
theorem dX5_spread_66 : decode cX5_spread 66 = .ok (.aaload, 1) := by decide +kernel
theorem dX5_spread_67 : decode cX5_spread 67 = .ok (.iload_n 3, 1) := by decide +kernel
theorem dX5_spread_68 : decode cX5_spread 68 = .ok (.iaload, 1) := by decide +kernel
theorem dX5_spread_69 : decode cX5_spread 69 = .ok (.isub, 1) := by decide +kernel
theorem dX5_spread_70 : decode cX5_spread 70 = .ok (.ireturn, 1) := by decide +kernel
theorem dX5_peaks_0 : decode cX5_peaks 0 = .ok (.aload_n 0, 1) := by decide +kernel
theorem dX5_peaks_1 : decode cX5_peaks 1 = .ok (.invokevirtual 155, 3) := by decide +kernel
theorem dX5_peaks_4 : decode cX5_peaks 4 = .ok (.ifCond .eq 6, 3) := by decide +kernel
theorem dX5_peaks_7 : decode cX5_peaks 7 = .ok (.bipush (-2), 2) := by decide +kernel
theorem dX5_peaks_9 : decode cX5_peaks 9 = .ok (.ireturn, 1) := by decide +kernel
theorem dX5_peaks_10 : decode cX5_peaks 10 = .ok (.iconst 0, 1) := by decide +kernel
theorem dX5_peaks_11 : decode cX5_peaks 11 = .ok (.istore_n 1, 1) := by decide +kernel
theorem dX5_peaks_12 : decode cX5_peaks 12 = .ok (.iconst 1, 1) := by decide +kernel
theorem dX5_peaks_13 : decode cX5_peaks 13 = .ok (.istore_n 2, 1) := by decide +kernel
theorem dX5_peaks_14 : decode cX5_peaks 14 = .ok (.iload_n 2, 1) := by decide +kernel
theorem dX5_peaks_15 : decode cX5_peaks 15 = .ok (.aload_n 0, 1) := by decide +kernel
theorem dX5_peaks_16 : decode cX5_peaks 16 = .ok (.getfield 23, 3) := by decide +kernel
theorem dX5_peaks_19 : decode cX5_peaks 19 = .ok (.getfield 175, 3) := by decide +kernel
theorem dX5_peaks_22 : decode cX5_peaks 22 = .ok (.if_icmp .gt 38, 3) := by decide +kernel
theorem dX5_peaks_25 : decode cX5_peaks 25 = .ok (.aload_n 0, 1) := by decide +kernel
theorem dX5_peaks_26 : decode cX5_peaks 26 = .ok (.getfield 32, 3) := by decide +kernel
theorem dX5_peaks_29 : decode cX5_peaks 29 = .ok (.aload_n 0, 1) := by decide +kernel
theorem dX5_peaks_30 : decode cX5_peaks 30 = .ok (.getfield 23, 3) := by decide +kernel
theorem dX5_peaks_33 : decode cX5_peaks 33 = .ok (.iload_n 2, 1) := by decide +kernel
theorem dX5_peaks_34 : decode cX5_peaks 34 = .ok (.invokevirtual 196, 3) := by decide +kernel
theorem dX5_peaks_37 : decode cX5_peaks 37 = .ok (.aload_n 0, 1) := by decide +kernel
theorem dX5_peaks_38 : decode cX5_peaks 38 = .ok (.getfield 32, 3) := by decide +kernel
theorem dX5_peaks_41 : decode cX5_peaks 41 = .ok (.aload_n 0, 1) := by decide +kernel
theorem dX5_peaks_42 : decode cX5_peaks 42 = .ok (.getfield 23, 3) := by decide +kernel
theorem dX5_peaks_45 : decode cX5_peaks 45 = .ok (.iload_n 1, 1) := by decide +kernel
theorem dX5_peaks_46 : decode cX5_peaks 46 = .ok (.invokevirtual 196, 3) := by decide +kernel
theorem dX5_peaks_49 : decode cX5_peaks 49 = .ok (.if_icmp .le 5, 3) := by decide +kernel
theorem dX5_peaks_52 : decode cX5_peaks 52 = .ok (.iload_n 2, 1) := by decide +kernel
theorem dX5_peaks_53 : decode cX5_peaks 53 = .ok (.istore_n 1, 1) := by decide +kernel
theorem dX5_peaks_54 : decode cX5_peaks 54 = .ok (.iinc 2 1, 3) := by decide +kernel
theorem dX5_peaks_57 : decode cX5_peaks 57 = .ok (.goto (-43), 3) := by decide +kernel
theorem dX5_peaks_60 : decode cX5_peaks 60 = .ok (.iload_n 1, 1) := by decide +kernel
theorem dX5_peaks_61 : decode cX5_peaks 61 = .ok (.ireturn, 1) := by decide +kernel
theorem dX5_passes_0 : decode cX5_passes 0 = .ok (.aload_n 0, 1) := by decide +kernel
theorem dX5_passes_1 : decode cX5_passes 1 = .ok (.iload_n 1, 1) := by decide +kernel
theorem dX5_passes_2 : decode cX5_passes 2 = .ok (.invokevirtual 125, 3) := by decide +kernel
theorem dX5_passes_5 : decode cX5_passes 5 = .ok (.ifCond .ne 11, 3) := by decide +kernel
theorem dX5_passes_8 : decode cX5_passes 8 = .ok (.aload_n 0, 1) := by decide +kernel
theorem dX5_passes_9 : decode cX5_passes 9 = .ok (.iload_n 2, 1) := by decide +kernel
theorem dX5_passes_10 : decode cX5_passes 10 = .ok (.invokevirtual 149, 3) := by decide +kernel
theorem dX5_passes_13 : decode cX5_passes 13 = .ok (.ifCond .eq 8, 3) := by decide +kernel
theorem dX5_passes_16 : decode cX5_passes 16 = .ok (.bipush (-2), 2) := by decide +kernel
theorem dX5_passes_18 : decode cX5_passes 18 = .ok (.goto 9, 3) := by decide +kernel
theorem dX5_passes_21 : decode cX5_passes 21 = .ok (.aload_n 0, 1) := by decide +kernel
theorem dX5_passes_22 : decode cX5_passes 22 = .ok (.iload_n 1, 1) := by decide +kernel
theorem dX5_passes_23 : decode cX5_passes 23 = .ok (.iload_n 2, 1) := by decide +kernel
theorem dX5_passes_24 : decode cX5_passes 24 = .ok (.invokevirtual 212, 3) := by decide +kernel
theorem dX5_passes_27 : decode cX5_passes 27 = .ok (.ireturn, 1) := by decide +kernel
theorem dX5_suspects_0 : decode cX5_suspects 0 = .ok (.aload_n 0, 1) := by decide +kernel
theorem dX5_suspects_1 : decode cX5_suspects 1 = .ok (.iload_n 1, 1) := by decide +kernel
theorem dX5_suspects_2 : decode cX5_suspects 2 = .ok (.invokevirtual 149, 3) := by decide +kernel
theorem dX5_suspects_5 : decode cX5_suspects 5 = .ok (.ifCond .eq 6, 3) := by decide +kernel
theorem dX5_suspects_8 : decode cX5_suspects 8 = .ok (.bipush (-2), 2) := by decide +kernel
theorem dX5_suspects_10 : decode cX5_suspects 10 = .ok (.ireturn, 1) := by decide +kernel
theorem dX5_suspects_11 : decode cX5_suspects 11 = .ok (.iconst 0, 1) := by decide +kernel
theorem dX5_suspects_12 : decode cX5_suspects 12 = .ok (.istore_n 2, 1) := by decide +kernel
theorem dX5_suspects_13 : decode cX5_suspects 13 = .ok (.iconst 0, 1) := by decide +kernel
theorem dX5_suspects_14 : decode cX5_suspects 14 = .ok (.istore_n 3, 1) := by decide +kernel
theorem dX5_suspects_15 : decode cX5_suspects 15 = .ok (.iload_n 3, 1) := by decide +kernel
theorem dX5_suspects_16 : decode cX5_suspects 16 = .ok (.aload_n 0, 1) := by decide +kernel
theorem dX5_suspects_17 : decode cX5_suspects 17 = .ok (.getfield 23, 3) := by decide +kernel
theorem dX5_suspects_20 : decode cX5_suspects 20 = .ok (.getfield 159, 3) := by decide +kernel
theorem dX5_suspects_23 : decode cX5_suspects 23 = .ok (.if_icmp .ge 36, 3) := by decide +kernel
theorem dX5_suspects_26 : decode cX5_suspects 26 = .ok (.aload_n 0, 1) := by decide +kernel
theorem dX5_suspects_27 : decode cX5_suspects 27 = .ok (.getfield 23, 3) := by decide +kernel
theorem dX5_suspects_30 : decode cX5_suspects 30 = .ok (.iload_n 3, 1) := by decide +kernel
theorem dX5_suspects_31 : decode cX5_suspects 31 = .ok (.iload_n 1, 1) := by decide +kernel
theorem dX5_suspects_32 : decode cX5_suspects 32 = .ok (.invokevirtual 165, 3) := by decide +kernel
theorem dX5_suspects_35 : decode cX5_suspects 35 = .ok (.ifCond .eq 18, 3) := by decide +kernel
theorem dX5_suspects_38 : decode cX5_suspects 38 = .ok (.aload_n 0, 1) := by decide +kernel
theorem dX5_suspects_39 : decode cX5_suspects 39 = .ok (.iload_n 3, 1) := by decide +kernel
theorem dX5_suspects_40 : decode cX5_suspects 40 = .ok (.iload_n 1, 1) := by decide +kernel
theorem dX5_suspects_41 : decode cX5_suspects 41 = .ok (.invokevirtual 212, 3) := by decide +kernel
theorem dX5_suspects_44 : decode cX5_suspects 44 = .ok (.ifCond .ne 9, 3) := by decide +kernel
theorem dX5_suspects_47 : decode cX5_suspects 47 = .ok (.iload_n 2, 1) := by decide +kernel
theorem dX5_suspects_48 : decode cX5_suspects 48 = .ok (.iconst 1, 1) := by decide +kernel
theorem dX5_suspects_49 : decode cX5_suspects 49 = .ok (.iload_n 3, 1) := by decide +kernel
theorem dX5_suspects_50 : decode cX5_suspects 50 = .ok (.ishl, 1) := by decide +kernel
theorem dX5_suspects_51 : decode cX5_suspects 51 = .ok (.ior, 1) := by decide +kernel
theorem dX5_suspects_52 : decode cX5_suspects 52 = .ok (.istore_n 2, 1) := by decide +kernel
theorem dX5_suspects_53 : decode cX5_suspects 53 = .ok (.iinc 3 1, 3) := by decide +kernel
theorem dX5_suspects_56 : decode cX5_suspects 56 = .ok (.goto (-41), 3) := by decide +kernel
theorem dX5_suspects_59 : decode cX5_suspects 59 = .ok (.iload_n 2, 1) := by decide +kernel
theorem dX5_suspects_60 : decode cX5_suspects 60 = .ok (.ireturn, 1) := by decide +kernel
theorem dX5_betrayed_0 : decode cX5_betrayed 0 = .ok (.aload_n 0, 1) := by decide +kernel
theorem dX5_betrayed_1 : decode cX5_betrayed 1 = .ok (.iload_n 1, 1) := by decide +kernel
theorem dX5_betrayed_2 : decode cX5_betrayed 2 = .ok (.invokevirtual 125, 3) := by decide +kernel
theorem dX5_betrayed_5 : decode cX5_betrayed 5 = .ok (.ifCond .eq 6, 3) := by decide +kernel
theorem dX5_betrayed_8 : decode cX5_betrayed 8 = .ok (.bipush (-2), 2) := by decide +kernel
theorem dX5_betrayed_10 : decode cX5_betrayed 10 = .ok (.ireturn, 1) := by decide +kernel
theorem dX5_betrayed_11 : decode cX5_betrayed 11 = .ok (.aload_n 0, 1) := by decide +kernel
theorem dX5_betrayed_12 : decode cX5_betrayed 12 = .ok (.getfield 23, 3) := by decide +kernel
theorem dX5_betrayed_15 : decode cX5_betrayed 15 = .ok (.getfield 134, 3) := by decide +kernel
theorem dX5_betrayed_18 : decode cX5_betrayed 18 = .ok (.iload_n 1, 1) := by decide +kernel
theorem dX5_betrayed_19 : decode cX5_betrayed 19 = .ok (.iaload, 1) := by decide +kernel
theorem dX5_betrayed_20 : decode cX5_betrayed 20 = .ok (.istore_n 2, 1) := by decide +kernel
theorem dX5_betrayed_21 : decode cX5_betrayed 21 = .ok (.iload_n 2, 1) := by decide +kernel
theorem dX5_betrayed_22 : decode cX5_betrayed 22 = .ok (.aload_n 0, 1) := by decide +kernel
theorem dX5_betrayed_23 : decode cX5_betrayed 23 = .ok (.getfield 23, 3) := by decide +kernel
theorem dX5_betrayed_26 : decode cX5_betrayed 26 = .ok (.getfield 175, 3) := by decide +kernel
theorem dX5_betrayed_29 : decode cX5_betrayed 29 = .ok (.if_icmp .gt 20, 3) := by decide +kernel
theorem dX5_betrayed_32 : decode cX5_betrayed 32 = .ok (.aload_n 0, 1) := by decide +kernel
theorem dX5_betrayed_33 : decode cX5_betrayed 33 = .ok (.iload_n 1, 1) := by decide +kernel
theorem dX5_betrayed_34 : decode cX5_betrayed 34 = .ok (.iload_n 2, 1) := by decide +kernel
theorem dX5_betrayed_35 : decode cX5_betrayed 35 = .ok (.invokevirtual 212, 3) := by decide +kernel
theorem dX5_betrayed_38 : decode cX5_betrayed 38 = .ok (.ifCond .ne 5, 3) := by decide +kernel
theorem dX5_betrayed_41 : decode cX5_betrayed 41 = .ok (.iload_n 2, 1) := by decide +kernel
theorem dX5_betrayed_42 : decode cX5_betrayed 42 = .ok (.ireturn, 1) := by decide +kernel
theorem dX5_betrayed_43 : decode cX5_betrayed 43 = .ok (.iinc 2 1, 3) := by decide +kernel
theorem dX5_betrayed_46 : decode cX5_betrayed 46 = .ok (.goto (-25), 3) := by decide +kernel
theorem dX5_betrayed_49 : decode cX5_betrayed 49 = .ok (.iconst (-1), 1) := by decide +kernel
theorem dX5_betrayed_50 : decode cX5_betrayed 50 = .ok (.ireturn, 1) := by decide +kernel
theorem dX5_honest_0 : decode cX5_honest 0 = .ok (.aload_n 0, 1) := by decide +kernel
theorem dX5_honest_1 : decode cX5_honest 1 = .ok (.iload_n 1, 1) := by decide +kernel
theorem dX5_honest_2 : decode cX5_honest 2 = .ok (.invokevirtual 149, 3) := by decide +kernel
theorem dX5_honest_5 : decode cX5_honest 5 = .ok (.ifCond .eq 6, 3) := by decide +kernel
theorem dX5_honest_8 : decode cX5_honest 8 = .ok (.bipush (-2), 2) := by decide +kernel
theorem dX5_honest_10 : decode cX5_honest 10 = .ok (.ireturn, 1) := by decide +kernel
theorem dX5_honest_11 : decode cX5_honest 11 = .ok (.iconst 0, 1) := by decide +kernel
theorem dX5_honest_12 : decode cX5_honest 12 = .ok (.istore_n 2, 1) := by decide +kernel
theorem dX5_honest_13 : decode cX5_honest 13 = .ok (.iconst 0, 1) := by decide +kernel
theorem dX5_honest_14 : decode cX5_honest 14 = .ok (.istore_n 3, 1) := by decide +kernel
theorem dX5_honest_15 : decode cX5_honest 15 = .ok (.iload_n 3, 1) := by decide +kernel
theorem dX5_honest_16 : decode cX5_honest 16 = .ok (.aload_n 0, 1) := by decide +kernel
theorem dX5_honest_17 : decode cX5_honest 17 = .ok (.getfield 23, 3) := by decide +kernel
theorem dX5_honest_20 : decode cX5_honest 20 = .ok (.getfield 159, 3) := by decide +kernel
theorem dX5_honest_23 : decode cX5_honest 23 = .ok (.if_icmp .ge 45, 3) := by decide +kernel
theorem dX5_honest_26 : decode cX5_honest 26 = .ok (.aload_n 0, 1) := by decide +kernel
theorem dX5_honest_27 : decode cX5_honest 27 = .ok (.getfield 23, 3) := by decide +kernel
theorem dX5_honest_30 : decode cX5_honest 30 = .ok (.iload_n 3, 1) := by decide +kernel
theorem dX5_honest_31 : decode cX5_honest 31 = .ok (.iload_n 1, 1) := by decide +kernel
theorem dX5_honest_32 : decode cX5_honest 32 = .ok (.invokevirtual 165, 3) := by decide +kernel
theorem dX5_honest_35 : decode cX5_honest 35 = .ok (.ifCond .eq 27, 3) := by decide +kernel
theorem dX5_honest_38 : decode cX5_honest 38 = .ok (.aload_n 0, 1) := by decide +kernel
theorem dX5_honest_39 : decode cX5_honest 39 = .ok (.iload_n 3, 1) := by decide +kernel
theorem dX5_honest_40 : decode cX5_honest 40 = .ok (.aload_n 0, 1) := by decide +kernel
theorem dX5_honest_41 : decode cX5_honest 41 = .ok (.getfield 23, 3) := by decide +kernel
theorem dX5_honest_44 : decode cX5_honest 44 = .ok (.getfield 131, 3) := by decide +kernel
theorem dX5_honest_47 : decode cX5_honest 47 = .ok (.iload_n 3, 1) := by decide +kernel
theorem dX5_honest_48 : decode cX5_honest 48 = .ok (.iaload, 1) := by decide +kernel
theorem dX5_honest_49 : decode cX5_honest 49 = .ok (.iload_n 1, 1) := by decide +kernel
theorem dX5_honest_50 : decode cX5_honest 50 = .ok (.invokevirtual 215, 3) := by decide +kernel
theorem dX5_honest_53 : decode cX5_honest 53 = .ok (.ifCond .eq 9, 3) := by decide +kernel
theorem dX5_honest_56 : decode cX5_honest 56 = .ok (.iload_n 2, 1) := by decide +kernel
theorem dX5_honest_57 : decode cX5_honest 57 = .ok (.iconst 1, 1) := by decide +kernel
theorem dX5_honest_58 : decode cX5_honest 58 = .ok (.iload_n 3, 1) := by decide +kernel
theorem dX5_honest_59 : decode cX5_honest 59 = .ok (.ishl, 1) := by decide +kernel
theorem dX5_honest_60 : decode cX5_honest 60 = .ok (.ior, 1) := by decide +kernel
theorem dX5_honest_61 : decode cX5_honest 61 = .ok (.istore_n 2, 1) := by decide +kernel
theorem dX5_honest_62 : decode cX5_honest 62 = .ok (.iinc 3 1, 3) := by decide +kernel
theorem dX5_honest_65 : decode cX5_honest 65 = .ok (.goto (-50), 3) := by decide +kernel
theorem dX5_honest_68 : decode cX5_honest 68 = .ok (.iload_n 2, 1) := by decide +kernel
theorem dX5_honest_69 : decode cX5_honest 69 = .ok (.ireturn, 1) := by decide +kernel
theorem dX5_ages_0 : decode cX5_ages 0 = .ok (.aload_n 0, 1) := by decide +kernel
theorem dX5_ages_1 : decode cX5_ages 1 = .ok (.iload_n 1, 1) := by decide +kernel
theorem dX5_ages_2 : decode cX5_ages 2 = .ok (.invokevirtual 106, 3) := by decide +kernel
theorem dX5_ages_5 : decode cX5_ages 5 = .ok (.ifCond .ne 31, 3) := by decide +kernel
theorem dX5_ages_8 : decode cX5_ages 8 = .ok (.aload_n 0, 1) := by decide +kernel
theorem dX5_ages_9 : decode cX5_ages 9 = .ok (.iload_n 2, 1) := by decide +kernel
theorem dX5_ages_10 : decode cX5_ages 10 = .ok (.invokevirtual 119, 3) := by decide +kernel
theorem dX5_ages_13 : decode cX5_ages 13 = .ok (.ifCond .ne 23, 3) := by decide +kernel
theorem dX5_ages_16 : decode cX5_ages 16 = .ok (.aload_n 0, 1) := by decide +kernel
theorem dX5_ages_17 : decode cX5_ages 17 = .ok (.iload 4, 2) := by decide +kernel
theorem dX5_ages_19 : decode cX5_ages 19 = .ok (.invokevirtual 149, 3) := by decide +kernel
theorem dX5_ages_22 : decode cX5_ages 22 = .ok (.ifCond .ne 14, 3) := by decide +kernel
theorem dX5_ages_25 : decode cX5_ages 25 = .ok (.iload_n 3, 1) := by decide +kernel
theorem dX5_ages_26 : decode cX5_ages 26 = .ok (.iconst 1, 1) := by decide +kernel
theorem dX5_ages_27 : decode cX5_ages 27 = .ok (.if_icmp .lt 9, 3) := by decide +kernel
theorem dX5_ages_30 : decode cX5_ages 30 = .ok (.iload_n 3, 1) := by decide +kernel
theorem dX5_ages_31 : decode cX5_ages 31 = .ok (.bipush 60, 2) := by decide +kernel
theorem dX5_ages_33 : decode cX5_ages 33 = .ok (.if_icmp .le 6, 3) := by decide +kernel
theorem dX5_ages_36 : decode cX5_ages 36 = .ok (.bipush (-2), 2) := by decide +kernel
theorem dX5_ages_38 : decode cX5_ages 38 = .ok (.ireturn, 1) := by decide +kernel
theorem dX5_ages_39 : decode cX5_ages 39 = .ok (.iconst 0, 1) := by decide +kernel
theorem dX5_ages_40 : decode cX5_ages 40 = .ok (.istore 5, 2) := by decide +kernel
theorem dX5_ages_42 : decode cX5_ages 42 = .ok (.iconst 0, 1) := by decide +kernel
theorem dX5_ages_43 : decode cX5_ages 43 = .ok (.istore 6, 2) := by decide +kernel
theorem dX5_ages_45 : decode cX5_ages 45 = .ok (.iload 6, 2) := by decide +kernel
theorem dX5_ages_47 : decode cX5_ages 47 = .ok (.iload 4, 2) := by decide +kernel
theorem dX5_ages_49 : decode cX5_ages 49 = .ok (.if_icmp .gt 35, 3) := by decide +kernel
theorem dX5_ages_52 : decode cX5_ages 52 = .ok (.aload_n 0, 1) := by decide +kernel
theorem dX5_ages_53 : decode cX5_ages 53 = .ok (.getfield 23, 3) := by decide +kernel
theorem dX5_ages_56 : decode cX5_ages 56 = .ok (.iload_n 1, 1) := by decide +kernel
theorem dX5_ages_57 : decode cX5_ages 57 = .ok (.iload_n 2, 1) := by decide +kernel
theorem dX5_ages_58 : decode cX5_ages 58 = .ok (.iload 6, 2) := by decide +kernel
theorem dX5_ages_60 : decode cX5_ages 60 = .ok (.iload 4, 2) := by decide +kernel
theorem dX5_ages_62 : decode cX5_ages 62 = .ok (.invokevirtual 218, 3) := by decide +kernel
theorem dX5_ages_65 : decode cX5_ages 65 = .ok (.iload_n 3, 1) := by decide +kernel
theorem dX5_ages_66 : decode cX5_ages 66 = .ok (.if_icmp .ne 12, 3) := by decide +kernel
theorem dX5_ages_69 : decode cX5_ages 69 = .ok (.iload 5, 2) := by decide +kernel
theorem dX5_ages_71 : decode cX5_ages 71 = .ok (.iconst 1, 1) := by decide +kernel
theorem dX5_ages_72 : decode cX5_ages 72 = .ok (.iload 6, 2) := by decide +kernel
theorem dX5_ages_74 : decode cX5_ages 74 = .ok (.ishl, 1) := by decide +kernel
theorem dX5_ages_75 : decode cX5_ages 75 = .ok (.ior, 1) := by decide +kernel
theorem dX5_ages_76 : decode cX5_ages 76 = .ok (.istore 5, 2) := by decide +kernel
theorem dX5_ages_78 : decode cX5_ages 78 = .ok (.iinc 6 1, 3) := by decide +kernel
theorem dX5_ages_81 : decode cX5_ages 81 = .ok (.goto (-36), 3) := by decide +kernel
theorem dX5_ages_84 : decode cX5_ages 84 = .ok (.iload 5, 2) := by decide +kernel
theorem dX5_ages_86 : decode cX5_ages 86 = .ok (.ireturn, 1) := by decide +kernel
theorem dX5_dates_0 : decode cX5_dates 0 = .ok (.aload_n 0, 1) := by decide +kernel
theorem dX5_dates_1 : decode cX5_dates 1 = .ok (.iload_n 2, 1) := by decide +kernel
theorem dX5_dates_2 : decode cX5_dates 2 = .ok (.invokevirtual 125, 3) := by decide +kernel
theorem dX5_dates_5 : decode cX5_dates 5 = .ok (.ifCond .eq 8, 3) := by decide +kernel
theorem dX5_dates_8 : decode cX5_dates 8 = .ok (.bipush (-2), 2) := by decide +kernel
theorem dX5_dates_10 : decode cX5_dates 10 = .ok (.goto 8, 3) := by decide +kernel
theorem dX5_dates_13 : decode cX5_dates 13 = .ok (.aload_n 0, 1) := by decide +kernel
theorem dX5_dates_14 : decode cX5_dates 14 = .ok (.iload_n 1, 1) := by decide +kernel
theorem dX5_dates_15 : decode cX5_dates 15 = .ok (.invokevirtual 222, 3) := by decide +kernel
theorem dX5_dates_18 : decode cX5_dates 18 = .ok (.istore_n 3, 1) := by decide +kernel
theorem dX5_dates_19 : decode cX5_dates 19 = .ok (.iload_n 3, 1) := by decide +kernel
theorem dX5_dates_20 : decode cX5_dates 20 = .ok (.ifCond .eq 7, 3) := by decide +kernel
theorem dX5_dates_23 : decode cX5_dates 23 = .ok (.iload_n 3, 1) := by decide +kernel
theorem dX5_dates_24 : decode cX5_dates 24 = .ok (.goto 12, 3) := by decide +kernel
theorem dX5_dates_27 : decode cX5_dates 27 = .ok (.aload_n 0, 1) := by decide +kernel
theorem dX5_dates_28 : decode cX5_dates 28 = .ok (.iload_n 1, 1) := by decide +kernel
theorem dX5_dates_29 : decode cX5_dates 29 = .ok (.iload_n 2, 1) := by decide +kernel
theorem dX5_dates_30 : decode cX5_dates 30 = .ok (.invokevirtual 225, 3) := by decide +kernel
theorem dX5_dates_33 : decode cX5_dates 33 = .ok (.invokestatic 228, 3) := by decide +kernel
theorem dX5_dates_36 : decode cX5_dates 36 = .ok (.ireturn, 1) := by decide +kernel
theorem dX5_first_0 : decode cX5_first 0 = .ok (.aload_n 0, 1) := by decide +kernel
theorem dX5_first_1 : decode cX5_first 1 = .ok (.iload_n 2, 1) := by decide +kernel
theorem dX5_first_2 : decode cX5_first 2 = .ok (.invokevirtual 125, 3) := by decide +kernel
theorem dX5_first_5 : decode cX5_first 5 = .ok (.ifCond .eq 8, 3) := by decide +kernel
theorem dX5_first_8 : decode cX5_first 8 = .ok (.bipush (-2), 2) := by decide +kernel
theorem dX5_first_10 : decode cX5_first 10 = .ok (.goto 8, 3) := by decide +kernel
theorem dX5_first_13 : decode cX5_first 13 = .ok (.aload_n 0, 1) := by decide +kernel
theorem dX5_first_14 : decode cX5_first 14 = .ok (.iload_n 1, 1) := by decide +kernel
theorem dX5_first_15 : decode cX5_first 15 = .ok (.invokevirtual 222, 3) := by decide +kernel
theorem dX5_first_18 : decode cX5_first 18 = .ok (.istore_n 3, 1) := by decide +kernel
theorem dX5_first_19 : decode cX5_first 19 = .ok (.iload_n 3, 1) := by decide +kernel
theorem dX5_first_20 : decode cX5_first 20 = .ok (.ifCond .eq 5, 3) := by decide +kernel
theorem dX5_first_23 : decode cX5_first 23 = .ok (.iload_n 3, 1) := by decide +kernel
theorem dX5_first_24 : decode cX5_first 24 = .ok (.ireturn, 1) := by decide +kernel
theorem dX5_first_25 : decode cX5_first 25 = .ok (.aload_n 0, 1) := by decide +kernel
theorem dX5_first_26 : decode cX5_first 26 = .ok (.iload_n 1, 1) := by decide +kernel
theorem dX5_first_27 : decode cX5_first 27 = .ok (.iload_n 2, 1) := by decide +kernel
theorem dX5_first_28 : decode cX5_first 28 = .ok (.invokevirtual 225, 3) := by decide +kernel
theorem dX5_first_31 : decode cX5_first 31 = .ok (.istore 4, 2) := by decide +kernel
theorem dX5_first_33 : decode cX5_first 33 = .ok (.iconst 0, 1) := by decide +kernel
theorem dX5_first_34 : decode cX5_first 34 = .ok (.istore 5, 2) := by decide +kernel
theorem dX5_first_36 : decode cX5_first 36 = .ok (.iload 5, 2) := by decide +kernel
theorem dX5_first_38 : decode cX5_first 38 = .ok (.aload_n 0, 1) := by decide +kernel
theorem dX5_first_39 : decode cX5_first 39 = .ok (.getfield 23, 3) := by decide +kernel
theorem dX5_first_42 : decode cX5_first 42 = .ok (.getfield 175, 3) := by decide +kernel
theorem dX5_first_45 : decode cX5_first 45 = .ok (.if_icmp .gt 22, 3) := by decide +kernel
theorem dX5_first_48 : decode cX5_first 48 = .ok (.iload 4, 2) := by decide +kernel
theorem dX5_first_50 : decode cX5_first 50 = .ok (.iload 5, 2) := by decide +kernel
theorem dX5_first_52 : decode cX5_first 52 = .ok (.invokestatic 233, 3) := by decide +kernel
theorem dX5_first_55 : decode cX5_first 55 = .ok (.ifCond .eq 6, 3) := by decide +kernel
theorem dX5_first_58 : decode cX5_first 58 = .ok (.iload 5, 2) := by decide +kernel
theorem dX5_first_60 : decode cX5_first 60 = .ok (.ireturn, 1) := by decide +kernel
theorem dX5_first_61 : decode cX5_first 61 = .ok (.iinc 5 1, 3) := by decide +kernel
theorem dX5_first_64 : decode cX5_first 64 = .ok (.goto (-28), 3) := by decide +kernel
theorem dX5_first_67 : decode cX5_first 67 = .ok (.iconst (-1), 1) := by decide +kernel
theorem dX5_first_68 : decode cX5_first 68 = .ok (.ireturn, 1) := by decide +kernel
theorem dX5_last_0 : decode cX5_last 0 = .ok (.aload_n 0, 1) := by decide +kernel
theorem dX5_last_1 : decode cX5_last 1 = .ok (.iload_n 2, 1) := by decide +kernel
theorem dX5_last_2 : decode cX5_last 2 = .ok (.invokevirtual 125, 3) := by decide +kernel
theorem dX5_last_5 : decode cX5_last 5 = .ok (.ifCond .eq 8, 3) := by decide +kernel
theorem dX5_last_8 : decode cX5_last 8 = .ok (.bipush (-2), 2) := by decide +kernel
theorem dX5_last_10 : decode cX5_last 10 = .ok (.goto 8, 3) := by decide +kernel
theorem dX5_last_13 : decode cX5_last 13 = .ok (.aload_n 0, 1) := by decide +kernel
theorem dX5_last_14 : decode cX5_last 14 = .ok (.iload_n 1, 1) := by decide +kernel
theorem dX5_last_15 : decode cX5_last 15 = .ok (.invokevirtual 222, 3) := by decide +kernel
theorem dX5_last_18 : decode cX5_last 18 = .ok (.istore_n 3, 1) := by decide +kernel
theorem dX5_last_19 : decode cX5_last 19 = .ok (.iload_n 3, 1) := by decide +kernel
theorem dX5_last_20 : decode cX5_last 20 = .ok (.ifCond .eq 5, 3) := by decide +kernel
theorem dX5_last_23 : decode cX5_last 23 = .ok (.iload_n 3, 1) := by decide +kernel
theorem dX5_last_24 : decode cX5_last 24 = .ok (.ireturn, 1) := by decide +kernel
theorem dX5_last_25 : decode cX5_last 25 = .ok (.aload_n 0, 1) := by decide +kernel
theorem dX5_last_26 : decode cX5_last 26 = .ok (.iload_n 1, 1) := by decide +kernel
theorem dX5_last_27 : decode cX5_last 27 = .ok (.iload_n 2, 1) := by decide +kernel
theorem dX5_last_28 : decode cX5_last 28 = .ok (.invokevirtual 225, 3) := by decide +kernel
theorem dX5_last_31 : decode cX5_last 31 = .ok (.istore 4, 2) := by decide +kernel
theorem dX5_last_33 : decode cX5_last 33 = .ok (.aload_n 0, 1) := by decide +kernel
theorem dX5_last_34 : decode cX5_last 34 = .ok (.getfield 23, 3) := by decide +kernel
theorem dX5_last_37 : decode cX5_last 37 = .ok (.getfield 175, 3) := by decide +kernel
theorem dX5_last_40 : decode cX5_last 40 = .ok (.istore 5, 2) := by decide +kernel
theorem dX5_last_42 : decode cX5_last 42 = .ok (.iload 5, 2) := by decide +kernel
theorem dX5_last_44 : decode cX5_last 44 = .ok (.ifCond .lt 22, 3) := by decide +kernel
theorem dX5_last_47 : decode cX5_last 47 = .ok (.iload 4, 2) := by decide +kernel
theorem dX5_last_49 : decode cX5_last 49 = .ok (.iload 5, 2) := by decide +kernel
theorem dX5_last_51 : decode cX5_last 51 = .ok (.invokestatic 233, 3) := by decide +kernel
theorem dX5_last_54 : decode cX5_last 54 = .ok (.ifCond .eq 6, 3) := by decide +kernel
theorem dX5_last_57 : decode cX5_last 57 = .ok (.iload 5, 2) := by decide +kernel
theorem dX5_last_59 : decode cX5_last 59 = .ok (.ireturn, 1) := by decide +kernel
theorem dX5_last_60 : decode cX5_last 60 = .ok (.iinc 5 (-1), 3) := by decide +kernel
theorem dX5_last_63 : decode cX5_last 63 = .ok (.goto (-21), 3) := by decide +kernel
theorem dX5_last_66 : decode cX5_last 66 = .ok (.iconst (-1), 1) := by decide +kernel
theorem dX5_last_67 : decode cX5_last 67 = .ok (.ireturn, 1) := by decide +kernel
theorem dX5_ask_0 : decode cX5_ask 0 = .ok (.aload_n 0, 1) := by decide +kernel
theorem dX5_ask_1 : decode cX5_ask 1 = .ok (.iload_n 2, 1) := by decide +kernel
theorem dX5_ask_2 : decode cX5_ask 2 = .ok (.invokevirtual 125, 3) := by decide +kernel
theorem dX5_ask_5 : decode cX5_ask 5 = .ok (.ifCond .eq 8, 3) := by decide +kernel
theorem dX5_ask_8 : decode cX5_ask 8 = .ok (.bipush (-2), 2) := by decide +kernel
theorem dX5_ask_10 : decode cX5_ask 10 = .ok (.goto 8, 3) := by decide +kernel
theorem dX5_ask_13 : decode cX5_ask 13 = .ok (.aload_n 0, 1) := by decide +kernel
theorem dX5_ask_14 : decode cX5_ask 14 = .ok (.iload_n 1, 1) := by decide +kernel
theorem dX5_ask_15 : decode cX5_ask 15 = .ok (.invokevirtual 222, 3) := by decide +kernel
theorem dX5_ask_18 : decode cX5_ask 18 = .ok (.istore_n 3, 1) := by decide +kernel
theorem dX5_ask_19 : decode cX5_ask 19 = .ok (.iload_n 3, 1) := by decide +kernel
theorem dX5_ask_20 : decode cX5_ask 20 = .ok (.ifCond .eq 7, 3) := by decide +kernel
theorem dX5_ask_23 : decode cX5_ask 23 = .ok (.iload_n 3, 1) := by decide +kernel
theorem dX5_ask_24 : decode cX5_ask 24 = .ok (.goto 13, 3) := by decide +kernel
theorem dX5_ask_27 : decode cX5_ask 27 = .ok (.aload_n 0, 1) := by decide +kernel
theorem dX5_ask_28 : decode cX5_ask 28 = .ok (.aload_n 0, 1) := by decide +kernel
theorem dX5_ask_29 : decode cX5_ask 29 = .ok (.iload_n 1, 1) := by decide +kernel
theorem dX5_ask_30 : decode cX5_ask 30 = .ok (.iload_n 2, 1) := by decide +kernel
theorem dX5_ask_31 : decode cX5_ask 31 = .ok (.invokevirtual 225, 3) := by decide +kernel
theorem dX5_ask_34 : decode cX5_ask 34 = .ok (.invokevirtual 236, 3) := by decide +kernel
theorem dX5_ask_37 : decode cX5_ask 37 = .ok (.ireturn, 1) := by decide +kernel
theorem dX5_leaves_0 : decode cX5_leaves 0 = .ok (.aload_n 0, 1) := by decide +kernel
theorem dX5_leaves_1 : decode cX5_leaves 1 = .ok (.iload_n 2, 1) := by decide +kernel
theorem dX5_leaves_2 : decode cX5_leaves 2 = .ok (.invokevirtual 125, 3) := by decide +kernel
theorem dX5_leaves_5 : decode cX5_leaves 5 = .ok (.ifCond .eq 8, 3) := by decide +kernel
theorem dX5_leaves_8 : decode cX5_leaves 8 = .ok (.bipush (-2), 2) := by decide +kernel
theorem dX5_leaves_10 : decode cX5_leaves 10 = .ok (.goto 8, 3) := by decide +kernel
theorem dX5_leaves_13 : decode cX5_leaves 13 = .ok (.aload_n 0, 1) := by decide +kernel
theorem dX5_leaves_14 : decode cX5_leaves 14 = .ok (.iload_n 1, 1) := by decide +kernel
theorem dX5_leaves_15 : decode cX5_leaves 15 = .ok (.invokevirtual 222, 3) := by decide +kernel
theorem dX5_leaves_18 : decode cX5_leaves 18 = .ok (.istore_n 3, 1) := by decide +kernel
theorem dX5_leaves_19 : decode cX5_leaves 19 = .ok (.iload_n 3, 1) := by decide +kernel
theorem dX5_leaves_20 : decode cX5_leaves 20 = .ok (.ifCond .eq 5, 3) := by decide +kernel
theorem dX5_leaves_23 : decode cX5_leaves 23 = .ok (.iload_n 3, 1) := by decide +kernel
theorem dX5_leaves_24 : decode cX5_leaves 24 = .ok (.ireturn, 1) := by decide +kernel
theorem dX5_leaves_25 : decode cX5_leaves 25 = .ok (.aload_n 0, 1) := by decide +kernel
theorem dX5_leaves_26 : decode cX5_leaves 26 = .ok (.iload_n 1, 1) := by decide +kernel
theorem dX5_leaves_27 : decode cX5_leaves 27 = .ok (.iload_n 2, 1) := by decide +kernel
theorem dX5_leaves_28 : decode cX5_leaves 28 = .ok (.invokevirtual 225, 3) := by decide +kernel
theorem dX5_leaves_31 : decode cX5_leaves 31 = .ok (.istore 4, 2) := by decide +kernel
theorem dX5_leaves_33 : decode cX5_leaves 33 = .ok (.aload_n 0, 1) := by decide +kernel
theorem dX5_leaves_34 : decode cX5_leaves 34 = .ok (.iload 4, 2) := by decide +kernel
theorem dX5_leaves_36 : decode cX5_leaves 36 = .ok (.invokevirtual 236, 3) := by decide +kernel
theorem dX5_leaves_39 : decode cX5_leaves 39 = .ok (.istore 5, 2) := by decide +kernel
theorem dX5_leaves_41 : decode cX5_leaves 41 = .ok (.iload 5, 2) := by decide +kernel
theorem dX5_leaves_43 : decode cX5_leaves 43 = .ok (.iconst (-1), 1) := by decide +kernel
theorem dX5_leaves_44 : decode cX5_leaves 44 = .ok (.if_icmp .ne 11, 3) := by decide +kernel
theorem dX5_leaves_47 : decode cX5_leaves 47 = .ok (.iload 4, 2) := by decide +kernel
theorem dX5_leaves_49 : decode cX5_leaves 49 = .ok (.invokestatic 228, 3) := by decide +kernel
theorem dX5_leaves_52 : decode cX5_leaves 52 = .ok (.goto 11, 3) := by decide +kernel
theorem dX5_leaves_55 : decode cX5_leaves 55 = .ok (.aload_n 0, 1) := by decide +kernel
theorem dX5_leaves_56 : decode cX5_leaves 56 = .ok (.iload 4, 2) := by decide +kernel
theorem dX5_leaves_58 : decode cX5_leaves 58 = .ok (.iload 5, 2) := by decide +kernel
theorem dX5_leaves_60 : decode cX5_leaves 60 = .ok (.invokevirtual 239, 3) := by decide +kernel
theorem dX5_leaves_63 : decode cX5_leaves 63 = .ok (.ireturn, 1) := by decide +kernel
theorem dX5_kinds_0 : decode cX5_kinds 0 = .ok (.aload_n 0, 1) := by decide +kernel
theorem dX5_kinds_1 : decode cX5_kinds 1 = .ok (.iload_n 2, 1) := by decide +kernel
theorem dX5_kinds_2 : decode cX5_kinds 2 = .ok (.invokevirtual 125, 3) := by decide +kernel
theorem dX5_kinds_5 : decode cX5_kinds 5 = .ok (.ifCond .eq 8, 3) := by decide +kernel
theorem dX5_kinds_8 : decode cX5_kinds 8 = .ok (.bipush (-2), 2) := by decide +kernel
theorem dX5_kinds_10 : decode cX5_kinds 10 = .ok (.goto 8, 3) := by decide +kernel
theorem dX5_kinds_13 : decode cX5_kinds 13 = .ok (.aload_n 0, 1) := by decide +kernel
theorem dX5_kinds_14 : decode cX5_kinds 14 = .ok (.iload_n 1, 1) := by decide +kernel
theorem dX5_kinds_15 : decode cX5_kinds 15 = .ok (.invokevirtual 222, 3) := by decide +kernel
theorem dX5_kinds_18 : decode cX5_kinds 18 = .ok (.istore_n 3, 1) := by decide +kernel
theorem dX5_kinds_19 : decode cX5_kinds 19 = .ok (.iload_n 3, 1) := by decide +kernel
theorem dX5_kinds_20 : decode cX5_kinds 20 = .ok (.ifCond .eq 5, 3) := by decide +kernel
theorem dX5_kinds_23 : decode cX5_kinds 23 = .ok (.iload_n 3, 1) := by decide +kernel
theorem dX5_kinds_24 : decode cX5_kinds 24 = .ok (.ireturn, 1) := by decide +kernel
theorem dX5_kinds_25 : decode cX5_kinds 25 = .ok (.iconst 0, 1) := by decide +kernel
theorem dX5_kinds_26 : decode cX5_kinds 26 = .ok (.istore 4, 2) := by decide +kernel
theorem dX5_kinds_28 : decode cX5_kinds 28 = .ok (.aload_n 0, 1) := by decide +kernel
theorem dX5_kinds_29 : decode cX5_kinds 29 = .ok (.getfield 26, 3) := by decide +kernel
theorem dX5_kinds_32 : decode cX5_kinds 32 = .ok (.aload_n 0, 1) := by decide +kernel
theorem dX5_kinds_33 : decode cX5_kinds 33 = .ok (.getfield 23, 3) := by decide +kernel
theorem dX5_kinds_36 : decode cX5_kinds 36 = .ok (.invokevirtual 96, 3) := by decide +kernel
theorem dX5_kinds_39 : decode cX5_kinds 39 = .ok (.iconst 0, 1) := by decide +kernel
theorem dX5_kinds_40 : decode cX5_kinds 40 = .ok (.istore 5, 2) := by decide +kernel
theorem dX5_kinds_42 : decode cX5_kinds 42 = .ok (.iload 5, 2) := by decide +kernel
theorem dX5_kinds_44 : decode cX5_kinds 44 = .ok (.aload_n 0, 1) := by decide +kernel
theorem dX5_kinds_45 : decode cX5_kinds 45 = .ok (.getfield 23, 3) := by decide +kernel
theorem dX5_kinds_48 : decode cX5_kinds 48 = .ok (.getfield 242, 3) := by decide +kernel
theorem dX5_kinds_51 : decode cX5_kinds 51 = .ok (.if_icmp .ge 54, 3) := by decide +kernel
theorem dX5_kinds_54 : decode cX5_kinds 54 = .ok (.aload_n 0, 1) := by decide +kernel
theorem dX5_kinds_55 : decode cX5_kinds 55 = .ok (.getfield 26, 3) := by decide +kernel
theorem dX5_kinds_58 : decode cX5_kinds 58 = .ok (.getfield 131, 3) := by decide +kernel
theorem dX5_kinds_61 : decode cX5_kinds 61 = .ok (.iload_n 2, 1) := by decide +kernel
theorem dX5_kinds_62 : decode cX5_kinds 62 = .ok (.iload 5, 2) := by decide +kernel
theorem dX5_kinds_64 : decode cX5_kinds 64 = .ok (.iastore, 1) := by decide +kernel
theorem dX5_kinds_65 : decode cX5_kinds 65 = .ok (.aload_n 0, 1) := by decide +kernel
theorem dX5_kinds_66 : decode cX5_kinds 66 = .ok (.getfield 36, 3) := by decide +kernel
theorem dX5_kinds_69 : decode cX5_kinds 69 = .ok (.aload_n 0, 1) := by decide +kernel
theorem dX5_kinds_70 : decode cX5_kinds 70 = .ok (.getfield 26, 3) := by decide +kernel
theorem dX5_kinds_73 : decode cX5_kinds 73 = .ok (.iconst 0, 1) := by decide +kernel
theorem dX5_kinds_74 : decode cX5_kinds 74 = .ok (.invokevirtual 99, 3) := by decide +kernel
theorem dX5_kinds_77 : decode cX5_kinds 77 = .ok (.aload_n 0, 1) := by decide +kernel
theorem dX5_kinds_78 : decode cX5_kinds 78 = .ok (.aload_n 0, 1) := by decide +kernel
theorem dX5_kinds_79 : decode cX5_kinds 79 = .ok (.getfield 49, 3) := by decide +kernel
theorem dX5_kinds_82 : decode cX5_kinds 82 = .ok (.iload_n 1, 1) := by decide +kernel
theorem dX5_kinds_83 : decode cX5_kinds 83 = .ok (.aaload, 1) := by decide +kernel
theorem dX5_kinds_84 : decode cX5_kinds 84 = .ok (.invokevirtual 245, 3) := by decide +kernel
theorem dX5_kinds_87 : decode cX5_kinds 87 = .ok (.ifCond .eq 12, 3) := by decide +kernel
theorem dX5_kinds_90 : decode cX5_kinds 90 = .ok (.iload 4, 2) := by decide +kernel
theorem dX5_kinds_92 : decode cX5_kinds 92 = .ok (.iconst 1, 1) := by decide +kernel
theorem dX5_kinds_93 : decode cX5_kinds 93 = .ok (.iload 5, 2) := by decide +kernel
theorem dX5_kinds_95 : decode cX5_kinds 95 = .ok (.ishl, 1) := by decide +kernel
theorem dX5_kinds_96 : decode cX5_kinds 96 = .ok (.ior, 1) := by decide +kernel
theorem dX5_kinds_97 : decode cX5_kinds 97 = .ok (.istore 4, 2) := by decide +kernel
theorem dX5_kinds_99 : decode cX5_kinds 99 = .ok (.iinc 5 1, 3) := by decide +kernel
theorem dX5_kinds_102 : decode cX5_kinds 102 = .ok (.goto (-60), 3) := by decide +kernel
theorem dX5_kinds_105 : decode cX5_kinds 105 = .ok (.iload 4, 2) := by decide +kernel
theorem dX5_kinds_107 : decode cX5_kinds 107 = .ok (.ireturn, 1) := by decide +kernel
theorem dX5_laws_0 : decode cX5_laws 0 = .ok (.aload_n 0, 1) := by decide +kernel
theorem dX5_laws_1 : decode cX5_laws 1 = .ok (.iload_n 1, 1) := by decide +kernel
theorem dX5_laws_2 : decode cX5_laws 2 = .ok (.invokevirtual 222, 3) := by decide +kernel
theorem dX5_laws_5 : decode cX5_laws 5 = .ok (.istore_n 2, 1) := by decide +kernel
theorem dX5_laws_6 : decode cX5_laws 6 = .ok (.iload_n 2, 1) := by decide +kernel
theorem dX5_laws_7 : decode cX5_laws 7 = .ok (.ifCond .eq 5, 3) := by decide +kernel
theorem dX5_laws_10 : decode cX5_laws 10 = .ok (.iload_n 2, 1) := by decide +kernel
theorem dX5_laws_11 : decode cX5_laws 11 = .ok (.ireturn, 1) := by decide +kernel
theorem dX5_laws_12 : decode cX5_laws 12 = .ok (.iconst 0, 1) := by decide +kernel
theorem dX5_laws_13 : decode cX5_laws 13 = .ok (.istore_n 3, 1) := by decide +kernel
theorem dX5_laws_14 : decode cX5_laws 14 = .ok (.aload_n 0, 1) := by decide +kernel
theorem dX5_laws_15 : decode cX5_laws 15 = .ok (.getfield 26, 3) := by decide +kernel
theorem dX5_laws_18 : decode cX5_laws 18 = .ok (.aload_n 0, 1) := by decide +kernel
theorem dX5_laws_19 : decode cX5_laws 19 = .ok (.getfield 23, 3) := by decide +kernel
theorem dX5_laws_22 : decode cX5_laws 22 = .ok (.invokevirtual 96, 3) := by decide +kernel
theorem dX5_laws_25 : decode cX5_laws 25 = .ok (.iconst 0, 1) := by decide +kernel
theorem dX5_laws_26 : decode cX5_laws 26 = .ok (.istore 4, 2) := by decide +kernel
theorem dX5_laws_28 : decode cX5_laws 28 = .ok (.iload 4, 2) := by decide +kernel
theorem dX5_laws_30 : decode cX5_laws 30 = .ok (.iconst 4, 1) := by decide +kernel
theorem dX5_laws_31 : decode cX5_laws 31 = .ok (.if_icmp .ge 50, 3) := by decide +kernel
theorem dX5_laws_34 : decode cX5_laws 34 = .ok (.aload_n 0, 1) := by decide +kernel
theorem dX5_laws_35 : decode cX5_laws 35 = .ok (.getfield 26, 3) := by decide +kernel
theorem dX5_laws_38 : decode cX5_laws 38 = .ok (.iload 4, 2) := by decide +kernel
theorem dX5_laws_40 : decode cX5_laws 40 = .ok (.putfield 249, 3) := by decide +kernel
theorem dX5_laws_43 : decode cX5_laws 43 = .ok (.aload_n 0, 1) := by decide +kernel
theorem dX5_laws_44 : decode cX5_laws 44 = .ok (.getfield 36, 3) := by decide +kernel
theorem dX5_laws_47 : decode cX5_laws 47 = .ok (.aload_n 0, 1) := by decide +kernel
theorem dX5_laws_48 : decode cX5_laws 48 = .ok (.getfield 26, 3) := by decide +kernel
theorem dX5_laws_51 : decode cX5_laws 51 = .ok (.iconst 0, 1) := by decide +kernel
theorem dX5_laws_52 : decode cX5_laws 52 = .ok (.invokevirtual 99, 3) := by decide +kernel
theorem dX5_laws_55 : decode cX5_laws 55 = .ok (.aload_n 0, 1) := by decide +kernel
theorem dX5_laws_56 : decode cX5_laws 56 = .ok (.aload_n 0, 1) := by decide +kernel
theorem dX5_laws_57 : decode cX5_laws 57 = .ok (.getfield 49, 3) := by decide +kernel
theorem dX5_laws_60 : decode cX5_laws 60 = .ok (.iload_n 1, 1) := by decide +kernel
theorem dX5_laws_61 : decode cX5_laws 61 = .ok (.aaload, 1) := by decide +kernel
theorem dX5_laws_62 : decode cX5_laws 62 = .ok (.invokevirtual 245, 3) := by decide +kernel
theorem dX5_laws_65 : decode cX5_laws 65 = .ok (.ifCond .eq 10, 3) := by decide +kernel
theorem dX5_laws_68 : decode cX5_laws 68 = .ok (.iload_n 3, 1) := by decide +kernel
theorem dX5_laws_69 : decode cX5_laws 69 = .ok (.iconst 1, 1) := by decide +kernel
theorem dX5_laws_70 : decode cX5_laws 70 = .ok (.iload 4, 2) := by decide +kernel
theorem dX5_laws_72 : decode cX5_laws 72 = .ok (.ishl, 1) := by decide +kernel
theorem dX5_laws_73 : decode cX5_laws 73 = .ok (.ior, 1) := by decide +kernel
theorem dX5_laws_74 : decode cX5_laws 74 = .ok (.istore_n 3, 1) := by decide +kernel
theorem dX5_laws_75 : decode cX5_laws 75 = .ok (.iinc 4 1, 3) := by decide +kernel
theorem dX5_laws_78 : decode cX5_laws 78 = .ok (.goto (-50), 3) := by decide +kernel
theorem dX5_laws_81 : decode cX5_laws 81 = .ok (.iload_n 3, 1) := by decide +kernel
theorem dX5_laws_82 : decode cX5_laws 82 = .ok (.ireturn, 1) := by decide +kernel
theorem dX5_by_0 : decode cX5_by 0 = .ok (.aload_n 0, 1) := by decide +kernel
theorem dX5_by_1 : decode cX5_by 1 = .ok (.invokevirtual 155, 3) := by decide +kernel
theorem dX5_by_4 : decode cX5_by 4 = .ok (.ifCond .ne 12, 3) := by decide +kernel
theorem dX5_by_7 : decode cX5_by 7 = .ok (.iload_n 1, 1) := by decide +kernel
theorem dX5_by_8 : decode cX5_by 8 = .ok (.ifCond .lt 8, 3) := by decide +kernel
theorem dX5_by_11 : decode cX5_by 11 = .ok (.iload_n 1, 1) := by decide +kernel
theorem dX5_by_12 : decode cX5_by 12 = .ok (.iconst 4, 1) := by decide +kernel
theorem dX5_by_13 : decode cX5_by 13 = .ok (.if_icmp .lt 8, 3) := by decide +kernel
theorem dX5_by_16 : decode cX5_by 16 = .ok (.bipush (-2), 2) := by decide +kernel
theorem dX5_by_18 : decode cX5_by 18 = .ok (.goto 8, 3) := by decide +kernel
theorem dX5_by_21 : decode cX5_by 21 = .ok (.aload_n 0, 1) := by decide +kernel
theorem dX5_by_22 : decode cX5_by 22 = .ok (.iload_n 1, 1) := by decide +kernel
theorem dX5_by_23 : decode cX5_by 23 = .ok (.invokevirtual 252, 3) := by decide +kernel
theorem dX5_by_26 : decode cX5_by 26 = .ok (.ireturn, 1) := by decide +kernel
theorem dX5_law_0 : decode cX5_law 0 = .ok (.aload_n 0, 1) := by decide +kernel
theorem dX5_law_1 : decode cX5_law 1 = .ok (.invokevirtual 155, 3) := by decide +kernel
theorem dX5_law_4 : decode cX5_law 4 = .ok (.ifCond .eq 6, 3) := by decide +kernel
theorem dX5_law_7 : decode cX5_law 7 = .ok (.bipush (-2), 2) := by decide +kernel
theorem dX5_law_9 : decode cX5_law 9 = .ok (.ireturn, 1) := by decide +kernel
theorem dX5_law_10 : decode cX5_law 10 = .ok (.iconst 0, 1) := by decide +kernel
theorem dX5_law_11 : decode cX5_law 11 = .ok (.istore_n 1, 1) := by decide +kernel
theorem dX5_law_12 : decode cX5_law 12 = .ok (.aload_n 0, 1) := by decide +kernel
theorem dX5_law_13 : decode cX5_law 13 = .ok (.iconst 0, 1) := by decide +kernel
theorem dX5_law_14 : decode cX5_law 14 = .ok (.invokevirtual 252, 3) := by decide +kernel
theorem dX5_law_17 : decode cX5_law 17 = .ok (.istore_n 2, 1) := by decide +kernel
theorem dX5_law_18 : decode cX5_law 18 = .ok (.iconst 1, 1) := by decide +kernel
theorem dX5_law_19 : decode cX5_law 19 = .ok (.istore_n 3, 1) := by decide +kernel
theorem dX5_law_20 : decode cX5_law 20 = .ok (.iload_n 3, 1) := by decide +kernel
theorem dX5_law_21 : decode cX5_law 21 = .ok (.iconst 4, 1) := by decide +kernel
theorem dX5_law_22 : decode cX5_law 22 = .ok (.if_icmp .ge 27, 3) := by decide +kernel
theorem dX5_law_25 : decode cX5_law 25 = .ok (.aload_n 0, 1) := by decide +kernel
theorem dX5_law_26 : decode cX5_law 26 = .ok (.iload_n 3, 1) := by decide +kernel
theorem dX5_law_27 : decode cX5_law 27 = .ok (.invokevirtual 252, 3) := by decide +kernel
theorem dX5_law_30 : decode cX5_law 30 = .ok (.istore 4, 2) := by decide +kernel
theorem dX5_law_32 : decode cX5_law 32 = .ok (.iload 4, 2) := by decide +kernel
theorem dX5_law_34 : decode cX5_law 34 = .ok (.iload_n 2, 1) := by decide +kernel
theorem dX5_law_35 : decode cX5_law 35 = .ok (.if_icmp .le 8, 3) := by decide +kernel
theorem dX5_law_38 : decode cX5_law 38 = .ok (.iload_n 3, 1) := by decide +kernel
theorem dX5_law_39 : decode cX5_law 39 = .ok (.istore_n 1, 1) := by decide +kernel
theorem dX5_law_40 : decode cX5_law 40 = .ok (.iload 4, 2) := by decide +kernel
theorem dX5_law_42 : decode cX5_law 42 = .ok (.istore_n 2, 1) := by decide +kernel
theorem dX5_law_43 : decode cX5_law 43 = .ok (.iinc 3 1, 3) := by decide +kernel
theorem dX5_law_46 : decode cX5_law 46 = .ok (.goto (-26), 3) := by decide +kernel
theorem dX5_law_49 : decode cX5_law 49 = .ok (.iload_n 1, 1) := by decide +kernel
theorem dX5_law_50 : decode cX5_law 50 = .ok (.ireturn, 1) := by decide +kernel
theorem dX5_later_0 : decode cX5_later 0 = .ok (.aload_n 0, 1) := by decide +kernel
theorem dX5_later_1 : decode cX5_later 1 = .ok (.iload_n 1, 1) := by decide +kernel
theorem dX5_later_2 : decode cX5_later 2 = .ok (.invokevirtual 125, 3) := by decide +kernel
theorem dX5_later_5 : decode cX5_later 5 = .ok (.ifCond .ne 13, 3) := by decide +kernel
theorem dX5_later_8 : decode cX5_later 8 = .ok (.iload_n 2, 1) := by decide +kernel
theorem dX5_later_9 : decode cX5_later 9 = .ok (.ifCond .lt 9, 3) := by decide +kernel
theorem dX5_later_12 : decode cX5_later 12 = .ok (.iload_n 2, 1) := by decide +kernel
theorem dX5_later_13 : decode cX5_later 13 = .ok (.bipush 20, 2) := by decide +kernel
theorem dX5_later_15 : decode cX5_later 15 = .ok (.if_icmp .le 6, 3) := by decide +kernel
theorem dX5_later_18 : decode cX5_later 18 = .ok (.bipush (-2), 2) := by decide +kernel
theorem dX5_later_20 : decode cX5_later 20 = .ok (.ireturn, 1) := by decide +kernel
theorem dX5_later_21 : decode cX5_later 21 = .ok (.aload_n 0, 1) := by decide +kernel
theorem dX5_later_22 : decode cX5_later 22 = .ok (.getfield 26, 3) := by decide +kernel
theorem dX5_later_25 : decode cX5_later 25 = .ok (.aload_n 0, 1) := by decide +kernel
theorem dX5_later_26 : decode cX5_later 26 = .ok (.getfield 23, 3) := by decide +kernel
theorem dX5_later_29 : decode cX5_later 29 = .ok (.invokevirtual 96, 3) := by decide +kernel
theorem dX5_later_32 : decode cX5_later 32 = .ok (.aload_n 0, 1) := by decide +kernel
theorem dX5_later_33 : decode cX5_later 33 = .ok (.getfield 26, 3) := by decide +kernel
theorem dX5_later_36 : decode cX5_later 36 = .ok (.getfield 134, 3) := by decide +kernel
theorem dX5_later_39 : decode cX5_later 39 = .ok (.iload_n 1, 1) := by decide +kernel
theorem dX5_later_40 : decode cX5_later 40 = .ok (.aload_n 0, 1) := by decide +kernel
theorem dX5_later_41 : decode cX5_later 41 = .ok (.getfield 23, 3) := by decide +kernel
theorem dX5_later_44 : decode cX5_later 44 = .ok (.getfield 134, 3) := by decide +kernel
theorem dX5_later_47 : decode cX5_later 47 = .ok (.iload_n 1, 1) := by decide +kernel
theorem dX5_later_48 : decode cX5_later 48 = .ok (.iaload, 1) := by decide +kernel
theorem dX5_later_49 : decode cX5_later 49 = .ok (.iload_n 2, 1) := by decide +kernel
theorem dX5_later_50 : decode cX5_later 50 = .ok (.iadd, 1) := by decide +kernel
theorem dX5_later_51 : decode cX5_later 51 = .ok (.iastore, 1) := by decide +kernel
theorem dX5_later_52 : decode cX5_later 52 = .ok (.aload_n 0, 1) := by decide +kernel
theorem dX5_later_53 : decode cX5_later 53 = .ok (.getfield 36, 3) := by decide +kernel
theorem dX5_later_56 : decode cX5_later 56 = .ok (.aload_n 0, 1) := by decide +kernel
theorem dX5_later_57 : decode cX5_later 57 = .ok (.getfield 26, 3) := by decide +kernel
theorem dX5_later_60 : decode cX5_later 60 = .ok (.iconst 0, 1) := by decide +kernel
theorem dX5_later_61 : decode cX5_later 61 = .ok (.invokevirtual 99, 3) := by decide +kernel
theorem dX5_later_64 : decode cX5_later 64 = .ok (.aload_n 0, 1) := by decide +kernel
theorem dX5_later_65 : decode cX5_later 65 = .ok (.getfield 36, 3) := by decide +kernel
theorem dX5_later_68 : decode cX5_later 68 = .ok (.getfield 169, 3) := by decide +kernel
theorem dX5_later_71 : decode cX5_later 71 = .ok (.aload_n 0, 1) := by decide +kernel
theorem dX5_later_72 : decode cX5_later 72 = .ok (.getfield 23, 3) := by decide +kernel
theorem dX5_later_75 : decode cX5_later 75 = .ok (.getfield 175, 3) := by decide +kernel
theorem dX5_later_78 : decode cX5_later 78 = .ok (.aaload, 1) := by decide +kernel
theorem dX5_later_79 : decode cX5_later 79 = .ok (.iload_n 1, 1) := by decide +kernel
theorem dX5_later_80 : decode cX5_later 80 = .ok (.iaload, 1) := by decide +kernel
theorem dX5_later_81 : decode cX5_later 81 = .ok (.ireturn, 1) := by decide +kernel
theorem dX5_other_0 : decode cX5_other 0 = .ok (.aload_n 0, 1) := by decide +kernel
theorem dX5_other_1 : decode cX5_other 1 = .ok (.iload_n 1, 1) := by decide +kernel
theorem dX5_other_2 : decode cX5_other 2 = .ok (.invokevirtual 125, 3) := by decide +kernel
theorem dX5_other_5 : decode cX5_other 5 = .ok (.ifCond .ne 11, 3) := by decide +kernel
theorem dX5_other_8 : decode cX5_other 8 = .ok (.aload_n 0, 1) := by decide +kernel
theorem dX5_other_9 : decode cX5_other 9 = .ok (.iload_n 2, 1) := by decide +kernel
theorem dX5_other_10 : decode cX5_other 10 = .ok (.invokevirtual 106, 3) := by decide +kernel
theorem dX5_other_13 : decode cX5_other 13 = .ok (.ifCond .eq 6, 3) := by decide +kernel
theorem dX5_other_16 : decode cX5_other 16 = .ok (.bipush (-2), 2) := by decide +kernel
theorem dX5_other_18 : decode cX5_other 18 = .ok (.ireturn, 1) := by decide +kernel
theorem dX5_other_19 : decode cX5_other 19 = .ok (.aload_n 0, 1) := by decide +kernel
theorem dX5_other_20 : decode cX5_other 20 = .ok (.getfield 26, 3) := by decide +kernel
theorem dX5_other_23 : decode cX5_other 23 = .ok (.aload_n 0, 1) := by decide +kernel
theorem dX5_other_24 : decode cX5_other 24 = .ok (.getfield 23, 3) := by decide +kernel
theorem dX5_other_27 : decode cX5_other 27 = .ok (.invokevirtual 96, 3) := by decide +kernel
theorem dX5_other_30 : decode cX5_other 30 = .ok (.aload_n 0, 1) := by decide +kernel
theorem dX5_other_31 : decode cX5_other 31 = .ok (.getfield 26, 3) := by decide +kernel
theorem dX5_other_34 : decode cX5_other 34 = .ok (.getfield 131, 3) := by decide +kernel
theorem dX5_other_37 : decode cX5_other 37 = .ok (.iload_n 1, 1) := by decide +kernel
theorem dX5_other_38 : decode cX5_other 38 = .ok (.iload_n 2, 1) := by decide +kernel
theorem dX5_other_39 : decode cX5_other 39 = .ok (.iastore, 1) := by decide +kernel
theorem dX5_other_40 : decode cX5_other 40 = .ok (.aload_n 0, 1) := by decide +kernel
theorem dX5_other_41 : decode cX5_other 41 = .ok (.getfield 36, 3) := by decide +kernel
theorem dX5_other_44 : decode cX5_other 44 = .ok (.aload_n 0, 1) := by decide +kernel
theorem dX5_other_45 : decode cX5_other 45 = .ok (.getfield 26, 3) := by decide +kernel
theorem dX5_other_48 : decode cX5_other 48 = .ok (.iconst 0, 1) := by decide +kernel
theorem dX5_other_49 : decode cX5_other 49 = .ok (.invokevirtual 99, 3) := by decide +kernel
theorem dX5_other_52 : decode cX5_other 52 = .ok (.aload_n 0, 1) := by decide +kernel
theorem dX5_other_53 : decode cX5_other 53 = .ok (.getfield 36, 3) := by decide +kernel
theorem dX5_other_56 : decode cX5_other 56 = .ok (.getfield 169, 3) := by decide +kernel
theorem dX5_other_59 : decode cX5_other 59 = .ok (.aload_n 0, 1) := by decide +kernel
theorem dX5_other_60 : decode cX5_other 60 = .ok (.getfield 23, 3) := by decide +kernel
theorem dX5_other_63 : decode cX5_other 63 = .ok (.getfield 175, 3) := by decide +kernel
theorem dX5_other_66 : decode cX5_other 66 = .ok (.aaload, 1) := by decide +kernel
theorem dX5_other_67 : decode cX5_other 67 = .ok (.iload_n 1, 1) := by decide +kernel
theorem dX5_other_68 : decode cX5_other 68 = .ok (.iaload, 1) := by decide +kernel
theorem dX5_other_69 : decode cX5_other 69 = .ok (.ireturn, 1) := by decide +kernel
theorem dX5_hide_0 : decode cX5_hide 0 = .ok (.aload_n 0, 1) := by decide +kernel
theorem dX5_hide_1 : decode cX5_hide 1 = .ok (.iload_n 1, 1) := by decide +kernel
theorem dX5_hide_2 : decode cX5_hide 2 = .ok (.invokevirtual 125, 3) := by decide +kernel
theorem dX5_hide_5 : decode cX5_hide 5 = .ok (.ifCond .ne 11, 3) := by decide +kernel
theorem dX5_hide_8 : decode cX5_hide 8 = .ok (.aload_n 0, 1) := by decide +kernel
theorem dX5_hide_9 : decode cX5_hide 9 = .ok (.iload_n 2, 1) := by decide +kernel
theorem dX5_hide_10 : decode cX5_hide 10 = .ok (.invokevirtual 149, 3) := by decide +kernel
theorem dX5_hide_13 : decode cX5_hide 13 = .ok (.ifCond .eq 6, 3) := by decide +kernel
theorem dX5_hide_16 : decode cX5_hide 16 = .ok (.bipush (-2), 2) := by decide +kernel
theorem dX5_hide_18 : decode cX5_hide 18 = .ok (.ireturn, 1) := by decide +kernel
theorem dX5_hide_19 : decode cX5_hide 19 = .ok (.aload_n 0, 1) := by decide +kernel
theorem dX5_hide_20 : decode cX5_hide 20 = .ok (.getfield 26, 3) := by decide +kernel
theorem dX5_hide_23 : decode cX5_hide 23 = .ok (.aload_n 0, 1) := by decide +kernel
theorem dX5_hide_24 : decode cX5_hide 24 = .ok (.getfield 23, 3) := by decide +kernel
theorem dX5_hide_27 : decode cX5_hide 27 = .ok (.invokevirtual 96, 3) := by decide +kernel
theorem dX5_hide_30 : decode cX5_hide 30 = .ok (.iconst 0, 1) := by decide +kernel
theorem dX5_hide_31 : decode cX5_hide 31 = .ok (.istore_n 3, 1) := by decide +kernel
theorem dX5_hide_32 : decode cX5_hide 32 = .ok (.iload_n 3, 1) := by decide +kernel
theorem dX5_hide_33 : decode cX5_hide 33 = .ok (.bipush 9, 2) := by decide +kernel
theorem dX5_hide_35 : decode cX5_hide 35 = .ok (.if_icmp .gt 57, 3) := by decide +kernel
theorem dX5_hide_38 : decode cX5_hide 38 = .ok (.aload_n 0, 1) := by decide +kernel
theorem dX5_hide_39 : decode cX5_hide 39 = .ok (.getfield 36, 3) := by decide +kernel
theorem dX5_hide_42 : decode cX5_hide 42 = .ok (.aload_n 0, 1) := by decide +kernel
theorem dX5_hide_43 : decode cX5_hide 43 = .ok (.getfield 26, 3) := by decide +kernel
theorem dX5_hide_46 : decode cX5_hide 46 = .ok (.iconst 0, 1) := by decide +kernel
theorem dX5_hide_47 : decode cX5_hide 47 = .ok (.invokevirtual 99, 3) := by decide +kernel
theorem dX5_hide_50 : decode cX5_hide 50 = .ok (.aload_n 0, 1) := by decide +kernel
theorem dX5_hide_51 : decode cX5_hide 51 = .ok (.getfield 36, 3) := by decide +kernel
theorem dX5_hide_54 : decode cX5_hide 54 = .ok (.getfield 169, 3) := by decide +kernel
theorem dX5_hide_57 : decode cX5_hide 57 = .ok (.aload_n 0, 1) := by decide +kernel
theorem dX5_hide_58 : decode cX5_hide 58 = .ok (.getfield 23, 3) := by decide +kernel
theorem dX5_hide_61 : decode cX5_hide 61 = .ok (.getfield 175, 3) := by decide +kernel
theorem dX5_hide_64 : decode cX5_hide 64 = .ok (.aaload, 1) := by decide +kernel
theorem dX5_hide_65 : decode cX5_hide 65 = .ok (.iload_n 1, 1) := by decide +kernel
theorem dX5_hide_66 : decode cX5_hide 66 = .ok (.iaload, 1) := by decide +kernel
theorem dX5_hide_67 : decode cX5_hide 67 = .ok (.iconst 5, 1) := by decide +kernel
theorem dX5_hide_68 : decode cX5_hide 68 = .ok (.if_icmp .ge 5, 3) := by decide +kernel
theorem dX5_hide_71 : decode cX5_hide 71 = .ok (.iload_n 3, 1) := by decide +kernel
theorem dX5_hide_72 : decode cX5_hide 72 = .ok (.ireturn, 1) := by decide +kernel
theorem dX5_hide_73 : decode cX5_hide 73 = .ok (.aload_n 0, 1) := by decide +kernel
theorem dX5_hide_74 : decode cX5_hide 74 = .ok (.getfield 26, 3) := by decide +kernel
theorem dX5_hide_77 : decode cX5_hide 77 = .ok (.getfield 255, 3) := by decide +kernel
theorem dX5_hide_80 : decode cX5_hide 80 = .ok (.iload_n 1, 1) := by decide +kernel
theorem dX5_hide_81 : decode cX5_hide 81 = .ok (.iconst (-1), 1) := by decide +kernel
theorem dX5_hide_82 : decode cX5_hide 82 = .ok (.iload_n 2, 1) := by decide +kernel
theorem dX5_hide_83 : decode cX5_hide 83 = .ok (.invokevirtual 259, 3) := by decide +kernel
theorem dX5_hide_86 : decode cX5_hide 86 = .ok (.iinc 3 1, 3) := by decide +kernel
theorem dX5_hide_89 : decode cX5_hide 89 = .ok (.goto (-57), 3) := by decide +kernel
theorem dX5_hide_92 : decode cX5_hide 92 = .ok (.iconst (-1), 1) := by decide +kernel
theorem dX5_hide_93 : decode cX5_hide 93 = .ok (.ireturn, 1) := by decide +kernel
theorem dX5_save_0 : decode cX5_save 0 = .ok (.aload_n 0, 1) := by decide +kernel
theorem dX5_save_1 : decode cX5_save 1 = .ok (.iload_n 1, 1) := by decide +kernel
theorem dX5_save_2 : decode cX5_save 2 = .ok (.invokevirtual 125, 3) := by decide +kernel
theorem dX5_save_5 : decode cX5_save 5 = .ok (.ifCond .eq 6, 3) := by decide +kernel
theorem dX5_save_8 : decode cX5_save 8 = .ok (.bipush (-2), 2) := by decide +kernel
theorem dX5_save_10 : decode cX5_save 10 = .ok (.ireturn, 1) := by decide +kernel
theorem dX5_save_11 : decode cX5_save 11 = .ok (.aload_n 0, 1) := by decide +kernel
theorem dX5_save_12 : decode cX5_save 12 = .ok (.getfield 26, 3) := by decide +kernel
theorem dX5_save_15 : decode cX5_save 15 = .ok (.aload_n 0, 1) := by decide +kernel
theorem dX5_save_16 : decode cX5_save 16 = .ok (.getfield 23, 3) := by decide +kernel
theorem dX5_save_19 : decode cX5_save 19 = .ok (.invokevirtual 96, 3) := by decide +kernel
theorem dX5_save_22 : decode cX5_save 22 = .ok (.aload_n 0, 1) := by decide +kernel
theorem dX5_save_23 : decode cX5_save 23 = .ok (.getfield 23, 3) := by decide +kernel
theorem dX5_save_26 : decode cX5_save 26 = .ok (.getfield 134, 3) := by decide +kernel
theorem dX5_save_29 : decode cX5_save 29 = .ok (.iload_n 1, 1) := by decide +kernel
theorem dX5_save_30 : decode cX5_save 30 = .ok (.iaload, 1) := by decide +kernel
theorem dX5_save_31 : decode cX5_save 31 = .ok (.istore_n 2, 1) := by decide +kernel
theorem dX5_save_32 : decode cX5_save 32 = .ok (.iload_n 2, 1) := by decide +kernel
theorem dX5_save_33 : decode cX5_save 33 = .ok (.aload_n 0, 1) := by decide +kernel
theorem dX5_save_34 : decode cX5_save 34 = .ok (.getfield 23, 3) := by decide +kernel
theorem dX5_save_37 : decode cX5_save 37 = .ok (.getfield 175, 3) := by decide +kernel
theorem dX5_save_40 : decode cX5_save 40 = .ok (.if_icmp .gt 85, 3) := by decide +kernel
theorem dX5_save_43 : decode cX5_save 43 = .ok (.aload_n 0, 1) := by decide +kernel
theorem dX5_save_44 : decode cX5_save 44 = .ok (.getfield 26, 3) := by decide +kernel
theorem dX5_save_47 : decode cX5_save 47 = .ok (.getfield 255, 3) := by decide +kernel
theorem dX5_save_50 : decode cX5_save 50 = .ok (.aload_n 0, 1) := by decide +kernel
theorem dX5_save_51 : decode cX5_save 51 = .ok (.getfield 23, 3) := by decide +kernel
theorem dX5_save_54 : decode cX5_save 54 = .ok (.getfield 255, 3) := by decide +kernel
theorem dX5_save_57 : decode cX5_save 57 = .ok (.getfield 265, 3) := by decide +kernel
theorem dX5_save_60 : decode cX5_save 60 = .ok (.putfield 265, 3) := by decide +kernel
theorem dX5_save_63 : decode cX5_save 63 = .ok (.aload_n 0, 1) := by decide +kernel
theorem dX5_save_64 : decode cX5_save 64 = .ok (.getfield 26, 3) := by decide +kernel
theorem dX5_save_67 : decode cX5_save 67 = .ok (.getfield 255, 3) := by decide +kernel
theorem dX5_save_70 : decode cX5_save 70 = .ok (.iload_n 1, 1) := by decide +kernel
theorem dX5_save_71 : decode cX5_save 71 = .ok (.aload_n 0, 1) := by decide +kernel
theorem dX5_save_72 : decode cX5_save 72 = .ok (.getfield 23, 3) := by decide +kernel
theorem dX5_save_75 : decode cX5_save 75 = .ok (.getfield 131, 3) := by decide +kernel
theorem dX5_save_78 : decode cX5_save 78 = .ok (.iload_n 1, 1) := by decide +kernel
theorem dX5_save_79 : decode cX5_save 79 = .ok (.iaload, 1) := by decide +kernel
theorem dX5_save_80 : decode cX5_save 80 = .ok (.iload_n 2, 1) := by decide +kernel
theorem dX5_save_81 : decode cX5_save 81 = .ok (.invokevirtual 259, 3) := by decide +kernel
theorem dX5_save_84 : decode cX5_save 84 = .ok (.aload_n 0, 1) := by decide +kernel
theorem dX5_save_85 : decode cX5_save 85 = .ok (.getfield 36, 3) := by decide +kernel
theorem dX5_save_88 : decode cX5_save 88 = .ok (.aload_n 0, 1) := by decide +kernel
theorem dX5_save_89 : decode cX5_save 89 = .ok (.getfield 26, 3) := by decide +kernel
theorem dX5_save_92 : decode cX5_save 92 = .ok (.iconst 0, 1) := by decide +kernel
theorem dX5_save_93 : decode cX5_save 93 = .ok (.invokevirtual 99, 3) := by decide +kernel
theorem dX5_save_96 : decode cX5_save 96 = .ok (.aload_n 0, 1) := by decide +kernel
theorem dX5_save_97 : decode cX5_save 97 = .ok (.getfield 36, 3) := by decide +kernel
theorem dX5_save_100 : decode cX5_save 100 = .ok (.getfield 169, 3) := by decide +kernel
theorem dX5_save_103 : decode cX5_save 103 = .ok (.aload_n 0, 1) := by decide +kernel
theorem dX5_save_104 : decode cX5_save 104 = .ok (.getfield 23, 3) := by decide +kernel
theorem dX5_save_107 : decode cX5_save 107 = .ok (.getfield 175, 3) := by decide +kernel
theorem dX5_save_110 : decode cX5_save 110 = .ok (.aaload, 1) := by decide +kernel
theorem dX5_save_111 : decode cX5_save 111 = .ok (.iload_n 1, 1) := by decide +kernel
theorem dX5_save_112 : decode cX5_save 112 = .ok (.iaload, 1) := by decide +kernel
theorem dX5_save_113 : decode cX5_save 113 = .ok (.iconst 5, 1) := by decide +kernel
theorem dX5_save_114 : decode cX5_save 114 = .ok (.if_icmp .lt 5, 3) := by decide +kernel
theorem dX5_save_117 : decode cX5_save 117 = .ok (.iload_n 2, 1) := by decide +kernel
theorem dX5_save_118 : decode cX5_save 118 = .ok (.ireturn, 1) := by decide +kernel
theorem dX5_save_119 : decode cX5_save 119 = .ok (.iinc 2 1, 3) := by decide +kernel
theorem dX5_save_122 : decode cX5_save 122 = .ok (.goto (-90), 3) := by decide +kernel
theorem dX5_save_125 : decode cX5_save 125 = .ok (.iconst (-1), 1) := by decide +kernel
theorem dX5_save_126 : decode cX5_save 126 = .ok (.ireturn, 1) := by decide +kernel
theorem dX5_heavy_0 : decode cX5_heavy 0 = .ok (.aload_n 0, 1) := by decide +kernel
theorem dX5_heavy_1 : decode cX5_heavy 1 = .ok (.invokevirtual 155, 3) := by decide +kernel
theorem dX5_heavy_4 : decode cX5_heavy 4 = .ok (.ifCond .eq 6, 3) := by decide +kernel
theorem dX5_heavy_7 : decode cX5_heavy 7 = .ok (.bipush (-2), 2) := by decide +kernel
theorem dX5_heavy_9 : decode cX5_heavy 9 = .ok (.ireturn, 1) := by decide +kernel
theorem dX5_heavy_10 : decode cX5_heavy 10 = .ok (.iconst (-1), 1) := by decide +kernel
theorem dX5_heavy_11 : decode cX5_heavy 11 = .ok (.istore_n 1, 1) := by decide +kernel
theorem dX5_heavy_12 : decode cX5_heavy 12 = .ok (.aload_n 0, 1) := by decide +kernel
theorem dX5_heavy_13 : decode cX5_heavy 13 = .ok (.getfield 32, 3) := by decide +kernel
theorem dX5_heavy_16 : decode cX5_heavy 16 = .ok (.aload_n 0, 1) := by decide +kernel
theorem dX5_heavy_17 : decode cX5_heavy 17 = .ok (.getfield 23, 3) := by decide +kernel
theorem dX5_heavy_20 : decode cX5_heavy 20 = .ok (.aload_n 0, 1) := by decide +kernel
theorem dX5_heavy_21 : decode cX5_heavy 21 = .ok (.getfield 23, 3) := by decide +kernel
theorem dX5_heavy_24 : decode cX5_heavy 24 = .ok (.getfield 175, 3) := by decide +kernel
theorem dX5_heavy_27 : decode cX5_heavy 27 = .ok (.invokevirtual 196, 3) := by decide +kernel
theorem dX5_heavy_30 : decode cX5_heavy 30 = .ok (.istore_n 2, 1) := by decide +kernel
theorem dX5_heavy_31 : decode cX5_heavy 31 = .ok (.aload_n 0, 1) := by decide +kernel
theorem dX5_heavy_32 : decode cX5_heavy 32 = .ok (.getfield 26, 3) := by decide +kernel
theorem dX5_heavy_35 : decode cX5_heavy 35 = .ok (.aload_n 0, 1) := by decide +kernel
theorem dX5_heavy_36 : decode cX5_heavy 36 = .ok (.getfield 23, 3) := by decide +kernel
theorem dX5_heavy_39 : decode cX5_heavy 39 = .ok (.invokevirtual 96, 3) := by decide +kernel
theorem dX5_heavy_42 : decode cX5_heavy 42 = .ok (.iconst 0, 1) := by decide +kernel
theorem dX5_heavy_43 : decode cX5_heavy 43 = .ok (.istore_n 3, 1) := by decide +kernel
theorem dX5_heavy_44 : decode cX5_heavy 44 = .ok (.iload_n 3, 1) := by decide +kernel
theorem dX5_heavy_45 : decode cX5_heavy 45 = .ok (.aload_n 0, 1) := by decide +kernel
theorem dX5_heavy_46 : decode cX5_heavy 46 = .ok (.getfield 23, 3) := by decide +kernel
theorem dX5_heavy_49 : decode cX5_heavy 49 = .ok (.getfield 159, 3) := by decide +kernel
theorem dX5_heavy_52 : decode cX5_heavy 52 = .ok (.if_icmp .ge 81, 3) := by decide +kernel
theorem dX5_heavy_55 : decode cX5_heavy 55 = .ok (.aload_n 0, 1) := by decide +kernel
theorem dX5_heavy_56 : decode cX5_heavy 56 = .ok (.getfield 26, 3) := by decide +kernel
theorem dX5_heavy_59 : decode cX5_heavy 59 = .ok (.getfield 134, 3) := by decide +kernel
theorem dX5_heavy_62 : decode cX5_heavy 62 = .ok (.iload_n 3, 1) := by decide +kernel
theorem dX5_heavy_63 : decode cX5_heavy 63 = .ok (.bipush 99, 2) := by decide +kernel
theorem dX5_heavy_65 : decode cX5_heavy 65 = .ok (.iastore, 1) := by decide +kernel
theorem dX5_heavy_66 : decode cX5_heavy 66 = .ok (.aload_n 0, 1) := by decide +kernel
theorem dX5_heavy_67 : decode cX5_heavy 67 = .ok (.getfield 36, 3) := by decide +kernel
theorem dX5_heavy_70 : decode cX5_heavy 70 = .ok (.aload_n 0, 1) := by decide +kernel
theorem dX5_heavy_71 : decode cX5_heavy 71 = .ok (.getfield 26, 3) := by decide +kernel
theorem dX5_heavy_74 : decode cX5_heavy 74 = .ok (.iconst 0, 1) := by decide +kernel
theorem dX5_heavy_75 : decode cX5_heavy 75 = .ok (.invokevirtual 99, 3) := by decide +kernel
theorem dX5_heavy_78 : decode cX5_heavy 78 = .ok (.aload_n 0, 1) := by decide +kernel
theorem dX5_heavy_79 : decode cX5_heavy 79 = .ok (.getfield 26, 3) := by decide +kernel
theorem dX5_heavy_82 : decode cX5_heavy 82 = .ok (.getfield 134, 3) := by decide +kernel
theorem dX5_heavy_85 : decode cX5_heavy 85 = .ok (.iload_n 3, 1) := by decide +kernel
theorem dX5_heavy_86 : decode cX5_heavy 86 = .ok (.aload_n 0, 1) := by decide +kernel
theorem dX5_heavy_87 : decode cX5_heavy 87 = .ok (.getfield 23, 3) := by decide +kernel
theorem dX5_heavy_90 : decode cX5_heavy 90 = .ok (.getfield 134, 3) := by decide +kernel
theorem dX5_heavy_93 : decode cX5_heavy 93 = .ok (.iload_n 3, 1) := by decide +kernel
theorem dX5_heavy_94 : decode cX5_heavy 94 = .ok (.iaload, 1) := by decide +kernel
theorem dX5_heavy_95 : decode cX5_heavy 95 = .ok (.iastore, 1) := by decide +kernel
theorem dX5_heavy_96 : decode cX5_heavy 96 = .ok (.aload_n 0, 1) := by decide +kernel
theorem dX5_heavy_97 : decode cX5_heavy 97 = .ok (.getfield 36, 3) := by decide +kernel
theorem dX5_heavy_100 : decode cX5_heavy 100 = .ok (.aload_n 0, 1) := by decide +kernel
theorem dX5_heavy_101 : decode cX5_heavy 101 = .ok (.getfield 23, 3) := by decide +kernel
theorem dX5_heavy_104 : decode cX5_heavy 104 = .ok (.aload_n 0, 1) := by decide +kernel
theorem dX5_heavy_105 : decode cX5_heavy 105 = .ok (.getfield 23, 3) := by decide +kernel
theorem dX5_heavy_108 : decode cX5_heavy 108 = .ok (.getfield 175, 3) := by decide +kernel
theorem dX5_heavy_111 : decode cX5_heavy 111 = .ok (.invokevirtual 196, 3) := by decide +kernel
theorem dX5_heavy_114 : decode cX5_heavy 114 = .ok (.istore 4, 2) := by decide +kernel
theorem dX5_heavy_116 : decode cX5_heavy 116 = .ok (.iload 4, 2) := by decide +kernel
theorem dX5_heavy_118 : decode cX5_heavy 118 = .ok (.iload_n 2, 1) := by decide +kernel
theorem dX5_heavy_119 : decode cX5_heavy 119 = .ok (.if_icmp .ge 8, 3) := by decide +kernel
theorem dX5_heavy_122 : decode cX5_heavy 122 = .ok (.iload_n 3, 1) := by decide +kernel
theorem dX5_heavy_123 : decode cX5_heavy 123 = .ok (.istore_n 1, 1) := by decide +kernel
theorem dX5_heavy_124 : decode cX5_heavy 124 = .ok (.iload 4, 2) := by decide +kernel
theorem dX5_heavy_126 : decode cX5_heavy 126 = .ok (.istore_n 2, 1) := by decide +kernel
theorem dX5_heavy_127 : decode cX5_heavy 127 = .ok (.iinc 3 1, 3) := by decide +kernel
theorem dX5_heavy_130 : decode cX5_heavy 130 = .ok (.goto (-86), 3) := by decide +kernel
theorem dX5_heavy_133 : decode cX5_heavy 133 = .ok (.iload_n 1, 1) := by decide +kernel
theorem dX5_heavy_134 : decode cX5_heavy 134 = .ok (.ireturn, 1) := by decide +kernel
theorem dX5_worth_0 : decode cX5_worth 0 = .ok (.aload_n 0, 1) := by decide +kernel
theorem dX5_worth_1 : decode cX5_worth 1 = .ok (.invokevirtual 155, 3) := by decide +kernel
theorem dX5_worth_4 : decode cX5_worth 4 = .ok (.ifCond .ne 20, 3) := by decide +kernel
theorem dX5_worth_7 : decode cX5_worth 7 = .ok (.iload_n 1, 1) := by decide +kernel
theorem dX5_worth_8 : decode cX5_worth 8 = .ok (.ifCond .lt 16, 3) := by decide +kernel
theorem dX5_worth_11 : decode cX5_worth 11 = .ok (.iload_n 1, 1) := by decide +kernel
theorem dX5_worth_12 : decode cX5_worth 12 = .ok (.iconst 1, 1) := by decide +kernel
theorem dX5_worth_13 : decode cX5_worth 13 = .ok (.aload_n 0, 1) := by decide +kernel
theorem dX5_worth_14 : decode cX5_worth 14 = .ok (.getfield 23, 3) := by decide +kernel
theorem dX5_worth_17 : decode cX5_worth 17 = .ok (.getfield 159, 3) := by decide +kernel
theorem dX5_worth_20 : decode cX5_worth 20 = .ok (.ishl, 1) := by decide +kernel
theorem dX5_worth_21 : decode cX5_worth 21 = .ok (.if_icmp .lt 6, 3) := by decide +kernel
theorem dX5_worth_24 : decode cX5_worth 24 = .ok (.bipush (-2), 2) := by decide +kernel
theorem dX5_worth_26 : decode cX5_worth 26 = .ok (.ireturn, 1) := by decide +kernel
theorem dX5_worth_27 : decode cX5_worth 27 = .ok (.aload_n 0, 1) := by decide +kernel
theorem dX5_worth_28 : decode cX5_worth 28 = .ok (.iload_n 1, 1) := by decide +kernel
theorem dX5_worth_29 : decode cX5_worth 29 = .ok (.aload_n 0, 1) := by decide +kernel
theorem dX5_worth_30 : decode cX5_worth 30 = .ok (.aload_n 0, 1) := by decide +kernel
theorem dX5_worth_31 : decode cX5_worth 31 = .ok (.getfield 23, 3) := by decide +kernel
theorem dX5_worth_34 : decode cX5_worth 34 = .ok (.getfield 175, 3) := by decide +kernel
theorem dX5_worth_37 : decode cX5_worth 37 = .ok (.invokevirtual 152, 3) := by decide +kernel
theorem dX5_worth_40 : decode cX5_worth 40 = .ok (.iand, 1) := by decide +kernel
theorem dX5_worth_41 : decode cX5_worth 41 = .ok (.aload_n 0, 1) := by decide +kernel
theorem dX5_worth_42 : decode cX5_worth 42 = .ok (.getfield 23, 3) := by decide +kernel
theorem dX5_worth_45 : decode cX5_worth 45 = .ok (.getfield 175, 3) := by decide +kernel
theorem dX5_worth_48 : decode cX5_worth 48 = .ok (.invokevirtual 206, 3) := by decide +kernel
theorem dX5_worth_51 : decode cX5_worth 51 = .ok (.ireturn, 1) := by decide +kernel
theorem dX5_share_0 : decode cX5_share 0 = .ok (.aload_n 0, 1) := by decide +kernel
theorem dX5_share_1 : decode cX5_share 1 = .ok (.iload_n 1, 1) := by decide +kernel
theorem dX5_share_2 : decode cX5_share 2 = .ok (.invokevirtual 125, 3) := by decide +kernel
theorem dX5_share_5 : decode cX5_share 5 = .ok (.ifCond .ne 11, 3) := by decide +kernel
theorem dX5_share_8 : decode cX5_share 8 = .ok (.aload_n 0, 1) := by decide +kernel
theorem dX5_share_9 : decode cX5_share 9 = .ok (.iload_n 2, 1) := by decide +kernel
theorem dX5_share_10 : decode cX5_share 10 = .ok (.invokevirtual 268, 3) := by decide +kernel
theorem dX5_share_13 : decode cX5_share 13 = .ok (.ifCond .eq 6, 3) := by decide +kernel
theorem dX5_share_16 : decode cX5_share 16 = .ok (.bipush (-2), 2) := by decide +kernel
theorem dX5_share_18 : decode cX5_share 18 = .ok (.ireturn, 1) := by decide +kernel
theorem dX5_share_19 : decode cX5_share 19 = .ok (.iconst 0, 1) := by decide +kernel
theorem dX5_share_20 : decode cX5_share 20 = .ok (.istore_n 3, 1) := by decide +kernel
theorem dX5_share_21 : decode cX5_share 21 = .ok (.iconst 0, 1) := by decide +kernel
theorem dX5_share_22 : decode cX5_share 22 = .ok (.istore 4, 2) := by decide +kernel
theorem dX5_share_24 : decode cX5_share 24 = .ok (.iload 4, 2) := by decide +kernel
theorem dX5_share_26 : decode cX5_share 26 = .ok (.aload_n 0, 1) := by decide +kernel
theorem dX5_share_27 : decode cX5_share 27 = .ok (.getfield 23, 3) := by decide +kernel
theorem dX5_share_30 : decode cX5_share 30 = .ok (.getfield 159, 3) := by decide +kernel
theorem dX5_share_33 : decode cX5_share 33 = .ok (.if_icmp .ge 46, 3) := by decide +kernel
theorem dX5_share_36 : decode cX5_share 36 = .ok (.aload_n 0, 1) := by decide +kernel
theorem dX5_share_37 : decode cX5_share 37 = .ok (.iload_n 1, 1) := by decide +kernel
theorem dX5_share_38 : decode cX5_share 38 = .ok (.iload 4, 2) := by decide +kernel
theorem dX5_share_40 : decode cX5_share 40 = .ok (.aload_n 0, 1) := by decide +kernel
theorem dX5_share_41 : decode cX5_share 41 = .ok (.getfield 23, 3) := by decide +kernel
theorem dX5_share_44 : decode cX5_share 44 = .ok (.getfield 175, 3) := by decide +kernel
theorem dX5_share_47 : decode cX5_share 47 = .ok (.invokevirtual 184, 3) := by decide +kernel
theorem dX5_share_50 : decode cX5_share 50 = .ok (.ifCond .eq 23, 3) := by decide +kernel
theorem dX5_share_53 : decode cX5_share 53 = .ok (.aload_n 0, 1) := by decide +kernel
theorem dX5_share_54 : decode cX5_share 54 = .ok (.iload_n 1, 1) := by decide +kernel
theorem dX5_share_55 : decode cX5_share 55 = .ok (.iload 4, 2) := by decide +kernel
theorem dX5_share_57 : decode cX5_share 57 = .ok (.aload_n 0, 1) := by decide +kernel
theorem dX5_share_58 : decode cX5_share 58 = .ok (.getfield 23, 3) := by decide +kernel
theorem dX5_share_61 : decode cX5_share 61 = .ok (.getfield 175, 3) := by decide +kernel
theorem dX5_share_64 : decode cX5_share 64 = .ok (.invokevirtual 188, 3) := by decide +kernel
theorem dX5_share_67 : decode cX5_share 67 = .ok (.ifCond .ne 6, 3) := by decide +kernel
theorem dX5_share_70 : decode cX5_share 70 = .ok (.iinc 3 1, 3) := by decide +kernel
theorem dX5_share_73 : decode cX5_share 73 = .ok (.iinc 4 1, 3) := by decide +kernel
theorem dX5_share_76 : decode cX5_share 76 = .ok (.goto (-52), 3) := by decide +kernel
theorem dX5_share_79 : decode cX5_share 79 = .ok (.iload_n 2, 1) := by decide +kernel
theorem dX5_share_80 : decode cX5_share 80 = .ok (.ifCond .ne 13, 3) := by decide +kernel
theorem dX5_share_83 : decode cX5_share 83 = .ok (.iload_n 3, 1) := by decide +kernel
theorem dX5_share_84 : decode cX5_share 84 = .ok (.ifCond .ne 7, 3) := by decide +kernel
theorem dX5_share_87 : decode cX5_share 87 = .ok (.iconst 0, 1) := by decide +kernel
theorem dX5_share_88 : decode cX5_share 88 = .ok (.goto 4, 3) := by decide +kernel
theorem dX5_share_91 : decode cX5_share 91 = .ok (.iconst 1, 1) := by decide +kernel
theorem dX5_share_92 : decode cX5_share 92 = .ok (.ireturn, 1) := by decide +kernel
theorem dX5_share_93 : decode cX5_share 93 = .ok (.iload_n 3, 1) := by decide +kernel
theorem dX5_share_94 : decode cX5_share 94 = .ok (.iconst 1, 1) := by decide +kernel
theorem dX5_share_95 : decode cX5_share 95 = .ok (.invokestatic 178, 3) := by decide +kernel
theorem dX5_share_98 : decode cX5_share 98 = .ok (.ireturn, 1) := by decide +kernel
theorem dX5_rests_0 : decode cX5_rests 0 = .ok (.aload_n 0, 1) := by decide +kernel
theorem dX5_rests_1 : decode cX5_rests 1 = .ok (.iload_n 1, 1) := by decide +kernel
theorem dX5_rests_2 : decode cX5_rests 2 = .ok (.iload_n 2, 1) := by decide +kernel
theorem dX5_rests_3 : decode cX5_rests 3 = .ok (.invokevirtual 271, 3) := by decide +kernel
theorem dX5_rests_6 : decode cX5_rests 6 = .ok (.ifCond .eq 6, 3) := by decide +kernel
theorem dX5_rests_9 : decode cX5_rests 9 = .ok (.bipush (-2), 2) := by decide +kernel
theorem dX5_rests_11 : decode cX5_rests 11 = .ok (.ireturn, 1) := by decide +kernel
theorem dX5_rests_12 : decode cX5_rests 12 = .ok (.iconst 0, 1) := by decide +kernel
theorem dX5_rests_13 : decode cX5_rests 13 = .ok (.istore_n 3, 1) := by decide +kernel
theorem dX5_rests_14 : decode cX5_rests 14 = .ok (.iload_n 3, 1) := by decide +kernel
theorem dX5_rests_15 : decode cX5_rests 15 = .ok (.iconst 4, 1) := by decide +kernel
theorem dX5_rests_16 : decode cX5_rests 16 = .ok (.if_icmp .ge 44, 3) := by decide +kernel
theorem dX5_rests_19 : decode cX5_rests 19 = .ok (.aload_n 0, 1) := by decide +kernel
theorem dX5_rests_20 : decode cX5_rests 20 = .ok (.iload_n 1, 1) := by decide +kernel
theorem dX5_rests_21 : decode cX5_rests 21 = .ok (.iload_n 2, 1) := by decide +kernel
theorem dX5_rests_22 : decode cX5_rests 22 = .ok (.iload_n 3, 1) := by decide +kernel
theorem dX5_rests_23 : decode cX5_rests 23 = .ok (.invokevirtual 274, 3) := by decide +kernel
theorem dX5_rests_26 : decode cX5_rests 26 = .ok (.aload_n 0, 1) := by decide +kernel
theorem dX5_rests_27 : decode cX5_rests 27 = .ok (.getfield 62, 3) := by decide +kernel
theorem dX5_rests_30 : decode cX5_rests 30 = .ok (.iload_n 3, 1) := by decide +kernel
theorem dX5_rests_31 : decode cX5_rests 31 = .ok (.aload_n 0, 1) := by decide +kernel
theorem dX5_rests_32 : decode cX5_rests 32 = .ok (.iload_n 1, 1) := by decide +kernel
theorem dX5_rests_33 : decode cX5_rests 33 = .ok (.iload_n 3, 1) := by decide +kernel
theorem dX5_rests_34 : decode cX5_rests 34 = .ok (.iconst 1, 1) := by decide +kernel
theorem dX5_rests_35 : decode cX5_rests 35 = .ok (.iand, 1) := by decide +kernel
theorem dX5_rests_36 : decode cX5_rests 36 = .ok (.invokevirtual 277, 3) := by decide +kernel
theorem dX5_rests_39 : decode cX5_rests 39 = .ok (.iastore, 1) := by decide +kernel
theorem dX5_rests_40 : decode cX5_rests 40 = .ok (.aload_n 0, 1) := by decide +kernel
theorem dX5_rests_41 : decode cX5_rests 41 = .ok (.getfield 65, 3) := by decide +kernel
theorem dX5_rests_44 : decode cX5_rests 44 = .ok (.iload_n 3, 1) := by decide +kernel
theorem dX5_rests_45 : decode cX5_rests 45 = .ok (.aload_n 0, 1) := by decide +kernel
theorem dX5_rests_46 : decode cX5_rests 46 = .ok (.iload_n 2, 1) := by decide +kernel
theorem dX5_rests_47 : decode cX5_rests 47 = .ok (.iload_n 3, 1) := by decide +kernel
theorem dX5_rests_48 : decode cX5_rests 48 = .ok (.iconst 1, 1) := by decide +kernel
theorem dX5_rests_49 : decode cX5_rests 49 = .ok (.ishr, 1) := by decide +kernel
theorem dX5_rests_50 : decode cX5_rests 50 = .ok (.invokevirtual 277, 3) := by decide +kernel
theorem dX5_rests_53 : decode cX5_rests 53 = .ok (.iastore, 1) := by decide +kernel
theorem dX5_rests_54 : decode cX5_rests 54 = .ok (.iinc 3 1, 3) := by decide +kernel
theorem dX5_rests_57 : decode cX5_rests 57 = .ok (.goto (-43), 3) := by decide +kernel
theorem dX5_rests_60 : decode cX5_rests 60 = .ok (.iconst 0, 1) := by decide +kernel
theorem dX5_rests_61 : decode cX5_rests 61 = .ok (.istore_n 3, 1) := by decide +kernel
theorem dX5_rests_62 : decode cX5_rests 62 = .ok (.iconst 0, 1) := by decide +kernel
theorem dX5_rests_63 : decode cX5_rests 63 = .ok (.istore 4, 2) := by decide +kernel
theorem dX5_rests_65 : decode cX5_rests 65 = .ok (.iload 4, 2) := by decide +kernel
theorem dX5_rests_67 : decode cX5_rests 67 = .ok (.iconst 4, 1) := by decide +kernel
theorem dX5_rests_68 : decode cX5_rests 68 = .ok (.if_icmp .ge 54, 3) := by decide +kernel
theorem dX5_rests_71 : decode cX5_rests 71 = .ok (.aload_n 0, 1) := by decide +kernel
theorem dX5_rests_72 : decode cX5_rests 72 = .ok (.getfield 62, 3) := by decide +kernel
theorem dX5_rests_75 : decode cX5_rests 75 = .ok (.iload 4, 2) := by decide +kernel
theorem dX5_rests_77 : decode cX5_rests 77 = .ok (.iaload, 1) := by decide +kernel
theorem dX5_rests_78 : decode cX5_rests 78 = .ok (.aload_n 0, 1) := by decide +kernel
theorem dX5_rests_79 : decode cX5_rests 79 = .ok (.getfield 62, 3) := by decide +kernel
theorem dX5_rests_82 : decode cX5_rests 82 = .ok (.iload 4, 2) := by decide +kernel
theorem dX5_rests_84 : decode cX5_rests 84 = .ok (.iconst 1, 1) := by decide +kernel
theorem dX5_rests_85 : decode cX5_rests 85 = .ok (.ixor, 1) := by decide +kernel
theorem dX5_rests_86 : decode cX5_rests 86 = .ok (.iaload, 1) := by decide +kernel
theorem dX5_rests_87 : decode cX5_rests 87 = .ok (.if_icmp .lt 29, 3) := by decide +kernel
theorem dX5_rests_90 : decode cX5_rests 90 = .ok (.aload_n 0, 1) := by decide +kernel
theorem dX5_rests_91 : decode cX5_rests 91 = .ok (.getfield 65, 3) := by decide +kernel
theorem dX5_rests_94 : decode cX5_rests 94 = .ok (.iload 4, 2) := by decide +kernel
theorem dX5_rests_96 : decode cX5_rests 96 = .ok (.iaload, 1) := by decide +kernel
theorem dX5_rests_97 : decode cX5_rests 97 = .ok (.aload_n 0, 1) := by decide +kernel
theorem dX5_rests_98 : decode cX5_rests 98 = .ok (.getfield 65, 3) := by decide +kernel
theorem dX5_rests_101 : decode cX5_rests 101 = .ok (.iload 4, 2) := by decide +kernel
theorem dX5_rests_103 : decode cX5_rests 103 = .ok (.iconst 2, 1) := by decide +kernel
theorem dX5_rests_104 : decode cX5_rests 104 = .ok (.ixor, 1) := by decide +kernel
theorem dX5_rests_105 : decode cX5_rests 105 = .ok (.iaload, 1) := by decide +kernel
theorem dX5_rests_106 : decode cX5_rests 106 = .ok (.if_icmp .lt 10, 3) := by decide +kernel
theorem dX5_rests_109 : decode cX5_rests 109 = .ok (.iload_n 3, 1) := by decide +kernel
theorem dX5_rests_110 : decode cX5_rests 110 = .ok (.iconst 1, 1) := by decide +kernel
theorem dX5_rests_111 : decode cX5_rests 111 = .ok (.iload 4, 2) := by decide +kernel
theorem dX5_rests_113 : decode cX5_rests 113 = .ok (.ishl, 1) := by decide +kernel
theorem dX5_rests_114 : decode cX5_rests 114 = .ok (.ior, 1) := by decide +kernel
theorem dX5_rests_115 : decode cX5_rests 115 = .ok (.istore_n 3, 1) := by decide +kernel
theorem dX5_rests_116 : decode cX5_rests 116 = .ok (.iinc 4 1, 3) := by decide +kernel
theorem dX5_rests_119 : decode cX5_rests 119 = .ok (.goto (-54), 3) := by decide +kernel
theorem dX5_rests_122 : decode cX5_rests 122 = .ok (.iload_n 3, 1) := by decide +kernel
theorem dX5_rests_123 : decode cX5_rests 123 = .ok (.ireturn, 1) := by decide +kernel
theorem dX5_gets_0 : decode cX5_gets 0 = .ok (.aload_n 0, 1) := by decide +kernel
theorem dX5_gets_1 : decode cX5_gets 1 = .ok (.iload_n 1, 1) := by decide +kernel
theorem dX5_gets_2 : decode cX5_gets 2 = .ok (.iload_n 2, 1) := by decide +kernel
theorem dX5_gets_3 : decode cX5_gets 3 = .ok (.invokevirtual 271, 3) := by decide +kernel
theorem dX5_gets_6 : decode cX5_gets 6 = .ok (.ifCond .ne 20, 3) := by decide +kernel
theorem dX5_gets_9 : decode cX5_gets 9 = .ok (.aload_n 0, 1) := by decide +kernel
theorem dX5_gets_10 : decode cX5_gets 10 = .ok (.iload_n 3, 1) := by decide +kernel
theorem dX5_gets_11 : decode cX5_gets 11 = .ok (.invokevirtual 268, 3) := by decide +kernel
theorem dX5_gets_14 : decode cX5_gets 14 = .ok (.ifCond .ne 12, 3) := by decide +kernel
theorem dX5_gets_17 : decode cX5_gets 17 = .ok (.aload_n 0, 1) := by decide +kernel
theorem dX5_gets_18 : decode cX5_gets 18 = .ok (.iload 4, 2) := by decide +kernel
theorem dX5_gets_20 : decode cX5_gets 20 = .ok (.invokevirtual 268, 3) := by decide +kernel
theorem dX5_gets_23 : decode cX5_gets 23 = .ok (.ifCond .eq 7, 3) := by decide +kernel
theorem dX5_gets_26 : decode cX5_gets 26 = .ok (.sipush (-1000), 3) := by decide +kernel
theorem dX5_gets_29 : decode cX5_gets 29 = .ok (.ireturn, 1) := by decide +kernel
theorem dX5_gets_30 : decode cX5_gets 30 = .ok (.aload_n 0, 1) := by decide +kernel
theorem dX5_gets_31 : decode cX5_gets 31 = .ok (.iload_n 1, 1) := by decide +kernel
theorem dX5_gets_32 : decode cX5_gets 32 = .ok (.iload_n 2, 1) := by decide +kernel
theorem dX5_gets_33 : decode cX5_gets 33 = .ok (.iload_n 3, 1) := by decide +kernel
theorem dX5_gets_34 : decode cX5_gets 34 = .ok (.iload 4, 2) := by decide +kernel
theorem dX5_gets_36 : decode cX5_gets 36 = .ok (.iconst 1, 1) := by decide +kernel
theorem dX5_gets_37 : decode cX5_gets 37 = .ok (.ishl, 1) := by decide +kernel
theorem dX5_gets_38 : decode cX5_gets 38 = .ok (.ior, 1) := by decide +kernel
theorem dX5_gets_39 : decode cX5_gets 39 = .ok (.invokevirtual 274, 3) := by decide +kernel
theorem dX5_gets_42 : decode cX5_gets 42 = .ok (.aload_n 0, 1) := by decide +kernel
theorem dX5_gets_43 : decode cX5_gets 43 = .ok (.iload_n 1, 1) := by decide +kernel
theorem dX5_gets_44 : decode cX5_gets 44 = .ok (.iload_n 3, 1) := by decide +kernel
theorem dX5_gets_45 : decode cX5_gets 45 = .ok (.invokevirtual 277, 3) := by decide +kernel
theorem dX5_gets_48 : decode cX5_gets 48 = .ok (.ireturn, 1) := by decide +kernel
theorem dX5_chance_0 : decode cX5_chance 0 = .ok (.aload_n 0, 1) := by decide +kernel
theorem dX5_chance_1 : decode cX5_chance 1 = .ok (.iload_n 1, 1) := by decide +kernel
theorem dX5_chance_2 : decode cX5_chance 2 = .ok (.invokevirtual 125, 3) := by decide +kernel
theorem dX5_chance_5 : decode cX5_chance 5 = .ok (.ifCond .ne 30, 3) := by decide +kernel
theorem dX5_chance_8 : decode cX5_chance 8 = .ok (.aload_n 0, 1) := by decide +kernel
theorem dX5_chance_9 : decode cX5_chance 9 = .ok (.iload_n 2, 1) := by decide +kernel
theorem dX5_chance_10 : decode cX5_chance 10 = .ok (.invokevirtual 280, 3) := by decide +kernel
theorem dX5_chance_13 : decode cX5_chance 13 = .ok (.ifCond .ne 22, 3) := by decide +kernel
theorem dX5_chance_16 : decode cX5_chance 16 = .ok (.iload_n 3, 1) := by decide +kernel
theorem dX5_chance_17 : decode cX5_chance 17 = .ok (.ifCond .lt 18, 3) := by decide +kernel
theorem dX5_chance_20 : decode cX5_chance 20 = .ok (.iload_n 3, 1) := by decide +kernel
theorem dX5_chance_21 : decode cX5_chance 21 = .ok (.bipush 60, 2) := by decide +kernel
theorem dX5_chance_23 : decode cX5_chance 23 = .ok (.if_icmp .gt 12, 3) := by decide +kernel
theorem dX5_chance_26 : decode cX5_chance 26 = .ok (.aload_n 0, 1) := by decide +kernel
theorem dX5_chance_27 : decode cX5_chance 27 = .ok (.iload 4, 2) := by decide +kernel
theorem dX5_chance_29 : decode cX5_chance 29 = .ok (.invokevirtual 268, 3) := by decide +kernel
theorem dX5_chance_32 : decode cX5_chance 32 = .ok (.ifCond .eq 6, 3) := by decide +kernel
theorem dX5_chance_35 : decode cX5_chance 35 = .ok (.bipush (-2), 2) := by decide +kernel
theorem dX5_chance_37 : decode cX5_chance 37 = .ok (.ireturn, 1) := by decide +kernel
theorem dX5_chance_38 : decode cX5_chance 38 = .ok (.aload_n 0, 1) := by decide +kernel
theorem dX5_chance_39 : decode cX5_chance 39 = .ok (.getfield 36, 3) := by decide +kernel
theorem dX5_chance_42 : decode cX5_chance 42 = .ok (.aload_n 0, 1) := by decide +kernel
theorem dX5_chance_43 : decode cX5_chance 43 = .ok (.getfield 23, 3) := by decide +kernel
theorem dX5_chance_46 : decode cX5_chance 46 = .ok (.iconst 0, 1) := by decide +kernel
theorem dX5_chance_47 : decode cX5_chance 47 = .ok (.iconst 0, 1) := by decide +kernel
theorem dX5_chance_48 : decode cX5_chance 48 = .ok (.invokevirtual 283, 3) := by decide +kernel
theorem dX5_chance_51 : decode cX5_chance 51 = .ok (.aload_n 0, 1) := by decide +kernel
theorem dX5_chance_52 : decode cX5_chance 52 = .ok (.getfield 23, 3) := by decide +kernel
theorem dX5_chance_55 : decode cX5_chance 55 = .ok (.aload_n 0, 1) := by decide +kernel
theorem dX5_chance_56 : decode cX5_chance 56 = .ok (.getfield 36, 3) := by decide +kernel
theorem dX5_chance_59 : decode cX5_chance 59 = .ok (.iconst 0, 1) := by decide +kernel
theorem dX5_chance_60 : decode cX5_chance 60 = .ok (.iload_n 2, 1) := by decide +kernel
theorem dX5_chance_61 : decode cX5_chance 61 = .ok (.iload_n 1, 1) := by decide +kernel
theorem dX5_chance_62 : decode cX5_chance 62 = .ok (.iload_n 3, 1) := by decide +kernel
theorem dX5_chance_63 : decode cX5_chance 63 = .ok (.invokestatic 287, 3) := by decide +kernel
theorem dX5_chance_66 : decode cX5_chance 66 = .ok (.iload_n 2, 1) := by decide +kernel
theorem dX5_chance_67 : decode cX5_chance 67 = .ok (.iload 4, 2) := by decide +kernel
theorem dX5_chance_69 : decode cX5_chance 69 = .ok (.invokestatic 291, 3) := by decide +kernel
theorem dX5_chance_72 : decode cX5_chance 72 = .ok (.l2i, 1) := by decide +kernel
theorem dX5_chance_73 : decode cX5_chance 73 = .ok (.ireturn, 1) := by decide +kernel
theorem dX5_mean_0 : decode cX5_mean 0 = .ok (.aload_n 0, 1) := by decide +kernel
theorem dX5_mean_1 : decode cX5_mean 1 = .ok (.iload_n 1, 1) := by decide +kernel
theorem dX5_mean_2 : decode cX5_mean 2 = .ok (.invokevirtual 280, 3) := by decide +kernel
theorem dX5_mean_5 : decode cX5_mean 5 = .ok (.ifCond .ne 11, 3) := by decide +kernel
theorem dX5_mean_8 : decode cX5_mean 8 = .ok (.aload_n 0, 1) := by decide +kernel
theorem dX5_mean_9 : decode cX5_mean 9 = .ok (.iload_n 2, 1) := by decide +kernel
theorem dX5_mean_10 : decode cX5_mean 10 = .ok (.invokevirtual 268, 3) := by decide +kernel
theorem dX5_mean_13 : decode cX5_mean 13 = .ok (.ifCond .eq 7, 3) := by decide +kernel
theorem dX5_mean_16 : decode cX5_mean 16 = .ok (.ldc2_w 295, 3) := by decide +kernel
theorem dX5_mean_19 : decode cX5_mean 19 = .ok (.lreturn, 1) := by decide +kernel
theorem dX5_mean_20 : decode cX5_mean 20 = .ok (.aload_n 0, 1) := by decide +kernel
theorem dX5_mean_21 : decode cX5_mean 21 = .ok (.getfield 36, 3) := by decide +kernel
theorem dX5_mean_24 : decode cX5_mean 24 = .ok (.aload_n 0, 1) := by decide +kernel
theorem dX5_mean_25 : decode cX5_mean 25 = .ok (.getfield 23, 3) := by decide +kernel
theorem dX5_mean_28 : decode cX5_mean 28 = .ok (.iconst 0, 1) := by decide +kernel
theorem dX5_mean_29 : decode cX5_mean 29 = .ok (.iconst 0, 1) := by decide +kernel
theorem dX5_mean_30 : decode cX5_mean 30 = .ok (.invokevirtual 283, 3) := by decide +kernel
theorem dX5_mean_33 : decode cX5_mean 33 = .ok (.aload_n 0, 1) := by decide +kernel
theorem dX5_mean_34 : decode cX5_mean 34 = .ok (.getfield 23, 3) := by decide +kernel
theorem dX5_mean_37 : decode cX5_mean 37 = .ok (.aload_n 0, 1) := by decide +kernel
theorem dX5_mean_38 : decode cX5_mean 38 = .ok (.getfield 36, 3) := by decide +kernel
theorem dX5_mean_41 : decode cX5_mean 41 = .ok (.iconst 0, 1) := by decide +kernel
theorem dX5_mean_42 : decode cX5_mean 42 = .ok (.iload_n 1, 1) := by decide +kernel
theorem dX5_mean_43 : decode cX5_mean 43 = .ok (.iconst (-1), 1) := by decide +kernel
theorem dX5_mean_44 : decode cX5_mean 44 = .ok (.iconst 0, 1) := by decide +kernel
theorem dX5_mean_45 : decode cX5_mean 45 = .ok (.invokestatic 287, 3) := by decide +kernel
theorem dX5_mean_48 : decode cX5_mean 48 = .ok (.iload_n 1, 1) := by decide +kernel
theorem dX5_mean_49 : decode cX5_mean 49 = .ok (.iload_n 2, 1) := by decide +kernel
theorem dX5_mean_50 : decode cX5_mean 50 = .ok (.invokestatic 291, 3) := by decide +kernel
theorem dX5_mean_53 : decode cX5_mean 53 = .ok (.lreturn, 1) := by decide +kernel
theorem dX5_drawn_0 : decode cX5_drawn 0 = .ok (.aload_n 0, 1) := by decide +kernel
theorem dX5_drawn_1 : decode cX5_drawn 1 = .ok (.invokevirtual 155, 3) := by decide +kernel
theorem dX5_drawn_4 : decode cX5_drawn 4 = .ok (.ifCond .ne 19, 3) := by decide +kernel
theorem dX5_drawn_7 : decode cX5_drawn 7 = .ok (.aload_n 0, 1) := by decide +kernel
theorem dX5_drawn_8 : decode cX5_drawn 8 = .ok (.iload_n 1, 1) := by decide +kernel
theorem dX5_drawn_9 : decode cX5_drawn 9 = .ok (.invokevirtual 297, 3) := by decide +kernel
theorem dX5_drawn_12 : decode cX5_drawn 12 = .ok (.ifCond .ne 11, 3) := by decide +kernel
theorem dX5_drawn_15 : decode cX5_drawn 15 = .ok (.aload_n 0, 1) := by decide +kernel
theorem dX5_drawn_16 : decode cX5_drawn 16 = .ok (.iload_n 2, 1) := by decide +kernel
theorem dX5_drawn_17 : decode cX5_drawn 17 = .ok (.invokevirtual 268, 3) := by decide +kernel
theorem dX5_drawn_20 : decode cX5_drawn 20 = .ok (.ifCond .eq 6, 3) := by decide +kernel
theorem dX5_drawn_23 : decode cX5_drawn 23 = .ok (.bipush (-2), 2) := by decide +kernel
theorem dX5_drawn_25 : decode cX5_drawn 25 = .ok (.ireturn, 1) := by decide +kernel
theorem dX5_drawn_26 : decode cX5_drawn 26 = .ok (.aload_n 0, 1) := by decide +kernel
theorem dX5_drawn_27 : decode cX5_drawn 27 = .ok (.iload_n 1, 1) := by decide +kernel
theorem dX5_drawn_28 : decode cX5_drawn 28 = .ok (.i2l, 1) := by decide +kernel
theorem dX5_drawn_29 : decode cX5_drawn 29 = .ok (.invokevirtual 300, 3) := by decide +kernel
theorem dX5_drawn_32 : decode cX5_drawn 32 = .ok (.istore_n 3, 1) := by decide +kernel
theorem dX5_drawn_33 : decode cX5_drawn 33 = .ok (.iload_n 2, 1) := by decide +kernel
theorem dX5_drawn_34 : decode cX5_drawn 34 = .ok (.ifCond .ne 5, 3) := by decide +kernel
theorem dX5_drawn_37 : decode cX5_drawn 37 = .ok (.iload_n 3, 1) := by decide +kernel
theorem dX5_drawn_38 : decode cX5_drawn 38 = .ok (.ireturn, 1) := by decide +kernel
theorem dX5_drawn_39 : decode cX5_drawn 39 = .ok (.aload_n 0, 1) := by decide +kernel
theorem dX5_drawn_40 : decode cX5_drawn 40 = .ok (.getfield 36, 3) := by decide +kernel
theorem dX5_drawn_43 : decode cX5_drawn 43 = .ok (.aload_n 0, 1) := by decide +kernel
theorem dX5_drawn_44 : decode cX5_drawn 44 = .ok (.getfield 23, 3) := by decide +kernel
theorem dX5_drawn_47 : decode cX5_drawn 47 = .ok (.iload_n 3, 1) := by decide +kernel
theorem dX5_drawn_48 : decode cX5_drawn 48 = .ok (.invokevirtual 99, 3) := by decide +kernel
theorem dX5_drawn_51 : decode cX5_drawn 51 = .ok (.aload_n 0, 1) := by decide +kernel
theorem dX5_drawn_52 : decode cX5_drawn 52 = .ok (.aload_n 0, 1) := by decide +kernel
theorem dX5_drawn_53 : decode cX5_drawn 53 = .ok (.getfield 36, 3) := by decide +kernel
theorem dX5_drawn_56 : decode cX5_drawn 56 = .ok (.aload_n 0, 1) := by decide +kernel
theorem dX5_drawn_57 : decode cX5_drawn 57 = .ok (.getfield 23, 3) := by decide +kernel
theorem dX5_drawn_60 : decode cX5_drawn 60 = .ok (.getfield 175, 3) := by decide +kernel
theorem dX5_drawn_63 : decode cX5_drawn 63 = .ok (.invokevirtual 192, 3) := by decide +kernel
theorem dX5_drawn_66 : decode cX5_drawn 66 = .ok (.ireturn, 1) := by decide +kernel
theorem dX5_luck_0 : decode cX5_luck 0 = .ok (.aload_n 0, 1) := by decide +kernel
theorem dX5_luck_1 : decode cX5_luck 1 = .ok (.iload_n 3, 1) := by decide +kernel
theorem dX5_luck_2 : decode cX5_luck 2 = .ok (.invokevirtual 125, 3) := by decide +kernel
theorem dX5_luck_5 : decode cX5_luck 5 = .ok (.ifCond .ne 22, 3) := by decide +kernel
theorem dX5_luck_8 : decode cX5_luck 8 = .ok (.aload_n 0, 1) := by decide +kernel
theorem dX5_luck_9 : decode cX5_luck 9 = .ok (.iload_n 1, 1) := by decide +kernel
theorem dX5_luck_10 : decode cX5_luck 10 = .ok (.invokevirtual 297, 3) := by decide +kernel
theorem dX5_luck_13 : decode cX5_luck 13 = .ok (.ifCond .ne 14, 3) := by decide +kernel
theorem dX5_luck_16 : decode cX5_luck 16 = .ok (.iload_n 2, 1) := by decide +kernel
theorem dX5_luck_17 : decode cX5_luck 17 = .ok (.iconst 1, 1) := by decide +kernel
theorem dX5_luck_18 : decode cX5_luck 18 = .ok (.if_icmp .lt 9, 3) := by decide +kernel
theorem dX5_luck_21 : decode cX5_luck 21 = .ok (.iload_n 2, 1) := by decide +kernel
theorem dX5_luck_22 : decode cX5_luck 22 = .ok (.bipush 20, 2) := by decide +kernel
theorem dX5_luck_24 : decode cX5_luck 24 = .ok (.if_icmp .le 6, 3) := by decide +kernel
theorem dX5_luck_27 : decode cX5_luck 27 = .ok (.bipush (-2), 2) := by decide +kernel
theorem dX5_luck_29 : decode cX5_luck 29 = .ok (.ireturn, 1) := by decide +kernel
theorem dX5_luck_30 : decode cX5_luck 30 = .ok (.iconst 0, 1) := by decide +kernel
theorem dX5_luck_31 : decode cX5_luck 31 = .ok (.istore 4, 2) := by decide +kernel
theorem dX5_luck_33 : decode cX5_luck 33 = .ok (.iconst 0, 1) := by decide +kernel
theorem dX5_luck_34 : decode cX5_luck 34 = .ok (.istore 5, 2) := by decide +kernel
theorem dX5_luck_36 : decode cX5_luck 36 = .ok (.iload 5, 2) := by decide +kernel
theorem dX5_luck_38 : decode cX5_luck 38 = .ok (.iload_n 2, 1) := by decide +kernel
theorem dX5_luck_39 : decode cX5_luck 39 = .ok (.if_icmp .ge 54, 3) := by decide +kernel
theorem dX5_luck_42 : decode cX5_luck 42 = .ok (.aload_n 0, 1) := by decide +kernel
theorem dX5_luck_43 : decode cX5_luck 43 = .ok (.getfield 36, 3) := by decide +kernel
theorem dX5_luck_46 : decode cX5_luck 46 = .ok (.aload_n 0, 1) := by decide +kernel
theorem dX5_luck_47 : decode cX5_luck 47 = .ok (.getfield 23, 3) := by decide +kernel
theorem dX5_luck_50 : decode cX5_luck 50 = .ok (.aload_n 0, 1) := by decide +kernel
theorem dX5_luck_51 : decode cX5_luck 51 = .ok (.iload_n 1, 1) := by decide +kernel
theorem dX5_luck_52 : decode cX5_luck 52 = .ok (.i2l, 1) := by decide +kernel
theorem dX5_luck_53 : decode cX5_luck 53 = .ok (.iload 5, 2) := by decide +kernel
theorem dX5_luck_55 : decode cX5_luck 55 = .ok (.i2l, 1) := by decide +kernel
theorem dX5_luck_56 : decode cX5_luck 56 = .ok (.ladd, 1) := by decide +kernel
theorem dX5_luck_57 : decode cX5_luck 57 = .ok (.invokevirtual 300, 3) := by decide +kernel
theorem dX5_luck_60 : decode cX5_luck 60 = .ok (.invokevirtual 99, 3) := by decide +kernel
theorem dX5_luck_63 : decode cX5_luck 63 = .ok (.aload_n 0, 1) := by decide +kernel
theorem dX5_luck_64 : decode cX5_luck 64 = .ok (.getfield 36, 3) := by decide +kernel
theorem dX5_luck_67 : decode cX5_luck 67 = .ok (.getfield 169, 3) := by decide +kernel
theorem dX5_luck_70 : decode cX5_luck 70 = .ok (.aload_n 0, 1) := by decide +kernel
theorem dX5_luck_71 : decode cX5_luck 71 = .ok (.getfield 23, 3) := by decide +kernel
theorem dX5_luck_74 : decode cX5_luck 74 = .ok (.getfield 175, 3) := by decide +kernel
theorem dX5_luck_77 : decode cX5_luck 77 = .ok (.aaload, 1) := by decide +kernel
theorem dX5_luck_78 : decode cX5_luck 78 = .ok (.iload_n 3, 1) := by decide +kernel
theorem dX5_luck_79 : decode cX5_luck 79 = .ok (.iaload, 1) := by decide +kernel
theorem dX5_luck_80 : decode cX5_luck 80 = .ok (.iconst 5, 1) := by decide +kernel
theorem dX5_luck_81 : decode cX5_luck 81 = .ok (.if_icmp .lt 6, 3) := by decide +kernel
theorem dX5_luck_84 : decode cX5_luck 84 = .ok (.iinc 4 1, 3) := by decide +kernel
theorem dX5_luck_87 : decode cX5_luck 87 = .ok (.iinc 5 1, 3) := by decide +kernel
theorem dX5_luck_90 : decode cX5_luck 90 = .ok (.goto (-54), 3) := by decide +kernel
theorem dX5_luck_93 : decode cX5_luck 93 = .ok (.iload 4, 2) := by decide +kernel
theorem dX5_luck_95 : decode cX5_luck 95 = .ok (.ireturn, 1) := by decide +kernel
theorem dX5_retraces_0 : decode cX5_retraces 0 = .ok (.aload_n 0, 1) := by decide +kernel
theorem dX5_retraces_1 : decode cX5_retraces 1 = .ok (.iload_n 1, 1) := by decide +kernel
theorem dX5_retraces_2 : decode cX5_retraces 2 = .ok (.invokevirtual 125, 3) := by decide +kernel
theorem dX5_retraces_5 : decode cX5_retraces 5 = .ok (.ifCond .ne 19, 3) := by decide +kernel
theorem dX5_retraces_8 : decode cX5_retraces 8 = .ok (.aload_n 0, 1) := by decide +kernel
theorem dX5_retraces_9 : decode cX5_retraces 9 = .ok (.iload_n 2, 1) := by decide +kernel
theorem dX5_retraces_10 : decode cX5_retraces 10 = .ok (.invokevirtual 106, 3) := by decide +kernel
theorem dX5_retraces_13 : decode cX5_retraces 13 = .ok (.ifCond .ne 11, 3) := by decide +kernel
theorem dX5_retraces_16 : decode cX5_retraces 16 = .ok (.aload_n 0, 1) := by decide +kernel
theorem dX5_retraces_17 : decode cX5_retraces 17 = .ok (.iload_n 3, 1) := by decide +kernel
theorem dX5_retraces_18 : decode cX5_retraces 18 = .ok (.invokevirtual 149, 3) := by decide +kernel
theorem dX5_retraces_21 : decode cX5_retraces 21 = .ok (.ifCond .eq 6, 3) := by decide +kernel
theorem dX5_retraces_24 : decode cX5_retraces 24 = .ok (.bipush (-2), 2) := by decide +kernel
theorem dX5_retraces_26 : decode cX5_retraces 26 = .ok (.ireturn, 1) := by decide +kernel
theorem dX5_retraces_27 : decode cX5_retraces 27 = .ok (.aload_n 0, 1) := by decide +kernel
theorem dX5_retraces_28 : decode cX5_retraces 28 = .ok (.iload_n 1, 1) := by decide +kernel
theorem dX5_retraces_29 : decode cX5_retraces 29 = .ok (.iload_n 2, 1) := by decide +kernel
theorem dX5_retraces_30 : decode cX5_retraces 30 = .ok (.iload_n 3, 1) := by decide +kernel
theorem dX5_retraces_31 : decode cX5_retraces 31 = .ok (.invokevirtual 304, 3) := by decide +kernel
theorem dX5_retraces_34 : decode cX5_retraces 34 = .ok (.ireturn, 1) := by decide +kernel
theorem dX5_bleaches_0 : decode cX5_bleaches 0 = .ok (.aload_n 0, 1) := by decide +kernel
theorem dX5_bleaches_1 : decode cX5_bleaches 1 = .ok (.iload_n 1, 1) := by decide +kernel
theorem dX5_bleaches_2 : decode cX5_bleaches 2 = .ok (.invokevirtual 125, 3) := by decide +kernel
theorem dX5_bleaches_5 : decode cX5_bleaches 5 = .ok (.ifCond .ne 11, 3) := by decide +kernel
theorem dX5_bleaches_8 : decode cX5_bleaches 8 = .ok (.aload_n 0, 1) := by decide +kernel
theorem dX5_bleaches_9 : decode cX5_bleaches 9 = .ok (.iload_n 2, 1) := by decide +kernel
theorem dX5_bleaches_10 : decode cX5_bleaches 10 = .ok (.invokevirtual 149, 3) := by decide +kernel
theorem dX5_bleaches_13 : decode cX5_bleaches 13 = .ok (.ifCond .eq 6, 3) := by decide +kernel
theorem dX5_bleaches_16 : decode cX5_bleaches 16 = .ok (.bipush (-2), 2) := by decide +kernel
theorem dX5_bleaches_18 : decode cX5_bleaches 18 = .ok (.ireturn, 1) := by decide +kernel
theorem dX5_bleaches_19 : decode cX5_bleaches 19 = .ok (.aload_n 0, 1) := by decide +kernel
theorem dX5_bleaches_20 : decode cX5_bleaches 20 = .ok (.iload_n 1, 1) := by decide +kernel
theorem dX5_bleaches_21 : decode cX5_bleaches 21 = .ok (.iconst (-1), 1) := by decide +kernel
theorem dX5_bleaches_22 : decode cX5_bleaches 22 = .ok (.iload_n 2, 1) := by decide +kernel
theorem dX5_bleaches_23 : decode cX5_bleaches 23 = .ok (.invokevirtual 304, 3) := by decide +kernel
theorem dX5_bleaches_26 : decode cX5_bleaches 26 = .ok (.ireturn, 1) := by decide +kernel
theorem dX5_undo_0 : decode cX5_undo 0 = .ok (.aload_n 0, 1) := by decide +kernel
theorem dX5_undo_1 : decode cX5_undo 1 = .ok (.invokevirtual 155, 3) := by decide +kernel
theorem dX5_undo_4 : decode cX5_undo 4 = .ok (.ifCond .eq 6, 3) := by decide +kernel
theorem dX5_undo_7 : decode cX5_undo 7 = .ok (.bipush (-2), 2) := by decide +kernel
theorem dX5_undo_9 : decode cX5_undo 9 = .ok (.ireturn, 1) := by decide +kernel
theorem dX5_undo_10 : decode cX5_undo 10 = .ok (.aload_n 0, 1) := by decide +kernel
theorem dX5_undo_11 : decode cX5_undo 11 = .ok (.getfield 23, 3) := by decide +kernel
theorem dX5_undo_14 : decode cX5_undo 14 = .ok (.getfield 255, 3) := by decide +kernel
theorem dX5_undo_17 : decode cX5_undo 17 = .ok (.getfield 265, 3) := by decide +kernel
theorem dX5_undo_20 : decode cX5_undo 20 = .ok (.ifCond .ne 6, 3) := by decide +kernel
theorem dX5_undo_23 : decode cX5_undo 23 = .ok (.bipush (-5), 2) := by decide +kernel
theorem dX5_undo_25 : decode cX5_undo 25 = .ok (.ireturn, 1) := by decide +kernel
theorem dX5_undo_26 : decode cX5_undo 26 = .ok (.aload_n 0, 1) := by decide +kernel
theorem dX5_undo_27 : decode cX5_undo 27 = .ok (.getfield 23, 3) := by decide +kernel
theorem dX5_undo_30 : decode cX5_undo 30 = .ok (.getfield 255, 3) := by decide +kernel
theorem dX5_undo_33 : decode cX5_undo 33 = .ok (.dup, 1) := by decide +kernel
theorem dX5_undo_34 : decode cX5_undo 34 = .ok (.getfield 265, 3) := by decide +kernel
theorem dX5_undo_37 : decode cX5_undo 37 = .ok (.iconst 1, 1) := by decide +kernel
theorem dX5_undo_38 : decode cX5_undo 38 = .ok (.isub, 1) := by decide +kernel
theorem dX5_undo_39 : decode cX5_undo 39 = .ok (.putfield 265, 3) := by decide +kernel
theorem dX5_undo_42 : decode cX5_undo 42 = .ok (.aload_n 0, 1) := by decide +kernel
theorem dX5_undo_43 : decode cX5_undo 43 = .ok (.getfield 32, 3) := by decide +kernel
theorem dX5_undo_46 : decode cX5_undo 46 = .ok (.aload_n 0, 1) := by decide +kernel
theorem dX5_undo_47 : decode cX5_undo 47 = .ok (.getfield 23, 3) := by decide +kernel
theorem dX5_undo_50 : decode cX5_undo 50 = .ok (.iconst 0, 1) := by decide +kernel
theorem dX5_undo_51 : decode cX5_undo 51 = .ok (.invokevirtual 99, 3) := by decide +kernel
theorem dX5_undo_54 : decode cX5_undo 54 = .ok (.aload_n 0, 1) := by decide +kernel
theorem dX5_undo_55 : decode cX5_undo 55 = .ok (.getfield 23, 3) := by decide +kernel
theorem dX5_undo_58 : decode cX5_undo 58 = .ok (.getfield 255, 3) := by decide +kernel
theorem dX5_undo_61 : decode cX5_undo 61 = .ok (.getfield 265, 3) := by decide +kernel
theorem dX5_undo_64 : decode cX5_undo 64 = .ok (.ireturn, 1) := by decide +kernel
theorem dX5_anew_0 : decode cX5_anew 0 = .ok (.aload_n 0, 1) := by decide +kernel
theorem dX5_anew_1 : decode cX5_anew 1 = .ok (.invokevirtual 155, 3) := by decide +kernel
theorem dX5_anew_4 : decode cX5_anew 4 = .ok (.ifCond .eq 6, 3) := by decide +kernel
theorem dX5_anew_7 : decode cX5_anew 7 = .ok (.bipush (-2), 2) := by decide +kernel
theorem dX5_anew_9 : decode cX5_anew 9 = .ok (.ireturn, 1) := by decide +kernel
theorem dX5_anew_10 : decode cX5_anew 10 = .ok (.aload_n 0, 1) := by decide +kernel
theorem dX5_anew_11 : decode cX5_anew 11 = .ok (.getfield 23, 3) := by decide +kernel
theorem dX5_anew_14 : decode cX5_anew 14 = .ok (.getfield 255, 3) := by decide +kernel
theorem dX5_anew_17 : decode cX5_anew 17 = .ok (.getfield 265, 3) := by decide +kernel
theorem dX5_anew_20 : decode cX5_anew 20 = .ok (.istore_n 1, 1) := by decide +kernel
theorem dX5_anew_21 : decode cX5_anew 21 = .ok (.aload_n 0, 1) := by decide +kernel
theorem dX5_anew_22 : decode cX5_anew 22 = .ok (.getfield 23, 3) := by decide +kernel
theorem dX5_anew_25 : decode cX5_anew 25 = .ok (.getfield 255, 3) := by decide +kernel
theorem dX5_anew_28 : decode cX5_anew 28 = .ok (.iconst 0, 1) := by decide +kernel
theorem dX5_anew_29 : decode cX5_anew 29 = .ok (.putfield 265, 3) := by decide +kernel
theorem dX5_anew_32 : decode cX5_anew 32 = .ok (.aload_n 0, 1) := by decide +kernel
theorem dX5_anew_33 : decode cX5_anew 33 = .ok (.getfield 32, 3) := by decide +kernel
theorem dX5_anew_36 : decode cX5_anew 36 = .ok (.aload_n 0, 1) := by decide +kernel
theorem dX5_anew_37 : decode cX5_anew 37 = .ok (.getfield 23, 3) := by decide +kernel
theorem dX5_anew_40 : decode cX5_anew 40 = .ok (.iconst 0, 1) := by decide +kernel
theorem dX5_anew_41 : decode cX5_anew 41 = .ok (.invokevirtual 99, 3) := by decide +kernel
theorem dX5_anew_44 : decode cX5_anew 44 = .ok (.iload_n 1, 1) := by decide +kernel
theorem dX5_anew_45 : decode cX5_anew 45 = .ok (.ireturn, 1) := by decide +kernel
theorem dX5_rate_0 : decode cX5_rate 0 = .ok (.aload_n 0, 1) := by decide +kernel
theorem dX5_rate_1 : decode cX5_rate 1 = .ok (.iload_n 1, 1) := by decide +kernel
theorem dX5_rate_2 : decode cX5_rate 2 = .ok (.invokevirtual 125, 3) := by decide +kernel
theorem dX5_rate_5 : decode cX5_rate 5 = .ok (.ifCond .ne 13, 3) := by decide +kernel
theorem dX5_rate_8 : decode cX5_rate 8 = .ok (.iload_n 2, 1) := by decide +kernel
theorem dX5_rate_9 : decode cX5_rate 9 = .ok (.ifCond .lt 9, 3) := by decide +kernel
theorem dX5_rate_12 : decode cX5_rate 12 = .ok (.iload_n 2, 1) := by decide +kernel
theorem dX5_rate_13 : decode cX5_rate 13 = .ok (.bipush 20, 2) := by decide +kernel
theorem dX5_rate_15 : decode cX5_rate 15 = .ok (.if_icmp .le 6, 3) := by decide +kernel
theorem dX5_rate_18 : decode cX5_rate 18 = .ok (.bipush (-2), 2) := by decide +kernel
theorem dX5_rate_20 : decode cX5_rate 20 = .ok (.ireturn, 1) := by decide +kernel
theorem dX5_rate_21 : decode cX5_rate 21 = .ok (.aload_n 0, 1) := by decide +kernel
theorem dX5_rate_22 : decode cX5_rate 22 = .ok (.getfield 23, 3) := by decide +kernel
theorem dX5_rate_25 : decode cX5_rate 25 = .ok (.getfield 255, 3) := by decide +kernel
theorem dX5_rate_28 : decode cX5_rate 28 = .ok (.getfield 265, 3) := by decide +kernel
theorem dX5_rate_31 : decode cX5_rate 31 = .ok (.ifCond .le 6, 3) := by decide +kernel
theorem dX5_rate_34 : decode cX5_rate 34 = .ok (.bipush (-5), 2) := by decide +kernel
theorem dX5_rate_36 : decode cX5_rate 36 = .ok (.ireturn, 1) := by decide +kernel
theorem dX5_rate_37 : decode cX5_rate 37 = .ok (.aload_n 0, 1) := by decide +kernel
theorem dX5_rate_38 : decode cX5_rate 38 = .ok (.getfield 23, 3) := by decide +kernel
theorem dX5_rate_41 : decode cX5_rate 41 = .ok (.getfield 137, 3) := by decide +kernel
theorem dX5_rate_44 : decode cX5_rate 44 = .ok (.iload_n 1, 1) := by decide +kernel
theorem dX5_rate_45 : decode cX5_rate 45 = .ok (.iaload, 1) := by decide +kernel
theorem dX5_rate_46 : decode cX5_rate 46 = .ok (.istore_n 3, 1) := by decide +kernel
theorem dX5_rate_47 : decode cX5_rate 47 = .ok (.aload_n 0, 1) := by decide +kernel
theorem dX5_rate_48 : decode cX5_rate 48 = .ok (.getfield 23, 3) := by decide +kernel
theorem dX5_rate_51 : decode cX5_rate 51 = .ok (.getfield 137, 3) := by decide +kernel
theorem dX5_rate_54 : decode cX5_rate 54 = .ok (.iload_n 1, 1) := by decide +kernel
theorem dX5_rate_55 : decode cX5_rate 55 = .ok (.iload_n 2, 1) := by decide +kernel
theorem dX5_rate_56 : decode cX5_rate 56 = .ok (.iastore, 1) := by decide +kernel
theorem dX5_rate_57 : decode cX5_rate 57 = .ok (.iload_n 3, 1) := by decide +kernel
theorem dX5_rate_58 : decode cX5_rate 58 = .ok (.ireturn, 1) := by decide +kernel
theorem dX5_count_0 : decode cX5_count 0 = .ok (.iload_n 1, 1) := by decide +kernel
theorem dX5_count_1 : decode cX5_count 1 = .ok (.tableswitch 135 0 9 #[55, 63, 71, 79, 87, 95, 103, 114, 122, 130], 55) := by decide +kernel
theorem dX5_count_56 : decode cX5_count 56 = .ok (.aload_n 0, 1) := by decide +kernel
theorem dX5_count_57 : decode cX5_count 57 = .ok (.getfield 23, 3) := by decide +kernel
theorem dX5_count_60 : decode cX5_count 60 = .ok (.getfield 175, 3) := by decide +kernel
theorem dX5_count_63 : decode cX5_count 63 = .ok (.ireturn, 1) := by decide +kernel
theorem dX5_count_64 : decode cX5_count 64 = .ok (.aload_n 0, 1) := by decide +kernel
theorem dX5_count_65 : decode cX5_count 65 = .ok (.getfield 23, 3) := by decide +kernel
theorem dX5_count_68 : decode cX5_count 68 = .ok (.getfield 249, 3) := by decide +kernel
theorem dX5_count_71 : decode cX5_count 71 = .ok (.ireturn, 1) := by decide +kernel
theorem dX5_count_72 : decode cX5_count 72 = .ok (.aload_n 0, 1) := by decide +kernel
theorem dX5_count_73 : decode cX5_count 73 = .ok (.getfield 23, 3) := by decide +kernel
theorem dX5_count_76 : decode cX5_count 76 = .ok (.getfield 307, 3) := by decide +kernel
theorem dX5_count_79 : decode cX5_count 79 = .ok (.ireturn, 1) := by decide +kernel
theorem dX5_count_80 : decode cX5_count 80 = .ok (.aload_n 0, 1) := by decide +kernel
theorem dX5_count_81 : decode cX5_count 81 = .ok (.getfield 23, 3) := by decide +kernel
theorem dX5_count_84 : decode cX5_count 84 = .ok (.getfield 242, 3) := by decide +kernel
theorem dX5_count_87 : decode cX5_count 87 = .ok (.ireturn, 1) := by decide +kernel
theorem dX5_count_88 : decode cX5_count 88 = .ok (.aload_n 0, 1) := by decide +kernel
theorem dX5_count_89 : decode cX5_count 89 = .ok (.getfield 23, 3) := by decide +kernel
theorem dX5_count_92 : decode cX5_count 92 = .ok (.getfield 310, 3) := by decide +kernel
theorem dX5_count_95 : decode cX5_count 95 = .ok (.ireturn, 1) := by decide +kernel
theorem dX5_count_96 : decode cX5_count 96 = .ok (.aload_n 0, 1) := by decide +kernel
theorem dX5_count_97 : decode cX5_count 97 = .ok (.getfield 23, 3) := by decide +kernel
theorem dX5_count_100 : decode cX5_count 100 = .ok (.getfield 159, 3) := by decide +kernel
theorem dX5_count_103 : decode cX5_count 103 = .ok (.ireturn, 1) := by decide +kernel
theorem dX5_count_104 : decode cX5_count 104 = .ok (.aload_n 0, 1) := by decide +kernel
theorem dX5_count_105 : decode cX5_count 105 = .ok (.getfield 23, 3) := by decide +kernel
theorem dX5_count_108 : decode cX5_count 108 = .ok (.getfield 255, 3) := by decide +kernel
theorem dX5_count_111 : decode cX5_count 111 = .ok (.getfield 265, 3) := by decide +kernel
theorem dX5_count_114 : decode cX5_count 114 = .ok (.ireturn, 1) := by decide +kernel
theorem dX5_count_115 : decode cX5_count 115 = .ok (.aload_n 0, 1) := by decide +kernel
theorem dX5_count_116 : decode cX5_count 116 = .ok (.getfield 23, 3) := by decide +kernel
theorem dX5_count_119 : decode cX5_count 119 = .ok (.getfield 103, 3) := by decide +kernel
theorem dX5_count_122 : decode cX5_count 122 = .ok (.ireturn, 1) := by decide +kernel
theorem dX5_count_123 : decode cX5_count 123 = .ok (.aload_n 0, 1) := by decide +kernel
theorem dX5_count_124 : decode cX5_count 124 = .ok (.getfield 10, 3) := by decide +kernel
theorem dX5_count_127 : decode cX5_count 127 = .ok (.getfield 76, 3) := by decide +kernel
theorem dX5_count_130 : decode cX5_count 130 = .ok (.ireturn, 1) := by decide +kernel
theorem dX5_count_131 : decode cX5_count 131 = .ok (.aload_n 0, 1) := by decide +kernel
theorem dX5_count_132 : decode cX5_count 132 = .ok (.invokevirtual 313, 3) := by decide +kernel
theorem dX5_count_135 : decode cX5_count 135 = .ok (.ireturn, 1) := by decide +kernel
theorem dX5_count_136 : decode cX5_count 136 = .ok (.iconst (-1), 1) := by decide +kernel
theorem dX5_count_137 : decode cX5_count 137 = .ok (.ireturn, 1) := by decide +kernel
theorem dX5_image_0 : decode cX5_image 0 = .ok (.iload_n 1, 1) := by decide +kernel
theorem dX5_image_1 : decode cX5_image 1 = .ok (.ifCond .lt 8, 3) := by decide +kernel
theorem dX5_image_4 : decode cX5_image 4 = .ok (.iload_n 1, 1) := by decide +kernel
theorem dX5_image_5 : decode cX5_image 5 = .ok (.iconst 3, 1) := by decide +kernel
theorem dX5_image_6 : decode cX5_image 6 = .ok (.if_icmp .lt 6, 3) := by decide +kernel
theorem dX5_image_9 : decode cX5_image 9 = .ok (.bipush (-2), 2) := by decide +kernel
theorem dX5_image_11 : decode cX5_image 11 = .ok (.ireturn, 1) := by decide +kernel
theorem dX5_image_12 : decode cX5_image 12 = .ok (.aload_n 0, 1) := by decide +kernel
theorem dX5_image_13 : decode cX5_image 13 = .ok (.getfield 39, 3) := by decide +kernel
theorem dX5_image_16 : decode cX5_image 16 = .ok (.iload_n 1, 1) := by decide +kernel
theorem dX5_image_17 : decode cX5_image 17 = .ok (.aaload, 1) := by decide +kernel
theorem dX5_image_18 : decode cX5_image 18 = .ok (.aload_n 0, 1) := by decide +kernel
theorem dX5_image_19 : decode cX5_image 19 = .ok (.getfield 23, 3) := by decide +kernel
theorem dX5_image_22 : decode cX5_image 22 = .ok (.invokevirtual 96, 3) := by decide +kernel
theorem dX5_image_25 : decode cX5_image 25 = .ok (.aload_n 0, 1) := by decide +kernel
theorem dX5_image_26 : decode cX5_image 26 = .ok (.getfield 43, 3) := by decide +kernel
theorem dX5_image_29 : decode cX5_image 29 = .ok (.iload_n 1, 1) := by decide +kernel
theorem dX5_image_30 : decode cX5_image 30 = .ok (.iconst 1, 1) := by decide +kernel
theorem dX5_image_31 : decode cX5_image 31 = .ok (.bastore, 1) := by decide +kernel
theorem dX5_image_32 : decode cX5_image 32 = .ok (.iconst 0, 1) := by decide +kernel
theorem dX5_image_33 : decode cX5_image 33 = .ok (.ireturn, 1) := by decide +kernel
theorem dX5_back_0 : decode cX5_back 0 = .ok (.iload_n 1, 1) := by decide +kernel
theorem dX5_back_1 : decode cX5_back 1 = .ok (.ifCond .lt 8, 3) := by decide +kernel
theorem dX5_back_4 : decode cX5_back 4 = .ok (.iload_n 1, 1) := by decide +kernel
theorem dX5_back_5 : decode cX5_back 5 = .ok (.iconst 3, 1) := by decide +kernel
theorem dX5_back_6 : decode cX5_back 6 = .ok (.if_icmp .lt 6, 3) := by decide +kernel
theorem dX5_back_9 : decode cX5_back 9 = .ok (.bipush (-2), 2) := by decide +kernel
theorem dX5_back_11 : decode cX5_back 11 = .ok (.ireturn, 1) := by decide +kernel
theorem dX5_back_12 : decode cX5_back 12 = .ok (.aload_n 0, 1) := by decide +kernel
theorem dX5_back_13 : decode cX5_back 13 = .ok (.getfield 43, 3) := by decide +kernel
theorem dX5_back_16 : decode cX5_back 16 = .ok (.iload_n 1, 1) := by decide +kernel
theorem dX5_back_17 : decode cX5_back 17 = .ok (.baload, 1) := by decide +kernel
theorem dX5_back_18 : decode cX5_back 18 = .ok (.ifCond .ne 6, 3) := by decide +kernel
theorem dX5_back_21 : decode cX5_back 21 = .ok (.bipush (-6), 2) := by decide +kernel
theorem dX5_back_23 : decode cX5_back 23 = .ok (.ireturn, 1) := by decide +kernel
theorem dX5_back_24 : decode cX5_back 24 = .ok (.aload_n 0, 1) := by decide +kernel
theorem dX5_back_25 : decode cX5_back 25 = .ok (.getfield 23, 3) := by decide +kernel
theorem dX5_back_28 : decode cX5_back 28 = .ok (.aload_n 0, 1) := by decide +kernel
theorem dX5_back_29 : decode cX5_back 29 = .ok (.getfield 39, 3) := by decide +kernel
theorem dX5_back_32 : decode cX5_back 32 = .ok (.iload_n 1, 1) := by decide +kernel
theorem dX5_back_33 : decode cX5_back 33 = .ok (.aaload, 1) := by decide +kernel
theorem dX5_back_34 : decode cX5_back 34 = .ok (.invokevirtual 96, 3) := by decide +kernel
theorem dX5_back_37 : decode cX5_back 37 = .ok (.aload_n 0, 1) := by decide +kernel
theorem dX5_back_38 : decode cX5_back 38 = .ok (.getfield 32, 3) := by decide +kernel
theorem dX5_back_41 : decode cX5_back 41 = .ok (.aload_n 0, 1) := by decide +kernel
theorem dX5_back_42 : decode cX5_back 42 = .ok (.getfield 23, 3) := by decide +kernel
theorem dX5_back_45 : decode cX5_back 45 = .ok (.iconst 0, 1) := by decide +kernel
theorem dX5_back_46 : decode cX5_back 46 = .ok (.invokevirtual 99, 3) := by decide +kernel
theorem dX5_back_49 : decode cX5_back 49 = .ok (.iconst 0, 1) := by decide +kernel
theorem dX5_back_50 : decode cX5_back 50 = .ok (.ireturn, 1) := by decide +kernel
theorem dX5_row_0 : decode cX5_row 0 = .ok (.aload_n 0, 1) := by decide +kernel
theorem dX5_row_1 : decode cX5_row 1 = .ok (.iload_n 1, 1) := by decide +kernel
theorem dX5_row_2 : decode cX5_row 2 = .ok (.invokevirtual 317, 3) := by decide +kernel
theorem dX5_row_5 : decode cX5_row 5 = .ok (.ifCond .ne 18, 3) := by decide +kernel
theorem dX5_row_8 : decode cX5_row 8 = .ok (.iload_n 2, 1) := by decide +kernel
theorem dX5_row_9 : decode cX5_row 9 = .ok (.ifCond .lt 14, 3) := by decide +kernel
theorem dX5_row_12 : decode cX5_row 12 = .ok (.iload_n 2, 1) := by decide +kernel
theorem dX5_row_13 : decode cX5_row 13 = .ok (.iconst 3, 1) := by decide +kernel
theorem dX5_row_14 : decode cX5_row 14 = .ok (.if_icmp .gt 9, 3) := by decide +kernel
theorem dX5_row_17 : decode cX5_row 17 = .ok (.iload_n 3, 1) := by decide +kernel
theorem dX5_row_18 : decode cX5_row 18 = .ok (.bipush 60, 2) := by decide +kernel
theorem dX5_row_20 : decode cX5_row 20 = .ok (.if_icmp .le 6, 3) := by decide +kernel
theorem dX5_row_23 : decode cX5_row 23 = .ok (.bipush (-2), 2) := by decide +kernel
theorem dX5_row_25 : decode cX5_row 25 = .ok (.ireturn, 1) := by decide +kernel
theorem dX5_row_26 : decode cX5_row 26 = .ok (.iload_n 3, 1) := by decide +kernel
theorem dX5_row_27 : decode cX5_row 27 = .ok (.ifCond .ge 6, 3) := by decide +kernel
theorem dX5_row_30 : decode cX5_row 30 = .ok (.bipush (-3), 2) := by decide +kernel
theorem dX5_row_32 : decode cX5_row 32 = .ok (.ireturn, 1) := by decide +kernel
theorem dX5_row_33 : decode cX5_row 33 = .ok (.aload_n 0, 1) := by decide +kernel
theorem dX5_row_34 : decode cX5_row 34 = .ok (.getfield 49, 3) := by decide +kernel
theorem dX5_row_37 : decode cX5_row 37 = .ok (.iload_n 1, 1) := by decide +kernel
theorem dX5_row_38 : decode cX5_row 38 = .ok (.aaload, 1) := by decide +kernel
theorem dX5_row_39 : decode cX5_row 39 = .ok (.iload_n 2, 1) := by decide +kernel
theorem dX5_row_40 : decode cX5_row 40 = .ok (.iload_n 3, 1) := by decide +kernel
theorem dX5_row_41 : decode cX5_row 41 = .ok (.invokevirtual 320, 3) := by decide +kernel
theorem dX5_row_44 : decode cX5_row 44 = .ok (.iconst 0, 1) := by decide +kernel
theorem dX5_row_45 : decode cX5_row 45 = .ok (.ireturn, 1) := by decide +kernel
theorem dX5_write_0 : decode cX5_write 0 = .ok (.aload_n 0, 1) := by decide +kernel
theorem dX5_write_1 : decode cX5_write 1 = .ok (.iload_n 1, 1) := by decide +kernel
theorem dX5_write_2 : decode cX5_write 2 = .ok (.invokevirtual 317, 3) := by decide +kernel
theorem dX5_write_5 : decode cX5_write 5 = .ok (.ifCond .eq 6, 3) := by decide +kernel
theorem dX5_write_8 : decode cX5_write 8 = .ok (.bipush (-2), 2) := by decide +kernel
theorem dX5_write_10 : decode cX5_write 10 = .ok (.ireturn, 1) := by decide +kernel
theorem dX5_write_11 : decode cX5_write 11 = .ok (.aload_n 0, 1) := by decide +kernel
theorem dX5_write_12 : decode cX5_write 12 = .ok (.getfield 49, 3) := by decide +kernel
theorem dX5_write_15 : decode cX5_write 15 = .ok (.iload_n 1, 1) := by decide +kernel
theorem dX5_write_16 : decode cX5_write 16 = .ok (.aaload, 1) := by decide +kernel
theorem dX5_write_17 : decode cX5_write 17 = .ok (.getfield 324, 3) := by decide +kernel
theorem dX5_write_20 : decode cX5_write 20 = .ok (.ifCond .ne 6, 3) := by decide +kernel
theorem dX5_write_23 : decode cX5_write 23 = .ok (.bipush (-6), 2) := by decide +kernel
theorem dX5_write_25 : decode cX5_write 25 = .ok (.ireturn, 1) := by decide +kernel
theorem dX5_write_26 : decode cX5_write 26 = .ok (.iload_n 2, 1) := by decide +kernel
theorem dX5_write_27 : decode cX5_write 27 = .ok (.ifCond .lt 16, 3) := by decide +kernel
theorem dX5_write_30 : decode cX5_write 30 = .ok (.iload_n 2, 1) := by decide +kernel
theorem dX5_write_31 : decode cX5_write 31 = .ok (.aload_n 0, 1) := by decide +kernel
theorem dX5_write_32 : decode cX5_write 32 = .ok (.getfield 49, 3) := by decide +kernel
theorem dX5_write_35 : decode cX5_write 35 = .ok (.iload_n 1, 1) := by decide +kernel
theorem dX5_write_36 : decode cX5_write 36 = .ok (.aaload, 1) := by decide +kernel
theorem dX5_write_37 : decode cX5_write 37 = .ok (.getfield 328, 3) := by decide +kernel
theorem dX5_write_40 : decode cX5_write 40 = .ok (.if_icmp .lt 6, 3) := by decide +kernel
theorem dX5_write_43 : decode cX5_write 43 = .ok (.bipush (-7), 2) := by decide +kernel
theorem dX5_write_45 : decode cX5_write 45 = .ok (.ireturn, 1) := by decide +kernel
theorem dX5_write_46 : decode cX5_write 46 = .ok (.aload_n 0, 1) := by decide +kernel
theorem dX5_write_47 : decode cX5_write 47 = .ok (.getfield 49, 3) := by decide +kernel
theorem dX5_write_50 : decode cX5_write 50 = .ok (.iload_n 1, 1) := by decide +kernel
theorem dX5_write_51 : decode cX5_write 51 = .ok (.aaload, 1) := by decide +kernel
theorem dX5_write_52 : decode cX5_write 52 = .ok (.iload_n 2, 1) := by decide +kernel
theorem dX5_write_53 : decode cX5_write 53 = .ok (.lload_n 3, 1) := by decide +kernel
theorem dX5_write_54 : decode cX5_write 54 = .ok (.invokevirtual 331, 3) := by decide +kernel
theorem dX5_write_57 : decode cX5_write 57 = .ok (.iconst 0, 1) := by decide +kernel
theorem dX5_write_58 : decode cX5_write 58 = .ok (.ireturn, 1) := by decide +kernel
theorem dX5_paste_0 : decode cX5_paste 0 = .ok (.aload_n 0, 1) := by decide +kernel
theorem dX5_paste_1 : decode cX5_paste 1 = .ok (.iload_n 1, 1) := by decide +kernel
theorem dX5_paste_2 : decode cX5_paste 2 = .ok (.invokevirtual 317, 3) := by decide +kernel
theorem dX5_paste_5 : decode cX5_paste 5 = .ok (.ifCond .ne 11, 3) := by decide +kernel
theorem dX5_paste_8 : decode cX5_paste 8 = .ok (.aload_n 0, 1) := by decide +kernel
theorem dX5_paste_9 : decode cX5_paste 9 = .ok (.iload_n 3, 1) := by decide +kernel
theorem dX5_paste_10 : decode cX5_paste 10 = .ok (.invokevirtual 317, 3) := by decide +kernel
theorem dX5_paste_13 : decode cX5_paste 13 = .ok (.ifCond .eq 6, 3) := by decide +kernel
theorem dX5_paste_16 : decode cX5_paste 16 = .ok (.bipush (-2), 2) := by decide +kernel
theorem dX5_paste_18 : decode cX5_paste 18 = .ok (.ireturn, 1) := by decide +kernel
theorem dX5_paste_19 : decode cX5_paste 19 = .ok (.aload_n 0, 1) := by decide +kernel
theorem dX5_paste_20 : decode cX5_paste 20 = .ok (.getfield 49, 3) := by decide +kernel
theorem dX5_paste_23 : decode cX5_paste 23 = .ok (.iload_n 1, 1) := by decide +kernel
theorem dX5_paste_24 : decode cX5_paste 24 = .ok (.aaload, 1) := by decide +kernel
theorem dX5_paste_25 : decode cX5_paste 25 = .ok (.astore 6, 2) := by decide +kernel
theorem dX5_paste_27 : decode cX5_paste 27 = .ok (.aload_n 0, 1) := by decide +kernel
theorem dX5_paste_28 : decode cX5_paste 28 = .ok (.getfield 49, 3) := by decide +kernel
theorem dX5_paste_31 : decode cX5_paste 31 = .ok (.iload_n 3, 1) := by decide +kernel
theorem dX5_paste_32 : decode cX5_paste 32 = .ok (.aaload, 1) := by decide +kernel
theorem dX5_paste_33 : decode cX5_paste 33 = .ok (.astore 7, 2) := by decide +kernel
theorem dX5_paste_35 : decode cX5_paste 35 = .ok (.aload 6, 2) := by decide +kernel
theorem dX5_paste_37 : decode cX5_paste 37 = .ok (.getfield 324, 3) := by decide +kernel
theorem dX5_paste_40 : decode cX5_paste 40 = .ok (.ifCond .eq 11, 3) := by decide +kernel
theorem dX5_paste_43 : decode cX5_paste 43 = .ok (.aload 7, 2) := by decide +kernel
theorem dX5_paste_45 : decode cX5_paste 45 = .ok (.getfield 324, 3) := by decide +kernel
theorem dX5_paste_48 : decode cX5_paste 48 = .ok (.ifCond .ne 6, 3) := by decide +kernel
theorem dX5_paste_51 : decode cX5_paste 51 = .ok (.bipush (-6), 2) := by decide +kernel
theorem dX5_paste_53 : decode cX5_paste 53 = .ok (.ireturn, 1) := by decide +kernel
theorem dX5_paste_54 : decode cX5_paste 54 = .ok (.aload 6, 2) := by decide +kernel
theorem dX5_paste_56 : decode cX5_paste 56 = .ok (.getfield 335, 3) := by decide +kernel
theorem dX5_paste_59 : decode cX5_paste 59 = .ok (.aload 7, 2) := by decide +kernel
theorem dX5_paste_61 : decode cX5_paste 61 = .ok (.getfield 335, 3) := by decide +kernel
theorem dX5_paste_64 : decode cX5_paste 64 = .ok (.if_icmp .eq 6, 3) := by decide +kernel
theorem dX5_paste_67 : decode cX5_paste 67 = .ok (.bipush (-8), 2) := by decide +kernel
theorem dX5_paste_69 : decode cX5_paste 69 = .ok (.ireturn, 1) := by decide +kernel
theorem dX5_paste_70 : decode cX5_paste 70 = .ok (.aload 6, 2) := by decide +kernel
theorem dX5_paste_72 : decode cX5_paste 72 = .ok (.iload_n 2, 1) := by decide +kernel
theorem dX5_paste_73 : decode cX5_paste 73 = .ok (.iload 5, 2) := by decide +kernel
theorem dX5_paste_75 : decode cX5_paste 75 = .ok (.invokevirtual 338, 3) := by decide +kernel
theorem dX5_paste_78 : decode cX5_paste 78 = .ok (.ifCond .eq 15, 3) := by decide +kernel
theorem dX5_paste_81 : decode cX5_paste 81 = .ok (.aload 7, 2) := by decide +kernel
theorem dX5_paste_83 : decode cX5_paste 83 = .ok (.iload 4, 2) := by decide +kernel
theorem dX5_paste_85 : decode cX5_paste 85 = .ok (.iload 5, 2) := by decide +kernel
theorem dX5_paste_87 : decode cX5_paste 87 = .ok (.invokevirtual 338, 3) := by decide +kernel
theorem dX5_paste_90 : decode cX5_paste 90 = .ok (.ifCond .ne 6, 3) := by decide +kernel
theorem dX5_paste_93 : decode cX5_paste 93 = .ok (.bipush (-7), 2) := by decide +kernel
theorem dX5_paste_95 : decode cX5_paste 95 = .ok (.ireturn, 1) := by decide +kernel
theorem dX5_paste_96 : decode cX5_paste 96 = .ok (.aload 6, 2) := by decide +kernel
theorem dX5_paste_98 : decode cX5_paste 98 = .ok (.getfield 341, 3) := by decide +kernel
theorem dX5_paste_101 : decode cX5_paste 101 = .ok (.iload_n 2, 1) := by decide +kernel
theorem dX5_paste_102 : decode cX5_paste 102 = .ok (.aload 7, 2) := by decide +kernel
theorem dX5_paste_104 : decode cX5_paste 104 = .ok (.getfield 341, 3) := by decide +kernel
theorem dX5_paste_107 : decode cX5_paste 107 = .ok (.iload 4, 2) := by decide +kernel
theorem dX5_paste_109 : decode cX5_paste 109 = .ok (.iload 5, 2) := by decide +kernel
theorem dX5_paste_111 : decode cX5_paste 111 = .ok (.invokestatic 345, 3) := by decide +kernel
theorem dX5_paste_114 : decode cX5_paste 114 = .ok (.iconst 0, 1) := by decide +kernel
theorem dX5_paste_115 : decode cX5_paste 115 = .ok (.ireturn, 1) := by decide +kernel
theorem dX5_noBook_0 : decode cX5_noBook 0 = .ok (.aload_n 0, 1) := by decide +kernel
theorem dX5_noBook_1 : decode cX5_noBook 1 = .ok (.getfield 23, 3) := by decide +kernel
theorem dX5_noBook_4 : decode cX5_noBook 4 = .ok (.getfield 103, 3) := by decide +kernel
theorem dX5_noBook_7 : decode cX5_noBook 7 = .ok (.ifCond .ne 7, 3) := by decide +kernel
theorem dX5_noBook_10 : decode cX5_noBook 10 = .ok (.iconst 1, 1) := by decide +kernel
theorem dX5_noBook_11 : decode cX5_noBook 11 = .ok (.goto 4, 3) := by decide +kernel
theorem dX5_noBook_14 : decode cX5_noBook 14 = .ok (.iconst 0, 1) := by decide +kernel
theorem dX5_noBook_15 : decode cX5_noBook 15 = .ok (.ireturn, 1) := by decide +kernel
theorem dX5_noYear_0 : decode cX5_noYear 0 = .ok (.aload_n 0, 1) := by decide +kernel
theorem dX5_noYear_1 : decode cX5_noYear 1 = .ok (.invokevirtual 155, 3) := by decide +kernel
theorem dX5_noYear_4 : decode cX5_noYear 4 = .ok (.ifCond .ne 18, 3) := by decide +kernel
theorem dX5_noYear_7 : decode cX5_noYear 7 = .ok (.iload_n 1, 1) := by decide +kernel
theorem dX5_noYear_8 : decode cX5_noYear 8 = .ok (.ifCond .lt 14, 3) := by decide +kernel
theorem dX5_noYear_11 : decode cX5_noYear 11 = .ok (.iload_n 1, 1) := by decide +kernel
theorem dX5_noYear_12 : decode cX5_noYear 12 = .ok (.aload_n 0, 1) := by decide +kernel
theorem dX5_noYear_13 : decode cX5_noYear 13 = .ok (.getfield 23, 3) := by decide +kernel
theorem dX5_noYear_16 : decode cX5_noYear 16 = .ok (.getfield 175, 3) := by decide +kernel
theorem dX5_noYear_19 : decode cX5_noYear 19 = .ok (.if_icmp .le 7, 3) := by decide +kernel
theorem dX5_noYear_22 : decode cX5_noYear 22 = .ok (.iconst 1, 1) := by decide +kernel
theorem dX5_noYear_23 : decode cX5_noYear 23 = .ok (.goto 4, 3) := by decide +kernel
theorem dX5_noYear_26 : decode cX5_noYear 26 = .ok (.iconst 0, 1) := by decide +kernel
theorem dX5_noYear_27 : decode cX5_noYear 27 = .ok (.ireturn, 1) := by decide +kernel
theorem dX5_noChanceYear_0 : decode cX5_noChanceYear 0 = .ok (.aload_n 0, 1) := by decide +kernel
theorem dX5_noChanceYear_1 : decode cX5_noChanceYear 1 = .ok (.iload_n 1, 1) := by decide +kernel
theorem dX5_noChanceYear_2 : decode cX5_noChanceYear 2 = .ok (.invokevirtual 149, 3) := by decide +kernel
theorem dX5_noChanceYear_5 : decode cX5_noChanceYear 5 = .ok (.ifCond .ne 14, 3) := by decide +kernel
theorem dX5_noChanceYear_8 : decode cX5_noChanceYear 8 = .ok (.iload_n 1, 1) := by decide +kernel
theorem dX5_noChanceYear_9 : decode cX5_noChanceYear 9 = .ok (.iconst 1, 1) := by decide +kernel
theorem dX5_noChanceYear_10 : decode cX5_noChanceYear 10 = .ok (.if_icmp .lt 9, 3) := by decide +kernel
theorem dX5_noChanceYear_13 : decode cX5_noChanceYear 13 = .ok (.iload_n 1, 1) := by decide +kernel
theorem dX5_noChanceYear_14 : decode cX5_noChanceYear 14 = .ok (.bipush 8, 2) := by decide +kernel
theorem dX5_noChanceYear_16 : decode cX5_noChanceYear 16 = .ok (.if_icmp .le 7, 3) := by decide +kernel
theorem dX5_noChanceYear_19 : decode cX5_noChanceYear 19 = .ok (.iconst 1, 1) := by decide +kernel
theorem dX5_noChanceYear_20 : decode cX5_noChanceYear 20 = .ok (.goto 4, 3) := by decide +kernel
theorem dX5_noChanceYear_23 : decode cX5_noChanceYear 23 = .ok (.iconst 0, 1) := by decide +kernel
theorem dX5_noChanceYear_24 : decode cX5_noChanceYear 24 = .ok (.ireturn, 1) := by decide +kernel
theorem dX5_noInk_0 : decode cX5_noInk 0 = .ok (.iload_n 1, 1) := by decide +kernel
theorem dX5_noInk_1 : decode cX5_noInk 1 = .ok (.ifCond .lt 14, 3) := by decide +kernel
theorem dX5_noInk_4 : decode cX5_noInk 4 = .ok (.iload_n 1, 1) := by decide +kernel
theorem dX5_noInk_5 : decode cX5_noInk 5 = .ok (.aload_n 0, 1) := by decide +kernel
theorem dX5_noInk_6 : decode cX5_noInk 6 = .ok (.getfield 23, 3) := by decide +kernel
theorem dX5_noInk_9 : decode cX5_noInk 9 = .ok (.getfield 242, 3) := by decide +kernel
theorem dX5_noInk_12 : decode cX5_noInk 12 = .ok (.if_icmp .lt 7, 3) := by decide +kernel
theorem dX5_noInk_15 : decode cX5_noInk 15 = .ok (.iconst 1, 1) := by decide +kernel
theorem dX5_noInk_16 : decode cX5_noInk 16 = .ok (.goto 4, 3) := by decide +kernel
theorem dX5_noInk_19 : decode cX5_noInk 19 = .ok (.iconst 0, 1) := by decide +kernel
theorem dX5_noInk_20 : decode cX5_noInk 20 = .ok (.ireturn, 1) := by decide +kernel
theorem dX5_noPage_0 : decode cX5_noPage 0 = .ok (.iload_n 1, 1) := by decide +kernel
theorem dX5_noPage_1 : decode cX5_noPage 1 = .ok (.ifCond .lt 14, 3) := by decide +kernel
theorem dX5_noPage_4 : decode cX5_noPage 4 = .ok (.iload_n 1, 1) := by decide +kernel
theorem dX5_noPage_5 : decode cX5_noPage 5 = .ok (.aload_n 0, 1) := by decide +kernel
theorem dX5_noPage_6 : decode cX5_noPage 6 = .ok (.getfield 23, 3) := by decide +kernel
theorem dX5_noPage_9 : decode cX5_noPage 9 = .ok (.getfield 310, 3) := by decide +kernel
theorem dX5_noPage_12 : decode cX5_noPage 12 = .ok (.if_icmp .lt 7, 3) := by decide +kernel
theorem dX5_noPage_15 : decode cX5_noPage 15 = .ok (.iconst 1, 1) := by decide +kernel
theorem dX5_noPage_16 : decode cX5_noPage 16 = .ok (.goto 4, 3) := by decide +kernel
theorem dX5_noPage_19 : decode cX5_noPage 19 = .ok (.iconst 0, 1) := by decide +kernel
theorem dX5_noPage_20 : decode cX5_noPage 20 = .ok (.ireturn, 1) := by decide +kernel
theorem dX5_noEntry_0 : decode cX5_noEntry 0 = .ok (.iload_n 1, 1) := by decide +kernel
theorem dX5_noEntry_1 : decode cX5_noEntry 1 = .ok (.ifCond .lt 14, 3) := by decide +kernel
theorem dX5_noEntry_4 : decode cX5_noEntry 4 = .ok (.iload_n 1, 1) := by decide +kernel
theorem dX5_noEntry_5 : decode cX5_noEntry 5 = .ok (.aload_n 0, 1) := by decide +kernel
theorem dX5_noEntry_6 : decode cX5_noEntry 6 = .ok (.getfield 23, 3) := by decide +kernel
theorem dX5_noEntry_9 : decode cX5_noEntry 9 = .ok (.getfield 159, 3) := by decide +kernel
theorem dX5_noEntry_12 : decode cX5_noEntry 12 = .ok (.if_icmp .lt 7, 3) := by decide +kernel
theorem dX5_noEntry_15 : decode cX5_noEntry 15 = .ok (.iconst 1, 1) := by decide +kernel
theorem dX5_noEntry_16 : decode cX5_noEntry 16 = .ok (.goto 4, 3) := by decide +kernel
theorem dX5_noEntry_19 : decode cX5_noEntry 19 = .ok (.iconst 0, 1) := by decide +kernel
theorem dX5_noEntry_20 : decode cX5_noEntry 20 = .ok (.ireturn, 1) := by decide +kernel
theorem dX5_noGame_0 : decode cX5_noGame 0 = .ok (.aload_n 0, 1) := by decide +kernel
theorem dX5_noGame_1 : decode cX5_noGame 1 = .ok (.iload_n 1, 1) := by decide +kernel
theorem dX5_noGame_2 : decode cX5_noGame 2 = .ok (.invokevirtual 119, 3) := by decide +kernel
theorem dX5_noGame_5 : decode cX5_noGame 5 = .ok (.ifCond .ne 16, 3) := by decide +kernel
theorem dX5_noGame_8 : decode cX5_noGame 8 = .ok (.aload_n 0, 1) := by decide +kernel
theorem dX5_noGame_9 : decode cX5_noGame 9 = .ok (.iload_n 2, 1) := by decide +kernel
theorem dX5_noGame_10 : decode cX5_noGame 10 = .ok (.invokevirtual 119, 3) := by decide +kernel
theorem dX5_noGame_13 : decode cX5_noGame 13 = .ok (.ifCond .ne 8, 3) := by decide +kernel
theorem dX5_noGame_16 : decode cX5_noGame 16 = .ok (.iload_n 1, 1) := by decide +kernel
theorem dX5_noGame_17 : decode cX5_noGame 17 = .ok (.iload_n 2, 1) := by decide +kernel
theorem dX5_noGame_18 : decode cX5_noGame 18 = .ok (.if_icmp .ne 7, 3) := by decide +kernel
theorem dX5_noGame_21 : decode cX5_noGame 21 = .ok (.iconst 1, 1) := by decide +kernel
theorem dX5_noGame_22 : decode cX5_noGame 22 = .ok (.goto 4, 3) := by decide +kernel
theorem dX5_noGame_25 : decode cX5_noGame 25 = .ok (.iconst 0, 1) := by decide +kernel
theorem dX5_noGame_26 : decode cX5_noGame 26 = .ok (.ireturn, 1) := by decide +kernel
theorem dX5_noSlot_0 : decode cX5_noSlot 0 = .ok (.iload_n 1, 1) := by decide +kernel
theorem dX5_noSlot_1 : decode cX5_noSlot 1 = .ok (.ifCond .lt 8, 3) := by decide +kernel
theorem dX5_noSlot_4 : decode cX5_noSlot 4 = .ok (.iload_n 1, 1) := by decide +kernel
theorem dX5_noSlot_5 : decode cX5_noSlot 5 = .ok (.iconst 4, 1) := by decide +kernel
theorem dX5_noSlot_6 : decode cX5_noSlot 6 = .ok (.if_icmp .lt 7, 3) := by decide +kernel
theorem dX5_noSlot_9 : decode cX5_noSlot 9 = .ok (.iconst 1, 1) := by decide +kernel
theorem dX5_noSlot_10 : decode cX5_noSlot 10 = .ok (.goto 4, 3) := by decide +kernel
theorem dX5_noSlot_13 : decode cX5_noSlot 13 = .ok (.iconst 0, 1) := by decide +kernel
theorem dX5_noSlot_14 : decode cX5_noSlot 14 = .ok (.ireturn, 1) := by decide +kernel
theorem dX5_noSeed_0 : decode cX5_noSeed 0 = .ok (.iload_n 1, 1) := by decide +kernel
theorem dX5_noSeed_1 : decode cX5_noSeed 1 = .ok (.ifCond .lt 10, 3) := by decide +kernel
theorem dX5_noSeed_4 : decode cX5_noSeed 4 = .ok (.iload_n 1, 1) := by decide +kernel
theorem dX5_noSeed_5 : decode cX5_noSeed 5 = .ok (.ldc_w 351, 3) := by decide +kernel
theorem dX5_noSeed_8 : decode cX5_noSeed 8 = .ok (.if_icmp .le 7, 3) := by decide +kernel
theorem dX5_noSeed_11 : decode cX5_noSeed 11 = .ok (.iconst 1, 1) := by decide +kernel
theorem dX5_noSeed_12 : decode cX5_noSeed 12 = .ok (.goto 4, 3) := by decide +kernel
theorem dX5_noSeed_15 : decode cX5_noSeed 15 = .ok (.iconst 0, 1) := by decide +kernel
theorem dX5_noSeed_16 : decode cX5_noSeed 16 = .ok (.ireturn, 1) := by decide +kernel
theorem dX5_noPart_0 : decode cX5_noPart 0 = .ok (.iload_n 1, 1) := by decide +kernel
theorem dX5_noPart_1 : decode cX5_noPart 1 = .ok (.ifCond .eq 12, 3) := by decide +kernel
theorem dX5_noPart_4 : decode cX5_noPart 4 = .ok (.iload_n 1, 1) := by decide +kernel
theorem dX5_noPart_5 : decode cX5_noPart 5 = .ok (.iconst 1, 1) := by decide +kernel
theorem dX5_noPart_6 : decode cX5_noPart 6 = .ok (.if_icmp .eq 7, 3) := by decide +kernel
theorem dX5_noPart_9 : decode cX5_noPart 9 = .ok (.iconst 1, 1) := by decide +kernel
theorem dX5_noPart_10 : decode cX5_noPart 10 = .ok (.goto 4, 3) := by decide +kernel
theorem dX5_noPart_13 : decode cX5_noPart 13 = .ok (.iconst 0, 1) := by decide +kernel
theorem dX5_noPart_14 : decode cX5_noPart 14 = .ok (.ireturn, 1) := by decide +kernel
theorem dX5_hasBit_0 : decode cX5_hasBit 0 = .ok (.iload_n 0, 1) := by decide +kernel
theorem dX5_hasBit_1 : decode cX5_hasBit 1 = .ok (.iload_n 1, 1) := by decide +kernel
theorem dX5_hasBit_2 : decode cX5_hasBit 2 = .ok (.ishr, 1) := by decide +kernel
theorem dX5_hasBit_3 : decode cX5_hasBit 3 = .ok (.iconst 1, 1) := by decide +kernel
theorem dX5_hasBit_4 : decode cX5_hasBit 4 = .ok (.iand, 1) := by decide +kernel
theorem dX5_hasBit_5 : decode cX5_hasBit 5 = .ok (.iconst 1, 1) := by decide +kernel
theorem dX5_hasBit_6 : decode cX5_hasBit 6 = .ok (.if_icmp .ne 7, 3) := by decide +kernel
theorem dX5_hasBit_9 : decode cX5_hasBit 9 = .ok (.iconst 1, 1) := by decide +kernel
theorem dX5_hasBit_10 : decode cX5_hasBit 10 = .ok (.goto 4, 3) := by decide +kernel
theorem dX5_hasBit_13 : decode cX5_hasBit 13 = .ok (.iconst 0, 1) := by decide +kernel
theorem dX5_hasBit_14 : decode cX5_hasBit 14 = .ok (.ireturn, 1) := by decide +kernel
theorem dX5_bitsOn_0 : decode cX5_bitsOn 0 = .ok (.iconst 0, 1) := by decide +kernel
theorem dX5_bitsOn_1 : decode cX5_bitsOn 1 = .ok (.istore_n 2, 1) := by decide +kernel
theorem dX5_bitsOn_2 : decode cX5_bitsOn 2 = .ok (.iconst 0, 1) := by decide +kernel
theorem dX5_bitsOn_3 : decode cX5_bitsOn 3 = .ok (.istore_n 3, 1) := by decide +kernel
theorem dX5_bitsOn_4 : decode cX5_bitsOn 4 = .ok (.iload_n 3, 1) := by decide +kernel
theorem dX5_bitsOn_5 : decode cX5_bitsOn 5 = .ok (.aload_n 0, 1) := by decide +kernel
theorem dX5_bitsOn_6 : decode cX5_bitsOn 6 = .ok (.getfield 23, 3) := by decide +kernel
theorem dX5_bitsOn_9 : decode cX5_bitsOn 9 = .ok (.getfield 159, 3) := by decide +kernel
theorem dX5_bitsOn_12 : decode cX5_bitsOn 12 = .ok (.if_icmp .ge 28, 3) := by decide +kernel
theorem dX5_bitsOn_15 : decode cX5_bitsOn 15 = .ok (.aload_n 0, 1) := by decide +kernel
theorem dX5_bitsOn_16 : decode cX5_bitsOn 16 = .ok (.getfield 23, 3) := by decide +kernel
theorem dX5_bitsOn_19 : decode cX5_bitsOn 19 = .ok (.getfield 128, 3) := by decide +kernel
theorem dX5_bitsOn_22 : decode cX5_bitsOn 22 = .ok (.iload_n 3, 1) := by decide +kernel
theorem dX5_bitsOn_23 : decode cX5_bitsOn 23 = .ok (.iaload, 1) := by decide +kernel
theorem dX5_bitsOn_24 : decode cX5_bitsOn 24 = .ok (.iload_n 1, 1) := by decide +kernel
theorem dX5_bitsOn_25 : decode cX5_bitsOn 25 = .ok (.if_icmp .ne 9, 3) := by decide +kernel
theorem dX5_bitsOn_28 : decode cX5_bitsOn 28 = .ok (.iload_n 2, 1) := by decide +kernel
theorem dX5_bitsOn_29 : decode cX5_bitsOn 29 = .ok (.iconst 1, 1) := by decide +kernel
theorem dX5_bitsOn_30 : decode cX5_bitsOn 30 = .ok (.iload_n 3, 1) := by decide +kernel
theorem dX5_bitsOn_31 : decode cX5_bitsOn 31 = .ok (.ishl, 1) := by decide +kernel
theorem dX5_bitsOn_32 : decode cX5_bitsOn 32 = .ok (.ior, 1) := by decide +kernel
theorem dX5_bitsOn_33 : decode cX5_bitsOn 33 = .ok (.istore_n 2, 1) := by decide +kernel
theorem dX5_bitsOn_34 : decode cX5_bitsOn 34 = .ok (.iinc 3 1, 3) := by decide +kernel
theorem dX5_bitsOn_37 : decode cX5_bitsOn 37 = .ok (.goto (-33), 3) := by decide +kernel
theorem dX5_bitsOn_40 : decode cX5_bitsOn 40 = .ok (.iload_n 2, 1) := by decide +kernel
theorem dX5_bitsOn_41 : decode cX5_bitsOn 41 = .ok (.ireturn, 1) := by decide +kernel
theorem dX5_bitsThere_0 : decode cX5_bitsThere 0 = .ok (.iconst 0, 1) := by decide +kernel
theorem dX5_bitsThere_1 : decode cX5_bitsThere 1 = .ok (.istore_n 2, 1) := by decide +kernel
theorem dX5_bitsThere_2 : decode cX5_bitsThere 2 = .ok (.iconst 0, 1) := by decide +kernel
theorem dX5_bitsThere_3 : decode cX5_bitsThere 3 = .ok (.istore_n 3, 1) := by decide +kernel
theorem dX5_bitsThere_4 : decode cX5_bitsThere 4 = .ok (.iload_n 3, 1) := by decide +kernel
theorem dX5_bitsThere_5 : decode cX5_bitsThere 5 = .ok (.aload_n 0, 1) := by decide +kernel
theorem dX5_bitsThere_6 : decode cX5_bitsThere 6 = .ok (.getfield 23, 3) := by decide +kernel
theorem dX5_bitsThere_9 : decode cX5_bitsThere 9 = .ok (.getfield 159, 3) := by decide +kernel
theorem dX5_bitsThere_12 : decode cX5_bitsThere 12 = .ok (.if_icmp .ge 27, 3) := by decide +kernel
theorem dX5_bitsThere_15 : decode cX5_bitsThere 15 = .ok (.aload_n 0, 1) := by decide +kernel
theorem dX5_bitsThere_16 : decode cX5_bitsThere 16 = .ok (.getfield 23, 3) := by decide +kernel
theorem dX5_bitsThere_19 : decode cX5_bitsThere 19 = .ok (.iload_n 3, 1) := by decide +kernel
theorem dX5_bitsThere_20 : decode cX5_bitsThere 20 = .ok (.iload_n 1, 1) := by decide +kernel
theorem dX5_bitsThere_21 : decode cX5_bitsThere 21 = .ok (.invokevirtual 165, 3) := by decide +kernel
theorem dX5_bitsThere_24 : decode cX5_bitsThere 24 = .ok (.ifCond .eq 9, 3) := by decide +kernel
theorem dX5_bitsThere_27 : decode cX5_bitsThere 27 = .ok (.iload_n 2, 1) := by decide +kernel
theorem dX5_bitsThere_28 : decode cX5_bitsThere 28 = .ok (.iconst 1, 1) := by decide +kernel
theorem dX5_bitsThere_29 : decode cX5_bitsThere 29 = .ok (.iload_n 3, 1) := by decide +kernel
theorem dX5_bitsThere_30 : decode cX5_bitsThere 30 = .ok (.ishl, 1) := by decide +kernel
theorem dX5_bitsThere_31 : decode cX5_bitsThere 31 = .ok (.ior, 1) := by decide +kernel
theorem dX5_bitsThere_32 : decode cX5_bitsThere 32 = .ok (.istore_n 2, 1) := by decide +kernel
theorem dX5_bitsThere_33 : decode cX5_bitsThere 33 = .ok (.iinc 3 1, 3) := by decide +kernel
theorem dX5_bitsThere_36 : decode cX5_bitsThere 36 = .ok (.goto (-32), 3) := by decide +kernel
theorem dX5_bitsThere_39 : decode cX5_bitsThere 39 = .ok (.iload_n 2, 1) := by decide +kernel
theorem dX5_bitsThere_40 : decode cX5_bitsThere 40 = .ok (.ireturn, 1) := by decide +kernel
theorem dX5_clearBits_0 : decode cX5_clearBits 0 = .ok (.iconst 0, 1) := by decide +kernel
theorem dX5_clearBits_1 : decode cX5_clearBits 1 = .ok (.istore_n 3, 1) := by decide +kernel
theorem dX5_clearBits_2 : decode cX5_clearBits 2 = .ok (.iconst 0, 1) := by decide +kernel
theorem dX5_clearBits_3 : decode cX5_clearBits 3 = .ok (.istore 4, 2) := by decide +kernel
theorem dX5_clearBits_5 : decode cX5_clearBits 5 = .ok (.iload 4, 2) := by decide +kernel
theorem dX5_clearBits_7 : decode cX5_clearBits 7 = .ok (.aload_n 0, 1) := by decide +kernel
theorem dX5_clearBits_8 : decode cX5_clearBits 8 = .ok (.getfield 23, 3) := by decide +kernel
theorem dX5_clearBits_11 : decode cX5_clearBits 11 = .ok (.getfield 159, 3) := by decide +kernel
theorem dX5_clearBits_14 : decode cX5_clearBits 14 = .ok (.if_icmp .ge 29, 3) := by decide +kernel
theorem dX5_clearBits_17 : decode cX5_clearBits 17 = .ok (.aload_n 1, 1) := by decide +kernel
theorem dX5_clearBits_18 : decode cX5_clearBits 18 = .ok (.getfield 169, 3) := by decide +kernel
theorem dX5_clearBits_21 : decode cX5_clearBits 21 = .ok (.iload_n 2, 1) := by decide +kernel
theorem dX5_clearBits_22 : decode cX5_clearBits 22 = .ok (.aaload, 1) := by decide +kernel
theorem dX5_clearBits_23 : decode cX5_clearBits 23 = .ok (.iload 4, 2) := by decide +kernel
theorem dX5_clearBits_25 : decode cX5_clearBits 25 = .ok (.iaload, 1) := by decide +kernel
theorem dX5_clearBits_26 : decode cX5_clearBits 26 = .ok (.iconst 5, 1) := by decide +kernel
theorem dX5_clearBits_27 : decode cX5_clearBits 27 = .ok (.if_icmp .lt 10, 3) := by decide +kernel
theorem dX5_clearBits_30 : decode cX5_clearBits 30 = .ok (.iload_n 3, 1) := by decide +kernel
theorem dX5_clearBits_31 : decode cX5_clearBits 31 = .ok (.iconst 1, 1) := by decide +kernel
theorem dX5_clearBits_32 : decode cX5_clearBits 32 = .ok (.iload 4, 2) := by decide +kernel
theorem dX5_clearBits_34 : decode cX5_clearBits 34 = .ok (.ishl, 1) := by decide +kernel
theorem dX5_clearBits_35 : decode cX5_clearBits 35 = .ok (.ior, 1) := by decide +kernel
theorem dX5_clearBits_36 : decode cX5_clearBits 36 = .ok (.istore_n 3, 1) := by decide +kernel
theorem dX5_clearBits_37 : decode cX5_clearBits 37 = .ok (.iinc 4 1, 3) := by decide +kernel
theorem dX5_clearBits_40 : decode cX5_clearBits 40 = .ok (.goto (-35), 3) := by decide +kernel
theorem dX5_clearBits_43 : decode cX5_clearBits 43 = .ok (.iload_n 3, 1) := by decide +kernel
theorem dX5_clearBits_44 : decode cX5_clearBits 44 = .ok (.ireturn, 1) := by decide +kernel
theorem dX5_darkestOf_0 : decode cX5_darkestOf 0 = .ok (.iconst (-1), 1) := by decide +kernel
theorem dX5_darkestOf_1 : decode cX5_darkestOf 1 = .ok (.istore_n 3, 1) := by decide +kernel
theorem dX5_darkestOf_2 : decode cX5_darkestOf 2 = .ok (.iconst 0, 1) := by decide +kernel
theorem dX5_darkestOf_3 : decode cX5_darkestOf 3 = .ok (.istore 4, 2) := by decide +kernel
theorem dX5_darkestOf_5 : decode cX5_darkestOf 5 = .ok (.iload 4, 2) := by decide +kernel
theorem dX5_darkestOf_7 : decode cX5_darkestOf 7 = .ok (.aload_n 0, 1) := by decide +kernel
theorem dX5_darkestOf_8 : decode cX5_darkestOf 8 = .ok (.getfield 23, 3) := by decide +kernel
theorem dX5_darkestOf_11 : decode cX5_darkestOf 11 = .ok (.getfield 159, 3) := by decide +kernel
theorem dX5_darkestOf_14 : decode cX5_darkestOf 14 = .ok (.if_icmp .ge 52, 3) := by decide +kernel
theorem dX5_darkestOf_17 : decode cX5_darkestOf 17 = .ok (.iload_n 1, 1) := by decide +kernel
theorem dX5_darkestOf_18 : decode cX5_darkestOf 18 = .ok (.iload 4, 2) := by decide +kernel
theorem dX5_darkestOf_20 : decode cX5_darkestOf 20 = .ok (.invokestatic 233, 3) := by decide +kernel
theorem dX5_darkestOf_23 : decode cX5_darkestOf 23 = .ok (.ifCond .eq 37, 3) := by decide +kernel
theorem dX5_darkestOf_26 : decode cX5_darkestOf 26 = .ok (.iload_n 3, 1) := by decide +kernel
theorem dX5_darkestOf_27 : decode cX5_darkestOf 27 = .ok (.iconst (-1), 1) := by decide +kernel
theorem dX5_darkestOf_28 : decode cX5_darkestOf 28 = .ok (.if_icmp .eq 29, 3) := by decide +kernel
theorem dX5_darkestOf_31 : decode cX5_darkestOf 31 = .ok (.aload_n 0, 1) := by decide +kernel
theorem dX5_darkestOf_32 : decode cX5_darkestOf 32 = .ok (.getfield 32, 3) := by decide +kernel
theorem dX5_darkestOf_35 : decode cX5_darkestOf 35 = .ok (.getfield 169, 3) := by decide +kernel
theorem dX5_darkestOf_38 : decode cX5_darkestOf 38 = .ok (.iload_n 2, 1) := by decide +kernel
theorem dX5_darkestOf_39 : decode cX5_darkestOf 39 = .ok (.aaload, 1) := by decide +kernel
theorem dX5_darkestOf_40 : decode cX5_darkestOf 40 = .ok (.iload 4, 2) := by decide +kernel
theorem dX5_darkestOf_42 : decode cX5_darkestOf 42 = .ok (.iaload, 1) := by decide +kernel
theorem dX5_darkestOf_43 : decode cX5_darkestOf 43 = .ok (.aload_n 0, 1) := by decide +kernel
theorem dX5_darkestOf_44 : decode cX5_darkestOf 44 = .ok (.getfield 32, 3) := by decide +kernel
theorem dX5_darkestOf_47 : decode cX5_darkestOf 47 = .ok (.getfield 169, 3) := by decide +kernel
theorem dX5_darkestOf_50 : decode cX5_darkestOf 50 = .ok (.iload_n 2, 1) := by decide +kernel
theorem dX5_darkestOf_51 : decode cX5_darkestOf 51 = .ok (.aaload, 1) := by decide +kernel
theorem dX5_darkestOf_52 : decode cX5_darkestOf 52 = .ok (.iload_n 3, 1) := by decide +kernel
theorem dX5_darkestOf_53 : decode cX5_darkestOf 53 = .ok (.iaload, 1) := by decide +kernel
theorem dX5_darkestOf_54 : decode cX5_darkestOf 54 = .ok (.if_icmp .le 6, 3) := by decide +kernel
theorem dX5_darkestOf_57 : decode cX5_darkestOf 57 = .ok (.iload 4, 2) := by decide +kernel
theorem dX5_darkestOf_59 : decode cX5_darkestOf 59 = .ok (.istore_n 3, 1) := by decide +kernel
theorem dX5_darkestOf_60 : decode cX5_darkestOf 60 = .ok (.iinc 4 1, 3) := by decide +kernel
theorem dX5_darkestOf_63 : decode cX5_darkestOf 63 = .ok (.goto (-58), 3) := by decide +kernel
theorem dX5_darkestOf_66 : decode cX5_darkestOf 66 = .ok (.iload_n 3, 1) := by decide +kernel
theorem dX5_darkestOf_67 : decode cX5_darkestOf 67 = .ok (.ireturn, 1) := by decide +kernel
theorem dX5_palestOf_0 : decode cX5_palestOf 0 = .ok (.iconst (-1), 1) := by decide +kernel
theorem dX5_palestOf_1 : decode cX5_palestOf 1 = .ok (.istore_n 3, 1) := by decide +kernel
theorem dX5_palestOf_2 : decode cX5_palestOf 2 = .ok (.iconst 0, 1) := by decide +kernel
theorem dX5_palestOf_3 : decode cX5_palestOf 3 = .ok (.istore 4, 2) := by decide +kernel
theorem dX5_palestOf_5 : decode cX5_palestOf 5 = .ok (.iload 4, 2) := by decide +kernel
theorem dX5_palestOf_7 : decode cX5_palestOf 7 = .ok (.aload_n 0, 1) := by decide +kernel
theorem dX5_palestOf_8 : decode cX5_palestOf 8 = .ok (.getfield 23, 3) := by decide +kernel
theorem dX5_palestOf_11 : decode cX5_palestOf 11 = .ok (.getfield 159, 3) := by decide +kernel
theorem dX5_palestOf_14 : decode cX5_palestOf 14 = .ok (.if_icmp .ge 52, 3) := by decide +kernel
theorem dX5_palestOf_17 : decode cX5_palestOf 17 = .ok (.iload_n 1, 1) := by decide +kernel
theorem dX5_palestOf_18 : decode cX5_palestOf 18 = .ok (.iload 4, 2) := by decide +kernel
theorem dX5_palestOf_20 : decode cX5_palestOf 20 = .ok (.invokestatic 233, 3) := by decide +kernel
theorem dX5_palestOf_23 : decode cX5_palestOf 23 = .ok (.ifCond .eq 37, 3) := by decide +kernel
theorem dX5_palestOf_26 : decode cX5_palestOf 26 = .ok (.iload_n 3, 1) := by decide +kernel
theorem dX5_palestOf_27 : decode cX5_palestOf 27 = .ok (.iconst (-1), 1) := by decide +kernel
theorem dX5_palestOf_28 : decode cX5_palestOf 28 = .ok (.if_icmp .eq 29, 3) := by decide +kernel
theorem dX5_palestOf_31 : decode cX5_palestOf 31 = .ok (.aload_n 0, 1) := by decide +kernel
theorem dX5_palestOf_32 : decode cX5_palestOf 32 = .ok (.getfield 32, 3) := by decide +kernel
theorem dX5_palestOf_35 : decode cX5_palestOf 35 = .ok (.getfield 169, 3) := by decide +kernel
theorem dX5_palestOf_38 : decode cX5_palestOf 38 = .ok (.iload_n 2, 1) := by decide +kernel
theorem dX5_palestOf_39 : decode cX5_palestOf 39 = .ok (.aaload, 1) := by decide +kernel
theorem dX5_palestOf_40 : decode cX5_palestOf 40 = .ok (.iload 4, 2) := by decide +kernel
theorem dX5_palestOf_42 : decode cX5_palestOf 42 = .ok (.iaload, 1) := by decide +kernel
theorem dX5_palestOf_43 : decode cX5_palestOf 43 = .ok (.aload_n 0, 1) := by decide +kernel
theorem dX5_palestOf_44 : decode cX5_palestOf 44 = .ok (.getfield 32, 3) := by decide +kernel
theorem dX5_palestOf_47 : decode cX5_palestOf 47 = .ok (.getfield 169, 3) := by decide +kernel
theorem dX5_palestOf_50 : decode cX5_palestOf 50 = .ok (.iload_n 2, 1) := by decide +kernel
theorem dX5_palestOf_51 : decode cX5_palestOf 51 = .ok (.aaload, 1) := by decide +kernel
theorem dX5_palestOf_52 : decode cX5_palestOf 52 = .ok (.iload_n 3, 1) := by decide +kernel
theorem dX5_palestOf_53 : decode cX5_palestOf 53 = .ok (.iaload, 1) := by decide +kernel
theorem dX5_palestOf_54 : decode cX5_palestOf 54 = .ok (.if_icmp .ge 6, 3) := by decide +kernel
theorem dX5_palestOf_57 : decode cX5_palestOf 57 = .ok (.iload 4, 2) := by decide +kernel
theorem dX5_palestOf_59 : decode cX5_palestOf 59 = .ok (.istore_n 3, 1) := by decide +kernel
theorem dX5_palestOf_60 : decode cX5_palestOf 60 = .ok (.iinc 4 1, 3) := by decide +kernel
theorem dX5_palestOf_63 : decode cX5_palestOf 63 = .ok (.goto (-58), 3) := by decide +kernel
theorem dX5_palestOf_66 : decode cX5_palestOf 66 = .ok (.iload_n 3, 1) := by decide +kernel
theorem dX5_palestOf_67 : decode cX5_palestOf 67 = .ok (.ireturn, 1) := by decide +kernel
theorem dX5_unlikeShades_0 : decode cX5_unlikeShades 0 = .ok (.lconst 0, 1) := by decide +kernel
theorem dX5_unlikeShades_1 : decode cX5_unlikeShades 1 = .ok (.lstore_n 3, 1) := by decide +kernel
theorem dX5_unlikeShades_2 : decode cX5_unlikeShades 2 = .ok (.iconst 0, 1) := by decide +kernel
theorem dX5_unlikeShades_3 : decode cX5_unlikeShades 3 = .ok (.istore 5, 2) := by decide +kernel
theorem dX5_unlikeShades_5 : decode cX5_unlikeShades 5 = .ok (.iconst 0, 1) := by decide +kernel
theorem dX5_unlikeShades_6 : decode cX5_unlikeShades 6 = .ok (.istore 6, 2) := by decide +kernel
theorem dX5_unlikeShades_8 : decode cX5_unlikeShades 8 = .ok (.iload 6, 2) := by decide +kernel
theorem dX5_unlikeShades_10 : decode cX5_unlikeShades 10 = .ok (.aload_n 0, 1) := by decide +kernel
theorem dX5_unlikeShades_11 : decode cX5_unlikeShades 11 = .ok (.getfield 23, 3) := by decide +kernel
theorem dX5_unlikeShades_14 : decode cX5_unlikeShades 14 = .ok (.getfield 159, 3) := by decide +kernel
theorem dX5_unlikeShades_17 : decode cX5_unlikeShades 17 = .ok (.if_icmp .ge 51, 3) := by decide +kernel
theorem dX5_unlikeShades_20 : decode cX5_unlikeShades 20 = .ok (.lconst 1, 1) := by decide +kernel
theorem dX5_unlikeShades_21 : decode cX5_unlikeShades 21 = .ok (.aload_n 0, 1) := by decide +kernel
theorem dX5_unlikeShades_22 : decode cX5_unlikeShades 22 = .ok (.getfield 32, 3) := by decide +kernel
theorem dX5_unlikeShades_25 : decode cX5_unlikeShades 25 = .ok (.getfield 169, 3) := by decide +kernel
theorem dX5_unlikeShades_28 : decode cX5_unlikeShades 28 = .ok (.iload_n 2, 1) := by decide +kernel
theorem dX5_unlikeShades_29 : decode cX5_unlikeShades 29 = .ok (.aaload, 1) := by decide +kernel
theorem dX5_unlikeShades_30 : decode cX5_unlikeShades 30 = .ok (.iload 6, 2) := by decide +kernel
theorem dX5_unlikeShades_32 : decode cX5_unlikeShades 32 = .ok (.iaload, 1) := by decide +kernel
theorem dX5_unlikeShades_33 : decode cX5_unlikeShades 33 = .ok (.lshl, 1) := by decide +kernel
theorem dX5_unlikeShades_34 : decode cX5_unlikeShades 34 = .ok (.lstore 7, 2) := by decide +kernel
theorem dX5_unlikeShades_36 : decode cX5_unlikeShades 36 = .ok (.iload_n 1, 1) := by decide +kernel
theorem dX5_unlikeShades_37 : decode cX5_unlikeShades 37 = .ok (.iload 6, 2) := by decide +kernel
theorem dX5_unlikeShades_39 : decode cX5_unlikeShades 39 = .ok (.invokestatic 233, 3) := by decide +kernel
theorem dX5_unlikeShades_42 : decode cX5_unlikeShades 42 = .ok (.ifCond .eq 20, 3) := by decide +kernel
theorem dX5_unlikeShades_45 : decode cX5_unlikeShades 45 = .ok (.lload_n 3, 1) := by decide +kernel
theorem dX5_unlikeShades_46 : decode cX5_unlikeShades 46 = .ok (.lload 7, 2) := by decide +kernel
theorem dX5_unlikeShades_48 : decode cX5_unlikeShades 48 = .ok (.land, 1) := by decide +kernel
theorem dX5_unlikeShades_49 : decode cX5_unlikeShades 49 = .ok (.lconst 0, 1) := by decide +kernel
theorem dX5_unlikeShades_50 : decode cX5_unlikeShades 50 = .ok (.lcmp, 1) := by decide +kernel
theorem dX5_unlikeShades_51 : decode cX5_unlikeShades 51 = .ok (.ifCond .ne 11, 3) := by decide +kernel
theorem dX5_unlikeShades_54 : decode cX5_unlikeShades 54 = .ok (.lload_n 3, 1) := by decide +kernel
theorem dX5_unlikeShades_55 : decode cX5_unlikeShades 55 = .ok (.lload 7, 2) := by decide +kernel
theorem dX5_unlikeShades_57 : decode cX5_unlikeShades 57 = .ok (.lor, 1) := by decide +kernel
theorem dX5_unlikeShades_58 : decode cX5_unlikeShades 58 = .ok (.lstore_n 3, 1) := by decide +kernel
theorem dX5_unlikeShades_59 : decode cX5_unlikeShades 59 = .ok (.iinc 5 1, 3) := by decide +kernel
theorem dX5_unlikeShades_62 : decode cX5_unlikeShades 62 = .ok (.iinc 6 1, 3) := by decide +kernel
theorem dX5_unlikeShades_65 : decode cX5_unlikeShades 65 = .ok (.goto (-57), 3) := by decide +kernel
theorem dX5_unlikeShades_68 : decode cX5_unlikeShades 68 = .ok (.iload 5, 2) := by decide +kernel
theorem dX5_unlikeShades_70 : decode cX5_unlikeShades 70 = .ok (.ireturn, 1) := by decide +kernel
theorem dX5_act_0 : decode cX5_act 0 = .ok (.aload_n 0, 1) := by decide +kernel
theorem dX5_act_1 : decode cX5_act 1 = .ok (.getfield 23, 3) := by decide +kernel
theorem dX5_act_4 : decode cX5_act 4 = .ok (.getfield 255, 3) := by decide +kernel
theorem dX5_act_7 : decode cX5_act 7 = .ok (.getfield 265, 3) := by decide +kernel
theorem dX5_act_10 : decode cX5_act 10 = .ok (.bipush 30, 2) := by decide +kernel
theorem dX5_act_12 : decode cX5_act 12 = .ok (.if_icmp .lt 6, 3) := by decide +kernel
theorem dX5_act_15 : decode cX5_act 15 = .ok (.bipush (-5), 2) := by decide +kernel
theorem dX5_act_17 : decode cX5_act 17 = .ok (.ireturn, 1) := by decide +kernel
theorem dX5_act_18 : decode cX5_act 18 = .ok (.aload_n 0, 1) := by decide +kernel
theorem dX5_act_19 : decode cX5_act 19 = .ok (.getfield 23, 3) := by decide +kernel
theorem dX5_act_22 : decode cX5_act 22 = .ok (.getfield 255, 3) := by decide +kernel
theorem dX5_act_25 : decode cX5_act 25 = .ok (.iload_n 1, 1) := by decide +kernel
theorem dX5_act_26 : decode cX5_act 26 = .ok (.iload_n 2, 1) := by decide +kernel
theorem dX5_act_27 : decode cX5_act 27 = .ok (.iload_n 3, 1) := by decide +kernel
theorem dX5_act_28 : decode cX5_act 28 = .ok (.invokevirtual 259, 3) := by decide +kernel
theorem dX5_act_31 : decode cX5_act 31 = .ok (.aload_n 0, 1) := by decide +kernel
theorem dX5_act_32 : decode cX5_act 32 = .ok (.getfield 32, 3) := by decide +kernel
theorem dX5_act_35 : decode cX5_act 35 = .ok (.aload_n 0, 1) := by decide +kernel
theorem dX5_act_36 : decode cX5_act 36 = .ok (.getfield 23, 3) := by decide +kernel
theorem dX5_act_39 : decode cX5_act 39 = .ok (.iconst 0, 1) := by decide +kernel
theorem dX5_act_40 : decode cX5_act 40 = .ok (.invokevirtual 99, 3) := by decide +kernel
theorem dX5_act_43 : decode cX5_act 43 = .ok (.aload_n 0, 1) := by decide +kernel
theorem dX5_act_44 : decode cX5_act 44 = .ok (.getfield 32, 3) := by decide +kernel
theorem dX5_act_47 : decode cX5_act 47 = .ok (.getfield 169, 3) := by decide +kernel
theorem dX5_act_50 : decode cX5_act 50 = .ok (.aload_n 0, 1) := by decide +kernel
theorem dX5_act_51 : decode cX5_act 51 = .ok (.getfield 23, 3) := by decide +kernel
theorem dX5_act_54 : decode cX5_act 54 = .ok (.getfield 175, 3) := by decide +kernel
theorem dX5_act_57 : decode cX5_act 57 = .ok (.aaload, 1) := by decide +kernel
theorem dX5_act_58 : decode cX5_act 58 = .ok (.iload_n 1, 1) := by decide +kernel
theorem dX5_act_59 : decode cX5_act 59 = .ok (.iaload, 1) := by decide +kernel
theorem dX5_act_60 : decode cX5_act 60 = .ok (.ireturn, 1) := by decide +kernel
theorem dX5_earlierBehind_0 : decode cX5_earlierBehind 0 = .ok (.iconst 0, 1) := by decide +kernel
theorem dX5_earlierBehind_1 : decode cX5_earlierBehind 1 = .ok (.istore_n 2, 1) := by decide +kernel
theorem dX5_earlierBehind_2 : decode cX5_earlierBehind 2 = .ok (.iload_n 2, 1) := by decide +kernel
theorem dX5_earlierBehind_3 : decode cX5_earlierBehind 3 = .ok (.aload_n 0, 1) := by decide +kernel
theorem dX5_earlierBehind_4 : decode cX5_earlierBehind 4 = .ok (.getfield 23, 3) := by decide +kernel
theorem dX5_earlierBehind_7 : decode cX5_earlierBehind 7 = .ok (.getfield 159, 3) := by decide +kernel
theorem dX5_earlierBehind_10 : decode cX5_earlierBehind 10 = .ok (.if_icmp .ge 74, 3) := by decide +kernel
theorem dX5_earlierBehind_13 : decode cX5_earlierBehind 13 = .ok (.aload_n 0, 1) := by decide +kernel
theorem dX5_earlierBehind_14 : decode cX5_earlierBehind 14 = .ok (.getfield 23, 3) := by decide +kernel
theorem dX5_earlierBehind_17 : decode cX5_earlierBehind 17 = .ok (.getfield 128, 3) := by decide +kernel
theorem dX5_earlierBehind_20 : decode cX5_earlierBehind 20 = .ok (.iload_n 2, 1) := by decide +kernel
theorem dX5_earlierBehind_21 : decode cX5_earlierBehind 21 = .ok (.iaload, 1) := by decide +kernel
theorem dX5_earlierBehind_22 : decode cX5_earlierBehind 22 = .ok (.aload_n 0, 1) := by decide +kernel
theorem dX5_earlierBehind_23 : decode cX5_earlierBehind 23 = .ok (.getfield 23, 3) := by decide +kernel
theorem dX5_earlierBehind_26 : decode cX5_earlierBehind 26 = .ok (.getfield 128, 3) := by decide +kernel
theorem dX5_earlierBehind_29 : decode cX5_earlierBehind 29 = .ok (.iload_n 1, 1) := by decide +kernel
theorem dX5_earlierBehind_30 : decode cX5_earlierBehind 30 = .ok (.iaload, 1) := by decide +kernel
theorem dX5_earlierBehind_31 : decode cX5_earlierBehind 31 = .ok (.if_icmp .ne 47, 3) := by decide +kernel
theorem dX5_earlierBehind_34 : decode cX5_earlierBehind 34 = .ok (.aload_n 0, 1) := by decide +kernel
theorem dX5_earlierBehind_35 : decode cX5_earlierBehind 35 = .ok (.getfield 23, 3) := by decide +kernel
theorem dX5_earlierBehind_38 : decode cX5_earlierBehind 38 = .ok (.getfield 140, 3) := by decide +kernel
theorem dX5_earlierBehind_41 : decode cX5_earlierBehind 41 = .ok (.iload_n 2, 1) := by decide +kernel
theorem dX5_earlierBehind_42 : decode cX5_earlierBehind 42 = .ok (.iaload, 1) := by decide +kernel
theorem dX5_earlierBehind_43 : decode cX5_earlierBehind 43 = .ok (.aload_n 0, 1) := by decide +kernel
theorem dX5_earlierBehind_44 : decode cX5_earlierBehind 44 = .ok (.getfield 23, 3) := by decide +kernel
theorem dX5_earlierBehind_47 : decode cX5_earlierBehind 47 = .ok (.getfield 140, 3) := by decide +kernel
theorem dX5_earlierBehind_50 : decode cX5_earlierBehind 50 = .ok (.iload_n 1, 1) := by decide +kernel
theorem dX5_earlierBehind_51 : decode cX5_earlierBehind 51 = .ok (.iaload, 1) := by decide +kernel
theorem dX5_earlierBehind_52 : decode cX5_earlierBehind 52 = .ok (.if_icmp .le 26, 3) := by decide +kernel
theorem dX5_earlierBehind_55 : decode cX5_earlierBehind 55 = .ok (.aload_n 0, 1) := by decide +kernel
theorem dX5_earlierBehind_56 : decode cX5_earlierBehind 56 = .ok (.getfield 23, 3) := by decide +kernel
theorem dX5_earlierBehind_59 : decode cX5_earlierBehind 59 = .ok (.getfield 134, 3) := by decide +kernel
theorem dX5_earlierBehind_62 : decode cX5_earlierBehind 62 = .ok (.iload_n 2, 1) := by decide +kernel
theorem dX5_earlierBehind_63 : decode cX5_earlierBehind 63 = .ok (.iaload, 1) := by decide +kernel
theorem dX5_earlierBehind_64 : decode cX5_earlierBehind 64 = .ok (.aload_n 0, 1) := by decide +kernel
theorem dX5_earlierBehind_65 : decode cX5_earlierBehind 65 = .ok (.getfield 23, 3) := by decide +kernel
theorem dX5_earlierBehind_68 : decode cX5_earlierBehind 68 = .ok (.getfield 134, 3) := by decide +kernel
theorem dX5_earlierBehind_71 : decode cX5_earlierBehind 71 = .ok (.iload_n 1, 1) := by decide +kernel
theorem dX5_earlierBehind_72 : decode cX5_earlierBehind 72 = .ok (.iaload, 1) := by decide +kernel
theorem dX5_earlierBehind_73 : decode cX5_earlierBehind 73 = .ok (.if_icmp .ge 5, 3) := by decide +kernel
theorem dX5_earlierBehind_76 : decode cX5_earlierBehind 76 = .ok (.iconst 1, 1) := by decide +kernel
theorem dX5_earlierBehind_77 : decode cX5_earlierBehind 77 = .ok (.ireturn, 1) := by decide +kernel
theorem dX5_earlierBehind_78 : decode cX5_earlierBehind 78 = .ok (.iinc 2 1, 3) := by decide +kernel
theorem dX5_earlierBehind_81 : decode cX5_earlierBehind 81 = .ok (.goto (-79), 3) := by decide +kernel
theorem dX5_earlierBehind_84 : decode cX5_earlierBehind 84 = .ok (.iconst 0, 1) := by decide +kernel
theorem dX5_earlierBehind_85 : decode cX5_earlierBehind 85 = .ok (.ireturn, 1) := by decide +kernel
theorem dX5_ripeYear_0 : decode cX5_ripeYear 0 = .ok (.iconst 0, 1) := by decide +kernel
theorem dX5_ripeYear_1 : decode cX5_ripeYear 1 = .ok (.istore_n 2, 1) := by decide +kernel
theorem dX5_ripeYear_2 : decode cX5_ripeYear 2 = .ok (.iconst 1, 1) := by decide +kernel
theorem dX5_ripeYear_3 : decode cX5_ripeYear 3 = .ok (.istore_n 3, 1) := by decide +kernel
theorem dX5_ripeYear_4 : decode cX5_ripeYear 4 = .ok (.iload_n 3, 1) := by decide +kernel
theorem dX5_ripeYear_5 : decode cX5_ripeYear 5 = .ok (.aload_n 0, 1) := by decide +kernel
theorem dX5_ripeYear_6 : decode cX5_ripeYear 6 = .ok (.getfield 23, 3) := by decide +kernel
theorem dX5_ripeYear_9 : decode cX5_ripeYear 9 = .ok (.getfield 175, 3) := by decide +kernel
theorem dX5_ripeYear_12 : decode cX5_ripeYear 12 = .ok (.if_icmp .gt 36, 3) := by decide +kernel
theorem dX5_ripeYear_15 : decode cX5_ripeYear 15 = .ok (.aload_n 0, 1) := by decide +kernel
theorem dX5_ripeYear_16 : decode cX5_ripeYear 16 = .ok (.getfield 32, 3) := by decide +kernel
theorem dX5_ripeYear_19 : decode cX5_ripeYear 19 = .ok (.getfield 169, 3) := by decide +kernel
theorem dX5_ripeYear_22 : decode cX5_ripeYear 22 = .ok (.iload_n 3, 1) := by decide +kernel
theorem dX5_ripeYear_23 : decode cX5_ripeYear 23 = .ok (.aaload, 1) := by decide +kernel
theorem dX5_ripeYear_24 : decode cX5_ripeYear 24 = .ok (.iload_n 1, 1) := by decide +kernel
theorem dX5_ripeYear_25 : decode cX5_ripeYear 25 = .ok (.iaload, 1) := by decide +kernel
theorem dX5_ripeYear_26 : decode cX5_ripeYear 26 = .ok (.aload_n 0, 1) := by decide +kernel
theorem dX5_ripeYear_27 : decode cX5_ripeYear 27 = .ok (.getfield 32, 3) := by decide +kernel
theorem dX5_ripeYear_30 : decode cX5_ripeYear 30 = .ok (.getfield 169, 3) := by decide +kernel
theorem dX5_ripeYear_33 : decode cX5_ripeYear 33 = .ok (.iload_n 2, 1) := by decide +kernel
theorem dX5_ripeYear_34 : decode cX5_ripeYear 34 = .ok (.aaload, 1) := by decide +kernel
theorem dX5_ripeYear_35 : decode cX5_ripeYear 35 = .ok (.iload_n 1, 1) := by decide +kernel
theorem dX5_ripeYear_36 : decode cX5_ripeYear 36 = .ok (.iaload, 1) := by decide +kernel
theorem dX5_ripeYear_37 : decode cX5_ripeYear 37 = .ok (.if_icmp .le 5, 3) := by decide +kernel
theorem dX5_ripeYear_40 : decode cX5_ripeYear 40 = .ok (.iload_n 3, 1) := by decide +kernel
theorem dX5_ripeYear_41 : decode cX5_ripeYear 41 = .ok (.istore_n 2, 1) := by decide +kernel
theorem dX5_ripeYear_42 : decode cX5_ripeYear 42 = .ok (.iinc 3 1, 3) := by decide +kernel
theorem dX5_ripeYear_45 : decode cX5_ripeYear 45 = .ok (.goto (-41), 3) := by decide +kernel
theorem dX5_ripeYear_48 : decode cX5_ripeYear 48 = .ok (.iload_n 2, 1) := by decide +kernel
theorem dX5_ripeYear_49 : decode cX5_ripeYear 49 = .ok (.ireturn, 1) := by decide +kernel
theorem dX5_bothThere_0 : decode cX5_bothThere 0 = .ok (.aload_n 0, 1) := by decide +kernel
theorem dX5_bothThere_1 : decode cX5_bothThere 1 = .ok (.getfield 23, 3) := by decide +kernel
theorem dX5_bothThere_4 : decode cX5_bothThere 4 = .ok (.iload_n 1, 1) := by decide +kernel
theorem dX5_bothThere_5 : decode cX5_bothThere 5 = .ok (.iload_n 3, 1) := by decide +kernel
theorem dX5_bothThere_6 : decode cX5_bothThere 6 = .ok (.invokevirtual 165, 3) := by decide +kernel
theorem dX5_bothThere_9 : decode cX5_bothThere 9 = .ok (.ifCond .eq 19, 3) := by decide +kernel
theorem dX5_bothThere_12 : decode cX5_bothThere 12 = .ok (.aload_n 0, 1) := by decide +kernel
theorem dX5_bothThere_13 : decode cX5_bothThere 13 = .ok (.getfield 23, 3) := by decide +kernel
theorem dX5_bothThere_16 : decode cX5_bothThere 16 = .ok (.iload_n 2, 1) := by decide +kernel
theorem dX5_bothThere_17 : decode cX5_bothThere 17 = .ok (.iload_n 3, 1) := by decide +kernel
theorem dX5_bothThere_18 : decode cX5_bothThere 18 = .ok (.invokevirtual 165, 3) := by decide +kernel
theorem dX5_bothThere_21 : decode cX5_bothThere 21 = .ok (.ifCond .eq 7, 3) := by decide +kernel
theorem dX5_bothThere_24 : decode cX5_bothThere 24 = .ok (.iconst 1, 1) := by decide +kernel
theorem dX5_bothThere_25 : decode cX5_bothThere 25 = .ok (.goto 4, 3) := by decide +kernel
theorem dX5_bothThere_28 : decode cX5_bothThere 28 = .ok (.iconst 0, 1) := by decide +kernel
theorem dX5_bothThere_29 : decode cX5_bothThere 29 = .ok (.ireturn, 1) := by decide +kernel
theorem dX5_compared_0 : decode cX5_compared 0 = .ok (.aload_n 0, 1) := by decide +kernel
theorem dX5_compared_1 : decode cX5_compared 1 = .ok (.getfield 32, 3) := by decide +kernel
theorem dX5_compared_4 : decode cX5_compared 4 = .ok (.getfield 169, 3) := by decide +kernel
theorem dX5_compared_7 : decode cX5_compared 7 = .ok (.iload_n 3, 1) := by decide +kernel
theorem dX5_compared_8 : decode cX5_compared 8 = .ok (.aaload, 1) := by decide +kernel
theorem dX5_compared_9 : decode cX5_compared 9 = .ok (.iload_n 1, 1) := by decide +kernel
theorem dX5_compared_10 : decode cX5_compared 10 = .ok (.iaload, 1) := by decide +kernel
theorem dX5_compared_11 : decode cX5_compared 11 = .ok (.aload_n 0, 1) := by decide +kernel
theorem dX5_compared_12 : decode cX5_compared 12 = .ok (.getfield 32, 3) := by decide +kernel
theorem dX5_compared_15 : decode cX5_compared 15 = .ok (.getfield 169, 3) := by decide +kernel
theorem dX5_compared_18 : decode cX5_compared 18 = .ok (.iload_n 3, 1) := by decide +kernel
theorem dX5_compared_19 : decode cX5_compared 19 = .ok (.aaload, 1) := by decide +kernel
theorem dX5_compared_20 : decode cX5_compared 20 = .ok (.iload_n 2, 1) := by decide +kernel
theorem dX5_compared_21 : decode cX5_compared 21 = .ok (.iaload, 1) := by decide +kernel
theorem dX5_compared_22 : decode cX5_compared 22 = .ok (.invokestatic 352, 3) := by decide +kernel
theorem dX5_compared_25 : decode cX5_compared 25 = .ok (.ireturn, 1) := by decide +kernel
theorem dX5_passesBy_0 : decode cX5_passesBy 0 = .ok (.aload_n 0, 1) := by decide +kernel
theorem dX5_passesBy_1 : decode cX5_passesBy 1 = .ok (.getfield 32, 3) := by decide +kernel
theorem dX5_passesBy_4 : decode cX5_passesBy 4 = .ok (.getfield 169, 3) := by decide +kernel
theorem dX5_passesBy_7 : decode cX5_passesBy 7 = .ok (.iload_n 3, 1) := by decide +kernel
theorem dX5_passesBy_8 : decode cX5_passesBy 8 = .ok (.aaload, 1) := by decide +kernel
theorem dX5_passesBy_9 : decode cX5_passesBy 9 = .ok (.iload_n 1, 1) := by decide +kernel
theorem dX5_passesBy_10 : decode cX5_passesBy 10 = .ok (.iaload, 1) := by decide +kernel
theorem dX5_passesBy_11 : decode cX5_passesBy 11 = .ok (.aload_n 0, 1) := by decide +kernel
theorem dX5_passesBy_12 : decode cX5_passesBy 12 = .ok (.getfield 23, 3) := by decide +kernel
theorem dX5_passesBy_15 : decode cX5_passesBy 15 = .ok (.iload_n 2, 1) := by decide +kernel
theorem dX5_passesBy_16 : decode cX5_passesBy 16 = .ok (.aload_n 0, 1) := by decide +kernel
theorem dX5_passesBy_17 : decode cX5_passesBy 17 = .ok (.getfield 23, 3) := by decide +kernel
theorem dX5_passesBy_20 : decode cX5_passesBy 20 = .ok (.getfield 128, 3) := by decide +kernel
theorem dX5_passesBy_23 : decode cX5_passesBy 23 = .ok (.iload_n 1, 1) := by decide +kernel
theorem dX5_passesBy_24 : decode cX5_passesBy 24 = .ok (.iaload, 1) := by decide +kernel
theorem dX5_passesBy_25 : decode cX5_passesBy 25 = .ok (.aload_n 0, 1) := by decide +kernel
theorem dX5_passesBy_26 : decode cX5_passesBy 26 = .ok (.getfield 23, 3) := by decide +kernel
theorem dX5_passesBy_29 : decode cX5_passesBy 29 = .ok (.getfield 137, 3) := by decide +kernel
theorem dX5_passesBy_32 : decode cX5_passesBy 32 = .ok (.iload_n 1, 1) := by decide +kernel
theorem dX5_passesBy_33 : decode cX5_passesBy 33 = .ok (.iaload, 1) := by decide +kernel
theorem dX5_passesBy_34 : decode cX5_passesBy 34 = .ok (.iload_n 3, 1) := by decide +kernel
theorem dX5_passesBy_35 : decode cX5_passesBy 35 = .ok (.invokevirtual 218, 3) := by decide +kernel
theorem dX5_passesBy_38 : decode cX5_passesBy 38 = .ok (.if_icmp .ne 7, 3) := by decide +kernel
theorem dX5_passesBy_41 : decode cX5_passesBy 41 = .ok (.iconst 1, 1) := by decide +kernel
theorem dX5_passesBy_42 : decode cX5_passesBy 42 = .ok (.goto 4, 3) := by decide +kernel
theorem dX5_passesBy_45 : decode cX5_passesBy 45 = .ok (.iconst 0, 1) := by decide +kernel
theorem dX5_passesBy_46 : decode cX5_passesBy 46 = .ok (.ireturn, 1) := by decide +kernel
theorem dX5_passingInks_0 : decode cX5_passingInks 0 = .ok (.iconst 0, 1) := by decide +kernel
theorem dX5_passingInks_1 : decode cX5_passingInks 1 = .ok (.istore_n 3, 1) := by decide +kernel
theorem dX5_passingInks_2 : decode cX5_passingInks 2 = .ok (.iconst 0, 1) := by decide +kernel
theorem dX5_passingInks_3 : decode cX5_passingInks 3 = .ok (.istore 4, 2) := by decide +kernel
theorem dX5_passingInks_5 : decode cX5_passingInks 5 = .ok (.iload 4, 2) := by decide +kernel
theorem dX5_passingInks_7 : decode cX5_passingInks 7 = .ok (.aload_n 0, 1) := by decide +kernel
theorem dX5_passingInks_8 : decode cX5_passingInks 8 = .ok (.getfield 23, 3) := by decide +kernel
theorem dX5_passingInks_11 : decode cX5_passingInks 11 = .ok (.getfield 242, 3) := by decide +kernel
theorem dX5_passingInks_14 : decode cX5_passingInks 14 = .ok (.if_icmp .ge 27, 3) := by decide +kernel
theorem dX5_passingInks_17 : decode cX5_passingInks 17 = .ok (.aload_n 0, 1) := by decide +kernel
theorem dX5_passingInks_18 : decode cX5_passingInks 18 = .ok (.iload_n 1, 1) := by decide +kernel
theorem dX5_passingInks_19 : decode cX5_passingInks 19 = .ok (.iload 4, 2) := by decide +kernel
theorem dX5_passingInks_21 : decode cX5_passingInks 21 = .ok (.iload_n 2, 1) := by decide +kernel
theorem dX5_passingInks_22 : decode cX5_passingInks 22 = .ok (.invokevirtual 215, 3) := by decide +kernel
theorem dX5_passingInks_25 : decode cX5_passingInks 25 = .ok (.ifCond .eq 10, 3) := by decide +kernel
theorem dX5_passingInks_28 : decode cX5_passingInks 28 = .ok (.iload_n 3, 1) := by decide +kernel
theorem dX5_passingInks_29 : decode cX5_passingInks 29 = .ok (.iconst 1, 1) := by decide +kernel
theorem dX5_passingInks_30 : decode cX5_passingInks 30 = .ok (.iload 4, 2) := by decide +kernel
theorem dX5_passingInks_32 : decode cX5_passingInks 32 = .ok (.ishl, 1) := by decide +kernel
theorem dX5_passingInks_33 : decode cX5_passingInks 33 = .ok (.ior, 1) := by decide +kernel
theorem dX5_passingInks_34 : decode cX5_passingInks 34 = .ok (.istore_n 3, 1) := by decide +kernel
theorem dX5_passingInks_35 : decode cX5_passingInks 35 = .ok (.iinc 4 1, 3) := by decide +kernel
theorem dX5_passingInks_38 : decode cX5_passingInks 38 = .ok (.goto (-33), 3) := by decide +kernel
theorem dX5_passingInks_41 : decode cX5_passingInks 41 = .ok (.iload_n 3, 1) := by decide +kernel
theorem dX5_passingInks_42 : decode cX5_passingInks 42 = .ok (.ireturn, 1) := by decide +kernel
theorem dX5_totalByLaw_0 : decode cX5_totalByLaw 0 = .ok (.aload_n 0, 1) := by decide +kernel
theorem dX5_totalByLaw_1 : decode cX5_totalByLaw 1 = .ok (.getfield 26, 3) := by decide +kernel
theorem dX5_totalByLaw_4 : decode cX5_totalByLaw 4 = .ok (.aload_n 0, 1) := by decide +kernel
theorem dX5_totalByLaw_5 : decode cX5_totalByLaw 5 = .ok (.getfield 23, 3) := by decide +kernel
theorem dX5_totalByLaw_8 : decode cX5_totalByLaw 8 = .ok (.invokevirtual 96, 3) := by decide +kernel
theorem dX5_totalByLaw_11 : decode cX5_totalByLaw 11 = .ok (.aload_n 0, 1) := by decide +kernel
theorem dX5_totalByLaw_12 : decode cX5_totalByLaw 12 = .ok (.getfield 26, 3) := by decide +kernel
theorem dX5_totalByLaw_15 : decode cX5_totalByLaw 15 = .ok (.iload_n 1, 1) := by decide +kernel
theorem dX5_totalByLaw_16 : decode cX5_totalByLaw 16 = .ok (.putfield 249, 3) := by decide +kernel
theorem dX5_totalByLaw_19 : decode cX5_totalByLaw 19 = .ok (.aload_n 0, 1) := by decide +kernel
theorem dX5_totalByLaw_20 : decode cX5_totalByLaw 20 = .ok (.getfield 36, 3) := by decide +kernel
theorem dX5_totalByLaw_23 : decode cX5_totalByLaw 23 = .ok (.aload_n 0, 1) := by decide +kernel
theorem dX5_totalByLaw_24 : decode cX5_totalByLaw 24 = .ok (.getfield 26, 3) := by decide +kernel
theorem dX5_totalByLaw_27 : decode cX5_totalByLaw 27 = .ok (.iconst 0, 1) := by decide +kernel
theorem dX5_totalByLaw_28 : decode cX5_totalByLaw 28 = .ok (.invokevirtual 99, 3) := by decide +kernel
theorem dX5_totalByLaw_31 : decode cX5_totalByLaw 31 = .ok (.aload_n 0, 1) := by decide +kernel
theorem dX5_totalByLaw_32 : decode cX5_totalByLaw 32 = .ok (.getfield 36, 3) := by decide +kernel
theorem dX5_totalByLaw_35 : decode cX5_totalByLaw 35 = .ok (.aload_n 0, 1) := by decide +kernel
theorem dX5_totalByLaw_36 : decode cX5_totalByLaw 36 = .ok (.getfield 26, 3) := by decide +kernel
theorem dX5_totalByLaw_39 : decode cX5_totalByLaw 39 = .ok (.aload_n 0, 1) := by decide +kernel
theorem dX5_totalByLaw_40 : decode cX5_totalByLaw 40 = .ok (.getfield 23, 3) := by decide +kernel
theorem dX5_totalByLaw_43 : decode cX5_totalByLaw 43 = .ok (.getfield 175, 3) := by decide +kernel
theorem dX5_totalByLaw_46 : decode cX5_totalByLaw 46 = .ok (.invokevirtual 196, 3) := by decide +kernel
theorem dX5_totalByLaw_49 : decode cX5_totalByLaw 49 = .ok (.ireturn, 1) := by decide +kernel
theorem dX5_refusedSeen_0 : decode cX5_refusedSeen 0 = .ok (.aload_n 0, 1) := by decide +kernel
theorem dX5_refusedSeen_1 : decode cX5_refusedSeen 1 = .ok (.iload_n 1, 1) := by decide +kernel
theorem dX5_refusedSeen_2 : decode cX5_refusedSeen 2 = .ok (.invokevirtual 317, 3) := by decide +kernel
theorem dX5_refusedSeen_5 : decode cX5_refusedSeen 5 = .ok (.ifCond .ne 10, 3) := by decide +kernel
theorem dX5_refusedSeen_8 : decode cX5_refusedSeen 8 = .ok (.aload_n 0, 1) := by decide +kernel
theorem dX5_refusedSeen_9 : decode cX5_refusedSeen 9 = .ok (.invokevirtual 155, 3) := by decide +kernel
theorem dX5_refusedSeen_12 : decode cX5_refusedSeen 12 = .ok (.ifCond .eq 6, 3) := by decide +kernel
theorem dX5_refusedSeen_15 : decode cX5_refusedSeen 15 = .ok (.bipush (-2), 2) := by decide +kernel
theorem dX5_refusedSeen_17 : decode cX5_refusedSeen 17 = .ok (.ireturn, 1) := by decide +kernel
theorem dX5_refusedSeen_18 : decode cX5_refusedSeen 18 = .ok (.aload_n 0, 1) := by decide +kernel
theorem dX5_refusedSeen_19 : decode cX5_refusedSeen 19 = .ok (.getfield 49, 3) := by decide +kernel
theorem dX5_refusedSeen_22 : decode cX5_refusedSeen 22 = .ok (.iload_n 1, 1) := by decide +kernel
theorem dX5_refusedSeen_23 : decode cX5_refusedSeen 23 = .ok (.aaload, 1) := by decide +kernel
theorem dX5_refusedSeen_24 : decode cX5_refusedSeen 24 = .ok (.getfield 324, 3) := by decide +kernel
theorem dX5_refusedSeen_27 : decode cX5_refusedSeen 27 = .ok (.ifCond .ne 6, 3) := by decide +kernel
theorem dX5_refusedSeen_30 : decode cX5_refusedSeen 30 = .ok (.bipush (-6), 2) := by decide +kernel
theorem dX5_refusedSeen_32 : decode cX5_refusedSeen 32 = .ok (.ireturn, 1) := by decide +kernel
theorem dX5_refusedSeen_33 : decode cX5_refusedSeen 33 = .ok (.aload_n 0, 1) := by decide +kernel
theorem dX5_refusedSeen_34 : decode cX5_refusedSeen 34 = .ok (.aload_n 0, 1) := by decide +kernel
theorem dX5_refusedSeen_35 : decode cX5_refusedSeen 35 = .ok (.getfield 49, 3) := by decide +kernel
theorem dX5_refusedSeen_38 : decode cX5_refusedSeen 38 = .ok (.iload_n 1, 1) := by decide +kernel
theorem dX5_refusedSeen_39 : decode cX5_refusedSeen 39 = .ok (.aaload, 1) := by decide +kernel
theorem dX5_refusedSeen_40 : decode cX5_refusedSeen 40 = .ok (.invokevirtual 355, 3) := by decide +kernel
theorem dX5_refusedSeen_43 : decode cX5_refusedSeen 43 = .ok (.ifCond .eq 7, 3) := by decide +kernel
theorem dX5_refusedSeen_46 : decode cX5_refusedSeen 46 = .ok (.iconst 0, 1) := by decide +kernel
theorem dX5_refusedSeen_47 : decode cX5_refusedSeen 47 = .ok (.goto 5, 3) := by decide +kernel
theorem dX5_refusedSeen_50 : decode cX5_refusedSeen 50 = .ok (.bipush (-2), 2) := by decide +kernel
theorem dX5_refusedSeen_52 : decode cX5_refusedSeen 52 = .ok (.ireturn, 1) := by decide +kernel
theorem dX5_isSound_0 : decode cX5_isSound 0 = .ok (.aload_n 1, 1) := by decide +kernel
theorem dX5_isSound_1 : decode cX5_isSound 1 = .ok (.getfield 328, 3) := by decide +kernel
theorem dX5_isSound_4 : decode cX5_isSound 4 = .ok (.iconst 3, 1) := by decide +kernel
theorem dX5_isSound_5 : decode cX5_isSound 5 = .ok (.irem, 1) := by decide +kernel
theorem dX5_isSound_6 : decode cX5_isSound 6 = .ok (.ifCond .eq 5, 3) := by decide +kernel
theorem dX5_isSound_9 : decode cX5_isSound 9 = .ok (.iconst 0, 1) := by decide +kernel
theorem dX5_isSound_10 : decode cX5_isSound 10 = .ok (.ireturn, 1) := by decide +kernel
theorem dX5_isSound_11 : decode cX5_isSound 11 = .ok (.iconst 0, 1) := by decide +kernel
theorem dX5_isSound_12 : decode cX5_isSound 12 = .ok (.istore_n 2, 1) := by decide +kernel
theorem dX5_isSound_13 : decode cX5_isSound 13 = .ok (.iload_n 2, 1) := by decide +kernel
theorem dX5_isSound_14 : decode cX5_isSound 14 = .ok (.iconst 2, 1) := by decide +kernel
theorem dX5_isSound_15 : decode cX5_isSound 15 = .ok (.iadd, 1) := by decide +kernel
theorem dX5_isSound_16 : decode cX5_isSound 16 = .ok (.aload_n 1, 1) := by decide +kernel
theorem dX5_isSound_17 : decode cX5_isSound 17 = .ok (.getfield 328, 3) := by decide +kernel
theorem dX5_isSound_20 : decode cX5_isSound 20 = .ok (.if_icmp .ge 101, 3) := by decide +kernel
theorem dX5_isSound_23 : decode cX5_isSound 23 = .ok (.aload_n 1, 1) := by decide +kernel
theorem dX5_isSound_24 : decode cX5_isSound 24 = .ok (.getfield 341, 3) := by decide +kernel
theorem dX5_isSound_27 : decode cX5_isSound 27 = .ok (.iload_n 2, 1) := by decide +kernel
theorem dX5_isSound_28 : decode cX5_isSound 28 = .ok (.laload, 1) := by decide +kernel
theorem dX5_isSound_29 : decode cX5_isSound 29 = .ok (.lconst 0, 1) := by decide +kernel
theorem dX5_isSound_30 : decode cX5_isSound 30 = .ok (.lcmp, 1) := by decide +kernel
theorem dX5_isSound_31 : decode cX5_isSound 31 = .ok (.ifCond .lt 82, 3) := by decide +kernel
theorem dX5_isSound_34 : decode cX5_isSound 34 = .ok (.aload_n 1, 1) := by decide +kernel
theorem dX5_isSound_35 : decode cX5_isSound 35 = .ok (.getfield 341, 3) := by decide +kernel
theorem dX5_isSound_38 : decode cX5_isSound 38 = .ok (.iload_n 2, 1) := by decide +kernel
theorem dX5_isSound_39 : decode cX5_isSound 39 = .ok (.laload, 1) := by decide +kernel
theorem dX5_isSound_40 : decode cX5_isSound 40 = .ok (.aload_n 0, 1) := by decide +kernel
theorem dX5_isSound_41 : decode cX5_isSound 41 = .ok (.getfield 23, 3) := by decide +kernel
theorem dX5_isSound_44 : decode cX5_isSound 44 = .ok (.getfield 159, 3) := by decide +kernel
theorem dX5_isSound_47 : decode cX5_isSound 47 = .ok (.i2l, 1) := by decide +kernel
theorem dX5_isSound_48 : decode cX5_isSound 48 = .ok (.lcmp, 1) := by decide +kernel
theorem dX5_isSound_49 : decode cX5_isSound 49 = .ok (.ifCond .ge 64, 3) := by decide +kernel
theorem dX5_isSound_52 : decode cX5_isSound 52 = .ok (.aload_n 1, 1) := by decide +kernel
theorem dX5_isSound_53 : decode cX5_isSound 53 = .ok (.getfield 341, 3) := by decide +kernel
theorem dX5_isSound_56 : decode cX5_isSound 56 = .ok (.iload_n 2, 1) := by decide +kernel
theorem dX5_isSound_57 : decode cX5_isSound 57 = .ok (.iconst 1, 1) := by decide +kernel
theorem dX5_isSound_58 : decode cX5_isSound 58 = .ok (.iadd, 1) := by decide +kernel
theorem dX5_isSound_59 : decode cX5_isSound 59 = .ok (.laload, 1) := by decide +kernel
theorem dX5_isSound_60 : decode cX5_isSound 60 = .ok (.lconst 0, 1) := by decide +kernel
theorem dX5_isSound_61 : decode cX5_isSound 61 = .ok (.lcmp, 1) := by decide +kernel
theorem dX5_isSound_62 : decode cX5_isSound 62 = .ok (.ifCond .lt 51, 3) := by decide +kernel
theorem dX5_isSound_65 : decode cX5_isSound 65 = .ok (.aload_n 1, 1) := by decide +kernel
theorem dX5_isSound_66 : decode cX5_isSound 66 = .ok (.getfield 341, 3) := by decide +kernel
theorem dX5_isSound_69 : decode cX5_isSound 69 = .ok (.iload_n 2, 1) := by decide +kernel
theorem dX5_isSound_70 : decode cX5_isSound 70 = .ok (.iconst 1, 1) := by decide +kernel
theorem dX5_isSound_71 : decode cX5_isSound 71 = .ok (.iadd, 1) := by decide +kernel
theorem dX5_isSound_72 : decode cX5_isSound 72 = .ok (.laload, 1) := by decide +kernel
theorem dX5_isSound_73 : decode cX5_isSound 73 = .ok (.aload_n 0, 1) := by decide +kernel
theorem dX5_isSound_74 : decode cX5_isSound 74 = .ok (.getfield 23, 3) := by decide +kernel
theorem dX5_isSound_77 : decode cX5_isSound 77 = .ok (.getfield 175, 3) := by decide +kernel
theorem dX5_isSound_80 : decode cX5_isSound 80 = .ok (.i2l, 1) := by decide +kernel
theorem dX5_isSound_81 : decode cX5_isSound 81 = .ok (.lcmp, 1) := by decide +kernel
theorem dX5_isSound_82 : decode cX5_isSound 82 = .ok (.ifCond .gt 31, 3) := by decide +kernel
theorem dX5_isSound_85 : decode cX5_isSound 85 = .ok (.aload_n 1, 1) := by decide +kernel
theorem dX5_isSound_86 : decode cX5_isSound 86 = .ok (.getfield 341, 3) := by decide +kernel
theorem dX5_isSound_89 : decode cX5_isSound 89 = .ok (.iload_n 2, 1) := by decide +kernel
theorem dX5_isSound_90 : decode cX5_isSound 90 = .ok (.iconst 2, 1) := by decide +kernel
theorem dX5_isSound_91 : decode cX5_isSound 91 = .ok (.iadd, 1) := by decide +kernel
theorem dX5_isSound_92 : decode cX5_isSound 92 = .ok (.laload, 1) := by decide +kernel
theorem dX5_isSound_93 : decode cX5_isSound 93 = .ok (.lconst 0, 1) := by decide +kernel
theorem dX5_isSound_94 : decode cX5_isSound 94 = .ok (.lcmp, 1) := by decide +kernel
theorem dX5_isSound_95 : decode cX5_isSound 95 = .ok (.ifCond .lt 18, 3) := by decide +kernel
theorem dX5_isSound_98 : decode cX5_isSound 98 = .ok (.aload_n 1, 1) := by decide +kernel
theorem dX5_isSound_99 : decode cX5_isSound 99 = .ok (.getfield 341, 3) := by decide +kernel
theorem dX5_isSound_102 : decode cX5_isSound 102 = .ok (.iload_n 2, 1) := by decide +kernel
theorem dX5_isSound_103 : decode cX5_isSound 103 = .ok (.iconst 2, 1) := by decide +kernel
theorem dX5_isSound_104 : decode cX5_isSound 104 = .ok (.iadd, 1) := by decide +kernel
theorem dX5_isSound_105 : decode cX5_isSound 105 = .ok (.laload, 1) := by decide +kernel
theorem dX5_isSound_106 : decode cX5_isSound 106 = .ok (.ldc2_w 358, 3) := by decide +kernel
theorem dX5_isSound_109 : decode cX5_isSound 109 = .ok (.lcmp, 1) := by decide +kernel
theorem dX5_isSound_110 : decode cX5_isSound 110 = .ok (.ifCond .le 5, 3) := by decide +kernel
theorem dX5_isSound_113 : decode cX5_isSound 113 = .ok (.iconst 0, 1) := by decide +kernel
theorem dX5_isSound_114 : decode cX5_isSound 114 = .ok (.ireturn, 1) := by decide +kernel
theorem dX5_isSound_115 : decode cX5_isSound 115 = .ok (.iinc 2 3, 3) := by decide +kernel
theorem dX5_isSound_118 : decode cX5_isSound 118 = .ok (.goto (-105), 3) := by decide +kernel
theorem dX5_isSound_121 : decode cX5_isSound 121 = .ok (.iconst 1, 1) := by decide +kernel
theorem dX5_isSound_122 : decode cX5_isSound 122 = .ok (.ireturn, 1) := by decide +kernel
theorem dX5_fits_0 : decode cX5_fits 0 = .ok (.iconst 0, 1) := by decide +kernel
theorem dX5_fits_1 : decode cX5_fits 1 = .ok (.istore_n 2, 1) := by decide +kernel
theorem dX5_fits_2 : decode cX5_fits 2 = .ok (.iload_n 2, 1) := by decide +kernel
theorem dX5_fits_3 : decode cX5_fits 3 = .ok (.iconst 2, 1) := by decide +kernel
theorem dX5_fits_4 : decode cX5_fits 4 = .ok (.iadd, 1) := by decide +kernel
theorem dX5_fits_5 : decode cX5_fits 5 = .ok (.aload_n 1, 1) := by decide +kernel
theorem dX5_fits_6 : decode cX5_fits 6 = .ok (.getfield 328, 3) := by decide +kernel
theorem dX5_fits_9 : decode cX5_fits 9 = .ok (.if_icmp .ge 49, 3) := by decide +kernel
theorem dX5_fits_12 : decode cX5_fits 12 = .ok (.aload_n 0, 1) := by decide +kernel
theorem dX5_fits_13 : decode cX5_fits 13 = .ok (.getfield 36, 3) := by decide +kernel
theorem dX5_fits_16 : decode cX5_fits 16 = .ok (.getfield 169, 3) := by decide +kernel
theorem dX5_fits_19 : decode cX5_fits 19 = .ok (.aload_n 1, 1) := by decide +kernel
theorem dX5_fits_20 : decode cX5_fits 20 = .ok (.getfield 341, 3) := by decide +kernel
theorem dX5_fits_23 : decode cX5_fits 23 = .ok (.iload_n 2, 1) := by decide +kernel
theorem dX5_fits_24 : decode cX5_fits 24 = .ok (.iconst 1, 1) := by decide +kernel
theorem dX5_fits_25 : decode cX5_fits 25 = .ok (.iadd, 1) := by decide +kernel
theorem dX5_fits_26 : decode cX5_fits 26 = .ok (.laload, 1) := by decide +kernel
theorem dX5_fits_27 : decode cX5_fits 27 = .ok (.l2i, 1) := by decide +kernel
theorem dX5_fits_28 : decode cX5_fits 28 = .ok (.aaload, 1) := by decide +kernel
theorem dX5_fits_29 : decode cX5_fits 29 = .ok (.aload_n 1, 1) := by decide +kernel
theorem dX5_fits_30 : decode cX5_fits 30 = .ok (.getfield 341, 3) := by decide +kernel
theorem dX5_fits_33 : decode cX5_fits 33 = .ok (.iload_n 2, 1) := by decide +kernel
theorem dX5_fits_34 : decode cX5_fits 34 = .ok (.laload, 1) := by decide +kernel
theorem dX5_fits_35 : decode cX5_fits 35 = .ok (.l2i, 1) := by decide +kernel
theorem dX5_fits_36 : decode cX5_fits 36 = .ok (.iaload, 1) := by decide +kernel
theorem dX5_fits_37 : decode cX5_fits 37 = .ok (.i2l, 1) := by decide +kernel
theorem dX5_fits_38 : decode cX5_fits 38 = .ok (.aload_n 1, 1) := by decide +kernel
theorem dX5_fits_39 : decode cX5_fits 39 = .ok (.getfield 341, 3) := by decide +kernel
theorem dX5_fits_42 : decode cX5_fits 42 = .ok (.iload_n 2, 1) := by decide +kernel
theorem dX5_fits_43 : decode cX5_fits 43 = .ok (.iconst 2, 1) := by decide +kernel
theorem dX5_fits_44 : decode cX5_fits 44 = .ok (.iadd, 1) := by decide +kernel
theorem dX5_fits_45 : decode cX5_fits 45 = .ok (.laload, 1) := by decide +kernel
theorem dX5_fits_46 : decode cX5_fits 46 = .ok (.lcmp, 1) := by decide +kernel
theorem dX5_fits_47 : decode cX5_fits 47 = .ok (.ifCond .eq 5, 3) := by decide +kernel
theorem dX5_fits_50 : decode cX5_fits 50 = .ok (.iconst 0, 1) := by decide +kernel
theorem dX5_fits_51 : decode cX5_fits 51 = .ok (.ireturn, 1) := by decide +kernel
theorem dX5_fits_52 : decode cX5_fits 52 = .ok (.iinc 2 3, 3) := by decide +kernel
theorem dX5_fits_55 : decode cX5_fits 55 = .ok (.goto (-53), 3) := by decide +kernel
theorem dX5_fits_58 : decode cX5_fits 58 = .ok (.iconst 1, 1) := by decide +kernel
theorem dX5_fits_59 : decode cX5_fits 59 = .ok (.ireturn, 1) := by decide +kernel
theorem dX5_fittingYears_0 : decode cX5_fittingYears 0 = .ok (.iconst 0, 1) := by decide +kernel
theorem dX5_fittingYears_1 : decode cX5_fittingYears 1 = .ok (.istore_n 3, 1) := by decide +kernel
theorem dX5_fittingYears_2 : decode cX5_fittingYears 2 = .ok (.aload_n 0, 1) := by decide +kernel
theorem dX5_fittingYears_3 : decode cX5_fittingYears 3 = .ok (.getfield 26, 3) := by decide +kernel
theorem dX5_fittingYears_6 : decode cX5_fittingYears 6 = .ok (.aload_n 0, 1) := by decide +kernel
theorem dX5_fittingYears_7 : decode cX5_fittingYears 7 = .ok (.getfield 23, 3) := by decide +kernel
theorem dX5_fittingYears_10 : decode cX5_fittingYears 10 = .ok (.invokevirtual 96, 3) := by decide +kernel
theorem dX5_fittingYears_13 : decode cX5_fittingYears 13 = .ok (.iconst 0, 1) := by decide +kernel
theorem dX5_fittingYears_14 : decode cX5_fittingYears 14 = .ok (.istore 4, 2) := by decide +kernel
theorem dX5_fittingYears_16 : decode cX5_fittingYears 16 = .ok (.iload 4, 2) := by decide +kernel
theorem dX5_fittingYears_18 : decode cX5_fittingYears 18 = .ok (.aload_n 0, 1) := by decide +kernel
theorem dX5_fittingYears_19 : decode cX5_fittingYears 19 = .ok (.getfield 23, 3) := by decide +kernel
theorem dX5_fittingYears_22 : decode cX5_fittingYears 22 = .ok (.getfield 175, 3) := by decide +kernel
theorem dX5_fittingYears_25 : decode cX5_fittingYears 25 = .ok (.if_icmp .gt 95, 3) := by decide +kernel
theorem dX5_fittingYears_28 : decode cX5_fittingYears 28 = .ok (.aload_n 0, 1) := by decide +kernel
theorem dX5_fittingYears_29 : decode cX5_fittingYears 29 = .ok (.getfield 26, 3) := by decide +kernel
theorem dX5_fittingYears_32 : decode cX5_fittingYears 32 = .ok (.getfield 134, 3) := by decide +kernel
theorem dX5_fittingYears_35 : decode cX5_fittingYears 35 = .ok (.iload_n 2, 1) := by decide +kernel
theorem dX5_fittingYears_36 : decode cX5_fittingYears 36 = .ok (.iload 4, 2) := by decide +kernel
theorem dX5_fittingYears_38 : decode cX5_fittingYears 38 = .ok (.iastore, 1) := by decide +kernel
theorem dX5_fittingYears_39 : decode cX5_fittingYears 39 = .ok (.aload_n 0, 1) := by decide +kernel
theorem dX5_fittingYears_40 : decode cX5_fittingYears 40 = .ok (.getfield 36, 3) := by decide +kernel
theorem dX5_fittingYears_43 : decode cX5_fittingYears 43 = .ok (.aload_n 0, 1) := by decide +kernel
theorem dX5_fittingYears_44 : decode cX5_fittingYears 44 = .ok (.getfield 26, 3) := by decide +kernel
theorem dX5_fittingYears_47 : decode cX5_fittingYears 47 = .ok (.iconst 0, 1) := by decide +kernel
theorem dX5_fittingYears_48 : decode cX5_fittingYears 48 = .ok (.invokevirtual 99, 3) := by decide +kernel
theorem dX5_fittingYears_51 : decode cX5_fittingYears 51 = .ok (.iconst 0, 1) := by decide +kernel
theorem dX5_fittingYears_52 : decode cX5_fittingYears 52 = .ok (.istore 5, 2) := by decide +kernel
theorem dX5_fittingYears_54 : decode cX5_fittingYears 54 = .ok (.iload 5, 2) := by decide +kernel
theorem dX5_fittingYears_56 : decode cX5_fittingYears 56 = .ok (.aload_n 0, 1) := by decide +kernel
theorem dX5_fittingYears_57 : decode cX5_fittingYears 57 = .ok (.getfield 23, 3) := by decide +kernel
theorem dX5_fittingYears_60 : decode cX5_fittingYears 60 = .ok (.getfield 175, 3) := by decide +kernel
theorem dX5_fittingYears_63 : decode cX5_fittingYears 63 = .ok (.if_icmp .gt 31, 3) := by decide +kernel
theorem dX5_fittingYears_66 : decode cX5_fittingYears 66 = .ok (.aload_n 0, 1) := by decide +kernel
theorem dX5_fittingYears_67 : decode cX5_fittingYears 67 = .ok (.getfield 55, 3) := by decide +kernel
theorem dX5_fittingYears_70 : decode cX5_fittingYears 70 = .ok (.iload 4, 2) := by decide +kernel
theorem dX5_fittingYears_72 : decode cX5_fittingYears 72 = .ok (.aaload, 1) := by decide +kernel
theorem dX5_fittingYears_73 : decode cX5_fittingYears 73 = .ok (.iload 5, 2) := by decide +kernel
theorem dX5_fittingYears_75 : decode cX5_fittingYears 75 = .ok (.aload_n 0, 1) := by decide +kernel
theorem dX5_fittingYears_76 : decode cX5_fittingYears 76 = .ok (.getfield 36, 3) := by decide +kernel
theorem dX5_fittingYears_79 : decode cX5_fittingYears 79 = .ok (.getfield 169, 3) := by decide +kernel
theorem dX5_fittingYears_82 : decode cX5_fittingYears 82 = .ok (.iload 5, 2) := by decide +kernel
theorem dX5_fittingYears_84 : decode cX5_fittingYears 84 = .ok (.aaload, 1) := by decide +kernel
theorem dX5_fittingYears_85 : decode cX5_fittingYears 85 = .ok (.iload_n 2, 1) := by decide +kernel
theorem dX5_fittingYears_86 : decode cX5_fittingYears 86 = .ok (.iaload, 1) := by decide +kernel
theorem dX5_fittingYears_87 : decode cX5_fittingYears 87 = .ok (.iastore, 1) := by decide +kernel
theorem dX5_fittingYears_88 : decode cX5_fittingYears 88 = .ok (.iinc 5 1, 3) := by decide +kernel
theorem dX5_fittingYears_91 : decode cX5_fittingYears 91 = .ok (.goto (-37), 3) := by decide +kernel
theorem dX5_fittingYears_94 : decode cX5_fittingYears 94 = .ok (.aload_n 0, 1) := by decide +kernel
theorem dX5_fittingYears_95 : decode cX5_fittingYears 95 = .ok (.aload_n 0, 1) := by decide +kernel
theorem dX5_fittingYears_96 : decode cX5_fittingYears 96 = .ok (.getfield 49, 3) := by decide +kernel
theorem dX5_fittingYears_99 : decode cX5_fittingYears 99 = .ok (.iload_n 1, 1) := by decide +kernel
theorem dX5_fittingYears_100 : decode cX5_fittingYears 100 = .ok (.aaload, 1) := by decide +kernel
theorem dX5_fittingYears_101 : decode cX5_fittingYears 101 = .ok (.invokevirtual 245, 3) := by decide +kernel
theorem dX5_fittingYears_104 : decode cX5_fittingYears 104 = .ok (.ifCond .eq 10, 3) := by decide +kernel
theorem dX5_fittingYears_107 : decode cX5_fittingYears 107 = .ok (.iload_n 3, 1) := by decide +kernel
theorem dX5_fittingYears_108 : decode cX5_fittingYears 108 = .ok (.iconst 1, 1) := by decide +kernel
theorem dX5_fittingYears_109 : decode cX5_fittingYears 109 = .ok (.iload 4, 2) := by decide +kernel
theorem dX5_fittingYears_111 : decode cX5_fittingYears 111 = .ok (.ishl, 1) := by decide +kernel
theorem dX5_fittingYears_112 : decode cX5_fittingYears 112 = .ok (.ior, 1) := by decide +kernel
theorem dX5_fittingYears_113 : decode cX5_fittingYears 113 = .ok (.istore_n 3, 1) := by decide +kernel
theorem dX5_fittingYears_114 : decode cX5_fittingYears 114 = .ok (.iinc 4 1, 3) := by decide +kernel
theorem dX5_fittingYears_117 : decode cX5_fittingYears 117 = .ok (.goto (-101), 3) := by decide +kernel
theorem dX5_fittingYears_120 : decode cX5_fittingYears 120 = .ok (.iload_n 3, 1) := by decide +kernel
theorem dX5_fittingYears_121 : decode cX5_fittingYears 121 = .ok (.ireturn, 1) := by decide +kernel
theorem dX5_bestQuestion_0 : decode cX5_bestQuestion 0 = .ok (.iconst (-1), 1) := by decide +kernel
theorem dX5_bestQuestion_1 : decode cX5_bestQuestion 1 = .ok (.istore_n 2, 1) := by decide +kernel
theorem dX5_bestQuestion_2 : decode cX5_bestQuestion 2 = .ok (.iload_n 1, 1) := by decide +kernel
theorem dX5_bestQuestion_3 : decode cX5_bestQuestion 3 = .ok (.invokestatic 228, 3) := by decide +kernel
theorem dX5_bestQuestion_6 : decode cX5_bestQuestion 6 = .ok (.istore_n 3, 1) := by decide +kernel
theorem dX5_bestQuestion_7 : decode cX5_bestQuestion 7 = .ok (.iconst 0, 1) := by decide +kernel
theorem dX5_bestQuestion_8 : decode cX5_bestQuestion 8 = .ok (.istore 4, 2) := by decide +kernel
theorem dX5_bestQuestion_10 : decode cX5_bestQuestion 10 = .ok (.iload 4, 2) := by decide +kernel
theorem dX5_bestQuestion_12 : decode cX5_bestQuestion 12 = .ok (.aload_n 0, 1) := by decide +kernel
theorem dX5_bestQuestion_13 : decode cX5_bestQuestion 13 = .ok (.getfield 23, 3) := by decide +kernel
theorem dX5_bestQuestion_16 : decode cX5_bestQuestion 16 = .ok (.getfield 175, 3) := by decide +kernel
theorem dX5_bestQuestion_19 : decode cX5_bestQuestion 19 = .ok (.if_icmp .gt 30, 3) := by decide +kernel
theorem dX5_bestQuestion_22 : decode cX5_bestQuestion 22 = .ok (.aload_n 0, 1) := by decide +kernel
theorem dX5_bestQuestion_23 : decode cX5_bestQuestion 23 = .ok (.iload_n 1, 1) := by decide +kernel
theorem dX5_bestQuestion_24 : decode cX5_bestQuestion 24 = .ok (.iload 4, 2) := by decide +kernel
theorem dX5_bestQuestion_26 : decode cX5_bestQuestion 26 = .ok (.invokevirtual 239, 3) := by decide +kernel
theorem dX5_bestQuestion_29 : decode cX5_bestQuestion 29 = .ok (.istore 5, 2) := by decide +kernel
theorem dX5_bestQuestion_31 : decode cX5_bestQuestion 31 = .ok (.iload 5, 2) := by decide +kernel
theorem dX5_bestQuestion_33 : decode cX5_bestQuestion 33 = .ok (.iload_n 3, 1) := by decide +kernel
theorem dX5_bestQuestion_34 : decode cX5_bestQuestion 34 = .ok (.if_icmp .ge 9, 3) := by decide +kernel
theorem dX5_bestQuestion_37 : decode cX5_bestQuestion 37 = .ok (.iload 4, 2) := by decide +kernel
theorem dX5_bestQuestion_39 : decode cX5_bestQuestion 39 = .ok (.istore_n 2, 1) := by decide +kernel
theorem dX5_bestQuestion_40 : decode cX5_bestQuestion 40 = .ok (.iload 5, 2) := by decide +kernel
theorem dX5_bestQuestion_42 : decode cX5_bestQuestion 42 = .ok (.istore_n 3, 1) := by decide +kernel
theorem dX5_bestQuestion_43 : decode cX5_bestQuestion 43 = .ok (.iinc 4 1, 3) := by decide +kernel
theorem dX5_bestQuestion_46 : decode cX5_bestQuestion 46 = .ok (.goto (-36), 3) := by decide +kernel
theorem dX5_bestQuestion_49 : decode cX5_bestQuestion 49 = .ok (.iload_n 2, 1) := by decide +kernel
theorem dX5_bestQuestion_50 : decode cX5_bestQuestion 50 = .ok (.ireturn, 1) := by decide +kernel
theorem dX5_leftAtWorst_0 : decode cX5_leftAtWorst 0 = .ok (.iconst 0, 1) := by decide +kernel
theorem dX5_leftAtWorst_1 : decode cX5_leftAtWorst 1 = .ok (.istore_n 3, 1) := by decide +kernel
theorem dX5_leftAtWorst_2 : decode cX5_leftAtWorst 2 = .ok (.iload_n 3, 1) := by decide +kernel
theorem dX5_leftAtWorst_3 : decode cX5_leftAtWorst 3 = .ok (.bipush 60, 2) := by decide +kernel
theorem dX5_leftAtWorst_5 : decode cX5_leftAtWorst 5 = .ok (.if_icmp .gt 16, 3) := by decide +kernel
theorem dX5_leftAtWorst_8 : decode cX5_leftAtWorst 8 = .ok (.aload_n 0, 1) := by decide +kernel
theorem dX5_leftAtWorst_9 : decode cX5_leftAtWorst 9 = .ok (.getfield 58, 3) := by decide +kernel
theorem dX5_leftAtWorst_12 : decode cX5_leftAtWorst 12 = .ok (.iload_n 3, 1) := by decide +kernel
theorem dX5_leftAtWorst_13 : decode cX5_leftAtWorst 13 = .ok (.iconst 0, 1) := by decide +kernel
theorem dX5_leftAtWorst_14 : decode cX5_leftAtWorst 14 = .ok (.iastore, 1) := by decide +kernel
theorem dX5_leftAtWorst_15 : decode cX5_leftAtWorst 15 = .ok (.iinc 3 1, 3) := by decide +kernel
theorem dX5_leftAtWorst_18 : decode cX5_leftAtWorst 18 = .ok (.goto (-16), 3) := by decide +kernel
theorem dX5_leftAtWorst_21 : decode cX5_leftAtWorst 21 = .ok (.iconst 0, 1) := by decide +kernel
theorem dX5_leftAtWorst_22 : decode cX5_leftAtWorst 22 = .ok (.istore_n 3, 1) := by decide +kernel
theorem dX5_leftAtWorst_23 : decode cX5_leftAtWorst 23 = .ok (.iconst 0, 1) := by decide +kernel
theorem dX5_leftAtWorst_24 : decode cX5_leftAtWorst 24 = .ok (.istore 4, 2) := by decide +kernel
theorem dX5_leftAtWorst_26 : decode cX5_leftAtWorst 26 = .ok (.iload 4, 2) := by decide +kernel
theorem dX5_leftAtWorst_28 : decode cX5_leftAtWorst 28 = .ok (.aload_n 0, 1) := by decide +kernel
theorem dX5_leftAtWorst_29 : decode cX5_leftAtWorst 29 = .ok (.getfield 23, 3) := by decide +kernel
theorem dX5_leftAtWorst_32 : decode cX5_leftAtWorst 32 = .ok (.getfield 175, 3) := by decide +kernel
theorem dX5_leftAtWorst_35 : decode cX5_leftAtWorst 35 = .ok (.if_icmp .gt 52, 3) := by decide +kernel
theorem dX5_leftAtWorst_38 : decode cX5_leftAtWorst 38 = .ok (.iload_n 1, 1) := by decide +kernel
theorem dX5_leftAtWorst_39 : decode cX5_leftAtWorst 39 = .ok (.iload 4, 2) := by decide +kernel
theorem dX5_leftAtWorst_41 : decode cX5_leftAtWorst 41 = .ok (.invokestatic 233, 3) := by decide +kernel
theorem dX5_leftAtWorst_44 : decode cX5_leftAtWorst 44 = .ok (.ifCond .eq 37, 3) := by decide +kernel
theorem dX5_leftAtWorst_47 : decode cX5_leftAtWorst 47 = .ok (.aload_n 0, 1) := by decide +kernel
theorem dX5_leftAtWorst_48 : decode cX5_leftAtWorst 48 = .ok (.getfield 55, 3) := by decide +kernel
theorem dX5_leftAtWorst_51 : decode cX5_leftAtWorst 51 = .ok (.iload 4, 2) := by decide +kernel
theorem dX5_leftAtWorst_53 : decode cX5_leftAtWorst 53 = .ok (.aaload, 1) := by decide +kernel
theorem dX5_leftAtWorst_54 : decode cX5_leftAtWorst 54 = .ok (.iload_n 2, 1) := by decide +kernel
theorem dX5_leftAtWorst_55 : decode cX5_leftAtWorst 55 = .ok (.iaload, 1) := by decide +kernel
theorem dX5_leftAtWorst_56 : decode cX5_leftAtWorst 56 = .ok (.istore 5, 2) := by decide +kernel
theorem dX5_leftAtWorst_58 : decode cX5_leftAtWorst 58 = .ok (.aload_n 0, 1) := by decide +kernel
theorem dX5_leftAtWorst_59 : decode cX5_leftAtWorst 59 = .ok (.getfield 58, 3) := by decide +kernel
theorem dX5_leftAtWorst_62 : decode cX5_leftAtWorst 62 = .ok (.iload 5, 2) := by decide +kernel
theorem dX5_leftAtWorst_64 : decode cX5_leftAtWorst 64 = .ok (.dup2, 1) := by decide +kernel
theorem dX5_leftAtWorst_65 : decode cX5_leftAtWorst 65 = .ok (.iaload, 1) := by decide +kernel
theorem dX5_leftAtWorst_66 : decode cX5_leftAtWorst 66 = .ok (.iconst 1, 1) := by decide +kernel
theorem dX5_leftAtWorst_67 : decode cX5_leftAtWorst 67 = .ok (.iadd, 1) := by decide +kernel
theorem dX5_leftAtWorst_68 : decode cX5_leftAtWorst 68 = .ok (.iastore, 1) := by decide +kernel
theorem dX5_leftAtWorst_69 : decode cX5_leftAtWorst 69 = .ok (.iload_n 3, 1) := by decide +kernel
theorem dX5_leftAtWorst_70 : decode cX5_leftAtWorst 70 = .ok (.aload_n 0, 1) := by decide +kernel
theorem dX5_leftAtWorst_71 : decode cX5_leftAtWorst 71 = .ok (.getfield 58, 3) := by decide +kernel
theorem dX5_leftAtWorst_74 : decode cX5_leftAtWorst 74 = .ok (.iload 5, 2) := by decide +kernel
theorem dX5_leftAtWorst_76 : decode cX5_leftAtWorst 76 = .ok (.iaload, 1) := by decide +kernel
theorem dX5_leftAtWorst_77 : decode cX5_leftAtWorst 77 = .ok (.invokestatic 178, 3) := by decide +kernel
theorem dX5_leftAtWorst_80 : decode cX5_leftAtWorst 80 = .ok (.istore_n 3, 1) := by decide +kernel
theorem dX5_leftAtWorst_81 : decode cX5_leftAtWorst 81 = .ok (.iinc 4 1, 3) := by decide +kernel
theorem dX5_leftAtWorst_84 : decode cX5_leftAtWorst 84 = .ok (.goto (-58), 3) := by decide +kernel
theorem dX5_leftAtWorst_87 : decode cX5_leftAtWorst 87 = .ok (.iload_n 3, 1) := by decide +kernel
theorem dX5_leftAtWorst_88 : decode cX5_leftAtWorst 88 = .ok (.ireturn, 1) := by decide +kernel
theorem dX5_turn_0 : decode cX5_turn 0 = .ok (.aload_n 0, 1) := by decide +kernel
theorem dX5_turn_1 : decode cX5_turn 1 = .ok (.getfield 26, 3) := by decide +kernel
theorem dX5_turn_4 : decode cX5_turn 4 = .ok (.aload_n 0, 1) := by decide +kernel
theorem dX5_turn_5 : decode cX5_turn 5 = .ok (.getfield 23, 3) := by decide +kernel
theorem dX5_turn_8 : decode cX5_turn 8 = .ok (.invokevirtual 96, 3) := by decide +kernel
theorem dX5_turn_11 : decode cX5_turn 11 = .ok (.aload_n 0, 1) := by decide +kernel
theorem dX5_turn_12 : decode cX5_turn 12 = .ok (.getfield 26, 3) := by decide +kernel
theorem dX5_turn_15 : decode cX5_turn 15 = .ok (.getfield 122, 3) := by decide +kernel
theorem dX5_turn_18 : decode cX5_turn 18 = .ok (.iload_n 1, 1) := by decide +kernel
theorem dX5_turn_19 : decode cX5_turn 19 = .ok (.dup2, 1) := by decide +kernel
theorem dX5_turn_20 : decode cX5_turn 20 = .ok (.iaload, 1) := by decide +kernel
theorem dX5_turn_21 : decode cX5_turn 21 = .ok (.iload_n 3, 1) := by decide +kernel
theorem dX5_turn_22 : decode cX5_turn 22 = .ok (.iconst 1, 1) := by decide +kernel
theorem dX5_turn_23 : decode cX5_turn 23 = .ok (.iand, 1) := by decide +kernel
theorem dX5_turn_24 : decode cX5_turn 24 = .ok (.ixor, 1) := by decide +kernel
theorem dX5_turn_25 : decode cX5_turn 25 = .ok (.iastore, 1) := by decide +kernel
theorem dX5_turn_26 : decode cX5_turn 26 = .ok (.aload_n 0, 1) := by decide +kernel
theorem dX5_turn_27 : decode cX5_turn 27 = .ok (.getfield 26, 3) := by decide +kernel
theorem dX5_turn_30 : decode cX5_turn 30 = .ok (.getfield 122, 3) := by decide +kernel
theorem dX5_turn_33 : decode cX5_turn 33 = .ok (.iload_n 2, 1) := by decide +kernel
theorem dX5_turn_34 : decode cX5_turn 34 = .ok (.dup2, 1) := by decide +kernel
theorem dX5_turn_35 : decode cX5_turn 35 = .ok (.iaload, 1) := by decide +kernel
theorem dX5_turn_36 : decode cX5_turn 36 = .ok (.iload_n 3, 1) := by decide +kernel
theorem dX5_turn_37 : decode cX5_turn 37 = .ok (.iconst 1, 1) := by decide +kernel
theorem dX5_turn_38 : decode cX5_turn 38 = .ok (.ishr, 1) := by decide +kernel
theorem dX5_turn_39 : decode cX5_turn 39 = .ok (.ixor, 1) := by decide +kernel
theorem dX5_turn_40 : decode cX5_turn 40 = .ok (.iastore, 1) := by decide +kernel
theorem dX5_turn_41 : decode cX5_turn 41 = .ok (.aload_n 0, 1) := by decide +kernel
theorem dX5_turn_42 : decode cX5_turn 42 = .ok (.getfield 36, 3) := by decide +kernel
theorem dX5_turn_45 : decode cX5_turn 45 = .ok (.aload_n 0, 1) := by decide +kernel
theorem dX5_turn_46 : decode cX5_turn 46 = .ok (.getfield 26, 3) := by decide +kernel
theorem dX5_turn_49 : decode cX5_turn 49 = .ok (.iconst 0, 1) := by decide +kernel
theorem dX5_turn_50 : decode cX5_turn 50 = .ok (.invokevirtual 99, 3) := by decide +kernel
theorem dX5_turn_53 : decode cX5_turn 53 = .ok (.return_, 1) := by decide +kernel
theorem dX5_gain_0 : decode cX5_gain 0 = .ok (.iconst 3, 1) := by decide +kernel
theorem dX5_gain_1 : decode cX5_gain 1 = .ok (.aload_n 0, 1) := by decide +kernel
theorem dX5_gain_2 : decode cX5_gain 2 = .ok (.aload_n 0, 1) := by decide +kernel
theorem dX5_gain_3 : decode cX5_gain 3 = .ok (.getfield 36, 3) := by decide +kernel
theorem dX5_gain_6 : decode cX5_gain 6 = .ok (.aload_n 0, 1) := by decide +kernel
theorem dX5_gain_7 : decode cX5_gain 7 = .ok (.getfield 23, 3) := by decide +kernel
theorem dX5_gain_10 : decode cX5_gain 10 = .ok (.getfield 175, 3) := by decide +kernel
theorem dX5_gain_13 : decode cX5_gain 13 = .ok (.invokevirtual 192, 3) := by decide +kernel
theorem dX5_gain_16 : decode cX5_gain 16 = .ok (.aload_n 0, 1) := by decide +kernel
theorem dX5_gain_17 : decode cX5_gain 17 = .ok (.iload_n 1, 1) := by decide +kernel
theorem dX5_gain_18 : decode cX5_gain 18 = .ok (.invokevirtual 142, 3) := by decide +kernel
theorem dX5_gain_21 : decode cX5_gain 21 = .ok (.iand, 1) := by decide +kernel
theorem dX5_gain_22 : decode cX5_gain 22 = .ok (.invokestatic 228, 3) := by decide +kernel
theorem dX5_gain_25 : decode cX5_gain 25 = .ok (.imul, 1) := by decide +kernel
theorem dX5_gain_26 : decode cX5_gain 26 = .ok (.iload_n 2, 1) := by decide +kernel
theorem dX5_gain_27 : decode cX5_gain 27 = .ok (.isub, 1) := by decide +kernel
theorem dX5_gain_28 : decode cX5_gain 28 = .ok (.ireturn, 1) := by decide +kernel
theorem dX5_weighed_0 : decode cX5_weighed 0 = .ok (.iload_n 2, 1) := by decide +kernel
theorem dX5_weighed_1 : decode cX5_weighed 1 = .ok (.iload_n 3, 1) := by decide +kernel
theorem dX5_weighed_2 : decode cX5_weighed 2 = .ok (.if_icmp .ge 9, 3) := by decide +kernel
theorem dX5_weighed_5 : decode cX5_weighed 5 = .ok (.iload_n 2, 1) := by decide +kernel
theorem dX5_weighed_6 : decode cX5_weighed 6 = .ok (.bipush 8, 2) := by decide +kernel
theorem dX5_weighed_8 : decode cX5_weighed 8 = .ok (.if_icmp .lt 37, 3) := by decide +kernel
theorem dX5_weighed_11 : decode cX5_weighed 11 = .ok (.iload 4, 2) := by decide +kernel
theorem dX5_weighed_13 : decode cX5_weighed 13 = .ok (.iconst (-1), 1) := by decide +kernel
theorem dX5_weighed_14 : decode cX5_weighed 14 = .ok (.if_icmp .ne 11, 3) := by decide +kernel
theorem dX5_weighed_17 : decode cX5_weighed 17 = .ok (.aload_n 1, 1) := by decide +kernel
theorem dX5_weighed_18 : decode cX5_weighed 18 = .ok (.aload_n 0, 1) := by decide +kernel
theorem dX5_weighed_19 : decode cX5_weighed 19 = .ok (.iload_n 2, 1) := by decide +kernel
theorem dX5_weighed_20 : decode cX5_weighed 20 = .ok (.invokevirtual 196, 3) := by decide +kernel
theorem dX5_weighed_23 : decode cX5_weighed 23 = .ok (.i2l, 1) := by decide +kernel
theorem dX5_weighed_24 : decode cX5_weighed 24 = .ok (.lreturn, 1) := by decide +kernel
theorem dX5_weighed_25 : decode cX5_weighed 25 = .ok (.aload_n 1, 1) := by decide +kernel
theorem dX5_weighed_26 : decode cX5_weighed 26 = .ok (.getfield 169, 3) := by decide +kernel
theorem dX5_weighed_29 : decode cX5_weighed 29 = .ok (.iload_n 2, 1) := by decide +kernel
theorem dX5_weighed_30 : decode cX5_weighed 30 = .ok (.aaload, 1) := by decide +kernel
theorem dX5_weighed_31 : decode cX5_weighed 31 = .ok (.iload 4, 2) := by decide +kernel
theorem dX5_weighed_33 : decode cX5_weighed 33 = .ok (.iaload, 1) := by decide +kernel
theorem dX5_weighed_34 : decode cX5_weighed 34 = .ok (.iload 5, 2) := by decide +kernel
theorem dX5_weighed_36 : decode cX5_weighed 36 = .ok (.if_icmp .lt 7, 3) := by decide +kernel
theorem dX5_weighed_39 : decode cX5_weighed 39 = .ok (.lconst 1, 1) := by decide +kernel
theorem dX5_weighed_40 : decode cX5_weighed 40 = .ok (.goto 4, 3) := by decide +kernel
theorem dX5_weighed_43 : decode cX5_weighed 43 = .ok (.lconst 0, 1) := by decide +kernel
theorem dX5_weighed_44 : decode cX5_weighed 44 = .ok (.lreturn, 1) := by decide +kernel
theorem dX5_weighed_45 : decode cX5_weighed 45 = .ok (.lconst 0, 1) := by decide +kernel
theorem dX5_weighed_46 : decode cX5_weighed 46 = .ok (.lstore 6, 2) := by decide +kernel
theorem dX5_weighed_48 : decode cX5_weighed 48 = .ok (.aload_n 0, 1) := by decide +kernel
theorem dX5_weighed_49 : decode cX5_weighed 49 = .ok (.getfield 307, 3) := by decide +kernel
theorem dX5_weighed_52 : decode cX5_weighed 52 = .ok (.ifCond .le 36, 3) := by decide +kernel
theorem dX5_weighed_55 : decode cX5_weighed 55 = .ok (.aload_n 1, 1) := by decide +kernel
theorem dX5_weighed_56 : decode cX5_weighed 56 = .ok (.aload_n 0, 1) := by decide +kernel
theorem dX5_weighed_57 : decode cX5_weighed 57 = .ok (.iload_n 2, 1) := by decide +kernel
theorem dX5_weighed_58 : decode cX5_weighed 58 = .ok (.iconst 1, 1) := by decide +kernel
theorem dX5_weighed_59 : decode cX5_weighed 59 = .ok (.iadd, 1) := by decide +kernel
theorem dX5_weighed_60 : decode cX5_weighed 60 = .ok (.iconst 1, 1) := by decide +kernel
theorem dX5_weighed_61 : decode cX5_weighed 61 = .ok (.invokevirtual 283, 3) := by decide +kernel
theorem dX5_weighed_64 : decode cX5_weighed 64 = .ok (.lload 6, 2) := by decide +kernel
theorem dX5_weighed_66 : decode cX5_weighed 66 = .ok (.aload_n 0, 1) := by decide +kernel
theorem dX5_weighed_67 : decode cX5_weighed 67 = .ok (.getfield 307, 3) := by decide +kernel
theorem dX5_weighed_70 : decode cX5_weighed 70 = .ok (.i2l, 1) := by decide +kernel
theorem dX5_weighed_71 : decode cX5_weighed 71 = .ok (.aload_n 0, 1) := by decide +kernel
theorem dX5_weighed_72 : decode cX5_weighed 72 = .ok (.aload_n 1, 1) := by decide +kernel
theorem dX5_weighed_73 : decode cX5_weighed 73 = .ok (.iload_n 2, 1) := by decide +kernel
theorem dX5_weighed_74 : decode cX5_weighed 74 = .ok (.iconst 1, 1) := by decide +kernel
theorem dX5_weighed_75 : decode cX5_weighed 75 = .ok (.iadd, 1) := by decide +kernel
theorem dX5_weighed_76 : decode cX5_weighed 76 = .ok (.iload_n 3, 1) := by decide +kernel
theorem dX5_weighed_77 : decode cX5_weighed 77 = .ok (.iload 4, 2) := by decide +kernel
theorem dX5_weighed_79 : decode cX5_weighed 79 = .ok (.iload 5, 2) := by decide +kernel
theorem dX5_weighed_81 : decode cX5_weighed 81 = .ok (.invokestatic 287, 3) := by decide +kernel
theorem dX5_weighed_84 : decode cX5_weighed 84 = .ok (.lmul, 1) := by decide +kernel
theorem dX5_weighed_85 : decode cX5_weighed 85 = .ok (.ladd, 1) := by decide +kernel
theorem dX5_weighed_86 : decode cX5_weighed 86 = .ok (.lstore 6, 2) := by decide +kernel
theorem dX5_weighed_88 : decode cX5_weighed 88 = .ok (.aload_n 0, 1) := by decide +kernel
theorem dX5_weighed_89 : decode cX5_weighed 89 = .ok (.getfield 307, 3) := by decide +kernel
theorem dX5_weighed_92 : decode cX5_weighed 92 = .ok (.bipush 10, 2) := by decide +kernel
theorem dX5_weighed_94 : decode cX5_weighed 94 = .ok (.if_icmp .ge 39, 3) := by decide +kernel
theorem dX5_weighed_97 : decode cX5_weighed 97 = .ok (.aload_n 1, 1) := by decide +kernel
theorem dX5_weighed_98 : decode cX5_weighed 98 = .ok (.aload_n 0, 1) := by decide +kernel
theorem dX5_weighed_99 : decode cX5_weighed 99 = .ok (.iload_n 2, 1) := by decide +kernel
theorem dX5_weighed_100 : decode cX5_weighed 100 = .ok (.iconst 1, 1) := by decide +kernel
theorem dX5_weighed_101 : decode cX5_weighed 101 = .ok (.iadd, 1) := by decide +kernel
theorem dX5_weighed_102 : decode cX5_weighed 102 = .ok (.iconst 0, 1) := by decide +kernel
theorem dX5_weighed_103 : decode cX5_weighed 103 = .ok (.invokevirtual 283, 3) := by decide +kernel
theorem dX5_weighed_106 : decode cX5_weighed 106 = .ok (.lload 6, 2) := by decide +kernel
theorem dX5_weighed_108 : decode cX5_weighed 108 = .ok (.bipush 10, 2) := by decide +kernel
theorem dX5_weighed_110 : decode cX5_weighed 110 = .ok (.aload_n 0, 1) := by decide +kernel
theorem dX5_weighed_111 : decode cX5_weighed 111 = .ok (.getfield 307, 3) := by decide +kernel
theorem dX5_weighed_114 : decode cX5_weighed 114 = .ok (.isub, 1) := by decide +kernel
theorem dX5_weighed_115 : decode cX5_weighed 115 = .ok (.i2l, 1) := by decide +kernel
theorem dX5_weighed_116 : decode cX5_weighed 116 = .ok (.aload_n 0, 1) := by decide +kernel
theorem dX5_weighed_117 : decode cX5_weighed 117 = .ok (.aload_n 1, 1) := by decide +kernel
theorem dX5_weighed_118 : decode cX5_weighed 118 = .ok (.iload_n 2, 1) := by decide +kernel
theorem dX5_weighed_119 : decode cX5_weighed 119 = .ok (.iconst 1, 1) := by decide +kernel
theorem dX5_weighed_120 : decode cX5_weighed 120 = .ok (.iadd, 1) := by decide +kernel
theorem dX5_weighed_121 : decode cX5_weighed 121 = .ok (.iload_n 3, 1) := by decide +kernel
theorem dX5_weighed_122 : decode cX5_weighed 122 = .ok (.iload 4, 2) := by decide +kernel
theorem dX5_weighed_124 : decode cX5_weighed 124 = .ok (.iload 5, 2) := by decide +kernel
theorem dX5_weighed_126 : decode cX5_weighed 126 = .ok (.invokestatic 287, 3) := by decide +kernel
theorem dX5_weighed_129 : decode cX5_weighed 129 = .ok (.lmul, 1) := by decide +kernel
theorem dX5_weighed_130 : decode cX5_weighed 130 = .ok (.ladd, 1) := by decide +kernel
theorem dX5_weighed_131 : decode cX5_weighed 131 = .ok (.lstore 6, 2) := by decide +kernel
theorem dX5_weighed_133 : decode cX5_weighed 133 = .ok (.lload 6, 2) := by decide +kernel
theorem dX5_weighed_135 : decode cX5_weighed 135 = .ok (.lreturn, 1) := by decide +kernel
theorem dX5_part_0 : decode cX5_part 0 = .ok (.lload_n 0, 1) := by decide +kernel
theorem dX5_part_1 : decode cX5_part 1 = .ok (.lstore 4, 2) := by decide +kernel
theorem dX5_part_3 : decode cX5_part 3 = .ok (.lconst 1, 1) := by decide +kernel
theorem dX5_part_4 : decode cX5_part 4 = .ok (.lstore 6, 2) := by decide +kernel
theorem dX5_part_6 : decode cX5_part 6 = .ok (.iconst 0, 1) := by decide +kernel
theorem dX5_part_7 : decode cX5_part 7 = .ok (.istore 8, 2) := by decide +kernel
theorem dX5_part_9 : decode cX5_part 9 = .ok (.iload 8, 2) := by decide +kernel
theorem dX5_part_11 : decode cX5_part 11 = .ok (.iload_n 2, 1) := by decide +kernel
theorem dX5_part_12 : decode cX5_part 12 = .ok (.if_icmp .ge 17, 3) := by decide +kernel
theorem dX5_part_15 : decode cX5_part 15 = .ok (.lload 6, 2) := by decide +kernel
theorem dX5_part_17 : decode cX5_part 17 = .ok (.ldc2_w 360, 3) := by decide +kernel
theorem dX5_part_20 : decode cX5_part 20 = .ok (.lmul, 1) := by decide +kernel
theorem dX5_part_21 : decode cX5_part 21 = .ok (.lstore 6, 2) := by decide +kernel
theorem dX5_part_23 : decode cX5_part 23 = .ok (.iinc 8 1, 3) := by decide +kernel
theorem dX5_part_26 : decode cX5_part 26 = .ok (.goto (-17), 3) := by decide +kernel
theorem dX5_part_29 : decode cX5_part 29 = .ok (.iconst 0, 1) := by decide +kernel
theorem dX5_part_30 : decode cX5_part 30 = .ok (.istore 8, 2) := by decide +kernel
theorem dX5_part_32 : decode cX5_part 32 = .ok (.iload 8, 2) := by decide +kernel
theorem dX5_part_34 : decode cX5_part 34 = .ok (.iload_n 2, 1) := by decide +kernel
theorem dX5_part_35 : decode cX5_part 35 = .ok (.if_icmp .ge 85, 3) := by decide +kernel
theorem dX5_part_38 : decode cX5_part 38 = .ok (.lload 4, 2) := by decide +kernel
theorem dX5_part_40 : decode cX5_part 40 = .ok (.ldc2_w 362, 3) := by decide +kernel
theorem dX5_part_43 : decode cX5_part 43 = .ok (.lrem, 1) := by decide +kernel
theorem dX5_part_44 : decode cX5_part 44 = .ok (.lconst 0, 1) := by decide +kernel
theorem dX5_part_45 : decode cX5_part 45 = .ok (.lcmp, 1) := by decide +kernel
theorem dX5_part_46 : decode cX5_part 46 = .ok (.ifCond .ne 30, 3) := by decide +kernel
theorem dX5_part_49 : decode cX5_part 49 = .ok (.lload 6, 2) := by decide +kernel
theorem dX5_part_51 : decode cX5_part 51 = .ok (.ldc2_w 362, 3) := by decide +kernel
theorem dX5_part_54 : decode cX5_part 54 = .ok (.lrem, 1) := by decide +kernel
theorem dX5_part_55 : decode cX5_part 55 = .ok (.lconst 0, 1) := by decide +kernel
theorem dX5_part_56 : decode cX5_part 56 = .ok (.lcmp, 1) := by decide +kernel
theorem dX5_part_57 : decode cX5_part 57 = .ok (.ifCond .ne 19, 3) := by decide +kernel
theorem dX5_part_60 : decode cX5_part 60 = .ok (.lload 4, 2) := by decide +kernel
theorem dX5_part_62 : decode cX5_part 62 = .ok (.ldc2_w 362, 3) := by decide +kernel
theorem dX5_part_65 : decode cX5_part 65 = .ok (.ldiv, 1) := by decide +kernel
theorem dX5_part_66 : decode cX5_part 66 = .ok (.lstore 4, 2) := by decide +kernel
theorem dX5_part_68 : decode cX5_part 68 = .ok (.lload 6, 2) := by decide +kernel
theorem dX5_part_70 : decode cX5_part 70 = .ok (.ldc2_w 362, 3) := by decide +kernel
theorem dX5_part_73 : decode cX5_part 73 = .ok (.ldiv, 1) := by decide +kernel
theorem dX5_part_74 : decode cX5_part 74 = .ok (.lstore 6, 2) := by decide +kernel
theorem dX5_part_76 : decode cX5_part 76 = .ok (.lload 4, 2) := by decide +kernel
theorem dX5_part_78 : decode cX5_part 78 = .ok (.ldc2_w 364, 3) := by decide +kernel
theorem dX5_part_81 : decode cX5_part 81 = .ok (.lrem, 1) := by decide +kernel
theorem dX5_part_82 : decode cX5_part 82 = .ok (.lconst 0, 1) := by decide +kernel
theorem dX5_part_83 : decode cX5_part 83 = .ok (.lcmp, 1) := by decide +kernel
theorem dX5_part_84 : decode cX5_part 84 = .ok (.ifCond .ne 30, 3) := by decide +kernel
theorem dX5_part_87 : decode cX5_part 87 = .ok (.lload 6, 2) := by decide +kernel
theorem dX5_part_89 : decode cX5_part 89 = .ok (.ldc2_w 364, 3) := by decide +kernel
theorem dX5_part_92 : decode cX5_part 92 = .ok (.lrem, 1) := by decide +kernel
theorem dX5_part_93 : decode cX5_part 93 = .ok (.lconst 0, 1) := by decide +kernel
theorem dX5_part_94 : decode cX5_part 94 = .ok (.lcmp, 1) := by decide +kernel
theorem dX5_part_95 : decode cX5_part 95 = .ok (.ifCond .ne 19, 3) := by decide +kernel
theorem dX5_part_98 : decode cX5_part 98 = .ok (.lload 4, 2) := by decide +kernel
theorem dX5_part_100 : decode cX5_part 100 = .ok (.ldc2_w 364, 3) := by decide +kernel
theorem dX5_part_103 : decode cX5_part 103 = .ok (.ldiv, 1) := by decide +kernel
theorem dX5_part_104 : decode cX5_part 104 = .ok (.lstore 4, 2) := by decide +kernel
theorem dX5_part_106 : decode cX5_part 106 = .ok (.lload 6, 2) := by decide +kernel
theorem dX5_part_108 : decode cX5_part 108 = .ok (.ldc2_w 364, 3) := by decide +kernel
theorem dX5_part_111 : decode cX5_part 111 = .ok (.ldiv, 1) := by decide +kernel
theorem dX5_part_112 : decode cX5_part 112 = .ok (.lstore 6, 2) := by decide +kernel
theorem dX5_part_114 : decode cX5_part 114 = .ok (.iinc 8 1, 3) := by decide +kernel
theorem dX5_part_117 : decode cX5_part 117 = .ok (.goto (-85), 3) := by decide +kernel
theorem dX5_part_120 : decode cX5_part 120 = .ok (.iload_n 3, 1) := by decide +kernel
theorem dX5_part_121 : decode cX5_part 121 = .ok (.ifCond .ne 8, 3) := by decide +kernel
theorem dX5_part_124 : decode cX5_part 124 = .ok (.lload 4, 2) := by decide +kernel
theorem dX5_part_126 : decode cX5_part 126 = .ok (.goto 5, 3) := by decide +kernel
theorem dX5_part_129 : decode cX5_part 129 = .ok (.lload 6, 2) := by decide +kernel
theorem dX5_part_131 : decode cX5_part 131 = .ok (.lreturn, 1) := by decide +kernel
theorem dX5_wetYears_0 : decode cX5_wetYears 0 = .ok (.iconst 0, 1) := by decide +kernel
theorem dX5_wetYears_1 : decode cX5_wetYears 1 = .ok (.istore_n 3, 1) := by decide +kernel
theorem dX5_wetYears_2 : decode cX5_wetYears 2 = .ok (.lload_n 1, 1) := by decide +kernel
theorem dX5_wetYears_3 : decode cX5_wetYears 3 = .ok (.lstore 4, 2) := by decide +kernel
theorem dX5_wetYears_5 : decode cX5_wetYears 5 = .ok (.iconst 0, 1) := by decide +kernel
theorem dX5_wetYears_6 : decode cX5_wetYears 6 = .ok (.istore 6, 2) := by decide +kernel
theorem dX5_wetYears_8 : decode cX5_wetYears 8 = .ok (.iload 6, 2) := by decide +kernel
theorem dX5_wetYears_10 : decode cX5_wetYears 10 = .ok (.aload_n 0, 1) := by decide +kernel
theorem dX5_wetYears_11 : decode cX5_wetYears 11 = .ok (.getfield 23, 3) := by decide +kernel
theorem dX5_wetYears_14 : decode cX5_wetYears 14 = .ok (.getfield 175, 3) := by decide +kernel
theorem dX5_wetYears_17 : decode cX5_wetYears 17 = .ok (.if_icmp .ge 54, 3) := by decide +kernel
theorem dX5_wetYears_20 : decode cX5_wetYears 20 = .ok (.ldc2_w 366, 3) := by decide +kernel
theorem dX5_wetYears_23 : decode cX5_wetYears 23 = .ok (.lload 4, 2) := by decide +kernel
theorem dX5_wetYears_25 : decode cX5_wetYears 25 = .ok (.lmul, 1) := by decide +kernel
theorem dX5_wetYears_26 : decode cX5_wetYears 26 = .ok (.ldc2_w 368, 3) := by decide +kernel
theorem dX5_wetYears_29 : decode cX5_wetYears 29 = .ok (.ladd, 1) := by decide +kernel
theorem dX5_wetYears_30 : decode cX5_wetYears 30 = .ok (.ldc2_w 370, 3) := by decide +kernel
theorem dX5_wetYears_33 : decode cX5_wetYears 33 = .ok (.lrem, 1) := by decide +kernel
theorem dX5_wetYears_34 : decode cX5_wetYears 34 = .ok (.lstore 4, 2) := by decide +kernel
theorem dX5_wetYears_36 : decode cX5_wetYears 36 = .ok (.lload 4, 2) := by decide +kernel
theorem dX5_wetYears_38 : decode cX5_wetYears 38 = .ok (.ldc2_w 372, 3) := by decide +kernel
theorem dX5_wetYears_41 : decode cX5_wetYears 41 = .ok (.ldiv, 1) := by decide +kernel
theorem dX5_wetYears_42 : decode cX5_wetYears 42 = .ok (.ldc2_w 360, 3) := by decide +kernel
theorem dX5_wetYears_45 : decode cX5_wetYears 45 = .ok (.lrem, 1) := by decide +kernel
theorem dX5_wetYears_46 : decode cX5_wetYears 46 = .ok (.aload_n 0, 1) := by decide +kernel
theorem dX5_wetYears_47 : decode cX5_wetYears 47 = .ok (.getfield 23, 3) := by decide +kernel
theorem dX5_wetYears_50 : decode cX5_wetYears 50 = .ok (.getfield 307, 3) := by decide +kernel
theorem dX5_wetYears_53 : decode cX5_wetYears 53 = .ok (.i2l, 1) := by decide +kernel
theorem dX5_wetYears_54 : decode cX5_wetYears 54 = .ok (.lcmp, 1) := by decide +kernel
theorem dX5_wetYears_55 : decode cX5_wetYears 55 = .ok (.ifCond .ge 10, 3) := by decide +kernel
theorem dX5_wetYears_58 : decode cX5_wetYears 58 = .ok (.iload_n 3, 1) := by decide +kernel
theorem dX5_wetYears_59 : decode cX5_wetYears 59 = .ok (.iconst 1, 1) := by decide +kernel
theorem dX5_wetYears_60 : decode cX5_wetYears 60 = .ok (.iload 6, 2) := by decide +kernel
theorem dX5_wetYears_62 : decode cX5_wetYears 62 = .ok (.ishl, 1) := by decide +kernel
theorem dX5_wetYears_63 : decode cX5_wetYears 63 = .ok (.ior, 1) := by decide +kernel
theorem dX5_wetYears_64 : decode cX5_wetYears 64 = .ok (.istore_n 3, 1) := by decide +kernel
theorem dX5_wetYears_65 : decode cX5_wetYears 65 = .ok (.iinc 6 1, 3) := by decide +kernel
theorem dX5_wetYears_68 : decode cX5_wetYears 68 = .ok (.goto (-60), 3) := by decide +kernel
theorem dX5_wetYears_71 : decode cX5_wetYears 71 = .ok (.iload_n 3, 1) := by decide +kernel
theorem dX5_wetYears_72 : decode cX5_wetYears 72 = .ok (.ireturn, 1) := by decide +kernel
theorem dX5_toldRows_0 : decode cX5_toldRows 0 = .ok (.iconst 0, 1) := by decide +kernel
theorem dX5_toldRows_1 : decode cX5_toldRows 1 = .ok (.istore_n 1, 1) := by decide +kernel
theorem dX5_toldRows_2 : decode cX5_toldRows 2 = .ok (.iconst 0, 1) := by decide +kernel
theorem dX5_toldRows_3 : decode cX5_toldRows 3 = .ok (.istore_n 2, 1) := by decide +kernel
theorem dX5_toldRows_4 : decode cX5_toldRows 4 = .ok (.iload_n 2, 1) := by decide +kernel
theorem dX5_toldRows_5 : decode cX5_toldRows 5 = .ok (.iconst 4, 1) := by decide +kernel
theorem dX5_toldRows_6 : decode cX5_toldRows 6 = .ok (.if_icmp .ge 24, 3) := by decide +kernel
theorem dX5_toldRows_9 : decode cX5_toldRows 9 = .ok (.aload_n 0, 1) := by decide +kernel
theorem dX5_toldRows_10 : decode cX5_toldRows 10 = .ok (.getfield 49, 3) := by decide +kernel
theorem dX5_toldRows_13 : decode cX5_toldRows 13 = .ok (.iload_n 2, 1) := by decide +kernel
theorem dX5_toldRows_14 : decode cX5_toldRows 14 = .ok (.aaload, 1) := by decide +kernel
theorem dX5_toldRows_15 : decode cX5_toldRows 15 = .ok (.getfield 324, 3) := by decide +kernel
theorem dX5_toldRows_18 : decode cX5_toldRows 18 = .ok (.ifCond .eq 6, 3) := by decide +kernel
theorem dX5_toldRows_21 : decode cX5_toldRows 21 = .ok (.iinc 1 1, 3) := by decide +kernel
theorem dX5_toldRows_24 : decode cX5_toldRows 24 = .ok (.iinc 2 1, 3) := by decide +kernel
theorem dX5_toldRows_27 : decode cX5_toldRows 27 = .ok (.goto (-23), 3) := by decide +kernel
theorem dX5_toldRows_30 : decode cX5_toldRows 30 = .ok (.iload_n 1, 1) := by decide +kernel
theorem dX5_toldRows_31 : decode cX5_toldRows 31 = .ok (.ireturn, 1) := by decide +kernel
