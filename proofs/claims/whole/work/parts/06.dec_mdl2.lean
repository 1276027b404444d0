theorem dX6_swaps_33 : decode cX6_swaps 33 = .ok (.istore 4, 2) := by decide +kernel
theorem dX6_swaps_35 : decode cX6_swaps 35 = .ok (.iload 4, 2) := by decide +kernel
theorem dX6_swaps_37 : decode cX6_swaps 37 = .ok (.aload_n 0, 1) := by decide +kernel
theorem dX6_swaps_38 : decode cX6_swaps 38 = .ok (.invokevirtual 243, 3) := by decide +kernel
theorem dX6_swaps_41 : decode cX6_swaps 41 = .ok (.if_icmp .gt 62, 3) := by decide +kernel
theorem dX6_swaps_44 : decode cX6_swaps 44 = .ok (.iload_n 3, 1) := by decide +kernel
theorem dX6_swaps_45 : decode cX6_swaps 45 = .ok (.aload_n 0, 1) := by decide +kernel
theorem dX6_swaps_46 : decode cX6_swaps 46 = .ok (.iload_n 1, 1) := by decide +kernel
theorem dX6_swaps_47 : decode cX6_swaps 47 = .ok (.iload 4, 2) := by decide +kernel
theorem dX6_swaps_49 : decode cX6_swaps 49 = .ok (.iconst 1, 1) := by decide +kernel
theorem dX6_swaps_50 : decode cX6_swaps 50 = .ok (.isub, 1) := by decide +kernel
theorem dX6_swaps_51 : decode cX6_swaps 51 = .ok (.invokevirtual 293, 3) := by decide +kernel
theorem dX6_swaps_54 : decode cX6_swaps 54 = .ok (.ifCond .eq 40, 3) := by decide +kernel
theorem dX6_swaps_57 : decode cX6_swaps 57 = .ok (.aload_n 0, 1) := by decide +kernel
theorem dX6_swaps_58 : decode cX6_swaps 58 = .ok (.iload_n 2, 1) := by decide +kernel
theorem dX6_swaps_59 : decode cX6_swaps 59 = .ok (.iload 4, 2) := by decide +kernel
theorem dX6_swaps_61 : decode cX6_swaps 61 = .ok (.iconst 1, 1) := by decide +kernel
theorem dX6_swaps_62 : decode cX6_swaps 62 = .ok (.isub, 1) := by decide +kernel
theorem dX6_swaps_63 : decode cX6_swaps 63 = .ok (.invokevirtual 293, 3) := by decide +kernel
theorem dX6_swaps_66 : decode cX6_swaps 66 = .ok (.ifCond .eq 28, 3) := by decide +kernel
theorem dX6_swaps_69 : decode cX6_swaps 69 = .ok (.aload_n 0, 1) := by decide +kernel
theorem dX6_swaps_70 : decode cX6_swaps 70 = .ok (.iload_n 1, 1) := by decide +kernel
theorem dX6_swaps_71 : decode cX6_swaps 71 = .ok (.iload_n 2, 1) := by decide +kernel
theorem dX6_swaps_72 : decode cX6_swaps 72 = .ok (.iload 4, 2) := by decide +kernel
theorem dX6_swaps_74 : decode cX6_swaps 74 = .ok (.invokevirtual 355, 3) := by decide +kernel
theorem dX6_swaps_77 : decode cX6_swaps 77 = .ok (.aload_n 0, 1) := by decide +kernel
theorem dX6_swaps_78 : decode cX6_swaps 78 = .ok (.iload_n 1, 1) := by decide +kernel
theorem dX6_swaps_79 : decode cX6_swaps 79 = .ok (.iload_n 2, 1) := by decide +kernel
theorem dX6_swaps_80 : decode cX6_swaps 80 = .ok (.iload 4, 2) := by decide +kernel
theorem dX6_swaps_82 : decode cX6_swaps 82 = .ok (.iconst 1, 1) := by decide +kernel
theorem dX6_swaps_83 : decode cX6_swaps 83 = .ok (.isub, 1) := by decide +kernel
theorem dX6_swaps_84 : decode cX6_swaps 84 = .ok (.invokevirtual 355, 3) := by decide +kernel
theorem dX6_swaps_87 : decode cX6_swaps 87 = .ok (.if_icmp .eq 7, 3) := by decide +kernel
theorem dX6_swaps_90 : decode cX6_swaps 90 = .ok (.iconst 1, 1) := by decide +kernel
theorem dX6_swaps_91 : decode cX6_swaps 91 = .ok (.goto 4, 3) := by decide +kernel
theorem dX6_swaps_94 : decode cX6_swaps 94 = .ok (.iconst 0, 1) := by decide +kernel
theorem dX6_swaps_95 : decode cX6_swaps 95 = .ok (.iadd, 1) := by decide +kernel
theorem dX6_swaps_96 : decode cX6_swaps 96 = .ok (.istore_n 3, 1) := by decide +kernel
theorem dX6_swaps_97 : decode cX6_swaps 97 = .ok (.iinc 4 1, 3) := by decide +kernel
theorem dX6_swaps_100 : decode cX6_swaps 100 = .ok (.goto (-65), 3) := by decide +kernel
theorem dX6_swaps_103 : decode cX6_swaps 103 = .ok (.iload_n 3, 1) := by decide +kernel
theorem dX6_swaps_104 : decode cX6_swaps 104 = .ok (.ireturn, 1) := by decide +kernel
theorem dX6_put_0 : decode cX6_put 0 = .ok (.aload_n 0, 1) := by decide +kernel
theorem dX6_put_1 : decode cX6_put 1 = .ok (.iconst 0, 1) := by decide +kernel
theorem dX6_put_2 : decode cX6_put 2 = .ok (.putfield 74, 3) := by decide +kernel
theorem dX6_put_5 : decode cX6_put 5 = .ok (.aload_n 0, 1) := by decide +kernel
theorem dX6_put_6 : decode cX6_put 6 = .ok (.invokevirtual 240, 3) := by decide +kernel
theorem dX6_put_9 : decode cX6_put 9 = .ok (.ifCond .ne 6, 3) := by decide +kernel
theorem dX6_put_12 : decode cX6_put 12 = .ok (.bipush (-2), 2) := by decide +kernel
theorem dX6_put_14 : decode cX6_put 14 = .ok (.ireturn, 1) := by decide +kernel
theorem dX6_put_15 : decode cX6_put 15 = .ok (.iconst 0, 1) := by decide +kernel
theorem dX6_put_16 : decode cX6_put 16 = .ok (.istore_n 1, 1) := by decide +kernel
theorem dX6_put_17 : decode cX6_put 17 = .ok (.iconst 0, 1) := by decide +kernel
theorem dX6_put_18 : decode cX6_put 18 = .ok (.istore_n 2, 1) := by decide +kernel
theorem dX6_put_19 : decode cX6_put 19 = .ok (.iload_n 2, 1) := by decide +kernel
theorem dX6_put_20 : decode cX6_put 20 = .ok (.aload_n 0, 1) := by decide +kernel
theorem dX6_put_21 : decode cX6_put 21 = .ok (.invokevirtual 236, 3) := by decide +kernel
theorem dX6_put_24 : decode cX6_put 24 = .ok (.if_icmp .ge 79, 3) := by decide +kernel
theorem dX6_put_27 : decode cX6_put 27 = .ok (.iload_n 2, 1) := by decide +kernel
theorem dX6_put_28 : decode cX6_put 28 = .ok (.iconst 1, 1) := by decide +kernel
theorem dX6_put_29 : decode cX6_put 29 = .ok (.iadd, 1) := by decide +kernel
theorem dX6_put_30 : decode cX6_put 30 = .ok (.istore_n 3, 1) := by decide +kernel
theorem dX6_put_31 : decode cX6_put 31 = .ok (.iload_n 3, 1) := by decide +kernel
theorem dX6_put_32 : decode cX6_put 32 = .ok (.aload_n 0, 1) := by decide +kernel
theorem dX6_put_33 : decode cX6_put 33 = .ok (.invokevirtual 236, 3) := by decide +kernel
theorem dX6_put_36 : decode cX6_put 36 = .ok (.if_icmp .ge 61, 3) := by decide +kernel
theorem dX6_put_39 : decode cX6_put 39 = .ok (.iload_n 1, 1) := by decide +kernel
theorem dX6_put_40 : decode cX6_put 40 = .ok (.aload_n 0, 1) := by decide +kernel
theorem dX6_put_41 : decode cX6_put 41 = .ok (.getfield 43, 3) := by decide +kernel
theorem dX6_put_44 : decode cX6_put 44 = .ok (.iconst 4, 1) := by decide +kernel
theorem dX6_put_45 : decode cX6_put 45 = .ok (.iload_n 3, 1) := by decide +kernel
theorem dX6_put_46 : decode cX6_put 46 = .ok (.imul, 1) := by decide +kernel
theorem dX6_put_47 : decode cX6_put 47 = .ok (.iaload, 1) := by decide +kernel
theorem dX6_put_48 : decode cX6_put 48 = .ok (.aload_n 0, 1) := by decide +kernel
theorem dX6_put_49 : decode cX6_put 49 = .ok (.getfield 43, 3) := by decide +kernel
theorem dX6_put_52 : decode cX6_put 52 = .ok (.iconst 4, 1) := by decide +kernel
theorem dX6_put_53 : decode cX6_put 53 = .ok (.iload_n 2, 1) := by decide +kernel
theorem dX6_put_54 : decode cX6_put 54 = .ok (.imul, 1) := by decide +kernel
theorem dX6_put_55 : decode cX6_put 55 = .ok (.iaload, 1) := by decide +kernel
theorem dX6_put_56 : decode cX6_put 56 = .ok (.if_icmp .ne 32, 3) := by decide +kernel
theorem dX6_put_59 : decode cX6_put 59 = .ok (.aload_n 0, 1) := by decide +kernel
theorem dX6_put_60 : decode cX6_put 60 = .ok (.getfield 43, 3) := by decide +kernel
theorem dX6_put_63 : decode cX6_put 63 = .ok (.iconst 4, 1) := by decide +kernel
theorem dX6_put_64 : decode cX6_put 64 = .ok (.iload_n 3, 1) := by decide +kernel
theorem dX6_put_65 : decode cX6_put 65 = .ok (.imul, 1) := by decide +kernel
theorem dX6_put_66 : decode cX6_put 66 = .ok (.iconst 2, 1) := by decide +kernel
theorem dX6_put_67 : decode cX6_put 67 = .ok (.iadd, 1) := by decide +kernel
theorem dX6_put_68 : decode cX6_put 68 = .ok (.iaload, 1) := by decide +kernel
theorem dX6_put_69 : decode cX6_put 69 = .ok (.aload_n 0, 1) := by decide +kernel
theorem dX6_put_70 : decode cX6_put 70 = .ok (.getfield 43, 3) := by decide +kernel
theorem dX6_put_73 : decode cX6_put 73 = .ok (.iconst 4, 1) := by decide +kernel
theorem dX6_put_74 : decode cX6_put 74 = .ok (.iload_n 2, 1) := by decide +kernel
theorem dX6_put_75 : decode cX6_put 75 = .ok (.imul, 1) := by decide +kernel
theorem dX6_put_76 : decode cX6_put 76 = .ok (.iconst 2, 1) := by decide +kernel
theorem dX6_put_77 : decode cX6_put 77 = .ok (.iadd, 1) := by decide +kernel
theorem dX6_put_78 : decode cX6_put 78 = .ok (.iaload, 1) := by decide +kernel
theorem dX6_put_79 : decode cX6_put 79 = .ok (.if_icmp .ge 9, 3) := by decide +kernel
theorem dX6_put_82 : decode cX6_put 82 = .ok (.iconst 1, 1) := by decide +kernel
theorem dX6_put_83 : decode cX6_put 83 = .ok (.iload_n 2, 1) := by decide +kernel
theorem dX6_put_84 : decode cX6_put 84 = .ok (.ishl, 1) := by decide +kernel
theorem dX6_put_85 : decode cX6_put 85 = .ok (.goto 4, 3) := by decide +kernel
theorem dX6_put_88 : decode cX6_put 88 = .ok (.iconst 0, 1) := by decide +kernel
theorem dX6_put_89 : decode cX6_put 89 = .ok (.ior, 1) := by decide +kernel
theorem dX6_put_90 : decode cX6_put 90 = .ok (.istore_n 1, 1) := by decide +kernel
theorem dX6_put_91 : decode cX6_put 91 = .ok (.iinc 3 1, 3) := by decide +kernel
theorem dX6_put_94 : decode cX6_put 94 = .ok (.goto (-63), 3) := by decide +kernel
theorem dX6_put_97 : decode cX6_put 97 = .ok (.iinc 2 1, 3) := by decide +kernel
theorem dX6_put_100 : decode cX6_put 100 = .ok (.goto (-81), 3) := by decide +kernel
theorem dX6_put_103 : decode cX6_put 103 = .ok (.iload_n 1, 1) := by decide +kernel
theorem dX6_put_104 : decode cX6_put 104 = .ok (.ireturn, 1) := by decide +kernel
theorem dX6_lies_0 : decode cX6_lies 0 = .ok (.aload_n 0, 1) := by decide +kernel
theorem dX6_lies_1 : decode cX6_lies 1 = .ok (.iconst 0, 1) := by decide +kernel
theorem dX6_lies_2 : decode cX6_lies 2 = .ok (.putfield 74, 3) := by decide +kernel
theorem dX6_lies_5 : decode cX6_lies 5 = .ok (.aload_n 0, 1) := by decide +kernel
theorem dX6_lies_6 : decode cX6_lies 6 = .ok (.invokevirtual 240, 3) := by decide +kernel
theorem dX6_lies_9 : decode cX6_lies 9 = .ok (.ifCond .ne 6, 3) := by decide +kernel
theorem dX6_lies_12 : decode cX6_lies 12 = .ok (.bipush (-2), 2) := by decide +kernel
theorem dX6_lies_14 : decode cX6_lies 14 = .ok (.ireturn, 1) := by decide +kernel
theorem dX6_lies_15 : decode cX6_lies 15 = .ok (.iconst 0, 1) := by decide +kernel
theorem dX6_lies_16 : decode cX6_lies 16 = .ok (.istore_n 1, 1) := by decide +kernel
theorem dX6_lies_17 : decode cX6_lies 17 = .ok (.iconst 0, 1) := by decide +kernel
theorem dX6_lies_18 : decode cX6_lies 18 = .ok (.istore_n 2, 1) := by decide +kernel
theorem dX6_lies_19 : decode cX6_lies 19 = .ok (.iload_n 2, 1) := by decide +kernel
theorem dX6_lies_20 : decode cX6_lies 20 = .ok (.aload_n 0, 1) := by decide +kernel
theorem dX6_lies_21 : decode cX6_lies 21 = .ok (.invokevirtual 236, 3) := by decide +kernel
theorem dX6_lies_24 : decode cX6_lies 24 = .ok (.if_icmp .ge 42, 3) := by decide +kernel
theorem dX6_lies_27 : decode cX6_lies 27 = .ok (.iload_n 1, 1) := by decide +kernel
theorem dX6_lies_28 : decode cX6_lies 28 = .ok (.aload_n 0, 1) := by decide +kernel
theorem dX6_lies_29 : decode cX6_lies 29 = .ok (.getfield 43, 3) := by decide +kernel
theorem dX6_lies_32 : decode cX6_lies 32 = .ok (.iconst 4, 1) := by decide +kernel
theorem dX6_lies_33 : decode cX6_lies 33 = .ok (.iload_n 2, 1) := by decide +kernel
theorem dX6_lies_34 : decode cX6_lies 34 = .ok (.imul, 1) := by decide +kernel
theorem dX6_lies_35 : decode cX6_lies 35 = .ok (.iconst 2, 1) := by decide +kernel
theorem dX6_lies_36 : decode cX6_lies 36 = .ok (.iadd, 1) := by decide +kernel
theorem dX6_lies_37 : decode cX6_lies 37 = .ok (.iaload, 1) := by decide +kernel
theorem dX6_lies_38 : decode cX6_lies 38 = .ok (.aload_n 0, 1) := by decide +kernel
theorem dX6_lies_39 : decode cX6_lies 39 = .ok (.getfield 43, 3) := by decide +kernel
theorem dX6_lies_42 : decode cX6_lies 42 = .ok (.iconst 4, 1) := by decide +kernel
theorem dX6_lies_43 : decode cX6_lies 43 = .ok (.iload_n 2, 1) := by decide +kernel
theorem dX6_lies_44 : decode cX6_lies 44 = .ok (.imul, 1) := by decide +kernel
theorem dX6_lies_45 : decode cX6_lies 45 = .ok (.iconst 3, 1) := by decide +kernel
theorem dX6_lies_46 : decode cX6_lies 46 = .ok (.iadd, 1) := by decide +kernel
theorem dX6_lies_47 : decode cX6_lies 47 = .ok (.iaload, 1) := by decide +kernel
theorem dX6_lies_48 : decode cX6_lies 48 = .ok (.if_icmp .ne 7, 3) := by decide +kernel
theorem dX6_lies_51 : decode cX6_lies 51 = .ok (.iconst 0, 1) := by decide +kernel
theorem dX6_lies_52 : decode cX6_lies 52 = .ok (.goto 6, 3) := by decide +kernel
theorem dX6_lies_55 : decode cX6_lies 55 = .ok (.iconst 1, 1) := by decide +kernel
theorem dX6_lies_56 : decode cX6_lies 56 = .ok (.iload_n 2, 1) := by decide +kernel
theorem dX6_lies_57 : decode cX6_lies 57 = .ok (.ishl, 1) := by decide +kernel
theorem dX6_lies_58 : decode cX6_lies 58 = .ok (.ior, 1) := by decide +kernel
theorem dX6_lies_59 : decode cX6_lies 59 = .ok (.istore_n 1, 1) := by decide +kernel
theorem dX6_lies_60 : decode cX6_lies 60 = .ok (.iinc 2 1, 3) := by decide +kernel
theorem dX6_lies_63 : decode cX6_lies 63 = .ok (.goto (-44), 3) := by decide +kernel
theorem dX6_lies_66 : decode cX6_lies 66 = .ok (.iload_n 1, 1) := by decide +kernel
theorem dX6_lies_67 : decode cX6_lies 67 = .ok (.ireturn, 1) := by decide +kernel
theorem dX6_alone_0 : decode cX6_alone 0 = .ok (.iload_n 3, 1) := by decide +kernel
theorem dX6_alone_1 : decode cX6_alone 1 = .ok (.iload 4, 2) := by decide +kernel
theorem dX6_alone_3 : decode cX6_alone 3 = .ok (.if_icmp .le 5, 3) := by decide +kernel
theorem dX6_alone_6 : decode cX6_alone 6 = .ok (.iconst 0, 1) := by decide +kernel
theorem dX6_alone_7 : decode cX6_alone 7 = .ok (.ireturn, 1) := by decide +kernel
theorem dX6_alone_8 : decode cX6_alone 8 = .ok (.aload_n 0, 1) := by decide +kernel
theorem dX6_alone_9 : decode cX6_alone 9 = .ok (.getfield 37, 3) := by decide +kernel
theorem dX6_alone_12 : decode cX6_alone 12 = .ok (.iconst 3, 1) := by decide +kernel
theorem dX6_alone_13 : decode cX6_alone 13 = .ok (.iload_n 1, 1) := by decide +kernel
theorem dX6_alone_14 : decode cX6_alone 14 = .ok (.imul, 1) := by decide +kernel
theorem dX6_alone_15 : decode cX6_alone 15 = .ok (.iaload, 1) := by decide +kernel
theorem dX6_alone_16 : decode cX6_alone 16 = .ok (.aload_n 0, 1) := by decide +kernel
theorem dX6_alone_17 : decode cX6_alone 17 = .ok (.getfield 37, 3) := by decide +kernel
theorem dX6_alone_20 : decode cX6_alone 20 = .ok (.iconst 3, 1) := by decide +kernel
theorem dX6_alone_21 : decode cX6_alone 21 = .ok (.iload_n 1, 1) := by decide +kernel
theorem dX6_alone_22 : decode cX6_alone 22 = .ok (.imul, 1) := by decide +kernel
theorem dX6_alone_23 : decode cX6_alone 23 = .ok (.iconst 1, 1) := by decide +kernel
theorem dX6_alone_24 : decode cX6_alone 24 = .ok (.iadd, 1) := by decide +kernel
theorem dX6_alone_25 : decode cX6_alone 25 = .ok (.iaload, 1) := by decide +kernel
theorem dX6_alone_26 : decode cX6_alone 26 = .ok (.invokestatic 277, 3) := by decide +kernel
theorem dX6_alone_29 : decode cX6_alone 29 = .ok (.istore 5, 2) := by decide +kernel
theorem dX6_alone_31 : decode cX6_alone 31 = .ok (.aload_n 0, 1) := by decide +kernel
theorem dX6_alone_32 : decode cX6_alone 32 = .ok (.getfield 37, 3) := by decide +kernel
theorem dX6_alone_35 : decode cX6_alone 35 = .ok (.iconst 3, 1) := by decide +kernel
theorem dX6_alone_36 : decode cX6_alone 36 = .ok (.iload_n 1, 1) := by decide +kernel
theorem dX6_alone_37 : decode cX6_alone 37 = .ok (.imul, 1) := by decide +kernel
theorem dX6_alone_38 : decode cX6_alone 38 = .ok (.iaload, 1) := by decide +kernel
theorem dX6_alone_39 : decode cX6_alone 39 = .ok (.aload_n 0, 1) := by decide +kernel
theorem dX6_alone_40 : decode cX6_alone 40 = .ok (.getfield 37, 3) := by decide +kernel
theorem dX6_alone_43 : decode cX6_alone 43 = .ok (.iconst 3, 1) := by decide +kernel
theorem dX6_alone_44 : decode cX6_alone 44 = .ok (.iload_n 1, 1) := by decide +kernel
theorem dX6_alone_45 : decode cX6_alone 45 = .ok (.imul, 1) := by decide +kernel
theorem dX6_alone_46 : decode cX6_alone 46 = .ok (.iconst 1, 1) := by decide +kernel
theorem dX6_alone_47 : decode cX6_alone 47 = .ok (.iadd, 1) := by decide +kernel
theorem dX6_alone_48 : decode cX6_alone 48 = .ok (.iaload, 1) := by decide +kernel
theorem dX6_alone_49 : decode cX6_alone 49 = .ok (.if_icmp .ge 7, 3) := by decide +kernel
theorem dX6_alone_52 : decode cX6_alone 52 = .ok (.iconst 1, 1) := by decide +kernel
theorem dX6_alone_53 : decode cX6_alone 53 = .ok (.goto 4, 3) := by decide +kernel
theorem dX6_alone_56 : decode cX6_alone 56 = .ok (.iconst 0, 1) := by decide +kernel
theorem dX6_alone_57 : decode cX6_alone 57 = .ok (.istore 6, 2) := by decide +kernel
theorem dX6_alone_59 : decode cX6_alone 59 = .ok (.iload_n 3, 1) := by decide +kernel
theorem dX6_alone_60 : decode cX6_alone 60 = .ok (.iconst 1, 1) := by decide +kernel
theorem dX6_alone_61 : decode cX6_alone 61 = .ok (.iadd, 1) := by decide +kernel
theorem dX6_alone_62 : decode cX6_alone 62 = .ok (.istore 7, 2) := by decide +kernel
theorem dX6_alone_64 : decode cX6_alone 64 = .ok (.iload 7, 2) := by decide +kernel
theorem dX6_alone_66 : decode cX6_alone 66 = .ok (.iload 4, 2) := by decide +kernel
theorem dX6_alone_68 : decode cX6_alone 68 = .ok (.if_icmp .gt 111, 3) := by decide +kernel
theorem dX6_alone_71 : decode cX6_alone 71 = .ok (.iload 6, 2) := by decide +kernel
theorem dX6_alone_73 : decode cX6_alone 73 = .ok (.ifCond .eq 63, 3) := by decide +kernel
theorem dX6_alone_76 : decode cX6_alone 76 = .ok (.iload 5, 2) := by decide +kernel
theorem dX6_alone_78 : decode cX6_alone 78 = .ok (.aload_n 0, 1) := by decide +kernel
theorem dX6_alone_79 : decode cX6_alone 79 = .ok (.getfield 37, 3) := by decide +kernel
theorem dX6_alone_82 : decode cX6_alone 82 = .ok (.iconst 3, 1) := by decide +kernel
theorem dX6_alone_83 : decode cX6_alone 83 = .ok (.iload_n 1, 1) := by decide +kernel
theorem dX6_alone_84 : decode cX6_alone 84 = .ok (.imul, 1) := by decide +kernel
theorem dX6_alone_85 : decode cX6_alone 85 = .ok (.iaload, 1) := by decide +kernel
theorem dX6_alone_86 : decode cX6_alone 86 = .ok (.iadd, 1) := by decide +kernel
theorem dX6_alone_87 : decode cX6_alone 87 = .ok (.aload_n 0, 1) := by decide +kernel
theorem dX6_alone_88 : decode cX6_alone 88 = .ok (.getfield 37, 3) := by decide +kernel
theorem dX6_alone_91 : decode cX6_alone 91 = .ok (.iconst 3, 1) := by decide +kernel
theorem dX6_alone_92 : decode cX6_alone 92 = .ok (.iload_n 1, 1) := by decide +kernel
theorem dX6_alone_93 : decode cX6_alone 93 = .ok (.imul, 1) := by decide +kernel
theorem dX6_alone_94 : decode cX6_alone 94 = .ok (.iconst 1, 1) := by decide +kernel
theorem dX6_alone_95 : decode cX6_alone 95 = .ok (.iadd, 1) := by decide +kernel
theorem dX6_alone_96 : decode cX6_alone 96 = .ok (.iaload, 1) := by decide +kernel
theorem dX6_alone_97 : decode cX6_alone 97 = .ok (.if_icmp .ge 7, 3) := by decide +kernel
theorem dX6_alone_100 : decode cX6_alone 100 = .ok (.iconst 1, 1) := by decide +kernel
theorem dX6_alone_101 : decode cX6_alone 101 = .ok (.goto 4, 3) := by decide +kernel
theorem dX6_alone_104 : decode cX6_alone 104 = .ok (.iconst 0, 1) := by decide +kernel
theorem dX6_alone_105 : decode cX6_alone 105 = .ok (.istore 6, 2) := by decide +kernel
theorem dX6_alone_107 : decode cX6_alone 107 = .ok (.aload_n 0, 1) := by decide +kernel
theorem dX6_alone_108 : decode cX6_alone 108 = .ok (.getfield 37, 3) := by decide +kernel
theorem dX6_alone_111 : decode cX6_alone 111 = .ok (.iconst 3, 1) := by decide +kernel
theorem dX6_alone_112 : decode cX6_alone 112 = .ok (.iload_n 1, 1) := by decide +kernel
theorem dX6_alone_113 : decode cX6_alone 113 = .ok (.imul, 1) := by decide +kernel
theorem dX6_alone_114 : decode cX6_alone 114 = .ok (.iconst 1, 1) := by decide +kernel
theorem dX6_alone_115 : decode cX6_alone 115 = .ok (.iadd, 1) := by decide +kernel
theorem dX6_alone_116 : decode cX6_alone 116 = .ok (.iaload, 1) := by decide +kernel
theorem dX6_alone_117 : decode cX6_alone 117 = .ok (.iload 5, 2) := by decide +kernel
theorem dX6_alone_119 : decode cX6_alone 119 = .ok (.aload_n 0, 1) := by decide +kernel
theorem dX6_alone_120 : decode cX6_alone 120 = .ok (.getfield 37, 3) := by decide +kernel
theorem dX6_alone_123 : decode cX6_alone 123 = .ok (.iconst 3, 1) := by decide +kernel
theorem dX6_alone_124 : decode cX6_alone 124 = .ok (.iload_n 1, 1) := by decide +kernel
theorem dX6_alone_125 : decode cX6_alone 125 = .ok (.imul, 1) := by decide +kernel
theorem dX6_alone_126 : decode cX6_alone 126 = .ok (.iaload, 1) := by decide +kernel
theorem dX6_alone_127 : decode cX6_alone 127 = .ok (.iadd, 1) := by decide +kernel
theorem dX6_alone_128 : decode cX6_alone 128 = .ok (.invokestatic 277, 3) := by decide +kernel
theorem dX6_alone_131 : decode cX6_alone 131 = .ok (.istore 5, 2) := by decide +kernel
theorem dX6_alone_133 : decode cX6_alone 133 = .ok (.goto 40, 3) := by decide +kernel
theorem dX6_alone_136 : decode cX6_alone 136 = .ok (.iconst 0, 1) := by decide +kernel
theorem dX6_alone_137 : decode cX6_alone 137 = .ok (.iload 5, 2) := by decide +kernel
theorem dX6_alone_139 : decode cX6_alone 139 = .ok (.aload_n 0, 1) := by decide +kernel
theorem dX6_alone_140 : decode cX6_alone 140 = .ok (.getfield 34, 3) := by decide +kernel
theorem dX6_alone_143 : decode cX6_alone 143 = .ok (.iconst 1, 1) := by decide +kernel
theorem dX6_alone_144 : decode cX6_alone 144 = .ok (.iaload, 1) := by decide +kernel
theorem dX6_alone_145 : decode cX6_alone 145 = .ok (.aload_n 0, 1) := by decide +kernel
theorem dX6_alone_146 : decode cX6_alone 146 = .ok (.getfield 37, 3) := by decide +kernel
theorem dX6_alone_149 : decode cX6_alone 149 = .ok (.iconst 3, 1) := by decide +kernel
theorem dX6_alone_150 : decode cX6_alone 150 = .ok (.iload_n 1, 1) := by decide +kernel
theorem dX6_alone_151 : decode cX6_alone 151 = .ok (.imul, 1) := by decide +kernel
theorem dX6_alone_152 : decode cX6_alone 152 = .ok (.iconst 2, 1) := by decide +kernel
theorem dX6_alone_153 : decode cX6_alone 153 = .ok (.iadd, 1) := by decide +kernel
theorem dX6_alone_154 : decode cX6_alone 154 = .ok (.iaload, 1) := by decide +kernel
theorem dX6_alone_155 : decode cX6_alone 155 = .ok (.aload_n 0, 1) := by decide +kernel
theorem dX6_alone_156 : decode cX6_alone 156 = .ok (.getfield 40, 3) := by decide +kernel
theorem dX6_alone_159 : decode cX6_alone 159 = .ok (.iload_n 2, 1) := by decide +kernel
theorem dX6_alone_160 : decode cX6_alone 160 = .ok (.iaload, 1) := by decide +kernel
theorem dX6_alone_161 : decode cX6_alone 161 = .ok (.iconst 0, 1) := by decide +kernel
theorem dX6_alone_162 : decode cX6_alone 162 = .ok (.iload 7, 2) := by decide +kernel
theorem dX6_alone_164 : decode cX6_alone 164 = .ok (.invokestatic 286, 3) := by decide +kernel
theorem dX6_alone_167 : decode cX6_alone 167 = .ok (.isub, 1) := by decide +kernel
theorem dX6_alone_168 : decode cX6_alone 168 = .ok (.invokestatic 280, 3) := by decide +kernel
theorem dX6_alone_171 : decode cX6_alone 171 = .ok (.istore 5, 2) := by decide +kernel
theorem dX6_alone_173 : decode cX6_alone 173 = .ok (.iinc 7 1, 3) := by decide +kernel
theorem dX6_alone_176 : decode cX6_alone 176 = .ok (.goto (-112), 3) := by decide +kernel
theorem dX6_alone_179 : decode cX6_alone 179 = .ok (.iload 5, 2) := by decide +kernel
theorem dX6_alone_181 : decode cX6_alone 181 = .ok (.ireturn, 1) := by decide +kernel
theorem dX6_passesOf_0 : decode cX6_passesOf 0 = .ok (.iconst 0, 1) := by decide +kernel
theorem dX6_passesOf_1 : decode cX6_passesOf 1 = .ok (.istore_n 3, 1) := by decide +kernel
theorem dX6_passesOf_2 : decode cX6_passesOf 2 = .ok (.iconst 0, 1) := by decide +kernel
theorem dX6_passesOf_3 : decode cX6_passesOf 3 = .ok (.istore 4, 2) := by decide +kernel
theorem dX6_passesOf_5 : decode cX6_passesOf 5 = .ok (.iload 4, 2) := by decide +kernel
theorem dX6_passesOf_7 : decode cX6_passesOf 7 = .ok (.aload_n 0, 1) := by decide +kernel
theorem dX6_passesOf_8 : decode cX6_passesOf 8 = .ok (.getfield 34, 3) := by decide +kernel
theorem dX6_passesOf_11 : decode cX6_passesOf 11 = .ok (.iconst 3, 1) := by decide +kernel
theorem dX6_passesOf_12 : decode cX6_passesOf 12 = .ok (.iaload, 1) := by decide +kernel
theorem dX6_passesOf_13 : decode cX6_passesOf 13 = .ok (.if_icmp .ge 54, 3) := by decide +kernel
theorem dX6_passesOf_16 : decode cX6_passesOf 16 = .ok (.iload_n 3, 1) := by decide +kernel
theorem dX6_passesOf_17 : decode cX6_passesOf 17 = .ok (.aload_n 0, 1) := by decide +kernel
theorem dX6_passesOf_18 : decode cX6_passesOf 18 = .ok (.iload_n 1, 1) := by decide +kernel
theorem dX6_passesOf_19 : decode cX6_passesOf 19 = .ok (.iload_n 2, 1) := by decide +kernel
theorem dX6_passesOf_20 : decode cX6_passesOf 20 = .ok (.invokevirtual 283, 3) := by decide +kernel
theorem dX6_passesOf_23 : decode cX6_passesOf 23 = .ok (.aload_n 0, 1) := by decide +kernel
theorem dX6_passesOf_24 : decode cX6_passesOf 24 = .ok (.iload 4, 2) := by decide +kernel
theorem dX6_passesOf_26 : decode cX6_passesOf 26 = .ok (.aload_n 0, 1) := by decide +kernel
theorem dX6_passesOf_27 : decode cX6_passesOf 27 = .ok (.getfield 43, 3) := by decide +kernel
theorem dX6_passesOf_30 : decode cX6_passesOf 30 = .ok (.iconst 4, 1) := by decide +kernel
theorem dX6_passesOf_31 : decode cX6_passesOf 31 = .ok (.iload_n 1, 1) := by decide +kernel
theorem dX6_passesOf_32 : decode cX6_passesOf 32 = .ok (.imul, 1) := by decide +kernel
theorem dX6_passesOf_33 : decode cX6_passesOf 33 = .ok (.iaload, 1) := by decide +kernel
theorem dX6_passesOf_34 : decode cX6_passesOf 34 = .ok (.aload_n 0, 1) := by decide +kernel
theorem dX6_passesOf_35 : decode cX6_passesOf 35 = .ok (.getfield 43, 3) := by decide +kernel
theorem dX6_passesOf_38 : decode cX6_passesOf 38 = .ok (.iconst 4, 1) := by decide +kernel
theorem dX6_passesOf_39 : decode cX6_passesOf 39 = .ok (.iload_n 1, 1) := by decide +kernel
theorem dX6_passesOf_40 : decode cX6_passesOf 40 = .ok (.imul, 1) := by decide +kernel
theorem dX6_passesOf_41 : decode cX6_passesOf 41 = .ok (.iconst 3, 1) := by decide +kernel
theorem dX6_passesOf_42 : decode cX6_passesOf 42 = .ok (.iadd, 1) := by decide +kernel
theorem dX6_passesOf_43 : decode cX6_passesOf 43 = .ok (.iaload, 1) := by decide +kernel
theorem dX6_passesOf_44 : decode cX6_passesOf 44 = .ok (.iload_n 2, 1) := by decide +kernel
theorem dX6_passesOf_45 : decode cX6_passesOf 45 = .ok (.invokevirtual 359, 3) := by decide +kernel
theorem dX6_passesOf_48 : decode cX6_passesOf 48 = .ok (.if_icmp .ne 10, 3) := by decide +kernel
theorem dX6_passesOf_51 : decode cX6_passesOf 51 = .ok (.iconst 1, 1) := by decide +kernel
theorem dX6_passesOf_52 : decode cX6_passesOf 52 = .ok (.iload 4, 2) := by decide +kernel
theorem dX6_passesOf_54 : decode cX6_passesOf 54 = .ok (.ishl, 1) := by decide +kernel
theorem dX6_passesOf_55 : decode cX6_passesOf 55 = .ok (.goto 4, 3) := by decide +kernel
theorem dX6_passesOf_58 : decode cX6_passesOf 58 = .ok (.iconst 0, 1) := by decide +kernel
theorem dX6_passesOf_59 : decode cX6_passesOf 59 = .ok (.ior, 1) := by decide +kernel
theorem dX6_passesOf_60 : decode cX6_passesOf 60 = .ok (.istore_n 3, 1) := by decide +kernel
theorem dX6_passesOf_61 : decode cX6_passesOf 61 = .ok (.iinc 4 1, 3) := by decide +kernel
theorem dX6_passesOf_64 : decode cX6_passesOf 64 = .ok (.goto (-59), 3) := by decide +kernel
theorem dX6_passesOf_67 : decode cX6_passesOf 67 = .ok (.iload_n 3, 1) := by decide +kernel
theorem dX6_passesOf_68 : decode cX6_passesOf 68 = .ok (.ireturn, 1) := by decide +kernel
theorem dX6_passes_0 : decode cX6_passes 0 = .ok (.aload_n 0, 1) := by decide +kernel
theorem dX6_passes_1 : decode cX6_passes 1 = .ok (.iconst 0, 1) := by decide +kernel
theorem dX6_passes_2 : decode cX6_passes 2 = .ok (.putfield 74, 3) := by decide +kernel
theorem dX6_passes_5 : decode cX6_passes 5 = .ok (.aload_n 0, 1) := by decide +kernel
theorem dX6_passes_6 : decode cX6_passes 6 = .ok (.iload_n 1, 1) := by decide +kernel
theorem dX6_passes_7 : decode cX6_passes 7 = .ok (.iload_n 2, 1) := by decide +kernel
theorem dX6_passes_8 : decode cX6_passes 8 = .ok (.invokevirtual 334, 3) := by decide +kernel
theorem dX6_passes_11 : decode cX6_passes 11 = .ok (.ifCond .ne 6, 3) := by decide +kernel
theorem dX6_passes_14 : decode cX6_passes 14 = .ok (.bipush (-2), 2) := by decide +kernel
theorem dX6_passes_16 : decode cX6_passes 16 = .ok (.ireturn, 1) := by decide +kernel
theorem dX6_passes_17 : decode cX6_passes 17 = .ok (.aload_n 0, 1) := by decide +kernel
theorem dX6_passes_18 : decode cX6_passes 18 = .ok (.invokevirtual 337, 3) := by decide +kernel
theorem dX6_passes_21 : decode cX6_passes 21 = .ok (.aload_n 0, 1) := by decide +kernel
theorem dX6_passes_22 : decode cX6_passes 22 = .ok (.iload_n 1, 1) := by decide +kernel
theorem dX6_passes_23 : decode cX6_passes 23 = .ok (.iload_n 2, 1) := by decide +kernel
theorem dX6_passes_24 : decode cX6_passes 24 = .ok (.invokevirtual 363, 3) := by decide +kernel
theorem dX6_passes_27 : decode cX6_passes 27 = .ok (.ireturn, 1) := by decide +kernel
theorem dX6_suspects_0 : decode cX6_suspects 0 = .ok (.aload_n 0, 1) := by decide +kernel
theorem dX6_suspects_1 : decode cX6_suspects 1 = .ok (.iconst 0, 1) := by decide +kernel
theorem dX6_suspects_2 : decode cX6_suspects 2 = .ok (.putfield 74, 3) := by decide +kernel
theorem dX6_suspects_5 : decode cX6_suspects 5 = .ok (.aload_n 0, 1) := by decide +kernel
theorem dX6_suspects_6 : decode cX6_suspects 6 = .ok (.iload_n 1, 1) := by decide +kernel
theorem dX6_suspects_7 : decode cX6_suspects 7 = .ok (.i2l, 1) := by decide +kernel
theorem dX6_suspects_8 : decode cX6_suspects 8 = .ok (.invokevirtual 249, 3) := by decide +kernel
theorem dX6_suspects_11 : decode cX6_suspects 11 = .ok (.ifCond .ne 6, 3) := by decide +kernel
theorem dX6_suspects_14 : decode cX6_suspects 14 = .ok (.bipush (-2), 2) := by decide +kernel
theorem dX6_suspects_16 : decode cX6_suspects 16 = .ok (.ireturn, 1) := by decide +kernel
theorem dX6_suspects_17 : decode cX6_suspects 17 = .ok (.aload_n 0, 1) := by decide +kernel
theorem dX6_suspects_18 : decode cX6_suspects 18 = .ok (.invokevirtual 337, 3) := by decide +kernel
theorem dX6_suspects_21 : decode cX6_suspects 21 = .ok (.iconst 0, 1) := by decide +kernel
theorem dX6_suspects_22 : decode cX6_suspects 22 = .ok (.istore_n 2, 1) := by decide +kernel
theorem dX6_suspects_23 : decode cX6_suspects 23 = .ok (.iconst 0, 1) := by decide +kernel
theorem dX6_suspects_24 : decode cX6_suspects 24 = .ok (.istore_n 3, 1) := by decide +kernel
theorem dX6_suspects_25 : decode cX6_suspects 25 = .ok (.iload_n 3, 1) := by decide +kernel
theorem dX6_suspects_26 : decode cX6_suspects 26 = .ok (.aload_n 0, 1) := by decide +kernel
theorem dX6_suspects_27 : decode cX6_suspects 27 = .ok (.invokevirtual 236, 3) := by decide +kernel
theorem dX6_suspects_30 : decode cX6_suspects 30 = .ok (.if_icmp .ge 37, 3) := by decide +kernel
theorem dX6_suspects_33 : decode cX6_suspects 33 = .ok (.iload_n 2, 1) := by decide +kernel
theorem dX6_suspects_34 : decode cX6_suspects 34 = .ok (.aload_n 0, 1) := by decide +kernel
theorem dX6_suspects_35 : decode cX6_suspects 35 = .ok (.iload_n 3, 1) := by decide +kernel
theorem dX6_suspects_36 : decode cX6_suspects 36 = .ok (.iload_n 1, 1) := by decide +kernel
theorem dX6_suspects_37 : decode cX6_suspects 37 = .ok (.invokevirtual 293, 3) := by decide +kernel
theorem dX6_suspects_40 : decode cX6_suspects 40 = .ok (.ifCond .eq 18, 3) := by decide +kernel
theorem dX6_suspects_43 : decode cX6_suspects 43 = .ok (.aload_n 0, 1) := by decide +kernel
theorem dX6_suspects_44 : decode cX6_suspects 44 = .ok (.iload_n 3, 1) := by decide +kernel
theorem dX6_suspects_45 : decode cX6_suspects 45 = .ok (.iload_n 1, 1) := by decide +kernel
theorem dX6_suspects_46 : decode cX6_suspects 46 = .ok (.invokevirtual 363, 3) := by decide +kernel
theorem dX6_suspects_49 : decode cX6_suspects 49 = .ok (.ifCond .ne 9, 3) := by decide +kernel
theorem dX6_suspects_52 : decode cX6_suspects 52 = .ok (.iconst 1, 1) := by decide +kernel
theorem dX6_suspects_53 : decode cX6_suspects 53 = .ok (.iload_n 3, 1) := by decide +kernel
theorem dX6_suspects_54 : decode cX6_suspects 54 = .ok (.ishl, 1) := by decide +kernel
theorem dX6_suspects_55 : decode cX6_suspects 55 = .ok (.goto 4, 3) := by decide +kernel
theorem dX6_suspects_58 : decode cX6_suspects 58 = .ok (.iconst 0, 1) := by decide +kernel
theorem dX6_suspects_59 : decode cX6_suspects 59 = .ok (.ior, 1) := by decide +kernel
theorem dX6_suspects_60 : decode cX6_suspects 60 = .ok (.istore_n 2, 1) := by decide +kernel
theorem dX6_suspects_61 : decode cX6_suspects 61 = .ok (.iinc 3 1, 3) := by decide +kernel
theorem dX6_suspects_64 : decode cX6_suspects 64 = .ok (.goto (-39), 3) := by decide +kernel
theorem dX6_suspects_67 : decode cX6_suspects 67 = .ok (.iload_n 2, 1) := by decide +kernel
theorem dX6_suspects_68 : decode cX6_suspects 68 = .ok (.ireturn, 1) := by decide +kernel
theorem dX6_betrayed_0 : decode cX6_betrayed 0 = .ok (.aload_n 0, 1) := by decide +kernel
theorem dX6_betrayed_1 : decode cX6_betrayed 1 = .ok (.iconst 0, 1) := by decide +kernel
theorem dX6_betrayed_2 : decode cX6_betrayed 2 = .ok (.putfield 74, 3) := by decide +kernel
theorem dX6_betrayed_5 : decode cX6_betrayed 5 = .ok (.aload_n 0, 1) := by decide +kernel
theorem dX6_betrayed_6 : decode cX6_betrayed 6 = .ok (.iload_n 1, 1) := by decide +kernel
theorem dX6_betrayed_7 : decode cX6_betrayed 7 = .ok (.i2l, 1) := by decide +kernel
theorem dX6_betrayed_8 : decode cX6_betrayed 8 = .ok (.invokevirtual 246, 3) := by decide +kernel
theorem dX6_betrayed_11 : decode cX6_betrayed 11 = .ok (.ifCond .ne 6, 3) := by decide +kernel
theorem dX6_betrayed_14 : decode cX6_betrayed 14 = .ok (.bipush (-2), 2) := by decide +kernel
theorem dX6_betrayed_16 : decode cX6_betrayed 16 = .ok (.ireturn, 1) := by decide +kernel
theorem dX6_betrayed_17 : decode cX6_betrayed 17 = .ok (.aload_n 0, 1) := by decide +kernel
theorem dX6_betrayed_18 : decode cX6_betrayed 18 = .ok (.invokevirtual 337, 3) := by decide +kernel
theorem dX6_betrayed_21 : decode cX6_betrayed 21 = .ok (.iconst 0, 1) := by decide +kernel
theorem dX6_betrayed_22 : decode cX6_betrayed 22 = .ok (.istore_n 2, 1) := by decide +kernel
theorem dX6_betrayed_23 : decode cX6_betrayed 23 = .ok (.iload_n 2, 1) := by decide +kernel
theorem dX6_betrayed_24 : decode cX6_betrayed 24 = .ok (.aload_n 0, 1) := by decide +kernel
theorem dX6_betrayed_25 : decode cX6_betrayed 25 = .ok (.invokevirtual 243, 3) := by decide +kernel
theorem dX6_betrayed_28 : decode cX6_betrayed 28 = .ok (.if_icmp .gt 29, 3) := by decide +kernel
theorem dX6_betrayed_31 : decode cX6_betrayed 31 = .ok (.aload_n 0, 1) := by decide +kernel
theorem dX6_betrayed_32 : decode cX6_betrayed 32 = .ok (.iload_n 1, 1) := by decide +kernel
theorem dX6_betrayed_33 : decode cX6_betrayed 33 = .ok (.iload_n 2, 1) := by decide +kernel
theorem dX6_betrayed_34 : decode cX6_betrayed 34 = .ok (.invokevirtual 293, 3) := by decide +kernel
theorem dX6_betrayed_37 : decode cX6_betrayed 37 = .ok (.ifCond .eq 14, 3) := by decide +kernel
theorem dX6_betrayed_40 : decode cX6_betrayed 40 = .ok (.aload_n 0, 1) := by decide +kernel
theorem dX6_betrayed_41 : decode cX6_betrayed 41 = .ok (.iload_n 1, 1) := by decide +kernel
theorem dX6_betrayed_42 : decode cX6_betrayed 42 = .ok (.iload_n 2, 1) := by decide +kernel
theorem dX6_betrayed_43 : decode cX6_betrayed 43 = .ok (.invokevirtual 363, 3) := by decide +kernel
theorem dX6_betrayed_46 : decode cX6_betrayed 46 = .ok (.ifCond .ne 5, 3) := by decide +kernel
theorem dX6_betrayed_49 : decode cX6_betrayed 49 = .ok (.iload_n 2, 1) := by decide +kernel
theorem dX6_betrayed_50 : decode cX6_betrayed 50 = .ok (.ireturn, 1) := by decide +kernel
theorem dX6_betrayed_51 : decode cX6_betrayed 51 = .ok (.iinc 2 1, 3) := by decide +kernel
theorem dX6_betrayed_54 : decode cX6_betrayed 54 = .ok (.goto (-31), 3) := by decide +kernel
theorem dX6_betrayed_57 : decode cX6_betrayed 57 = .ok (.iconst (-1), 1) := by decide +kernel
theorem dX6_betrayed_58 : decode cX6_betrayed 58 = .ok (.ireturn, 1) := by decide +kernel
theorem dX6_ages_0 : decode cX6_ages 0 = .ok (.aload_n 0, 1) := by decide +kernel
theorem dX6_ages_1 : decode cX6_ages 1 = .ok (.iconst 0, 1) := by decide +kernel
theorem dX6_ages_2 : decode cX6_ages 2 = .ok (.putfield 74, 3) := by decide +kernel
theorem dX6_ages_5 : decode cX6_ages 5 = .ok (.aload_n 0, 1) := by decide +kernel
theorem dX6_ages_6 : decode cX6_ages 6 = .ok (.iload_n 1, 1) := by decide +kernel
theorem dX6_ages_7 : decode cX6_ages 7 = .ok (.invokevirtual 321, 3) := by decide +kernel
theorem dX6_ages_10 : decode cX6_ages 10 = .ok (.ifCond .eq 33, 3) := by decide +kernel
theorem dX6_ages_13 : decode cX6_ages 13 = .ok (.aload_n 0, 1) := by decide +kernel
theorem dX6_ages_14 : decode cX6_ages 14 = .ok (.iload_n 2, 1) := by decide +kernel
theorem dX6_ages_15 : decode cX6_ages 15 = .ok (.invokevirtual 326, 3) := by decide +kernel
theorem dX6_ages_18 : decode cX6_ages 18 = .ok (.ifCond .eq 25, 3) := by decide +kernel
theorem dX6_ages_21 : decode cX6_ages 21 = .ok (.iload_n 3, 1) := by decide +kernel
theorem dX6_ages_22 : decode cX6_ages 22 = .ok (.i2l, 1) := by decide +kernel
theorem dX6_ages_23 : decode cX6_ages 23 = .ok (.lconst 1, 1) := by decide +kernel
theorem dX6_ages_24 : decode cX6_ages 24 = .ok (.ldc2_w 366, 3) := by decide +kernel
theorem dX6_ages_27 : decode cX6_ages 27 = .ok (.invokestatic 79, 3) := by decide +kernel
theorem dX6_ages_30 : decode cX6_ages 30 = .ok (.ifCond .eq 13, 3) := by decide +kernel
theorem dX6_ages_33 : decode cX6_ages 33 = .ok (.aload_n 0, 1) := by decide +kernel
theorem dX6_ages_34 : decode cX6_ages 34 = .ok (.iload 4, 2) := by decide +kernel
theorem dX6_ages_36 : decode cX6_ages 36 = .ok (.i2l, 1) := by decide +kernel
theorem dX6_ages_37 : decode cX6_ages 37 = .ok (.invokevirtual 249, 3) := by decide +kernel
theorem dX6_ages_40 : decode cX6_ages 40 = .ok (.ifCond .ne 6, 3) := by decide +kernel
theorem dX6_ages_43 : decode cX6_ages 43 = .ok (.bipush (-2), 2) := by decide +kernel
theorem dX6_ages_45 : decode cX6_ages 45 = .ok (.ireturn, 1) := by decide +kernel
theorem dX6_ages_46 : decode cX6_ages 46 = .ok (.iconst 0, 1) := by decide +kernel
theorem dX6_ages_47 : decode cX6_ages 47 = .ok (.istore 5, 2) := by decide +kernel
theorem dX6_ages_49 : decode cX6_ages 49 = .ok (.iconst 0, 1) := by decide +kernel
theorem dX6_ages_50 : decode cX6_ages 50 = .ok (.istore 6, 2) := by decide +kernel
theorem dX6_ages_52 : decode cX6_ages 52 = .ok (.iload 6, 2) := by decide +kernel
theorem dX6_ages_54 : decode cX6_ages 54 = .ok (.aload_n 0, 1) := by decide +kernel
theorem dX6_ages_55 : decode cX6_ages 55 = .ok (.invokevirtual 243, 3) := by decide +kernel
theorem dX6_ages_58 : decode cX6_ages 58 = .ok (.if_icmp .gt 36, 3) := by decide +kernel
theorem dX6_ages_61 : decode cX6_ages 61 = .ok (.iload 5, 2) := by decide +kernel
theorem dX6_ages_63 : decode cX6_ages 63 = .ok (.aload_n 0, 1) := by decide +kernel
theorem dX6_ages_64 : decode cX6_ages 64 = .ok (.iload_n 1, 1) := by decide +kernel
theorem dX6_ages_65 : decode cX6_ages 65 = .ok (.iload_n 2, 1) := by decide +kernel
theorem dX6_ages_66 : decode cX6_ages 66 = .ok (.iload 6, 2) := by decide +kernel
theorem dX6_ages_68 : decode cX6_ages 68 = .ok (.iload 4, 2) := by decide +kernel
theorem dX6_ages_70 : decode cX6_ages 70 = .ok (.invokevirtual 359, 3) := by decide +kernel
theorem dX6_ages_73 : decode cX6_ages 73 = .ok (.iload_n 3, 1) := by decide +kernel
theorem dX6_ages_74 : decode cX6_ages 74 = .ok (.if_icmp .ne 10, 3) := by decide +kernel
theorem dX6_ages_77 : decode cX6_ages 77 = .ok (.iconst 1, 1) := by decide +kernel
theorem dX6_ages_78 : decode cX6_ages 78 = .ok (.iload 6, 2) := by decide +kernel
theorem dX6_ages_80 : decode cX6_ages 80 = .ok (.ishl, 1) := by decide +kernel
theorem dX6_ages_81 : decode cX6_ages 81 = .ok (.goto 4, 3) := by decide +kernel
theorem dX6_ages_84 : decode cX6_ages 84 = .ok (.iconst 0, 1) := by decide +kernel
theorem dX6_ages_85 : decode cX6_ages 85 = .ok (.ior, 1) := by decide +kernel
theorem dX6_ages_86 : decode cX6_ages 86 = .ok (.istore 5, 2) := by decide +kernel
theorem dX6_ages_88 : decode cX6_ages 88 = .ok (.iinc 6 1, 3) := by decide +kernel
theorem dX6_ages_91 : decode cX6_ages 91 = .ok (.goto (-39), 3) := by decide +kernel
theorem dX6_ages_94 : decode cX6_ages 94 = .ok (.iload 5, 2) := by decide +kernel
theorem dX6_ages_96 : decode cX6_ages 96 = .ok (.ireturn, 1) := by decide +kernel
theorem dX6_whyNot_0 : decode cX6_whyNot 0 = .ok (.iload_n 1, 1) := by decide +kernel
theorem dX6_whyNot_1 : decode cX6_whyNot 1 = .ok (.invokestatic 83, 3) := by decide +kernel
theorem dX6_whyNot_4 : decode cX6_whyNot 4 = .ok (.ifCond .eq 14, 3) := by decide +kernel
theorem dX6_whyNot_7 : decode cX6_whyNot 7 = .ok (.aload_n 0, 1) := by decide +kernel
theorem dX6_whyNot_8 : decode cX6_whyNot 8 = .ok (.invokevirtual 240, 3) := by decide +kernel
theorem dX6_whyNot_11 : decode cX6_whyNot 11 = .ok (.ifCond .eq 7, 3) := by decide +kernel
theorem dX6_whyNot_14 : decode cX6_whyNot 14 = .ok (.iload_n 2, 1) := by decide +kernel
theorem dX6_whyNot_15 : decode cX6_whyNot 15 = .ok (.ifCond .ne 6, 3) := by decide +kernel
theorem dX6_whyNot_18 : decode cX6_whyNot 18 = .ok (.bipush (-2), 2) := by decide +kernel
theorem dX6_whyNot_20 : decode cX6_whyNot 20 = .ok (.ireturn, 1) := by decide +kernel
theorem dX6_whyNot_21 : decode cX6_whyNot 21 = .ok (.aload_n 0, 1) := by decide +kernel
theorem dX6_whyNot_22 : decode cX6_whyNot 22 = .ok (.getfield 7, 3) := by decide +kernel
theorem dX6_whyNot_25 : decode cX6_whyNot 25 = .ok (.iload_n 1, 1) := by decide +kernel
theorem dX6_whyNot_26 : decode cX6_whyNot 26 = .ok (.iaload, 1) := by decide +kernel
theorem dX6_whyNot_27 : decode cX6_whyNot 27 = .ok (.iconst (-1), 1) := by decide +kernel
theorem dX6_whyNot_28 : decode cX6_whyNot 28 = .ok (.if_icmp .ne 6, 3) := by decide +kernel
theorem dX6_whyNot_31 : decode cX6_whyNot 31 = .ok (.bipush (-6), 2) := by decide +kernel
theorem dX6_whyNot_33 : decode cX6_whyNot 33 = .ok (.ireturn, 1) := by decide +kernel
theorem dX6_whyNot_34 : decode cX6_whyNot 34 = .ok (.aload_n 0, 1) := by decide +kernel
theorem dX6_whyNot_35 : decode cX6_whyNot 35 = .ok (.getfield 13, 3) := by decide +kernel
theorem dX6_whyNot_38 : decode cX6_whyNot 38 = .ok (.iload_n 1, 1) := by decide +kernel
theorem dX6_whyNot_39 : decode cX6_whyNot 39 = .ok (.iaload, 1) := by decide +kernel
theorem dX6_whyNot_40 : decode cX6_whyNot 40 = .ok (.iconst 3, 1) := by decide +kernel
theorem dX6_whyNot_41 : decode cX6_whyNot 41 = .ok (.irem, 1) := by decide +kernel
theorem dX6_whyNot_42 : decode cX6_whyNot 42 = .ok (.ifCond .eq 6, 3) := by decide +kernel
theorem dX6_whyNot_45 : decode cX6_whyNot 45 = .ok (.bipush (-2), 2) := by decide +kernel
theorem dX6_whyNot_47 : decode cX6_whyNot 47 = .ok (.ireturn, 1) := by decide +kernel
theorem dX6_whyNot_48 : decode cX6_whyNot 48 = .ok (.iconst 0, 1) := by decide +kernel
theorem dX6_whyNot_49 : decode cX6_whyNot 49 = .ok (.istore_n 3, 1) := by decide +kernel
theorem dX6_whyNot_50 : decode cX6_whyNot 50 = .ok (.iload_n 3, 1) := by decide +kernel
theorem dX6_whyNot_51 : decode cX6_whyNot 51 = .ok (.aload_n 0, 1) := by decide +kernel
theorem dX6_whyNot_52 : decode cX6_whyNot 52 = .ok (.getfield 13, 3) := by decide +kernel
theorem dX6_whyNot_55 : decode cX6_whyNot 55 = .ok (.iload_n 1, 1) := by decide +kernel
theorem dX6_whyNot_56 : decode cX6_whyNot 56 = .ok (.iaload, 1) := by decide +kernel
theorem dX6_whyNot_57 : decode cX6_whyNot 57 = .ok (.if_icmp .ge 69, 3) := by decide +kernel
theorem dX6_whyNot_60 : decode cX6_whyNot 60 = .ok (.bipush 60, 2) := by decide +kernel
theorem dX6_whyNot_62 : decode cX6_whyNot 62 = .ok (.iload_n 1, 1) := by decide +kernel
theorem dX6_whyNot_63 : decode cX6_whyNot 63 = .ok (.imul, 1) := by decide +kernel
theorem dX6_whyNot_64 : decode cX6_whyNot 64 = .ok (.iload_n 3, 1) := by decide +kernel
theorem dX6_whyNot_65 : decode cX6_whyNot 65 = .ok (.iadd, 1) := by decide +kernel
theorem dX6_whyNot_66 : decode cX6_whyNot 66 = .ok (.istore 4, 2) := by decide +kernel
theorem dX6_whyNot_68 : decode cX6_whyNot 68 = .ok (.aload_n 0, 1) := by decide +kernel
theorem dX6_whyNot_69 : decode cX6_whyNot 69 = .ok (.aload_n 0, 1) := by decide +kernel
theorem dX6_whyNot_70 : decode cX6_whyNot 70 = .ok (.getfield 16, 3) := by decide +kernel
theorem dX6_whyNot_73 : decode cX6_whyNot 73 = .ok (.iload 4, 2) := by decide +kernel
theorem dX6_whyNot_75 : decode cX6_whyNot 75 = .ok (.laload, 1) := by decide +kernel
theorem dX6_whyNot_76 : decode cX6_whyNot 76 = .ok (.invokevirtual 246, 3) := by decide +kernel
theorem dX6_whyNot_79 : decode cX6_whyNot 79 = .ok (.ifCond .eq 38, 3) := by decide +kernel
theorem dX6_whyNot_82 : decode cX6_whyNot 82 = .ok (.aload_n 0, 1) := by decide +kernel
theorem dX6_whyNot_83 : decode cX6_whyNot 83 = .ok (.aload_n 0, 1) := by decide +kernel
theorem dX6_whyNot_84 : decode cX6_whyNot 84 = .ok (.getfield 16, 3) := by decide +kernel
theorem dX6_whyNot_87 : decode cX6_whyNot 87 = .ok (.iload 4, 2) := by decide +kernel
theorem dX6_whyNot_89 : decode cX6_whyNot 89 = .ok (.iconst 1, 1) := by decide +kernel
theorem dX6_whyNot_90 : decode cX6_whyNot 90 = .ok (.iadd, 1) := by decide +kernel
theorem dX6_whyNot_91 : decode cX6_whyNot 91 = .ok (.laload, 1) := by decide +kernel
theorem dX6_whyNot_92 : decode cX6_whyNot 92 = .ok (.invokevirtual 249, 3) := by decide +kernel
theorem dX6_whyNot_95 : decode cX6_whyNot 95 = .ok (.ifCond .eq 22, 3) := by decide +kernel
theorem dX6_whyNot_98 : decode cX6_whyNot 98 = .ok (.aload_n 0, 1) := by decide +kernel
theorem dX6_whyNot_99 : decode cX6_whyNot 99 = .ok (.getfield 16, 3) := by decide +kernel
theorem dX6_whyNot_102 : decode cX6_whyNot 102 = .ok (.iload 4, 2) := by decide +kernel
theorem dX6_whyNot_104 : decode cX6_whyNot 104 = .ok (.iconst 2, 1) := by decide +kernel
theorem dX6_whyNot_105 : decode cX6_whyNot 105 = .ok (.iadd, 1) := by decide +kernel
theorem dX6_whyNot_106 : decode cX6_whyNot 106 = .ok (.laload, 1) := by decide +kernel
theorem dX6_whyNot_107 : decode cX6_whyNot 107 = .ok (.lconst 0, 1) := by decide +kernel
theorem dX6_whyNot_108 : decode cX6_whyNot 108 = .ok (.ldc2_w 366, 3) := by decide +kernel
theorem dX6_whyNot_111 : decode cX6_whyNot 111 = .ok (.invokestatic 79, 3) := by decide +kernel
theorem dX6_whyNot_114 : decode cX6_whyNot 114 = .ok (.ifCond .ne 6, 3) := by decide +kernel
theorem dX6_whyNot_117 : decode cX6_whyNot 117 = .ok (.bipush (-2), 2) := by decide +kernel
theorem dX6_whyNot_119 : decode cX6_whyNot 119 = .ok (.ireturn, 1) := by decide +kernel
theorem dX6_whyNot_120 : decode cX6_whyNot 120 = .ok (.iinc 3 3, 3) := by decide +kernel
theorem dX6_whyNot_123 : decode cX6_whyNot 123 = .ok (.goto (-73), 3) := by decide +kernel
theorem dX6_whyNot_126 : decode cX6_whyNot 126 = .ok (.iconst 0, 1) := by decide +kernel
theorem dX6_whyNot_127 : decode cX6_whyNot 127 = .ok (.ireturn, 1) := by decide +kernel
theorem dX6_isSo_0 : decode cX6_isSo 0 = .ok (.iconst 0, 1) := by decide +kernel
theorem dX6_isSo_1 : decode cX6_isSo 1 = .ok (.istore_n 2, 1) := by decide +kernel
theorem dX6_isSo_2 : decode cX6_isSo 2 = .ok (.iload_n 2, 1) := by decide +kernel
theorem dX6_isSo_3 : decode cX6_isSo 3 = .ok (.aload_n 0, 1) := by decide +kernel
theorem dX6_isSo_4 : decode cX6_isSo 4 = .ok (.getfield 13, 3) := by decide +kernel
theorem dX6_isSo_7 : decode cX6_isSo 7 = .ok (.iload_n 1, 1) := by decide +kernel
theorem dX6_isSo_8 : decode cX6_isSo 8 = .ok (.iaload, 1) := by decide +kernel
theorem dX6_isSo_9 : decode cX6_isSo 9 = .ok (.if_icmp .ge 51, 3) := by decide +kernel
theorem dX6_isSo_12 : decode cX6_isSo 12 = .ok (.bipush 60, 2) := by decide +kernel
theorem dX6_isSo_14 : decode cX6_isSo 14 = .ok (.iload_n 1, 1) := by decide +kernel
theorem dX6_isSo_15 : decode cX6_isSo 15 = .ok (.imul, 1) := by decide +kernel
theorem dX6_isSo_16 : decode cX6_isSo 16 = .ok (.iload_n 2, 1) := by decide +kernel
theorem dX6_isSo_17 : decode cX6_isSo 17 = .ok (.iadd, 1) := by decide +kernel
theorem dX6_isSo_18 : decode cX6_isSo 18 = .ok (.istore_n 3, 1) := by decide +kernel
theorem dX6_isSo_19 : decode cX6_isSo 19 = .ok (.aload_n 0, 1) := by decide +kernel
theorem dX6_isSo_20 : decode cX6_isSo 20 = .ok (.aload_n 0, 1) := by decide +kernel
theorem dX6_isSo_21 : decode cX6_isSo 21 = .ok (.getfield 16, 3) := by decide +kernel
theorem dX6_isSo_24 : decode cX6_isSo 24 = .ok (.iload_n 3, 1) := by decide +kernel
theorem dX6_isSo_25 : decode cX6_isSo 25 = .ok (.laload, 1) := by decide +kernel
theorem dX6_isSo_26 : decode cX6_isSo 26 = .ok (.l2i, 1) := by decide +kernel
theorem dX6_isSo_27 : decode cX6_isSo 27 = .ok (.aload_n 0, 1) := by decide +kernel
theorem dX6_isSo_28 : decode cX6_isSo 28 = .ok (.getfield 16, 3) := by decide +kernel
theorem dX6_isSo_31 : decode cX6_isSo 31 = .ok (.iload_n 3, 1) := by decide +kernel
theorem dX6_isSo_32 : decode cX6_isSo 32 = .ok (.iconst 1, 1) := by decide +kernel
theorem dX6_isSo_33 : decode cX6_isSo 33 = .ok (.iadd, 1) := by decide +kernel
theorem dX6_isSo_34 : decode cX6_isSo 34 = .ok (.laload, 1) := by decide +kernel
theorem dX6_isSo_35 : decode cX6_isSo 35 = .ok (.l2i, 1) := by decide +kernel
theorem dX6_isSo_36 : decode cX6_isSo 36 = .ok (.invokevirtual 283, 3) := by decide +kernel
theorem dX6_isSo_39 : decode cX6_isSo 39 = .ok (.i2l, 1) := by decide +kernel
theorem dX6_isSo_40 : decode cX6_isSo 40 = .ok (.aload_n 0, 1) := by decide +kernel
theorem dX6_isSo_41 : decode cX6_isSo 41 = .ok (.getfield 16, 3) := by decide +kernel
theorem dX6_isSo_44 : decode cX6_isSo 44 = .ok (.iload_n 3, 1) := by decide +kernel
theorem dX6_isSo_45 : decode cX6_isSo 45 = .ok (.iconst 2, 1) := by decide +kernel
theorem dX6_isSo_46 : decode cX6_isSo 46 = .ok (.iadd, 1) := by decide +kernel
theorem dX6_isSo_47 : decode cX6_isSo 47 = .ok (.laload, 1) := by decide +kernel
theorem dX6_isSo_48 : decode cX6_isSo 48 = .ok (.lcmp, 1) := by decide +kernel
theorem dX6_isSo_49 : decode cX6_isSo 49 = .ok (.ifCond .eq 5, 3) := by decide +kernel
theorem dX6_isSo_52 : decode cX6_isSo 52 = .ok (.iconst 0, 1) := by decide +kernel
theorem dX6_isSo_53 : decode cX6_isSo 53 = .ok (.ireturn, 1) := by decide +kernel
theorem dX6_isSo_54 : decode cX6_isSo 54 = .ok (.iinc 2 3, 3) := by decide +kernel
theorem dX6_isSo_57 : decode cX6_isSo 57 = .ok (.goto (-55), 3) := by decide +kernel
theorem dX6_isSo_60 : decode cX6_isSo 60 = .ok (.iconst 1, 1) := by decide +kernel
theorem dX6_isSo_61 : decode cX6_isSo 61 = .ok (.ireturn, 1) := by decide +kernel
theorem dX6_laysDates_0 : decode cX6_laysDates 0 = .ok (.aload_n 0, 1) := by decide +kernel
theorem dX6_laysDates_1 : decode cX6_laysDates 1 = .ok (.iconst 0, 1) := by decide +kernel
theorem dX6_laysDates_2 : decode cX6_laysDates 2 = .ok (.putfield 368, 3) := by decide +kernel
theorem dX6_laysDates_5 : decode cX6_laysDates 5 = .ok (.iconst 0, 1) := by decide +kernel
theorem dX6_laysDates_6 : decode cX6_laysDates 6 = .ok (.istore_n 3, 1) := by decide +kernel
theorem dX6_laysDates_7 : decode cX6_laysDates 7 = .ok (.iload_n 3, 1) := by decide +kernel
theorem dX6_laysDates_8 : decode cX6_laysDates 8 = .ok (.sipush 1281, 3) := by decide +kernel
theorem dX6_laysDates_11 : decode cX6_laysDates 11 = .ok (.if_icmp .ge 16, 3) := by decide +kernel
theorem dX6_laysDates_14 : decode cX6_laysDates 14 = .ok (.aload_n 0, 1) := by decide +kernel
theorem dX6_laysDates_15 : decode cX6_laysDates 15 = .ok (.getfield 71, 3) := by decide +kernel
theorem dX6_laysDates_18 : decode cX6_laysDates 18 = .ok (.iload_n 3, 1) := by decide +kernel
theorem dX6_laysDates_19 : decode cX6_laysDates 19 = .ok (.iconst 0, 1) := by decide +kernel
theorem dX6_laysDates_20 : decode cX6_laysDates 20 = .ok (.iastore, 1) := by decide +kernel
theorem dX6_laysDates_21 : decode cX6_laysDates 21 = .ok (.iinc 3 1, 3) := by decide +kernel
theorem dX6_laysDates_24 : decode cX6_laysDates 24 = .ok (.goto (-17), 3) := by decide +kernel
theorem dX6_laysDates_27 : decode cX6_laysDates 27 = .ok (.iconst 0, 1) := by decide +kernel
theorem dX6_laysDates_28 : decode cX6_laysDates 28 = .ok (.istore_n 3, 1) := by decide +kernel
theorem dX6_laysDates_29 : decode cX6_laysDates 29 = .ok (.iload_n 3, 1) := by decide +kernel
theorem dX6_laysDates_30 : decode cX6_laysDates 30 = .ok (.aload_n 0, 1) := by decide +kernel
theorem dX6_laysDates_31 : decode cX6_laysDates 31 = .ok (.invokevirtual 243, 3) := by decide +kernel
theorem dX6_laysDates_34 : decode cX6_laysDates 34 = .ok (.if_icmp .gt 87, 3) := by decide +kernel
theorem dX6_laysDates_37 : decode cX6_laysDates 37 = .ok (.aload_n 0, 1) := by decide +kernel
theorem dX6_laysDates_38 : decode cX6_laysDates 38 = .ok (.invokevirtual 315, 3) := by decide +kernel
theorem dX6_laysDates_41 : decode cX6_laysDates 41 = .ok (.aload_n 0, 1) := by decide +kernel
theorem dX6_laysDates_42 : decode cX6_laysDates 42 = .ok (.getfield 53, 3) := by decide +kernel
theorem dX6_laysDates_45 : decode cX6_laysDates 45 = .ok (.iload_n 2, 1) := by decide +kernel
theorem dX6_laysDates_46 : decode cX6_laysDates 46 = .ok (.iload_n 3, 1) := by decide +kernel
theorem dX6_laysDates_47 : decode cX6_laysDates 47 = .ok (.iastore, 1) := by decide +kernel
theorem dX6_laysDates_48 : decode cX6_laysDates 48 = .ok (.aload_n 0, 1) := by decide +kernel
theorem dX6_laysDates_49 : decode cX6_laysDates 49 = .ok (.invokevirtual 318, 3) := by decide +kernel
theorem dX6_laysDates_52 : decode cX6_laysDates 52 = .ok (.aload_n 0, 1) := by decide +kernel
theorem dX6_laysDates_53 : decode cX6_laysDates 53 = .ok (.iload_n 1, 1) := by decide +kernel
theorem dX6_laysDates_54 : decode cX6_laysDates 54 = .ok (.invokevirtual 371, 3) := by decide +kernel
theorem dX6_laysDates_57 : decode cX6_laysDates 57 = .ok (.ifCond .ne 6, 3) := by decide +kernel
theorem dX6_laysDates_60 : decode cX6_laysDates 60 = .ok (.goto 55, 3) := by decide +kernel
theorem dX6_laysDates_63 : decode cX6_laysDates 63 = .ok (.aload_n 0, 1) := by decide +kernel
theorem dX6_laysDates_64 : decode cX6_laysDates 64 = .ok (.dup, 1) := by decide +kernel
theorem dX6_laysDates_65 : decode cX6_laysDates 65 = .ok (.getfield 368, 3) := by decide +kernel
theorem dX6_laysDates_68 : decode cX6_laysDates 68 = .ok (.iconst 1, 1) := by decide +kernel
theorem dX6_laysDates_69 : decode cX6_laysDates 69 = .ok (.iload_n 3, 1) := by decide +kernel
theorem dX6_laysDates_70 : decode cX6_laysDates 70 = .ok (.ishl, 1) := by decide +kernel
theorem dX6_laysDates_71 : decode cX6_laysDates 71 = .ok (.ior, 1) := by decide +kernel
theorem dX6_laysDates_72 : decode cX6_laysDates 72 = .ok (.putfield 368, 3) := by decide +kernel
theorem dX6_laysDates_75 : decode cX6_laysDates 75 = .ok (.iconst 0, 1) := by decide +kernel
theorem dX6_laysDates_76 : decode cX6_laysDates 76 = .ok (.istore 4, 2) := by decide +kernel
theorem dX6_laysDates_78 : decode cX6_laysDates 78 = .ok (.iload 4, 2) := by decide +kernel
theorem dX6_laysDates_80 : decode cX6_laysDates 80 = .ok (.aload_n 0, 1) := by decide +kernel
theorem dX6_laysDates_81 : decode cX6_laysDates 81 = .ok (.invokevirtual 243, 3) := by decide +kernel
theorem dX6_laysDates_84 : decode cX6_laysDates 84 = .ok (.if_icmp .gt 31, 3) := by decide +kernel
theorem dX6_laysDates_87 : decode cX6_laysDates 87 = .ok (.aload_n 0, 1) := by decide +kernel
theorem dX6_laysDates_88 : decode cX6_laysDates 88 = .ok (.getfield 71, 3) := by decide +kernel
theorem dX6_laysDates_91 : decode cX6_laysDates 91 = .ok (.bipush 61, 2) := by decide +kernel
theorem dX6_laysDates_93 : decode cX6_laysDates 93 = .ok (.iload 4, 2) := by decide +kernel
theorem dX6_laysDates_95 : decode cX6_laysDates 95 = .ok (.imul, 1) := by decide +kernel
theorem dX6_laysDates_96 : decode cX6_laysDates 96 = .ok (.aload_n 0, 1) := by decide +kernel
theorem dX6_laysDates_97 : decode cX6_laysDates 97 = .ok (.iload_n 2, 1) := by decide +kernel
theorem dX6_laysDates_98 : decode cX6_laysDates 98 = .ok (.iload 4, 2) := by decide +kernel
theorem dX6_laysDates_100 : decode cX6_laysDates 100 = .ok (.invokevirtual 283, 3) := by decide +kernel
theorem dX6_laysDates_103 : decode cX6_laysDates 103 = .ok (.iadd, 1) := by decide +kernel
theorem dX6_laysDates_104 : decode cX6_laysDates 104 = .ok (.dup2, 1) := by decide +kernel
theorem dX6_laysDates_105 : decode cX6_laysDates 105 = .ok (.iaload, 1) := by decide +kernel
theorem dX6_laysDates_106 : decode cX6_laysDates 106 = .ok (.iconst 1, 1) := by decide +kernel
theorem dX6_laysDates_107 : decode cX6_laysDates 107 = .ok (.iadd, 1) := by decide +kernel
theorem dX6_laysDates_108 : decode cX6_laysDates 108 = .ok (.iastore, 1) := by decide +kernel
theorem dX6_laysDates_109 : decode cX6_laysDates 109 = .ok (.iinc 4 1, 3) := by decide +kernel
theorem dX6_laysDates_112 : decode cX6_laysDates 112 = .ok (.goto (-34), 3) := by decide +kernel
theorem dX6_laysDates_115 : decode cX6_laysDates 115 = .ok (.iinc 3 1, 3) := by decide +kernel
theorem dX6_laysDates_118 : decode cX6_laysDates 118 = .ok (.goto (-89), 3) := by decide +kernel
theorem dX6_laysDates_121 : decode cX6_laysDates 121 = .ok (.aload_n 0, 1) := by decide +kernel
theorem dX6_laysDates_122 : decode cX6_laysDates 122 = .ok (.iconst (-1), 1) := by decide +kernel
theorem dX6_laysDates_123 : decode cX6_laysDates 123 = .ok (.putfield 374, 3) := by decide +kernel
theorem dX6_laysDates_126 : decode cX6_laysDates 126 = .ok (.aload_n 0, 1) := by decide +kernel
theorem dX6_laysDates_127 : decode cX6_laysDates 127 = .ok (.aload_n 0, 1) := by decide +kernel
theorem dX6_laysDates_128 : decode cX6_laysDates 128 = .ok (.getfield 368, 3) := by decide +kernel
theorem dX6_laysDates_131 : decode cX6_laysDates 131 = .ok (.invokestatic 377, 3) := by decide +kernel
theorem dX6_laysDates_134 : decode cX6_laysDates 134 = .ok (.putfield 380, 3) := by decide +kernel
theorem dX6_laysDates_137 : decode cX6_laysDates 137 = .ok (.iconst 0, 1) := by decide +kernel
theorem dX6_laysDates_138 : decode cX6_laysDates 138 = .ok (.istore_n 3, 1) := by decide +kernel
theorem dX6_laysDates_139 : decode cX6_laysDates 139 = .ok (.iload_n 3, 1) := by decide +kernel
theorem dX6_laysDates_140 : decode cX6_laysDates 140 = .ok (.aload_n 0, 1) := by decide +kernel
theorem dX6_laysDates_141 : decode cX6_laysDates 141 = .ok (.invokevirtual 243, 3) := by decide +kernel
theorem dX6_laysDates_144 : decode cX6_laysDates 144 = .ok (.if_icmp .gt 70, 3) := by decide +kernel
theorem dX6_laysDates_147 : decode cX6_laysDates 147 = .ok (.iconst 0, 1) := by decide +kernel
theorem dX6_laysDates_148 : decode cX6_laysDates 148 = .ok (.istore 4, 2) := by decide +kernel
theorem dX6_laysDates_150 : decode cX6_laysDates 150 = .ok (.iconst 0, 1) := by decide +kernel
theorem dX6_laysDates_151 : decode cX6_laysDates 151 = .ok (.istore 5, 2) := by decide +kernel
theorem dX6_laysDates_153 : decode cX6_laysDates 153 = .ok (.iload 5, 2) := by decide +kernel
theorem dX6_laysDates_155 : decode cX6_laysDates 155 = .ok (.bipush 60, 2) := by decide +kernel
theorem dX6_laysDates_157 : decode cX6_laysDates 157 = .ok (.if_icmp .gt 28, 3) := by decide +kernel
theorem dX6_laysDates_160 : decode cX6_laysDates 160 = .ok (.iload 4, 2) := by decide +kernel
theorem dX6_laysDates_162 : decode cX6_laysDates 162 = .ok (.aload_n 0, 1) := by decide +kernel
theorem dX6_laysDates_163 : decode cX6_laysDates 163 = .ok (.getfield 71, 3) := by decide +kernel
theorem dX6_laysDates_166 : decode cX6_laysDates 166 = .ok (.bipush 61, 2) := by decide +kernel
theorem dX6_laysDates_168 : decode cX6_laysDates 168 = .ok (.iload_n 3, 1) := by decide +kernel
theorem dX6_laysDates_169 : decode cX6_laysDates 169 = .ok (.imul, 1) := by decide +kernel
theorem dX6_laysDates_170 : decode cX6_laysDates 170 = .ok (.iload 5, 2) := by decide +kernel
theorem dX6_laysDates_172 : decode cX6_laysDates 172 = .ok (.iadd, 1) := by decide +kernel
theorem dX6_laysDates_173 : decode cX6_laysDates 173 = .ok (.iaload, 1) := by decide +kernel
theorem dX6_laysDates_174 : decode cX6_laysDates 174 = .ok (.invokestatic 280, 3) := by decide +kernel
theorem dX6_laysDates_177 : decode cX6_laysDates 177 = .ok (.istore 4, 2) := by decide +kernel
theorem dX6_laysDates_179 : decode cX6_laysDates 179 = .ok (.iinc 5 1, 3) := by decide +kernel
theorem dX6_laysDates_182 : decode cX6_laysDates 182 = .ok (.goto (-29), 3) := by decide +kernel
theorem dX6_laysDates_185 : decode cX6_laysDates 185 = .ok (.iload 4, 2) := by decide +kernel
theorem dX6_laysDates_187 : decode cX6_laysDates 187 = .ok (.aload_n 0, 1) := by decide +kernel
theorem dX6_laysDates_188 : decode cX6_laysDates 188 = .ok (.getfield 380, 3) := by decide +kernel
theorem dX6_laysDates_191 : decode cX6_laysDates 191 = .ok (.if_icmp .lt 6, 3) := by decide +kernel
theorem dX6_laysDates_194 : decode cX6_laysDates 194 = .ok (.goto 14, 3) := by decide +kernel
theorem dX6_laysDates_197 : decode cX6_laysDates 197 = .ok (.aload_n 0, 1) := by decide +kernel
theorem dX6_laysDates_198 : decode cX6_laysDates 198 = .ok (.iload_n 3, 1) := by decide +kernel
theorem dX6_laysDates_199 : decode cX6_laysDates 199 = .ok (.putfield 374, 3) := by decide +kernel
theorem dX6_laysDates_202 : decode cX6_laysDates 202 = .ok (.aload_n 0, 1) := by decide +kernel
theorem dX6_laysDates_203 : decode cX6_laysDates 203 = .ok (.iload 4, 2) := by decide +kernel
theorem dX6_laysDates_205 : decode cX6_laysDates 205 = .ok (.putfield 380, 3) := by decide +kernel
theorem dX6_laysDates_208 : decode cX6_laysDates 208 = .ok (.iinc 3 1, 3) := by decide +kernel
theorem dX6_laysDates_211 : decode cX6_laysDates 211 = .ok (.goto (-72), 3) := by decide +kernel
theorem dX6_laysDates_214 : decode cX6_laysDates 214 = .ok (.return_, 1) := by decide +kernel
theorem dX6_dates_0 : decode cX6_dates 0 = .ok (.aload_n 0, 1) := by decide +kernel
theorem dX6_dates_1 : decode cX6_dates 1 = .ok (.iconst 0, 1) := by decide +kernel
theorem dX6_dates_2 : decode cX6_dates 2 = .ok (.putfield 74, 3) := by decide +kernel
theorem dX6_dates_5 : decode cX6_dates 5 = .ok (.aload_n 0, 1) := by decide +kernel
theorem dX6_dates_6 : decode cX6_dates 6 = .ok (.iload_n 1, 1) := by decide +kernel
theorem dX6_dates_7 : decode cX6_dates 7 = .ok (.aload_n 0, 1) := by decide +kernel
theorem dX6_dates_8 : decode cX6_dates 8 = .ok (.iload_n 2, 1) := by decide +kernel
theorem dX6_dates_9 : decode cX6_dates 9 = .ok (.i2l, 1) := by decide +kernel
theorem dX6_dates_10 : decode cX6_dates 10 = .ok (.invokevirtual 246, 3) := by decide +kernel
theorem dX6_dates_13 : decode cX6_dates 13 = .ok (.invokevirtual 383, 3) := by decide +kernel
theorem dX6_dates_16 : decode cX6_dates 16 = .ok (.istore_n 3, 1) := by decide +kernel
theorem dX6_dates_17 : decode cX6_dates 17 = .ok (.iload_n 3, 1) := by decide +kernel
theorem dX6_dates_18 : decode cX6_dates 18 = .ok (.ifCond .eq 5, 3) := by decide +kernel
theorem dX6_dates_21 : decode cX6_dates 21 = .ok (.iload_n 3, 1) := by decide +kernel
theorem dX6_dates_22 : decode cX6_dates 22 = .ok (.ireturn, 1) := by decide +kernel
theorem dX6_dates_23 : decode cX6_dates 23 = .ok (.aload_n 0, 1) := by decide +kernel
theorem dX6_dates_24 : decode cX6_dates 24 = .ok (.iload_n 1, 1) := by decide +kernel
theorem dX6_dates_25 : decode cX6_dates 25 = .ok (.iload_n 2, 1) := by decide +kernel
theorem dX6_dates_26 : decode cX6_dates 26 = .ok (.invokevirtual 387, 3) := by decide +kernel
theorem dX6_dates_29 : decode cX6_dates 29 = .ok (.aload_n 0, 1) := by decide +kernel
theorem dX6_dates_30 : decode cX6_dates 30 = .ok (.getfield 368, 3) := by decide +kernel
theorem dX6_dates_33 : decode cX6_dates 33 = .ok (.invokestatic 377, 3) := by decide +kernel
theorem dX6_dates_36 : decode cX6_dates 36 = .ok (.ireturn, 1) := by decide +kernel
theorem dX6_first_0 : decode cX6_first 0 = .ok (.aload_n 0, 1) := by decide +kernel
theorem dX6_first_1 : decode cX6_first 1 = .ok (.iconst 0, 1) := by decide +kernel
theorem dX6_first_2 : decode cX6_first 2 = .ok (.putfield 74, 3) := by decide +kernel
theorem dX6_first_5 : decode cX6_first 5 = .ok (.aload_n 0, 1) := by decide +kernel
theorem dX6_first_6 : decode cX6_first 6 = .ok (.iload_n 1, 1) := by decide +kernel
theorem dX6_first_7 : decode cX6_first 7 = .ok (.aload_n 0, 1) := by decide +kernel
theorem dX6_first_8 : decode cX6_first 8 = .ok (.iload_n 2, 1) := by decide +kernel
theorem dX6_first_9 : decode cX6_first 9 = .ok (.i2l, 1) := by decide +kernel
theorem dX6_first_10 : decode cX6_first 10 = .ok (.invokevirtual 246, 3) := by decide +kernel
theorem dX6_first_13 : decode cX6_first 13 = .ok (.invokevirtual 383, 3) := by decide +kernel
theorem dX6_first_16 : decode cX6_first 16 = .ok (.istore_n 3, 1) := by decide +kernel
theorem dX6_first_17 : decode cX6_first 17 = .ok (.iload_n 3, 1) := by decide +kernel
theorem dX6_first_18 : decode cX6_first 18 = .ok (.ifCond .eq 5, 3) := by decide +kernel
theorem dX6_first_21 : decode cX6_first 21 = .ok (.iload_n 3, 1) := by decide +kernel
theorem dX6_first_22 : decode cX6_first 22 = .ok (.ireturn, 1) := by decide +kernel
theorem dX6_first_23 : decode cX6_first 23 = .ok (.aload_n 0, 1) := by decide +kernel
theorem dX6_first_24 : decode cX6_first 24 = .ok (.iload_n 1, 1) := by decide +kernel
theorem dX6_first_25 : decode cX6_first 25 = .ok (.iload_n 2, 1) := by decide +kernel
theorem dX6_first_26 : decode cX6_first 26 = .ok (.invokevirtual 387, 3) := by decide +kernel
theorem dX6_first_29 : decode cX6_first 29 = .ok (.iconst 0, 1) := by decide +kernel
theorem dX6_first_30 : decode cX6_first 30 = .ok (.istore 4, 2) := by decide +kernel
theorem dX6_first_32 : decode cX6_first 32 = .ok (.iload 4, 2) := by decide +kernel
theorem dX6_first_34 : decode cX6_first 34 = .ok (.aload_n 0, 1) := by decide +kernel
theorem dX6_first_35 : decode cX6_first 35 = .ok (.invokevirtual 243, 3) := by decide +kernel
theorem dX6_first_38 : decode cX6_first 38 = .ok (.if_icmp .gt 24, 3) := by decide +kernel
theorem dX6_first_41 : decode cX6_first 41 = .ok (.aload_n 0, 1) := by decide +kernel
theorem dX6_first_42 : decode cX6_first 42 = .ok (.getfield 368, 3) := by decide +kernel
theorem dX6_first_45 : decode cX6_first 45 = .ok (.iload 4, 2) := by decide +kernel
theorem dX6_first_47 : decode cX6_first 47 = .ok (.invokestatic 273, 3) := by decide +kernel
theorem dX6_first_50 : decode cX6_first 50 = .ok (.ifCond .eq 6, 3) := by decide +kernel
theorem dX6_first_53 : decode cX6_first 53 = .ok (.iload 4, 2) := by decide +kernel
theorem dX6_first_55 : decode cX6_first 55 = .ok (.ireturn, 1) := by decide +kernel
theorem dX6_first_56 : decode cX6_first 56 = .ok (.iinc 4 1, 3) := by decide +kernel
theorem dX6_first_59 : decode cX6_first 59 = .ok (.goto (-27), 3) := by decide +kernel
theorem dX6_first_62 : decode cX6_first 62 = .ok (.iconst (-1), 1) := by decide +kernel
theorem dX6_first_63 : decode cX6_first 63 = .ok (.ireturn, 1) := by decide +kernel
theorem dX6_last_0 : decode cX6_last 0 = .ok (.aload_n 0, 1) := by decide +kernel
theorem dX6_last_1 : decode cX6_last 1 = .ok (.iconst 0, 1) := by decide +kernel
theorem dX6_last_2 : decode cX6_last 2 = .ok (.putfield 74, 3) := by decide +kernel
theorem dX6_last_5 : decode cX6_last 5 = .ok (.aload_n 0, 1) := by decide +kernel
theorem dX6_last_6 : decode cX6_last 6 = .ok (.iload_n 1, 1) := by decide +kernel
theorem dX6_last_7 : decode cX6_last 7 = .ok (.aload_n 0, 1) := by decide +kernel
theorem dX6_last_8 : decode cX6_last 8 = .ok (.iload_n 2, 1) := by decide +kernel
theorem dX6_last_9 : decode cX6_last 9 = .ok (.i2l, 1) := by decide +kernel
theorem dX6_last_10 : decode cX6_last 10 = .ok (.invokevirtual 246, 3) := by decide +kernel
theorem dX6_last_13 : decode cX6_last 13 = .ok (.invokevirtual 383, 3) := by decide +kernel
theorem dX6_last_16 : decode cX6_last 16 = .ok (.istore_n 3, 1) := by decide +kernel
theorem dX6_last_17 : decode cX6_last 17 = .ok (.iload_n 3, 1) := by decide +kernel
theorem dX6_last_18 : decode cX6_last 18 = .ok (.ifCond .eq 5, 3) := by decide +kernel
theorem dX6_last_21 : decode cX6_last 21 = .ok (.iload_n 3, 1) := by decide +kernel
theorem dX6_last_22 : decode cX6_last 22 = .ok (.ireturn, 1) := by decide +kernel
theorem dX6_last_23 : decode cX6_last 23 = .ok (.aload_n 0, 1) := by decide +kernel
theorem dX6_last_24 : decode cX6_last 24 = .ok (.iload_n 1, 1) := by decide +kernel
theorem dX6_last_25 : decode cX6_last 25 = .ok (.iload_n 2, 1) := by decide +kernel
theorem dX6_last_26 : decode cX6_last 26 = .ok (.invokevirtual 387, 3) := by decide +kernel
theorem dX6_last_29 : decode cX6_last 29 = .ok (.aload_n 0, 1) := by decide +kernel
theorem dX6_last_30 : decode cX6_last 30 = .ok (.invokevirtual 243, 3) := by decide +kernel
theorem dX6_last_33 : decode cX6_last 33 = .ok (.istore 4, 2) := by decide +kernel
theorem dX6_last_35 : decode cX6_last 35 = .ok (.iload 4, 2) := by decide +kernel
theorem dX6_last_37 : decode cX6_last 37 = .ok (.ifCond .lt 24, 3) := by decide +kernel
theorem dX6_last_40 : decode cX6_last 40 = .ok (.aload_n 0, 1) := by decide +kernel
theorem dX6_last_41 : decode cX6_last 41 = .ok (.getfield 368, 3) := by decide +kernel
theorem dX6_last_44 : decode cX6_last 44 = .ok (.iload 4, 2) := by decide +kernel
theorem dX6_last_46 : decode cX6_last 46 = .ok (.invokestatic 273, 3) := by decide +kernel
theorem dX6_last_49 : decode cX6_last 49 = .ok (.ifCond .eq 6, 3) := by decide +kernel
theorem dX6_last_52 : decode cX6_last 52 = .ok (.iload 4, 2) := by decide +kernel
theorem dX6_last_54 : decode cX6_last 54 = .ok (.ireturn, 1) := by decide +kernel
theorem dX6_last_55 : decode cX6_last 55 = .ok (.iinc 4 (-1), 3) := by decide +kernel
theorem dX6_last_58 : decode cX6_last 58 = .ok (.goto (-23), 3) := by decide +kernel
theorem dX6_last_61 : decode cX6_last 61 = .ok (.iconst (-1), 1) := by decide +kernel
theorem dX6_last_62 : decode cX6_last 62 = .ok (.ireturn, 1) := by decide +kernel
theorem dX6_ask_0 : decode cX6_ask 0 = .ok (.aload_n 0, 1) := by decide +kernel
theorem dX6_ask_1 : decode cX6_ask 1 = .ok (.iconst 0, 1) := by decide +kernel
theorem dX6_ask_2 : decode cX6_ask 2 = .ok (.putfield 74, 3) := by decide +kernel
theorem dX6_ask_5 : decode cX6_ask 5 = .ok (.aload_n 0, 1) := by decide +kernel
theorem dX6_ask_6 : decode cX6_ask 6 = .ok (.iload_n 1, 1) := by decide +kernel
theorem dX6_ask_7 : decode cX6_ask 7 = .ok (.aload_n 0, 1) := by decide +kernel
theorem dX6_ask_8 : decode cX6_ask 8 = .ok (.iload_n 2, 1) := by decide +kernel
theorem dX6_ask_9 : decode cX6_ask 9 = .ok (.i2l, 1) := by decide +kernel
theorem dX6_ask_10 : decode cX6_ask 10 = .ok (.invokevirtual 246, 3) := by decide +kernel
theorem dX6_ask_13 : decode cX6_ask 13 = .ok (.invokevirtual 383, 3) := by decide +kernel
theorem dX6_ask_16 : decode cX6_ask 16 = .ok (.istore_n 3, 1) := by decide +kernel
theorem dX6_ask_17 : decode cX6_ask 17 = .ok (.iload_n 3, 1) := by decide +kernel
theorem dX6_ask_18 : decode cX6_ask 18 = .ok (.ifCond .eq 5, 3) := by decide +kernel
theorem dX6_ask_21 : decode cX6_ask 21 = .ok (.iload_n 3, 1) := by decide +kernel
theorem dX6_ask_22 : decode cX6_ask 22 = .ok (.ireturn, 1) := by decide +kernel
theorem dX6_ask_23 : decode cX6_ask 23 = .ok (.aload_n 0, 1) := by decide +kernel
theorem dX6_ask_24 : decode cX6_ask 24 = .ok (.iload_n 1, 1) := by decide +kernel
theorem dX6_ask_25 : decode cX6_ask 25 = .ok (.iload_n 2, 1) := by decide +kernel
theorem dX6_ask_26 : decode cX6_ask 26 = .ok (.invokevirtual 387, 3) := by decide +kernel
theorem dX6_ask_29 : decode cX6_ask 29 = .ok (.aload_n 0, 1) := by decide +kernel
theorem dX6_ask_30 : decode cX6_ask 30 = .ok (.getfield 374, 3) := by decide +kernel
theorem dX6_ask_33 : decode cX6_ask 33 = .ok (.ireturn, 1) := by decide +kernel
theorem dX6_leaves_0 : decode cX6_leaves 0 = .ok (.aload_n 0, 1) := by decide +kernel
theorem dX6_leaves_1 : decode cX6_leaves 1 = .ok (.iconst 0, 1) := by decide +kernel
theorem dX6_leaves_2 : decode cX6_leaves 2 = .ok (.putfield 74, 3) := by decide +kernel
theorem dX6_leaves_5 : decode cX6_leaves 5 = .ok (.aload_n 0, 1) := by decide +kernel
theorem dX6_leaves_6 : decode cX6_leaves 6 = .ok (.iload_n 1, 1) := by decide +kernel
theorem dX6_leaves_7 : decode cX6_leaves 7 = .ok (.aload_n 0, 1) := by decide +kernel
theorem dX6_leaves_8 : decode cX6_leaves 8 = .ok (.iload_n 2, 1) := by decide +kernel
theorem dX6_leaves_9 : decode cX6_leaves 9 = .ok (.i2l, 1) := by decide +kernel
theorem dX6_leaves_10 : decode cX6_leaves 10 = .ok (.invokevirtual 246, 3) := by decide +kernel
theorem dX6_leaves_13 : decode cX6_leaves 13 = .ok (.invokevirtual 383, 3) := by decide +kernel
theorem dX6_leaves_16 : decode cX6_leaves 16 = .ok (.istore_n 3, 1) := by decide +kernel
theorem dX6_leaves_17 : decode cX6_leaves 17 = .ok (.iload_n 3, 1) := by decide +kernel
theorem dX6_leaves_18 : decode cX6_leaves 18 = .ok (.ifCond .eq 5, 3) := by decide +kernel
theorem dX6_leaves_21 : decode cX6_leaves 21 = .ok (.iload_n 3, 1) := by decide +kernel
theorem dX6_leaves_22 : decode cX6_leaves 22 = .ok (.ireturn, 1) := by decide +kernel
theorem dX6_leaves_23 : decode cX6_leaves 23 = .ok (.aload_n 0, 1) := by decide +kernel
theorem dX6_leaves_24 : decode cX6_leaves 24 = .ok (.iload_n 1, 1) := by decide +kernel
theorem dX6_leaves_25 : decode cX6_leaves 25 = .ok (.iload_n 2, 1) := by decide +kernel
theorem dX6_leaves_26 : decode cX6_leaves 26 = .ok (.invokevirtual 387, 3) := by decide +kernel
theorem dX6_leaves_29 : decode cX6_leaves 29 = .ok (.aload_n 0, 1) := by decide +kernel
theorem dX6_leaves_30 : decode cX6_leaves 30 = .ok (.getfield 380, 3) := by decide +kernel
theorem dX6_leaves_33 : decode cX6_leaves 33 = .ok (.ireturn, 1) := by decide +kernel
theorem dX6_kinds_0 : decode cX6_kinds 0 = .ok (.aload_n 0, 1) := by decide +kernel
theorem dX6_kinds_1 : decode cX6_kinds 1 = .ok (.iconst 0, 1) := by decide +kernel
theorem dX6_kinds_2 : decode cX6_kinds 2 = .ok (.putfield 74, 3) := by decide +kernel
theorem dX6_kinds_5 : decode cX6_kinds 5 = .ok (.aload_n 0, 1) := by decide +kernel
theorem dX6_kinds_6 : decode cX6_kinds 6 = .ok (.iload_n 1, 1) := by decide +kernel
theorem dX6_kinds_7 : decode cX6_kinds 7 = .ok (.aload_n 0, 1) := by decide +kernel
theorem dX6_kinds_8 : decode cX6_kinds 8 = .ok (.iload_n 2, 1) := by decide +kernel
theorem dX6_kinds_9 : decode cX6_kinds 9 = .ok (.i2l, 1) := by decide +kernel
theorem dX6_kinds_10 : decode cX6_kinds 10 = .ok (.invokevirtual 246, 3) := by decide +kernel
theorem dX6_kinds_13 : decode cX6_kinds 13 = .ok (.invokevirtual 383, 3) := by decide +kernel
theorem dX6_kinds_16 : decode cX6_kinds 16 = .ok (.istore_n 3, 1) := by decide +kernel
theorem dX6_kinds_17 : decode cX6_kinds 17 = .ok (.iload_n 3, 1) := by decide +kernel
theorem dX6_kinds_18 : decode cX6_kinds 18 = .ok (.ifCond .eq 5, 3) := by decide +kernel
theorem dX6_kinds_21 : decode cX6_kinds 21 = .ok (.iload_n 3, 1) := by decide +kernel
theorem dX6_kinds_22 : decode cX6_kinds 22 = .ok (.ireturn, 1) := by decide +kernel
theorem dX6_kinds_23 : decode cX6_kinds 23 = .ok (.iconst 0, 1) := by decide +kernel
theorem dX6_kinds_24 : decode cX6_kinds 24 = .ok (.istore 4, 2) := by decide +kernel
theorem dX6_kinds_26 : decode cX6_kinds 26 = .ok (.iconst 0, 1) := by decide +kernel
theorem dX6_kinds_27 : decode cX6_kinds 27 = .ok (.istore 5, 2) := by decide +kernel
theorem dX6_kinds_29 : decode cX6_kinds 29 = .ok (.iload 5, 2) := by decide +kernel
theorem dX6_kinds_31 : decode cX6_kinds 31 = .ok (.aload_n 0, 1) := by decide +kernel
theorem dX6_kinds_32 : decode cX6_kinds 32 = .ok (.getfield 34, 3) := by decide +kernel
theorem dX6_kinds_35 : decode cX6_kinds 35 = .ok (.iconst 3, 1) := by decide +kernel
theorem dX6_kinds_36 : decode cX6_kinds 36 = .ok (.iaload, 1) := by decide +kernel
theorem dX6_kinds_37 : decode cX6_kinds 37 = .ok (.if_icmp .ge 46, 3) := by decide +kernel
theorem dX6_kinds_40 : decode cX6_kinds 40 = .ok (.aload_n 0, 1) := by decide +kernel
theorem dX6_kinds_41 : decode cX6_kinds 41 = .ok (.invokevirtual 315, 3) := by decide +kernel
theorem dX6_kinds_44 : decode cX6_kinds 44 = .ok (.aload_n 0, 1) := by decide +kernel
theorem dX6_kinds_45 : decode cX6_kinds 45 = .ok (.getfield 56, 3) := by decide +kernel
theorem dX6_kinds_48 : decode cX6_kinds 48 = .ok (.iload_n 2, 1) := by decide +kernel
theorem dX6_kinds_49 : decode cX6_kinds 49 = .ok (.iload 5, 2) := by decide +kernel
theorem dX6_kinds_51 : decode cX6_kinds 51 = .ok (.iastore, 1) := by decide +kernel
theorem dX6_kinds_52 : decode cX6_kinds 52 = .ok (.aload_n 0, 1) := by decide +kernel
theorem dX6_kinds_53 : decode cX6_kinds 53 = .ok (.invokevirtual 318, 3) := by decide +kernel
theorem dX6_kinds_56 : decode cX6_kinds 56 = .ok (.iload 4, 2) := by decide +kernel
theorem dX6_kinds_58 : decode cX6_kinds 58 = .ok (.aload_n 0, 1) := by decide +kernel
theorem dX6_kinds_59 : decode cX6_kinds 59 = .ok (.iload_n 1, 1) := by decide +kernel
theorem dX6_kinds_60 : decode cX6_kinds 60 = .ok (.invokevirtual 371, 3) := by decide +kernel
theorem dX6_kinds_63 : decode cX6_kinds 63 = .ok (.ifCond .eq 10, 3) := by decide +kernel
theorem dX6_kinds_66 : decode cX6_kinds 66 = .ok (.iconst 1, 1) := by decide +kernel
theorem dX6_kinds_67 : decode cX6_kinds 67 = .ok (.iload 5, 2) := by decide +kernel
theorem dX6_kinds_69 : decode cX6_kinds 69 = .ok (.ishl, 1) := by decide +kernel
theorem dX6_kinds_70 : decode cX6_kinds 70 = .ok (.goto 4, 3) := by decide +kernel
theorem dX6_kinds_73 : decode cX6_kinds 73 = .ok (.iconst 0, 1) := by decide +kernel
theorem dX6_kinds_74 : decode cX6_kinds 74 = .ok (.ior, 1) := by decide +kernel
theorem dX6_kinds_75 : decode cX6_kinds 75 = .ok (.istore 4, 2) := by decide +kernel
theorem dX6_kinds_77 : decode cX6_kinds 77 = .ok (.iinc 5 1, 3) := by decide +kernel
theorem dX6_kinds_80 : decode cX6_kinds 80 = .ok (.goto (-51), 3) := by decide +kernel
theorem dX6_kinds_83 : decode cX6_kinds 83 = .ok (.iload 4, 2) := by decide +kernel
theorem dX6_kinds_85 : decode cX6_kinds 85 = .ok (.ireturn, 1) := by decide +kernel
theorem dX6_allBy_0 : decode cX6_allBy 0 = .ok (.aload_n 0, 1) := by decide +kernel
theorem dX6_allBy_1 : decode cX6_allBy 1 = .ok (.invokevirtual 315, 3) := by decide +kernel
theorem dX6_allBy_4 : decode cX6_allBy 4 = .ok (.aload_n 0, 1) := by decide +kernel
theorem dX6_allBy_5 : decode cX6_allBy 5 = .ok (.iload_n 1, 1) := by decide +kernel
theorem dX6_allBy_6 : decode cX6_allBy 6 = .ok (.putfield 252, 3) := by decide +kernel
theorem dX6_allBy_9 : decode cX6_allBy 9 = .ok (.aload_n 0, 1) := by decide +kernel
theorem dX6_allBy_10 : decode cX6_allBy 10 = .ok (.invokevirtual 318, 3) := by decide +kernel
theorem dX6_allBy_13 : decode cX6_allBy 13 = .ok (.aload_n 0, 1) := by decide +kernel
theorem dX6_allBy_14 : decode cX6_allBy 14 = .ok (.aload_n 0, 1) := by decide +kernel
theorem dX6_allBy_15 : decode cX6_allBy 15 = .ok (.invokevirtual 243, 3) := by decide +kernel
theorem dX6_allBy_18 : decode cX6_allBy 18 = .ok (.invokevirtual 346, 3) := by decide +kernel
theorem dX6_allBy_21 : decode cX6_allBy 21 = .ok (.ireturn, 1) := by decide +kernel
theorem dX6_laws_0 : decode cX6_laws 0 = .ok (.aload_n 0, 1) := by decide +kernel
theorem dX6_laws_1 : decode cX6_laws 1 = .ok (.iconst 0, 1) := by decide +kernel
theorem dX6_laws_2 : decode cX6_laws 2 = .ok (.putfield 74, 3) := by decide +kernel
theorem dX6_laws_5 : decode cX6_laws 5 = .ok (.aload_n 0, 1) := by decide +kernel
theorem dX6_laws_6 : decode cX6_laws 6 = .ok (.iload_n 1, 1) := by decide +kernel
theorem dX6_laws_7 : decode cX6_laws 7 = .ok (.iconst 1, 1) := by decide +kernel
theorem dX6_laws_8 : decode cX6_laws 8 = .ok (.invokevirtual 383, 3) := by decide +kernel
theorem dX6_laws_11 : decode cX6_laws 11 = .ok (.istore_n 2, 1) := by decide +kernel
theorem dX6_laws_12 : decode cX6_laws 12 = .ok (.iload_n 2, 1) := by decide +kernel
theorem dX6_laws_13 : decode cX6_laws 13 = .ok (.ifCond .eq 5, 3) := by decide +kernel
theorem dX6_laws_16 : decode cX6_laws 16 = .ok (.iload_n 2, 1) := by decide +kernel
theorem dX6_laws_17 : decode cX6_laws 17 = .ok (.ireturn, 1) := by decide +kernel
theorem dX6_laws_18 : decode cX6_laws 18 = .ok (.iconst 0, 1) := by decide +kernel
theorem dX6_laws_19 : decode cX6_laws 19 = .ok (.istore_n 3, 1) := by decide +kernel
theorem dX6_laws_20 : decode cX6_laws 20 = .ok (.iconst 0, 1) := by decide +kernel
theorem dX6_laws_21 : decode cX6_laws 21 = .ok (.istore 4, 2) := by decide +kernel
theorem dX6_laws_23 : decode cX6_laws 23 = .ok (.iload 4, 2) := by decide +kernel
theorem dX6_laws_25 : decode cX6_laws 25 = .ok (.iconst 4, 1) := by decide +kernel
theorem dX6_laws_26 : decode cX6_laws 26 = .ok (.if_icmp .ge 35, 3) := by decide +kernel
theorem dX6_laws_29 : decode cX6_laws 29 = .ok (.aload_n 0, 1) := by decide +kernel
theorem dX6_laws_30 : decode cX6_laws 30 = .ok (.iload 4, 2) := by decide +kernel
theorem dX6_laws_32 : decode cX6_laws 32 = .ok (.invokevirtual 390, 3) := by decide +kernel
theorem dX6_laws_35 : decode cX6_laws 35 = .ok (.pop, 1) := by decide +kernel
theorem dX6_laws_36 : decode cX6_laws 36 = .ok (.iload_n 3, 1) := by decide +kernel
theorem dX6_laws_37 : decode cX6_laws 37 = .ok (.aload_n 0, 1) := by decide +kernel
theorem dX6_laws_38 : decode cX6_laws 38 = .ok (.iload_n 1, 1) := by decide +kernel
theorem dX6_laws_39 : decode cX6_laws 39 = .ok (.invokevirtual 371, 3) := by decide +kernel
theorem dX6_laws_42 : decode cX6_laws 42 = .ok (.ifCond .eq 10, 3) := by decide +kernel
theorem dX6_laws_45 : decode cX6_laws 45 = .ok (.iconst 1, 1) := by decide +kernel
theorem dX6_laws_46 : decode cX6_laws 46 = .ok (.iload 4, 2) := by decide +kernel
theorem dX6_laws_48 : decode cX6_laws 48 = .ok (.ishl, 1) := by decide +kernel
theorem dX6_laws_49 : decode cX6_laws 49 = .ok (.goto 4, 3) := by decide +kernel
theorem dX6_laws_52 : decode cX6_laws 52 = .ok (.iconst 0, 1) := by decide +kernel
theorem dX6_laws_53 : decode cX6_laws 53 = .ok (.ior, 1) := by decide +kernel
theorem dX6_laws_54 : decode cX6_laws 54 = .ok (.istore_n 3, 1) := by decide +kernel
theorem dX6_laws_55 : decode cX6_laws 55 = .ok (.iinc 4 1, 3) := by decide +kernel
theorem dX6_laws_58 : decode cX6_laws 58 = .ok (.goto (-35), 3) := by decide +kernel
theorem dX6_laws_61 : decode cX6_laws 61 = .ok (.iload_n 3, 1) := by decide +kernel
theorem dX6_laws_62 : decode cX6_laws 62 = .ok (.ireturn, 1) := by decide +kernel
theorem dX6_by_0 : decode cX6_by 0 = .ok (.aload_n 0, 1) := by decide +kernel
theorem dX6_by_1 : decode cX6_by 1 = .ok (.iconst 0, 1) := by decide +kernel
theorem dX6_by_2 : decode cX6_by 2 = .ok (.putfield 74, 3) := by decide +kernel
theorem dX6_by_5 : decode cX6_by 5 = .ok (.aload_n 0, 1) := by decide +kernel
theorem dX6_by_6 : decode cX6_by 6 = .ok (.invokevirtual 240, 3) := by decide +kernel
theorem dX6_by_9 : decode cX6_by 9 = .ok (.ifCond .eq 23, 3) := by decide +kernel
theorem dX6_by_12 : decode cX6_by 12 = .ok (.iload_n 1, 1) := by decide +kernel
theorem dX6_by_13 : decode cX6_by 13 = .ok (.i2l, 1) := by decide +kernel
theorem dX6_by_14 : decode cX6_by 14 = .ok (.lconst 0, 1) := by decide +kernel
theorem dX6_by_15 : decode cX6_by 15 = .ok (.ldc2_w 77, 3) := by decide +kernel
theorem dX6_by_18 : decode cX6_by 18 = .ok (.invokestatic 79, 3) := by decide +kernel
theorem dX6_by_21 : decode cX6_by 21 = .ok (.ifCond .eq 11, 3) := by decide +kernel
theorem dX6_by_24 : decode cX6_by 24 = .ok (.aload_n 0, 1) := by decide +kernel
theorem dX6_by_25 : decode cX6_by 25 = .ok (.iload_n 1, 1) := by decide +kernel
theorem dX6_by_26 : decode cX6_by 26 = .ok (.invokevirtual 390, 3) := by decide +kernel
theorem dX6_by_29 : decode cX6_by 29 = .ok (.goto 5, 3) := by decide +kernel
theorem dX6_by_32 : decode cX6_by 32 = .ok (.bipush (-2), 2) := by decide +kernel
theorem dX6_by_34 : decode cX6_by 34 = .ok (.ireturn, 1) := by decide +kernel
theorem dX6_law_0 : decode cX6_law 0 = .ok (.aload_n 0, 1) := by decide +kernel
theorem dX6_law_1 : decode cX6_law 1 = .ok (.iconst 0, 1) := by decide +kernel
theorem dX6_law_2 : decode cX6_law 2 = .ok (.putfield 74, 3) := by decide +kernel
theorem dX6_law_5 : decode cX6_law 5 = .ok (.aload_n 0, 1) := by decide +kernel
theorem dX6_law_6 : decode cX6_law 6 = .ok (.invokevirtual 240, 3) := by decide +kernel
theorem dX6_law_9 : decode cX6_law 9 = .ok (.ifCond .ne 6, 3) := by decide +kernel
theorem dX6_law_12 : decode cX6_law 12 = .ok (.bipush (-2), 2) := by decide +kernel
theorem dX6_law_14 : decode cX6_law 14 = .ok (.ireturn, 1) := by decide +kernel
theorem dX6_law_15 : decode cX6_law 15 = .ok (.iconst 0, 1) := by decide +kernel
theorem dX6_law_16 : decode cX6_law 16 = .ok (.istore_n 1, 1) := by decide +kernel
theorem dX6_law_17 : decode cX6_law 17 = .ok (.iconst 1, 1) := by decide +kernel
theorem dX6_law_18 : decode cX6_law 18 = .ok (.istore_n 2, 1) := by decide +kernel
theorem dX6_law_19 : decode cX6_law 19 = .ok (.iload_n 2, 1) := by decide +kernel
theorem dX6_law_20 : decode cX6_law 20 = .ok (.iconst 4, 1) := by decide +kernel
theorem dX6_law_21 : decode cX6_law 21 = .ok (.if_icmp .ge 24, 3) := by decide +kernel
theorem dX6_law_24 : decode cX6_law 24 = .ok (.aload_n 0, 1) := by decide +kernel
theorem dX6_law_25 : decode cX6_law 25 = .ok (.iload_n 2, 1) := by decide +kernel
theorem dX6_law_26 : decode cX6_law 26 = .ok (.invokevirtual 390, 3) := by decide +kernel
theorem dX6_law_29 : decode cX6_law 29 = .ok (.aload_n 0, 1) := by decide +kernel
theorem dX6_law_30 : decode cX6_law 30 = .ok (.iload_n 1, 1) := by decide +kernel
theorem dX6_law_31 : decode cX6_law 31 = .ok (.invokevirtual 390, 3) := by decide +kernel
theorem dX6_law_34 : decode cX6_law 34 = .ok (.if_icmp .le 5, 3) := by decide +kernel
theorem dX6_law_37 : decode cX6_law 37 = .ok (.iload_n 2, 1) := by decide +kernel
theorem dX6_law_38 : decode cX6_law 38 = .ok (.istore_n 1, 1) := by decide +kernel
theorem dX6_law_39 : decode cX6_law 39 = .ok (.iinc 2 1, 3) := by decide +kernel
theorem dX6_law_42 : decode cX6_law 42 = .ok (.goto (-23), 3) := by decide +kernel
theorem dX6_law_45 : decode cX6_law 45 = .ok (.iload_n 1, 1) := by decide +kernel
theorem dX6_law_46 : decode cX6_law 46 = .ok (.ireturn, 1) := by decide +kernel
theorem dX6_bold_0 : decode cX6_bold 0 = .ok (.aload_n 0, 1) := by decide +kernel
theorem dX6_bold_1 : decode cX6_bold 1 = .ok (.iconst 0, 1) := by decide +kernel
theorem dX6_bold_2 : decode cX6_bold 2 = .ok (.putfield 74, 3) := by decide +kernel
theorem dX6_bold_5 : decode cX6_bold 5 = .ok (.aload_n 0, 1) := by decide +kernel
theorem dX6_bold_6 : decode cX6_bold 6 = .ok (.iload_n 1, 1) := by decide +kernel
theorem dX6_bold_7 : decode cX6_bold 7 = .ok (.invokevirtual 326, 3) := by decide +kernel
theorem dX6_bold_10 : decode cX6_bold 10 = .ok (.ifCond .eq 12, 3) := by decide +kernel
theorem dX6_bold_13 : decode cX6_bold 13 = .ok (.aload_n 0, 1) := by decide +kernel
theorem dX6_bold_14 : decode cX6_bold 14 = .ok (.iload_n 2, 1) := by decide +kernel
theorem dX6_bold_15 : decode cX6_bold 15 = .ok (.i2l, 1) := by decide +kernel
theorem dX6_bold_16 : decode cX6_bold 16 = .ok (.invokevirtual 249, 3) := by decide +kernel
theorem dX6_bold_19 : decode cX6_bold 19 = .ok (.ifCond .ne 6, 3) := by decide +kernel
theorem dX6_bold_22 : decode cX6_bold 22 = .ok (.bipush (-2), 2) := by decide +kernel
theorem dX6_bold_24 : decode cX6_bold 24 = .ok (.ireturn, 1) := by decide +kernel
theorem dX6_bold_25 : decode cX6_bold 25 = .ok (.aload_n 0, 1) := by decide +kernel
theorem dX6_bold_26 : decode cX6_bold 26 = .ok (.invokevirtual 337, 3) := by decide +kernel
theorem dX6_bold_29 : decode cX6_bold 29 = .ok (.iconst (-1), 1) := by decide +kernel
theorem dX6_bold_30 : decode cX6_bold 30 = .ok (.istore_n 3, 1) := by decide +kernel
theorem dX6_bold_31 : decode cX6_bold 31 = .ok (.iconst 0, 1) := by decide +kernel
theorem dX6_bold_32 : decode cX6_bold 32 = .ok (.istore 4, 2) := by decide +kernel
theorem dX6_bold_34 : decode cX6_bold 34 = .ok (.iload 4, 2) := by decide +kernel
theorem dX6_bold_36 : decode cX6_bold 36 = .ok (.aload_n 0, 1) := by decide +kernel
theorem dX6_bold_37 : decode cX6_bold 37 = .ok (.invokevirtual 236, 3) := by decide +kernel
theorem dX6_bold_40 : decode cX6_bold 40 = .ok (.if_icmp .ge 56, 3) := by decide +kernel
theorem dX6_bold_43 : decode cX6_bold 43 = .ok (.aload_n 0, 1) := by decide +kernel
theorem dX6_bold_44 : decode cX6_bold 44 = .ok (.getfield 43, 3) := by decide +kernel
theorem dX6_bold_47 : decode cX6_bold 47 = .ok (.iconst 4, 1) := by decide +kernel
theorem dX6_bold_48 : decode cX6_bold 48 = .ok (.iload 4, 2) := by decide +kernel
theorem dX6_bold_50 : decode cX6_bold 50 = .ok (.imul, 1) := by decide +kernel
theorem dX6_bold_51 : decode cX6_bold 51 = .ok (.iaload, 1) := by decide +kernel
theorem dX6_bold_52 : decode cX6_bold 52 = .ok (.iload_n 1, 1) := by decide +kernel
theorem dX6_bold_53 : decode cX6_bold 53 = .ok (.if_icmp .ne 37, 3) := by decide +kernel
theorem dX6_bold_56 : decode cX6_bold 56 = .ok (.aload_n 0, 1) := by decide +kernel
theorem dX6_bold_57 : decode cX6_bold 57 = .ok (.iload 4, 2) := by decide +kernel
theorem dX6_bold_59 : decode cX6_bold 59 = .ok (.iload_n 2, 1) := by decide +kernel
theorem dX6_bold_60 : decode cX6_bold 60 = .ok (.invokevirtual 293, 3) := by decide +kernel
theorem dX6_bold_63 : decode cX6_bold 63 = .ok (.ifCond .eq 27, 3) := by decide +kernel
theorem dX6_bold_66 : decode cX6_bold 66 = .ok (.iload_n 3, 1) := by decide +kernel
theorem dX6_bold_67 : decode cX6_bold 67 = .ok (.iconst (-1), 1) := by decide +kernel
theorem dX6_bold_68 : decode cX6_bold 68 = .ok (.if_icmp .eq 19, 3) := by decide +kernel
theorem dX6_bold_71 : decode cX6_bold 71 = .ok (.aload_n 0, 1) := by decide +kernel
theorem dX6_bold_72 : decode cX6_bold 72 = .ok (.iload 4, 2) := by decide +kernel
theorem dX6_bold_74 : decode cX6_bold 74 = .ok (.iload_n 2, 1) := by decide +kernel
theorem dX6_bold_75 : decode cX6_bold 75 = .ok (.invokevirtual 283, 3) := by decide +kernel
theorem dX6_bold_78 : decode cX6_bold 78 = .ok (.aload_n 0, 1) := by decide +kernel
theorem dX6_bold_79 : decode cX6_bold 79 = .ok (.iload_n 3, 1) := by decide +kernel
theorem dX6_bold_80 : decode cX6_bold 80 = .ok (.iload_n 2, 1) := by decide +kernel
theorem dX6_bold_81 : decode cX6_bold 81 = .ok (.invokevirtual 283, 3) := by decide +kernel
theorem dX6_bold_84 : decode cX6_bold 84 = .ok (.if_icmp .le 6, 3) := by decide +kernel
theorem dX6_bold_87 : decode cX6_bold 87 = .ok (.iload 4, 2) := by decide +kernel
theorem dX6_bold_89 : decode cX6_bold 89 = .ok (.istore_n 3, 1) := by decide +kernel
theorem dX6_bold_90 : decode cX6_bold 90 = .ok (.iinc 4 1, 3) := by decide +kernel
theorem dX6_bold_93 : decode cX6_bold 93 = .ok (.goto (-59), 3) := by decide +kernel
theorem dX6_bold_96 : decode cX6_bold 96 = .ok (.iload_n 3, 1) := by decide +kernel
theorem dX6_bold_97 : decode cX6_bold 97 = .ok (.ireturn, 1) := by decide +kernel
theorem dX6_sum_0 : decode cX6_sum 0 = .ok (.aload_n 0, 1) := by decide +kernel
theorem dX6_sum_1 : decode cX6_sum 1 = .ok (.iconst 0, 1) := by decide +kernel
theorem dX6_sum_2 : decode cX6_sum 2 = .ok (.putfield 74, 3) := by decide +kernel
theorem dX6_sum_5 : decode cX6_sum 5 = .ok (.aload_n 0, 1) := by decide +kernel
theorem dX6_sum_6 : decode cX6_sum 6 = .ok (.iload_n 1, 1) := by decide +kernel
theorem dX6_sum_7 : decode cX6_sum 7 = .ok (.invokevirtual 326, 3) := by decide +kernel
theorem dX6_sum_10 : decode cX6_sum 10 = .ok (.ifCond .eq 12, 3) := by decide +kernel
theorem dX6_sum_13 : decode cX6_sum 13 = .ok (.aload_n 0, 1) := by decide +kernel
theorem dX6_sum_14 : decode cX6_sum 14 = .ok (.iload_n 2, 1) := by decide +kernel
theorem dX6_sum_15 : decode cX6_sum 15 = .ok (.i2l, 1) := by decide +kernel
theorem dX6_sum_16 : decode cX6_sum 16 = .ok (.invokevirtual 249, 3) := by decide +kernel
theorem dX6_sum_19 : decode cX6_sum 19 = .ok (.ifCond .ne 6, 3) := by decide +kernel
theorem dX6_sum_22 : decode cX6_sum 22 = .ok (.bipush (-2), 2) := by decide +kernel
theorem dX6_sum_24 : decode cX6_sum 24 = .ok (.ireturn, 1) := by decide +kernel
theorem dX6_sum_25 : decode cX6_sum 25 = .ok (.aload_n 0, 1) := by decide +kernel
theorem dX6_sum_26 : decode cX6_sum 26 = .ok (.invokevirtual 337, 3) := by decide +kernel
theorem dX6_sum_29 : decode cX6_sum 29 = .ok (.iconst 0, 1) := by decide +kernel
theorem dX6_sum_30 : decode cX6_sum 30 = .ok (.istore_n 3, 1) := by decide +kernel
theorem dX6_sum_31 : decode cX6_sum 31 = .ok (.iconst 0, 1) := by decide +kernel
theorem dX6_sum_32 : decode cX6_sum 32 = .ok (.istore 4, 2) := by decide +kernel
theorem dX6_sum_34 : decode cX6_sum 34 = .ok (.iload 4, 2) := by decide +kernel
theorem dX6_sum_36 : decode cX6_sum 36 = .ok (.aload_n 0, 1) := by decide +kernel
theorem dX6_sum_37 : decode cX6_sum 37 = .ok (.invokevirtual 236, 3) := by decide +kernel
theorem dX6_sum_40 : decode cX6_sum 40 = .ok (.if_icmp .ge 36, 3) := by decide +kernel
theorem dX6_sum_43 : decode cX6_sum 43 = .ok (.iload_n 3, 1) := by decide +kernel
theorem dX6_sum_44 : decode cX6_sum 44 = .ok (.aload_n 0, 1) := by decide +kernel
theorem dX6_sum_45 : decode cX6_sum 45 = .ok (.getfield 43, 3) := by decide +kernel
theorem dX6_sum_48 : decode cX6_sum 48 = .ok (.iconst 4, 1) := by decide +kernel
theorem dX6_sum_49 : decode cX6_sum 49 = .ok (.iload 4, 2) := by decide +kernel
theorem dX6_sum_51 : decode cX6_sum 51 = .ok (.imul, 1) := by decide +kernel
theorem dX6_sum_52 : decode cX6_sum 52 = .ok (.iaload, 1) := by decide +kernel
theorem dX6_sum_53 : decode cX6_sum 53 = .ok (.iload_n 1, 1) := by decide +kernel
theorem dX6_sum_54 : decode cX6_sum 54 = .ok (.if_icmp .ne 13, 3) := by decide +kernel
theorem dX6_sum_57 : decode cX6_sum 57 = .ok (.aload_n 0, 1) := by decide +kernel
theorem dX6_sum_58 : decode cX6_sum 58 = .ok (.iload 4, 2) := by decide +kernel
theorem dX6_sum_60 : decode cX6_sum 60 = .ok (.iload_n 2, 1) := by decide +kernel
theorem dX6_sum_61 : decode cX6_sum 61 = .ok (.invokevirtual 283, 3) := by decide +kernel
theorem dX6_sum_64 : decode cX6_sum 64 = .ok (.goto 4, 3) := by decide +kernel
theorem dX6_sum_67 : decode cX6_sum 67 = .ok (.iconst 0, 1) := by decide +kernel
theorem dX6_sum_68 : decode cX6_sum 68 = .ok (.iadd, 1) := by decide +kernel
theorem dX6_sum_69 : decode cX6_sum 69 = .ok (.istore_n 3, 1) := by decide +kernel
theorem dX6_sum_70 : decode cX6_sum 70 = .ok (.iinc 4 1, 3) := by decide +kernel
theorem dX6_sum_73 : decode cX6_sum 73 = .ok (.goto (-39), 3) := by decide +kernel
theorem dX6_sum_76 : decode cX6_sum 76 = .ok (.iload_n 3, 1) := by decide +kernel
theorem dX6_sum_77 : decode cX6_sum 77 = .ok (.ireturn, 1) := by decide +kernel
theorem dX6_spread_0 : decode cX6_spread 0 = .ok (.aload_n 0, 1) := by decide +kernel
theorem dX6_spread_1 : decode cX6_spread 1 = .ok (.iconst 0, 1) := by decide +kernel
theorem dX6_spread_2 : decode cX6_spread 2 = .ok (.putfield 74, 3) := by decide +kernel
theorem dX6_spread_5 : decode cX6_spread 5 = .ok (.aload_n 0, 1) := by decide +kernel
theorem dX6_spread_6 : decode cX6_spread 6 = .ok (.iload_n 1, 1) := by decide +kernel
theorem dX6_spread_7 : decode cX6_spread 7 = .ok (.i2l, 1) := by decide +kernel
theorem dX6_spread_8 : decode cX6_spread 8 = .ok (.invokevirtual 249, 3) := by decide +kernel
theorem dX6_spread_11 : decode cX6_spread 11 = .ok (.ifCond .ne 6, 3) := by decide +kernel
theorem dX6_spread_14 : decode cX6_spread 14 = .ok (.bipush (-2), 2) := by decide +kernel
theorem dX6_spread_16 : decode cX6_spread 16 = .ok (.ireturn, 1) := by decide +kernel
theorem dX6_spread_17 : decode cX6_spread 17 = .ok (.aload_n 0, 1) := by decide +kernel
theorem dX6_spread_18 : decode cX6_spread 18 = .ok (.invokevirtual 337, 3) := by decide +kernel
theorem dX6_spread_21 : decode cX6_spread 21 = .ok (.aload_n 0, 1) := by decide +kernel
theorem dX6_spread_22 : decode cX6_spread 22 = .ok (.iload_n 1, 1) := by decide +kernel
theorem dX6_spread_23 : decode cX6_spread 23 = .ok (.invokevirtual 331, 3) := by decide +kernel
theorem dX6_spread_26 : decode cX6_spread 26 = .ok (.ifCond .ne 7, 3) := by decide +kernel
theorem dX6_spread_29 : decode cX6_spread 29 = .ok (.iconst 0, 1) := by decide +kernel
theorem dX6_spread_30 : decode cX6_spread 30 = .ok (.goto 26, 3) := by decide +kernel
theorem dX6_spread_33 : decode cX6_spread 33 = .ok (.aload_n 0, 1) := by decide +kernel
theorem dX6_spread_34 : decode cX6_spread 34 = .ok (.aload_n 0, 1) := by decide +kernel
theorem dX6_spread_35 : decode cX6_spread 35 = .ok (.iload_n 1, 1) := by decide +kernel
theorem dX6_spread_36 : decode cX6_spread 36 = .ok (.iconst 1, 1) := by decide +kernel
theorem dX6_spread_37 : decode cX6_spread 37 = .ok (.invokevirtual 349, 3) := by decide +kernel
theorem dX6_spread_40 : decode cX6_spread 40 = .ok (.iload_n 1, 1) := by decide +kernel
theorem dX6_spread_41 : decode cX6_spread 41 = .ok (.invokevirtual 283, 3) := by decide +kernel
theorem dX6_spread_44 : decode cX6_spread 44 = .ok (.aload_n 0, 1) := by decide +kernel
theorem dX6_spread_45 : decode cX6_spread 45 = .ok (.aload_n 0, 1) := by decide +kernel
theorem dX6_spread_46 : decode cX6_spread 46 = .ok (.iload_n 1, 1) := by decide +kernel
theorem dX6_spread_47 : decode cX6_spread 47 = .ok (.iconst (-1), 1) := by decide +kernel
theorem dX6_spread_48 : decode cX6_spread 48 = .ok (.invokevirtual 349, 3) := by decide +kernel
theorem dX6_spread_51 : decode cX6_spread 51 = .ok (.iload_n 1, 1) := by decide +kernel
theorem dX6_spread_52 : decode cX6_spread 52 = .ok (.invokevirtual 283, 3) := by decide +kernel
theorem dX6_spread_55 : decode cX6_spread 55 = .ok (.isub, 1) := by decide +kernel
theorem dX6_spread_56 : decode cX6_spread 56 = .ok (.ireturn, 1) := by decide +kernel
theorem dX6_uses_0 : decode cX6_uses 0 = .ok (.aload_n 0, 1) := by decide +kernel
theorem dX6_uses_1 : decode cX6_uses 1 = .ok (.iconst 0, 1) := by decide +kernel
theorem dX6_uses_2 : decode cX6_uses 2 = .ok (.putfield 74, 3) := by decide +kernel
theorem dX6_uses_5 : decode cX6_uses 5 = .ok (.aload_n 0, 1) := by decide +kernel
theorem dX6_uses_6 : decode cX6_uses 6 = .ok (.iload_n 1, 1) := by decide +kernel
theorem dX6_uses_7 : decode cX6_uses 7 = .ok (.invokevirtual 321, 3) := by decide +kernel
theorem dX6_uses_10 : decode cX6_uses 10 = .ok (.ifCond .ne 6, 3) := by decide +kernel
theorem dX6_uses_13 : decode cX6_uses 13 = .ok (.bipush (-2), 2) := by decide +kernel
theorem dX6_uses_15 : decode cX6_uses 15 = .ok (.ireturn, 1) := by decide +kernel
theorem dX6_uses_16 : decode cX6_uses 16 = .ok (.iconst 0, 1) := by decide +kernel
theorem dX6_uses_17 : decode cX6_uses 17 = .ok (.istore_n 2, 1) := by decide +kernel
theorem dX6_uses_18 : decode cX6_uses 18 = .ok (.iconst 0, 1) := by decide +kernel
theorem dX6_uses_19 : decode cX6_uses 19 = .ok (.istore_n 3, 1) := by decide +kernel
theorem dX6_uses_20 : decode cX6_uses 20 = .ok (.iload_n 3, 1) := by decide +kernel
theorem dX6_uses_21 : decode cX6_uses 21 = .ok (.aload_n 0, 1) := by decide +kernel
theorem dX6_uses_22 : decode cX6_uses 22 = .ok (.invokevirtual 236, 3) := by decide +kernel
theorem dX6_uses_25 : decode cX6_uses 25 = .ok (.if_icmp .ge 33, 3) := by decide +kernel
theorem dX6_uses_28 : decode cX6_uses 28 = .ok (.iload_n 2, 1) := by decide +kernel
theorem dX6_uses_29 : decode cX6_uses 29 = .ok (.aload_n 0, 1) := by decide +kernel
theorem dX6_uses_30 : decode cX6_uses 30 = .ok (.getfield 43, 3) := by decide +kernel
theorem dX6_uses_33 : decode cX6_uses 33 = .ok (.iconst 4, 1) := by decide +kernel
theorem dX6_uses_34 : decode cX6_uses 34 = .ok (.iload_n 3, 1) := by decide +kernel
theorem dX6_uses_35 : decode cX6_uses 35 = .ok (.imul, 1) := by decide +kernel
theorem dX6_uses_36 : decode cX6_uses 36 = .ok (.iconst 1, 1) := by decide +kernel
theorem dX6_uses_37 : decode cX6_uses 37 = .ok (.iadd, 1) := by decide +kernel
theorem dX6_uses_38 : decode cX6_uses 38 = .ok (.iaload, 1) := by decide +kernel
theorem dX6_uses_39 : decode cX6_uses 39 = .ok (.iload_n 1, 1) := by decide +kernel
theorem dX6_uses_40 : decode cX6_uses 40 = .ok (.if_icmp .ne 9, 3) := by decide +kernel
theorem dX6_uses_43 : decode cX6_uses 43 = .ok (.iconst 1, 1) := by decide +kernel
theorem dX6_uses_44 : decode cX6_uses 44 = .ok (.iload_n 3, 1) := by decide +kernel
theorem dX6_uses_45 : decode cX6_uses 45 = .ok (.ishl, 1) := by decide +kernel
theorem dX6_uses_46 : decode cX6_uses 46 = .ok (.goto 4, 3) := by decide +kernel
theorem dX6_uses_49 : decode cX6_uses 49 = .ok (.iconst 0, 1) := by decide +kernel
theorem dX6_uses_50 : decode cX6_uses 50 = .ok (.ior, 1) := by decide +kernel
theorem dX6_uses_51 : decode cX6_uses 51 = .ok (.istore_n 2, 1) := by decide +kernel
theorem dX6_uses_52 : decode cX6_uses 52 = .ok (.iinc 3 1, 3) := by decide +kernel
theorem dX6_uses_55 : decode cX6_uses 55 = .ok (.goto (-35), 3) := by decide +kernel
theorem dX6_uses_58 : decode cX6_uses 58 = .ok (.iload_n 2, 1) := by decide +kernel
theorem dX6_uses_59 : decode cX6_uses 59 = .ok (.ireturn, 1) := by decide +kernel
theorem dX6_writtenBy_0 : decode cX6_writtenBy 0 = .ok (.iconst (-1), 1) := by decide +kernel
theorem dX6_writtenBy_1 : decode cX6_writtenBy 1 = .ok (.istore_n 3, 1) := by decide +kernel
theorem dX6_writtenBy_2 : decode cX6_writtenBy 2 = .ok (.iconst 0, 1) := by decide +kernel
theorem dX6_writtenBy_3 : decode cX6_writtenBy 3 = .ok (.istore 4, 2) := by decide +kernel
theorem dX6_writtenBy_5 : decode cX6_writtenBy 5 = .ok (.iload 4, 2) := by decide +kernel
theorem dX6_writtenBy_7 : decode cX6_writtenBy 7 = .ok (.aload_n 0, 1) := by decide +kernel
theorem dX6_writtenBy_8 : decode cX6_writtenBy 8 = .ok (.invokevirtual 236, 3) := by decide +kernel
theorem dX6_writtenBy_11 : decode cX6_writtenBy 11 = .ok (.if_icmp .ge 47, 3) := by decide +kernel
theorem dX6_writtenBy_14 : decode cX6_writtenBy 14 = .ok (.aload_n 0, 1) := by decide +kernel
theorem dX6_writtenBy_15 : decode cX6_writtenBy 15 = .ok (.iload 4, 2) := by decide +kernel
theorem dX6_writtenBy_17 : decode cX6_writtenBy 17 = .ok (.iload_n 1, 1) := by decide +kernel
theorem dX6_writtenBy_18 : decode cX6_writtenBy 18 = .ok (.invokevirtual 293, 3) := by decide +kernel
theorem dX6_writtenBy_21 : decode cX6_writtenBy 21 = .ok (.ifCond .eq 31, 3) := by decide +kernel
theorem dX6_writtenBy_24 : decode cX6_writtenBy 24 = .ok (.iload_n 3, 1) := by decide +kernel
theorem dX6_writtenBy_25 : decode cX6_writtenBy 25 = .ok (.iconst (-1), 1) := by decide +kernel
theorem dX6_writtenBy_26 : decode cX6_writtenBy 26 = .ok (.if_icmp .eq 23, 3) := by decide +kernel
theorem dX6_writtenBy_29 : decode cX6_writtenBy 29 = .ok (.iload_n 2, 1) := by decide +kernel
theorem dX6_writtenBy_30 : decode cX6_writtenBy 30 = .ok (.aload_n 0, 1) := by decide +kernel
theorem dX6_writtenBy_31 : decode cX6_writtenBy 31 = .ok (.getfield 53, 3) := by decide +kernel
theorem dX6_writtenBy_34 : decode cX6_writtenBy 34 = .ok (.iload 4, 2) := by decide +kernel
theorem dX6_writtenBy_36 : decode cX6_writtenBy 36 = .ok (.iaload, 1) := by decide +kernel
theorem dX6_writtenBy_37 : decode cX6_writtenBy 37 = .ok (.imul, 1) := by decide +kernel
theorem dX6_writtenBy_38 : decode cX6_writtenBy 38 = .ok (.iload_n 2, 1) := by decide +kernel
theorem dX6_writtenBy_39 : decode cX6_writtenBy 39 = .ok (.aload_n 0, 1) := by decide +kernel
theorem dX6_writtenBy_40 : decode cX6_writtenBy 40 = .ok (.getfield 53, 3) := by decide +kernel
theorem dX6_writtenBy_43 : decode cX6_writtenBy 43 = .ok (.iload_n 3, 1) := by decide +kernel
theorem dX6_writtenBy_44 : decode cX6_writtenBy 44 = .ok (.iaload, 1) := by decide +kernel
theorem dX6_writtenBy_45 : decode cX6_writtenBy 45 = .ok (.imul, 1) := by decide +kernel
theorem dX6_writtenBy_46 : decode cX6_writtenBy 46 = .ok (.if_icmp .le 6, 3) := by decide +kernel
theorem dX6_writtenBy_49 : decode cX6_writtenBy 49 = .ok (.iload 4, 2) := by decide +kernel
theorem dX6_writtenBy_51 : decode cX6_writtenBy 51 = .ok (.istore_n 3, 1) := by decide +kernel
theorem dX6_writtenBy_52 : decode cX6_writtenBy 52 = .ok (.iinc 4 1, 3) := by decide +kernel
theorem dX6_writtenBy_55 : decode cX6_writtenBy 55 = .ok (.goto (-50), 3) := by decide +kernel
theorem dX6_writtenBy_58 : decode cX6_writtenBy 58 = .ok (.iload_n 3, 1) := by decide +kernel
theorem dX6_writtenBy_59 : decode cX6_writtenBy 59 = .ok (.ireturn, 1) := by decide +kernel
theorem dX6_newest_0 : decode cX6_newest 0 = .ok (.aload_n 0, 1) := by decide +kernel
theorem dX6_newest_1 : decode cX6_newest 1 = .ok (.iconst 0, 1) := by decide +kernel
theorem dX6_newest_2 : decode cX6_newest 2 = .ok (.putfield 74, 3) := by decide +kernel
theorem dX6_newest_5 : decode cX6_newest 5 = .ok (.aload_n 0, 1) := by decide +kernel
theorem dX6_newest_6 : decode cX6_newest 6 = .ok (.iload_n 1, 1) := by decide +kernel
theorem dX6_newest_7 : decode cX6_newest 7 = .ok (.i2l, 1) := by decide +kernel
theorem dX6_newest_8 : decode cX6_newest 8 = .ok (.invokevirtual 249, 3) := by decide +kernel
theorem dX6_newest_11 : decode cX6_newest 11 = .ok (.ifCond .ne 6, 3) := by decide +kernel
theorem dX6_newest_14 : decode cX6_newest 14 = .ok (.bipush (-2), 2) := by decide +kernel
theorem dX6_newest_16 : decode cX6_newest 16 = .ok (.ireturn, 1) := by decide +kernel
theorem dX6_newest_17 : decode cX6_newest 17 = .ok (.aload_n 0, 1) := by decide +kernel
theorem dX6_newest_18 : decode cX6_newest 18 = .ok (.invokevirtual 315, 3) := by decide +kernel
theorem dX6_newest_21 : decode cX6_newest 21 = .ok (.aload_n 0, 1) := by decide +kernel
theorem dX6_newest_22 : decode cX6_newest 22 = .ok (.iload_n 1, 1) := by decide +kernel
theorem dX6_newest_23 : decode cX6_newest 23 = .ok (.iconst 1, 1) := by decide +kernel
theorem dX6_newest_24 : decode cX6_newest 24 = .ok (.invokevirtual 393, 3) := by decide +kernel
theorem dX6_newest_27 : decode cX6_newest 27 = .ok (.ireturn, 1) := by decide +kernel
theorem dX6_oldest_0 : decode cX6_oldest 0 = .ok (.aload_n 0, 1) := by decide +kernel
theorem dX6_oldest_1 : decode cX6_oldest 1 = .ok (.iconst 0, 1) := by decide +kernel
theorem dX6_oldest_2 : decode cX6_oldest 2 = .ok (.putfield 74, 3) := by decide +kernel
theorem dX6_oldest_5 : decode cX6_oldest 5 = .ok (.aload_n 0, 1) := by decide +kernel
theorem dX6_oldest_6 : decode cX6_oldest 6 = .ok (.iload_n 1, 1) := by decide +kernel
theorem dX6_oldest_7 : decode cX6_oldest 7 = .ok (.i2l, 1) := by decide +kernel
theorem dX6_oldest_8 : decode cX6_oldest 8 = .ok (.invokevirtual 249, 3) := by decide +kernel
theorem dX6_oldest_11 : decode cX6_oldest 11 = .ok (.ifCond .ne 6, 3) := by decide +kernel
theorem dX6_oldest_14 : decode cX6_oldest 14 = .ok (.bipush (-2), 2) := by decide +kernel
theorem dX6_oldest_16 : decode cX6_oldest 16 = .ok (.ireturn, 1) := by decide +kernel
theorem dX6_oldest_17 : decode cX6_oldest 17 = .ok (.aload_n 0, 1) := by decide +kernel
theorem dX6_oldest_18 : decode cX6_oldest 18 = .ok (.invokevirtual 315, 3) := by decide +kernel
theorem dX6_oldest_21 : decode cX6_oldest 21 = .ok (.aload_n 0, 1) := by decide +kernel
theorem dX6_oldest_22 : decode cX6_oldest 22 = .ok (.iload_n 1, 1) := by decide +kernel
theorem dX6_oldest_23 : decode cX6_oldest 23 = .ok (.iconst (-1), 1) := by decide +kernel
theorem dX6_oldest_24 : decode cX6_oldest 24 = .ok (.invokevirtual 393, 3) := by decide +kernel
theorem dX6_oldest_27 : decode cX6_oldest 27 = .ok (.ireturn, 1) := by decide +kernel
theorem dX6_steady_0 : decode cX6_steady 0 = .ok (.aload_n 0, 1) := by decide +kernel
theorem dX6_steady_1 : decode cX6_steady 1 = .ok (.iconst 0, 1) := by decide +kernel
theorem dX6_steady_2 : decode cX6_steady 2 = .ok (.putfield 74, 3) := by decide +kernel
theorem dX6_steady_5 : decode cX6_steady 5 = .ok (.aload_n 0, 1) := by decide +kernel
theorem dX6_steady_6 : decode cX6_steady 6 = .ok (.iload_n 1, 1) := by decide +kernel
theorem dX6_steady_7 : decode cX6_steady 7 = .ok (.i2l, 1) := by decide +kernel
theorem dX6_steady_8 : decode cX6_steady 8 = .ok (.invokevirtual 246, 3) := by decide +kernel
theorem dX6_steady_11 : decode cX6_steady 11 = .ok (.ifCond .ne 6, 3) := by decide +kernel
theorem dX6_steady_14 : decode cX6_steady 14 = .ok (.bipush (-2), 2) := by decide +kernel
theorem dX6_steady_16 : decode cX6_steady 16 = .ok (.ireturn, 1) := by decide +kernel
theorem dX6_steady_17 : decode cX6_steady 17 = .ok (.aload_n 0, 1) := by decide +kernel
theorem dX6_steady_18 : decode cX6_steady 18 = .ok (.invokevirtual 337, 3) := by decide +kernel
theorem dX6_steady_21 : decode cX6_steady 21 = .ok (.iconst 0, 1) := by decide +kernel
theorem dX6_steady_22 : decode cX6_steady 22 = .ok (.istore_n 2, 1) := by decide +kernel
theorem dX6_steady_23 : decode cX6_steady 23 = .ok (.iconst 0, 1) := by decide +kernel
theorem dX6_steady_24 : decode cX6_steady 24 = .ok (.istore_n 3, 1) := by decide +kernel
theorem dX6_steady_25 : decode cX6_steady 25 = .ok (.iconst 0, 1) := by decide +kernel
theorem dX6_steady_26 : decode cX6_steady 26 = .ok (.istore 4, 2) := by decide +kernel
theorem dX6_steady_28 : decode cX6_steady 28 = .ok (.iload 4, 2) := by decide +kernel
theorem dX6_steady_30 : decode cX6_steady 30 = .ok (.aload_n 0, 1) := by decide +kernel
theorem dX6_steady_31 : decode cX6_steady 31 = .ok (.invokevirtual 243, 3) := by decide +kernel
theorem dX6_steady_34 : decode cX6_steady 34 = .ok (.if_icmp .gt 66, 3) := by decide +kernel
theorem dX6_steady_37 : decode cX6_steady 37 = .ok (.aload_n 0, 1) := by decide +kernel
theorem dX6_steady_38 : decode cX6_steady 38 = .ok (.iload_n 1, 1) := by decide +kernel
theorem dX6_steady_39 : decode cX6_steady 39 = .ok (.iload 4, 2) := by decide +kernel
theorem dX6_steady_41 : decode cX6_steady 41 = .ok (.invokevirtual 293, 3) := by decide +kernel
theorem dX6_steady_44 : decode cX6_steady 44 = .ok (.ifCond .ne 6, 3) := by decide +kernel
theorem dX6_steady_47 : decode cX6_steady 47 = .ok (.goto 47, 3) := by decide +kernel
theorem dX6_steady_50 : decode cX6_steady 50 = .ok (.iload 4, 2) := by decide +kernel
theorem dX6_steady_52 : decode cX6_steady 52 = .ok (.aload_n 0, 1) := by decide +kernel
theorem dX6_steady_53 : decode cX6_steady 53 = .ok (.getfield 53, 3) := by decide +kernel
theorem dX6_steady_56 : decode cX6_steady 56 = .ok (.iload_n 1, 1) := by decide +kernel
theorem dX6_steady_57 : decode cX6_steady 57 = .ok (.iaload, 1) := by decide +kernel
theorem dX6_steady_58 : decode cX6_steady 58 = .ok (.if_icmp .le 28, 3) := by decide +kernel
theorem dX6_steady_61 : decode cX6_steady 61 = .ok (.aload_n 0, 1) := by decide +kernel
theorem dX6_steady_62 : decode cX6_steady 62 = .ok (.iload_n 1, 1) := by decide +kernel
theorem dX6_steady_63 : decode cX6_steady 63 = .ok (.iload 4, 2) := by decide +kernel
theorem dX6_steady_65 : decode cX6_steady 65 = .ok (.invokevirtual 283, 3) := by decide +kernel
theorem dX6_steady_68 : decode cX6_steady 68 = .ok (.aload_n 0, 1) := by decide +kernel
theorem dX6_steady_69 : decode cX6_steady 69 = .ok (.iload_n 1, 1) := by decide +kernel
theorem dX6_steady_70 : decode cX6_steady 70 = .ok (.iload 4, 2) := by decide +kernel
theorem dX6_steady_72 : decode cX6_steady 72 = .ok (.iconst 1, 1) := by decide +kernel
theorem dX6_steady_73 : decode cX6_steady 73 = .ok (.isub, 1) := by decide +kernel
theorem dX6_steady_74 : decode cX6_steady 74 = .ok (.invokevirtual 283, 3) := by decide +kernel
theorem dX6_steady_77 : decode cX6_steady 77 = .ok (.if_icmp .ne 9, 3) := by decide +kernel
theorem dX6_steady_80 : decode cX6_steady 80 = .ok (.iload_n 3, 1) := by decide +kernel
theorem dX6_steady_81 : decode cX6_steady 81 = .ok (.iconst 1, 1) := by decide +kernel
theorem dX6_steady_82 : decode cX6_steady 82 = .ok (.iadd, 1) := by decide +kernel
theorem dX6_steady_83 : decode cX6_steady 83 = .ok (.goto 4, 3) := by decide +kernel
theorem dX6_steady_86 : decode cX6_steady 86 = .ok (.iconst 1, 1) := by decide +kernel
theorem dX6_steady_87 : decode cX6_steady 87 = .ok (.istore_n 3, 1) := by decide +kernel
theorem dX6_steady_88 : decode cX6_steady 88 = .ok (.iload_n 2, 1) := by decide +kernel
theorem dX6_steady_89 : decode cX6_steady 89 = .ok (.iload_n 3, 1) := by decide +kernel
theorem dX6_steady_90 : decode cX6_steady 90 = .ok (.invokestatic 280, 3) := by decide +kernel
theorem dX6_steady_93 : decode cX6_steady 93 = .ok (.istore_n 2, 1) := by decide +kernel
theorem dX6_steady_94 : decode cX6_steady 94 = .ok (.iinc 4 1, 3) := by decide +kernel
theorem dX6_steady_97 : decode cX6_steady 97 = .ok (.goto (-69), 3) := by decide +kernel
theorem dX6_steady_100 : decode cX6_steady 100 = .ok (.iload_n 2, 1) := by decide +kernel
theorem dX6_steady_101 : decode cX6_steady 101 = .ok (.ireturn, 1) := by decide +kernel
theorem dX6_falls_0 : decode cX6_falls 0 = .ok (.aload_n 0, 1) := by decide +kernel
theorem dX6_falls_1 : decode cX6_falls 1 = .ok (.iconst 0, 1) := by decide +kernel
theorem dX6_falls_2 : decode cX6_falls 2 = .ok (.putfield 74, 3) := by decide +kernel
theorem dX6_falls_5 : decode cX6_falls 5 = .ok (.aload_n 0, 1) := by decide +kernel
theorem dX6_falls_6 : decode cX6_falls 6 = .ok (.iload_n 1, 1) := by decide +kernel
theorem dX6_falls_7 : decode cX6_falls 7 = .ok (.i2l, 1) := by decide +kernel
theorem dX6_falls_8 : decode cX6_falls 8 = .ok (.invokevirtual 246, 3) := by decide +kernel
theorem dX6_falls_11 : decode cX6_falls 11 = .ok (.ifCond .ne 6, 3) := by decide +kernel
theorem dX6_falls_14 : decode cX6_falls 14 = .ok (.bipush (-2), 2) := by decide +kernel
theorem dX6_falls_16 : decode cX6_falls 16 = .ok (.ireturn, 1) := by decide +kernel
theorem dX6_falls_17 : decode cX6_falls 17 = .ok (.aload_n 0, 1) := by decide +kernel
theorem dX6_falls_18 : decode cX6_falls 18 = .ok (.invokevirtual 337, 3) := by decide +kernel
theorem dX6_falls_21 : decode cX6_falls 21 = .ok (.iconst 0, 1) := by decide +kernel
theorem dX6_falls_22 : decode cX6_falls 22 = .ok (.istore_n 2, 1) := by decide +kernel
theorem dX6_falls_23 : decode cX6_falls 23 = .ok (.iconst 1, 1) := by decide +kernel
theorem dX6_falls_24 : decode cX6_falls 24 = .ok (.istore_n 3, 1) := by decide +kernel
theorem dX6_falls_25 : decode cX6_falls 25 = .ok (.iload_n 3, 1) := by decide +kernel
theorem dX6_falls_26 : decode cX6_falls 26 = .ok (.aload_n 0, 1) := by decide +kernel
theorem dX6_falls_27 : decode cX6_falls 27 = .ok (.invokevirtual 243, 3) := by decide +kernel
theorem dX6_falls_30 : decode cX6_falls 30 = .ok (.if_icmp .gt 34, 3) := by decide +kernel
theorem dX6_falls_33 : decode cX6_falls 33 = .ok (.iload_n 2, 1) := by decide +kernel
theorem dX6_falls_34 : decode cX6_falls 34 = .ok (.aload_n 0, 1) := by decide +kernel
theorem dX6_falls_35 : decode cX6_falls 35 = .ok (.iload_n 1, 1) := by decide +kernel
theorem dX6_falls_36 : decode cX6_falls 36 = .ok (.iload_n 3, 1) := by decide +kernel
theorem dX6_falls_37 : decode cX6_falls 37 = .ok (.invokevirtual 283, 3) := by decide +kernel
theorem dX6_falls_40 : decode cX6_falls 40 = .ok (.aload_n 0, 1) := by decide +kernel
theorem dX6_falls_41 : decode cX6_falls 41 = .ok (.iload_n 1, 1) := by decide +kernel
theorem dX6_falls_42 : decode cX6_falls 42 = .ok (.iload_n 3, 1) := by decide +kernel
theorem dX6_falls_43 : decode cX6_falls 43 = .ok (.iconst 1, 1) := by decide +kernel
theorem dX6_falls_44 : decode cX6_falls 44 = .ok (.isub, 1) := by decide +kernel
theorem dX6_falls_45 : decode cX6_falls 45 = .ok (.invokevirtual 283, 3) := by decide +kernel
theorem dX6_falls_48 : decode cX6_falls 48 = .ok (.if_icmp .ge 7, 3) := by decide +kernel
theorem dX6_falls_51 : decode cX6_falls 51 = .ok (.iconst 1, 1) := by decide +kernel
theorem dX6_falls_52 : decode cX6_falls 52 = .ok (.goto 4, 3) := by decide +kernel
theorem dX6_falls_55 : decode cX6_falls 55 = .ok (.iconst 0, 1) := by decide +kernel
theorem dX6_falls_56 : decode cX6_falls 56 = .ok (.iadd, 1) := by decide +kernel
theorem dX6_falls_57 : decode cX6_falls 57 = .ok (.istore_n 2, 1) := by decide +kernel
theorem dX6_falls_58 : decode cX6_falls 58 = .ok (.iinc 3 1, 3) := by decide +kernel
theorem dX6_falls_61 : decode cX6_falls 61 = .ok (.goto (-36), 3) := by decide +kernel
theorem dX6_falls_64 : decode cX6_falls 64 = .ok (.iload_n 2, 1) := by decide +kernel
theorem dX6_falls_65 : decode cX6_falls 65 = .ok (.ireturn, 1) := by decide +kernel
theorem dX6_age_0 : decode cX6_age 0 = .ok (.aload_n 0, 1) := by decide +kernel
theorem dX6_age_1 : decode cX6_age 1 = .ok (.iconst 0, 1) := by decide +kernel
theorem dX6_age_2 : decode cX6_age 2 = .ok (.putfield 74, 3) := by decide +kernel
theorem dX6_age_5 : decode cX6_age 5 = .ok (.aload_n 0, 1) := by decide +kernel
theorem dX6_age_6 : decode cX6_age 6 = .ok (.iload_n 1, 1) := by decide +kernel
theorem dX6_age_7 : decode cX6_age 7 = .ok (.iload_n 2, 1) := by decide +kernel
theorem dX6_age_8 : decode cX6_age 8 = .ok (.invokevirtual 334, 3) := by decide +kernel
theorem dX6_age_11 : decode cX6_age 11 = .ok (.ifCond .ne 6, 3) := by decide +kernel
theorem dX6_age_14 : decode cX6_age 14 = .ok (.bipush (-2), 2) := by decide +kernel
theorem dX6_age_16 : decode cX6_age 16 = .ok (.ireturn, 1) := by decide +kernel
theorem dX6_age_17 : decode cX6_age 17 = .ok (.aload_n 0, 1) := by decide +kernel
theorem dX6_age_18 : decode cX6_age 18 = .ok (.invokevirtual 315, 3) := by decide +kernel
theorem dX6_age_21 : decode cX6_age 21 = .ok (.aload_n 0, 1) := by decide +kernel
theorem dX6_age_22 : decode cX6_age 22 = .ok (.iload_n 1, 1) := by decide +kernel
theorem dX6_age_23 : decode cX6_age 23 = .ok (.iload_n 2, 1) := by decide +kernel
theorem dX6_age_24 : decode cX6_age 24 = .ok (.invokevirtual 293, 3) := by decide +kernel
theorem dX6_age_27 : decode cX6_age 27 = .ok (.ifCond .eq 14, 3) := by decide +kernel
theorem dX6_age_30 : decode cX6_age 30 = .ok (.iload_n 2, 1) := by decide +kernel
theorem dX6_age_31 : decode cX6_age 31 = .ok (.aload_n 0, 1) := by decide +kernel
theorem dX6_age_32 : decode cX6_age 32 = .ok (.getfield 53, 3) := by decide +kernel
theorem dX6_age_35 : decode cX6_age 35 = .ok (.iload_n 1, 1) := by decide +kernel
theorem dX6_age_36 : decode cX6_age 36 = .ok (.iaload, 1) := by decide +kernel
theorem dX6_age_37 : decode cX6_age 37 = .ok (.isub, 1) := by decide +kernel
theorem dX6_age_38 : decode cX6_age 38 = .ok (.goto 4, 3) := by decide +kernel
theorem dX6_age_41 : decode cX6_age 41 = .ok (.iconst (-1), 1) := by decide +kernel
theorem dX6_age_42 : decode cX6_age 42 = .ok (.ireturn, 1) := by decide +kernel
theorem dX6_honest_0 : decode cX6_honest 0 = .ok (.aload_n 0, 1) := by decide +kernel
theorem dX6_honest_1 : decode cX6_honest 1 = .ok (.iconst 0, 1) := by decide +kernel
theorem dX6_honest_2 : decode cX6_honest 2 = .ok (.putfield 74, 3) := by decide +kernel
theorem dX6_honest_5 : decode cX6_honest 5 = .ok (.aload_n 0, 1) := by decide +kernel
theorem dX6_honest_6 : decode cX6_honest 6 = .ok (.iload_n 1, 1) := by decide +kernel
theorem dX6_honest_7 : decode cX6_honest 7 = .ok (.i2l, 1) := by decide +kernel
theorem dX6_honest_8 : decode cX6_honest 8 = .ok (.invokevirtual 249, 3) := by decide +kernel
theorem dX6_honest_11 : decode cX6_honest 11 = .ok (.ifCond .ne 6, 3) := by decide +kernel
theorem dX6_honest_14 : decode cX6_honest 14 = .ok (.bipush (-2), 2) := by decide +kernel
theorem dX6_honest_16 : decode cX6_honest 16 = .ok (.ireturn, 1) := by decide +kernel
theorem dX6_honest_17 : decode cX6_honest 17 = .ok (.aload_n 0, 1) := by decide +kernel
theorem dX6_honest_18 : decode cX6_honest 18 = .ok (.invokevirtual 337, 3) := by decide +kernel
theorem dX6_honest_21 : decode cX6_honest 21 = .ok (.iconst 0, 1) := by decide +kernel
theorem dX6_honest_22 : decode cX6_honest 22 = .ok (.istore_n 2, 1) := by decide +kernel
theorem dX6_honest_23 : decode cX6_honest 23 = .ok (.iconst 0, 1) := by decide +kernel
theorem dX6_honest_24 : decode cX6_honest 24 = .ok (.istore_n 3, 1) := by decide +kernel
theorem dX6_honest_25 : decode cX6_honest 25 = .ok (.iload_n 3, 1) := by decide +kernel
theorem dX6_honest_26 : decode cX6_honest 26 = .ok (.aload_n 0, 1) := by decide +kernel
theorem dX6_honest_27 : decode cX6_honest 27 = .ok (.invokevirtual 236, 3) := by decide +kernel
theorem dX6_honest_30 : decode cX6_honest 30 = .ok (.if_icmp .ge 50, 3) := by decide +kernel
theorem dX6_honest_33 : decode cX6_honest 33 = .ok (.iload_n 2, 1) := by decide +kernel
theorem dX6_honest_34 : decode cX6_honest 34 = .ok (.aload_n 0, 1) := by decide +kernel
theorem dX6_honest_35 : decode cX6_honest 35 = .ok (.iload_n 3, 1) := by decide +kernel
theorem dX6_honest_36 : decode cX6_honest 36 = .ok (.iload_n 1, 1) := by decide +kernel
theorem dX6_honest_37 : decode cX6_honest 37 = .ok (.invokevirtual 293, 3) := by decide +kernel
theorem dX6_honest_40 : decode cX6_honest 40 = .ok (.ifCond .eq 31, 3) := by decide +kernel
theorem dX6_honest_43 : decode cX6_honest 43 = .ok (.aload_n 0, 1) := by decide +kernel
theorem dX6_honest_44 : decode cX6_honest 44 = .ok (.iload_n 3, 1) := by decide +kernel
theorem dX6_honest_45 : decode cX6_honest 45 = .ok (.iload_n 1, 1) := by decide +kernel
theorem dX6_honest_46 : decode cX6_honest 46 = .ok (.invokevirtual 363, 3) := by decide +kernel
theorem dX6_honest_49 : decode cX6_honest 49 = .ok (.aload_n 0, 1) := by decide +kernel
theorem dX6_honest_50 : decode cX6_honest 50 = .ok (.getfield 43, 3) := by decide +kernel
theorem dX6_honest_53 : decode cX6_honest 53 = .ok (.iconst 4, 1) := by decide +kernel
theorem dX6_honest_54 : decode cX6_honest 54 = .ok (.iload_n 3, 1) := by decide +kernel
theorem dX6_honest_55 : decode cX6_honest 55 = .ok (.imul, 1) := by decide +kernel
theorem dX6_honest_56 : decode cX6_honest 56 = .ok (.iconst 1, 1) := by decide +kernel
theorem dX6_honest_57 : decode cX6_honest 57 = .ok (.iadd, 1) := by decide +kernel
theorem dX6_honest_58 : decode cX6_honest 58 = .ok (.iaload, 1) := by decide +kernel
theorem dX6_honest_59 : decode cX6_honest 59 = .ok (.invokestatic 273, 3) := by decide +kernel
theorem dX6_honest_62 : decode cX6_honest 62 = .ok (.ifCond .eq 9, 3) := by decide +kernel
theorem dX6_honest_65 : decode cX6_honest 65 = .ok (.iconst 1, 1) := by decide +kernel
theorem dX6_honest_66 : decode cX6_honest 66 = .ok (.iload_n 3, 1) := by decide +kernel
theorem dX6_honest_67 : decode cX6_honest 67 = .ok (.ishl, 1) := by decide +kernel
theorem dX6_honest_68 : decode cX6_honest 68 = .ok (.goto 4, 3) := by decide +kernel
theorem dX6_honest_71 : decode cX6_honest 71 = .ok (.iconst 0, 1) := by decide +kernel
theorem dX6_honest_72 : decode cX6_honest 72 = .ok (.ior, 1) := by decide +kernel
theorem dX6_honest_73 : decode cX6_honest 73 = .ok (.istore_n 2, 1) := by decide +kernel
theorem dX6_honest_74 : decode cX6_honest 74 = .ok (.iinc 3 1, 3) := by decide +kernel
theorem dX6_honest_77 : decode cX6_honest 77 = .ok (.goto (-52), 3) := by decide +kernel
theorem dX6_honest_80 : decode cX6_honest 80 = .ok (.iload_n 2, 1) := by decide +kernel
theorem dX6_honest_81 : decode cX6_honest 81 = .ok (.ireturn, 1) := by decide +kernel
theorem dX6_peaks_0 : decode cX6_peaks 0 = .ok (.aload_n 0, 1) := by decide +kernel
theorem dX6_peaks_1 : decode cX6_peaks 1 = .ok (.iconst 0, 1) := by decide +kernel
theorem dX6_peaks_2 : decode cX6_peaks 2 = .ok (.putfield 74, 3) := by decide +kernel
theorem dX6_peaks_5 : decode cX6_peaks 5 = .ok (.aload_n 0, 1) := by decide +kernel
theorem dX6_peaks_6 : decode cX6_peaks 6 = .ok (.invokevirtual 240, 3) := by decide +kernel
theorem dX6_peaks_9 : decode cX6_peaks 9 = .ok (.ifCond .ne 6, 3) := by decide +kernel
theorem dX6_peaks_12 : decode cX6_peaks 12 = .ok (.bipush (-2), 2) := by decide +kernel
theorem dX6_peaks_14 : decode cX6_peaks 14 = .ok (.ireturn, 1) := by decide +kernel
theorem dX6_peaks_15 : decode cX6_peaks 15 = .ok (.aload_n 0, 1) := by decide +kernel
theorem dX6_peaks_16 : decode cX6_peaks 16 = .ok (.invokevirtual 337, 3) := by decide +kernel
theorem dX6_peaks_19 : decode cX6_peaks 19 = .ok (.iconst 0, 1) := by decide +kernel
theorem dX6_peaks_20 : decode cX6_peaks 20 = .ok (.istore_n 1, 1) := by decide +kernel
theorem dX6_peaks_21 : decode cX6_peaks 21 = .ok (.iconst 1, 1) := by decide +kernel
theorem dX6_peaks_22 : decode cX6_peaks 22 = .ok (.istore_n 2, 1) := by decide +kernel
theorem dX6_peaks_23 : decode cX6_peaks 23 = .ok (.iload_n 2, 1) := by decide +kernel
theorem dX6_peaks_24 : decode cX6_peaks 24 = .ok (.aload_n 0, 1) := by decide +kernel
theorem dX6_peaks_25 : decode cX6_peaks 25 = .ok (.invokevirtual 243, 3) := by decide +kernel
theorem dX6_peaks_28 : decode cX6_peaks 28 = .ok (.if_icmp .gt 24, 3) := by decide +kernel
theorem dX6_peaks_31 : decode cX6_peaks 31 = .ok (.aload_n 0, 1) := by decide +kernel
theorem dX6_peaks_32 : decode cX6_peaks 32 = .ok (.iload_n 2, 1) := by decide +kernel
theorem dX6_peaks_33 : decode cX6_peaks 33 = .ok (.invokevirtual 346, 3) := by decide +kernel
theorem dX6_peaks_36 : decode cX6_peaks 36 = .ok (.aload_n 0, 1) := by decide +kernel
theorem dX6_peaks_37 : decode cX6_peaks 37 = .ok (.iload_n 1, 1) := by decide +kernel
theorem dX6_peaks_38 : decode cX6_peaks 38 = .ok (.invokevirtual 346, 3) := by decide +kernel
theorem dX6_peaks_41 : decode cX6_peaks 41 = .ok (.if_icmp .le 5, 3) := by decide +kernel
theorem dX6_peaks_44 : decode cX6_peaks 44 = .ok (.iload_n 2, 1) := by decide +kernel
theorem dX6_peaks_45 : decode cX6_peaks 45 = .ok (.istore_n 1, 1) := by decide +kernel
theorem dX6_peaks_46 : decode cX6_peaks 46 = .ok (.iinc 2 1, 3) := by decide +kernel
theorem dX6_peaks_49 : decode cX6_peaks 49 = .ok (.goto (-26), 3) := by decide +kernel
theorem dX6_peaks_52 : decode cX6_peaks 52 = .ok (.iload_n 1, 1) := by decide +kernel
theorem dX6_peaks_53 : decode cX6_peaks 53 = .ok (.ireturn, 1) := by decide +kernel
theorem dX6_lasts_0 : decode cX6_lasts 0 = .ok (.aload_n 0, 1) := by decide +kernel
theorem dX6_lasts_1 : decode cX6_lasts 1 = .ok (.iconst 0, 1) := by decide +kernel
theorem dX6_lasts_2 : decode cX6_lasts 2 = .ok (.putfield 74, 3) := by decide +kernel
theorem dX6_lasts_5 : decode cX6_lasts 5 = .ok (.aload_n 0, 1) := by decide +kernel
theorem dX6_lasts_6 : decode cX6_lasts 6 = .ok (.iload_n 1, 1) := by decide +kernel
theorem dX6_lasts_7 : decode cX6_lasts 7 = .ok (.i2l, 1) := by decide +kernel
theorem dX6_lasts_8 : decode cX6_lasts 8 = .ok (.invokevirtual 246, 3) := by decide +kernel
theorem dX6_lasts_11 : decode cX6_lasts 11 = .ok (.ifCond .ne 6, 3) := by decide +kernel
theorem dX6_lasts_14 : decode cX6_lasts 14 = .ok (.bipush (-2), 2) := by decide +kernel
theorem dX6_lasts_16 : decode cX6_lasts 16 = .ok (.ireturn, 1) := by decide +kernel
theorem dX6_lasts_17 : decode cX6_lasts 17 = .ok (.aload_n 0, 1) := by decide +kernel
theorem dX6_lasts_18 : decode cX6_lasts 18 = .ok (.invokevirtual 337, 3) := by decide +kernel
theorem dX6_lasts_21 : decode cX6_lasts 21 = .ok (.iconst 0, 1) := by decide +kernel
theorem dX6_lasts_22 : decode cX6_lasts 22 = .ok (.istore_n 2, 1) := by decide +kernel
theorem dX6_lasts_23 : decode cX6_lasts 23 = .ok (.iconst 0, 1) := by decide +kernel
theorem dX6_lasts_24 : decode cX6_lasts 24 = .ok (.istore_n 3, 1) := by decide +kernel
theorem dX6_lasts_25 : decode cX6_lasts 25 = .ok (.iload_n 3, 1) := by decide +kernel
theorem dX6_lasts_26 : decode cX6_lasts 26 = .ok (.aload_n 0, 1) := by decide +kernel
theorem dX6_lasts_27 : decode cX6_lasts 27 = .ok (.invokevirtual 243, 3) := by decide +kernel
theorem dX6_lasts_30 : decode cX6_lasts 30 = .ok (.if_icmp .gt 29, 3) := by decide +kernel
theorem dX6_lasts_33 : decode cX6_lasts 33 = .ok (.iload_n 2, 1) := by decide +kernel
theorem dX6_lasts_34 : decode cX6_lasts 34 = .ok (.aload_n 0, 1) := by decide +kernel
theorem dX6_lasts_35 : decode cX6_lasts 35 = .ok (.iload_n 3, 1) := by decide +kernel
theorem dX6_lasts_36 : decode cX6_lasts 36 = .ok (.invokevirtual 343, 3) := by decide +kernel
theorem dX6_lasts_39 : decode cX6_lasts 39 = .ok (.iload_n 1, 1) := by decide +kernel
theorem dX6_lasts_40 : decode cX6_lasts 40 = .ok (.invokestatic 273, 3) := by decide +kernel
theorem dX6_lasts_43 : decode cX6_lasts 43 = .ok (.ifCond .eq 7, 3) := by decide +kernel
theorem dX6_lasts_46 : decode cX6_lasts 46 = .ok (.iconst 1, 1) := by decide +kernel
theorem dX6_lasts_47 : decode cX6_lasts 47 = .ok (.goto 4, 3) := by decide +kernel
theorem dX6_lasts_50 : decode cX6_lasts 50 = .ok (.iconst 0, 1) := by decide +kernel
theorem dX6_lasts_51 : decode cX6_lasts 51 = .ok (.iadd, 1) := by decide +kernel
theorem dX6_lasts_52 : decode cX6_lasts 52 = .ok (.istore_n 2, 1) := by decide +kernel
theorem dX6_lasts_53 : decode cX6_lasts 53 = .ok (.iinc 3 1, 3) := by decide +kernel
theorem dX6_lasts_56 : decode cX6_lasts 56 = .ok (.goto (-31), 3) := by decide +kernel
theorem dX6_lasts_59 : decode cX6_lasts 59 = .ok (.iload_n 2, 1) := by decide +kernel
theorem dX6_lasts_60 : decode cX6_lasts 60 = .ok (.ireturn, 1) := by decide +kernel
theorem dX6_order_0 : decode cX6_order 0 = .ok (.aload_n 0, 1) := by decide +kernel
theorem dX6_order_1 : decode cX6_order 1 = .ok (.iconst 0, 1) := by decide +kernel
theorem dX6_order_2 : decode cX6_order 2 = .ok (.putfield 74, 3) := by decide +kernel
theorem dX6_order_5 : decode cX6_order 5 = .ok (.aload_n 0, 1) := by decide +kernel
theorem dX6_order_6 : decode cX6_order 6 = .ok (.iload_n 1, 1) := by decide +kernel
theorem dX6_order_7 : decode cX6_order 7 = .ok (.invokevirtual 326, 3) := by decide +kernel
theorem dX6_order_10 : decode cX6_order 10 = .ok (.ifCond .ne 6, 3) := by decide +kernel
theorem dX6_order_13 : decode cX6_order 13 = .ok (.bipush (-2), 2) := by decide +kernel
theorem dX6_order_15 : decode cX6_order 15 = .ok (.ireturn, 1) := by decide +kernel
theorem dX6_order_16 : decode cX6_order 16 = .ok (.iconst 0, 1) := by decide +kernel
theorem dX6_order_17 : decode cX6_order 17 = .ok (.istore_n 2, 1) := by decide +kernel
theorem dX6_order_18 : decode cX6_order 18 = .ok (.iload_n 2, 1) := by decide +kernel
theorem dX6_order_19 : decode cX6_order 19 = .ok (.aload_n 0, 1) := by decide +kernel
theorem dX6_order_20 : decode cX6_order 20 = .ok (.invokevirtual 236, 3) := by decide +kernel
theorem dX6_order_23 : decode cX6_order 23 = .ok (.if_icmp .ge 76, 3) := by decide +kernel
theorem dX6_order_26 : decode cX6_order 26 = .ok (.iload_n 2, 1) := by decide +kernel
theorem dX6_order_27 : decode cX6_order 27 = .ok (.iconst 1, 1) := by decide +kernel
theorem dX6_order_28 : decode cX6_order 28 = .ok (.iadd, 1) := by decide +kernel
theorem dX6_order_29 : decode cX6_order 29 = .ok (.istore_n 3, 1) := by decide +kernel
theorem dX6_order_30 : decode cX6_order 30 = .ok (.iload_n 3, 1) := by decide +kernel
theorem dX6_order_31 : decode cX6_order 31 = .ok (.aload_n 0, 1) := by decide +kernel
theorem dX6_order_32 : decode cX6_order 32 = .ok (.invokevirtual 236, 3) := by decide +kernel
theorem dX6_order_35 : decode cX6_order 35 = .ok (.if_icmp .ge 58, 3) := by decide +kernel
theorem dX6_order_38 : decode cX6_order 38 = .ok (.aload_n 0, 1) := by decide +kernel
theorem dX6_order_39 : decode cX6_order 39 = .ok (.getfield 43, 3) := by decide +kernel
theorem dX6_order_42 : decode cX6_order 42 = .ok (.iconst 4, 1) := by decide +kernel
theorem dX6_order_43 : decode cX6_order 43 = .ok (.iload_n 2, 1) := by decide +kernel
theorem dX6_order_44 : decode cX6_order 44 = .ok (.imul, 1) := by decide +kernel
theorem dX6_order_45 : decode cX6_order 45 = .ok (.iaload, 1) := by decide +kernel
theorem dX6_order_46 : decode cX6_order 46 = .ok (.iload_n 1, 1) := by decide +kernel
theorem dX6_order_47 : decode cX6_order 47 = .ok (.if_icmp .ne 40, 3) := by decide +kernel
theorem dX6_order_50 : decode cX6_order 50 = .ok (.aload_n 0, 1) := by decide +kernel
theorem dX6_order_51 : decode cX6_order 51 = .ok (.getfield 43, 3) := by decide +kernel
theorem dX6_order_54 : decode cX6_order 54 = .ok (.iconst 4, 1) := by decide +kernel
theorem dX6_order_55 : decode cX6_order 55 = .ok (.iload_n 3, 1) := by decide +kernel
theorem dX6_order_56 : decode cX6_order 56 = .ok (.imul, 1) := by decide +kernel
theorem dX6_order_57 : decode cX6_order 57 = .ok (.iaload, 1) := by decide +kernel
theorem dX6_order_58 : decode cX6_order 58 = .ok (.iload_n 1, 1) := by decide +kernel
theorem dX6_order_59 : decode cX6_order 59 = .ok (.if_icmp .ne 28, 3) := by decide +kernel
theorem dX6_order_62 : decode cX6_order 62 = .ok (.aload_n 0, 1) := by decide +kernel
theorem dX6_order_63 : decode cX6_order 63 = .ok (.getfield 43, 3) := by decide +kernel
theorem dX6_order_66 : decode cX6_order 66 = .ok (.iconst 4, 1) := by decide +kernel
theorem dX6_order_67 : decode cX6_order 67 = .ok (.iload_n 3, 1) := by decide +kernel
theorem dX6_order_68 : decode cX6_order 68 = .ok (.imul, 1) := by decide +kernel
theorem dX6_order_69 : decode cX6_order 69 = .ok (.iconst 2, 1) := by decide +kernel
theorem dX6_order_70 : decode cX6_order 70 = .ok (.iadd, 1) := by decide +kernel
theorem dX6_order_71 : decode cX6_order 71 = .ok (.iaload, 1) := by decide +kernel
theorem dX6_order_72 : decode cX6_order 72 = .ok (.aload_n 0, 1) := by decide +kernel
theorem dX6_order_73 : decode cX6_order 73 = .ok (.getfield 43, 3) := by decide +kernel
theorem dX6_order_76 : decode cX6_order 76 = .ok (.iconst 4, 1) := by decide +kernel
theorem dX6_order_77 : decode cX6_order 77 = .ok (.iload_n 2, 1) := by decide +kernel
theorem dX6_order_78 : decode cX6_order 78 = .ok (.imul, 1) := by decide +kernel
theorem dX6_order_79 : decode cX6_order 79 = .ok (.iconst 2, 1) := by decide +kernel
theorem dX6_order_80 : decode cX6_order 80 = .ok (.iadd, 1) := by decide +kernel
theorem dX6_order_81 : decode cX6_order 81 = .ok (.iaload, 1) := by decide +kernel
theorem dX6_order_82 : decode cX6_order 82 = .ok (.if_icmp .ge 5, 3) := by decide +kernel
theorem dX6_order_85 : decode cX6_order 85 = .ok (.iconst 0, 1) := by decide +kernel
theorem dX6_order_86 : decode cX6_order 86 = .ok (.ireturn, 1) := by decide +kernel
theorem dX6_order_87 : decode cX6_order 87 = .ok (.iinc 3 1, 3) := by decide +kernel
theorem dX6_order_90 : decode cX6_order 90 = .ok (.goto (-60), 3) := by decide +kernel
theorem dX6_order_93 : decode cX6_order 93 = .ok (.iinc 2 1, 3) := by decide +kernel
theorem dX6_order_96 : decode cX6_order 96 = .ok (.goto (-78), 3) := by decide +kernel
theorem dX6_order_99 : decode cX6_order 99 = .ok (.iconst 1, 1) := by decide +kernel
theorem dX6_order_100 : decode cX6_order 100 = .ok (.ireturn, 1) := by decide +kernel
theorem dX6_match_0 : decode cX6_match 0 = .ok (.aload_n 0, 1) := by decide +kernel
theorem dX6_match_1 : decode cX6_match 1 = .ok (.iconst 0, 1) := by decide +kernel
theorem dX6_match_2 : decode cX6_match 2 = .ok (.putfield 74, 3) := by decide +kernel
theorem dX6_match_5 : decode cX6_match 5 = .ok (.aload_n 0, 1) := by decide +kernel
theorem dX6_match_6 : decode cX6_match 6 = .ok (.iload_n 1, 1) := by decide +kernel
theorem dX6_match_7 : decode cX6_match 7 = .ok (.i2l, 1) := by decide +kernel
theorem dX6_match_8 : decode cX6_match 8 = .ok (.invokevirtual 246, 3) := by decide +kernel
theorem dX6_match_11 : decode cX6_match 11 = .ok (.ifCond .eq 12, 3) := by decide +kernel
theorem dX6_match_14 : decode cX6_match 14 = .ok (.aload_n 0, 1) := by decide +kernel
theorem dX6_match_15 : decode cX6_match 15 = .ok (.iload_n 2, 1) := by decide +kernel
theorem dX6_match_16 : decode cX6_match 16 = .ok (.i2l, 1) := by decide +kernel
theorem dX6_match_17 : decode cX6_match 17 = .ok (.invokevirtual 246, 3) := by decide +kernel
theorem dX6_match_20 : decode cX6_match 20 = .ok (.ifCond .ne 6, 3) := by decide +kernel
theorem dX6_match_23 : decode cX6_match 23 = .ok (.bipush (-2), 2) := by decide +kernel
theorem dX6_match_25 : decode cX6_match 25 = .ok (.ireturn, 1) := by decide +kernel
theorem dX6_match_26 : decode cX6_match 26 = .ok (.aload_n 0, 1) := by decide +kernel
theorem dX6_match_27 : decode cX6_match 27 = .ok (.invokevirtual 337, 3) := by decide +kernel
theorem dX6_match_30 : decode cX6_match 30 = .ok (.iconst 0, 1) := by decide +kernel
theorem dX6_match_31 : decode cX6_match 31 = .ok (.istore_n 3, 1) := by decide +kernel
theorem dX6_match_32 : decode cX6_match 32 = .ok (.iconst 0, 1) := by decide +kernel
theorem dX6_match_33 : decode cX6_match 33 = .ok (.istore 4, 2) := by decide +kernel
theorem dX6_match_35 : decode cX6_match 35 = .ok (.iload 4, 2) := by decide +kernel
theorem dX6_match_37 : decode cX6_match 37 = .ok (.aload_n 0, 1) := by decide +kernel
theorem dX6_match_38 : decode cX6_match 38 = .ok (.invokevirtual 243, 3) := by decide +kernel
theorem dX6_match_41 : decode cX6_match 41 = .ok (.if_icmp .gt 48, 3) := by decide +kernel
theorem dX6_match_44 : decode cX6_match 44 = .ok (.iload_n 3, 1) := by decide +kernel
theorem dX6_match_45 : decode cX6_match 45 = .ok (.aload_n 0, 1) := by decide +kernel
theorem dX6_match_46 : decode cX6_match 46 = .ok (.iload_n 1, 1) := by decide +kernel
theorem dX6_match_47 : decode cX6_match 47 = .ok (.iload 4, 2) := by decide +kernel
theorem dX6_match_49 : decode cX6_match 49 = .ok (.invokevirtual 293, 3) := by decide +kernel
theorem dX6_match_52 : decode cX6_match 52 = .ok (.ifCond .eq 28, 3) := by decide +kernel
theorem dX6_match_55 : decode cX6_match 55 = .ok (.aload_n 0, 1) := by decide +kernel
theorem dX6_match_56 : decode cX6_match 56 = .ok (.iload_n 2, 1) := by decide +kernel
theorem dX6_match_57 : decode cX6_match 57 = .ok (.iload 4, 2) := by decide +kernel
theorem dX6_match_59 : decode cX6_match 59 = .ok (.invokevirtual 293, 3) := by decide +kernel
theorem dX6_match_62 : decode cX6_match 62 = .ok (.ifCond .eq 18, 3) := by decide +kernel
theorem dX6_match_65 : decode cX6_match 65 = .ok (.aload_n 0, 1) := by decide +kernel
theorem dX6_match_66 : decode cX6_match 66 = .ok (.iload_n 1, 1) := by decide +kernel
theorem dX6_match_67 : decode cX6_match 67 = .ok (.iload_n 2, 1) := by decide +kernel
theorem dX6_match_68 : decode cX6_match 68 = .ok (.iload 4, 2) := by decide +kernel
theorem dX6_match_70 : decode cX6_match 70 = .ok (.invokevirtual 355, 3) := by decide +kernel
theorem dX6_match_73 : decode cX6_match 73 = .ok (.ifCond .ne 7, 3) := by decide +kernel
theorem dX6_match_76 : decode cX6_match 76 = .ok (.iconst 1, 1) := by decide +kernel
theorem dX6_match_77 : decode cX6_match 77 = .ok (.goto 4, 3) := by decide +kernel
theorem dX6_match_80 : decode cX6_match 80 = .ok (.iconst 0, 1) := by decide +kernel
theorem dX6_match_81 : decode cX6_match 81 = .ok (.iadd, 1) := by decide +kernel
theorem dX6_match_82 : decode cX6_match 82 = .ok (.istore_n 3, 1) := by decide +kernel
theorem dX6_match_83 : decode cX6_match 83 = .ok (.iinc 4 1, 3) := by decide +kernel
theorem dX6_match_86 : decode cX6_match 86 = .ok (.goto (-51), 3) := by decide +kernel
theorem dX6_match_89 : decode cX6_match 89 = .ok (.iload_n 3, 1) := by decide +kernel
theorem dX6_match_90 : decode cX6_match 90 = .ok (.ireturn, 1) := by decide +kernel
theorem dX6_later_0 : decode cX6_later 0 = .ok (.aload_n 0, 1) := by decide +kernel
theorem dX6_later_1 : decode cX6_later 1 = .ok (.iconst 0, 1) := by decide +kernel
theorem dX6_later_2 : decode cX6_later 2 = .ok (.putfield 74, 3) := by decide +kernel
theorem dX6_later_5 : decode cX6_later 5 = .ok (.aload_n 0, 1) := by decide +kernel
theorem dX6_later_6 : decode cX6_later 6 = .ok (.iload_n 1, 1) := by decide +kernel
theorem dX6_later_7 : decode cX6_later 7 = .ok (.i2l, 1) := by decide +kernel
theorem dX6_later_8 : decode cX6_later 8 = .ok (.invokevirtual 246, 3) := by decide +kernel
theorem dX6_later_11 : decode cX6_later 11 = .ok (.ifCond .eq 15, 3) := by decide +kernel
theorem dX6_later_14 : decode cX6_later 14 = .ok (.iload_n 2, 1) := by decide +kernel
theorem dX6_later_15 : decode cX6_later 15 = .ok (.i2l, 1) := by decide +kernel
theorem dX6_later_16 : decode cX6_later 16 = .ok (.lconst 0, 1) := by decide +kernel
theorem dX6_later_17 : decode cX6_later 17 = .ok (.ldc2_w 396, 3) := by decide +kernel
theorem dX6_later_20 : decode cX6_later 20 = .ok (.invokestatic 79, 3) := by decide +kernel
theorem dX6_later_23 : decode cX6_later 23 = .ok (.ifCond .ne 6, 3) := by decide +kernel
theorem dX6_later_26 : decode cX6_later 26 = .ok (.bipush (-2), 2) := by decide +kernel
theorem dX6_later_28 : decode cX6_later 28 = .ok (.ireturn, 1) := by decide +kernel
theorem dX6_later_29 : decode cX6_later 29 = .ok (.aload_n 0, 1) := by decide +kernel
theorem dX6_later_30 : decode cX6_later 30 = .ok (.invokevirtual 315, 3) := by decide +kernel
theorem dX6_later_33 : decode cX6_later 33 = .ok (.aload_n 0, 1) := by decide +kernel
theorem dX6_later_34 : decode cX6_later 34 = .ok (.getfield 53, 3) := by decide +kernel
theorem dX6_later_37 : decode cX6_later 37 = .ok (.iload_n 1, 1) := by decide +kernel
theorem dX6_later_38 : decode cX6_later 38 = .ok (.dup2, 1) := by decide +kernel
theorem dX6_later_39 : decode cX6_later 39 = .ok (.iaload, 1) := by decide +kernel
theorem dX6_later_40 : decode cX6_later 40 = .ok (.iload_n 2, 1) := by decide +kernel
theorem dX6_later_41 : decode cX6_later 41 = .ok (.iadd, 1) := by decide +kernel
theorem dX6_later_42 : decode cX6_later 42 = .ok (.iastore, 1) := by decide +kernel
theorem dX6_later_43 : decode cX6_later 43 = .ok (.aload_n 0, 1) := by decide +kernel
theorem dX6_later_44 : decode cX6_later 44 = .ok (.invokevirtual 318, 3) := by decide +kernel
theorem dX6_later_47 : decode cX6_later 47 = .ok (.aload_n 0, 1) := by decide +kernel
theorem dX6_later_48 : decode cX6_later 48 = .ok (.iload_n 1, 1) := by decide +kernel
theorem dX6_later_49 : decode cX6_later 49 = .ok (.invokevirtual 398, 3) := by decide +kernel
theorem dX6_later_52 : decode cX6_later 52 = .ok (.ireturn, 1) := by decide +kernel
theorem dX6_other_0 : decode cX6_other 0 = .ok (.aload_n 0, 1) := by decide +kernel
theorem dX6_other_1 : decode cX6_other 1 = .ok (.iconst 0, 1) := by decide +kernel
theorem dX6_other_2 : decode cX6_other 2 = .ok (.putfield 74, 3) := by decide +kernel
theorem dX6_other_5 : decode cX6_other 5 = .ok (.aload_n 0, 1) := by decide +kernel
theorem dX6_other_6 : decode cX6_other 6 = .ok (.iload_n 1, 1) := by decide +kernel
theorem dX6_other_7 : decode cX6_other 7 = .ok (.i2l, 1) := by decide +kernel
theorem dX6_other_8 : decode cX6_other 8 = .ok (.invokevirtual 246, 3) := by decide +kernel
theorem dX6_other_11 : decode cX6_other 11 = .ok (.ifCond .eq 11, 3) := by decide +kernel
theorem dX6_other_14 : decode cX6_other 14 = .ok (.aload_n 0, 1) := by decide +kernel
theorem dX6_other_15 : decode cX6_other 15 = .ok (.iload_n 2, 1) := by decide +kernel
theorem dX6_other_16 : decode cX6_other 16 = .ok (.invokevirtual 321, 3) := by decide +kernel
theorem dX6_other_19 : decode cX6_other 19 = .ok (.ifCond .ne 6, 3) := by decide +kernel
theorem dX6_other_22 : decode cX6_other 22 = .ok (.bipush (-2), 2) := by decide +kernel
theorem dX6_other_24 : decode cX6_other 24 = .ok (.ireturn, 1) := by decide +kernel
theorem dX6_other_25 : decode cX6_other 25 = .ok (.aload_n 0, 1) := by decide +kernel
theorem dX6_other_26 : decode cX6_other 26 = .ok (.invokevirtual 315, 3) := by decide +kernel
theorem dX6_other_29 : decode cX6_other 29 = .ok (.aload_n 0, 1) := by decide +kernel
theorem dX6_other_30 : decode cX6_other 30 = .ok (.getfield 56, 3) := by decide +kernel
theorem dX6_other_33 : decode cX6_other 33 = .ok (.iload_n 1, 1) := by decide +kernel
theorem dX6_other_34 : decode cX6_other 34 = .ok (.iload_n 2, 1) := by decide +kernel
theorem dX6_other_35 : decode cX6_other 35 = .ok (.iastore, 1) := by decide +kernel
theorem dX6_other_36 : decode cX6_other 36 = .ok (.aload_n 0, 1) := by decide +kernel
theorem dX6_other_37 : decode cX6_other 37 = .ok (.invokevirtual 318, 3) := by decide +kernel
theorem dX6_other_40 : decode cX6_other 40 = .ok (.aload_n 0, 1) := by decide +kernel
theorem dX6_other_41 : decode cX6_other 41 = .ok (.iload_n 1, 1) := by decide +kernel
theorem dX6_other_42 : decode cX6_other 42 = .ok (.invokevirtual 398, 3) := by decide +kernel
theorem dX6_other_45 : decode cX6_other 45 = .ok (.ireturn, 1) := by decide +kernel
theorem dX6_hide_0 : decode cX6_hide 0 = .ok (.aload_n 0, 1) := by decide +kernel
theorem dX6_hide_1 : decode cX6_hide 1 = .ok (.iconst 0, 1) := by decide +kernel
theorem dX6_hide_2 : decode cX6_hide 2 = .ok (.putfield 74, 3) := by decide +kernel
theorem dX6_hide_5 : decode cX6_hide 5 = .ok (.aload_n 0, 1) := by decide +kernel
theorem dX6_hide_6 : decode cX6_hide 6 = .ok (.iload_n 1, 1) := by decide +kernel
theorem dX6_hide_7 : decode cX6_hide 7 = .ok (.iload_n 2, 1) := by decide +kernel
theorem dX6_hide_8 : decode cX6_hide 8 = .ok (.invokevirtual 334, 3) := by decide +kernel
theorem dX6_hide_11 : decode cX6_hide 11 = .ok (.ifCond .ne 6, 3) := by decide +kernel
theorem dX6_hide_14 : decode cX6_hide 14 = .ok (.bipush (-2), 2) := by decide +kernel
theorem dX6_hide_16 : decode cX6_hide 16 = .ok (.ireturn, 1) := by decide +kernel
theorem dX6_hide_17 : decode cX6_hide 17 = .ok (.iconst 0, 1) := by decide +kernel
theorem dX6_hide_18 : decode cX6_hide 18 = .ok (.istore_n 3, 1) := by decide +kernel
theorem dX6_hide_19 : decode cX6_hide 19 = .ok (.iload_n 3, 1) := by decide +kernel
theorem dX6_hide_20 : decode cX6_hide 20 = .ok (.bipush 9, 2) := by decide +kernel
theorem dX6_hide_22 : decode cX6_hide 22 = .ok (.if_icmp .gt 43, 3) := by decide +kernel
theorem dX6_hide_25 : decode cX6_hide 25 = .ok (.aload_n 0, 1) := by decide +kernel
theorem dX6_hide_26 : decode cX6_hide 26 = .ok (.invokevirtual 315, 3) := by decide +kernel
theorem dX6_hide_29 : decode cX6_hide 29 = .ok (.aload_n 0, 1) := by decide +kernel
theorem dX6_hide_30 : decode cX6_hide 30 = .ok (.iload_n 1, 1) := by decide +kernel
theorem dX6_hide_31 : decode cX6_hide 31 = .ok (.putfield 261, 3) := by decide +kernel
theorem dX6_hide_34 : decode cX6_hide 34 = .ok (.aload_n 0, 1) := by decide +kernel
theorem dX6_hide_35 : decode cX6_hide 35 = .ok (.iload_n 2, 1) := by decide +kernel
theorem dX6_hide_36 : decode cX6_hide 36 = .ok (.putfield 303, 3) := by decide +kernel
theorem dX6_hide_39 : decode cX6_hide 39 = .ok (.aload_n 0, 1) := by decide +kernel
theorem dX6_hide_40 : decode cX6_hide 40 = .ok (.iload_n 3, 1) := by decide +kernel
theorem dX6_hide_41 : decode cX6_hide 41 = .ok (.putfield 264, 3) := by decide +kernel
theorem dX6_hide_44 : decode cX6_hide 44 = .ok (.aload_n 0, 1) := by decide +kernel
theorem dX6_hide_45 : decode cX6_hide 45 = .ok (.invokevirtual 318, 3) := by decide +kernel
theorem dX6_hide_48 : decode cX6_hide 48 = .ok (.aload_n 0, 1) := by decide +kernel
theorem dX6_hide_49 : decode cX6_hide 49 = .ok (.iload_n 1, 1) := by decide +kernel
theorem dX6_hide_50 : decode cX6_hide 50 = .ok (.invokevirtual 398, 3) := by decide +kernel
theorem dX6_hide_53 : decode cX6_hide 53 = .ok (.iconst 5, 1) := by decide +kernel
theorem dX6_hide_54 : decode cX6_hide 54 = .ok (.if_icmp .ge 5, 3) := by decide +kernel
theorem dX6_hide_57 : decode cX6_hide 57 = .ok (.iload_n 3, 1) := by decide +kernel
theorem dX6_hide_58 : decode cX6_hide 58 = .ok (.ireturn, 1) := by decide +kernel
theorem dX6_hide_59 : decode cX6_hide 59 = .ok (.iinc 3 1, 3) := by decide +kernel
theorem dX6_hide_62 : decode cX6_hide 62 = .ok (.goto (-43), 3) := by decide +kernel
theorem dX6_hide_65 : decode cX6_hide 65 = .ok (.iconst (-1), 1) := by decide +kernel
theorem dX6_hide_66 : decode cX6_hide 66 = .ok (.ireturn, 1) := by decide +kernel
theorem dX6_save_0 : decode cX6_save 0 = .ok (.aload_n 0, 1) := by decide +kernel
theorem dX6_save_1 : decode cX6_save 1 = .ok (.iconst 0, 1) := by decide +kernel
theorem dX6_save_2 : decode cX6_save 2 = .ok (.putfield 74, 3) := by decide +kernel
theorem dX6_save_5 : decode cX6_save 5 = .ok (.aload_n 0, 1) := by decide +kernel
theorem dX6_save_6 : decode cX6_save 6 = .ok (.iload_n 1, 1) := by decide +kernel
theorem dX6_save_7 : decode cX6_save 7 = .ok (.i2l, 1) := by decide +kernel
theorem dX6_save_8 : decode cX6_save 8 = .ok (.invokevirtual 246, 3) := by decide +kernel
theorem dX6_save_11 : decode cX6_save 11 = .ok (.ifCond .ne 6, 3) := by decide +kernel
theorem dX6_save_14 : decode cX6_save 14 = .ok (.bipush (-2), 2) := by decide +kernel
theorem dX6_save_16 : decode cX6_save 16 = .ok (.ireturn, 1) := by decide +kernel
theorem dX6_save_17 : decode cX6_save 17 = .ok (.iconst 0, 1) := by decide +kernel
theorem dX6_save_18 : decode cX6_save 18 = .ok (.istore_n 2, 1) := by decide +kernel
theorem dX6_save_19 : decode cX6_save 19 = .ok (.iload_n 2, 1) := by decide +kernel
theorem dX6_save_20 : decode cX6_save 20 = .ok (.aload_n 0, 1) := by decide +kernel
theorem dX6_save_21 : decode cX6_save 21 = .ok (.invokevirtual 243, 3) := by decide +kernel
theorem dX6_save_24 : decode cX6_save 24 = .ok (.if_icmp .gt 50, 3) := by decide +kernel
theorem dX6_save_27 : decode cX6_save 27 = .ok (.aload_n 0, 1) := by decide +kernel
theorem dX6_save_28 : decode cX6_save 28 = .ok (.invokevirtual 315, 3) := by decide +kernel
theorem dX6_save_31 : decode cX6_save 31 = .ok (.aload_n 0, 1) := by decide +kernel
theorem dX6_save_32 : decode cX6_save 32 = .ok (.iload_n 1, 1) := by decide +kernel
theorem dX6_save_33 : decode cX6_save 33 = .ok (.iload_n 2, 1) := by decide +kernel
theorem dX6_save_34 : decode cX6_save 34 = .ok (.invokevirtual 293, 3) := by decide +kernel
theorem dX6_save_37 : decode cX6_save 37 = .ok (.ifCond .ne 6, 3) := by decide +kernel
theorem dX6_save_40 : decode cX6_save 40 = .ok (.goto 28, 3) := by decide +kernel
theorem dX6_save_43 : decode cX6_save 43 = .ok (.aload_n 0, 1) := by decide +kernel
theorem dX6_save_44 : decode cX6_save 44 = .ok (.iload_n 1, 1) := by decide +kernel
theorem dX6_save_45 : decode cX6_save 45 = .ok (.putfield 267, 3) := by decide +kernel
theorem dX6_save_48 : decode cX6_save 48 = .ok (.aload_n 0, 1) := by decide +kernel
theorem dX6_save_49 : decode cX6_save 49 = .ok (.iload_n 2, 1) := by decide +kernel
theorem dX6_save_50 : decode cX6_save 50 = .ok (.putfield 306, 3) := by decide +kernel
theorem dX6_save_53 : decode cX6_save 53 = .ok (.aload_n 0, 1) := by decide +kernel
theorem dX6_save_54 : decode cX6_save 54 = .ok (.invokevirtual 318, 3) := by decide +kernel
theorem dX6_save_57 : decode cX6_save 57 = .ok (.aload_n 0, 1) := by decide +kernel
theorem dX6_save_58 : decode cX6_save 58 = .ok (.iload_n 1, 1) := by decide +kernel
theorem dX6_save_59 : decode cX6_save 59 = .ok (.invokevirtual 398, 3) := by decide +kernel
theorem dX6_save_62 : decode cX6_save 62 = .ok (.iconst 5, 1) := by decide +kernel
theorem dX6_save_63 : decode cX6_save 63 = .ok (.if_icmp .lt 5, 3) := by decide +kernel
theorem dX6_save_66 : decode cX6_save 66 = .ok (.iload_n 2, 1) := by decide +kernel
theorem dX6_save_67 : decode cX6_save 67 = .ok (.ireturn, 1) := by decide +kernel
theorem dX6_save_68 : decode cX6_save 68 = .ok (.iinc 2 1, 3) := by decide +kernel
theorem dX6_save_71 : decode cX6_save 71 = .ok (.goto (-52), 3) := by decide +kernel
theorem dX6_save_74 : decode cX6_save 74 = .ok (.iconst (-1), 1) := by decide +kernel
theorem dX6_save_75 : decode cX6_save 75 = .ok (.ireturn, 1) := by decide +kernel
theorem dX6_heavy_0 : decode cX6_heavy 0 = .ok (.aload_n 0, 1) := by decide +kernel
theorem dX6_heavy_1 : decode cX6_heavy 1 = .ok (.iconst 0, 1) := by decide +kernel
theorem dX6_heavy_2 : decode cX6_heavy 2 = .ok (.putfield 74, 3) := by decide +kernel
theorem dX6_heavy_5 : decode cX6_heavy 5 = .ok (.aload_n 0, 1) := by decide +kernel
theorem dX6_heavy_6 : decode cX6_heavy 6 = .ok (.invokevirtual 240, 3) := by decide +kernel
theorem dX6_heavy_9 : decode cX6_heavy 9 = .ok (.ifCond .ne 6, 3) := by decide +kernel
theorem dX6_heavy_12 : decode cX6_heavy 12 = .ok (.bipush (-2), 2) := by decide +kernel
theorem dX6_heavy_14 : decode cX6_heavy 14 = .ok (.ireturn, 1) := by decide +kernel
theorem dX6_heavy_15 : decode cX6_heavy 15 = .ok (.aload_n 0, 1) := by decide +kernel
theorem dX6_heavy_16 : decode cX6_heavy 16 = .ok (.invokevirtual 337, 3) := by decide +kernel
theorem dX6_heavy_19 : decode cX6_heavy 19 = .ok (.iconst (-1), 1) := by decide +kernel
theorem dX6_heavy_20 : decode cX6_heavy 20 = .ok (.istore_n 1, 1) := by decide +kernel
theorem dX6_heavy_21 : decode cX6_heavy 21 = .ok (.aload_n 0, 1) := by decide +kernel
theorem dX6_heavy_22 : decode cX6_heavy 22 = .ok (.aload_n 0, 1) := by decide +kernel
theorem dX6_heavy_23 : decode cX6_heavy 23 = .ok (.invokevirtual 243, 3) := by decide +kernel
theorem dX6_heavy_26 : decode cX6_heavy 26 = .ok (.invokevirtual 346, 3) := by decide +kernel
theorem dX6_heavy_29 : decode cX6_heavy 29 = .ok (.istore_n 2, 1) := by decide +kernel
theorem dX6_heavy_30 : decode cX6_heavy 30 = .ok (.iconst 0, 1) := by decide +kernel
theorem dX6_heavy_31 : decode cX6_heavy 31 = .ok (.istore_n 3, 1) := by decide +kernel
theorem dX6_heavy_32 : decode cX6_heavy 32 = .ok (.iload_n 3, 1) := by decide +kernel
theorem dX6_heavy_33 : decode cX6_heavy 33 = .ok (.aload_n 0, 1) := by decide +kernel
theorem dX6_heavy_34 : decode cX6_heavy 34 = .ok (.invokevirtual 236, 3) := by decide +kernel
theorem dX6_heavy_37 : decode cX6_heavy 37 = .ok (.if_icmp .ge 50, 3) := by decide +kernel
theorem dX6_heavy_40 : decode cX6_heavy 40 = .ok (.aload_n 0, 1) := by decide +kernel
theorem dX6_heavy_41 : decode cX6_heavy 41 = .ok (.invokevirtual 315, 3) := by decide +kernel
theorem dX6_heavy_44 : decode cX6_heavy 44 = .ok (.aload_n 0, 1) := by decide +kernel
theorem dX6_heavy_45 : decode cX6_heavy 45 = .ok (.iconst 1, 1) := by decide +kernel
theorem dX6_heavy_46 : decode cX6_heavy 46 = .ok (.iload_n 3, 1) := by decide +kernel
theorem dX6_heavy_47 : decode cX6_heavy 47 = .ok (.ishl, 1) := by decide +kernel
theorem dX6_heavy_48 : decode cX6_heavy 48 = .ok (.putfield 258, 3) := by decide +kernel
theorem dX6_heavy_51 : decode cX6_heavy 51 = .ok (.aload_n 0, 1) := by decide +kernel
theorem dX6_heavy_52 : decode cX6_heavy 52 = .ok (.invokevirtual 318, 3) := by decide +kernel
theorem dX6_heavy_55 : decode cX6_heavy 55 = .ok (.aload_n 0, 1) := by decide +kernel
theorem dX6_heavy_56 : decode cX6_heavy 56 = .ok (.aload_n 0, 1) := by decide +kernel
theorem dX6_heavy_57 : decode cX6_heavy 57 = .ok (.invokevirtual 243, 3) := by decide +kernel
theorem dX6_heavy_60 : decode cX6_heavy 60 = .ok (.invokevirtual 346, 3) := by decide +kernel
theorem dX6_heavy_63 : decode cX6_heavy 63 = .ok (.iload_n 2, 1) := by decide +kernel
theorem dX6_heavy_64 : decode cX6_heavy 64 = .ok (.if_icmp .lt 6, 3) := by decide +kernel
theorem dX6_heavy_67 : decode cX6_heavy 67 = .ok (.goto 14, 3) := by decide +kernel
theorem dX6_heavy_70 : decode cX6_heavy 70 = .ok (.iload_n 3, 1) := by decide +kernel
theorem dX6_heavy_71 : decode cX6_heavy 71 = .ok (.istore_n 1, 1) := by decide +kernel
theorem dX6_heavy_72 : decode cX6_heavy 72 = .ok (.aload_n 0, 1) := by decide +kernel
theorem dX6_heavy_73 : decode cX6_heavy 73 = .ok (.aload_n 0, 1) := by decide +kernel
theorem dX6_heavy_74 : decode cX6_heavy 74 = .ok (.invokevirtual 243, 3) := by decide +kernel
theorem dX6_heavy_77 : decode cX6_heavy 77 = .ok (.invokevirtual 346, 3) := by decide +kernel
theorem dX6_heavy_80 : decode cX6_heavy 80 = .ok (.istore_n 2, 1) := by decide +kernel
theorem dX6_heavy_81 : decode cX6_heavy 81 = .ok (.iinc 3 1, 3) := by decide +kernel
theorem dX6_heavy_84 : decode cX6_heavy 84 = .ok (.goto (-52), 3) := by decide +kernel
theorem dX6_heavy_87 : decode cX6_heavy 87 = .ok (.iload_n 1, 1) := by decide +kernel
theorem dX6_heavy_88 : decode cX6_heavy 88 = .ok (.ireturn, 1) := by decide +kernel
theorem dX6_worth_0 : decode cX6_worth 0 = .ok (.aload_n 0, 1) := by decide +kernel
theorem dX6_worth_1 : decode cX6_worth 1 = .ok (.iconst 0, 1) := by decide +kernel
theorem dX6_worth_2 : decode cX6_worth 2 = .ok (.putfield 74, 3) := by decide +kernel
theorem dX6_worth_5 : decode cX6_worth 5 = .ok (.aload_n 0, 1) := by decide +kernel
theorem dX6_worth_6 : decode cX6_worth 6 = .ok (.invokevirtual 240, 3) := by decide +kernel
theorem dX6_worth_9 : decode cX6_worth 9 = .ok (.ifCond .eq 21, 3) := by decide +kernel
theorem dX6_worth_12 : decode cX6_worth 12 = .ok (.iload_n 1, 1) := by decide +kernel
theorem dX6_worth_13 : decode cX6_worth 13 = .ok (.i2l, 1) := by decide +kernel
theorem dX6_worth_14 : decode cX6_worth 14 = .ok (.lconst 0, 1) := by decide +kernel
theorem dX6_worth_15 : decode cX6_worth 15 = .ok (.iconst 1, 1) := by decide +kernel
theorem dX6_worth_16 : decode cX6_worth 16 = .ok (.aload_n 0, 1) := by decide +kernel
theorem dX6_worth_17 : decode cX6_worth 17 = .ok (.invokevirtual 236, 3) := by decide +kernel
theorem dX6_worth_20 : decode cX6_worth 20 = .ok (.ishl, 1) := by decide +kernel
theorem dX6_worth_21 : decode cX6_worth 21 = .ok (.i2l, 1) := by decide +kernel
theorem dX6_worth_22 : decode cX6_worth 22 = .ok (.lconst 1, 1) := by decide +kernel
theorem dX6_worth_23 : decode cX6_worth 23 = .ok (.lsub, 1) := by decide +kernel
theorem dX6_worth_24 : decode cX6_worth 24 = .ok (.invokestatic 79, 3) := by decide +kernel
theorem dX6_worth_27 : decode cX6_worth 27 = .ok (.ifCond .ne 6, 3) := by decide +kernel
theorem dX6_worth_30 : decode cX6_worth 30 = .ok (.bipush (-2), 2) := by decide +kernel
theorem dX6_worth_32 : decode cX6_worth 32 = .ok (.ireturn, 1) := by decide +kernel
theorem dX6_worth_33 : decode cX6_worth 33 = .ok (.aload_n 0, 1) := by decide +kernel
theorem dX6_worth_34 : decode cX6_worth 34 = .ok (.invokevirtual 337, 3) := by decide +kernel
theorem dX6_worth_37 : decode cX6_worth 37 = .ok (.aload_n 0, 1) := by decide +kernel
theorem dX6_worth_38 : decode cX6_worth 38 = .ok (.iload_n 1, 1) := by decide +kernel
theorem dX6_worth_39 : decode cX6_worth 39 = .ok (.aload_n 0, 1) := by decide +kernel
theorem dX6_worth_40 : decode cX6_worth 40 = .ok (.invokevirtual 243, 3) := by decide +kernel
theorem dX6_worth_43 : decode cX6_worth 43 = .ok (.invokevirtual 352, 3) := by decide +kernel
theorem dX6_worth_46 : decode cX6_worth 46 = .ok (.ireturn, 1) := by decide +kernel
theorem dX6_times_0 : decode cX6_times 0 = .ok (.iload_n 0, 1) := by decide +kernel
theorem dX6_times_1 : decode cX6_times 1 = .ok (.iconst 2, 1) := by decide +kernel
theorem dX6_times_2 : decode cX6_times 2 = .ok (.if_icmp .ge 7, 3) := by decide +kernel
theorem dX6_times_5 : decode cX6_times 5 = .ok (.iconst 1, 1) := by decide +kernel
theorem dX6_times_6 : decode cX6_times 6 = .ok (.goto 11, 3) := by decide +kernel
theorem dX6_times_9 : decode cX6_times 9 = .ok (.iload_n 0, 1) := by decide +kernel
theorem dX6_times_10 : decode cX6_times 10 = .ok (.iload_n 0, 1) := by decide +kernel
theorem dX6_times_11 : decode cX6_times 11 = .ok (.iconst 1, 1) := by decide +kernel
theorem dX6_times_12 : decode cX6_times 12 = .ok (.isub, 1) := by decide +kernel
theorem dX6_times_13 : decode cX6_times 13 = .ok (.invokestatic 401, 3) := by decide +kernel
theorem dX6_times_16 : decode cX6_times 16 = .ok (.imul, 1) := by decide +kernel
theorem dX6_times_17 : decode cX6_times 17 = .ok (.ireturn, 1) := by decide +kernel
theorem dX6_common_0 : decode cX6_common 0 = .ok (.lload_n 2, 1) := by decide +kernel
theorem dX6_common_1 : decode cX6_common 1 = .ok (.lconst 0, 1) := by decide +kernel
theorem dX6_common_2 : decode cX6_common 2 = .ok (.lcmp, 1) := by decide +kernel
theorem dX6_common_3 : decode cX6_common 3 = .ok (.ifCond .ne 7, 3) := by decide +kernel
theorem dX6_common_6 : decode cX6_common 6 = .ok (.lload_n 0, 1) := by decide +kernel
theorem dX6_common_7 : decode cX6_common 7 = .ok (.goto 10, 3) := by decide +kernel
theorem dX6_common_10 : decode cX6_common 10 = .ok (.lload_n 2, 1) := by decide +kernel
theorem dX6_common_11 : decode cX6_common 11 = .ok (.lload_n 0, 1) := by decide +kernel
theorem dX6_common_12 : decode cX6_common 12 = .ok (.lload_n 2, 1) := by decide +kernel
theorem dX6_common_13 : decode cX6_common 13 = .ok (.lrem, 1) := by decide +kernel
theorem dX6_common_14 : decode cX6_common 14 = .ok (.invokestatic 404, 3) := by decide +kernel
theorem dX6_common_17 : decode cX6_common 17 = .ok (.lreturn, 1) := by decide +kernel
theorem dX6_part_0 : decode cX6_part 0 = .ok (.iload 4, 2) := by decide +kernel
theorem dX6_part_2 : decode cX6_part 2 = .ok (.ifCond .ne 7, 3) := by decide +kernel
theorem dX6_part_5 : decode cX6_part 5 = .ok (.lload_n 0, 1) := by decide +kernel
theorem dX6_part_6 : decode cX6_part 6 = .ok (.goto 4, 3) := by decide +kernel
theorem dX6_part_9 : decode cX6_part 9 = .ok (.lload_n 2, 1) := by decide +kernel
theorem dX6_part_10 : decode cX6_part 10 = .ok (.lload_n 0, 1) := by decide +kernel
theorem dX6_part_11 : decode cX6_part 11 = .ok (.lload_n 2, 1) := by decide +kernel
theorem dX6_part_12 : decode cX6_part 12 = .ok (.invokestatic 404, 3) := by decide +kernel
theorem dX6_part_15 : decode cX6_part 15 = .ok (.ldiv, 1) := by decide +kernel
theorem dX6_part_16 : decode cX6_part 16 = .ok (.lreturn, 1) := by decide +kernel
theorem dX6_share_0 : decode cX6_share 0 = .ok (.aload_n 0, 1) := by decide +kernel
theorem dX6_share_1 : decode cX6_share 1 = .ok (.iconst 0, 1) := by decide +kernel
theorem dX6_share_2 : decode cX6_share 2 = .ok (.putfield 74, 3) := by decide +kernel
theorem dX6_share_5 : decode cX6_share 5 = .ok (.aload_n 0, 1) := by decide +kernel
theorem dX6_share_6 : decode cX6_share 6 = .ok (.iload_n 1, 1) := by decide +kernel
theorem dX6_share_7 : decode cX6_share 7 = .ok (.i2l, 1) := by decide +kernel
theorem dX6_share_8 : decode cX6_share 8 = .ok (.invokevirtual 246, 3) := by decide +kernel
theorem dX6_share_11 : decode cX6_share 11 = .ok (.ifCond .eq 10, 3) := by decide +kernel
theorem dX6_share_14 : decode cX6_share 14 = .ok (.iload_n 2, 1) := by decide +kernel
theorem dX6_share_15 : decode cX6_share 15 = .ok (.invokestatic 408, 3) := by decide +kernel
theorem dX6_share_18 : decode cX6_share 18 = .ok (.ifCond .ne 6, 3) := by decide +kernel
theorem dX6_share_21 : decode cX6_share 21 = .ok (.bipush (-2), 2) := by decide +kernel
theorem dX6_share_23 : decode cX6_share 23 = .ok (.ireturn, 1) := by decide +kernel
theorem dX6_share_24 : decode cX6_share 24 = .ok (.aload_n 0, 1) := by decide +kernel
theorem dX6_share_25 : decode cX6_share 25 = .ok (.invokevirtual 337, 3) := by decide +kernel
theorem dX6_share_28 : decode cX6_share 28 = .ok (.iconst 0, 1) := by decide +kernel
theorem dX6_share_29 : decode cX6_share 29 = .ok (.istore_n 3, 1) := by decide +kernel
theorem dX6_share_30 : decode cX6_share 30 = .ok (.iconst 0, 1) := by decide +kernel
theorem dX6_share_31 : decode cX6_share 31 = .ok (.istore 4, 2) := by decide +kernel
theorem dX6_share_33 : decode cX6_share 33 = .ok (.iload 4, 2) := by decide +kernel
theorem dX6_share_35 : decode cX6_share 35 = .ok (.iconst 1, 1) := by decide +kernel
theorem dX6_share_36 : decode cX6_share 36 = .ok (.aload_n 0, 1) := by decide +kernel
theorem dX6_share_37 : decode cX6_share 37 = .ok (.invokevirtual 236, 3) := by decide +kernel
theorem dX6_share_40 : decode cX6_share 40 = .ok (.ishl, 1) := by decide +kernel
theorem dX6_share_41 : decode cX6_share 41 = .ok (.if_icmp .ge 75, 3) := by decide +kernel
theorem dX6_share_44 : decode cX6_share 44 = .ok (.iload 4, 2) := by decide +kernel
theorem dX6_share_46 : decode cX6_share 46 = .ok (.iload_n 1, 1) := by decide +kernel
theorem dX6_share_47 : decode cX6_share 47 = .ok (.invokestatic 273, 3) := by decide +kernel
theorem dX6_share_50 : decode cX6_share 50 = .ok (.ifCond .eq 6, 3) := by decide +kernel
theorem dX6_share_53 : decode cX6_share 53 = .ok (.goto 57, 3) := by decide +kernel
theorem dX6_share_56 : decode cX6_share 56 = .ok (.iload 4, 2) := by decide +kernel
theorem dX6_share_58 : decode cX6_share 58 = .ok (.invokestatic 377, 3) := by decide +kernel
theorem dX6_share_61 : decode cX6_share 61 = .ok (.istore 5, 2) := by decide +kernel
theorem dX6_share_63 : decode cX6_share 63 = .ok (.iload_n 3, 1) := by decide +kernel
theorem dX6_share_64 : decode cX6_share 64 = .ok (.iload 5, 2) := by decide +kernel
theorem dX6_share_66 : decode cX6_share 66 = .ok (.invokestatic 401, 3) := by decide +kernel
theorem dX6_share_69 : decode cX6_share 69 = .ok (.aload_n 0, 1) := by decide +kernel
theorem dX6_share_70 : decode cX6_share 70 = .ok (.invokevirtual 236, 3) := by decide +kernel
theorem dX6_share_73 : decode cX6_share 73 = .ok (.iload 5, 2) := by decide +kernel
theorem dX6_share_75 : decode cX6_share 75 = .ok (.isub, 1) := by decide +kernel
theorem dX6_share_76 : decode cX6_share 76 = .ok (.iconst 1, 1) := by decide +kernel
theorem dX6_share_77 : decode cX6_share 77 = .ok (.isub, 1) := by decide +kernel
theorem dX6_share_78 : decode cX6_share 78 = .ok (.invokestatic 401, 3) := by decide +kernel
theorem dX6_share_81 : decode cX6_share 81 = .ok (.imul, 1) := by decide +kernel
theorem dX6_share_82 : decode cX6_share 82 = .ok (.aload_n 0, 1) := by decide +kernel
theorem dX6_share_83 : decode cX6_share 83 = .ok (.iload 4, 2) := by decide +kernel
theorem dX6_share_85 : decode cX6_share 85 = .ok (.iconst 1, 1) := by decide +kernel
theorem dX6_share_86 : decode cX6_share 86 = .ok (.iload_n 1, 1) := by decide +kernel
theorem dX6_share_87 : decode cX6_share 87 = .ok (.ishl, 1) := by decide +kernel
theorem dX6_share_88 : decode cX6_share 88 = .ok (.ior, 1) := by decide +kernel
theorem dX6_share_89 : decode cX6_share 89 = .ok (.aload_n 0, 1) := by decide +kernel
theorem dX6_share_90 : decode cX6_share 90 = .ok (.invokevirtual 243, 3) := by decide +kernel
theorem dX6_share_93 : decode cX6_share 93 = .ok (.invokevirtual 352, 3) := by decide +kernel
theorem dX6_share_96 : decode cX6_share 96 = .ok (.aload_n 0, 1) := by decide +kernel
theorem dX6_share_97 : decode cX6_share 97 = .ok (.iload 4, 2) := by decide +kernel
theorem dX6_share_99 : decode cX6_share 99 = .ok (.aload_n 0, 1) := by decide +kernel
theorem dX6_share_100 : decode cX6_share 100 = .ok (.invokevirtual 243, 3) := by decide +kernel
theorem dX6_share_103 : decode cX6_share 103 = .ok (.invokevirtual 352, 3) := by decide +kernel
theorem dX6_share_106 : decode cX6_share 106 = .ok (.isub, 1) := by decide +kernel
theorem dX6_share_107 : decode cX6_share 107 = .ok (.imul, 1) := by decide +kernel
theorem dX6_share_108 : decode cX6_share 108 = .ok (.iadd, 1) := by decide +kernel
theorem dX6_share_109 : decode cX6_share 109 = .ok (.istore_n 3, 1) := by decide +kernel
theorem dX6_share_110 : decode cX6_share 110 = .ok (.iinc 4 1, 3) := by decide +kernel
theorem dX6_share_113 : decode cX6_share 113 = .ok (.goto (-80), 3) := by decide +kernel
theorem dX6_share_116 : decode cX6_share 116 = .ok (.iload_n 3, 1) := by decide +kernel
theorem dX6_share_117 : decode cX6_share 117 = .ok (.i2l, 1) := by decide +kernel
theorem dX6_share_118 : decode cX6_share 118 = .ok (.aload_n 0, 1) := by decide +kernel
theorem dX6_share_119 : decode cX6_share 119 = .ok (.invokevirtual 236, 3) := by decide +kernel
theorem dX6_share_122 : decode cX6_share 122 = .ok (.invokestatic 401, 3) := by decide +kernel
theorem dX6_share_125 : decode cX6_share 125 = .ok (.i2l, 1) := by decide +kernel
theorem dX6_share_126 : decode cX6_share 126 = .ok (.iload_n 2, 1) := by decide +kernel
theorem dX6_share_127 : decode cX6_share 127 = .ok (.invokestatic 411, 3) := by decide +kernel
theorem dX6_share_130 : decode cX6_share 130 = .ok (.l2i, 1) := by decide +kernel
theorem dX6_share_131 : decode cX6_share 131 = .ok (.ireturn, 1) := by decide +kernel
theorem dX6_getsBy_0 : decode cX6_getsBy 0 = .ok (.aload_n 0, 1) := by decide +kernel
theorem dX6_getsBy_1 : decode cX6_getsBy 1 = .ok (.invokevirtual 315, 3) := by decide +kernel
theorem dX6_getsBy_4 : decode cX6_getsBy 4 = .ok (.aload_n 0, 1) := by decide +kernel
theorem dX6_getsBy_5 : decode cX6_getsBy 5 = .ok (.getfield 59, 3) := by decide +kernel
theorem dX6_getsBy_8 : decode cX6_getsBy 8 = .ok (.iload_n 2, 1) := by decide +kernel
theorem dX6_getsBy_9 : decode cX6_getsBy 9 = .ok (.dup2, 1) := by decide +kernel
theorem dX6_getsBy_10 : decode cX6_getsBy 10 = .ok (.iaload, 1) := by decide +kernel
theorem dX6_getsBy_11 : decode cX6_getsBy 11 = .ok (.iload 4, 2) := by decide +kernel
theorem dX6_getsBy_13 : decode cX6_getsBy 13 = .ok (.ixor, 1) := by decide +kernel
theorem dX6_getsBy_14 : decode cX6_getsBy 14 = .ok (.iastore, 1) := by decide +kernel
theorem dX6_getsBy_15 : decode cX6_getsBy 15 = .ok (.aload_n 0, 1) := by decide +kernel
theorem dX6_getsBy_16 : decode cX6_getsBy 16 = .ok (.getfield 59, 3) := by decide +kernel
theorem dX6_getsBy_19 : decode cX6_getsBy 19 = .ok (.iload_n 3, 1) := by decide +kernel
theorem dX6_getsBy_20 : decode cX6_getsBy 20 = .ok (.dup2, 1) := by decide +kernel
theorem dX6_getsBy_21 : decode cX6_getsBy 21 = .ok (.iaload, 1) := by decide +kernel
theorem dX6_getsBy_22 : decode cX6_getsBy 22 = .ok (.iload 5, 2) := by decide +kernel
theorem dX6_getsBy_24 : decode cX6_getsBy 24 = .ok (.ixor, 1) := by decide +kernel
theorem dX6_getsBy_25 : decode cX6_getsBy 25 = .ok (.iastore, 1) := by decide +kernel
theorem dX6_getsBy_26 : decode cX6_getsBy 26 = .ok (.aload_n 0, 1) := by decide +kernel
theorem dX6_getsBy_27 : decode cX6_getsBy 27 = .ok (.invokevirtual 318, 3) := by decide +kernel
theorem dX6_getsBy_30 : decode cX6_getsBy 30 = .ok (.iconst 0, 1) := by decide +kernel
theorem dX6_getsBy_31 : decode cX6_getsBy 31 = .ok (.istore 6, 2) := by decide +kernel
theorem dX6_getsBy_33 : decode cX6_getsBy 33 = .ok (.iconst 0, 1) := by decide +kernel
theorem dX6_getsBy_34 : decode cX6_getsBy 34 = .ok (.istore 7, 2) := by decide +kernel
theorem dX6_getsBy_36 : decode cX6_getsBy 36 = .ok (.iload 7, 2) := by decide +kernel
theorem dX6_getsBy_38 : decode cX6_getsBy 38 = .ok (.aload_n 0, 1) := by decide +kernel
theorem dX6_getsBy_39 : decode cX6_getsBy 39 = .ok (.invokevirtual 236, 3) := by decide +kernel
theorem dX6_getsBy_42 : decode cX6_getsBy 42 = .ok (.if_icmp .ge 42, 3) := by decide +kernel
theorem dX6_getsBy_45 : decode cX6_getsBy 45 = .ok (.iload 6, 2) := by decide +kernel
theorem dX6_getsBy_47 : decode cX6_getsBy 47 = .ok (.aload_n 0, 1) := by decide +kernel
theorem dX6_getsBy_48 : decode cX6_getsBy 48 = .ok (.getfield 43, 3) := by decide +kernel
theorem dX6_getsBy_51 : decode cX6_getsBy 51 = .ok (.iconst 4, 1) := by decide +kernel
theorem dX6_getsBy_52 : decode cX6_getsBy 52 = .ok (.iload 7, 2) := by decide +kernel
theorem dX6_getsBy_54 : decode cX6_getsBy 54 = .ok (.imul, 1) := by decide +kernel
theorem dX6_getsBy_55 : decode cX6_getsBy 55 = .ok (.iaload, 1) := by decide +kernel
theorem dX6_getsBy_56 : decode cX6_getsBy 56 = .ok (.iload_n 1, 1) := by decide +kernel
theorem dX6_getsBy_57 : decode cX6_getsBy 57 = .ok (.if_icmp .ne 17, 3) := by decide +kernel
theorem dX6_getsBy_60 : decode cX6_getsBy 60 = .ok (.aload_n 0, 1) := by decide +kernel
theorem dX6_getsBy_61 : decode cX6_getsBy 61 = .ok (.iload 7, 2) := by decide +kernel
theorem dX6_getsBy_63 : decode cX6_getsBy 63 = .ok (.invokevirtual 398, 3) := by decide +kernel
theorem dX6_getsBy_66 : decode cX6_getsBy 66 = .ok (.iconst 5, 1) := by decide +kernel
theorem dX6_getsBy_67 : decode cX6_getsBy 67 = .ok (.if_icmp .lt 7, 3) := by decide +kernel
theorem dX6_getsBy_70 : decode cX6_getsBy 70 = .ok (.iconst 3, 1) := by decide +kernel
theorem dX6_getsBy_71 : decode cX6_getsBy 71 = .ok (.goto 4, 3) := by decide +kernel
theorem dX6_getsBy_74 : decode cX6_getsBy 74 = .ok (.iconst 0, 1) := by decide +kernel
theorem dX6_getsBy_75 : decode cX6_getsBy 75 = .ok (.iadd, 1) := by decide +kernel
theorem dX6_getsBy_76 : decode cX6_getsBy 76 = .ok (.istore 6, 2) := by decide +kernel
theorem dX6_getsBy_78 : decode cX6_getsBy 78 = .ok (.iinc 7 1, 3) := by decide +kernel
theorem dX6_getsBy_81 : decode cX6_getsBy 81 = .ok (.goto (-45), 3) := by decide +kernel
theorem dX6_getsBy_84 : decode cX6_getsBy 84 = .ok (.iload 6, 2) := by decide +kernel
theorem dX6_getsBy_86 : decode cX6_getsBy 86 = .ok (.iload_n 1, 1) := by decide +kernel
theorem dX6_getsBy_87 : decode cX6_getsBy 87 = .ok (.iload_n 2, 1) := by decide +kernel
theorem dX6_getsBy_88 : decode cX6_getsBy 88 = .ok (.if_icmp .ne 8, 3) := by decide +kernel
theorem dX6_getsBy_91 : decode cX6_getsBy 91 = .ok (.iload 4, 2) := by decide +kernel
theorem dX6_getsBy_93 : decode cX6_getsBy 93 = .ok (.goto 5, 3) := by decide +kernel
theorem dX6_getsBy_96 : decode cX6_getsBy 96 = .ok (.iload 5, 2) := by decide +kernel
theorem dX6_getsBy_98 : decode cX6_getsBy 98 = .ok (.isub, 1) := by decide +kernel
theorem dX6_getsBy_99 : decode cX6_getsBy 99 = .ok (.ireturn, 1) := by decide +kernel
theorem dX6_areTwo_0 : decode cX6_areTwo 0 = .ok (.aload_n 0, 1) := by decide +kernel
theorem dX6_areTwo_1 : decode cX6_areTwo 1 = .ok (.iload_n 1, 1) := by decide +kernel
theorem dX6_areTwo_2 : decode cX6_areTwo 2 = .ok (.invokevirtual 326, 3) := by decide +kernel
theorem dX6_areTwo_5 : decode cX6_areTwo 5 = .ok (.ifCond .eq 20, 3) := by decide +kernel
theorem dX6_areTwo_8 : decode cX6_areTwo 8 = .ok (.aload_n 0, 1) := by decide +kernel
theorem dX6_areTwo_9 : decode cX6_areTwo 9 = .ok (.iload_n 2, 1) := by decide +kernel
theorem dX6_areTwo_10 : decode cX6_areTwo 10 = .ok (.invokevirtual 326, 3) := by decide +kernel
theorem dX6_areTwo_13 : decode cX6_areTwo 13 = .ok (.ifCond .eq 12, 3) := by decide +kernel
theorem dX6_areTwo_16 : decode cX6_areTwo 16 = .ok (.iload_n 1, 1) := by decide +kernel
theorem dX6_areTwo_17 : decode cX6_areTwo 17 = .ok (.iload_n 2, 1) := by decide +kernel
theorem dX6_areTwo_18 : decode cX6_areTwo 18 = .ok (.if_icmp .eq 7, 3) := by decide +kernel
theorem dX6_areTwo_21 : decode cX6_areTwo 21 = .ok (.iconst 1, 1) := by decide +kernel
theorem dX6_areTwo_22 : decode cX6_areTwo 22 = .ok (.goto 4, 3) := by decide +kernel
theorem dX6_areTwo_25 : decode cX6_areTwo 25 = .ok (.iconst 0, 1) := by decide +kernel
theorem dX6_areTwo_26 : decode cX6_areTwo 26 = .ok (.ireturn, 1) := by decide +kernel
theorem dX6_rests_0 : decode cX6_rests 0 = .ok (.aload_n 0, 1) := by decide +kernel
theorem dX6_rests_1 : decode cX6_rests 1 = .ok (.iconst 0, 1) := by decide +kernel
theorem dX6_rests_2 : decode cX6_rests 2 = .ok (.putfield 74, 3) := by decide +kernel
theorem dX6_rests_5 : decode cX6_rests 5 = .ok (.aload_n 0, 1) := by decide +kernel
theorem dX6_rests_6 : decode cX6_rests 6 = .ok (.iload_n 1, 1) := by decide +kernel
theorem dX6_rests_7 : decode cX6_rests 7 = .ok (.iload_n 2, 1) := by decide +kernel
theorem dX6_rests_8 : decode cX6_rests 8 = .ok (.invokevirtual 415, 3) := by decide +kernel
theorem dX6_rests_11 : decode cX6_rests 11 = .ok (.ifCond .ne 6, 3) := by decide +kernel
theorem dX6_rests_14 : decode cX6_rests 14 = .ok (.bipush (-2), 2) := by decide +kernel
theorem dX6_rests_16 : decode cX6_rests 16 = .ok (.ireturn, 1) := by decide +kernel
theorem dX6_rests_17 : decode cX6_rests 17 = .ok (.iconst 0, 1) := by decide +kernel
theorem dX6_rests_18 : decode cX6_rests 18 = .ok (.istore_n 3, 1) := by decide +kernel
theorem dX6_rests_19 : decode cX6_rests 19 = .ok (.iconst 0, 1) := by decide +kernel
theorem dX6_rests_20 : decode cX6_rests 20 = .ok (.istore 4, 2) := by decide +kernel
theorem dX6_rests_22 : decode cX6_rests 22 = .ok (.iload 4, 2) := by decide +kernel
theorem dX6_rests_24 : decode cX6_rests 24 = .ok (.iconst 4, 1) := by decide +kernel
theorem dX6_rests_25 : decode cX6_rests 25 = .ok (.if_icmp .ge 98, 3) := by decide +kernel
theorem dX6_rests_28 : decode cX6_rests 28 = .ok (.iload 4, 2) := by decide +kernel
theorem dX6_rests_30 : decode cX6_rests 30 = .ok (.iconst 2, 1) := by decide +kernel
theorem dX6_rests_31 : decode cX6_rests 31 = .ok (.irem, 1) := by decide +kernel
theorem dX6_rests_32 : decode cX6_rests 32 = .ok (.istore 5, 2) := by decide +kernel
theorem dX6_rests_34 : decode cX6_rests 34 = .ok (.iload 4, 2) := by decide +kernel
theorem dX6_rests_36 : decode cX6_rests 36 = .ok (.iconst 2, 1) := by decide +kernel
theorem dX6_rests_37 : decode cX6_rests 37 = .ok (.idiv, 1) := by decide +kernel
theorem dX6_rests_38 : decode cX6_rests 38 = .ok (.istore 6, 2) := by decide +kernel
theorem dX6_rests_40 : decode cX6_rests 40 = .ok (.aload_n 0, 1) := by decide +kernel
theorem dX6_rests_41 : decode cX6_rests 41 = .ok (.iload_n 1, 1) := by decide +kernel
theorem dX6_rests_42 : decode cX6_rests 42 = .ok (.iload_n 1, 1) := by decide +kernel
theorem dX6_rests_43 : decode cX6_rests 43 = .ok (.iload_n 2, 1) := by decide +kernel
theorem dX6_rests_44 : decode cX6_rests 44 = .ok (.iconst 1, 1) := by decide +kernel
theorem dX6_rests_45 : decode cX6_rests 45 = .ok (.iload 5, 2) := by decide +kernel
theorem dX6_rests_47 : decode cX6_rests 47 = .ok (.isub, 1) := by decide +kernel
theorem dX6_rests_48 : decode cX6_rests 48 = .ok (.iload 6, 2) := by decide +kernel
theorem dX6_rests_50 : decode cX6_rests 50 = .ok (.invokevirtual 418, 3) := by decide +kernel
theorem dX6_rests_53 : decode cX6_rests 53 = .ok (.aload_n 0, 1) := by decide +kernel
theorem dX6_rests_54 : decode cX6_rests 54 = .ok (.iload_n 1, 1) := by decide +kernel
theorem dX6_rests_55 : decode cX6_rests 55 = .ok (.iload_n 1, 1) := by decide +kernel
theorem dX6_rests_56 : decode cX6_rests 56 = .ok (.iload_n 2, 1) := by decide +kernel
theorem dX6_rests_57 : decode cX6_rests 57 = .ok (.iload 5, 2) := by decide +kernel
theorem dX6_rests_59 : decode cX6_rests 59 = .ok (.iload 6, 2) := by decide +kernel
theorem dX6_rests_61 : decode cX6_rests 61 = .ok (.invokevirtual 418, 3) := by decide +kernel
theorem dX6_rests_64 : decode cX6_rests 64 = .ok (.if_icmp .gt 34, 3) := by decide +kernel
theorem dX6_rests_67 : decode cX6_rests 67 = .ok (.aload_n 0, 1) := by decide +kernel
theorem dX6_rests_68 : decode cX6_rests 68 = .ok (.iload_n 2, 1) := by decide +kernel
theorem dX6_rests_69 : decode cX6_rests 69 = .ok (.iload_n 1, 1) := by decide +kernel
theorem dX6_rests_70 : decode cX6_rests 70 = .ok (.iload_n 2, 1) := by decide +kernel
theorem dX6_rests_71 : decode cX6_rests 71 = .ok (.iload 5, 2) := by decide +kernel
theorem dX6_rests_73 : decode cX6_rests 73 = .ok (.iconst 1, 1) := by decide +kernel
theorem dX6_rests_74 : decode cX6_rests 74 = .ok (.iload 6, 2) := by decide +kernel
theorem dX6_rests_76 : decode cX6_rests 76 = .ok (.isub, 1) := by decide +kernel
theorem dX6_rests_77 : decode cX6_rests 77 = .ok (.invokevirtual 418, 3) := by decide +kernel
theorem dX6_rests_80 : decode cX6_rests 80 = .ok (.aload_n 0, 1) := by decide +kernel
theorem dX6_rests_81 : decode cX6_rests 81 = .ok (.iload_n 2, 1) := by decide +kernel
theorem dX6_rests_82 : decode cX6_rests 82 = .ok (.iload_n 1, 1) := by decide +kernel
theorem dX6_rests_83 : decode cX6_rests 83 = .ok (.iload_n 2, 1) := by decide +kernel
theorem dX6_rests_84 : decode cX6_rests 84 = .ok (.iload 5, 2) := by decide +kernel
theorem dX6_rests_86 : decode cX6_rests 86 = .ok (.iload 6, 2) := by decide +kernel
theorem dX6_rests_88 : decode cX6_rests 88 = .ok (.invokevirtual 418, 3) := by decide +kernel
theorem dX6_rests_91 : decode cX6_rests 91 = .ok (.if_icmp .gt 7, 3) := by decide +kernel
theorem dX6_rests_94 : decode cX6_rests 94 = .ok (.iconst 1, 1) := by decide +kernel
theorem dX6_rests_95 : decode cX6_rests 95 = .ok (.goto 4, 3) := by decide +kernel
theorem dX6_rests_98 : decode cX6_rests 98 = .ok (.iconst 0, 1) := by decide +kernel
theorem dX6_rests_99 : decode cX6_rests 99 = .ok (.istore 7, 2) := by decide +kernel
theorem dX6_rests_101 : decode cX6_rests 101 = .ok (.iload_n 3, 1) := by decide +kernel
theorem dX6_rests_102 : decode cX6_rests 102 = .ok (.iload 7, 2) := by decide +kernel
theorem dX6_rests_104 : decode cX6_rests 104 = .ok (.ifCond .eq 10, 3) := by decide +kernel
theorem dX6_rests_107 : decode cX6_rests 107 = .ok (.iconst 1, 1) := by decide +kernel
theorem dX6_rests_108 : decode cX6_rests 108 = .ok (.iload 4, 2) := by decide +kernel
theorem dX6_rests_110 : decode cX6_rests 110 = .ok (.ishl, 1) := by decide +kernel
theorem dX6_rests_111 : decode cX6_rests 111 = .ok (.goto 4, 3) := by decide +kernel
theorem dX6_rests_114 : decode cX6_rests 114 = .ok (.iconst 0, 1) := by decide +kernel
theorem dX6_rests_115 : decode cX6_rests 115 = .ok (.ior, 1) := by decide +kernel
theorem dX6_rests_116 : decode cX6_rests 116 = .ok (.istore_n 3, 1) := by decide +kernel
theorem dX6_rests_117 : decode cX6_rests 117 = .ok (.iinc 4 1, 3) := by decide +kernel
theorem dX6_rests_120 : decode cX6_rests 120 = .ok (.goto (-98), 3) := by decide +kernel
theorem dX6_rests_123 : decode cX6_rests 123 = .ok (.iload_n 3, 1) := by decide +kernel
theorem dX6_rests_124 : decode cX6_rests 124 = .ok (.ireturn, 1) := by decide +kernel
theorem dX6_gets_0 : decode cX6_gets 0 = .ok (.aload_n 0, 1) := by decide +kernel
theorem dX6_gets_1 : decode cX6_gets 1 = .ok (.iconst 0, 1) := by decide +kernel
theorem dX6_gets_2 : decode cX6_gets 2 = .ok (.putfield 74, 3) := by decide +kernel
theorem dX6_gets_5 : decode cX6_gets 5 = .ok (.aload_n 0, 1) := by decide +kernel
theorem dX6_gets_6 : decode cX6_gets 6 = .ok (.iload_n 1, 1) := by decide +kernel
theorem dX6_gets_7 : decode cX6_gets 7 = .ok (.iload_n 2, 1) := by decide +kernel
theorem dX6_gets_8 : decode cX6_gets 8 = .ok (.invokevirtual 415, 3) := by decide +kernel
theorem dX6_gets_11 : decode cX6_gets 11 = .ok (.ifCond .eq 31, 3) := by decide +kernel
theorem dX6_gets_14 : decode cX6_gets 14 = .ok (.iload_n 3, 1) := by decide +kernel
theorem dX6_gets_15 : decode cX6_gets 15 = .ok (.invokestatic 408, 3) := by decide +kernel
theorem dX6_gets_18 : decode cX6_gets 18 = .ok (.ifCond .eq 24, 3) := by decide +kernel
theorem dX6_gets_21 : decode cX6_gets 21 = .ok (.iload 4, 2) := by decide +kernel
theorem dX6_gets_23 : decode cX6_gets 23 = .ok (.invokestatic 408, 3) := by decide +kernel
theorem dX6_gets_26 : decode cX6_gets 26 = .ok (.ifCond .eq 16, 3) := by decide +kernel
theorem dX6_gets_29 : decode cX6_gets 29 = .ok (.aload_n 0, 1) := by decide +kernel
theorem dX6_gets_30 : decode cX6_gets 30 = .ok (.iload_n 1, 1) := by decide +kernel
theorem dX6_gets_31 : decode cX6_gets 31 = .ok (.iload_n 1, 1) := by decide +kernel
theorem dX6_gets_32 : decode cX6_gets 32 = .ok (.iload_n 2, 1) := by decide +kernel
theorem dX6_gets_33 : decode cX6_gets 33 = .ok (.iload_n 3, 1) := by decide +kernel
theorem dX6_gets_34 : decode cX6_gets 34 = .ok (.iload 4, 2) := by decide +kernel
theorem dX6_gets_36 : decode cX6_gets 36 = .ok (.invokevirtual 418, 3) := by decide +kernel
theorem dX6_gets_39 : decode cX6_gets 39 = .ok (.goto 6, 3) := by decide +kernel
theorem dX6_gets_42 : decode cX6_gets 42 = .ok (.sipush (-1000), 3) := by decide +kernel
theorem dX6_gets_45 : decode cX6_gets 45 = .ok (.ireturn, 1) := by decide +kernel
theorem dX6_power_0 : decode cX6_power 0 = .ok (.iload_n 2, 1) := by decide +kernel
theorem dX6_power_1 : decode cX6_power 1 = .ok (.ifCond .ne 7, 3) := by decide +kernel
theorem dX6_power_4 : decode cX6_power 4 = .ok (.lconst 1, 1) := by decide +kernel
theorem dX6_power_5 : decode cX6_power 5 = .ok (.goto 12, 3) := by decide +kernel
theorem dX6_power_8 : decode cX6_power 8 = .ok (.lload_n 0, 1) := by decide +kernel
theorem dX6_power_9 : decode cX6_power 9 = .ok (.lload_n 0, 1) := by decide +kernel
theorem dX6_power_10 : decode cX6_power 10 = .ok (.iload_n 2, 1) := by decide +kernel
theorem dX6_power_11 : decode cX6_power 11 = .ok (.iconst 1, 1) := by decide +kernel
theorem dX6_power_12 : decode cX6_power 12 = .ok (.isub, 1) := by decide +kernel
theorem dX6_power_13 : decode cX6_power 13 = .ok (.invokestatic 421, 3) := by decide +kernel
theorem dX6_power_16 : decode cX6_power 16 = .ok (.lmul, 1) := by decide +kernel
theorem dX6_power_17 : decode cX6_power 17 = .ok (.lreturn, 1) := by decide +kernel
theorem dX6_weightOf_0 : decode cX6_weightOf 0 = .ok (.aload_n 0, 1) := by decide +kernel
theorem dX6_weightOf_1 : decode cX6_weightOf 1 = .ok (.invokevirtual 315, 3) := by decide +kernel
theorem dX6_weightOf_4 : decode cX6_weightOf 4 = .ok (.lconst 0, 1) := by decide +kernel
theorem dX6_weightOf_5 : decode cX6_weightOf 5 = .ok (.lstore 4, 2) := by decide +kernel
theorem dX6_weightOf_7 : decode cX6_weightOf 7 = .ok (.iconst 0, 1) := by decide +kernel
theorem dX6_weightOf_8 : decode cX6_weightOf 8 = .ok (.istore 6, 2) := by decide +kernel
theorem dX6_weightOf_10 : decode cX6_weightOf 10 = .ok (.iload 6, 2) := by decide +kernel
theorem dX6_weightOf_12 : decode cX6_weightOf 12 = .ok (.iconst 1, 1) := by decide +kernel
theorem dX6_weightOf_13 : decode cX6_weightOf 13 = .ok (.iload_n 2, 1) := by decide +kernel
theorem dX6_weightOf_14 : decode cX6_weightOf 14 = .ok (.ishl, 1) := by decide +kernel
theorem dX6_weightOf_15 : decode cX6_weightOf 15 = .ok (.if_icmp .ge 95, 3) := by decide +kernel
theorem dX6_weightOf_18 : decode cX6_weightOf 18 = .ok (.aload_n 0, 1) := by decide +kernel
theorem dX6_weightOf_19 : decode cX6_weightOf 19 = .ok (.iload 6, 2) := by decide +kernel
theorem dX6_weightOf_21 : decode cX6_weightOf 21 = .ok (.putfield 255, 3) := by decide +kernel
theorem dX6_weightOf_24 : decode cX6_weightOf 24 = .ok (.aload_n 0, 1) := by decide +kernel
theorem dX6_weightOf_25 : decode cX6_weightOf 25 = .ok (.invokevirtual 318, 3) := by decide +kernel
theorem dX6_weightOf_28 : decode cX6_weightOf 28 = .ok (.aload_n 0, 1) := by decide +kernel
theorem dX6_weightOf_29 : decode cX6_weightOf 29 = .ok (.getfield 34, 3) := by decide +kernel
theorem dX6_weightOf_32 : decode cX6_weightOf 32 = .ok (.iconst 2, 1) := by decide +kernel
theorem dX6_weightOf_33 : decode cX6_weightOf 33 = .ok (.iaload, 1) := by decide +kernel
theorem dX6_weightOf_34 : decode cX6_weightOf 34 = .ok (.i2l, 1) := by decide +kernel
theorem dX6_weightOf_35 : decode cX6_weightOf 35 = .ok (.iload 6, 2) := by decide +kernel
theorem dX6_weightOf_37 : decode cX6_weightOf 37 = .ok (.invokestatic 377, 3) := by decide +kernel
theorem dX6_weightOf_40 : decode cX6_weightOf 40 = .ok (.invokestatic 421, 3) := by decide +kernel
theorem dX6_weightOf_43 : decode cX6_weightOf 43 = .ok (.ldc2_w 424, 3) := by decide +kernel
theorem dX6_weightOf_46 : decode cX6_weightOf 46 = .ok (.aload_n 0, 1) := by decide +kernel
theorem dX6_weightOf_47 : decode cX6_weightOf 47 = .ok (.getfield 34, 3) := by decide +kernel
theorem dX6_weightOf_50 : decode cX6_weightOf 50 = .ok (.iconst 2, 1) := by decide +kernel
theorem dX6_weightOf_51 : decode cX6_weightOf 51 = .ok (.iaload, 1) := by decide +kernel
theorem dX6_weightOf_52 : decode cX6_weightOf 52 = .ok (.i2l, 1) := by decide +kernel
theorem dX6_weightOf_53 : decode cX6_weightOf 53 = .ok (.lsub, 1) := by decide +kernel
theorem dX6_weightOf_54 : decode cX6_weightOf 54 = .ok (.iload_n 2, 1) := by decide +kernel
theorem dX6_weightOf_55 : decode cX6_weightOf 55 = .ok (.iload 6, 2) := by decide +kernel
theorem dX6_weightOf_57 : decode cX6_weightOf 57 = .ok (.invokestatic 377, 3) := by decide +kernel
theorem dX6_weightOf_60 : decode cX6_weightOf 60 = .ok (.isub, 1) := by decide +kernel
theorem dX6_weightOf_61 : decode cX6_weightOf 61 = .ok (.invokestatic 421, 3) := by decide +kernel
theorem dX6_weightOf_64 : decode cX6_weightOf 64 = .ok (.lmul, 1) := by decide +kernel
theorem dX6_weightOf_65 : decode cX6_weightOf 65 = .ok (.lstore 7, 2) := by decide +kernel
theorem dX6_weightOf_67 : decode cX6_weightOf 67 = .ok (.lload 4, 2) := by decide +kernel
theorem dX6_weightOf_69 : decode cX6_weightOf 69 = .ok (.lload 7, 2) := by decide +kernel
theorem dX6_weightOf_71 : decode cX6_weightOf 71 = .ok (.iload_n 1, 1) := by decide +kernel
theorem dX6_weightOf_72 : decode cX6_weightOf 72 = .ok (.iconst (-1), 1) := by decide +kernel
theorem dX6_weightOf_73 : decode cX6_weightOf 73 = .ok (.if_icmp .ne 11, 3) := by decide +kernel
theorem dX6_weightOf_76 : decode cX6_weightOf 76 = .ok (.aload_n 0, 1) := by decide +kernel
theorem dX6_weightOf_77 : decode cX6_weightOf 77 = .ok (.iload_n 2, 1) := by decide +kernel
theorem dX6_weightOf_78 : decode cX6_weightOf 78 = .ok (.invokevirtual 346, 3) := by decide +kernel
theorem dX6_weightOf_81 : decode cX6_weightOf 81 = .ok (.goto 18, 3) := by decide +kernel
theorem dX6_weightOf_84 : decode cX6_weightOf 84 = .ok (.aload_n 0, 1) := by decide +kernel
theorem dX6_weightOf_85 : decode cX6_weightOf 85 = .ok (.iload_n 1, 1) := by decide +kernel
theorem dX6_weightOf_86 : decode cX6_weightOf 86 = .ok (.iload_n 2, 1) := by decide +kernel
theorem dX6_weightOf_87 : decode cX6_weightOf 87 = .ok (.invokevirtual 283, 3) := by decide +kernel
theorem dX6_weightOf_90 : decode cX6_weightOf 90 = .ok (.iload_n 3, 1) := by decide +kernel
theorem dX6_weightOf_91 : decode cX6_weightOf 91 = .ok (.if_icmp .lt 7, 3) := by decide +kernel
theorem dX6_weightOf_94 : decode cX6_weightOf 94 = .ok (.iconst 1, 1) := by decide +kernel
theorem dX6_weightOf_95 : decode cX6_weightOf 95 = .ok (.goto 4, 3) := by decide +kernel
theorem dX6_weightOf_98 : decode cX6_weightOf 98 = .ok (.iconst 0, 1) := by decide +kernel
theorem dX6_weightOf_99 : decode cX6_weightOf 99 = .ok (.i2l, 1) := by decide +kernel
theorem dX6_weightOf_100 : decode cX6_weightOf 100 = .ok (.lmul, 1) := by decide +kernel
theorem dX6_weightOf_101 : decode cX6_weightOf 101 = .ok (.ladd, 1) := by decide +kernel
theorem dX6_weightOf_102 : decode cX6_weightOf 102 = .ok (.lstore 4, 2) := by decide +kernel
theorem dX6_weightOf_104 : decode cX6_weightOf 104 = .ok (.iinc 6 1, 3) := by decide +kernel
theorem dX6_weightOf_107 : decode cX6_weightOf 107 = .ok (.goto (-97), 3) := by decide +kernel
theorem dX6_weightOf_110 : decode cX6_weightOf 110 = .ok (.lload 4, 2) := by decide +kernel
theorem dX6_weightOf_112 : decode cX6_weightOf 112 = .ok (.lreturn, 1) := by decide +kernel
theorem dX6_isSoon_0 : decode cX6_isSoon 0 = .ok (.aload_n 0, 1) := by decide +kernel
theorem dX6_isSoon_1 : decode cX6_isSoon 1 = .ok (.invokevirtual 240, 3) := by decide +kernel
theorem dX6_isSoon_4 : decode cX6_isSoon 4 = .ok (.ifCond .eq 26, 3) := by decide +kernel
theorem dX6_isSoon_7 : decode cX6_isSoon 7 = .ok (.iload_n 1, 1) := by decide +kernel
theorem dX6_isSoon_8 : decode cX6_isSoon 8 = .ok (.i2l, 1) := by decide +kernel
theorem dX6_isSoon_9 : decode cX6_isSoon 9 = .ok (.lconst 1, 1) := by decide +kernel
theorem dX6_isSoon_10 : decode cX6_isSoon 10 = .ok (.bipush 8, 2) := by decide +kernel
theorem dX6_isSoon_12 : decode cX6_isSoon 12 = .ok (.aload_n 0, 1) := by decide +kernel
theorem dX6_isSoon_13 : decode cX6_isSoon 13 = .ok (.invokevirtual 243, 3) := by decide +kernel
theorem dX6_isSoon_16 : decode cX6_isSoon 16 = .ok (.invokestatic 277, 3) := by decide +kernel
theorem dX6_isSoon_19 : decode cX6_isSoon 19 = .ok (.i2l, 1) := by decide +kernel
theorem dX6_isSoon_20 : decode cX6_isSoon 20 = .ok (.invokestatic 79, 3) := by decide +kernel
theorem dX6_isSoon_23 : decode cX6_isSoon 23 = .ok (.ifCond .eq 7, 3) := by decide +kernel
theorem dX6_isSoon_26 : decode cX6_isSoon 26 = .ok (.iconst 1, 1) := by decide +kernel
theorem dX6_isSoon_27 : decode cX6_isSoon 27 = .ok (.goto 4, 3) := by decide +kernel
theorem dX6_isSoon_30 : decode cX6_isSoon 30 = .ok (.iconst 0, 1) := by decide +kernel
theorem dX6_isSoon_31 : decode cX6_isSoon 31 = .ok (.ireturn, 1) := by decide +kernel
theorem dX6_chance_0 : decode cX6_chance 0 = .ok (.aload_n 0, 1) := by decide +kernel
theorem dX6_chance_1 : decode cX6_chance 1 = .ok (.iconst 0, 1) := by decide +kernel
theorem dX6_chance_2 : decode cX6_chance 2 = .ok (.putfield 74, 3) := by decide +kernel
theorem dX6_chance_5 : decode cX6_chance 5 = .ok (.aload_n 0, 1) := by decide +kernel
theorem dX6_chance_6 : decode cX6_chance 6 = .ok (.iload_n 1, 1) := by decide +kernel
theorem dX6_chance_7 : decode cX6_chance 7 = .ok (.i2l, 1) := by decide +kernel
theorem dX6_chance_8 : decode cX6_chance 8 = .ok (.invokevirtual 246, 3) := by decide +kernel
theorem dX6_chance_11 : decode cX6_chance 11 = .ok (.ifCond .eq 54, 3) := by decide +kernel
theorem dX6_chance_14 : decode cX6_chance 14 = .ok (.aload_n 0, 1) := by decide +kernel
theorem dX6_chance_15 : decode cX6_chance 15 = .ok (.iload_n 2, 1) := by decide +kernel
theorem dX6_chance_16 : decode cX6_chance 16 = .ok (.invokevirtual 426, 3) := by decide +kernel
theorem dX6_chance_19 : decode cX6_chance 19 = .ok (.ifCond .eq 46, 3) := by decide +kernel
theorem dX6_chance_22 : decode cX6_chance 22 = .ok (.iload_n 3, 1) := by decide +kernel
theorem dX6_chance_23 : decode cX6_chance 23 = .ok (.i2l, 1) := by decide +kernel
theorem dX6_chance_24 : decode cX6_chance 24 = .ok (.lconst 0, 1) := by decide +kernel
theorem dX6_chance_25 : decode cX6_chance 25 = .ok (.ldc2_w 366, 3) := by decide +kernel
theorem dX6_chance_28 : decode cX6_chance 28 = .ok (.invokestatic 79, 3) := by decide +kernel
theorem dX6_chance_31 : decode cX6_chance 31 = .ok (.ifCond .eq 34, 3) := by decide +kernel
theorem dX6_chance_34 : decode cX6_chance 34 = .ok (.iload 4, 2) := by decide +kernel
theorem dX6_chance_36 : decode cX6_chance 36 = .ok (.invokestatic 408, 3) := by decide +kernel
theorem dX6_chance_39 : decode cX6_chance 39 = .ok (.ifCond .eq 26, 3) := by decide +kernel
theorem dX6_chance_42 : decode cX6_chance 42 = .ok (.aload_n 0, 1) := by decide +kernel
theorem dX6_chance_43 : decode cX6_chance 43 = .ok (.iload_n 1, 1) := by decide +kernel
theorem dX6_chance_44 : decode cX6_chance 44 = .ok (.iload_n 2, 1) := by decide +kernel
theorem dX6_chance_45 : decode cX6_chance 45 = .ok (.iload_n 3, 1) := by decide +kernel
theorem dX6_chance_46 : decode cX6_chance 46 = .ok (.invokevirtual 429, 3) := by decide +kernel
theorem dX6_chance_49 : decode cX6_chance 49 = .ok (.ldc2_w 424, 3) := by decide +kernel
theorem dX6_chance_52 : decode cX6_chance 52 = .ok (.iload_n 2, 1) := by decide +kernel
theorem dX6_chance_53 : decode cX6_chance 53 = .ok (.invokestatic 421, 3) := by decide +kernel
theorem dX6_chance_56 : decode cX6_chance 56 = .ok (.iload 4, 2) := by decide +kernel
theorem dX6_chance_58 : decode cX6_chance 58 = .ok (.invokestatic 411, 3) := by decide +kernel
theorem dX6_chance_61 : decode cX6_chance 61 = .ok (.l2i, 1) := by decide +kernel
theorem dX6_chance_62 : decode cX6_chance 62 = .ok (.goto 5, 3) := by decide +kernel
theorem dX6_chance_65 : decode cX6_chance 65 = .ok (.bipush (-2), 2) := by decide +kernel
theorem dX6_chance_67 : decode cX6_chance 67 = .ok (.ireturn, 1) := by decide +kernel
theorem dX6_mean_0 : decode cX6_mean 0 = .ok (.aload_n 0, 1) := by decide +kernel
theorem dX6_mean_1 : decode cX6_mean 1 = .ok (.iconst 0, 1) := by decide +kernel
theorem dX6_mean_2 : decode cX6_mean 2 = .ok (.putfield 74, 3) := by decide +kernel
theorem dX6_mean_5 : decode cX6_mean 5 = .ok (.aload_n 0, 1) := by decide +kernel
theorem dX6_mean_6 : decode cX6_mean 6 = .ok (.iload_n 1, 1) := by decide +kernel
theorem dX6_mean_7 : decode cX6_mean 7 = .ok (.invokevirtual 426, 3) := by decide +kernel
theorem dX6_mean_10 : decode cX6_mean 10 = .ok (.ifCond .eq 31, 3) := by decide +kernel
theorem dX6_mean_13 : decode cX6_mean 13 = .ok (.iload_n 2, 1) := by decide +kernel
theorem dX6_mean_14 : decode cX6_mean 14 = .ok (.invokestatic 408, 3) := by decide +kernel
theorem dX6_mean_17 : decode cX6_mean 17 = .ok (.ifCond .eq 24, 3) := by decide +kernel
theorem dX6_mean_20 : decode cX6_mean 20 = .ok (.aload_n 0, 1) := by decide +kernel
theorem dX6_mean_21 : decode cX6_mean 21 = .ok (.iconst (-1), 1) := by decide +kernel
theorem dX6_mean_22 : decode cX6_mean 22 = .ok (.iload_n 1, 1) := by decide +kernel
theorem dX6_mean_23 : decode cX6_mean 23 = .ok (.iconst 0, 1) := by decide +kernel
theorem dX6_mean_24 : decode cX6_mean 24 = .ok (.invokevirtual 429, 3) := by decide +kernel
theorem dX6_mean_27 : decode cX6_mean 27 = .ok (.ldc2_w 424, 3) := by decide +kernel
theorem dX6_mean_30 : decode cX6_mean 30 = .ok (.iload_n 1, 1) := by decide +kernel
theorem dX6_mean_31 : decode cX6_mean 31 = .ok (.invokestatic 421, 3) := by decide +kernel
theorem dX6_mean_34 : decode cX6_mean 34 = .ok (.iload_n 2, 1) := by decide +kernel
theorem dX6_mean_35 : decode cX6_mean 35 = .ok (.invokestatic 411, 3) := by decide +kernel
theorem dX6_mean_38 : decode cX6_mean 38 = .ok (.goto 6, 3) := by decide +kernel
theorem dX6_mean_41 : decode cX6_mean 41 = .ok (.ldc2_w 433, 3) := by decide +kernel
theorem dX6_mean_44 : decode cX6_mean 44 = .ok (.lreturn, 1) := by decide +kernel
theorem dX6_draws_0 : decode cX6_draws 0 = .ok (.aload_n 0, 1) := by decide +kernel
theorem dX6_draws_1 : decode cX6_draws 1 = .ok (.invokevirtual 315, 3) := by decide +kernel
theorem dX6_draws_4 : decode cX6_draws 4 = .ok (.lload_n 1, 1) := by decide +kernel
theorem dX6_draws_5 : decode cX6_draws 5 = .ok (.lstore_n 3, 1) := by decide +kernel
theorem dX6_draws_6 : decode cX6_draws 6 = .ok (.iconst 0, 1) := by decide +kernel
theorem dX6_draws_7 : decode cX6_draws 7 = .ok (.istore 5, 2) := by decide +kernel
theorem dX6_draws_9 : decode cX6_draws 9 = .ok (.iload 5, 2) := by decide +kernel
theorem dX6_draws_11 : decode cX6_draws 11 = .ok (.aload_n 0, 1) := by decide +kernel
theorem dX6_draws_12 : decode cX6_draws 12 = .ok (.invokevirtual 243, 3) := by decide +kernel
theorem dX6_draws_15 : decode cX6_draws 15 = .ok (.if_icmp .ge 60, 3) := by decide +kernel
theorem dX6_draws_18 : decode cX6_draws 18 = .ok (.ldc2_w 435, 3) := by decide +kernel
theorem dX6_draws_21 : decode cX6_draws 21 = .ok (.lload_n 3, 1) := by decide +kernel
theorem dX6_draws_22 : decode cX6_draws 22 = .ok (.lmul, 1) := by decide +kernel
theorem dX6_draws_23 : decode cX6_draws 23 = .ok (.ldc2_w 437, 3) := by decide +kernel
theorem dX6_draws_26 : decode cX6_draws 26 = .ok (.ladd, 1) := by decide +kernel
theorem dX6_draws_27 : decode cX6_draws 27 = .ok (.ldc2_w 439, 3) := by decide +kernel
theorem dX6_draws_30 : decode cX6_draws 30 = .ok (.lrem, 1) := by decide +kernel
theorem dX6_draws_31 : decode cX6_draws 31 = .ok (.lstore_n 3, 1) := by decide +kernel
theorem dX6_draws_32 : decode cX6_draws 32 = .ok (.aload_n 0, 1) := by decide +kernel
theorem dX6_draws_33 : decode cX6_draws 33 = .ok (.dup, 1) := by decide +kernel
theorem dX6_draws_34 : decode cX6_draws 34 = .ok (.getfield 255, 3) := by decide +kernel
theorem dX6_draws_37 : decode cX6_draws 37 = .ok (.lload_n 3, 1) := by decide +kernel
theorem dX6_draws_38 : decode cX6_draws 38 = .ok (.ldc2_w 441, 3) := by decide +kernel
theorem dX6_draws_41 : decode cX6_draws 41 = .ok (.ldiv, 1) := by decide +kernel
theorem dX6_draws_42 : decode cX6_draws 42 = .ok (.ldc2_w 424, 3) := by decide +kernel
theorem dX6_draws_45 : decode cX6_draws 45 = .ok (.lrem, 1) := by decide +kernel
theorem dX6_draws_46 : decode cX6_draws 46 = .ok (.aload_n 0, 1) := by decide +kernel
theorem dX6_draws_47 : decode cX6_draws 47 = .ok (.getfield 34, 3) := by decide +kernel
theorem dX6_draws_50 : decode cX6_draws 50 = .ok (.iconst 2, 1) := by decide +kernel
theorem dX6_draws_51 : decode cX6_draws 51 = .ok (.iaload, 1) := by decide +kernel
theorem dX6_draws_52 : decode cX6_draws 52 = .ok (.i2l, 1) := by decide +kernel
theorem dX6_draws_53 : decode cX6_draws 53 = .ok (.lcmp, 1) := by decide +kernel
theorem dX6_draws_54 : decode cX6_draws 54 = .ok (.ifCond .ge 10, 3) := by decide +kernel
theorem dX6_draws_57 : decode cX6_draws 57 = .ok (.iconst 1, 1) := by decide +kernel
theorem dX6_draws_58 : decode cX6_draws 58 = .ok (.iload 5, 2) := by decide +kernel
theorem dX6_draws_60 : decode cX6_draws 60 = .ok (.ishl, 1) := by decide +kernel
theorem dX6_draws_61 : decode cX6_draws 61 = .ok (.goto 4, 3) := by decide +kernel
theorem dX6_draws_64 : decode cX6_draws 64 = .ok (.iconst 0, 1) := by decide +kernel
theorem dX6_draws_65 : decode cX6_draws 65 = .ok (.ior, 1) := by decide +kernel
theorem dX6_draws_66 : decode cX6_draws 66 = .ok (.putfield 255, 3) := by decide +kernel
theorem dX6_draws_69 : decode cX6_draws 69 = .ok (.iinc 5 1, 3) := by decide +kernel
theorem dX6_draws_72 : decode cX6_draws 72 = .ok (.goto (-63), 3) := by decide +kernel
theorem dX6_draws_75 : decode cX6_draws 75 = .ok (.aload_n 0, 1) := by decide +kernel
theorem dX6_draws_76 : decode cX6_draws 76 = .ok (.invokevirtual 318, 3) := by decide +kernel
theorem dX6_draws_79 : decode cX6_draws 79 = .ok (.return_, 1) := by decide +kernel
theorem dX6_isSeed_0 : decode cX6_isSeed 0 = .ok (.iload_n 0, 1) := by decide +kernel
theorem dX6_isSeed_1 : decode cX6_isSeed 1 = .ok (.i2l, 1) := by decide +kernel
theorem dX6_isSeed_2 : decode cX6_isSeed 2 = .ok (.lconst 0, 1) := by decide +kernel
theorem dX6_isSeed_3 : decode cX6_isSeed 3 = .ok (.ldc2_w 443, 3) := by decide +kernel
theorem dX6_isSeed_6 : decode cX6_isSeed 6 = .ok (.invokestatic 79, 3) := by decide +kernel
theorem dX6_isSeed_9 : decode cX6_isSeed 9 = .ok (.ireturn, 1) := by decide +kernel
theorem dX6_drawn_0 : decode cX6_drawn 0 = .ok (.aload_n 0, 1) := by decide +kernel
theorem dX6_drawn_1 : decode cX6_drawn 1 = .ok (.iconst 0, 1) := by decide +kernel
theorem dX6_drawn_2 : decode cX6_drawn 2 = .ok (.putfield 74, 3) := by decide +kernel
theorem dX6_drawn_5 : decode cX6_drawn 5 = .ok (.aload_n 0, 1) := by decide +kernel
theorem dX6_drawn_6 : decode cX6_drawn 6 = .ok (.invokevirtual 240, 3) := by decide +kernel
theorem dX6_drawn_9 : decode cX6_drawn 9 = .ok (.ifCond .eq 17, 3) := by decide +kernel
theorem dX6_drawn_12 : decode cX6_drawn 12 = .ok (.iload_n 1, 1) := by decide +kernel
theorem dX6_drawn_13 : decode cX6_drawn 13 = .ok (.invokestatic 445, 3) := by decide +kernel
theorem dX6_drawn_16 : decode cX6_drawn 16 = .ok (.ifCond .eq 10, 3) := by decide +kernel
theorem dX6_drawn_19 : decode cX6_drawn 19 = .ok (.iload_n 2, 1) := by decide +kernel
theorem dX6_drawn_20 : decode cX6_drawn 20 = .ok (.invokestatic 408, 3) := by decide +kernel
theorem dX6_drawn_23 : decode cX6_drawn 23 = .ok (.ifCond .ne 6, 3) := by decide +kernel
theorem dX6_drawn_26 : decode cX6_drawn 26 = .ok (.bipush (-2), 2) := by decide +kernel
theorem dX6_drawn_28 : decode cX6_drawn 28 = .ok (.ireturn, 1) := by decide +kernel
theorem dX6_drawn_29 : decode cX6_drawn 29 = .ok (.aload_n 0, 1) := by decide +kernel
theorem dX6_drawn_30 : decode cX6_drawn 30 = .ok (.iload_n 1, 1) := by decide +kernel
theorem dX6_drawn_31 : decode cX6_drawn 31 = .ok (.i2l, 1) := by decide +kernel
theorem dX6_drawn_32 : decode cX6_drawn 32 = .ok (.invokevirtual 448, 3) := by decide +kernel
theorem dX6_drawn_35 : decode cX6_drawn 35 = .ok (.iload_n 2, 1) := by decide +kernel
theorem dX6_drawn_36 : decode cX6_drawn 36 = .ok (.ifCond .ne 10, 3) := by decide +kernel
theorem dX6_drawn_39 : decode cX6_drawn 39 = .ok (.aload_n 0, 1) := by decide +kernel
theorem dX6_drawn_40 : decode cX6_drawn 40 = .ok (.getfield 255, 3) := by decide +kernel
theorem dX6_drawn_43 : decode cX6_drawn 43 = .ok (.goto 11, 3) := by decide +kernel
theorem dX6_drawn_46 : decode cX6_drawn 46 = .ok (.aload_n 0, 1) := by decide +kernel
theorem dX6_drawn_47 : decode cX6_drawn 47 = .ok (.aload_n 0, 1) := by decide +kernel
theorem dX6_drawn_48 : decode cX6_drawn 48 = .ok (.invokevirtual 243, 3) := by decide +kernel
theorem dX6_drawn_51 : decode cX6_drawn 51 = .ok (.invokevirtual 343, 3) := by decide +kernel
theorem dX6_drawn_54 : decode cX6_drawn 54 = .ok (.ireturn, 1) := by decide +kernel
theorem dX6_luck_0 : decode cX6_luck 0 = .ok (.aload_n 0, 1) := by decide +kernel
theorem dX6_luck_1 : decode cX6_luck 1 = .ok (.iconst 0, 1) := by decide +kernel
theorem dX6_luck_2 : decode cX6_luck 2 = .ok (.putfield 74, 3) := by decide +kernel
theorem dX6_luck_5 : decode cX6_luck 5 = .ok (.iload_n 1, 1) := by decide +kernel
theorem dX6_luck_6 : decode cX6_luck 6 = .ok (.invokestatic 445, 3) := by decide +kernel
theorem dX6_luck_9 : decode cX6_luck 9 = .ok (.ifCond .eq 24, 3) := by decide +kernel
theorem dX6_luck_12 : decode cX6_luck 12 = .ok (.iload_n 2, 1) := by decide +kernel
theorem dX6_luck_13 : decode cX6_luck 13 = .ok (.i2l, 1) := by decide +kernel
theorem dX6_luck_14 : decode cX6_luck 14 = .ok (.lconst 1, 1) := by decide +kernel
theorem dX6_luck_15 : decode cX6_luck 15 = .ok (.ldc2_w 396, 3) := by decide +kernel
theorem dX6_luck_18 : decode cX6_luck 18 = .ok (.invokestatic 79, 3) := by decide +kernel
theorem dX6_luck_21 : decode cX6_luck 21 = .ok (.ifCond .eq 12, 3) := by decide +kernel
theorem dX6_luck_24 : decode cX6_luck 24 = .ok (.aload_n 0, 1) := by decide +kernel
theorem dX6_luck_25 : decode cX6_luck 25 = .ok (.iload_n 3, 1) := by decide +kernel
theorem dX6_luck_26 : decode cX6_luck 26 = .ok (.i2l, 1) := by decide +kernel
theorem dX6_luck_27 : decode cX6_luck 27 = .ok (.invokevirtual 246, 3) := by decide +kernel
theorem dX6_luck_30 : decode cX6_luck 30 = .ok (.ifCond .ne 6, 3) := by decide +kernel
theorem dX6_luck_33 : decode cX6_luck 33 = .ok (.bipush (-2), 2) := by decide +kernel
theorem dX6_luck_35 : decode cX6_luck 35 = .ok (.ireturn, 1) := by decide +kernel
theorem dX6_luck_36 : decode cX6_luck 36 = .ok (.iconst 0, 1) := by decide +kernel
theorem dX6_luck_37 : decode cX6_luck 37 = .ok (.istore 4, 2) := by decide +kernel
theorem dX6_luck_39 : decode cX6_luck 39 = .ok (.iconst 0, 1) := by decide +kernel
theorem dX6_luck_40 : decode cX6_luck 40 = .ok (.istore 5, 2) := by decide +kernel
theorem dX6_luck_42 : decode cX6_luck 42 = .ok (.iload 5, 2) := by decide +kernel
theorem dX6_luck_44 : decode cX6_luck 44 = .ok (.iload_n 2, 1) := by decide +kernel
theorem dX6_luck_45 : decode cX6_luck 45 = .ok (.if_icmp .ge 38, 3) := by decide +kernel
theorem dX6_luck_48 : decode cX6_luck 48 = .ok (.aload_n 0, 1) := by decide +kernel
theorem dX6_luck_49 : decode cX6_luck 49 = .ok (.iload_n 1, 1) := by decide +kernel
theorem dX6_luck_50 : decode cX6_luck 50 = .ok (.i2l, 1) := by decide +kernel
theorem dX6_luck_51 : decode cX6_luck 51 = .ok (.iload 5, 2) := by decide +kernel
theorem dX6_luck_53 : decode cX6_luck 53 = .ok (.i2l, 1) := by decide +kernel
theorem dX6_luck_54 : decode cX6_luck 54 = .ok (.ladd, 1) := by decide +kernel
theorem dX6_luck_55 : decode cX6_luck 55 = .ok (.invokevirtual 448, 3) := by decide +kernel
theorem dX6_luck_58 : decode cX6_luck 58 = .ok (.iload 4, 2) := by decide +kernel
theorem dX6_luck_60 : decode cX6_luck 60 = .ok (.aload_n 0, 1) := by decide +kernel
theorem dX6_luck_61 : decode cX6_luck 61 = .ok (.iload_n 3, 1) := by decide +kernel
theorem dX6_luck_62 : decode cX6_luck 62 = .ok (.invokevirtual 398, 3) := by decide +kernel
theorem dX6_luck_65 : decode cX6_luck 65 = .ok (.iconst 5, 1) := by decide +kernel
theorem dX6_luck_66 : decode cX6_luck 66 = .ok (.if_icmp .lt 7, 3) := by decide +kernel
theorem dX6_luck_69 : decode cX6_luck 69 = .ok (.iconst 1, 1) := by decide +kernel
theorem dX6_luck_70 : decode cX6_luck 70 = .ok (.goto 4, 3) := by decide +kernel
theorem dX6_luck_73 : decode cX6_luck 73 = .ok (.iconst 0, 1) := by decide +kernel
theorem dX6_luck_74 : decode cX6_luck 74 = .ok (.iadd, 1) := by decide +kernel
theorem dX6_luck_75 : decode cX6_luck 75 = .ok (.istore 4, 2) := by decide +kernel
theorem dX6_luck_77 : decode cX6_luck 77 = .ok (.iinc 5 1, 3) := by decide +kernel
theorem dX6_luck_80 : decode cX6_luck 80 = .ok (.goto (-38), 3) := by decide +kernel
theorem dX6_luck_83 : decode cX6_luck 83 = .ok (.iload 4, 2) := by decide +kernel
theorem dX6_luck_85 : decode cX6_luck 85 = .ok (.ireturn, 1) := by decide +kernel
theorem dX6_does_0 : decode cX6_does 0 = .ok (.iconst 4, 1) := by decide +kernel
theorem dX6_does_1 : decode cX6_does 1 = .ok (.aload_n 0, 1) := by decide +kernel
theorem dX6_does_2 : decode cX6_does 2 = .ok (.getfield 34, 3) := by decide +kernel
theorem dX6_does_5 : decode cX6_does 5 = .ok (.bipush 6, 2) := by decide +kernel
theorem dX6_does_7 : decode cX6_does 7 = .ok (.iaload, 1) := by decide +kernel
theorem dX6_does_8 : decode cX6_does 8 = .ok (.imul, 1) := by decide +kernel
theorem dX6_does_9 : decode cX6_does 9 = .ok (.istore 5, 2) := by decide +kernel
theorem dX6_does_11 : decode cX6_does 11 = .ok (.aload_n 0, 1) := by decide +kernel
theorem dX6_does_12 : decode cX6_does 12 = .ok (.getfield 46, 3) := by decide +kernel
theorem dX6_does_15 : decode cX6_does 15 = .ok (.iload 5, 2) := by decide +kernel
theorem dX6_does_17 : decode cX6_does 17 = .ok (.iload_n 1, 1) := by decide +kernel
theorem dX6_does_18 : decode cX6_does 18 = .ok (.iastore, 1) := by decide +kernel
theorem dX6_does_19 : decode cX6_does 19 = .ok (.aload_n 0, 1) := by decide +kernel
theorem dX6_does_20 : decode cX6_does 20 = .ok (.getfield 46, 3) := by decide +kernel
theorem dX6_does_23 : decode cX6_does 23 = .ok (.iload 5, 2) := by decide +kernel
theorem dX6_does_25 : decode cX6_does 25 = .ok (.iconst 1, 1) := by decide +kernel
theorem dX6_does_26 : decode cX6_does 26 = .ok (.iadd, 1) := by decide +kernel
theorem dX6_does_27 : decode cX6_does 27 = .ok (.iload_n 2, 1) := by decide +kernel
theorem dX6_does_28 : decode cX6_does 28 = .ok (.iastore, 1) := by decide +kernel
theorem dX6_does_29 : decode cX6_does 29 = .ok (.aload_n 0, 1) := by decide +kernel
theorem dX6_does_30 : decode cX6_does 30 = .ok (.getfield 46, 3) := by decide +kernel
theorem dX6_does_33 : decode cX6_does 33 = .ok (.iload 5, 2) := by decide +kernel
theorem dX6_does_35 : decode cX6_does 35 = .ok (.iconst 2, 1) := by decide +kernel
theorem dX6_does_36 : decode cX6_does 36 = .ok (.iadd, 1) := by decide +kernel
theorem dX6_does_37 : decode cX6_does 37 = .ok (.iload_n 3, 1) := by decide +kernel
theorem dX6_does_38 : decode cX6_does 38 = .ok (.iastore, 1) := by decide +kernel
theorem dX6_does_39 : decode cX6_does 39 = .ok (.aload_n 0, 1) := by decide +kernel
theorem dX6_does_40 : decode cX6_does 40 = .ok (.getfield 46, 3) := by decide +kernel
theorem dX6_does_43 : decode cX6_does 43 = .ok (.iload 5, 2) := by decide +kernel
theorem dX6_does_45 : decode cX6_does 45 = .ok (.iconst 3, 1) := by decide +kernel
theorem dX6_does_46 : decode cX6_does 46 = .ok (.iadd, 1) := by decide +kernel
theorem dX6_does_47 : decode cX6_does 47 = .ok (.iload 4, 2) := by decide +kernel
theorem dX6_does_49 : decode cX6_does 49 = .ok (.iastore, 1) := by decide +kernel
theorem dX6_does_50 : decode cX6_does 50 = .ok (.aload_n 0, 1) := by decide +kernel
theorem dX6_does_51 : decode cX6_does 51 = .ok (.getfield 34, 3) := by decide +kernel
theorem dX6_does_54 : decode cX6_does 54 = .ok (.bipush 6, 2) := by decide +kernel
theorem dX6_does_56 : decode cX6_does 56 = .ok (.dup2, 1) := by decide +kernel
theorem dX6_does_57 : decode cX6_does 57 = .ok (.iaload, 1) := by decide +kernel
theorem dX6_does_58 : decode cX6_does 58 = .ok (.iconst 1, 1) := by decide +kernel
theorem dX6_does_59 : decode cX6_does 59 = .ok (.iadd, 1) := by decide +kernel
theorem dX6_does_60 : decode cX6_does 60 = .ok (.iastore, 1) := by decide +kernel
theorem dX6_does_61 : decode cX6_does 61 = .ok (.return_, 1) := by decide +kernel
theorem dX6_retraces_0 : decode cX6_retraces 0 = .ok (.aload_n 0, 1) := by decide +kernel
theorem dX6_retraces_1 : decode cX6_retraces 1 = .ok (.iconst 0, 1) := by decide +kernel
theorem dX6_retraces_2 : decode cX6_retraces 2 = .ok (.putfield 74, 3) := by decide +kernel
theorem dX6_retraces_5 : decode cX6_retraces 5 = .ok (.aload_n 0, 1) := by decide +kernel
theorem dX6_retraces_6 : decode cX6_retraces 6 = .ok (.iload_n 1, 1) := by decide +kernel
theorem dX6_retraces_7 : decode cX6_retraces 7 = .ok (.iload_n 3, 1) := by decide +kernel
theorem dX6_retraces_8 : decode cX6_retraces 8 = .ok (.invokevirtual 334, 3) := by decide +kernel
theorem dX6_retraces_11 : decode cX6_retraces 11 = .ok (.ifCond .eq 11, 3) := by decide +kernel
theorem dX6_retraces_14 : decode cX6_retraces 14 = .ok (.aload_n 0, 1) := by decide +kernel
theorem dX6_retraces_15 : decode cX6_retraces 15 = .ok (.iload_n 2, 1) := by decide +kernel
theorem dX6_retraces_16 : decode cX6_retraces 16 = .ok (.invokevirtual 321, 3) := by decide +kernel
theorem dX6_retraces_19 : decode cX6_retraces 19 = .ok (.ifCond .ne 6, 3) := by decide +kernel
theorem dX6_retraces_22 : decode cX6_retraces 22 = .ok (.bipush (-2), 2) := by decide +kernel
theorem dX6_retraces_24 : decode cX6_retraces 24 = .ok (.ireturn, 1) := by decide +kernel
theorem dX6_retraces_25 : decode cX6_retraces 25 = .ok (.aload_n 0, 1) := by decide +kernel
theorem dX6_retraces_26 : decode cX6_retraces 26 = .ok (.getfield 34, 3) := by decide +kernel
theorem dX6_retraces_29 : decode cX6_retraces 29 = .ok (.bipush 6, 2) := by decide +kernel
theorem dX6_retraces_31 : decode cX6_retraces 31 = .ok (.iaload, 1) := by decide +kernel
theorem dX6_retraces_32 : decode cX6_retraces 32 = .ok (.bipush 30, 2) := by decide +kernel
theorem dX6_retraces_34 : decode cX6_retraces 34 = .ok (.if_icmp .ne 6, 3) := by decide +kernel
theorem dX6_retraces_37 : decode cX6_retraces 37 = .ok (.bipush (-5), 2) := by decide +kernel
theorem dX6_retraces_39 : decode cX6_retraces 39 = .ok (.ireturn, 1) := by decide +kernel
theorem dX6_retraces_40 : decode cX6_retraces 40 = .ok (.aload_n 0, 1) := by decide +kernel
theorem dX6_retraces_41 : decode cX6_retraces 41 = .ok (.iconst 0, 1) := by decide +kernel
theorem dX6_retraces_42 : decode cX6_retraces 42 = .ok (.iload_n 1, 1) := by decide +kernel
theorem dX6_retraces_43 : decode cX6_retraces 43 = .ok (.iload_n 2, 1) := by decide +kernel
theorem dX6_retraces_44 : decode cX6_retraces 44 = .ok (.iload_n 3, 1) := by decide +kernel
theorem dX6_retraces_45 : decode cX6_retraces 45 = .ok (.invokevirtual 451, 3) := by decide +kernel
theorem dX6_retraces_48 : decode cX6_retraces 48 = .ok (.aload_n 0, 1) := by decide +kernel
theorem dX6_retraces_49 : decode cX6_retraces 49 = .ok (.invokevirtual 337, 3) := by decide +kernel
theorem dX6_retraces_52 : decode cX6_retraces 52 = .ok (.aload_n 0, 1) := by decide +kernel
theorem dX6_retraces_53 : decode cX6_retraces 53 = .ok (.iload_n 1, 1) := by decide +kernel
theorem dX6_retraces_54 : decode cX6_retraces 54 = .ok (.invokevirtual 398, 3) := by decide +kernel
theorem dX6_retraces_57 : decode cX6_retraces 57 = .ok (.ireturn, 1) := by decide +kernel
theorem dX6_bleaches_0 : decode cX6_bleaches 0 = .ok (.aload_n 0, 1) := by decide +kernel
theorem dX6_bleaches_1 : decode cX6_bleaches 1 = .ok (.iconst 0, 1) := by decide +kernel
theorem dX6_bleaches_2 : decode cX6_bleaches 2 = .ok (.putfield 74, 3) := by decide +kernel
theorem dX6_bleaches_5 : decode cX6_bleaches 5 = .ok (.aload_n 0, 1) := by decide +kernel
theorem dX6_bleaches_6 : decode cX6_bleaches 6 = .ok (.iload_n 1, 1) := by decide +kernel
theorem dX6_bleaches_7 : decode cX6_bleaches 7 = .ok (.iload_n 2, 1) := by decide +kernel
theorem dX6_bleaches_8 : decode cX6_bleaches 8 = .ok (.invokevirtual 334, 3) := by decide +kernel
theorem dX6_bleaches_11 : decode cX6_bleaches 11 = .ok (.ifCond .ne 6, 3) := by decide +kernel
theorem dX6_bleaches_14 : decode cX6_bleaches 14 = .ok (.bipush (-2), 2) := by decide +kernel
theorem dX6_bleaches_16 : decode cX6_bleaches 16 = .ok (.ireturn, 1) := by decide +kernel
theorem dX6_bleaches_17 : decode cX6_bleaches 17 = .ok (.aload_n 0, 1) := by decide +kernel
theorem dX6_bleaches_18 : decode cX6_bleaches 18 = .ok (.getfield 34, 3) := by decide +kernel
theorem dX6_bleaches_21 : decode cX6_bleaches 21 = .ok (.bipush 6, 2) := by decide +kernel
theorem dX6_bleaches_23 : decode cX6_bleaches 23 = .ok (.iaload, 1) := by decide +kernel
theorem dX6_bleaches_24 : decode cX6_bleaches 24 = .ok (.bipush 30, 2) := by decide +kernel
theorem dX6_bleaches_26 : decode cX6_bleaches 26 = .ok (.if_icmp .ne 6, 3) := by decide +kernel
theorem dX6_bleaches_29 : decode cX6_bleaches 29 = .ok (.bipush (-5), 2) := by decide +kernel
theorem dX6_bleaches_31 : decode cX6_bleaches 31 = .ok (.ireturn, 1) := by decide +kernel
theorem dX6_bleaches_32 : decode cX6_bleaches 32 = .ok (.aload_n 0, 1) := by decide +kernel
theorem dX6_bleaches_33 : decode cX6_bleaches 33 = .ok (.iconst 1, 1) := by decide +kernel
theorem dX6_bleaches_34 : decode cX6_bleaches 34 = .ok (.iload_n 1, 1) := by decide +kernel
theorem dX6_bleaches_35 : decode cX6_bleaches 35 = .ok (.iconst 0, 1) := by decide +kernel
theorem dX6_bleaches_36 : decode cX6_bleaches 36 = .ok (.iload_n 2, 1) := by decide +kernel
theorem dX6_bleaches_37 : decode cX6_bleaches 37 = .ok (.invokevirtual 451, 3) := by decide +kernel
theorem dX6_bleaches_40 : decode cX6_bleaches 40 = .ok (.aload_n 0, 1) := by decide +kernel
theorem dX6_bleaches_41 : decode cX6_bleaches 41 = .ok (.invokevirtual 337, 3) := by decide +kernel
theorem dX6_bleaches_44 : decode cX6_bleaches 44 = .ok (.aload_n 0, 1) := by decide +kernel
theorem dX6_bleaches_45 : decode cX6_bleaches 45 = .ok (.iload_n 1, 1) := by decide +kernel
theorem dX6_bleaches_46 : decode cX6_bleaches 46 = .ok (.invokevirtual 398, 3) := by decide +kernel
theorem dX6_bleaches_49 : decode cX6_bleaches 49 = .ok (.ireturn, 1) := by decide +kernel
theorem dX6_undo_0 : decode cX6_undo 0 = .ok (.aload_n 0, 1) := by decide +kernel
theorem dX6_undo_1 : decode cX6_undo 1 = .ok (.iconst 0, 1) := by decide +kernel
theorem dX6_undo_2 : decode cX6_undo 2 = .ok (.putfield 74, 3) := by decide +kernel
theorem dX6_undo_5 : decode cX6_undo 5 = .ok (.aload_n 0, 1) := by decide +kernel
theorem dX6_undo_6 : decode cX6_undo 6 = .ok (.invokevirtual 240, 3) := by decide +kernel
theorem dX6_undo_9 : decode cX6_undo 9 = .ok (.ifCond .ne 6, 3) := by decide +kernel
theorem dX6_undo_12 : decode cX6_undo 12 = .ok (.bipush (-2), 2) := by decide +kernel
theorem dX6_undo_14 : decode cX6_undo 14 = .ok (.ireturn, 1) := by decide +kernel
theorem dX6_undo_15 : decode cX6_undo 15 = .ok (.aload_n 0, 1) := by decide +kernel
theorem dX6_undo_16 : decode cX6_undo 16 = .ok (.getfield 34, 3) := by decide +kernel
theorem dX6_undo_19 : decode cX6_undo 19 = .ok (.bipush 6, 2) := by decide +kernel
theorem dX6_undo_21 : decode cX6_undo 21 = .ok (.iaload, 1) := by decide +kernel
theorem dX6_undo_22 : decode cX6_undo 22 = .ok (.ifCond .ne 6, 3) := by decide +kernel
theorem dX6_undo_25 : decode cX6_undo 25 = .ok (.bipush (-5), 2) := by decide +kernel
theorem dX6_undo_27 : decode cX6_undo 27 = .ok (.ireturn, 1) := by decide +kernel
theorem dX6_undo_28 : decode cX6_undo 28 = .ok (.aload_n 0, 1) := by decide +kernel
theorem dX6_undo_29 : decode cX6_undo 29 = .ok (.getfield 34, 3) := by decide +kernel
theorem dX6_undo_32 : decode cX6_undo 32 = .ok (.bipush 6, 2) := by decide +kernel
theorem dX6_undo_34 : decode cX6_undo 34 = .ok (.dup2, 1) := by decide +kernel
theorem dX6_undo_35 : decode cX6_undo 35 = .ok (.iaload, 1) := by decide +kernel
theorem dX6_undo_36 : decode cX6_undo 36 = .ok (.iconst 1, 1) := by decide +kernel
theorem dX6_undo_37 : decode cX6_undo 37 = .ok (.isub, 1) := by decide +kernel
theorem dX6_undo_38 : decode cX6_undo 38 = .ok (.iastore, 1) := by decide +kernel
theorem dX6_undo_39 : decode cX6_undo 39 = .ok (.aload_n 0, 1) := by decide +kernel
theorem dX6_undo_40 : decode cX6_undo 40 = .ok (.getfield 34, 3) := by decide +kernel
theorem dX6_undo_43 : decode cX6_undo 43 = .ok (.bipush 6, 2) := by decide +kernel
theorem dX6_undo_45 : decode cX6_undo 45 = .ok (.iaload, 1) := by decide +kernel
theorem dX6_undo_46 : decode cX6_undo 46 = .ok (.ireturn, 1) := by decide +kernel
theorem dX6_anew_0 : decode cX6_anew 0 = .ok (.aload_n 0, 1) := by decide +kernel
theorem dX6_anew_1 : decode cX6_anew 1 = .ok (.iconst 0, 1) := by decide +kernel
theorem dX6_anew_2 : decode cX6_anew 2 = .ok (.putfield 74, 3) := by decide +kernel
theorem dX6_anew_5 : decode cX6_anew 5 = .ok (.aload_n 0, 1) := by decide +kernel
theorem dX6_anew_6 : decode cX6_anew 6 = .ok (.invokevirtual 240, 3) := by decide +kernel
theorem dX6_anew_9 : decode cX6_anew 9 = .ok (.ifCond .ne 6, 3) := by decide +kernel
theorem dX6_anew_12 : decode cX6_anew 12 = .ok (.bipush (-2), 2) := by decide +kernel
theorem dX6_anew_14 : decode cX6_anew 14 = .ok (.ireturn, 1) := by decide +kernel
theorem dX6_anew_15 : decode cX6_anew 15 = .ok (.aload_n 0, 1) := by decide +kernel
theorem dX6_anew_16 : decode cX6_anew 16 = .ok (.getfield 34, 3) := by decide +kernel
theorem dX6_anew_19 : decode cX6_anew 19 = .ok (.bipush 6, 2) := by decide +kernel
theorem dX6_anew_21 : decode cX6_anew 21 = .ok (.iaload, 1) := by decide +kernel
theorem dX6_anew_22 : decode cX6_anew 22 = .ok (.istore_n 1, 1) := by decide +kernel
theorem dX6_anew_23 : decode cX6_anew 23 = .ok (.aload_n 0, 1) := by decide +kernel
theorem dX6_anew_24 : decode cX6_anew 24 = .ok (.getfield 34, 3) := by decide +kernel
theorem dX6_anew_27 : decode cX6_anew 27 = .ok (.bipush 6, 2) := by decide +kernel
theorem dX6_anew_29 : decode cX6_anew 29 = .ok (.iconst 0, 1) := by decide +kernel
theorem dX6_anew_30 : decode cX6_anew 30 = .ok (.iastore, 1) := by decide +kernel
theorem dX6_anew_31 : decode cX6_anew 31 = .ok (.iload_n 1, 1) := by decide +kernel
theorem dX6_anew_32 : decode cX6_anew 32 = .ok (.ireturn, 1) := by decide +kernel
theorem dX6_rate_0 : decode cX6_rate 0 = .ok (.aload_n 0, 1) := by decide +kernel
theorem dX6_rate_1 : decode cX6_rate 1 = .ok (.iconst 0, 1) := by decide +kernel
theorem dX6_rate_2 : decode cX6_rate 2 = .ok (.putfield 74, 3) := by decide +kernel
theorem dX6_rate_5 : decode cX6_rate 5 = .ok (.aload_n 0, 1) := by decide +kernel
theorem dX6_rate_6 : decode cX6_rate 6 = .ok (.iload_n 1, 1) := by decide +kernel
theorem dX6_rate_7 : decode cX6_rate 7 = .ok (.i2l, 1) := by decide +kernel
theorem dX6_rate_8 : decode cX6_rate 8 = .ok (.invokevirtual 246, 3) := by decide +kernel
theorem dX6_rate_11 : decode cX6_rate 11 = .ok (.ifCond .eq 15, 3) := by decide +kernel
theorem dX6_rate_14 : decode cX6_rate 14 = .ok (.iload_n 2, 1) := by decide +kernel
theorem dX6_rate_15 : decode cX6_rate 15 = .ok (.i2l, 1) := by decide +kernel
theorem dX6_rate_16 : decode cX6_rate 16 = .ok (.lconst 0, 1) := by decide +kernel
theorem dX6_rate_17 : decode cX6_rate 17 = .ok (.ldc2_w 396, 3) := by decide +kernel
theorem dX6_rate_20 : decode cX6_rate 20 = .ok (.invokestatic 79, 3) := by decide +kernel
theorem dX6_rate_23 : decode cX6_rate 23 = .ok (.ifCond .ne 6, 3) := by decide +kernel
theorem dX6_rate_26 : decode cX6_rate 26 = .ok (.bipush (-2), 2) := by decide +kernel
theorem dX6_rate_28 : decode cX6_rate 28 = .ok (.ireturn, 1) := by decide +kernel
theorem dX6_rate_29 : decode cX6_rate 29 = .ok (.aload_n 0, 1) := by decide +kernel
theorem dX6_rate_30 : decode cX6_rate 30 = .ok (.getfield 34, 3) := by decide +kernel
theorem dX6_rate_33 : decode cX6_rate 33 = .ok (.bipush 6, 2) := by decide +kernel
theorem dX6_rate_35 : decode cX6_rate 35 = .ok (.iaload, 1) := by decide +kernel
theorem dX6_rate_36 : decode cX6_rate 36 = .ok (.ifCond .le 6, 3) := by decide +kernel
theorem dX6_rate_39 : decode cX6_rate 39 = .ok (.bipush (-5), 2) := by decide +kernel
theorem dX6_rate_41 : decode cX6_rate 41 = .ok (.ireturn, 1) := by decide +kernel
theorem dX6_rate_42 : decode cX6_rate 42 = .ok (.aload_n 0, 1) := by decide +kernel
theorem dX6_rate_43 : decode cX6_rate 43 = .ok (.getfield 43, 3) := by decide +kernel
theorem dX6_rate_46 : decode cX6_rate 46 = .ok (.iconst 4, 1) := by decide +kernel
theorem dX6_rate_47 : decode cX6_rate 47 = .ok (.iload_n 1, 1) := by decide +kernel
theorem dX6_rate_48 : decode cX6_rate 48 = .ok (.imul, 1) := by decide +kernel
theorem dX6_rate_49 : decode cX6_rate 49 = .ok (.iconst 3, 1) := by decide +kernel
theorem dX6_rate_50 : decode cX6_rate 50 = .ok (.iadd, 1) := by decide +kernel
theorem dX6_rate_51 : decode cX6_rate 51 = .ok (.iaload, 1) := by decide +kernel
theorem dX6_rate_52 : decode cX6_rate 52 = .ok (.istore_n 3, 1) := by decide +kernel
theorem dX6_rate_53 : decode cX6_rate 53 = .ok (.aload_n 0, 1) := by decide +kernel
theorem dX6_rate_54 : decode cX6_rate 54 = .ok (.getfield 43, 3) := by decide +kernel
theorem dX6_rate_57 : decode cX6_rate 57 = .ok (.iconst 4, 1) := by decide +kernel
theorem dX6_rate_58 : decode cX6_rate 58 = .ok (.iload_n 1, 1) := by decide +kernel
theorem dX6_rate_59 : decode cX6_rate 59 = .ok (.imul, 1) := by decide +kernel
theorem dX6_rate_60 : decode cX6_rate 60 = .ok (.iconst 3, 1) := by decide +kernel
theorem dX6_rate_61 : decode cX6_rate 61 = .ok (.iadd, 1) := by decide +kernel
theorem dX6_rate_62 : decode cX6_rate 62 = .ok (.iload_n 2, 1) := by decide +kernel
theorem dX6_rate_63 : decode cX6_rate 63 = .ok (.iastore, 1) := by decide +kernel
theorem dX6_rate_64 : decode cX6_rate 64 = .ok (.iload_n 3, 1) := by decide +kernel
theorem dX6_rate_65 : decode cX6_rate 65 = .ok (.ireturn, 1) := by decide +kernel
theorem dX6_count_0 : decode cX6_count 0 = .ok (.aload_n 0, 1) := by decide +kernel
theorem dX6_count_1 : decode cX6_count 1 = .ok (.iconst 0, 1) := by decide +kernel
theorem dX6_count_2 : decode cX6_count 2 = .ok (.putfield 74, 3) := by decide +kernel
theorem dX6_count_5 : decode cX6_count 5 = .ok (.iload_n 1, 1) := by decide +kernel
theorem dX6_count_6 : decode cX6_count 6 = .ok (.i2l, 1) := by decide +kernel
theorem dX6_count_7 : decode cX6_count 7 = .ok (.lconst 0, 1) := by decide +kernel
theorem dX6_count_8 : decode cX6_count 8 = .ok (.ldc2_w 455, 3) := by decide +kernel
theorem dX6_count_11 : decode cX6_count 11 = .ok (.invokestatic 79, 3) := by decide +kernel
theorem dX6_count_14 : decode cX6_count 14 = .ok (.ifCond .eq 10, 3) := by decide +kernel
theorem dX6_count_17 : decode cX6_count 17 = .ok (.aload_n 0, 1) := by decide +kernel
theorem dX6_count_18 : decode cX6_count 18 = .ok (.getfield 34, 3) := by decide +kernel
theorem dX6_count_21 : decode cX6_count 21 = .ok (.iload_n 1, 1) := by decide +kernel
theorem dX6_count_22 : decode cX6_count 22 = .ok (.iaload, 1) := by decide +kernel
theorem dX6_count_23 : decode cX6_count 23 = .ok (.ireturn, 1) := by decide +kernel
theorem dX6_count_24 : decode cX6_count 24 = .ok (.iconst 0, 1) := by decide +kernel
theorem dX6_count_25 : decode cX6_count 25 = .ok (.istore_n 2, 1) := by decide +kernel
theorem dX6_count_26 : decode cX6_count 26 = .ok (.iload_n 1, 1) := by decide +kernel
theorem dX6_count_27 : decode cX6_count 27 = .ok (.tableswitch 70 7 9 #[25, 32, 37], 25) := by decide +kernel
theorem dX6_count_52 : decode cX6_count 52 = .ok (.aload_n 0, 1) := by decide +kernel
theorem dX6_count_53 : decode cX6_count 53 = .ok (.getfield 31, 3) := by decide +kernel
theorem dX6_count_56 : decode cX6_count 56 = .ok (.iconst 0, 1) := by decide +kernel
theorem dX6_count_57 : decode cX6_count 57 = .ok (.iaload, 1) := by decide +kernel
theorem dX6_count_58 : decode cX6_count 58 = .ok (.ireturn, 1) := by decide +kernel
theorem dX6_count_59 : decode cX6_count 59 = .ok (.aload_n 0, 1) := by decide +kernel
theorem dX6_count_60 : decode cX6_count 60 = .ok (.getfield 91, 3) := by decide +kernel
theorem dX6_count_63 : decode cX6_count 63 = .ok (.ireturn, 1) := by decide +kernel
theorem dX6_count_64 : decode cX6_count 64 = .ok (.iconst 0, 1) := by decide +kernel
theorem dX6_count_65 : decode cX6_count 65 = .ok (.istore_n 3, 1) := by decide +kernel
theorem dX6_count_66 : decode cX6_count 66 = .ok (.iload_n 3, 1) := by decide +kernel
theorem dX6_count_67 : decode cX6_count 67 = .ok (.iconst 4, 1) := by decide +kernel
theorem dX6_count_68 : decode cX6_count 68 = .ok (.if_icmp .ge 27, 3) := by decide +kernel
theorem dX6_count_71 : decode cX6_count 71 = .ok (.iload_n 2, 1) := by decide +kernel
theorem dX6_count_72 : decode cX6_count 72 = .ok (.aload_n 0, 1) := by decide +kernel
theorem dX6_count_73 : decode cX6_count 73 = .ok (.getfield 7, 3) := by decide +kernel
theorem dX6_count_76 : decode cX6_count 76 = .ok (.iload_n 3, 1) := by decide +kernel
theorem dX6_count_77 : decode cX6_count 77 = .ok (.iaload, 1) := by decide +kernel
theorem dX6_count_78 : decode cX6_count 78 = .ok (.iconst (-1), 1) := by decide +kernel
theorem dX6_count_79 : decode cX6_count 79 = .ok (.if_icmp .ne 7, 3) := by decide +kernel
theorem dX6_count_82 : decode cX6_count 82 = .ok (.iconst 0, 1) := by decide +kernel
theorem dX6_count_83 : decode cX6_count 83 = .ok (.goto 4, 3) := by decide +kernel
theorem dX6_count_86 : decode cX6_count 86 = .ok (.iconst 1, 1) := by decide +kernel
theorem dX6_count_87 : decode cX6_count 87 = .ok (.iadd, 1) := by decide +kernel
theorem dX6_count_88 : decode cX6_count 88 = .ok (.istore_n 2, 1) := by decide +kernel
theorem dX6_count_89 : decode cX6_count 89 = .ok (.iinc 3 1, 3) := by decide +kernel
theorem dX6_count_92 : decode cX6_count 92 = .ok (.goto (-26), 3) := by decide +kernel
theorem dX6_count_95 : decode cX6_count 95 = .ok (.iload_n 2, 1) := by decide +kernel
theorem dX6_count_96 : decode cX6_count 96 = .ok (.ireturn, 1) := by decide +kernel
theorem dX6_count_97 : decode cX6_count 97 = .ok (.iconst (-1), 1) := by decide +kernel
theorem dX6_count_98 : decode cX6_count 98 = .ok (.ireturn, 1) := by decide +kernel
theorem dX6_image_0 : decode cX6_image 0 = .ok (.aload_n 0, 1) := by decide +kernel
theorem dX6_image_1 : decode cX6_image 1 = .ok (.iconst 0, 1) := by decide +kernel
theorem dX6_image_2 : decode cX6_image 2 = .ok (.putfield 74, 3) := by decide +kernel
theorem dX6_image_5 : decode cX6_image 5 = .ok (.iload_n 1, 1) := by decide +kernel
theorem dX6_image_6 : decode cX6_image 6 = .ok (.i2l, 1) := by decide +kernel
theorem dX6_image_7 : decode cX6_image 7 = .ok (.lconst 0, 1) := by decide +kernel
theorem dX6_image_8 : decode cX6_image 8 = .ok (.ldc2_w 324, 3) := by decide +kernel
theorem dX6_image_11 : decode cX6_image 11 = .ok (.invokestatic 79, 3) := by decide +kernel
theorem dX6_image_14 : decode cX6_image 14 = .ok (.ifCond .ne 6, 3) := by decide +kernel
theorem dX6_image_17 : decode cX6_image 17 = .ok (.bipush (-2), 2) := by decide +kernel
theorem dX6_image_19 : decode cX6_image 19 = .ok (.ireturn, 1) := by decide +kernel
theorem dX6_image_20 : decode cX6_image 20 = .ok (.aload_n 0, 1) := by decide +kernel
theorem dX6_image_21 : decode cX6_image 21 = .ok (.iconst 0, 1) := by decide +kernel
theorem dX6_image_22 : decode cX6_image 22 = .ok (.iconst 1, 1) := by decide +kernel
theorem dX6_image_23 : decode cX6_image 23 = .ok (.iload_n 1, 1) := by decide +kernel
theorem dX6_image_24 : decode cX6_image 24 = .ok (.iadd, 1) := by decide +kernel
theorem dX6_image_25 : decode cX6_image 25 = .ok (.invokevirtual 229, 3) := by decide +kernel
theorem dX6_image_28 : decode cX6_image 28 = .ok (.aload_n 0, 1) := by decide +kernel
theorem dX6_image_29 : decode cX6_image 29 = .ok (.getfield 49, 3) := by decide +kernel
theorem dX6_image_32 : decode cX6_image 32 = .ok (.iload_n 1, 1) := by decide +kernel
theorem dX6_image_33 : decode cX6_image 33 = .ok (.iconst 1, 1) := by decide +kernel
theorem dX6_image_34 : decode cX6_image 34 = .ok (.bastore, 1) := by decide +kernel
theorem dX6_image_35 : decode cX6_image 35 = .ok (.iconst 0, 1) := by decide +kernel
theorem dX6_image_36 : decode cX6_image 36 = .ok (.ireturn, 1) := by decide +kernel
theorem dX6_back_0 : decode cX6_back 0 = .ok (.aload_n 0, 1) := by decide +kernel
theorem dX6_back_1 : decode cX6_back 1 = .ok (.iconst 0, 1) := by decide +kernel
theorem dX6_back_2 : decode cX6_back 2 = .ok (.putfield 74, 3) := by decide +kernel
theorem dX6_back_5 : decode cX6_back 5 = .ok (.iload_n 1, 1) := by decide +kernel
theorem dX6_back_6 : decode cX6_back 6 = .ok (.i2l, 1) := by decide +kernel
theorem dX6_back_7 : decode cX6_back 7 = .ok (.lconst 0, 1) := by decide +kernel
theorem dX6_back_8 : decode cX6_back 8 = .ok (.ldc2_w 324, 3) := by decide +kernel
theorem dX6_back_11 : decode cX6_back 11 = .ok (.invokestatic 79, 3) := by decide +kernel
theorem dX6_back_14 : decode cX6_back 14 = .ok (.ifCond .ne 6, 3) := by decide +kernel
theorem dX6_back_17 : decode cX6_back 17 = .ok (.bipush (-2), 2) := by decide +kernel
theorem dX6_back_19 : decode cX6_back 19 = .ok (.ireturn, 1) := by decide +kernel
theorem dX6_back_20 : decode cX6_back 20 = .ok (.aload_n 0, 1) := by decide +kernel
theorem dX6_back_21 : decode cX6_back 21 = .ok (.getfield 49, 3) := by decide +kernel
theorem dX6_back_24 : decode cX6_back 24 = .ok (.iload_n 1, 1) := by decide +kernel
theorem dX6_back_25 : decode cX6_back 25 = .ok (.baload, 1) := by decide +kernel
theorem dX6_back_26 : decode cX6_back 26 = .ok (.ifCond .ne 6, 3) := by decide +kernel
theorem dX6_back_29 : decode cX6_back 29 = .ok (.bipush (-6), 2) := by decide +kernel
theorem dX6_back_31 : decode cX6_back 31 = .ok (.ireturn, 1) := by decide +kernel
theorem dX6_back_32 : decode cX6_back 32 = .ok (.aload_n 0, 1) := by decide +kernel
theorem dX6_back_33 : decode cX6_back 33 = .ok (.iconst 1, 1) := by decide +kernel
theorem dX6_back_34 : decode cX6_back 34 = .ok (.iload_n 1, 1) := by decide +kernel
theorem dX6_back_35 : decode cX6_back 35 = .ok (.iadd, 1) := by decide +kernel
theorem dX6_back_36 : decode cX6_back 36 = .ok (.iconst 0, 1) := by decide +kernel
theorem dX6_back_37 : decode cX6_back 37 = .ok (.invokevirtual 229, 3) := by decide +kernel
theorem dX6_back_40 : decode cX6_back 40 = .ok (.iconst 0, 1) := by decide +kernel
theorem dX6_back_41 : decode cX6_back 41 = .ok (.ireturn, 1) := by decide +kernel
