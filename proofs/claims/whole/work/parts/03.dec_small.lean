theorem dX0_init_0 : decode cX0_init 0 = .ok (.aload_n 0, 1) := by decide +kernel
theorem dX0_init_1 : decode cX0_init 1 = .ok (.invokespecial 3, 3) := by decide +kernel
theorem dX0_init_4 : decode cX0_init 4 = .ok (.aload_n 0, 1) := by decide +kernel
theorem dX0_init_5 : decode cX0_init 5 = .ok (.bipush 40, 2) := by decide +kernel
theorem dX0_init_7 : decode cX0_init 7 = .ok (.newarray .int, 2) := by decide +kernel
theorem dX0_init_9 : decode cX0_init 9 = .ok (.putfield 11, 3) := by decide +kernel
theorem dX0_init_12 : decode cX0_init 12 = .ok (.aload_n 0, 1) := by decide +kernel
theorem dX0_init_13 : decode cX0_init 13 = .ok (.bipush 40, 2) := by decide +kernel
theorem dX0_init_15 : decode cX0_init 15 = .ok (.newarray .int, 2) := by decide +kernel
theorem dX0_init_17 : decode cX0_init 17 = .ok (.putfield 15, 3) := by decide +kernel
theorem dX0_init_20 : decode cX0_init 20 = .ok (.aload_n 0, 1) := by decide +kernel
theorem dX0_init_21 : decode cX0_init 21 = .ok (.bipush 40, 2) := by decide +kernel
theorem dX0_init_23 : decode cX0_init 23 = .ok (.newarray .int, 2) := by decide +kernel
theorem dX0_init_25 : decode cX0_init 25 = .ok (.putfield 18, 3) := by decide +kernel
theorem dX0_init_28 : decode cX0_init 28 = .ok (.aload_n 0, 1) := by decide +kernel
theorem dX0_init_29 : decode cX0_init 29 = .ok (.iconst 0, 1) := by decide +kernel
theorem dX0_init_30 : decode cX0_init 30 = .ok (.putfield 21, 3) := by decide +kernel
theorem dX0_init_33 : decode cX0_init 33 = .ok (.return_, 1) := by decide +kernel
theorem dX0_add_0 : decode cX0_add 0 = .ok (.aload_n 0, 1) := by decide +kernel
theorem dX0_add_1 : decode cX0_add 1 = .ok (.getfield 21, 3) := by decide +kernel
theorem dX0_add_4 : decode cX0_add 4 = .ok (.bipush 40, 2) := by decide +kernel
theorem dX0_add_6 : decode cX0_add 6 = .ok (.if_icmp .ge 43, 3) := by decide +kernel
theorem dX0_add_9 : decode cX0_add 9 = .ok (.aload_n 0, 1) := by decide +kernel
theorem dX0_add_10 : decode cX0_add 10 = .ok (.getfield 11, 3) := by decide +kernel
theorem dX0_add_13 : decode cX0_add 13 = .ok (.aload_n 0, 1) := by decide +kernel
theorem dX0_add_14 : decode cX0_add 14 = .ok (.getfield 21, 3) := by decide +kernel
theorem dX0_add_17 : decode cX0_add 17 = .ok (.iload_n 1, 1) := by decide +kernel
theorem dX0_add_18 : decode cX0_add 18 = .ok (.iastore, 1) := by decide +kernel
theorem dX0_add_19 : decode cX0_add 19 = .ok (.aload_n 0, 1) := by decide +kernel
theorem dX0_add_20 : decode cX0_add 20 = .ok (.getfield 15, 3) := by decide +kernel
theorem dX0_add_23 : decode cX0_add 23 = .ok (.aload_n 0, 1) := by decide +kernel
theorem dX0_add_24 : decode cX0_add 24 = .ok (.getfield 21, 3) := by decide +kernel
theorem dX0_add_27 : decode cX0_add 27 = .ok (.iload_n 2, 1) := by decide +kernel
theorem dX0_add_28 : decode cX0_add 28 = .ok (.iastore, 1) := by decide +kernel
theorem dX0_add_29 : decode cX0_add 29 = .ok (.aload_n 0, 1) := by decide +kernel
theorem dX0_add_30 : decode cX0_add 30 = .ok (.getfield 18, 3) := by decide +kernel
theorem dX0_add_33 : decode cX0_add 33 = .ok (.aload_n 0, 1) := by decide +kernel
theorem dX0_add_34 : decode cX0_add 34 = .ok (.getfield 21, 3) := by decide +kernel
theorem dX0_add_37 : decode cX0_add 37 = .ok (.iload_n 3, 1) := by decide +kernel
theorem dX0_add_38 : decode cX0_add 38 = .ok (.iastore, 1) := by decide +kernel
theorem dX0_add_39 : decode cX0_add 39 = .ok (.aload_n 0, 1) := by decide +kernel
theorem dX0_add_40 : decode cX0_add 40 = .ok (.dup, 1) := by decide +kernel
theorem dX0_add_41 : decode cX0_add 41 = .ok (.getfield 21, 3) := by decide +kernel
theorem dX0_add_44 : decode cX0_add 44 = .ok (.iconst 1, 1) := by decide +kernel
theorem dX0_add_45 : decode cX0_add 45 = .ok (.iadd, 1) := by decide +kernel
theorem dX0_add_46 : decode cX0_add 46 = .ok (.putfield 21, 3) := by decide +kernel
theorem dX0_add_49 : decode cX0_add 49 = .ok (.return_, 1) := by decide +kernel
theorem dX0_copyFrom_0 : decode cX0_copyFrom 0 = .ok (.aload_n 0, 1) := by decide +kernel
theorem dX0_copyFrom_1 : decode cX0_copyFrom 1 = .ok (.aload_n 1, 1) := by decide +kernel
theorem dX0_copyFrom_2 : decode cX0_copyFrom 2 = .ok (.getfield 21, 3) := by decide +kernel
theorem dX0_copyFrom_5 : decode cX0_copyFrom 5 = .ok (.putfield 21, 3) := by decide +kernel
theorem dX0_copyFrom_8 : decode cX0_copyFrom 8 = .ok (.aload_n 1, 1) := by decide +kernel
theorem dX0_copyFrom_9 : decode cX0_copyFrom 9 = .ok (.getfield 11, 3) := by decide +kernel
theorem dX0_copyFrom_12 : decode cX0_copyFrom 12 = .ok (.iconst 0, 1) := by decide +kernel
theorem dX0_copyFrom_13 : decode cX0_copyFrom 13 = .ok (.aload_n 0, 1) := by decide +kernel
theorem dX0_copyFrom_14 : decode cX0_copyFrom 14 = .ok (.getfield 11, 3) := by decide +kernel
theorem dX0_copyFrom_17 : decode cX0_copyFrom 17 = .ok (.iconst 0, 1) := by decide +kernel
theorem dX0_copyFrom_18 : decode cX0_copyFrom 18 = .ok (.aload_n 1, 1) := by decide +kernel
theorem dX0_copyFrom_19 : decode cX0_copyFrom 19 = .ok (.getfield 21, 3) := by decide +kernel
theorem dX0_copyFrom_22 : decode cX0_copyFrom 22 = .ok (.invokestatic 25, 3) := by decide +kernel
theorem dX0_copyFrom_25 : decode cX0_copyFrom 25 = .ok (.aload_n 1, 1) := by decide +kernel
theorem dX0_copyFrom_26 : decode cX0_copyFrom 26 = .ok (.getfield 15, 3) := by decide +kernel
theorem dX0_copyFrom_29 : decode cX0_copyFrom 29 = .ok (.iconst 0, 1) := by decide +kernel
theorem dX0_copyFrom_30 : decode cX0_copyFrom 30 = .ok (.aload_n 0, 1) := by decide +kernel
theorem dX0_copyFrom_31 : decode cX0_copyFrom 31 = .ok (.getfield 15, 3) := by decide +kernel
theorem dX0_copyFrom_34 : decode cX0_copyFrom 34 = .ok (.iconst 0, 1) := by decide +kernel
theorem dX0_copyFrom_35 : decode cX0_copyFrom 35 = .ok (.aload_n 1, 1) := by decide +kernel
theorem dX0_copyFrom_36 : decode cX0_copyFrom 36 = .ok (.getfield 21, 3) := by decide +kernel
theorem dX0_copyFrom_39 : decode cX0_copyFrom 39 = .ok (.invokestatic 25, 3) := by decide +kernel
theorem dX0_copyFrom_42 : decode cX0_copyFrom 42 = .ok (.aload_n 1, 1) := by decide +kernel
theorem dX0_copyFrom_43 : decode cX0_copyFrom 43 = .ok (.getfield 18, 3) := by decide +kernel
theorem dX0_copyFrom_46 : decode cX0_copyFrom 46 = .ok (.iconst 0, 1) := by decide +kernel
theorem dX0_copyFrom_47 : decode cX0_copyFrom 47 = .ok (.aload_n 0, 1) := by decide +kernel
theorem dX0_copyFrom_48 : decode cX0_copyFrom 48 = .ok (.getfield 18, 3) := by decide +kernel
theorem dX0_copyFrom_51 : decode cX0_copyFrom 51 = .ok (.iconst 0, 1) := by decide +kernel
theorem dX0_copyFrom_52 : decode cX0_copyFrom 52 = .ok (.aload_n 1, 1) := by decide +kernel
theorem dX0_copyFrom_53 : decode cX0_copyFrom 53 = .ok (.getfield 21, 3) := by decide +kernel
theorem dX0_copyFrom_56 : decode cX0_copyFrom 56 = .ok (.invokestatic 25, 3) := by decide +kernel
theorem dX0_copyFrom_59 : decode cX0_copyFrom 59 = .ok (.return_, 1) := by decide +kernel
theorem dX1_init_0 : decode cX1_init 0 = .ok (.aload_n 0, 1) := by decide +kernel
theorem dX1_init_1 : decode cX1_init 1 = .ok (.invokespecial 3, 3) := by decide +kernel
theorem dX1_init_4 : decode cX1_init 4 = .ok (.aload_n 0, 1) := by decide +kernel
theorem dX1_init_5 : decode cX1_init 5 = .ok (.iconst 0, 1) := by decide +kernel
theorem dX1_init_6 : decode cX1_init 6 = .ok (.putfield 9, 3) := by decide +kernel
theorem dX1_init_9 : decode cX1_init 9 = .ok (.aload_n 0, 1) := by decide +kernel
theorem dX1_init_10 : decode cX1_init 10 = .ok (.iconst 0, 1) := by decide +kernel
theorem dX1_init_11 : decode cX1_init 11 = .ok (.putfield 15, 3) := by decide +kernel
theorem dX1_init_14 : decode cX1_init 14 = .ok (.aload_n 0, 1) := by decide +kernel
theorem dX1_init_15 : decode cX1_init 15 = .ok (.iconst 0, 1) := by decide +kernel
theorem dX1_init_16 : decode cX1_init 16 = .ok (.putfield 18, 3) := by decide +kernel
theorem dX1_init_19 : decode cX1_init 19 = .ok (.aload_n 0, 1) := by decide +kernel
theorem dX1_init_20 : decode cX1_init 20 = .ok (.iconst 0, 1) := by decide +kernel
theorem dX1_init_21 : decode cX1_init 21 = .ok (.putfield 21, 3) := by decide +kernel
theorem dX1_init_24 : decode cX1_init 24 = .ok (.aload_n 0, 1) := by decide +kernel
theorem dX1_init_25 : decode cX1_init 25 = .ok (.iconst 0, 1) := by decide +kernel
theorem dX1_init_26 : decode cX1_init 26 = .ok (.putfield 24, 3) := by decide +kernel
theorem dX1_init_29 : decode cX1_init 29 = .ok (.aload_n 0, 1) := by decide +kernel
theorem dX1_init_30 : decode cX1_init 30 = .ok (.iconst 0, 1) := by decide +kernel
theorem dX1_init_31 : decode cX1_init 31 = .ok (.putfield 27, 3) := by decide +kernel
theorem dX1_init_34 : decode cX1_init 34 = .ok (.aload_n 0, 1) := by decide +kernel
theorem dX1_init_35 : decode cX1_init 35 = .ok (.iconst 0, 1) := by decide +kernel
theorem dX1_init_36 : decode cX1_init 36 = .ok (.putfield 30, 3) := by decide +kernel
theorem dX1_init_39 : decode cX1_init 39 = .ok (.aload_n 0, 1) := by decide +kernel
theorem dX1_init_40 : decode cX1_init 40 = .ok (.iconst 4, 1) := by decide +kernel
theorem dX1_init_41 : decode cX1_init 41 = .ok (.newarray .int, 2) := by decide +kernel
theorem dX1_init_43 : decode cX1_init 43 = .ok (.putfield 33, 3) := by decide +kernel
theorem dX1_init_46 : decode cX1_init 46 = .ok (.aload_n 0, 1) := by decide +kernel
theorem dX1_init_47 : decode cX1_init 47 = .ok (.iconst 4, 1) := by decide +kernel
theorem dX1_init_48 : decode cX1_init 48 = .ok (.newarray .int, 2) := by decide +kernel
theorem dX1_init_50 : decode cX1_init 50 = .ok (.putfield 37, 3) := by decide +kernel
theorem dX1_init_53 : decode cX1_init 53 = .ok (.aload_n 0, 1) := by decide +kernel
theorem dX1_init_54 : decode cX1_init 54 = .ok (.iconst 4, 1) := by decide +kernel
theorem dX1_init_55 : decode cX1_init 55 = .ok (.newarray .int, 2) := by decide +kernel
theorem dX1_init_57 : decode cX1_init 57 = .ok (.putfield 40, 3) := by decide +kernel
theorem dX1_init_60 : decode cX1_init 60 = .ok (.aload_n 0, 1) := by decide +kernel
theorem dX1_init_61 : decode cX1_init 61 = .ok (.iconst 4, 1) := by decide +kernel
theorem dX1_init_62 : decode cX1_init 62 = .ok (.newarray .int, 2) := by decide +kernel
theorem dX1_init_64 : decode cX1_init 64 = .ok (.putfield 43, 3) := by decide +kernel
theorem dX1_init_67 : decode cX1_init 67 = .ok (.aload_n 0, 1) := by decide +kernel
theorem dX1_init_68 : decode cX1_init 68 = .ok (.bipush 7, 2) := by decide +kernel
theorem dX1_init_70 : decode cX1_init 70 = .ok (.newarray .int, 2) := by decide +kernel
theorem dX1_init_72 : decode cX1_init 72 = .ok (.putfield 46, 3) := by decide +kernel
theorem dX1_init_75 : decode cX1_init 75 = .ok (.aload_n 0, 1) := by decide +kernel
theorem dX1_init_76 : decode cX1_init 76 = .ok (.bipush 7, 2) := by decide +kernel
theorem dX1_init_78 : decode cX1_init 78 = .ok (.newarray .int, 2) := by decide +kernel
theorem dX1_init_80 : decode cX1_init 80 = .ok (.putfield 49, 3) := by decide +kernel
theorem dX1_init_83 : decode cX1_init 83 = .ok (.aload_n 0, 1) := by decide +kernel
theorem dX1_init_84 : decode cX1_init 84 = .ok (.bipush 7, 2) := by decide +kernel
theorem dX1_init_86 : decode cX1_init 86 = .ok (.newarray .int, 2) := by decide +kernel
theorem dX1_init_88 : decode cX1_init 88 = .ok (.putfield 52, 3) := by decide +kernel
theorem dX1_init_91 : decode cX1_init 91 = .ok (.aload_n 0, 1) := by decide +kernel
theorem dX1_init_92 : decode cX1_init 92 = .ok (.bipush 7, 2) := by decide +kernel
theorem dX1_init_94 : decode cX1_init 94 = .ok (.newarray .int, 2) := by decide +kernel
theorem dX1_init_96 : decode cX1_init 96 = .ok (.putfield 55, 3) := by decide +kernel
theorem dX1_init_99 : decode cX1_init 99 = .ok (.aload_n 0, 1) := by decide +kernel
theorem dX1_init_100 : decode cX1_init 100 = .ok (.bipush 7, 2) := by decide +kernel
theorem dX1_init_102 : decode cX1_init 102 = .ok (.newarray .int, 2) := by decide +kernel
theorem dX1_init_104 : decode cX1_init 104 = .ok (.putfield 58, 3) := by decide +kernel
theorem dX1_init_107 : decode cX1_init 107 = .ok (.aload_n 0, 1) := by decide +kernel
theorem dX1_init_108 : decode cX1_init 108 = .ok (.bipush 7, 2) := by decide +kernel
theorem dX1_init_110 : decode cX1_init 110 = .ok (.newarray .int, 2) := by decide +kernel
theorem dX1_init_112 : decode cX1_init 112 = .ok (.putfield 61, 3) := by decide +kernel
theorem dX1_init_115 : decode cX1_init 115 = .ok (.aload_n 0, 1) := by decide +kernel
theorem dX1_init_116 : decode cX1_init 116 = .ok (.new 64, 3) := by decide +kernel
theorem dX1_init_119 : decode cX1_init 119 = .ok (.dup, 1) := by decide +kernel
theorem dX1_init_120 : decode cX1_init 120 = .ok (.invokespecial 66, 3) := by decide +kernel
theorem dX1_init_123 : decode cX1_init 123 = .ok (.putfield 67, 3) := by decide +kernel
theorem dX1_init_126 : decode cX1_init 126 = .ok (.return_, 1) := by decide +kernel
theorem dX1_empty_0 : decode cX1_empty 0 = .ok (.aload_n 0, 1) := by decide +kernel
theorem dX1_empty_1 : decode cX1_empty 1 = .ok (.iconst 0, 1) := by decide +kernel
theorem dX1_empty_2 : decode cX1_empty 2 = .ok (.putfield 9, 3) := by decide +kernel
theorem dX1_empty_5 : decode cX1_empty 5 = .ok (.aload_n 0, 1) := by decide +kernel
theorem dX1_empty_6 : decode cX1_empty 6 = .ok (.iconst 0, 1) := by decide +kernel
theorem dX1_empty_7 : decode cX1_empty 7 = .ok (.putfield 15, 3) := by decide +kernel
theorem dX1_empty_10 : decode cX1_empty 10 = .ok (.aload_n 0, 1) := by decide +kernel
theorem dX1_empty_11 : decode cX1_empty 11 = .ok (.iconst 0, 1) := by decide +kernel
theorem dX1_empty_12 : decode cX1_empty 12 = .ok (.putfield 18, 3) := by decide +kernel
theorem dX1_empty_15 : decode cX1_empty 15 = .ok (.aload_n 0, 1) := by decide +kernel
theorem dX1_empty_16 : decode cX1_empty 16 = .ok (.iconst 0, 1) := by decide +kernel
theorem dX1_empty_17 : decode cX1_empty 17 = .ok (.putfield 21, 3) := by decide +kernel
theorem dX1_empty_20 : decode cX1_empty 20 = .ok (.aload_n 0, 1) := by decide +kernel
theorem dX1_empty_21 : decode cX1_empty 21 = .ok (.iconst 0, 1) := by decide +kernel
theorem dX1_empty_22 : decode cX1_empty 22 = .ok (.putfield 24, 3) := by decide +kernel
theorem dX1_empty_25 : decode cX1_empty 25 = .ok (.aload_n 0, 1) := by decide +kernel
theorem dX1_empty_26 : decode cX1_empty 26 = .ok (.iconst 0, 1) := by decide +kernel
theorem dX1_empty_27 : decode cX1_empty 27 = .ok (.putfield 27, 3) := by decide +kernel
theorem dX1_empty_30 : decode cX1_empty 30 = .ok (.aload_n 0, 1) := by decide +kernel
theorem dX1_empty_31 : decode cX1_empty 31 = .ok (.iconst 0, 1) := by decide +kernel
theorem dX1_empty_32 : decode cX1_empty 32 = .ok (.putfield 30, 3) := by decide +kernel
theorem dX1_empty_35 : decode cX1_empty 35 = .ok (.aload_n 0, 1) := by decide +kernel
theorem dX1_empty_36 : decode cX1_empty 36 = .ok (.getfield 67, 3) := by decide +kernel
theorem dX1_empty_39 : decode cX1_empty 39 = .ok (.iconst 0, 1) := by decide +kernel
theorem dX1_empty_40 : decode cX1_empty 40 = .ok (.putfield 71, 3) := by decide +kernel
theorem dX1_empty_43 : decode cX1_empty 43 = .ok (.return_, 1) := by decide +kernel
theorem dX1_copyFrom_0 : decode cX1_copyFrom 0 = .ok (.aload_n 0, 1) := by decide +kernel
theorem dX1_copyFrom_1 : decode cX1_copyFrom 1 = .ok (.aload_n 1, 1) := by decide +kernel
theorem dX1_copyFrom_2 : decode cX1_copyFrom 2 = .ok (.getfield 9, 3) := by decide +kernel
theorem dX1_copyFrom_5 : decode cX1_copyFrom 5 = .ok (.putfield 9, 3) := by decide +kernel
theorem dX1_copyFrom_8 : decode cX1_copyFrom 8 = .ok (.aload_n 0, 1) := by decide +kernel
theorem dX1_copyFrom_9 : decode cX1_copyFrom 9 = .ok (.aload_n 1, 1) := by decide +kernel
theorem dX1_copyFrom_10 : decode cX1_copyFrom 10 = .ok (.getfield 15, 3) := by decide +kernel
theorem dX1_copyFrom_13 : decode cX1_copyFrom 13 = .ok (.putfield 15, 3) := by decide +kernel
theorem dX1_copyFrom_16 : decode cX1_copyFrom 16 = .ok (.aload_n 0, 1) := by decide +kernel
theorem dX1_copyFrom_17 : decode cX1_copyFrom 17 = .ok (.aload_n 1, 1) := by decide +kernel
theorem dX1_copyFrom_18 : decode cX1_copyFrom 18 = .ok (.getfield 18, 3) := by decide +kernel
theorem dX1_copyFrom_21 : decode cX1_copyFrom 21 = .ok (.putfield 18, 3) := by decide +kernel
theorem dX1_copyFrom_24 : decode cX1_copyFrom 24 = .ok (.aload_n 0, 1) := by decide +kernel
theorem dX1_copyFrom_25 : decode cX1_copyFrom 25 = .ok (.aload_n 1, 1) := by decide +kernel
theorem dX1_copyFrom_26 : decode cX1_copyFrom 26 = .ok (.getfield 21, 3) := by decide +kernel
theorem dX1_copyFrom_29 : decode cX1_copyFrom 29 = .ok (.putfield 21, 3) := by decide +kernel
theorem dX1_copyFrom_32 : decode cX1_copyFrom 32 = .ok (.aload_n 0, 1) := by decide +kernel
theorem dX1_copyFrom_33 : decode cX1_copyFrom 33 = .ok (.aload_n 1, 1) := by decide +kernel
theorem dX1_copyFrom_34 : decode cX1_copyFrom 34 = .ok (.getfield 24, 3) := by decide +kernel
theorem dX1_copyFrom_37 : decode cX1_copyFrom 37 = .ok (.putfield 24, 3) := by decide +kernel
theorem dX1_copyFrom_40 : decode cX1_copyFrom 40 = .ok (.aload_n 0, 1) := by decide +kernel
theorem dX1_copyFrom_41 : decode cX1_copyFrom 41 = .ok (.aload_n 1, 1) := by decide +kernel
theorem dX1_copyFrom_42 : decode cX1_copyFrom 42 = .ok (.getfield 27, 3) := by decide +kernel
theorem dX1_copyFrom_45 : decode cX1_copyFrom 45 = .ok (.putfield 27, 3) := by decide +kernel
theorem dX1_copyFrom_48 : decode cX1_copyFrom 48 = .ok (.aload_n 0, 1) := by decide +kernel
theorem dX1_copyFrom_49 : decode cX1_copyFrom 49 = .ok (.aload_n 1, 1) := by decide +kernel
theorem dX1_copyFrom_50 : decode cX1_copyFrom 50 = .ok (.getfield 30, 3) := by decide +kernel
theorem dX1_copyFrom_53 : decode cX1_copyFrom 53 = .ok (.putfield 30, 3) := by decide +kernel
theorem dX1_copyFrom_56 : decode cX1_copyFrom 56 = .ok (.aload_n 1, 1) := by decide +kernel
theorem dX1_copyFrom_57 : decode cX1_copyFrom 57 = .ok (.getfield 33, 3) := by decide +kernel
theorem dX1_copyFrom_60 : decode cX1_copyFrom 60 = .ok (.iconst 0, 1) := by decide +kernel
theorem dX1_copyFrom_61 : decode cX1_copyFrom 61 = .ok (.aload_n 0, 1) := by decide +kernel
theorem dX1_copyFrom_62 : decode cX1_copyFrom 62 = .ok (.getfield 33, 3) := by decide +kernel
theorem dX1_copyFrom_65 : decode cX1_copyFrom 65 = .ok (.iconst 0, 1) := by decide +kernel
theorem dX1_copyFrom_66 : decode cX1_copyFrom 66 = .ok (.iconst 4, 1) := by decide +kernel
theorem dX1_copyFrom_67 : decode cX1_copyFrom 67 = .ok (.invokestatic 74, 3) := by decide +kernel
theorem dX1_copyFrom_70 : decode cX1_copyFrom 70 = .ok (.aload_n 1, 1) := by decide +kernel
theorem dX1_copyFrom_71 : decode cX1_copyFrom 71 = .ok (.getfield 37, 3) := by decide +kernel
theorem dX1_copyFrom_74 : decode cX1_copyFrom 74 = .ok (.iconst 0, 1) := by decide +kernel
theorem dX1_copyFrom_75 : decode cX1_copyFrom 75 = .ok (.aload_n 0, 1) := by decide +kernel
theorem dX1_copyFrom_76 : decode cX1_copyFrom 76 = .ok (.getfield 37, 3) := by decide +kernel
theorem dX1_copyFrom_79 : decode cX1_copyFrom 79 = .ok (.iconst 0, 1) := by decide +kernel
theorem dX1_copyFrom_80 : decode cX1_copyFrom 80 = .ok (.iconst 4, 1) := by decide +kernel
theorem dX1_copyFrom_81 : decode cX1_copyFrom 81 = .ok (.invokestatic 74, 3) := by decide +kernel
theorem dX1_copyFrom_84 : decode cX1_copyFrom 84 = .ok (.aload_n 1, 1) := by decide +kernel
theorem dX1_copyFrom_85 : decode cX1_copyFrom 85 = .ok (.getfield 40, 3) := by decide +kernel
theorem dX1_copyFrom_88 : decode cX1_copyFrom 88 = .ok (.iconst 0, 1) := by decide +kernel
theorem dX1_copyFrom_89 : decode cX1_copyFrom 89 = .ok (.aload_n 0, 1) := by decide +kernel
theorem dX1_copyFrom_90 : decode cX1_copyFrom 90 = .ok (.getfield 40, 3) := by decide +kernel
theorem dX1_copyFrom_93 : decode cX1_copyFrom 93 = .ok (.iconst 0, 1) := by decide +kernel
theorem dX1_copyFrom_94 : decode cX1_copyFrom 94 = .ok (.iconst 4, 1) := by decide +kernel
theorem dX1_copyFrom_95 : decode cX1_copyFrom 95 = .ok (.invokestatic 74, 3) := by decide +kernel
theorem dX1_copyFrom_98 : decode cX1_copyFrom 98 = .ok (.aload_n 1, 1) := by decide +kernel
theorem dX1_copyFrom_99 : decode cX1_copyFrom 99 = .ok (.getfield 43, 3) := by decide +kernel
theorem dX1_copyFrom_102 : decode cX1_copyFrom 102 = .ok (.iconst 0, 1) := by decide +kernel
theorem dX1_copyFrom_103 : decode cX1_copyFrom 103 = .ok (.aload_n 0, 1) := by decide +kernel
theorem dX1_copyFrom_104 : decode cX1_copyFrom 104 = .ok (.getfield 43, 3) := by decide +kernel
theorem dX1_copyFrom_107 : decode cX1_copyFrom 107 = .ok (.iconst 0, 1) := by decide +kernel
theorem dX1_copyFrom_108 : decode cX1_copyFrom 108 = .ok (.iconst 4, 1) := by decide +kernel
theorem dX1_copyFrom_109 : decode cX1_copyFrom 109 = .ok (.invokestatic 74, 3) := by decide +kernel
theorem dX1_copyFrom_112 : decode cX1_copyFrom 112 = .ok (.aload_n 1, 1) := by decide +kernel
theorem dX1_copyFrom_113 : decode cX1_copyFrom 113 = .ok (.getfield 46, 3) := by decide +kernel
theorem dX1_copyFrom_116 : decode cX1_copyFrom 116 = .ok (.iconst 0, 1) := by decide +kernel
theorem dX1_copyFrom_117 : decode cX1_copyFrom 117 = .ok (.aload_n 0, 1) := by decide +kernel
theorem dX1_copyFrom_118 : decode cX1_copyFrom 118 = .ok (.getfield 46, 3) := by decide +kernel
theorem dX1_copyFrom_121 : decode cX1_copyFrom 121 = .ok (.iconst 0, 1) := by decide +kernel
theorem dX1_copyFrom_122 : decode cX1_copyFrom 122 = .ok (.bipush 7, 2) := by decide +kernel
theorem dX1_copyFrom_124 : decode cX1_copyFrom 124 = .ok (.invokestatic 74, 3) := by decide +kernel
theorem dX1_copyFrom_127 : decode cX1_copyFrom 127 = .ok (.aload_n 1, 1) := by decide +kernel
theorem dX1_copyFrom_128 : decode cX1_copyFrom 128 = .ok (.getfield 49, 3) := by decide +kernel
theorem dX1_copyFrom_131 : decode cX1_copyFrom 131 = .ok (.iconst 0, 1) := by decide +kernel
theorem dX1_copyFrom_132 : decode cX1_copyFrom 132 = .ok (.aload_n 0, 1) := by decide +kernel
theorem dX1_copyFrom_133 : decode cX1_copyFrom 133 = .ok (.getfield 49, 3) := by decide +kernel
theorem dX1_copyFrom_136 : decode cX1_copyFrom 136 = .ok (.iconst 0, 1) := by decide +kernel
theorem dX1_copyFrom_137 : decode cX1_copyFrom 137 = .ok (.bipush 7, 2) := by decide +kernel
theorem dX1_copyFrom_139 : decode cX1_copyFrom 139 = .ok (.invokestatic 74, 3) := by decide +kernel
theorem dX1_copyFrom_142 : decode cX1_copyFrom 142 = .ok (.aload_n 1, 1) := by decide +kernel
theorem dX1_copyFrom_143 : decode cX1_copyFrom 143 = .ok (.getfield 52, 3) := by decide +kernel
theorem dX1_copyFrom_146 : decode cX1_copyFrom 146 = .ok (.iconst 0, 1) := by decide +kernel
theorem dX1_copyFrom_147 : decode cX1_copyFrom 147 = .ok (.aload_n 0, 1) := by decide +kernel
theorem dX1_copyFrom_148 : decode cX1_copyFrom 148 = .ok (.getfield 52, 3) := by decide +kernel
theorem dX1_copyFrom_151 : decode cX1_copyFrom 151 = .ok (.iconst 0, 1) := by decide +kernel
theorem dX1_copyFrom_152 : decode cX1_copyFrom 152 = .ok (.bipush 7, 2) := by decide +kernel
theorem dX1_copyFrom_154 : decode cX1_copyFrom 154 = .ok (.invokestatic 74, 3) := by decide +kernel
theorem dX1_copyFrom_157 : decode cX1_copyFrom 157 = .ok (.aload_n 1, 1) := by decide +kernel
theorem dX1_copyFrom_158 : decode cX1_copyFrom 158 = .ok (.getfield 55, 3) := by decide +kernel
theorem dX1_copyFrom_161 : decode cX1_copyFrom 161 = .ok (.iconst 0, 1) := by decide +kernel
theorem dX1_copyFrom_162 : decode cX1_copyFrom 162 = .ok (.aload_n 0, 1) := by decide +kernel
theorem dX1_copyFrom_163 : decode cX1_copyFrom 163 = .ok (.getfield 55, 3) := by decide +kernel
theorem dX1_copyFrom_166 : decode cX1_copyFrom 166 = .ok (.iconst 0, 1) := by decide +kernel
theorem dX1_copyFrom_167 : decode cX1_copyFrom 167 = .ok (.bipush 7, 2) := by decide +kernel
theorem dX1_copyFrom_169 : decode cX1_copyFrom 169 = .ok (.invokestatic 74, 3) := by decide +kernel
theorem dX1_copyFrom_172 : decode cX1_copyFrom 172 = .ok (.aload_n 1, 1) := by decide +kernel
theorem dX1_copyFrom_173 : decode cX1_copyFrom 173 = .ok (.getfield 58, 3) := by decide +kernel
theorem dX1_copyFrom_176 : decode cX1_copyFrom 176 = .ok (.iconst 0, 1) := by decide +kernel
theorem dX1_copyFrom_177 : decode cX1_copyFrom 177 = .ok (.aload_n 0, 1) := by decide +kernel
theorem dX1_copyFrom_178 : decode cX1_copyFrom 178 = .ok (.getfield 58, 3) := by decide +kernel
theorem dX1_copyFrom_181 : decode cX1_copyFrom 181 = .ok (.iconst 0, 1) := by decide +kernel
theorem dX1_copyFrom_182 : decode cX1_copyFrom 182 = .ok (.bipush 7, 2) := by decide +kernel
theorem dX1_copyFrom_184 : decode cX1_copyFrom 184 = .ok (.invokestatic 74, 3) := by decide +kernel
theorem dX1_copyFrom_187 : decode cX1_copyFrom 187 = .ok (.aload_n 1, 1) := by decide +kernel
theorem dX1_copyFrom_188 : decode cX1_copyFrom 188 = .ok (.getfield 61, 3) := by decide +kernel
theorem dX1_copyFrom_191 : decode cX1_copyFrom 191 = .ok (.iconst 0, 1) := by decide +kernel
theorem dX1_copyFrom_192 : decode cX1_copyFrom 192 = .ok (.aload_n 0, 1) := by decide +kernel
theorem dX1_copyFrom_193 : decode cX1_copyFrom 193 = .ok (.getfield 61, 3) := by decide +kernel
theorem dX1_copyFrom_196 : decode cX1_copyFrom 196 = .ok (.iconst 0, 1) := by decide +kernel
theorem dX1_copyFrom_197 : decode cX1_copyFrom 197 = .ok (.bipush 7, 2) := by decide +kernel
theorem dX1_copyFrom_199 : decode cX1_copyFrom 199 = .ok (.invokestatic 74, 3) := by decide +kernel
theorem dX1_copyFrom_202 : decode cX1_copyFrom 202 = .ok (.aload_n 0, 1) := by decide +kernel
theorem dX1_copyFrom_203 : decode cX1_copyFrom 203 = .ok (.getfield 67, 3) := by decide +kernel
theorem dX1_copyFrom_206 : decode cX1_copyFrom 206 = .ok (.aload_n 1, 1) := by decide +kernel
theorem dX1_copyFrom_207 : decode cX1_copyFrom 207 = .ok (.getfield 67, 3) := by decide +kernel
theorem dX1_copyFrom_210 : decode cX1_copyFrom 210 = .ok (.invokevirtual 80, 3) := by decide +kernel
theorem dX1_copyFrom_213 : decode cX1_copyFrom 213 = .ok (.return_, 1) := by decide +kernel
theorem dX1_addInk_0 : decode cX1_addInk 0 = .ok (.aload_n 0, 1) := by decide +kernel
theorem dX1_addInk_1 : decode cX1_addInk 1 = .ok (.getfield 24, 3) := by decide +kernel
theorem dX1_addInk_4 : decode cX1_addInk 4 = .ok (.iconst 4, 1) := by decide +kernel
theorem dX1_addInk_5 : decode cX1_addInk 5 = .ok (.if_icmp .ge 43, 3) := by decide +kernel
theorem dX1_addInk_8 : decode cX1_addInk 8 = .ok (.aload_n 0, 1) := by decide +kernel
theorem dX1_addInk_9 : decode cX1_addInk 9 = .ok (.getfield 33, 3) := by decide +kernel
theorem dX1_addInk_12 : decode cX1_addInk 12 = .ok (.aload_n 0, 1) := by decide +kernel
theorem dX1_addInk_13 : decode cX1_addInk 13 = .ok (.getfield 24, 3) := by decide +kernel
theorem dX1_addInk_16 : decode cX1_addInk 16 = .ok (.iload_n 1, 1) := by decide +kernel
theorem dX1_addInk_17 : decode cX1_addInk 17 = .ok (.iastore, 1) := by decide +kernel
theorem dX1_addInk_18 : decode cX1_addInk 18 = .ok (.aload_n 0, 1) := by decide +kernel
theorem dX1_addInk_19 : decode cX1_addInk 19 = .ok (.getfield 37, 3) := by decide +kernel
theorem dX1_addInk_22 : decode cX1_addInk 22 = .ok (.aload_n 0, 1) := by decide +kernel
theorem dX1_addInk_23 : decode cX1_addInk 23 = .ok (.getfield 24, 3) := by decide +kernel
theorem dX1_addInk_26 : decode cX1_addInk 26 = .ok (.iload_n 2, 1) := by decide +kernel
theorem dX1_addInk_27 : decode cX1_addInk 27 = .ok (.iastore, 1) := by decide +kernel
theorem dX1_addInk_28 : decode cX1_addInk 28 = .ok (.aload_n 0, 1) := by decide +kernel
theorem dX1_addInk_29 : decode cX1_addInk 29 = .ok (.getfield 40, 3) := by decide +kernel
theorem dX1_addInk_32 : decode cX1_addInk 32 = .ok (.aload_n 0, 1) := by decide +kernel
theorem dX1_addInk_33 : decode cX1_addInk 33 = .ok (.getfield 24, 3) := by decide +kernel
theorem dX1_addInk_36 : decode cX1_addInk 36 = .ok (.iload_n 3, 1) := by decide +kernel
theorem dX1_addInk_37 : decode cX1_addInk 37 = .ok (.iastore, 1) := by decide +kernel
theorem dX1_addInk_38 : decode cX1_addInk 38 = .ok (.aload_n 0, 1) := by decide +kernel
theorem dX1_addInk_39 : decode cX1_addInk 39 = .ok (.dup, 1) := by decide +kernel
theorem dX1_addInk_40 : decode cX1_addInk 40 = .ok (.getfield 24, 3) := by decide +kernel
theorem dX1_addInk_43 : decode cX1_addInk 43 = .ok (.iconst 1, 1) := by decide +kernel
theorem dX1_addInk_44 : decode cX1_addInk 44 = .ok (.iadd, 1) := by decide +kernel
theorem dX1_addInk_45 : decode cX1_addInk 45 = .ok (.putfield 24, 3) := by decide +kernel
theorem dX1_addInk_48 : decode cX1_addInk 48 = .ok (.return_, 1) := by decide +kernel
theorem dX1_addPage_0 : decode cX1_addPage 0 = .ok (.aload_n 0, 1) := by decide +kernel
theorem dX1_addPage_1 : decode cX1_addPage 1 = .ok (.getfield 27, 3) := by decide +kernel
theorem dX1_addPage_4 : decode cX1_addPage 4 = .ok (.iconst 4, 1) := by decide +kernel
theorem dX1_addPage_5 : decode cX1_addPage 5 = .ok (.if_icmp .ge 31, 3) := by decide +kernel
theorem dX1_addPage_8 : decode cX1_addPage 8 = .ok (.aload_n 0, 1) := by decide +kernel
theorem dX1_addPage_9 : decode cX1_addPage 9 = .ok (.getfield 43, 3) := by decide +kernel
theorem dX1_addPage_12 : decode cX1_addPage 12 = .ok (.aload_n 0, 1) := by decide +kernel
theorem dX1_addPage_13 : decode cX1_addPage 13 = .ok (.getfield 27, 3) := by decide +kernel
theorem dX1_addPage_16 : decode cX1_addPage 16 = .ok (.iload_n 1, 1) := by decide +kernel
theorem dX1_addPage_17 : decode cX1_addPage 17 = .ok (.ifCond .eq 7, 3) := by decide +kernel
theorem dX1_addPage_20 : decode cX1_addPage 20 = .ok (.iconst 1, 1) := by decide +kernel
theorem dX1_addPage_21 : decode cX1_addPage 21 = .ok (.goto 4, 3) := by decide +kernel
theorem dX1_addPage_24 : decode cX1_addPage 24 = .ok (.iconst 0, 1) := by decide +kernel
theorem dX1_addPage_25 : decode cX1_addPage 25 = .ok (.iastore, 1) := by decide +kernel
theorem dX1_addPage_26 : decode cX1_addPage 26 = .ok (.aload_n 0, 1) := by decide +kernel
theorem dX1_addPage_27 : decode cX1_addPage 27 = .ok (.dup, 1) := by decide +kernel
theorem dX1_addPage_28 : decode cX1_addPage 28 = .ok (.getfield 27, 3) := by decide +kernel
theorem dX1_addPage_31 : decode cX1_addPage 31 = .ok (.iconst 1, 1) := by decide +kernel
theorem dX1_addPage_32 : decode cX1_addPage 32 = .ok (.iadd, 1) := by decide +kernel
theorem dX1_addPage_33 : decode cX1_addPage 33 = .ok (.putfield 27, 3) := by decide +kernel
theorem dX1_addPage_36 : decode cX1_addPage 36 = .ok (.return_, 1) := by decide +kernel
theorem dX1_addEntry_0 : decode cX1_addEntry 0 = .ok (.aload_n 0, 1) := by decide +kernel
theorem dX1_addEntry_1 : decode cX1_addEntry 1 = .ok (.getfield 30, 3) := by decide +kernel
theorem dX1_addEntry_4 : decode cX1_addEntry 4 = .ok (.bipush 7, 2) := by decide +kernel
theorem dX1_addEntry_6 : decode cX1_addEntry 6 = .ok (.if_icmp .lt 4, 3) := by decide +kernel
theorem dX1_addEntry_9 : decode cX1_addEntry 9 = .ok (.return_, 1) := by decide +kernel
theorem dX1_addEntry_10 : decode cX1_addEntry 10 = .ok (.aload_n 0, 1) := by decide +kernel
theorem dX1_addEntry_11 : decode cX1_addEntry 11 = .ok (.getfield 46, 3) := by decide +kernel
theorem dX1_addEntry_14 : decode cX1_addEntry 14 = .ok (.aload_n 0, 1) := by decide +kernel
theorem dX1_addEntry_15 : decode cX1_addEntry 15 = .ok (.getfield 30, 3) := by decide +kernel
theorem dX1_addEntry_18 : decode cX1_addEntry 18 = .ok (.iload_n 1, 1) := by decide +kernel
theorem dX1_addEntry_19 : decode cX1_addEntry 19 = .ok (.iastore, 1) := by decide +kernel
theorem dX1_addEntry_20 : decode cX1_addEntry 20 = .ok (.aload_n 0, 1) := by decide +kernel
theorem dX1_addEntry_21 : decode cX1_addEntry 21 = .ok (.getfield 49, 3) := by decide +kernel
theorem dX1_addEntry_24 : decode cX1_addEntry 24 = .ok (.aload_n 0, 1) := by decide +kernel
theorem dX1_addEntry_25 : decode cX1_addEntry 25 = .ok (.getfield 30, 3) := by decide +kernel
theorem dX1_addEntry_28 : decode cX1_addEntry 28 = .ok (.iload_n 2, 1) := by decide +kernel
theorem dX1_addEntry_29 : decode cX1_addEntry 29 = .ok (.iastore, 1) := by decide +kernel
theorem dX1_addEntry_30 : decode cX1_addEntry 30 = .ok (.aload_n 0, 1) := by decide +kernel
theorem dX1_addEntry_31 : decode cX1_addEntry 31 = .ok (.getfield 52, 3) := by decide +kernel
theorem dX1_addEntry_34 : decode cX1_addEntry 34 = .ok (.aload_n 0, 1) := by decide +kernel
theorem dX1_addEntry_35 : decode cX1_addEntry 35 = .ok (.getfield 30, 3) := by decide +kernel
theorem dX1_addEntry_38 : decode cX1_addEntry 38 = .ok (.iload_n 3, 1) := by decide +kernel
theorem dX1_addEntry_39 : decode cX1_addEntry 39 = .ok (.iastore, 1) := by decide +kernel
theorem dX1_addEntry_40 : decode cX1_addEntry 40 = .ok (.aload_n 0, 1) := by decide +kernel
theorem dX1_addEntry_41 : decode cX1_addEntry 41 = .ok (.getfield 55, 3) := by decide +kernel
theorem dX1_addEntry_44 : decode cX1_addEntry 44 = .ok (.aload_n 0, 1) := by decide +kernel
theorem dX1_addEntry_45 : decode cX1_addEntry 45 = .ok (.getfield 30, 3) := by decide +kernel
theorem dX1_addEntry_48 : decode cX1_addEntry 48 = .ok (.iload 4, 2) := by decide +kernel
theorem dX1_addEntry_50 : decode cX1_addEntry 50 = .ok (.iastore, 1) := by decide +kernel
theorem dX1_addEntry_51 : decode cX1_addEntry 51 = .ok (.aload_n 0, 1) := by decide +kernel
theorem dX1_addEntry_52 : decode cX1_addEntry 52 = .ok (.invokevirtual 84, 3) := by decide +kernel
theorem dX1_addEntry_55 : decode cX1_addEntry 55 = .ok (.aload_n 0, 1) := by decide +kernel
theorem dX1_addEntry_56 : decode cX1_addEntry 56 = .ok (.dup, 1) := by decide +kernel
theorem dX1_addEntry_57 : decode cX1_addEntry 57 = .ok (.getfield 30, 3) := by decide +kernel
theorem dX1_addEntry_60 : decode cX1_addEntry 60 = .ok (.iconst 1, 1) := by decide +kernel
theorem dX1_addEntry_61 : decode cX1_addEntry 61 = .ok (.iadd, 1) := by decide +kernel
theorem dX1_addEntry_62 : decode cX1_addEntry 62 = .ok (.putfield 30, 3) := by decide +kernel
theorem dX1_addEntry_65 : decode cX1_addEntry 65 = .ok (.return_, 1) := by decide +kernel
theorem dX1_placeLast_0 : decode cX1_placeLast 0 = .ok (.iconst 0, 1) := by decide +kernel
theorem dX1_placeLast_1 : decode cX1_placeLast 1 = .ok (.istore_n 1, 1) := by decide +kernel
theorem dX1_placeLast_2 : decode cX1_placeLast 2 = .ok (.iconst 0, 1) := by decide +kernel
theorem dX1_placeLast_3 : decode cX1_placeLast 3 = .ok (.istore_n 2, 1) := by decide +kernel
theorem dX1_placeLast_4 : decode cX1_placeLast 4 = .ok (.iload_n 2, 1) := by decide +kernel
theorem dX1_placeLast_5 : decode cX1_placeLast 5 = .ok (.aload_n 0, 1) := by decide +kernel
theorem dX1_placeLast_6 : decode cX1_placeLast 6 = .ok (.getfield 30, 3) := by decide +kernel
theorem dX1_placeLast_9 : decode cX1_placeLast 9 = .ok (.if_icmp .ge 30, 3) := by decide +kernel
theorem dX1_placeLast_12 : decode cX1_placeLast 12 = .ok (.aload_n 0, 1) := by decide +kernel
theorem dX1_placeLast_13 : decode cX1_placeLast 13 = .ok (.getfield 46, 3) := by decide +kernel
theorem dX1_placeLast_16 : decode cX1_placeLast 16 = .ok (.iload_n 2, 1) := by decide +kernel
theorem dX1_placeLast_17 : decode cX1_placeLast 17 = .ok (.iaload, 1) := by decide +kernel
theorem dX1_placeLast_18 : decode cX1_placeLast 18 = .ok (.aload_n 0, 1) := by decide +kernel
theorem dX1_placeLast_19 : decode cX1_placeLast 19 = .ok (.getfield 46, 3) := by decide +kernel
theorem dX1_placeLast_22 : decode cX1_placeLast 22 = .ok (.aload_n 0, 1) := by decide +kernel
theorem dX1_placeLast_23 : decode cX1_placeLast 23 = .ok (.getfield 30, 3) := by decide +kernel
theorem dX1_placeLast_26 : decode cX1_placeLast 26 = .ok (.iaload, 1) := by decide +kernel
theorem dX1_placeLast_27 : decode cX1_placeLast 27 = .ok (.if_icmp .ne 6, 3) := by decide +kernel
theorem dX1_placeLast_30 : decode cX1_placeLast 30 = .ok (.iinc 1 1, 3) := by decide +kernel
theorem dX1_placeLast_33 : decode cX1_placeLast 33 = .ok (.iinc 2 1, 3) := by decide +kernel
theorem dX1_placeLast_36 : decode cX1_placeLast 36 = .ok (.goto (-32), 3) := by decide +kernel
theorem dX1_placeLast_39 : decode cX1_placeLast 39 = .ok (.aload_n 0, 1) := by decide +kernel
theorem dX1_placeLast_40 : decode cX1_placeLast 40 = .ok (.getfield 58, 3) := by decide +kernel
theorem dX1_placeLast_43 : decode cX1_placeLast 43 = .ok (.aload_n 0, 1) := by decide +kernel
theorem dX1_placeLast_44 : decode cX1_placeLast 44 = .ok (.getfield 30, 3) := by decide +kernel
theorem dX1_placeLast_47 : decode cX1_placeLast 47 = .ok (.iload_n 1, 1) := by decide +kernel
theorem dX1_placeLast_48 : decode cX1_placeLast 48 = .ok (.iastore, 1) := by decide +kernel
theorem dX1_placeLast_49 : decode cX1_placeLast 49 = .ok (.aload_n 0, 1) := by decide +kernel
theorem dX1_placeLast_50 : decode cX1_placeLast 50 = .ok (.getfield 61, 3) := by decide +kernel
theorem dX1_placeLast_53 : decode cX1_placeLast 53 = .ok (.aload_n 0, 1) := by decide +kernel
theorem dX1_placeLast_54 : decode cX1_placeLast 54 = .ok (.getfield 30, 3) := by decide +kernel
theorem dX1_placeLast_57 : decode cX1_placeLast 57 = .ok (.iconst (-1), 1) := by decide +kernel
theorem dX1_placeLast_58 : decode cX1_placeLast 58 = .ok (.iastore, 1) := by decide +kernel
theorem dX1_placeLast_59 : decode cX1_placeLast 59 = .ok (.iconst 0, 1) := by decide +kernel
theorem dX1_placeLast_60 : decode cX1_placeLast 60 = .ok (.istore_n 2, 1) := by decide +kernel
theorem dX1_placeLast_61 : decode cX1_placeLast 61 = .ok (.iload_n 2, 1) := by decide +kernel
theorem dX1_placeLast_62 : decode cX1_placeLast 62 = .ok (.aload_n 0, 1) := by decide +kernel
theorem dX1_placeLast_63 : decode cX1_placeLast 63 = .ok (.getfield 30, 3) := by decide +kernel
theorem dX1_placeLast_66 : decode cX1_placeLast 66 = .ok (.if_icmp .ge 59, 3) := by decide +kernel
theorem dX1_placeLast_69 : decode cX1_placeLast 69 = .ok (.aload_n 0, 1) := by decide +kernel
theorem dX1_placeLast_70 : decode cX1_placeLast 70 = .ok (.getfield 46, 3) := by decide +kernel
theorem dX1_placeLast_73 : decode cX1_placeLast 73 = .ok (.iload_n 2, 1) := by decide +kernel
theorem dX1_placeLast_74 : decode cX1_placeLast 74 = .ok (.iaload, 1) := by decide +kernel
theorem dX1_placeLast_75 : decode cX1_placeLast 75 = .ok (.aload_n 0, 1) := by decide +kernel
theorem dX1_placeLast_76 : decode cX1_placeLast 76 = .ok (.getfield 46, 3) := by decide +kernel
theorem dX1_placeLast_79 : decode cX1_placeLast 79 = .ok (.aload_n 0, 1) := by decide +kernel
theorem dX1_placeLast_80 : decode cX1_placeLast 80 = .ok (.getfield 30, 3) := by decide +kernel
theorem dX1_placeLast_83 : decode cX1_placeLast 83 = .ok (.iaload, 1) := by decide +kernel
theorem dX1_placeLast_84 : decode cX1_placeLast 84 = .ok (.iconst 1, 1) := by decide +kernel
theorem dX1_placeLast_85 : decode cX1_placeLast 85 = .ok (.ixor, 1) := by decide +kernel
theorem dX1_placeLast_86 : decode cX1_placeLast 86 = .ok (.if_icmp .ne 33, 3) := by decide +kernel
theorem dX1_placeLast_89 : decode cX1_placeLast 89 = .ok (.aload_n 0, 1) := by decide +kernel
theorem dX1_placeLast_90 : decode cX1_placeLast 90 = .ok (.getfield 58, 3) := by decide +kernel
theorem dX1_placeLast_93 : decode cX1_placeLast 93 = .ok (.iload_n 2, 1) := by decide +kernel
theorem dX1_placeLast_94 : decode cX1_placeLast 94 = .ok (.iaload, 1) := by decide +kernel
theorem dX1_placeLast_95 : decode cX1_placeLast 95 = .ok (.iload_n 1, 1) := by decide +kernel
theorem dX1_placeLast_96 : decode cX1_placeLast 96 = .ok (.if_icmp .ne 23, 3) := by decide +kernel
theorem dX1_placeLast_99 : decode cX1_placeLast 99 = .ok (.aload_n 0, 1) := by decide +kernel
theorem dX1_placeLast_100 : decode cX1_placeLast 100 = .ok (.getfield 61, 3) := by decide +kernel
theorem dX1_placeLast_103 : decode cX1_placeLast 103 = .ok (.aload_n 0, 1) := by decide +kernel
theorem dX1_placeLast_104 : decode cX1_placeLast 104 = .ok (.getfield 30, 3) := by decide +kernel
theorem dX1_placeLast_107 : decode cX1_placeLast 107 = .ok (.iload_n 2, 1) := by decide +kernel
theorem dX1_placeLast_108 : decode cX1_placeLast 108 = .ok (.iastore, 1) := by decide +kernel
theorem dX1_placeLast_109 : decode cX1_placeLast 109 = .ok (.aload_n 0, 1) := by decide +kernel
theorem dX1_placeLast_110 : decode cX1_placeLast 110 = .ok (.getfield 61, 3) := by decide +kernel
theorem dX1_placeLast_113 : decode cX1_placeLast 113 = .ok (.iload_n 2, 1) := by decide +kernel
theorem dX1_placeLast_114 : decode cX1_placeLast 114 = .ok (.aload_n 0, 1) := by decide +kernel
theorem dX1_placeLast_115 : decode cX1_placeLast 115 = .ok (.getfield 30, 3) := by decide +kernel
theorem dX1_placeLast_118 : decode cX1_placeLast 118 = .ok (.iastore, 1) := by decide +kernel
theorem dX1_placeLast_119 : decode cX1_placeLast 119 = .ok (.iinc 2 1, 3) := by decide +kernel
theorem dX1_placeLast_122 : decode cX1_placeLast 122 = .ok (.goto (-61), 3) := by decide +kernel
theorem dX1_placeLast_125 : decode cX1_placeLast 125 = .ok (.return_, 1) := by decide +kernel
theorem dX1_isThere_0 : decode cX1_isThere 0 = .ok (.aload_n 0, 1) := by decide +kernel
theorem dX1_isThere_1 : decode cX1_isThere 1 = .ok (.getfield 52, 3) := by decide +kernel
theorem dX1_isThere_4 : decode cX1_isThere 4 = .ok (.iload_n 1, 1) := by decide +kernel
theorem dX1_isThere_5 : decode cX1_isThere 5 = .ok (.iaload, 1) := by decide +kernel
theorem dX1_isThere_6 : decode cX1_isThere 6 = .ok (.iload_n 2, 1) := by decide +kernel
theorem dX1_isThere_7 : decode cX1_isThere 7 = .ok (.if_icmp .gt 7, 3) := by decide +kernel
theorem dX1_isThere_10 : decode cX1_isThere 10 = .ok (.iconst 1, 1) := by decide +kernel
theorem dX1_isThere_11 : decode cX1_isThere 11 = .ok (.goto 4, 3) := by decide +kernel
theorem dX1_isThere_14 : decode cX1_isThere 14 = .ok (.iconst 0, 1) := by decide +kernel
theorem dX1_isThere_15 : decode cX1_isThere 15 = .ok (.ireturn, 1) := by decide +kernel
theorem dX1_risen_0 : decode cX1_risen 0 = .ok (.iload_n 1, 1) := by decide +kernel
theorem dX1_risen_1 : decode cX1_risen 1 = .ok (.aload_n 0, 1) := by decide +kernel
theorem dX1_risen_2 : decode cX1_risen 2 = .ok (.getfield 33, 3) := by decide +kernel
theorem dX1_risen_5 : decode cX1_risen 5 = .ok (.iload_n 2, 1) := by decide +kernel
theorem dX1_risen_6 : decode cX1_risen 6 = .ok (.iaload, 1) := by decide +kernel
theorem dX1_risen_7 : decode cX1_risen 7 = .ok (.iadd, 1) := by decide +kernel
theorem dX1_risen_8 : decode cX1_risen 8 = .ok (.aload_n 0, 1) := by decide +kernel
theorem dX1_risen_9 : decode cX1_risen 9 = .ok (.getfield 37, 3) := by decide +kernel
theorem dX1_risen_12 : decode cX1_risen 12 = .ok (.iload_n 2, 1) := by decide +kernel
theorem dX1_risen_13 : decode cX1_risen 13 = .ok (.iaload, 1) := by decide +kernel
theorem dX1_risen_14 : decode cX1_risen 14 = .ok (.invokestatic 87, 3) := by decide +kernel
theorem dX1_risen_17 : decode cX1_risen 17 = .ok (.ireturn, 1) := by decide +kernel
theorem dX1_loss_0 : decode cX1_loss 0 = .ok (.aload_n 0, 1) := by decide +kernel
theorem dX1_loss_1 : decode cX1_loss 1 = .ok (.getfield 18, 3) := by decide +kernel
theorem dX1_loss_4 : decode cX1_loss 4 = .ok (.iconst 3, 1) := by decide +kernel
theorem dX1_loss_5 : decode cX1_loss 5 = .ok (.if_icmp .ne 12, 3) := by decide +kernel
theorem dX1_loss_8 : decode cX1_loss 8 = .ok (.iload_n 3, 1) := by decide +kernel
theorem dX1_loss_9 : decode cX1_loss 9 = .ok (.iconst 2, 1) := by decide +kernel
theorem dX1_loss_10 : decode cX1_loss 10 = .ok (.irem, 1) := by decide +kernel
theorem dX1_loss_11 : decode cX1_loss 11 = .ok (.iconst 1, 1) := by decide +kernel
theorem dX1_loss_12 : decode cX1_loss 12 = .ok (.if_icmp .ne 5, 3) := by decide +kernel
theorem dX1_loss_15 : decode cX1_loss 15 = .ok (.iconst 0, 1) := by decide +kernel
theorem dX1_loss_16 : decode cX1_loss 16 = .ok (.ireturn, 1) := by decide +kernel
theorem dX1_loss_17 : decode cX1_loss 17 = .ok (.aload_n 0, 1) := by decide +kernel
theorem dX1_loss_18 : decode cX1_loss 18 = .ok (.getfield 40, 3) := by decide +kernel
theorem dX1_loss_21 : decode cX1_loss 21 = .ok (.iload_n 1, 1) := by decide +kernel
theorem dX1_loss_22 : decode cX1_loss 22 = .ok (.iaload, 1) := by decide +kernel
theorem dX1_loss_23 : decode cX1_loss 23 = .ok (.istore 5, 2) := by decide +kernel
theorem dX1_loss_25 : decode cX1_loss 25 = .ok (.aload_n 0, 1) := by decide +kernel
theorem dX1_loss_26 : decode cX1_loss 26 = .ok (.getfield 18, 3) := by decide +kernel
theorem dX1_loss_29 : decode cX1_loss 29 = .ok (.iconst 1, 1) := by decide +kernel
theorem dX1_loss_30 : decode cX1_loss 30 = .ok (.if_icmp .ne 19, 3) := by decide +kernel
theorem dX1_loss_33 : decode cX1_loss 33 = .ok (.aload_n 0, 1) := by decide +kernel
theorem dX1_loss_34 : decode cX1_loss 34 = .ok (.getfield 43, 3) := by decide +kernel
theorem dX1_loss_37 : decode cX1_loss 37 = .ok (.iload_n 2, 1) := by decide +kernel
theorem dX1_loss_38 : decode cX1_loss 38 = .ok (.iaload, 1) := by decide +kernel
theorem dX1_loss_39 : decode cX1_loss 39 = .ok (.iconst 1, 1) := by decide +kernel
theorem dX1_loss_40 : decode cX1_loss 40 = .ok (.if_icmp .ne 9, 3) := by decide +kernel
theorem dX1_loss_43 : decode cX1_loss 43 = .ok (.iload 5, 2) := by decide +kernel
theorem dX1_loss_45 : decode cX1_loss 45 = .ok (.iconst 2, 1) := by decide +kernel
theorem dX1_loss_46 : decode cX1_loss 46 = .ok (.imul, 1) := by decide +kernel
theorem dX1_loss_47 : decode cX1_loss 47 = .ok (.istore 5, 2) := by decide +kernel
theorem dX1_loss_49 : decode cX1_loss 49 = .ok (.iload 4, 2) := by decide +kernel
theorem dX1_loss_51 : decode cX1_loss 51 = .ok (.ifCond .eq 10, 3) := by decide +kernel
theorem dX1_loss_54 : decode cX1_loss 54 = .ok (.iload 5, 2) := by decide +kernel
theorem dX1_loss_56 : decode cX1_loss 56 = .ok (.iconst 2, 1) := by decide +kernel
theorem dX1_loss_57 : decode cX1_loss 57 = .ok (.iadd, 1) := by decide +kernel
theorem dX1_loss_58 : decode cX1_loss 58 = .ok (.goto 5, 3) := by decide +kernel
theorem dX1_loss_61 : decode cX1_loss 61 = .ok (.iload 5, 2) := by decide +kernel
theorem dX1_loss_63 : decode cX1_loss 63 = .ok (.ireturn, 1) := by decide +kernel
theorem dX1_lone_0 : decode cX1_lone 0 = .ok (.iload 4, 2) := by decide +kernel
theorem dX1_lone_2 : decode cX1_lone 2 = .ok (.iload_n 3, 1) := by decide +kernel
theorem dX1_lone_3 : decode cX1_lone 3 = .ok (.if_icmp .ge 5, 3) := by decide +kernel
theorem dX1_lone_6 : decode cX1_lone 6 = .ok (.iconst 0, 1) := by decide +kernel
theorem dX1_lone_7 : decode cX1_lone 7 = .ok (.ireturn, 1) := by decide +kernel
theorem dX1_lone_8 : decode cX1_lone 8 = .ok (.aload_n 0, 1) := by decide +kernel
theorem dX1_lone_9 : decode cX1_lone 9 = .ok (.iconst 0, 1) := by decide +kernel
theorem dX1_lone_10 : decode cX1_lone 10 = .ok (.iload_n 1, 1) := by decide +kernel
theorem dX1_lone_11 : decode cX1_lone 11 = .ok (.invokevirtual 93, 3) := by decide +kernel
theorem dX1_lone_14 : decode cX1_lone 14 = .ok (.istore 5, 2) := by decide +kernel
theorem dX1_lone_16 : decode cX1_lone 16 = .ok (.iload 5, 2) := by decide +kernel
theorem dX1_lone_18 : decode cX1_lone 18 = .ok (.aload_n 0, 1) := by decide +kernel
theorem dX1_lone_19 : decode cX1_lone 19 = .ok (.getfield 37, 3) := by decide +kernel
theorem dX1_lone_22 : decode cX1_lone 22 = .ok (.iload_n 1, 1) := by decide +kernel
theorem dX1_lone_23 : decode cX1_lone 23 = .ok (.iaload, 1) := by decide +kernel
theorem dX1_lone_24 : decode cX1_lone 24 = .ok (.if_icmp .ge 7, 3) := by decide +kernel
theorem dX1_lone_27 : decode cX1_lone 27 = .ok (.iconst 1, 1) := by decide +kernel
theorem dX1_lone_28 : decode cX1_lone 28 = .ok (.goto 4, 3) := by decide +kernel
theorem dX1_lone_31 : decode cX1_lone 31 = .ok (.iconst 0, 1) := by decide +kernel
theorem dX1_lone_32 : decode cX1_lone 32 = .ok (.istore 6, 2) := by decide +kernel
theorem dX1_lone_34 : decode cX1_lone 34 = .ok (.iload_n 3, 1) := by decide +kernel
theorem dX1_lone_35 : decode cX1_lone 35 = .ok (.iconst 1, 1) := by decide +kernel
theorem dX1_lone_36 : decode cX1_lone 36 = .ok (.iadd, 1) := by decide +kernel
theorem dX1_lone_37 : decode cX1_lone 37 = .ok (.istore 7, 2) := by decide +kernel
theorem dX1_lone_39 : decode cX1_lone 39 = .ok (.iload 7, 2) := by decide +kernel
theorem dX1_lone_41 : decode cX1_lone 41 = .ok (.iload 4, 2) := by decide +kernel
theorem dX1_lone_43 : decode cX1_lone 43 = .ok (.if_icmp .gt 62, 3) := by decide +kernel
theorem dX1_lone_46 : decode cX1_lone 46 = .ok (.iload 6, 2) := by decide +kernel
theorem dX1_lone_48 : decode cX1_lone 48 = .ok (.ifCond .eq 33, 3) := by decide +kernel
theorem dX1_lone_51 : decode cX1_lone 51 = .ok (.aload_n 0, 1) := by decide +kernel
theorem dX1_lone_52 : decode cX1_lone 52 = .ok (.iload 5, 2) := by decide +kernel
theorem dX1_lone_54 : decode cX1_lone 54 = .ok (.iload_n 1, 1) := by decide +kernel
theorem dX1_lone_55 : decode cX1_lone 55 = .ok (.invokevirtual 93, 3) := by decide +kernel
theorem dX1_lone_58 : decode cX1_lone 58 = .ok (.istore 5, 2) := by decide +kernel
theorem dX1_lone_60 : decode cX1_lone 60 = .ok (.iload 5, 2) := by decide +kernel
theorem dX1_lone_62 : decode cX1_lone 62 = .ok (.aload_n 0, 1) := by decide +kernel
theorem dX1_lone_63 : decode cX1_lone 63 = .ok (.getfield 37, 3) := by decide +kernel
theorem dX1_lone_66 : decode cX1_lone 66 = .ok (.iload_n 1, 1) := by decide +kernel
theorem dX1_lone_67 : decode cX1_lone 67 = .ok (.iaload, 1) := by decide +kernel
theorem dX1_lone_68 : decode cX1_lone 68 = .ok (.if_icmp .ge 7, 3) := by decide +kernel
theorem dX1_lone_71 : decode cX1_lone 71 = .ok (.iconst 1, 1) := by decide +kernel
theorem dX1_lone_72 : decode cX1_lone 72 = .ok (.goto 4, 3) := by decide +kernel
theorem dX1_lone_75 : decode cX1_lone 75 = .ok (.iconst 0, 1) := by decide +kernel
theorem dX1_lone_76 : decode cX1_lone 76 = .ok (.istore 6, 2) := by decide +kernel
theorem dX1_lone_78 : decode cX1_lone 78 = .ok (.goto 21, 3) := by decide +kernel
theorem dX1_lone_81 : decode cX1_lone 81 = .ok (.iconst 0, 1) := by decide +kernel
theorem dX1_lone_82 : decode cX1_lone 82 = .ok (.iload 5, 2) := by decide +kernel
theorem dX1_lone_84 : decode cX1_lone 84 = .ok (.aload_n 0, 1) := by decide +kernel
theorem dX1_lone_85 : decode cX1_lone 85 = .ok (.iload_n 1, 1) := by decide +kernel
theorem dX1_lone_86 : decode cX1_lone 86 = .ok (.iload_n 2, 1) := by decide +kernel
theorem dX1_lone_87 : decode cX1_lone 87 = .ok (.iload 7, 2) := by decide +kernel
theorem dX1_lone_89 : decode cX1_lone 89 = .ok (.iconst 0, 1) := by decide +kernel
theorem dX1_lone_90 : decode cX1_lone 90 = .ok (.invokevirtual 96, 3) := by decide +kernel
theorem dX1_lone_93 : decode cX1_lone 93 = .ok (.isub, 1) := by decide +kernel
theorem dX1_lone_94 : decode cX1_lone 94 = .ok (.invokestatic 100, 3) := by decide +kernel
theorem dX1_lone_97 : decode cX1_lone 97 = .ok (.istore 5, 2) := by decide +kernel
theorem dX1_lone_99 : decode cX1_lone 99 = .ok (.iinc 7 1, 3) := by decide +kernel
theorem dX1_lone_102 : decode cX1_lone 102 = .ok (.goto (-63), 3) := by decide +kernel
theorem dX1_lone_105 : decode cX1_lone 105 = .ok (.iload 5, 2) := by decide +kernel
theorem dX1_lone_107 : decode cX1_lone 107 = .ok (.ireturn, 1) := by decide +kernel
theorem dX2_init_0 : decode cX2_init 0 = .ok (.aload_n 0, 1) := by decide +kernel
theorem dX2_init_1 : decode cX2_init 1 = .ok (.invokespecial 3, 3) := by decide +kernel
theorem dX2_init_4 : decode cX2_init 4 = .ok (.aload_n 0, 1) := by decide +kernel
theorem dX2_init_5 : decode cX2_init 5 = .ok (.bipush 21, 2) := by decide +kernel
theorem dX2_init_7 : decode cX2_init 7 = .ok (.bipush 7, 2) := by decide +kernel
theorem dX2_init_9 : decode cX2_init 9 = .ok (.multianewarray 9 2, 4) := by decide +kernel
theorem dX2_init_13 : decode cX2_init 13 = .ok (.putfield 11, 3) := by decide +kernel
theorem dX2_init_16 : decode cX2_init 16 = .ok (.aload_n 0, 1) := by decide +kernel
theorem dX2_init_17 : decode cX2_init 17 = .ok (.bipush 21, 2) := by decide +kernel
theorem dX2_init_19 : decode cX2_init 19 = .ok (.bipush 7, 2) := by decide +kernel
theorem dX2_init_21 : decode cX2_init 21 = .ok (.multianewarray 9 2, 4) := by decide +kernel
theorem dX2_init_25 : decode cX2_init 25 = .ok (.putfield 16, 3) := by decide +kernel
theorem dX2_init_28 : decode cX2_init 28 = .ok (.aload_n 0, 1) := by decide +kernel
theorem dX2_init_29 : decode cX2_init 29 = .ok (.bipush 21, 2) := by decide +kernel
theorem dX2_init_31 : decode cX2_init 31 = .ok (.newarray .int, 2) := by decide +kernel
theorem dX2_init_33 : decode cX2_init 33 = .ok (.putfield 19, 3) := by decide +kernel
theorem dX2_init_36 : decode cX2_init 36 = .ok (.return_, 1) := by decide +kernel
theorem dX2_follow_0 : decode cX2_follow 0 = .ok (.iconst 0, 1) := by decide +kernel
theorem dX2_follow_1 : decode cX2_follow 1 = .ok (.istore_n 3, 1) := by decide +kernel
theorem dX2_follow_2 : decode cX2_follow 2 = .ok (.iload_n 3, 1) := by decide +kernel
theorem dX2_follow_3 : decode cX2_follow 3 = .ok (.aload_n 1, 1) := by decide +kernel
theorem dX2_follow_4 : decode cX2_follow 4 = .ok (.getfield 23, 3) := by decide +kernel
theorem dX2_follow_7 : decode cX2_follow 7 = .ok (.if_icmp .gt 34, 3) := by decide +kernel
theorem dX2_follow_10 : decode cX2_follow 10 = .ok (.aload_n 0, 1) := by decide +kernel
theorem dX2_follow_11 : decode cX2_follow 11 = .ok (.aload_n 1, 1) := by decide +kernel
theorem dX2_follow_12 : decode cX2_follow 12 = .ok (.iload_n 3, 1) := by decide +kernel
theorem dX2_follow_13 : decode cX2_follow 13 = .ok (.iload_n 3, 1) := by decide +kernel
theorem dX2_follow_14 : decode cX2_follow 14 = .ok (.ifCond .le 17, 3) := by decide +kernel
theorem dX2_follow_17 : decode cX2_follow 17 = .ok (.iload_n 2, 1) := by decide +kernel
theorem dX2_follow_18 : decode cX2_follow 18 = .ok (.iload_n 3, 1) := by decide +kernel
theorem dX2_follow_19 : decode cX2_follow 19 = .ok (.iconst 1, 1) := by decide +kernel
theorem dX2_follow_20 : decode cX2_follow 20 = .ok (.isub, 1) := by decide +kernel
theorem dX2_follow_21 : decode cX2_follow 21 = .ok (.invokestatic 29, 3) := by decide +kernel
theorem dX2_follow_24 : decode cX2_follow 24 = .ok (.ifCond .eq 7, 3) := by decide +kernel
theorem dX2_follow_27 : decode cX2_follow 27 = .ok (.iconst 1, 1) := by decide +kernel
theorem dX2_follow_28 : decode cX2_follow 28 = .ok (.goto 4, 3) := by decide +kernel
theorem dX2_follow_31 : decode cX2_follow 31 = .ok (.iconst 0, 1) := by decide +kernel
theorem dX2_follow_32 : decode cX2_follow 32 = .ok (.invokevirtual 33, 3) := by decide +kernel
theorem dX2_follow_35 : decode cX2_follow 35 = .ok (.iinc 3 1, 3) := by decide +kernel
theorem dX2_follow_38 : decode cX2_follow 38 = .ok (.goto (-36), 3) := by decide +kernel
theorem dX2_follow_41 : decode cX2_follow 41 = .ok (.return_, 1) := by decide +kernel
theorem dX2_pass_0 : decode cX2_pass 0 = .ok (.aload_n 0, 1) := by decide +kernel
theorem dX2_pass_1 : decode cX2_pass 1 = .ok (.getfield 19, 3) := by decide +kernel
theorem dX2_pass_4 : decode cX2_pass 4 = .ok (.iload_n 2, 1) := by decide +kernel
theorem dX2_pass_5 : decode cX2_pass 5 = .ok (.iconst 0, 1) := by decide +kernel
theorem dX2_pass_6 : decode cX2_pass 6 = .ok (.iastore, 1) := by decide +kernel
theorem dX2_pass_7 : decode cX2_pass 7 = .ok (.iconst 0, 1) := by decide +kernel
theorem dX2_pass_8 : decode cX2_pass 8 = .ok (.istore 4, 2) := by decide +kernel
theorem dX2_pass_10 : decode cX2_pass 10 = .ok (.iload 4, 2) := by decide +kernel
theorem dX2_pass_12 : decode cX2_pass 12 = .ok (.aload_n 1, 1) := by decide +kernel
theorem dX2_pass_13 : decode cX2_pass 13 = .ok (.getfield 37, 3) := by decide +kernel
theorem dX2_pass_16 : decode cX2_pass 16 = .ok (.if_icmp .ge 75, 3) := by decide +kernel
theorem dX2_pass_19 : decode cX2_pass 19 = .ok (.aload_n 1, 1) := by decide +kernel
theorem dX2_pass_20 : decode cX2_pass 20 = .ok (.getfield 40, 3) := by decide +kernel
theorem dX2_pass_23 : decode cX2_pass 23 = .ok (.iload 4, 2) := by decide +kernel
theorem dX2_pass_25 : decode cX2_pass 25 = .ok (.iaload, 1) := by decide +kernel
theorem dX2_pass_26 : decode cX2_pass 26 = .ok (.iload_n 2, 1) := by decide +kernel
theorem dX2_pass_27 : decode cX2_pass 27 = .ok (.if_icmp .ne 21, 3) := by decide +kernel
theorem dX2_pass_30 : decode cX2_pass 30 = .ok (.aload_n 0, 1) := by decide +kernel
theorem dX2_pass_31 : decode cX2_pass 31 = .ok (.aload_n 1, 1) := by decide +kernel
theorem dX2_pass_32 : decode cX2_pass 32 = .ok (.iload 4, 2) := by decide +kernel
theorem dX2_pass_34 : decode cX2_pass 34 = .ok (.aload_n 1, 1) := by decide +kernel
theorem dX2_pass_35 : decode cX2_pass 35 = .ok (.getfield 43, 3) := by decide +kernel
theorem dX2_pass_38 : decode cX2_pass 38 = .ok (.iload 4, 2) := by decide +kernel
theorem dX2_pass_40 : decode cX2_pass 40 = .ok (.iaload, 1) := by decide +kernel
theorem dX2_pass_41 : decode cX2_pass 41 = .ok (.iload_n 2, 1) := by decide +kernel
theorem dX2_pass_42 : decode cX2_pass 42 = .ok (.invokevirtual 45, 3) := by decide +kernel
theorem dX2_pass_45 : decode cX2_pass 45 = .ok (.goto 40, 3) := by decide +kernel
theorem dX2_pass_48 : decode cX2_pass 48 = .ok (.aload_n 1, 1) := by decide +kernel
theorem dX2_pass_49 : decode cX2_pass 49 = .ok (.getfield 40, 3) := by decide +kernel
theorem dX2_pass_52 : decode cX2_pass 52 = .ok (.iload 4, 2) := by decide +kernel
theorem dX2_pass_54 : decode cX2_pass 54 = .ok (.iaload, 1) := by decide +kernel
theorem dX2_pass_55 : decode cX2_pass 55 = .ok (.iload_n 2, 1) := by decide +kernel
theorem dX2_pass_56 : decode cX2_pass 56 = .ok (.if_icmp .ge 19, 3) := by decide +kernel
theorem dX2_pass_59 : decode cX2_pass 59 = .ok (.iload_n 2, 1) := by decide +kernel
theorem dX2_pass_60 : decode cX2_pass 60 = .ok (.ifCond .le 15, 3) := by decide +kernel
theorem dX2_pass_63 : decode cX2_pass 63 = .ok (.aload_n 0, 1) := by decide +kernel
theorem dX2_pass_64 : decode cX2_pass 64 = .ok (.aload_n 1, 1) := by decide +kernel
theorem dX2_pass_65 : decode cX2_pass 65 = .ok (.iload 4, 2) := by decide +kernel
theorem dX2_pass_67 : decode cX2_pass 67 = .ok (.iload_n 2, 1) := by decide +kernel
theorem dX2_pass_68 : decode cX2_pass 68 = .ok (.iload_n 3, 1) := by decide +kernel
theorem dX2_pass_69 : decode cX2_pass 69 = .ok (.invokevirtual 49, 3) := by decide +kernel
theorem dX2_pass_72 : decode cX2_pass 72 = .ok (.goto 13, 3) := by decide +kernel
theorem dX2_pass_75 : decode cX2_pass 75 = .ok (.aload_n 0, 1) := by decide +kernel
theorem dX2_pass_76 : decode cX2_pass 76 = .ok (.getfield 11, 3) := by decide +kernel
theorem dX2_pass_79 : decode cX2_pass 79 = .ok (.iload_n 2, 1) := by decide +kernel
theorem dX2_pass_80 : decode cX2_pass 80 = .ok (.aaload, 1) := by decide +kernel
theorem dX2_pass_81 : decode cX2_pass 81 = .ok (.iload 4, 2) := by decide +kernel
theorem dX2_pass_83 : decode cX2_pass 83 = .ok (.iconst 0, 1) := by decide +kernel
theorem dX2_pass_84 : decode cX2_pass 84 = .ok (.iastore, 1) := by decide +kernel
theorem dX2_pass_85 : decode cX2_pass 85 = .ok (.iinc 4 1, 3) := by decide +kernel
theorem dX2_pass_88 : decode cX2_pass 88 = .ok (.goto (-78), 3) := by decide +kernel
theorem dX2_pass_91 : decode cX2_pass 91 = .ok (.aload_n 1, 1) := by decide +kernel
theorem dX2_pass_92 : decode cX2_pass 92 = .ok (.getfield 53, 3) := by decide +kernel
theorem dX2_pass_95 : decode cX2_pass 95 = .ok (.iconst 2, 1) := by decide +kernel
theorem dX2_pass_96 : decode cX2_pass 96 = .ok (.if_icmp .ne 13, 3) := by decide +kernel
theorem dX2_pass_99 : decode cX2_pass 99 = .ok (.iload_n 2, 1) := by decide +kernel
theorem dX2_pass_100 : decode cX2_pass 100 = .ok (.ifCond .le 9, 3) := by decide +kernel
theorem dX2_pass_103 : decode cX2_pass 103 = .ok (.aload_n 0, 1) := by decide +kernel
theorem dX2_pass_104 : decode cX2_pass 104 = .ok (.aload_n 1, 1) := by decide +kernel
theorem dX2_pass_105 : decode cX2_pass 105 = .ok (.iload_n 2, 1) := by decide +kernel
theorem dX2_pass_106 : decode cX2_pass 106 = .ok (.invokevirtual 56, 3) := by decide +kernel
theorem dX2_pass_109 : decode cX2_pass 109 = .ok (.iconst 0, 1) := by decide +kernel
theorem dX2_pass_110 : decode cX2_pass 110 = .ok (.istore 4, 2) := by decide +kernel
theorem dX2_pass_112 : decode cX2_pass 112 = .ok (.iload 4, 2) := by decide +kernel
theorem dX2_pass_114 : decode cX2_pass 114 = .ok (.aload_n 1, 1) := by decide +kernel
theorem dX2_pass_115 : decode cX2_pass 115 = .ok (.getfield 60, 3) := by decide +kernel
theorem dX2_pass_118 : decode cX2_pass 118 = .ok (.getfield 64, 3) := by decide +kernel
theorem dX2_pass_121 : decode cX2_pass 121 = .ok (.if_icmp .ge 67, 3) := by decide +kernel
theorem dX2_pass_124 : decode cX2_pass 124 = .ok (.aload_n 1, 1) := by decide +kernel
theorem dX2_pass_125 : decode cX2_pass 125 = .ok (.getfield 60, 3) := by decide +kernel
theorem dX2_pass_128 : decode cX2_pass 128 = .ok (.getfield 69, 3) := by decide +kernel
theorem dX2_pass_131 : decode cX2_pass 131 = .ok (.iload 4, 2) := by decide +kernel
theorem dX2_pass_133 : decode cX2_pass 133 = .ok (.iaload, 1) := by decide +kernel
theorem dX2_pass_134 : decode cX2_pass 134 = .ok (.iload_n 2, 1) := by decide +kernel
theorem dX2_pass_135 : decode cX2_pass 135 = .ok (.if_icmp .ne 47, 3) := by decide +kernel
theorem dX2_pass_138 : decode cX2_pass 138 = .ok (.aload_n 1, 1) := by decide +kernel
theorem dX2_pass_139 : decode cX2_pass 139 = .ok (.aload_n 1, 1) := by decide +kernel
theorem dX2_pass_140 : decode cX2_pass 140 = .ok (.getfield 60, 3) := by decide +kernel
theorem dX2_pass_143 : decode cX2_pass 143 = .ok (.getfield 72, 3) := by decide +kernel
theorem dX2_pass_146 : decode cX2_pass 146 = .ok (.iload 4, 2) := by decide +kernel
theorem dX2_pass_148 : decode cX2_pass 148 = .ok (.iaload, 1) := by decide +kernel
theorem dX2_pass_149 : decode cX2_pass 149 = .ok (.iload_n 2, 1) := by decide +kernel
theorem dX2_pass_150 : decode cX2_pass 150 = .ok (.invokevirtual 75, 3) := by decide +kernel
theorem dX2_pass_153 : decode cX2_pass 153 = .ok (.ifCond .eq 29, 3) := by decide +kernel
theorem dX2_pass_156 : decode cX2_pass 156 = .ok (.aload_n 0, 1) := by decide +kernel
theorem dX2_pass_157 : decode cX2_pass 157 = .ok (.aload_n 1, 1) := by decide +kernel
theorem dX2_pass_158 : decode cX2_pass 158 = .ok (.aload_n 1, 1) := by decide +kernel
theorem dX2_pass_159 : decode cX2_pass 159 = .ok (.getfield 60, 3) := by decide +kernel
theorem dX2_pass_162 : decode cX2_pass 162 = .ok (.getfield 72, 3) := by decide +kernel
theorem dX2_pass_165 : decode cX2_pass 165 = .ok (.iload 4, 2) := by decide +kernel
theorem dX2_pass_167 : decode cX2_pass 167 = .ok (.iaload, 1) := by decide +kernel
theorem dX2_pass_168 : decode cX2_pass 168 = .ok (.aload_n 1, 1) := by decide +kernel
theorem dX2_pass_169 : decode cX2_pass 169 = .ok (.getfield 60, 3) := by decide +kernel
theorem dX2_pass_172 : decode cX2_pass 172 = .ok (.getfield 78, 3) := by decide +kernel
theorem dX2_pass_175 : decode cX2_pass 175 = .ok (.iload 4, 2) := by decide +kernel
theorem dX2_pass_177 : decode cX2_pass 177 = .ok (.iaload, 1) := by decide +kernel
theorem dX2_pass_178 : decode cX2_pass 178 = .ok (.iload_n 2, 1) := by decide +kernel
theorem dX2_pass_179 : decode cX2_pass 179 = .ok (.invokevirtual 79, 3) := by decide +kernel
theorem dX2_pass_182 : decode cX2_pass 182 = .ok (.iinc 4 1, 3) := by decide +kernel
theorem dX2_pass_185 : decode cX2_pass 185 = .ok (.goto (-73), 3) := by decide +kernel
theorem dX2_pass_188 : decode cX2_pass 188 = .ok (.return_, 1) := by decide +kernel
theorem dX2_total_0 : decode cX2_total 0 = .ok (.iconst 0, 1) := by decide +kernel
theorem dX2_total_1 : decode cX2_total 1 = .ok (.istore_n 3, 1) := by decide +kernel
theorem dX2_total_2 : decode cX2_total 2 = .ok (.iconst 0, 1) := by decide +kernel
theorem dX2_total_3 : decode cX2_total 3 = .ok (.istore 4, 2) := by decide +kernel
theorem dX2_total_5 : decode cX2_total 5 = .ok (.iload 4, 2) := by decide +kernel
theorem dX2_total_7 : decode cX2_total 7 = .ok (.aload_n 1, 1) := by decide +kernel
theorem dX2_total_8 : decode cX2_total 8 = .ok (.getfield 37, 3) := by decide +kernel
theorem dX2_total_11 : decode cX2_total 11 = .ok (.if_icmp .ge 21, 3) := by decide +kernel
theorem dX2_total_14 : decode cX2_total 14 = .ok (.iload_n 3, 1) := by decide +kernel
theorem dX2_total_15 : decode cX2_total 15 = .ok (.aload_n 0, 1) := by decide +kernel
theorem dX2_total_16 : decode cX2_total 16 = .ok (.getfield 11, 3) := by decide +kernel
theorem dX2_total_19 : decode cX2_total 19 = .ok (.iload_n 2, 1) := by decide +kernel
theorem dX2_total_20 : decode cX2_total 20 = .ok (.aaload, 1) := by decide +kernel
theorem dX2_total_21 : decode cX2_total 21 = .ok (.iload 4, 2) := by decide +kernel
theorem dX2_total_23 : decode cX2_total 23 = .ok (.iaload, 1) := by decide +kernel
theorem dX2_total_24 : decode cX2_total 24 = .ok (.iadd, 1) := by decide +kernel
theorem dX2_total_25 : decode cX2_total 25 = .ok (.istore_n 3, 1) := by decide +kernel
theorem dX2_total_26 : decode cX2_total 26 = .ok (.iinc 4 1, 3) := by decide +kernel
theorem dX2_total_29 : decode cX2_total 29 = .ok (.goto (-24), 3) := by decide +kernel
theorem dX2_total_32 : decode cX2_total 32 = .ok (.iload_n 3, 1) := by decide +kernel
theorem dX2_total_33 : decode cX2_total 33 = .ok (.ireturn, 1) := by decide +kernel
theorem dX2_inked_0 : decode cX2_inked 0 = .ok (.aload_n 0, 1) := by decide +kernel
theorem dX2_inked_1 : decode cX2_inked 1 = .ok (.getfield 16, 3) := by decide +kernel
theorem dX2_inked_4 : decode cX2_inked 4 = .ok (.iload 4, 2) := by decide +kernel
theorem dX2_inked_6 : decode cX2_inked 6 = .ok (.aaload, 1) := by decide +kernel
theorem dX2_inked_7 : decode cX2_inked 7 = .ok (.iload_n 2, 1) := by decide +kernel
theorem dX2_inked_8 : decode cX2_inked 8 = .ok (.iload_n 3, 1) := by decide +kernel
theorem dX2_inked_9 : decode cX2_inked 9 = .ok (.iastore, 1) := by decide +kernel
theorem dX2_inked_10 : decode cX2_inked 10 = .ok (.aload_n 0, 1) := by decide +kernel
theorem dX2_inked_11 : decode cX2_inked 11 = .ok (.iload_n 2, 1) := by decide +kernel
theorem dX2_inked_12 : decode cX2_inked 12 = .ok (.iload 4, 2) := by decide +kernel
theorem dX2_inked_14 : decode cX2_inked 14 = .ok (.aload_n 1, 1) := by decide +kernel
theorem dX2_inked_15 : decode cX2_inked 15 = .ok (.iconst 0, 1) := by decide +kernel
theorem dX2_inked_16 : decode cX2_inked 16 = .ok (.iload_n 3, 1) := by decide +kernel
theorem dX2_inked_17 : decode cX2_inked 17 = .ok (.invokevirtual 82, 3) := by decide +kernel
theorem dX2_inked_20 : decode cX2_inked 20 = .ok (.aload_n 1, 1) := by decide +kernel
theorem dX2_inked_21 : decode cX2_inked 21 = .ok (.getfield 86, 3) := by decide +kernel
theorem dX2_inked_24 : decode cX2_inked 24 = .ok (.iload_n 3, 1) := by decide +kernel
theorem dX2_inked_25 : decode cX2_inked 25 = .ok (.iaload, 1) := by decide +kernel
theorem dX2_inked_26 : decode cX2_inked 26 = .ok (.invokevirtual 89, 3) := by decide +kernel
theorem dX2_inked_29 : decode cX2_inked 29 = .ok (.return_, 1) := by decide +kernel
theorem dX2_setShade_0 : decode cX2_setShade 0 = .ok (.aload_n 0, 1) := by decide +kernel
theorem dX2_setShade_1 : decode cX2_setShade 1 = .ok (.getfield 11, 3) := by decide +kernel
theorem dX2_setShade_4 : decode cX2_setShade 4 = .ok (.iload_n 2, 1) := by decide +kernel
theorem dX2_setShade_5 : decode cX2_setShade 5 = .ok (.aaload, 1) := by decide +kernel
theorem dX2_setShade_6 : decode cX2_setShade 6 = .ok (.iload_n 1, 1) := by decide +kernel
theorem dX2_setShade_7 : decode cX2_setShade 7 = .ok (.iload_n 3, 1) := by decide +kernel
theorem dX2_setShade_8 : decode cX2_setShade 8 = .ok (.iastore, 1) := by decide +kernel
theorem dX2_setShade_9 : decode cX2_setShade 9 = .ok (.iload_n 3, 1) := by decide +kernel
theorem dX2_setShade_10 : decode cX2_setShade 10 = .ok (.iload 4, 2) := by decide +kernel
theorem dX2_setShade_12 : decode cX2_setShade 12 = .ok (.if_icmp .ge 18, 3) := by decide +kernel
theorem dX2_setShade_15 : decode cX2_setShade 15 = .ok (.aload_n 0, 1) := by decide +kernel
theorem dX2_setShade_16 : decode cX2_setShade 16 = .ok (.getfield 19, 3) := by decide +kernel
theorem dX2_setShade_19 : decode cX2_setShade 19 = .ok (.iload_n 2, 1) := by decide +kernel
theorem dX2_setShade_20 : decode cX2_setShade 20 = .ok (.dup2, 1) := by decide +kernel
theorem dX2_setShade_21 : decode cX2_setShade 21 = .ok (.iaload, 1) := by decide +kernel
theorem dX2_setShade_22 : decode cX2_setShade 22 = .ok (.iconst 1, 1) := by decide +kernel
theorem dX2_setShade_23 : decode cX2_setShade 23 = .ok (.iload_n 1, 1) := by decide +kernel
theorem dX2_setShade_24 : decode cX2_setShade 24 = .ok (.ishl, 1) := by decide +kernel
theorem dX2_setShade_25 : decode cX2_setShade 25 = .ok (.ior, 1) := by decide +kernel
theorem dX2_setShade_26 : decode cX2_setShade 26 = .ok (.iastore, 1) := by decide +kernel
theorem dX2_setShade_27 : decode cX2_setShade 27 = .ok (.goto 17, 3) := by decide +kernel
theorem dX2_setShade_30 : decode cX2_setShade 30 = .ok (.aload_n 0, 1) := by decide +kernel
theorem dX2_setShade_31 : decode cX2_setShade 31 = .ok (.getfield 19, 3) := by decide +kernel
theorem dX2_setShade_34 : decode cX2_setShade 34 = .ok (.iload_n 2, 1) := by decide +kernel
theorem dX2_setShade_35 : decode cX2_setShade 35 = .ok (.dup2, 1) := by decide +kernel
theorem dX2_setShade_36 : decode cX2_setShade 36 = .ok (.iaload, 1) := by decide +kernel
theorem dX2_setShade_37 : decode cX2_setShade 37 = .ok (.iconst 1, 1) := by decide +kernel
theorem dX2_setShade_38 : decode cX2_setShade 38 = .ok (.iload_n 1, 1) := by decide +kernel
theorem dX2_setShade_39 : decode cX2_setShade 39 = .ok (.ishl, 1) := by decide +kernel
theorem dX2_setShade_40 : decode cX2_setShade 40 = .ok (.iconst (-1), 1) := by decide +kernel
theorem dX2_setShade_41 : decode cX2_setShade 41 = .ok (.ixor, 1) := by decide +kernel
theorem dX2_setShade_42 : decode cX2_setShade 42 = .ok (.iand, 1) := by decide +kernel
theorem dX2_setShade_43 : decode cX2_setShade 43 = .ok (.iastore, 1) := by decide +kernel
theorem dX2_setShade_44 : decode cX2_setShade 44 = .ok (.return_, 1) := by decide +kernel
theorem dX2_goOn_0 : decode cX2_goOn 0 = .ok (.aload_n 0, 1) := by decide +kernel
theorem dX2_goOn_1 : decode cX2_goOn 1 = .ok (.getfield 16, 3) := by decide +kernel
theorem dX2_goOn_4 : decode cX2_goOn 4 = .ok (.iload_n 3, 1) := by decide +kernel
theorem dX2_goOn_5 : decode cX2_goOn 5 = .ok (.iconst 1, 1) := by decide +kernel
theorem dX2_goOn_6 : decode cX2_goOn 6 = .ok (.isub, 1) := by decide +kernel
theorem dX2_goOn_7 : decode cX2_goOn 7 = .ok (.aaload, 1) := by decide +kernel
theorem dX2_goOn_8 : decode cX2_goOn 8 = .ok (.iload_n 2, 1) := by decide +kernel
theorem dX2_goOn_9 : decode cX2_goOn 9 = .ok (.iaload, 1) := by decide +kernel
theorem dX2_goOn_10 : decode cX2_goOn 10 = .ok (.istore 5, 2) := by decide +kernel
theorem dX2_goOn_12 : decode cX2_goOn 12 = .ok (.aload_n 0, 1) := by decide +kernel
theorem dX2_goOn_13 : decode cX2_goOn 13 = .ok (.getfield 11, 3) := by decide +kernel
theorem dX2_goOn_16 : decode cX2_goOn 16 = .ok (.iload_n 3, 1) := by decide +kernel
theorem dX2_goOn_17 : decode cX2_goOn 17 = .ok (.iconst 1, 1) := by decide +kernel
theorem dX2_goOn_18 : decode cX2_goOn 18 = .ok (.isub, 1) := by decide +kernel
theorem dX2_goOn_19 : decode cX2_goOn 19 = .ok (.aaload, 1) := by decide +kernel
theorem dX2_goOn_20 : decode cX2_goOn 20 = .ok (.iload_n 2, 1) := by decide +kernel
theorem dX2_goOn_21 : decode cX2_goOn 21 = .ok (.iaload, 1) := by decide +kernel
theorem dX2_goOn_22 : decode cX2_goOn 22 = .ok (.istore 6, 2) := by decide +kernel
theorem dX2_goOn_24 : decode cX2_goOn 24 = .ok (.aload_n 0, 1) := by decide +kernel
theorem dX2_goOn_25 : decode cX2_goOn 25 = .ok (.getfield 16, 3) := by decide +kernel
theorem dX2_goOn_28 : decode cX2_goOn 28 = .ok (.iload_n 3, 1) := by decide +kernel
theorem dX2_goOn_29 : decode cX2_goOn 29 = .ok (.aaload, 1) := by decide +kernel
theorem dX2_goOn_30 : decode cX2_goOn 30 = .ok (.iload_n 2, 1) := by decide +kernel
theorem dX2_goOn_31 : decode cX2_goOn 31 = .ok (.iload 5, 2) := by decide +kernel
theorem dX2_goOn_33 : decode cX2_goOn 33 = .ok (.iastore, 1) := by decide +kernel
theorem dX2_goOn_34 : decode cX2_goOn 34 = .ok (.aload_n 0, 1) := by decide +kernel
theorem dX2_goOn_35 : decode cX2_goOn 35 = .ok (.getfield 19, 3) := by decide +kernel
theorem dX2_goOn_38 : decode cX2_goOn 38 = .ok (.iload_n 3, 1) := by decide +kernel
theorem dX2_goOn_39 : decode cX2_goOn 39 = .ok (.iconst 1, 1) := by decide +kernel
theorem dX2_goOn_40 : decode cX2_goOn 40 = .ok (.isub, 1) := by decide +kernel
theorem dX2_goOn_41 : decode cX2_goOn 41 = .ok (.iaload, 1) := by decide +kernel
theorem dX2_goOn_42 : decode cX2_goOn 42 = .ok (.iload_n 2, 1) := by decide +kernel
theorem dX2_goOn_43 : decode cX2_goOn 43 = .ok (.invokestatic 29, 3) := by decide +kernel
theorem dX2_goOn_46 : decode cX2_goOn 46 = .ok (.ifCond .eq 27, 3) := by decide +kernel
theorem dX2_goOn_49 : decode cX2_goOn 49 = .ok (.aload_n 0, 1) := by decide +kernel
theorem dX2_goOn_50 : decode cX2_goOn 50 = .ok (.iload_n 2, 1) := by decide +kernel
theorem dX2_goOn_51 : decode cX2_goOn 51 = .ok (.iload_n 3, 1) := by decide +kernel
theorem dX2_goOn_52 : decode cX2_goOn 52 = .ok (.aload_n 1, 1) := by decide +kernel
theorem dX2_goOn_53 : decode cX2_goOn 53 = .ok (.iload 6, 2) := by decide +kernel
theorem dX2_goOn_55 : decode cX2_goOn 55 = .ok (.iload 5, 2) := by decide +kernel
theorem dX2_goOn_57 : decode cX2_goOn 57 = .ok (.invokevirtual 82, 3) := by decide +kernel
theorem dX2_goOn_60 : decode cX2_goOn 60 = .ok (.aload_n 1, 1) := by decide +kernel
theorem dX2_goOn_61 : decode cX2_goOn 61 = .ok (.getfield 86, 3) := by decide +kernel
theorem dX2_goOn_64 : decode cX2_goOn 64 = .ok (.iload 5, 2) := by decide +kernel
theorem dX2_goOn_66 : decode cX2_goOn 66 = .ok (.iaload, 1) := by decide +kernel
theorem dX2_goOn_67 : decode cX2_goOn 67 = .ok (.invokevirtual 89, 3) := by decide +kernel
theorem dX2_goOn_70 : decode cX2_goOn 70 = .ok (.goto 33, 3) := by decide +kernel
theorem dX2_goOn_73 : decode cX2_goOn 73 = .ok (.aload_n 0, 1) := by decide +kernel
theorem dX2_goOn_74 : decode cX2_goOn 74 = .ok (.getfield 11, 3) := by decide +kernel
theorem dX2_goOn_77 : decode cX2_goOn 77 = .ok (.iload_n 3, 1) := by decide +kernel
theorem dX2_goOn_78 : decode cX2_goOn 78 = .ok (.aaload, 1) := by decide +kernel
theorem dX2_goOn_79 : decode cX2_goOn 79 = .ok (.iload_n 2, 1) := by decide +kernel
theorem dX2_goOn_80 : decode cX2_goOn 80 = .ok (.iconst 0, 1) := by decide +kernel
theorem dX2_goOn_81 : decode cX2_goOn 81 = .ok (.iload 6, 2) := by decide +kernel
theorem dX2_goOn_83 : decode cX2_goOn 83 = .ok (.aload_n 1, 1) := by decide +kernel
theorem dX2_goOn_84 : decode cX2_goOn 84 = .ok (.iload 5, 2) := by decide +kernel
theorem dX2_goOn_86 : decode cX2_goOn 86 = .ok (.aload_n 1, 1) := by decide +kernel
theorem dX2_goOn_87 : decode cX2_goOn 87 = .ok (.getfield 93, 3) := by decide +kernel
theorem dX2_goOn_90 : decode cX2_goOn 90 = .ok (.iload_n 2, 1) := by decide +kernel
theorem dX2_goOn_91 : decode cX2_goOn 91 = .ok (.iaload, 1) := by decide +kernel
theorem dX2_goOn_92 : decode cX2_goOn 92 = .ok (.iload_n 3, 1) := by decide +kernel
theorem dX2_goOn_93 : decode cX2_goOn 93 = .ok (.iload 4, 2) := by decide +kernel
theorem dX2_goOn_95 : decode cX2_goOn 95 = .ok (.invokevirtual 96, 3) := by decide +kernel
theorem dX2_goOn_98 : decode cX2_goOn 98 = .ok (.isub, 1) := by decide +kernel
theorem dX2_goOn_99 : decode cX2_goOn 99 = .ok (.invokestatic 100, 3) := by decide +kernel
theorem dX2_goOn_102 : decode cX2_goOn 102 = .ok (.iastore, 1) := by decide +kernel
theorem dX2_goOn_103 : decode cX2_goOn 103 = .ok (.return_, 1) := by decide +kernel
theorem dX2_rubOff_0 : decode cX2_rubOff 0 = .ok (.iconst 0, 1) := by decide +kernel
theorem dX2_rubOff_1 : decode cX2_rubOff 1 = .ok (.istore_n 3, 1) := by decide +kernel
theorem dX2_rubOff_2 : decode cX2_rubOff 2 = .ok (.iload_n 3, 1) := by decide +kernel
theorem dX2_rubOff_3 : decode cX2_rubOff 3 = .ok (.aload_n 1, 1) := by decide +kernel
theorem dX2_rubOff_4 : decode cX2_rubOff 4 = .ok (.getfield 37, 3) := by decide +kernel
theorem dX2_rubOff_7 : decode cX2_rubOff 7 = .ok (.if_icmp .ge 96, 3) := by decide +kernel
theorem dX2_rubOff_10 : decode cX2_rubOff 10 = .ok (.aload_n 1, 1) := by decide +kernel
theorem dX2_rubOff_11 : decode cX2_rubOff 11 = .ok (.getfield 105, 3) := by decide +kernel
theorem dX2_rubOff_14 : decode cX2_rubOff 14 = .ok (.iload_n 3, 1) := by decide +kernel
theorem dX2_rubOff_15 : decode cX2_rubOff 15 = .ok (.iaload, 1) := by decide +kernel
theorem dX2_rubOff_16 : decode cX2_rubOff 16 = .ok (.istore 4, 2) := by decide +kernel
theorem dX2_rubOff_18 : decode cX2_rubOff 18 = .ok (.iload 4, 2) := by decide +kernel
theorem dX2_rubOff_20 : decode cX2_rubOff 20 = .ok (.iconst (-1), 1) := by decide +kernel
theorem dX2_rubOff_21 : decode cX2_rubOff 21 = .ok (.if_icmp .eq 76, 3) := by decide +kernel
theorem dX2_rubOff_24 : decode cX2_rubOff 24 = .ok (.aload_n 1, 1) := by decide +kernel
theorem dX2_rubOff_25 : decode cX2_rubOff 25 = .ok (.iload_n 3, 1) := by decide +kernel
theorem dX2_rubOff_26 : decode cX2_rubOff 26 = .ok (.iload_n 2, 1) := by decide +kernel
theorem dX2_rubOff_27 : decode cX2_rubOff 27 = .ok (.iconst 1, 1) := by decide +kernel
theorem dX2_rubOff_28 : decode cX2_rubOff 28 = .ok (.isub, 1) := by decide +kernel
theorem dX2_rubOff_29 : decode cX2_rubOff 29 = .ok (.invokevirtual 75, 3) := by decide +kernel
theorem dX2_rubOff_32 : decode cX2_rubOff 32 = .ok (.ifCond .eq 65, 3) := by decide +kernel
theorem dX2_rubOff_35 : decode cX2_rubOff 35 = .ok (.aload_n 1, 1) := by decide +kernel
theorem dX2_rubOff_36 : decode cX2_rubOff 36 = .ok (.iload 4, 2) := by decide +kernel
theorem dX2_rubOff_38 : decode cX2_rubOff 38 = .ok (.iload_n 2, 1) := by decide +kernel
theorem dX2_rubOff_39 : decode cX2_rubOff 39 = .ok (.iconst 1, 1) := by decide +kernel
theorem dX2_rubOff_40 : decode cX2_rubOff 40 = .ok (.isub, 1) := by decide +kernel
theorem dX2_rubOff_41 : decode cX2_rubOff 41 = .ok (.invokevirtual 75, 3) := by decide +kernel
theorem dX2_rubOff_44 : decode cX2_rubOff 44 = .ok (.ifCond .eq 53, 3) := by decide +kernel
theorem dX2_rubOff_47 : decode cX2_rubOff 47 = .ok (.aload_n 0, 1) := by decide +kernel
theorem dX2_rubOff_48 : decode cX2_rubOff 48 = .ok (.getfield 11, 3) := by decide +kernel
theorem dX2_rubOff_51 : decode cX2_rubOff 51 = .ok (.iload_n 2, 1) := by decide +kernel
theorem dX2_rubOff_52 : decode cX2_rubOff 52 = .ok (.iconst 1, 1) := by decide +kernel
theorem dX2_rubOff_53 : decode cX2_rubOff 53 = .ok (.isub, 1) := by decide +kernel
theorem dX2_rubOff_54 : decode cX2_rubOff 54 = .ok (.aaload, 1) := by decide +kernel
theorem dX2_rubOff_55 : decode cX2_rubOff 55 = .ok (.iload 4, 2) := by decide +kernel
theorem dX2_rubOff_57 : decode cX2_rubOff 57 = .ok (.iaload, 1) := by decide +kernel
theorem dX2_rubOff_58 : decode cX2_rubOff 58 = .ok (.aload_n 0, 1) := by decide +kernel
theorem dX2_rubOff_59 : decode cX2_rubOff 59 = .ok (.getfield 11, 3) := by decide +kernel
theorem dX2_rubOff_62 : decode cX2_rubOff 62 = .ok (.iload_n 2, 1) := by decide +kernel
theorem dX2_rubOff_63 : decode cX2_rubOff 63 = .ok (.iconst 1, 1) := by decide +kernel
theorem dX2_rubOff_64 : decode cX2_rubOff 64 = .ok (.isub, 1) := by decide +kernel
theorem dX2_rubOff_65 : decode cX2_rubOff 65 = .ok (.aaload, 1) := by decide +kernel
theorem dX2_rubOff_66 : decode cX2_rubOff 66 = .ok (.iload_n 3, 1) := by decide +kernel
theorem dX2_rubOff_67 : decode cX2_rubOff 67 = .ok (.iaload, 1) := by decide +kernel
theorem dX2_rubOff_68 : decode cX2_rubOff 68 = .ok (.isub, 1) := by decide +kernel
theorem dX2_rubOff_69 : decode cX2_rubOff 69 = .ok (.bipush 10, 2) := by decide +kernel
theorem dX2_rubOff_71 : decode cX2_rubOff 71 = .ok (.if_icmp .lt 26, 3) := by decide +kernel
theorem dX2_rubOff_74 : decode cX2_rubOff 74 = .ok (.aload_n 0, 1) := by decide +kernel
theorem dX2_rubOff_75 : decode cX2_rubOff 75 = .ok (.getfield 11, 3) := by decide +kernel
theorem dX2_rubOff_78 : decode cX2_rubOff 78 = .ok (.iload_n 2, 1) := by decide +kernel
theorem dX2_rubOff_79 : decode cX2_rubOff 79 = .ok (.aaload, 1) := by decide +kernel
theorem dX2_rubOff_80 : decode cX2_rubOff 80 = .ok (.iload_n 3, 1) := by decide +kernel
theorem dX2_rubOff_81 : decode cX2_rubOff 81 = .ok (.bipush 60, 2) := by decide +kernel
theorem dX2_rubOff_83 : decode cX2_rubOff 83 = .ok (.aload_n 0, 1) := by decide +kernel
theorem dX2_rubOff_84 : decode cX2_rubOff 84 = .ok (.getfield 11, 3) := by decide +kernel
theorem dX2_rubOff_87 : decode cX2_rubOff 87 = .ok (.iload_n 2, 1) := by decide +kernel
theorem dX2_rubOff_88 : decode cX2_rubOff 88 = .ok (.aaload, 1) := by decide +kernel
theorem dX2_rubOff_89 : decode cX2_rubOff 89 = .ok (.iload_n 3, 1) := by decide +kernel
theorem dX2_rubOff_90 : decode cX2_rubOff 90 = .ok (.iaload, 1) := by decide +kernel
theorem dX2_rubOff_91 : decode cX2_rubOff 91 = .ok (.iconst 1, 1) := by decide +kernel
theorem dX2_rubOff_92 : decode cX2_rubOff 92 = .ok (.iadd, 1) := by decide +kernel
theorem dX2_rubOff_93 : decode cX2_rubOff 93 = .ok (.invokestatic 108, 3) := by decide +kernel
theorem dX2_rubOff_96 : decode cX2_rubOff 96 = .ok (.iastore, 1) := by decide +kernel
theorem dX2_rubOff_97 : decode cX2_rubOff 97 = .ok (.iinc 3 1, 3) := by decide +kernel
theorem dX2_rubOff_100 : decode cX2_rubOff 100 = .ok (.goto (-98), 3) := by decide +kernel
theorem dX2_rubOff_103 : decode cX2_rubOff 103 = .ok (.return_, 1) := by decide +kernel
theorem dX2_perform_0 : decode cX2_perform 0 = .ok (.iload_n 3, 1) := by decide +kernel
theorem dX2_perform_1 : decode cX2_perform 1 = .ok (.iconst (-1), 1) := by decide +kernel
theorem dX2_perform_2 : decode cX2_perform 2 = .ok (.if_icmp .ne 46, 3) := by decide +kernel
theorem dX2_perform_5 : decode cX2_perform 5 = .ok (.aload_n 0, 1) := by decide +kernel
theorem dX2_perform_6 : decode cX2_perform 6 = .ok (.getfield 11, 3) := by decide +kernel
theorem dX2_perform_9 : decode cX2_perform 9 = .ok (.iload 4, 2) := by decide +kernel
theorem dX2_perform_11 : decode cX2_perform 11 = .ok (.aaload, 1) := by decide +kernel
theorem dX2_perform_12 : decode cX2_perform 12 = .ok (.iload_n 2, 1) := by decide +kernel
theorem dX2_perform_13 : decode cX2_perform 13 = .ok (.iconst 0, 1) := by decide +kernel
theorem dX2_perform_14 : decode cX2_perform 14 = .ok (.aload_n 0, 1) := by decide +kernel
theorem dX2_perform_15 : decode cX2_perform 15 = .ok (.getfield 11, 3) := by decide +kernel
theorem dX2_perform_18 : decode cX2_perform 18 = .ok (.iload 4, 2) := by decide +kernel
theorem dX2_perform_20 : decode cX2_perform 20 = .ok (.aaload, 1) := by decide +kernel
theorem dX2_perform_21 : decode cX2_perform 21 = .ok (.iload_n 2, 1) := by decide +kernel
theorem dX2_perform_22 : decode cX2_perform 22 = .ok (.iaload, 1) := by decide +kernel
theorem dX2_perform_23 : decode cX2_perform 23 = .ok (.bipush 10, 2) := by decide +kernel
theorem dX2_perform_25 : decode cX2_perform 25 = .ok (.isub, 1) := by decide +kernel
theorem dX2_perform_26 : decode cX2_perform 26 = .ok (.invokestatic 100, 3) := by decide +kernel
theorem dX2_perform_29 : decode cX2_perform 29 = .ok (.iastore, 1) := by decide +kernel
theorem dX2_perform_30 : decode cX2_perform 30 = .ok (.aload_n 0, 1) := by decide +kernel
theorem dX2_perform_31 : decode cX2_perform 31 = .ok (.getfield 19, 3) := by decide +kernel
theorem dX2_perform_34 : decode cX2_perform 34 = .ok (.iload 4, 2) := by decide +kernel
theorem dX2_perform_36 : decode cX2_perform 36 = .ok (.dup2, 1) := by decide +kernel
theorem dX2_perform_37 : decode cX2_perform 37 = .ok (.iaload, 1) := by decide +kernel
theorem dX2_perform_38 : decode cX2_perform 38 = .ok (.iconst 1, 1) := by decide +kernel
theorem dX2_perform_39 : decode cX2_perform 39 = .ok (.iload_n 2, 1) := by decide +kernel
theorem dX2_perform_40 : decode cX2_perform 40 = .ok (.ishl, 1) := by decide +kernel
theorem dX2_perform_41 : decode cX2_perform 41 = .ok (.iconst (-1), 1) := by decide +kernel
theorem dX2_perform_42 : decode cX2_perform 42 = .ok (.ixor, 1) := by decide +kernel
theorem dX2_perform_43 : decode cX2_perform 43 = .ok (.iand, 1) := by decide +kernel
theorem dX2_perform_44 : decode cX2_perform 44 = .ok (.iastore, 1) := by decide +kernel
theorem dX2_perform_45 : decode cX2_perform 45 = .ok (.goto 12, 3) := by decide +kernel
theorem dX2_perform_48 : decode cX2_perform 48 = .ok (.aload_n 0, 1) := by decide +kernel
theorem dX2_perform_49 : decode cX2_perform 49 = .ok (.aload_n 1, 1) := by decide +kernel
theorem dX2_perform_50 : decode cX2_perform 50 = .ok (.iload_n 2, 1) := by decide +kernel
theorem dX2_perform_51 : decode cX2_perform 51 = .ok (.iload_n 3, 1) := by decide +kernel
theorem dX2_perform_52 : decode cX2_perform 52 = .ok (.iload 4, 2) := by decide +kernel
theorem dX2_perform_54 : decode cX2_perform 54 = .ok (.invokevirtual 45, 3) := by decide +kernel
theorem dX2_perform_57 : decode cX2_perform 57 = .ok (.return_, 1) := by decide +kernel
theorem dX3_init_0 : decode cX3_init 0 = .ok (.aload_n 0, 1) := by decide +kernel
theorem dX3_init_1 : decode cX3_init 1 = .ok (.invokespecial 3, 3) := by decide +kernel
theorem dX3_init_4 : decode cX3_init 4 = .ok (.aload_n 0, 1) := by decide +kernel
theorem dX3_init_5 : decode cX3_init 5 = .ok (.sipush 700, 3) := by decide +kernel
theorem dX3_init_8 : decode cX3_init 8 = .ok (.newarray .byte, 2) := by decide +kernel
theorem dX3_init_10 : decode cX3_init 10 = .ok (.putfield 9, 3) := by decide +kernel
theorem dX3_init_13 : decode cX3_init 13 = .ok (.aload_n 0, 1) := by decide +kernel
theorem dX3_init_14 : decode cX3_init 14 = .ok (.iconst 0, 1) := by decide +kernel
theorem dX3_init_15 : decode cX3_init 15 = .ok (.putfield 15, 3) := by decide +kernel
theorem dX3_init_18 : decode cX3_init 18 = .ok (.aload_n 0, 1) := by decide +kernel
theorem dX3_init_19 : decode cX3_init 19 = .ok (.iconst 0, 1) := by decide +kernel
theorem dX3_init_20 : decode cX3_init 20 = .ok (.putfield 19, 3) := by decide +kernel
theorem dX3_init_23 : decode cX3_init 23 = .ok (.aload_n 0, 1) := by decide +kernel
theorem dX3_init_24 : decode cX3_init 24 = .ok (.iconst (-1), 1) := by decide +kernel
theorem dX3_init_25 : decode cX3_init 25 = .ok (.putfield 22, 3) := by decide +kernel
theorem dX3_init_28 : decode cX3_init 28 = .ok (.aload_n 0, 1) := by decide +kernel
theorem dX3_init_29 : decode cX3_init 29 = .ok (.iconst 0, 1) := by decide +kernel
theorem dX3_init_30 : decode cX3_init 30 = .ok (.putfield 25, 3) := by decide +kernel
theorem dX3_init_33 : decode cX3_init 33 = .ok (.aload_n 0, 1) := by decide +kernel
theorem dX3_init_34 : decode cX3_init 34 = .ok (.iconst 0, 1) := by decide +kernel
theorem dX3_init_35 : decode cX3_init 35 = .ok (.putfield 28, 3) := by decide +kernel
theorem dX3_init_38 : decode cX3_init 38 = .ok (.aload_n 0, 1) := by decide +kernel
theorem dX3_init_39 : decode cX3_init 39 = .ok (.iconst 0, 1) := by decide +kernel
theorem dX3_init_40 : decode cX3_init 40 = .ok (.putfield 31, 3) := by decide +kernel
theorem dX3_init_43 : decode cX3_init 43 = .ok (.aload_n 0, 1) := by decide +kernel
theorem dX3_init_44 : decode cX3_init 44 = .ok (.iconst 0, 1) := by decide +kernel
theorem dX3_init_45 : decode cX3_init 45 = .ok (.putfield 34, 3) := by decide +kernel
theorem dX3_init_48 : decode cX3_init 48 = .ok (.return_, 1) := by decide +kernel
theorem dX3_addFour_0 : decode cX3_addFour 0 = .ok (.bipush 24, 2) := by decide +kernel
theorem dX3_addFour_2 : decode cX3_addFour 2 = .ok (.istore_n 2, 1) := by decide +kernel
theorem dX3_addFour_3 : decode cX3_addFour 3 = .ok (.iload_n 2, 1) := by decide +kernel
theorem dX3_addFour_4 : decode cX3_addFour 4 = .ok (.ifCond .lt 42, 3) := by decide +kernel
theorem dX3_addFour_7 : decode cX3_addFour 7 = .ok (.aload_n 0, 1) := by decide +kernel
theorem dX3_addFour_8 : decode cX3_addFour 8 = .ok (.getfield 15, 3) := by decide +kernel
theorem dX3_addFour_11 : decode cX3_addFour 11 = .ok (.sipush 700, 3) := by decide +kernel
theorem dX3_addFour_14 : decode cX3_addFour 14 = .ok (.if_icmp .ge 26, 3) := by decide +kernel
theorem dX3_addFour_17 : decode cX3_addFour 17 = .ok (.aload_n 0, 1) := by decide +kernel
theorem dX3_addFour_18 : decode cX3_addFour 18 = .ok (.getfield 9, 3) := by decide +kernel
theorem dX3_addFour_21 : decode cX3_addFour 21 = .ok (.aload_n 0, 1) := by decide +kernel
theorem dX3_addFour_22 : decode cX3_addFour 22 = .ok (.getfield 15, 3) := by decide +kernel
theorem dX3_addFour_25 : decode cX3_addFour 25 = .ok (.iload_n 1, 1) := by decide +kernel
theorem dX3_addFour_26 : decode cX3_addFour 26 = .ok (.iload_n 2, 1) := by decide +kernel
theorem dX3_addFour_27 : decode cX3_addFour 27 = .ok (.ishr, 1) := by decide +kernel
theorem dX3_addFour_28 : decode cX3_addFour 28 = .ok (.i2b, 1) := by decide +kernel
theorem dX3_addFour_29 : decode cX3_addFour 29 = .ok (.bastore, 1) := by decide +kernel
theorem dX3_addFour_30 : decode cX3_addFour 30 = .ok (.aload_n 0, 1) := by decide +kernel
theorem dX3_addFour_31 : decode cX3_addFour 31 = .ok (.dup, 1) := by decide +kernel
theorem dX3_addFour_32 : decode cX3_addFour 32 = .ok (.getfield 15, 3) := by decide +kernel
theorem dX3_addFour_35 : decode cX3_addFour 35 = .ok (.iconst 1, 1) := by decide +kernel
theorem dX3_addFour_36 : decode cX3_addFour 36 = .ok (.iadd, 1) := by decide +kernel
theorem dX3_addFour_37 : decode cX3_addFour 37 = .ok (.putfield 15, 3) := by decide +kernel
theorem dX3_addFour_40 : decode cX3_addFour 40 = .ok (.iinc 2 (-8), 3) := by decide +kernel
theorem dX3_addFour_43 : decode cX3_addFour 43 = .ok (.goto (-40), 3) := by decide +kernel
theorem dX3_addFour_46 : decode cX3_addFour 46 = .ok (.return_, 1) := by decide +kernel
theorem dX3_readBook_0 : decode cX3_readBook 0 = .ok (.aload_n 0, 1) := by decide +kernel
theorem dX3_readBook_1 : decode cX3_readBook 1 = .ok (.iconst 0, 1) := by decide +kernel
theorem dX3_readBook_2 : decode cX3_readBook 2 = .ok (.putfield 19, 3) := by decide +kernel
theorem dX3_readBook_5 : decode cX3_readBook 5 = .ok (.aload_n 0, 1) := by decide +kernel
theorem dX3_readBook_6 : decode cX3_readBook 6 = .ok (.iconst (-1), 1) := by decide +kernel
theorem dX3_readBook_7 : decode cX3_readBook 7 = .ok (.putfield 22, 3) := by decide +kernel
theorem dX3_readBook_10 : decode cX3_readBook 10 = .ok (.aload_n 0, 1) := by decide +kernel
theorem dX3_readBook_11 : decode cX3_readBook 11 = .ok (.iconst 0, 1) := by decide +kernel
theorem dX3_readBook_12 : decode cX3_readBook 12 = .ok (.putfield 31, 3) := by decide +kernel
theorem dX3_readBook_15 : decode cX3_readBook 15 = .ok (.aload_n 0, 1) := by decide +kernel
theorem dX3_readBook_16 : decode cX3_readBook 16 = .ok (.invokevirtual 37, 3) := by decide +kernel
theorem dX3_readBook_19 : decode cX3_readBook 19 = .ok (.iconst 0, 1) := by decide +kernel
theorem dX3_readBook_20 : decode cX3_readBook 20 = .ok (.istore_n 2, 1) := by decide +kernel
theorem dX3_readBook_21 : decode cX3_readBook 21 = .ok (.iload_n 2, 1) := by decide +kernel
theorem dX3_readBook_22 : decode cX3_readBook 22 = .ok (.sipush 700, 3) := by decide +kernel
theorem dX3_readBook_25 : decode cX3_readBook 25 = .ok (.if_icmp .ge 69, 3) := by decide +kernel
theorem dX3_readBook_28 : decode cX3_readBook 28 = .ok (.aload_n 0, 1) := by decide +kernel
theorem dX3_readBook_29 : decode cX3_readBook 29 = .ok (.getfield 25, 3) := by decide +kernel
theorem dX3_readBook_32 : decode cX3_readBook 32 = .ok (.ifCond .eq 62, 3) := by decide +kernel
theorem dX3_readBook_35 : decode cX3_readBook 35 = .ok (.aload_n 0, 1) := by decide +kernel
theorem dX3_readBook_36 : decode cX3_readBook 36 = .ok (.getfield 19, 3) := by decide +kernel
theorem dX3_readBook_39 : decode cX3_readBook 39 = .ok (.ifCond .ne 55, 3) := by decide +kernel
theorem dX3_readBook_42 : decode cX3_readBook 42 = .ok (.aload_n 0, 1) := by decide +kernel
theorem dX3_readBook_43 : decode cX3_readBook 43 = .ok (.aload_n 1, 1) := by decide +kernel
theorem dX3_readBook_44 : decode cX3_readBook 44 = .ok (.invokevirtual 40, 3) := by decide +kernel
theorem dX3_readBook_47 : decode cX3_readBook 47 = .ok (.aload_n 0, 1) := by decide +kernel
theorem dX3_readBook_48 : decode cX3_readBook 48 = .ok (.getfield 19, 3) := by decide +kernel
theorem dX3_readBook_51 : decode cX3_readBook 51 = .ok (.ifCond .ne 16, 3) := by decide +kernel
theorem dX3_readBook_54 : decode cX3_readBook 54 = .ok (.aload_n 0, 1) := by decide +kernel
theorem dX3_readBook_55 : decode cX3_readBook 55 = .ok (.getfield 25, 3) := by decide +kernel
theorem dX3_readBook_58 : decode cX3_readBook 58 = .ok (.iconst 3, 1) := by decide +kernel
theorem dX3_readBook_59 : decode cX3_readBook 59 = .ok (.if_icmp .eq 8, 3) := by decide +kernel
theorem dX3_readBook_62 : decode cX3_readBook 62 = .ok (.aload_n 0, 1) := by decide +kernel
theorem dX3_readBook_63 : decode cX3_readBook 63 = .ok (.iconst 1, 1) := by decide +kernel
theorem dX3_readBook_64 : decode cX3_readBook 64 = .ok (.invokevirtual 44, 3) := by decide +kernel
theorem dX3_readBook_67 : decode cX3_readBook 67 = .ok (.aload_n 0, 1) := by decide +kernel
theorem dX3_readBook_68 : decode cX3_readBook 68 = .ok (.getfield 19, 3) := by decide +kernel
theorem dX3_readBook_71 : decode cX3_readBook 71 = .ok (.ifCond .ne 17, 3) := by decide +kernel
theorem dX3_readBook_74 : decode cX3_readBook 74 = .ok (.aload_n 1, 1) := by decide +kernel
theorem dX3_readBook_75 : decode cX3_readBook 75 = .ok (.dup, 1) := by decide +kernel
theorem dX3_readBook_76 : decode cX3_readBook 76 = .ok (.getfield 48, 3) := by decide +kernel
theorem dX3_readBook_79 : decode cX3_readBook 79 = .ok (.iconst 1, 1) := by decide +kernel
theorem dX3_readBook_80 : decode cX3_readBook 80 = .ok (.iadd, 1) := by decide +kernel
theorem dX3_readBook_81 : decode cX3_readBook 81 = .ok (.putfield 48, 3) := by decide +kernel
theorem dX3_readBook_84 : decode cX3_readBook 84 = .ok (.aload_n 0, 1) := by decide +kernel
theorem dX3_readBook_85 : decode cX3_readBook 85 = .ok (.invokevirtual 37, 3) := by decide +kernel
theorem dX3_readBook_88 : decode cX3_readBook 88 = .ok (.iinc 2 1, 3) := by decide +kernel
theorem dX3_readBook_91 : decode cX3_readBook 91 = .ok (.goto (-70), 3) := by decide +kernel
theorem dX3_readBook_94 : decode cX3_readBook 94 = .ok (.return_, 1) := by decide +kernel
theorem dX3_readLine_0 : decode cX3_readLine 0 = .ok (.aload_n 0, 1) := by decide +kernel
theorem dX3_readLine_1 : decode cX3_readLine 1 = .ok (.ldc 53, 2) := by decide +kernel
theorem dX3_readLine_3 : decode cX3_readLine 3 = .ok (.invokevirtual 55, 3) := by decide +kernel
theorem dX3_readLine_6 : decode cX3_readLine 6 = .ok (.aload_n 1, 1) := by decide +kernel
theorem dX3_readLine_7 : decode cX3_readLine 7 = .ok (.getfield 48, 3) := by decide +kernel
theorem dX3_readLine_10 : decode cX3_readLine 10 = .ok (.ifCond .le 7, 3) := by decide +kernel
theorem dX3_readLine_13 : decode cX3_readLine 13 = .ok (.iconst 1, 1) := by decide +kernel
theorem dX3_readLine_14 : decode cX3_readLine 14 = .ok (.goto 4, 3) := by decide +kernel
theorem dX3_readLine_17 : decode cX3_readLine 17 = .ok (.iconst 0, 1) := by decide +kernel
theorem dX3_readLine_18 : decode cX3_readLine 18 = .ok (.if_icmp .ne 11, 3) := by decide +kernel
theorem dX3_readLine_21 : decode cX3_readLine 21 = .ok (.aload_n 0, 1) := by decide +kernel
theorem dX3_readLine_22 : decode cX3_readLine 22 = .ok (.iconst 1, 1) := by decide +kernel
theorem dX3_readLine_23 : decode cX3_readLine 23 = .ok (.invokevirtual 44, 3) := by decide +kernel
theorem dX3_readLine_26 : decode cX3_readLine 26 = .ok (.goto 76, 3) := by decide +kernel
theorem dX3_readLine_29 : decode cX3_readLine 29 = .ok (.aload_n 0, 1) := by decide +kernel
theorem dX3_readLine_30 : decode cX3_readLine 30 = .ok (.ldc 53, 2) := by decide +kernel
theorem dX3_readLine_32 : decode cX3_readLine 32 = .ok (.invokevirtual 55, 3) := by decide +kernel
theorem dX3_readLine_35 : decode cX3_readLine 35 = .ok (.ifCond .eq 11, 3) := by decide +kernel
theorem dX3_readLine_38 : decode cX3_readLine 38 = .ok (.aload_n 0, 1) := by decide +kernel
theorem dX3_readLine_39 : decode cX3_readLine 39 = .ok (.aload_n 1, 1) := by decide +kernel
theorem dX3_readLine_40 : decode cX3_readLine 40 = .ok (.invokevirtual 59, 3) := by decide +kernel
theorem dX3_readLine_43 : decode cX3_readLine 43 = .ok (.goto 59, 3) := by decide +kernel
theorem dX3_readLine_46 : decode cX3_readLine 46 = .ok (.aload_n 0, 1) := by decide +kernel
theorem dX3_readLine_47 : decode cX3_readLine 47 = .ok (.ldc 62, 2) := by decide +kernel
theorem dX3_readLine_49 : decode cX3_readLine 49 = .ok (.invokevirtual 55, 3) := by decide +kernel
theorem dX3_readLine_52 : decode cX3_readLine 52 = .ok (.ifCond .eq 11, 3) := by decide +kernel
theorem dX3_readLine_55 : decode cX3_readLine 55 = .ok (.aload_n 0, 1) := by decide +kernel
theorem dX3_readLine_56 : decode cX3_readLine 56 = .ok (.aload_n 1, 1) := by decide +kernel
theorem dX3_readLine_57 : decode cX3_readLine 57 = .ok (.invokevirtual 64, 3) := by decide +kernel
theorem dX3_readLine_60 : decode cX3_readLine 60 = .ok (.goto 42, 3) := by decide +kernel
theorem dX3_readLine_63 : decode cX3_readLine 63 = .ok (.aload_n 0, 1) := by decide +kernel
theorem dX3_readLine_64 : decode cX3_readLine 64 = .ok (.ldc 67, 2) := by decide +kernel
theorem dX3_readLine_66 : decode cX3_readLine 66 = .ok (.invokevirtual 55, 3) := by decide +kernel
theorem dX3_readLine_69 : decode cX3_readLine 69 = .ok (.ifCond .eq 11, 3) := by decide +kernel
theorem dX3_readLine_72 : decode cX3_readLine 72 = .ok (.aload_n 0, 1) := by decide +kernel
theorem dX3_readLine_73 : decode cX3_readLine 73 = .ok (.aload_n 1, 1) := by decide +kernel
theorem dX3_readLine_74 : decode cX3_readLine 74 = .ok (.invokevirtual 69, 3) := by decide +kernel
theorem dX3_readLine_77 : decode cX3_readLine 77 = .ok (.goto 25, 3) := by decide +kernel
theorem dX3_readLine_80 : decode cX3_readLine 80 = .ok (.aload_n 0, 1) := by decide +kernel
theorem dX3_readLine_81 : decode cX3_readLine 81 = .ok (.ldc 72, 2) := by decide +kernel
theorem dX3_readLine_83 : decode cX3_readLine 83 = .ok (.invokevirtual 55, 3) := by decide +kernel
theorem dX3_readLine_86 : decode cX3_readLine 86 = .ok (.ifCond .eq 11, 3) := by decide +kernel
theorem dX3_readLine_89 : decode cX3_readLine 89 = .ok (.aload_n 0, 1) := by decide +kernel
theorem dX3_readLine_90 : decode cX3_readLine 90 = .ok (.aload_n 1, 1) := by decide +kernel
theorem dX3_readLine_91 : decode cX3_readLine 91 = .ok (.invokevirtual 74, 3) := by decide +kernel
theorem dX3_readLine_94 : decode cX3_readLine 94 = .ok (.goto 8, 3) := by decide +kernel
theorem dX3_readLine_97 : decode cX3_readLine 97 = .ok (.aload_n 0, 1) := by decide +kernel
theorem dX3_readLine_98 : decode cX3_readLine 98 = .ok (.iconst 1, 1) := by decide +kernel
theorem dX3_readLine_99 : decode cX3_readLine 99 = .ok (.invokevirtual 44, 3) := by decide +kernel
theorem dX3_readLine_102 : decode cX3_readLine 102 = .ok (.return_, 1) := by decide +kernel
theorem dX3_readHead_0 : decode cX3_readHead 0 = .ok (.aload_n 0, 1) := by decide +kernel
theorem dX3_readHead_1 : decode cX3_readHead 1 = .ok (.invokevirtual 37, 3) := by decide +kernel
theorem dX3_readHead_4 : decode cX3_readHead 4 = .ok (.aload_n 1, 1) := by decide +kernel
theorem dX3_readHead_5 : decode cX3_readHead 5 = .ok (.aload_n 0, 1) := by decide +kernel
theorem dX3_readHead_6 : decode cX3_readHead 6 = .ok (.ldc 77, 2) := by decide +kernel
theorem dX3_readHead_8 : decode cX3_readHead 8 = .ok (.iconst 1, 1) := by decide +kernel
theorem dX3_readHead_9 : decode cX3_readHead 9 = .ok (.bipush 20, 2) := by decide +kernel
theorem dX3_readHead_11 : decode cX3_readHead 11 = .ok (.invokevirtual 79, 3) := by decide +kernel
theorem dX3_readHead_14 : decode cX3_readHead 14 = .ok (.putfield 83, 3) := by decide +kernel
theorem dX3_readHead_17 : decode cX3_readHead 17 = .ok (.aload_n 1, 1) := by decide +kernel
theorem dX3_readHead_18 : decode cX3_readHead 18 = .ok (.aload_n 0, 1) := by decide +kernel
theorem dX3_readHead_19 : decode cX3_readHead 19 = .ok (.ldc 85, 2) := by decide +kernel
theorem dX3_readHead_21 : decode cX3_readHead 21 = .ok (.iconst 0, 1) := by decide +kernel
theorem dX3_readHead_22 : decode cX3_readHead 22 = .ok (.iconst 3, 1) := by decide +kernel
theorem dX3_readHead_23 : decode cX3_readHead 23 = .ok (.invokevirtual 79, 3) := by decide +kernel
theorem dX3_readHead_26 : decode cX3_readHead 26 = .ok (.putfield 87, 3) := by decide +kernel
theorem dX3_readHead_29 : decode cX3_readHead 29 = .ok (.aload_n 1, 1) := by decide +kernel
theorem dX3_readHead_30 : decode cX3_readHead 30 = .ok (.aload_n 0, 1) := by decide +kernel
theorem dX3_readHead_31 : decode cX3_readHead 31 = .ok (.ldc 89, 2) := by decide +kernel
theorem dX3_readHead_33 : decode cX3_readHead 33 = .ok (.iconst 0, 1) := by decide +kernel
theorem dX3_readHead_34 : decode cX3_readHead 34 = .ok (.bipush 10, 2) := by decide +kernel
theorem dX3_readHead_36 : decode cX3_readHead 36 = .ok (.invokevirtual 79, 3) := by decide +kernel
theorem dX3_readHead_39 : decode cX3_readHead 39 = .ok (.putfield 91, 3) := by decide +kernel
theorem dX3_readHead_42 : decode cX3_readHead 42 = .ok (.return_, 1) := by decide +kernel
theorem dX3_readInk_0 : decode cX3_readInk 0 = .ok (.aload_n 1, 1) := by decide +kernel
theorem dX3_readInk_1 : decode cX3_readInk 1 = .ok (.getfield 93, 3) := by decide +kernel
theorem dX3_readInk_4 : decode cX3_readInk 4 = .ok (.iconst 4, 1) := by decide +kernel
theorem dX3_readInk_5 : decode cX3_readInk 5 = .ok (.if_icmp .lt 9, 3) := by decide +kernel
theorem dX3_readInk_8 : decode cX3_readInk 8 = .ok (.aload_n 0, 1) := by decide +kernel
theorem dX3_readInk_9 : decode cX3_readInk 9 = .ok (.iconst 3, 1) := by decide +kernel
theorem dX3_readInk_10 : decode cX3_readInk 10 = .ok (.invokevirtual 44, 3) := by decide +kernel
theorem dX3_readInk_13 : decode cX3_readInk 13 = .ok (.return_, 1) := by decide +kernel
theorem dX3_readInk_14 : decode cX3_readInk 14 = .ok (.aload_n 0, 1) := by decide +kernel
theorem dX3_readInk_15 : decode cX3_readInk 15 = .ok (.invokevirtual 37, 3) := by decide +kernel
theorem dX3_readInk_18 : decode cX3_readInk 18 = .ok (.aload_n 0, 1) := by decide +kernel
theorem dX3_readInk_19 : decode cX3_readInk 19 = .ok (.ldc 96, 2) := by decide +kernel
theorem dX3_readInk_21 : decode cX3_readInk 21 = .ok (.iconst 1, 1) := by decide +kernel
theorem dX3_readInk_22 : decode cX3_readInk 22 = .ok (.bipush 20, 2) := by decide +kernel
theorem dX3_readInk_24 : decode cX3_readInk 24 = .ok (.invokevirtual 79, 3) := by decide +kernel
theorem dX3_readInk_27 : decode cX3_readInk 27 = .ok (.istore_n 2, 1) := by decide +kernel
theorem dX3_readInk_28 : decode cX3_readInk 28 = .ok (.aload_n 0, 1) := by decide +kernel
theorem dX3_readInk_29 : decode cX3_readInk 29 = .ok (.ldc 98, 2) := by decide +kernel
theorem dX3_readInk_31 : decode cX3_readInk 31 = .ok (.iconst 1, 1) := by decide +kernel
theorem dX3_readInk_32 : decode cX3_readInk 32 = .ok (.bipush 60, 2) := by decide +kernel
theorem dX3_readInk_34 : decode cX3_readInk 34 = .ok (.invokevirtual 79, 3) := by decide +kernel
theorem dX3_readInk_37 : decode cX3_readInk 37 = .ok (.istore_n 3, 1) := by decide +kernel
theorem dX3_readInk_38 : decode cX3_readInk 38 = .ok (.aload_n 0, 1) := by decide +kernel
theorem dX3_readInk_39 : decode cX3_readInk 39 = .ok (.ldc 100, 2) := by decide +kernel
theorem dX3_readInk_41 : decode cX3_readInk 41 = .ok (.iconst 0, 1) := by decide +kernel
theorem dX3_readInk_42 : decode cX3_readInk 42 = .ok (.bipush 9, 2) := by decide +kernel
theorem dX3_readInk_44 : decode cX3_readInk 44 = .ok (.invokevirtual 79, 3) := by decide +kernel
theorem dX3_readInk_47 : decode cX3_readInk 47 = .ok (.istore 4, 2) := by decide +kernel
theorem dX3_readInk_49 : decode cX3_readInk 49 = .ok (.aload_n 0, 1) := by decide +kernel
theorem dX3_readInk_50 : decode cX3_readInk 50 = .ok (.getfield 19, 3) := by decide +kernel
theorem dX3_readInk_53 : decode cX3_readInk 53 = .ok (.ifCond .ne 11, 3) := by decide +kernel
theorem dX3_readInk_56 : decode cX3_readInk 56 = .ok (.aload_n 1, 1) := by decide +kernel
theorem dX3_readInk_57 : decode cX3_readInk 57 = .ok (.iload_n 2, 1) := by decide +kernel
theorem dX3_readInk_58 : decode cX3_readInk 58 = .ok (.iload_n 3, 1) := by decide +kernel
theorem dX3_readInk_59 : decode cX3_readInk 59 = .ok (.iload 4, 2) := by decide +kernel
theorem dX3_readInk_61 : decode cX3_readInk 61 = .ok (.invokevirtual 102, 3) := by decide +kernel
theorem dX3_readInk_64 : decode cX3_readInk 64 = .ok (.return_, 1) := by decide +kernel
theorem dX3_readPage_0 : decode cX3_readPage 0 = .ok (.aload_n 1, 1) := by decide +kernel
theorem dX3_readPage_1 : decode cX3_readPage 1 = .ok (.getfield 106, 3) := by decide +kernel
theorem dX3_readPage_4 : decode cX3_readPage 4 = .ok (.iconst 4, 1) := by decide +kernel
theorem dX3_readPage_5 : decode cX3_readPage 5 = .ok (.if_icmp .lt 9, 3) := by decide +kernel
theorem dX3_readPage_8 : decode cX3_readPage 8 = .ok (.aload_n 0, 1) := by decide +kernel
theorem dX3_readPage_9 : decode cX3_readPage 9 = .ok (.iconst 3, 1) := by decide +kernel
theorem dX3_readPage_10 : decode cX3_readPage 10 = .ok (.invokevirtual 44, 3) := by decide +kernel
theorem dX3_readPage_13 : decode cX3_readPage 13 = .ok (.return_, 1) := by decide +kernel
theorem dX3_readPage_14 : decode cX3_readPage 14 = .ok (.aload_n 0, 1) := by decide +kernel
theorem dX3_readPage_15 : decode cX3_readPage 15 = .ok (.invokevirtual 37, 3) := by decide +kernel
theorem dX3_readPage_18 : decode cX3_readPage 18 = .ok (.aload_n 0, 1) := by decide +kernel
theorem dX3_readPage_19 : decode cX3_readPage 19 = .ok (.ldc 109, 2) := by decide +kernel
theorem dX3_readPage_21 : decode cX3_readPage 21 = .ok (.invokevirtual 55, 3) := by decide +kernel
theorem dX3_readPage_24 : decode cX3_readPage 24 = .ok (.istore_n 2, 1) := by decide +kernel
theorem dX3_readPage_25 : decode cX3_readPage 25 = .ok (.iload_n 2, 1) := by decide +kernel
theorem dX3_readPage_26 : decode cX3_readPage 26 = .ok (.ifCond .eq 7, 3) := by decide +kernel
theorem dX3_readPage_29 : decode cX3_readPage 29 = .ok (.aload_n 0, 1) := by decide +kernel
theorem dX3_readPage_30 : decode cX3_readPage 30 = .ok (.invokevirtual 37, 3) := by decide +kernel
theorem dX3_readPage_33 : decode cX3_readPage 33 = .ok (.aload_n 1, 1) := by decide +kernel
theorem dX3_readPage_34 : decode cX3_readPage 34 = .ok (.iload_n 2, 1) := by decide +kernel
theorem dX3_readPage_35 : decode cX3_readPage 35 = .ok (.invokevirtual 111, 3) := by decide +kernel
theorem dX3_readPage_38 : decode cX3_readPage 38 = .ok (.return_, 1) := by decide +kernel
theorem dX3_readEntry_0 : decode cX3_readEntry 0 = .ok (.aload_n 1, 1) := by decide +kernel
theorem dX3_readEntry_1 : decode cX3_readEntry 1 = .ok (.getfield 115, 3) := by decide +kernel
theorem dX3_readEntry_4 : decode cX3_readEntry 4 = .ok (.bipush 7, 2) := by decide +kernel
theorem dX3_readEntry_6 : decode cX3_readEntry 6 = .ok (.if_icmp .lt 9, 3) := by decide +kernel
theorem dX3_readEntry_9 : decode cX3_readEntry 9 = .ok (.aload_n 0, 1) := by decide +kernel
theorem dX3_readEntry_10 : decode cX3_readEntry 10 = .ok (.iconst 3, 1) := by decide +kernel
theorem dX3_readEntry_11 : decode cX3_readEntry 11 = .ok (.invokevirtual 44, 3) := by decide +kernel
theorem dX3_readEntry_14 : decode cX3_readEntry 14 = .ok (.return_, 1) := by decide +kernel
theorem dX3_readEntry_15 : decode cX3_readEntry 15 = .ok (.aload_n 0, 1) := by decide +kernel
theorem dX3_readEntry_16 : decode cX3_readEntry 16 = .ok (.invokevirtual 37, 3) := by decide +kernel
theorem dX3_readEntry_19 : decode cX3_readEntry 19 = .ok (.aload_n 0, 1) := by decide +kernel
theorem dX3_readEntry_20 : decode cX3_readEntry 20 = .ok (.ldc 118, 2) := by decide +kernel
theorem dX3_readEntry_22 : decode cX3_readEntry 22 = .ok (.iconst 0, 1) := by decide +kernel
theorem dX3_readEntry_23 : decode cX3_readEntry 23 = .ok (.aload_n 1, 1) := by decide +kernel
theorem dX3_readEntry_24 : decode cX3_readEntry 24 = .ok (.getfield 106, 3) := by decide +kernel
theorem dX3_readEntry_27 : decode cX3_readEntry 27 = .ok (.iconst 1, 1) := by decide +kernel
theorem dX3_readEntry_28 : decode cX3_readEntry 28 = .ok (.isub, 1) := by decide +kernel
theorem dX3_readEntry_29 : decode cX3_readEntry 29 = .ok (.invokevirtual 79, 3) := by decide +kernel
theorem dX3_readEntry_32 : decode cX3_readEntry 32 = .ok (.istore_n 2, 1) := by decide +kernel
theorem dX3_readEntry_33 : decode cX3_readEntry 33 = .ok (.aload_n 0, 1) := by decide +kernel
theorem dX3_readEntry_34 : decode cX3_readEntry 34 = .ok (.ldc 120, 2) := by decide +kernel
theorem dX3_readEntry_36 : decode cX3_readEntry 36 = .ok (.iconst 0, 1) := by decide +kernel
theorem dX3_readEntry_37 : decode cX3_readEntry 37 = .ok (.aload_n 1, 1) := by decide +kernel
theorem dX3_readEntry_38 : decode cX3_readEntry 38 = .ok (.getfield 93, 3) := by decide +kernel
theorem dX3_readEntry_41 : decode cX3_readEntry 41 = .ok (.iconst 1, 1) := by decide +kernel
theorem dX3_readEntry_42 : decode cX3_readEntry 42 = .ok (.isub, 1) := by decide +kernel
theorem dX3_readEntry_43 : decode cX3_readEntry 43 = .ok (.invokevirtual 79, 3) := by decide +kernel
theorem dX3_readEntry_46 : decode cX3_readEntry 46 = .ok (.istore_n 3, 1) := by decide +kernel
theorem dX3_readEntry_47 : decode cX3_readEntry 47 = .ok (.aload_n 0, 1) := by decide +kernel
theorem dX3_readEntry_48 : decode cX3_readEntry 48 = .ok (.ldc 122, 2) := by decide +kernel
theorem dX3_readEntry_50 : decode cX3_readEntry 50 = .ok (.iconst 0, 1) := by decide +kernel
theorem dX3_readEntry_51 : decode cX3_readEntry 51 = .ok (.bipush 20, 2) := by decide +kernel
theorem dX3_readEntry_53 : decode cX3_readEntry 53 = .ok (.invokevirtual 79, 3) := by decide +kernel
theorem dX3_readEntry_56 : decode cX3_readEntry 56 = .ok (.istore 4, 2) := by decide +kernel
theorem dX3_readEntry_58 : decode cX3_readEntry 58 = .ok (.aload_n 0, 1) := by decide +kernel
theorem dX3_readEntry_59 : decode cX3_readEntry 59 = .ok (.ldc 124, 2) := by decide +kernel
theorem dX3_readEntry_61 : decode cX3_readEntry 61 = .ok (.iconst 0, 1) := by decide +kernel
theorem dX3_readEntry_62 : decode cX3_readEntry 62 = .ok (.bipush 20, 2) := by decide +kernel
theorem dX3_readEntry_64 : decode cX3_readEntry 64 = .ok (.invokevirtual 79, 3) := by decide +kernel
theorem dX3_readEntry_67 : decode cX3_readEntry 67 = .ok (.istore 5, 2) := by decide +kernel
theorem dX3_readEntry_69 : decode cX3_readEntry 69 = .ok (.aload_n 0, 1) := by decide +kernel
theorem dX3_readEntry_70 : decode cX3_readEntry 70 = .ok (.getfield 19, 3) := by decide +kernel
theorem dX3_readEntry_73 : decode cX3_readEntry 73 = .ok (.ifCond .ne 13, 3) := by decide +kernel
theorem dX3_readEntry_76 : decode cX3_readEntry 76 = .ok (.aload_n 1, 1) := by decide +kernel
theorem dX3_readEntry_77 : decode cX3_readEntry 77 = .ok (.iload_n 2, 1) := by decide +kernel
theorem dX3_readEntry_78 : decode cX3_readEntry 78 = .ok (.iload_n 3, 1) := by decide +kernel
theorem dX3_readEntry_79 : decode cX3_readEntry 79 = .ok (.iload 4, 2) := by decide +kernel
theorem dX3_readEntry_81 : decode cX3_readEntry 81 = .ok (.iload 5, 2) := by decide +kernel
theorem dX3_readEntry_83 : decode cX3_readEntry 83 = .ok (.invokevirtual 126, 3) := by decide +kernel
theorem dX3_readEntry_86 : decode cX3_readEntry 86 = .ok (.return_, 1) := by decide +kernel
theorem dX3_numberBehind_0 : decode cX3_numberBehind 0 = .ok (.aload_n 0, 1) := by decide +kernel
theorem dX3_numberBehind_1 : decode cX3_numberBehind 1 = .ok (.getfield 19, 3) := by decide +kernel
theorem dX3_numberBehind_4 : decode cX3_numberBehind 4 = .ok (.ifCond .ne 16, 3) := by decide +kernel
theorem dX3_numberBehind_7 : decode cX3_numberBehind 7 = .ok (.aload_n 0, 1) := by decide +kernel
theorem dX3_numberBehind_8 : decode cX3_numberBehind 8 = .ok (.aload_n 1, 1) := by decide +kernel
theorem dX3_numberBehind_9 : decode cX3_numberBehind 9 = .ok (.invokevirtual 55, 3) := by decide +kernel
theorem dX3_numberBehind_12 : decode cX3_numberBehind 12 = .ok (.ifCond .ne 8, 3) := by decide +kernel
theorem dX3_numberBehind_15 : decode cX3_numberBehind 15 = .ok (.aload_n 0, 1) := by decide +kernel
theorem dX3_numberBehind_16 : decode cX3_numberBehind 16 = .ok (.iconst 1, 1) := by decide +kernel
theorem dX3_numberBehind_17 : decode cX3_numberBehind 17 = .ok (.invokevirtual 44, 3) := by decide +kernel
theorem dX3_numberBehind_20 : decode cX3_numberBehind 20 = .ok (.aload_n 0, 1) := by decide +kernel
theorem dX3_numberBehind_21 : decode cX3_numberBehind 21 = .ok (.getfield 19, 3) := by decide +kernel
theorem dX3_numberBehind_24 : decode cX3_numberBehind 24 = .ok (.ifCond .eq 5, 3) := by decide +kernel
theorem dX3_numberBehind_27 : decode cX3_numberBehind 27 = .ok (.iconst 0, 1) := by decide +kernel
theorem dX3_numberBehind_28 : decode cX3_numberBehind 28 = .ok (.ireturn, 1) := by decide +kernel
theorem dX3_numberBehind_29 : decode cX3_numberBehind 29 = .ok (.aload_n 0, 1) := by decide +kernel
theorem dX3_numberBehind_30 : decode cX3_numberBehind 30 = .ok (.invokevirtual 37, 3) := by decide +kernel
theorem dX3_numberBehind_33 : decode cX3_numberBehind 33 = .ok (.aload_n 0, 1) := by decide +kernel
theorem dX3_numberBehind_34 : decode cX3_numberBehind 34 = .ok (.getfield 25, 3) := by decide +kernel
theorem dX3_numberBehind_37 : decode cX3_numberBehind 37 = .ok (.iconst 2, 1) := by decide +kernel
theorem dX3_numberBehind_38 : decode cX3_numberBehind 38 = .ok (.if_icmp .eq 10, 3) := by decide +kernel
theorem dX3_numberBehind_41 : decode cX3_numberBehind 41 = .ok (.aload_n 0, 1) := by decide +kernel
theorem dX3_numberBehind_42 : decode cX3_numberBehind 42 = .ok (.iconst 1, 1) := by decide +kernel
theorem dX3_numberBehind_43 : decode cX3_numberBehind 43 = .ok (.invokevirtual 44, 3) := by decide +kernel
theorem dX3_numberBehind_46 : decode cX3_numberBehind 46 = .ok (.iconst 0, 1) := by decide +kernel
theorem dX3_numberBehind_47 : decode cX3_numberBehind 47 = .ok (.ireturn, 1) := by decide +kernel
theorem dX3_numberBehind_48 : decode cX3_numberBehind 48 = .ok (.aload_n 0, 1) := by decide +kernel
theorem dX3_numberBehind_49 : decode cX3_numberBehind 49 = .ok (.getfield 34, 3) := by decide +kernel
theorem dX3_numberBehind_52 : decode cX3_numberBehind 52 = .ok (.iload_n 2, 1) := by decide +kernel
theorem dX3_numberBehind_53 : decode cX3_numberBehind 53 = .ok (.if_icmp .lt 11, 3) := by decide +kernel
theorem dX3_numberBehind_56 : decode cX3_numberBehind 56 = .ok (.aload_n 0, 1) := by decide +kernel
theorem dX3_numberBehind_57 : decode cX3_numberBehind 57 = .ok (.getfield 34, 3) := by decide +kernel
theorem dX3_numberBehind_60 : decode cX3_numberBehind 60 = .ok (.iload_n 3, 1) := by decide +kernel
theorem dX3_numberBehind_61 : decode cX3_numberBehind 61 = .ok (.if_icmp .le 10, 3) := by decide +kernel
theorem dX3_numberBehind_64 : decode cX3_numberBehind 64 = .ok (.aload_n 0, 1) := by decide +kernel
theorem dX3_numberBehind_65 : decode cX3_numberBehind 65 = .ok (.iconst 2, 1) := by decide +kernel
theorem dX3_numberBehind_66 : decode cX3_numberBehind 66 = .ok (.invokevirtual 44, 3) := by decide +kernel
theorem dX3_numberBehind_69 : decode cX3_numberBehind 69 = .ok (.iconst 0, 1) := by decide +kernel
theorem dX3_numberBehind_70 : decode cX3_numberBehind 70 = .ok (.ireturn, 1) := by decide +kernel
theorem dX3_numberBehind_71 : decode cX3_numberBehind 71 = .ok (.aload_n 0, 1) := by decide +kernel
theorem dX3_numberBehind_72 : decode cX3_numberBehind 72 = .ok (.getfield 34, 3) := by decide +kernel
theorem dX3_numberBehind_75 : decode cX3_numberBehind 75 = .ok (.istore 4, 2) := by decide +kernel
theorem dX3_numberBehind_77 : decode cX3_numberBehind 77 = .ok (.aload_n 0, 1) := by decide +kernel
theorem dX3_numberBehind_78 : decode cX3_numberBehind 78 = .ok (.invokevirtual 37, 3) := by decide +kernel
theorem dX3_numberBehind_81 : decode cX3_numberBehind 81 = .ok (.iload 4, 2) := by decide +kernel
theorem dX3_numberBehind_83 : decode cX3_numberBehind 83 = .ok (.ireturn, 1) := by decide +kernel
theorem dX3_blame_0 : decode cX3_blame 0 = .ok (.aload_n 0, 1) := by decide +kernel
theorem dX3_blame_1 : decode cX3_blame 1 = .ok (.getfield 19, 3) := by decide +kernel
theorem dX3_blame_4 : decode cX3_blame 4 = .ok (.ifCond .ne 16, 3) := by decide +kernel
theorem dX3_blame_7 : decode cX3_blame 7 = .ok (.aload_n 0, 1) := by decide +kernel
theorem dX3_blame_8 : decode cX3_blame 8 = .ok (.iload_n 1, 1) := by decide +kernel
theorem dX3_blame_9 : decode cX3_blame 9 = .ok (.putfield 19, 3) := by decide +kernel
theorem dX3_blame_12 : decode cX3_blame 12 = .ok (.aload_n 0, 1) := by decide +kernel
theorem dX3_blame_13 : decode cX3_blame 13 = .ok (.aload_n 0, 1) := by decide +kernel
theorem dX3_blame_14 : decode cX3_blame 14 = .ok (.getfield 28, 3) := by decide +kernel
theorem dX3_blame_17 : decode cX3_blame 17 = .ok (.putfield 22, 3) := by decide +kernel
theorem dX3_blame_20 : decode cX3_blame 20 = .ok (.return_, 1) := by decide +kernel
theorem dX3_isWord_0 : decode cX3_isWord 0 = .ok (.aload_n 0, 1) := by decide +kernel
theorem dX3_isWord_1 : decode cX3_isWord 1 = .ok (.getfield 25, 3) := by decide +kernel
theorem dX3_isWord_4 : decode cX3_isWord 4 = .ok (.iconst 1, 1) := by decide +kernel
theorem dX3_isWord_5 : decode cX3_isWord 5 = .ok (.if_icmp .ne 19, 3) := by decide +kernel
theorem dX3_isWord_8 : decode cX3_isWord 8 = .ok (.aload_n 0, 1) := by decide +kernel
theorem dX3_isWord_9 : decode cX3_isWord 9 = .ok (.getfield 31, 3) := by decide +kernel
theorem dX3_isWord_12 : decode cX3_isWord 12 = .ok (.aload_n 0, 1) := by decide +kernel
theorem dX3_isWord_13 : decode cX3_isWord 13 = .ok (.getfield 28, 3) := by decide +kernel
theorem dX3_isWord_16 : decode cX3_isWord 16 = .ok (.isub, 1) := by decide +kernel
theorem dX3_isWord_17 : decode cX3_isWord 17 = .ok (.aload_n 1, 1) := by decide +kernel
theorem dX3_isWord_18 : decode cX3_isWord 18 = .ok (.invokevirtual 130, 3) := by decide +kernel
theorem dX3_isWord_21 : decode cX3_isWord 21 = .ok (.if_icmp .eq 5, 3) := by decide +kernel
theorem dX3_isWord_24 : decode cX3_isWord 24 = .ok (.iconst 0, 1) := by decide +kernel
theorem dX3_isWord_25 : decode cX3_isWord 25 = .ok (.ireturn, 1) := by decide +kernel
theorem dX3_isWord_26 : decode cX3_isWord 26 = .ok (.iconst 0, 1) := by decide +kernel
theorem dX3_isWord_27 : decode cX3_isWord 27 = .ok (.istore_n 2, 1) := by decide +kernel
theorem dX3_isWord_28 : decode cX3_isWord 28 = .ok (.iload_n 2, 1) := by decide +kernel
theorem dX3_isWord_29 : decode cX3_isWord 29 = .ok (.aload_n 1, 1) := by decide +kernel
theorem dX3_isWord_30 : decode cX3_isWord 30 = .ok (.invokevirtual 130, 3) := by decide +kernel
theorem dX3_isWord_33 : decode cX3_isWord 33 = .ok (.if_icmp .ge 29, 3) := by decide +kernel
theorem dX3_isWord_36 : decode cX3_isWord 36 = .ok (.aload_n 0, 1) := by decide +kernel
theorem dX3_isWord_37 : decode cX3_isWord 37 = .ok (.aload_n 0, 1) := by decide +kernel
theorem dX3_isWord_38 : decode cX3_isWord 38 = .ok (.getfield 28, 3) := by decide +kernel
theorem dX3_isWord_41 : decode cX3_isWord 41 = .ok (.iload_n 2, 1) := by decide +kernel
theorem dX3_isWord_42 : decode cX3_isWord 42 = .ok (.iadd, 1) := by decide +kernel
theorem dX3_isWord_43 : decode cX3_isWord 43 = .ok (.invokevirtual 135, 3) := by decide +kernel
theorem dX3_isWord_46 : decode cX3_isWord 46 = .ok (.aload_n 1, 1) := by decide +kernel
theorem dX3_isWord_47 : decode cX3_isWord 47 = .ok (.iload_n 2, 1) := by decide +kernel
theorem dX3_isWord_48 : decode cX3_isWord 48 = .ok (.invokevirtual 139, 3) := by decide +kernel
theorem dX3_isWord_51 : decode cX3_isWord 51 = .ok (.if_icmp .eq 5, 3) := by decide +kernel
theorem dX3_isWord_54 : decode cX3_isWord 54 = .ok (.iconst 0, 1) := by decide +kernel
theorem dX3_isWord_55 : decode cX3_isWord 55 = .ok (.ireturn, 1) := by decide +kernel
theorem dX3_isWord_56 : decode cX3_isWord 56 = .ok (.iinc 2 1, 3) := by decide +kernel
theorem dX3_isWord_59 : decode cX3_isWord 59 = .ok (.goto (-31), 3) := by decide +kernel
theorem dX3_isWord_62 : decode cX3_isWord 62 = .ok (.iconst 1, 1) := by decide +kernel
theorem dX3_isWord_63 : decode cX3_isWord 63 = .ok (.ireturn, 1) := by decide +kernel
theorem dX3_byteAt_0 : decode cX3_byteAt 0 = .ok (.iload_n 1, 1) := by decide +kernel
theorem dX3_byteAt_1 : decode cX3_byteAt 1 = .ok (.ifCond .lt 31, 3) := by decide +kernel
theorem dX3_byteAt_4 : decode cX3_byteAt 4 = .ok (.iload_n 1, 1) := by decide +kernel
theorem dX3_byteAt_5 : decode cX3_byteAt 5 = .ok (.aload_n 0, 1) := by decide +kernel
theorem dX3_byteAt_6 : decode cX3_byteAt 6 = .ok (.getfield 15, 3) := by decide +kernel
theorem dX3_byteAt_9 : decode cX3_byteAt 9 = .ok (.if_icmp .ge 23, 3) := by decide +kernel
theorem dX3_byteAt_12 : decode cX3_byteAt 12 = .ok (.iload_n 1, 1) := by decide +kernel
theorem dX3_byteAt_13 : decode cX3_byteAt 13 = .ok (.sipush 700, 3) := by decide +kernel
theorem dX3_byteAt_16 : decode cX3_byteAt 16 = .ok (.if_icmp .ge 16, 3) := by decide +kernel
theorem dX3_byteAt_19 : decode cX3_byteAt 19 = .ok (.aload_n 0, 1) := by decide +kernel
theorem dX3_byteAt_20 : decode cX3_byteAt 20 = .ok (.getfield 9, 3) := by decide +kernel
theorem dX3_byteAt_23 : decode cX3_byteAt 23 = .ok (.iload_n 1, 1) := by decide +kernel
theorem dX3_byteAt_24 : decode cX3_byteAt 24 = .ok (.baload, 1) := by decide +kernel
theorem dX3_byteAt_25 : decode cX3_byteAt 25 = .ok (.sipush 255, 3) := by decide +kernel
theorem dX3_byteAt_28 : decode cX3_byteAt 28 = .ok (.iand, 1) := by decide +kernel
theorem dX3_byteAt_29 : decode cX3_byteAt 29 = .ok (.goto 4, 3) := by decide +kernel
theorem dX3_byteAt_32 : decode cX3_byteAt 32 = .ok (.iconst (-1), 1) := by decide +kernel
theorem dX3_byteAt_33 : decode cX3_byteAt 33 = .ok (.ireturn, 1) := by decide +kernel
theorem dX3_advance_0 : decode cX3_advance 0 = .ok (.aload_n 0, 1) := by decide +kernel
theorem dX3_advance_1 : decode cX3_advance 1 = .ok (.aload_n 0, 1) := by decide +kernel
theorem dX3_advance_2 : decode cX3_advance 2 = .ok (.getfield 31, 3) := by decide +kernel
theorem dX3_advance_5 : decode cX3_advance 5 = .ok (.putfield 28, 3) := by decide +kernel
theorem dX3_advance_8 : decode cX3_advance 8 = .ok (.aload_n 0, 1) := by decide +kernel
theorem dX3_advance_9 : decode cX3_advance 9 = .ok (.getfield 28, 3) := by decide +kernel
theorem dX3_advance_12 : decode cX3_advance 12 = .ok (.aload_n 0, 1) := by decide +kernel
theorem dX3_advance_13 : decode cX3_advance 13 = .ok (.getfield 15, 3) := by decide +kernel
theorem dX3_advance_16 : decode cX3_advance 16 = .ok (.if_icmp .ge 42, 3) := by decide +kernel
theorem dX3_advance_19 : decode cX3_advance 19 = .ok (.aload_n 0, 1) := by decide +kernel
theorem dX3_advance_20 : decode cX3_advance 20 = .ok (.aload_n 0, 1) := by decide +kernel
theorem dX3_advance_21 : decode cX3_advance 21 = .ok (.getfield 28, 3) := by decide +kernel
theorem dX3_advance_24 : decode cX3_advance 24 = .ok (.invokevirtual 135, 3) := by decide +kernel
theorem dX3_advance_27 : decode cX3_advance 27 = .ok (.bipush 32, 2) := by decide +kernel
theorem dX3_advance_29 : decode cX3_advance 29 = .ok (.if_icmp .eq 16, 3) := by decide +kernel
theorem dX3_advance_32 : decode cX3_advance 32 = .ok (.aload_n 0, 1) := by decide +kernel
theorem dX3_advance_33 : decode cX3_advance 33 = .ok (.aload_n 0, 1) := by decide +kernel
theorem dX3_advance_34 : decode cX3_advance 34 = .ok (.getfield 28, 3) := by decide +kernel
theorem dX3_advance_37 : decode cX3_advance 37 = .ok (.invokevirtual 135, 3) := by decide +kernel
theorem dX3_advance_40 : decode cX3_advance 40 = .ok (.bipush 10, 2) := by decide +kernel
theorem dX3_advance_42 : decode cX3_advance 42 = .ok (.if_icmp .ne 16, 3) := by decide +kernel
theorem dX3_advance_45 : decode cX3_advance 45 = .ok (.aload_n 0, 1) := by decide +kernel
theorem dX3_advance_46 : decode cX3_advance 46 = .ok (.dup, 1) := by decide +kernel
theorem dX3_advance_47 : decode cX3_advance 47 = .ok (.getfield 28, 3) := by decide +kernel
theorem dX3_advance_50 : decode cX3_advance 50 = .ok (.iconst 1, 1) := by decide +kernel
theorem dX3_advance_51 : decode cX3_advance 51 = .ok (.iadd, 1) := by decide +kernel
theorem dX3_advance_52 : decode cX3_advance 52 = .ok (.putfield 28, 3) := by decide +kernel
theorem dX3_advance_55 : decode cX3_advance 55 = .ok (.goto (-47), 3) := by decide +kernel
theorem dX3_advance_58 : decode cX3_advance 58 = .ok (.aload_n 0, 1) := by decide +kernel
theorem dX3_advance_59 : decode cX3_advance 59 = .ok (.aload_n 0, 1) := by decide +kernel
theorem dX3_advance_60 : decode cX3_advance 60 = .ok (.getfield 28, 3) := by decide +kernel
theorem dX3_advance_63 : decode cX3_advance 63 = .ok (.putfield 31, 3) := by decide +kernel
theorem dX3_advance_66 : decode cX3_advance 66 = .ok (.aload_n 0, 1) := by decide +kernel
theorem dX3_advance_67 : decode cX3_advance 67 = .ok (.getfield 28, 3) := by decide +kernel
theorem dX3_advance_70 : decode cX3_advance 70 = .ok (.aload_n 0, 1) := by decide +kernel
theorem dX3_advance_71 : decode cX3_advance 71 = .ok (.getfield 15, 3) := by decide +kernel
theorem dX3_advance_74 : decode cX3_advance 74 = .ok (.if_icmp .lt 11, 3) := by decide +kernel
theorem dX3_advance_77 : decode cX3_advance 77 = .ok (.aload_n 0, 1) := by decide +kernel
theorem dX3_advance_78 : decode cX3_advance 78 = .ok (.iconst 0, 1) := by decide +kernel
theorem dX3_advance_79 : decode cX3_advance 79 = .ok (.putfield 25, 3) := by decide +kernel
theorem dX3_advance_82 : decode cX3_advance 82 = .ok (.goto 183, 3) := by decide +kernel
theorem dX3_advance_85 : decode cX3_advance 85 = .ok (.aload_n 0, 1) := by decide +kernel
theorem dX3_advance_86 : decode cX3_advance 86 = .ok (.aload_n 0, 1) := by decide +kernel
theorem dX3_advance_87 : decode cX3_advance 87 = .ok (.getfield 28, 3) := by decide +kernel
theorem dX3_advance_90 : decode cX3_advance 90 = .ok (.invokevirtual 135, 3) := by decide +kernel
theorem dX3_advance_93 : decode cX3_advance 93 = .ok (.invokestatic 143, 3) := by decide +kernel
theorem dX3_advance_96 : decode cX3_advance 96 = .ok (.ifCond .eq 46, 3) := by decide +kernel
theorem dX3_advance_99 : decode cX3_advance 99 = .ok (.aload_n 0, 1) := by decide +kernel
theorem dX3_advance_100 : decode cX3_advance 100 = .ok (.iconst 1, 1) := by decide +kernel
theorem dX3_advance_101 : decode cX3_advance 101 = .ok (.putfield 25, 3) := by decide +kernel
theorem dX3_advance_104 : decode cX3_advance 104 = .ok (.aload_n 0, 1) := by decide +kernel
theorem dX3_advance_105 : decode cX3_advance 105 = .ok (.getfield 31, 3) := by decide +kernel
theorem dX3_advance_108 : decode cX3_advance 108 = .ok (.aload_n 0, 1) := by decide +kernel
theorem dX3_advance_109 : decode cX3_advance 109 = .ok (.getfield 15, 3) := by decide +kernel
theorem dX3_advance_112 : decode cX3_advance 112 = .ok (.if_icmp .ge 153, 3) := by decide +kernel
theorem dX3_advance_115 : decode cX3_advance 115 = .ok (.aload_n 0, 1) := by decide +kernel
theorem dX3_advance_116 : decode cX3_advance 116 = .ok (.aload_n 0, 1) := by decide +kernel
theorem dX3_advance_117 : decode cX3_advance 117 = .ok (.getfield 31, 3) := by decide +kernel
theorem dX3_advance_120 : decode cX3_advance 120 = .ok (.invokevirtual 135, 3) := by decide +kernel
theorem dX3_advance_123 : decode cX3_advance 123 = .ok (.invokestatic 143, 3) := by decide +kernel
theorem dX3_advance_126 : decode cX3_advance 126 = .ok (.ifCond .eq 139, 3) := by decide +kernel
theorem dX3_advance_129 : decode cX3_advance 129 = .ok (.aload_n 0, 1) := by decide +kernel
theorem dX3_advance_130 : decode cX3_advance 130 = .ok (.dup, 1) := by decide +kernel
theorem dX3_advance_131 : decode cX3_advance 131 = .ok (.getfield 31, 3) := by decide +kernel
theorem dX3_advance_134 : decode cX3_advance 134 = .ok (.iconst 1, 1) := by decide +kernel
theorem dX3_advance_135 : decode cX3_advance 135 = .ok (.iadd, 1) := by decide +kernel
theorem dX3_advance_136 : decode cX3_advance 136 = .ok (.putfield 31, 3) := by decide +kernel
theorem dX3_advance_139 : decode cX3_advance 139 = .ok (.goto (-35), 3) := by decide +kernel
theorem dX3_advance_142 : decode cX3_advance 142 = .ok (.aload_n 0, 1) := by decide +kernel
theorem dX3_advance_143 : decode cX3_advance 143 = .ok (.aload_n 0, 1) := by decide +kernel
theorem dX3_advance_144 : decode cX3_advance 144 = .ok (.getfield 28, 3) := by decide +kernel
theorem dX3_advance_147 : decode cX3_advance 147 = .ok (.invokevirtual 135, 3) := by decide +kernel
theorem dX3_advance_150 : decode cX3_advance 150 = .ok (.invokestatic 147, 3) := by decide +kernel
theorem dX3_advance_153 : decode cX3_advance 153 = .ok (.ifCond .eq 80, 3) := by decide +kernel
theorem dX3_advance_156 : decode cX3_advance 156 = .ok (.aload_n 0, 1) := by decide +kernel
theorem dX3_advance_157 : decode cX3_advance 157 = .ok (.iconst 2, 1) := by decide +kernel
theorem dX3_advance_158 : decode cX3_advance 158 = .ok (.putfield 25, 3) := by decide +kernel
theorem dX3_advance_161 : decode cX3_advance 161 = .ok (.aload_n 0, 1) := by decide +kernel
theorem dX3_advance_162 : decode cX3_advance 162 = .ok (.iconst 0, 1) := by decide +kernel
theorem dX3_advance_163 : decode cX3_advance 163 = .ok (.putfield 34, 3) := by decide +kernel
theorem dX3_advance_166 : decode cX3_advance 166 = .ok (.aload_n 0, 1) := by decide +kernel
theorem dX3_advance_167 : decode cX3_advance 167 = .ok (.getfield 31, 3) := by decide +kernel
theorem dX3_advance_170 : decode cX3_advance 170 = .ok (.aload_n 0, 1) := by decide +kernel
theorem dX3_advance_171 : decode cX3_advance 171 = .ok (.getfield 15, 3) := by decide +kernel
theorem dX3_advance_174 : decode cX3_advance 174 = .ok (.if_icmp .ge 91, 3) := by decide +kernel
theorem dX3_advance_177 : decode cX3_advance 177 = .ok (.aload_n 0, 1) := by decide +kernel
theorem dX3_advance_178 : decode cX3_advance 178 = .ok (.aload_n 0, 1) := by decide +kernel
theorem dX3_advance_179 : decode cX3_advance 179 = .ok (.getfield 31, 3) := by decide +kernel
theorem dX3_advance_182 : decode cX3_advance 182 = .ok (.invokevirtual 135, 3) := by decide +kernel
theorem dX3_advance_185 : decode cX3_advance 185 = .ok (.invokestatic 147, 3) := by decide +kernel
theorem dX3_advance_188 : decode cX3_advance 188 = .ok (.ifCond .eq 77, 3) := by decide +kernel
theorem dX3_advance_191 : decode cX3_advance 191 = .ok (.aload_n 0, 1) := by decide +kernel
theorem dX3_advance_192 : decode cX3_advance 192 = .ok (.sipush 1000, 3) := by decide +kernel
theorem dX3_advance_195 : decode cX3_advance 195 = .ok (.aload_n 0, 1) := by decide +kernel
theorem dX3_advance_196 : decode cX3_advance 196 = .ok (.getfield 34, 3) := by decide +kernel
theorem dX3_advance_199 : decode cX3_advance 199 = .ok (.bipush 10, 2) := by decide +kernel
theorem dX3_advance_201 : decode cX3_advance 201 = .ok (.imul, 1) := by decide +kernel
theorem dX3_advance_202 : decode cX3_advance 202 = .ok (.aload_n 0, 1) := by decide +kernel
theorem dX3_advance_203 : decode cX3_advance 203 = .ok (.aload_n 0, 1) := by decide +kernel
theorem dX3_advance_204 : decode cX3_advance 204 = .ok (.getfield 31, 3) := by decide +kernel
theorem dX3_advance_207 : decode cX3_advance 207 = .ok (.invokevirtual 135, 3) := by decide +kernel
theorem dX3_advance_210 : decode cX3_advance 210 = .ok (.iadd, 1) := by decide +kernel
theorem dX3_advance_211 : decode cX3_advance 211 = .ok (.bipush 48, 2) := by decide +kernel
theorem dX3_advance_213 : decode cX3_advance 213 = .ok (.isub, 1) := by decide +kernel
theorem dX3_advance_214 : decode cX3_advance 214 = .ok (.invokestatic 150, 3) := by decide +kernel
theorem dX3_advance_217 : decode cX3_advance 217 = .ok (.putfield 34, 3) := by decide +kernel
theorem dX3_advance_220 : decode cX3_advance 220 = .ok (.aload_n 0, 1) := by decide +kernel
theorem dX3_advance_221 : decode cX3_advance 221 = .ok (.dup, 1) := by decide +kernel
theorem dX3_advance_222 : decode cX3_advance 222 = .ok (.getfield 31, 3) := by decide +kernel
theorem dX3_advance_225 : decode cX3_advance 225 = .ok (.iconst 1, 1) := by decide +kernel
theorem dX3_advance_226 : decode cX3_advance 226 = .ok (.iadd, 1) := by decide +kernel
theorem dX3_advance_227 : decode cX3_advance 227 = .ok (.putfield 31, 3) := by decide +kernel
theorem dX3_advance_230 : decode cX3_advance 230 = .ok (.goto (-64), 3) := by decide +kernel
theorem dX3_advance_233 : decode cX3_advance 233 = .ok (.aload_n 0, 1) := by decide +kernel
theorem dX3_advance_234 : decode cX3_advance 234 = .ok (.aload_n 0, 1) := by decide +kernel
theorem dX3_advance_235 : decode cX3_advance 235 = .ok (.aload_n 0, 1) := by decide +kernel
theorem dX3_advance_236 : decode cX3_advance 236 = .ok (.getfield 28, 3) := by decide +kernel
theorem dX3_advance_239 : decode cX3_advance 239 = .ok (.invokevirtual 135, 3) := by decide +kernel
theorem dX3_advance_242 : decode cX3_advance 242 = .ok (.bipush 59, 2) := by decide +kernel
theorem dX3_advance_244 : decode cX3_advance 244 = .ok (.if_icmp .ne 7, 3) := by decide +kernel
theorem dX3_advance_247 : decode cX3_advance 247 = .ok (.iconst 3, 1) := by decide +kernel
theorem dX3_advance_248 : decode cX3_advance 248 = .ok (.goto 4, 3) := by decide +kernel
theorem dX3_advance_251 : decode cX3_advance 251 = .ok (.iconst 4, 1) := by decide +kernel
theorem dX3_advance_252 : decode cX3_advance 252 = .ok (.putfield 25, 3) := by decide +kernel
theorem dX3_advance_255 : decode cX3_advance 255 = .ok (.aload_n 0, 1) := by decide +kernel
theorem dX3_advance_256 : decode cX3_advance 256 = .ok (.aload_n 0, 1) := by decide +kernel
theorem dX3_advance_257 : decode cX3_advance 257 = .ok (.getfield 28, 3) := by decide +kernel
theorem dX3_advance_260 : decode cX3_advance 260 = .ok (.iconst 1, 1) := by decide +kernel
theorem dX3_advance_261 : decode cX3_advance 261 = .ok (.iadd, 1) := by decide +kernel
theorem dX3_advance_262 : decode cX3_advance 262 = .ok (.putfield 31, 3) := by decide +kernel
theorem dX3_advance_265 : decode cX3_advance 265 = .ok (.return_, 1) := by decide +kernel
theorem dX3_isLetter_0 : decode cX3_isLetter 0 = .ok (.iload_n 0, 1) := by decide +kernel
theorem dX3_isLetter_1 : decode cX3_isLetter 1 = .ok (.bipush 97, 2) := by decide +kernel
theorem dX3_isLetter_3 : decode cX3_isLetter 3 = .ok (.if_icmp .lt 13, 3) := by decide +kernel
theorem dX3_isLetter_6 : decode cX3_isLetter 6 = .ok (.iload_n 0, 1) := by decide +kernel
theorem dX3_isLetter_7 : decode cX3_isLetter 7 = .ok (.bipush 122, 2) := by decide +kernel
theorem dX3_isLetter_9 : decode cX3_isLetter 9 = .ok (.if_icmp .gt 7, 3) := by decide +kernel
theorem dX3_isLetter_12 : decode cX3_isLetter 12 = .ok (.iconst 1, 1) := by decide +kernel
theorem dX3_isLetter_13 : decode cX3_isLetter 13 = .ok (.goto 4, 3) := by decide +kernel
theorem dX3_isLetter_16 : decode cX3_isLetter 16 = .ok (.iconst 0, 1) := by decide +kernel
theorem dX3_isLetter_17 : decode cX3_isLetter 17 = .ok (.ireturn, 1) := by decide +kernel
theorem dX3_isDigit_0 : decode cX3_isDigit 0 = .ok (.iload_n 0, 1) := by decide +kernel
theorem dX3_isDigit_1 : decode cX3_isDigit 1 = .ok (.bipush 48, 2) := by decide +kernel
theorem dX3_isDigit_3 : decode cX3_isDigit 3 = .ok (.if_icmp .lt 13, 3) := by decide +kernel
theorem dX3_isDigit_6 : decode cX3_isDigit 6 = .ok (.iload_n 0, 1) := by decide +kernel
theorem dX3_isDigit_7 : decode cX3_isDigit 7 = .ok (.bipush 57, 2) := by decide +kernel
theorem dX3_isDigit_9 : decode cX3_isDigit 9 = .ok (.if_icmp .gt 7, 3) := by decide +kernel
theorem dX3_isDigit_12 : decode cX3_isDigit 12 = .ok (.iconst 1, 1) := by decide +kernel
theorem dX3_isDigit_13 : decode cX3_isDigit 13 = .ok (.goto 4, 3) := by decide +kernel
theorem dX3_isDigit_16 : decode cX3_isDigit 16 = .ok (.iconst 0, 1) := by decide +kernel
theorem dX3_isDigit_17 : decode cX3_isDigit 17 = .ok (.ireturn, 1) := by decide +kernel
theorem dX4_init_0 : decode cX4_init 0 = .ok (.aload_n 0, 1) := by decide +kernel
theorem dX4_init_1 : decode cX4_init 1 = .ok (.invokespecial 3, 3) := by decide +kernel
theorem dX4_init_4 : decode cX4_init 4 = .ok (.aload_n 0, 1) := by decide +kernel
theorem dX4_init_5 : decode cX4_init 5 = .ok (.bipush 60, 2) := by decide +kernel
theorem dX4_init_7 : decode cX4_init 7 = .ok (.newarray .long, 2) := by decide +kernel
theorem dX4_init_9 : decode cX4_init 9 = .ok (.putfield 9, 3) := by decide +kernel
theorem dX4_init_12 : decode cX4_init 12 = .ok (.aload_n 0, 1) := by decide +kernel
theorem dX4_init_13 : decode cX4_init 13 = .ok (.iconst 0, 1) := by decide +kernel
theorem dX4_init_14 : decode cX4_init 14 = .ok (.putfield 15, 3) := by decide +kernel
theorem dX4_init_17 : decode cX4_init 17 = .ok (.aload_n 0, 1) := by decide +kernel
theorem dX4_init_18 : decode cX4_init 18 = .ok (.iconst 0, 1) := by decide +kernel
theorem dX4_init_19 : decode cX4_init 19 = .ok (.putfield 19, 3) := by decide +kernel
theorem dX4_init_22 : decode cX4_init 22 = .ok (.aload_n 0, 1) := by decide +kernel
theorem dX4_init_23 : decode cX4_init 23 = .ok (.iconst 0, 1) := by decide +kernel
theorem dX4_init_24 : decode cX4_init 24 = .ok (.putfield 23, 3) := by decide +kernel
theorem dX4_init_27 : decode cX4_init 27 = .ok (.return_, 1) := by decide +kernel
theorem dX4_begin_0 : decode cX4_begin 0 = .ok (.aload_n 0, 1) := by decide +kernel
theorem dX4_begin_1 : decode cX4_begin 1 = .ok (.iconst 1, 1) := by decide +kernel
theorem dX4_begin_2 : decode cX4_begin 2 = .ok (.putfield 15, 3) := by decide +kernel
theorem dX4_begin_5 : decode cX4_begin 5 = .ok (.aload_n 0, 1) := by decide +kernel
theorem dX4_begin_6 : decode cX4_begin 6 = .ok (.iload_n 1, 1) := by decide +kernel
theorem dX4_begin_7 : decode cX4_begin 7 = .ok (.putfield 19, 3) := by decide +kernel
theorem dX4_begin_10 : decode cX4_begin 10 = .ok (.aload_n 0, 1) := by decide +kernel
theorem dX4_begin_11 : decode cX4_begin 11 = .ok (.iload_n 2, 1) := by decide +kernel
theorem dX4_begin_12 : decode cX4_begin 12 = .ok (.putfield 23, 3) := by decide +kernel
theorem dX4_begin_15 : decode cX4_begin 15 = .ok (.iconst 0, 1) := by decide +kernel
theorem dX4_begin_16 : decode cX4_begin 16 = .ok (.istore_n 3, 1) := by decide +kernel
theorem dX4_begin_17 : decode cX4_begin 17 = .ok (.iload_n 3, 1) := by decide +kernel
theorem dX4_begin_18 : decode cX4_begin 18 = .ok (.bipush 60, 2) := by decide +kernel
theorem dX4_begin_20 : decode cX4_begin 20 = .ok (.if_icmp .ge 16, 3) := by decide +kernel
theorem dX4_begin_23 : decode cX4_begin 23 = .ok (.aload_n 0, 1) := by decide +kernel
theorem dX4_begin_24 : decode cX4_begin 24 = .ok (.getfield 9, 3) := by decide +kernel
theorem dX4_begin_27 : decode cX4_begin 27 = .ok (.iload_n 3, 1) := by decide +kernel
theorem dX4_begin_28 : decode cX4_begin 28 = .ok (.lconst 0, 1) := by decide +kernel
theorem dX4_begin_29 : decode cX4_begin 29 = .ok (.lastore, 1) := by decide +kernel
theorem dX4_begin_30 : decode cX4_begin 30 = .ok (.iinc 3 1, 3) := by decide +kernel
theorem dX4_begin_33 : decode cX4_begin 33 = .ok (.goto (-16), 3) := by decide +kernel
theorem dX4_begin_36 : decode cX4_begin 36 = .ok (.return_, 1) := by decide +kernel
theorem dX4_keep_0 : decode cX4_keep 0 = .ok (.bipush 64, 2) := by decide +kernel
theorem dX4_keep_2 : decode cX4_keep 2 = .ok (.bipush 8, 2) := by decide +kernel
theorem dX4_keep_4 : decode cX4_keep 4 = .ok (.aload_n 0, 1) := by decide +kernel
theorem dX4_keep_5 : decode cX4_keep 5 = .ok (.getfield 19, 3) := by decide +kernel
theorem dX4_keep_8 : decode cX4_keep 8 = .ok (.ishl, 1) := by decide +kernel
theorem dX4_keep_9 : decode cX4_keep 9 = .ok (.isub, 1) := by decide +kernel
theorem dX4_keep_10 : decode cX4_keep 10 = .ok (.istore 4, 2) := by decide +kernel
theorem dX4_keep_12 : decode cX4_keep 12 = .ok (.aload_n 0, 1) := by decide +kernel
theorem dX4_keep_13 : decode cX4_keep 13 = .ok (.getfield 9, 3) := by decide +kernel
theorem dX4_keep_16 : decode cX4_keep 16 = .ok (.iload_n 1, 1) := by decide +kernel
theorem dX4_keep_17 : decode cX4_keep 17 = .ok (.lload_n 2, 1) := by decide +kernel
theorem dX4_keep_18 : decode cX4_keep 18 = .ok (.iload 4, 2) := by decide +kernel
theorem dX4_keep_20 : decode cX4_keep 20 = .ok (.lshl, 1) := by decide +kernel
theorem dX4_keep_21 : decode cX4_keep 21 = .ok (.iload 4, 2) := by decide +kernel
theorem dX4_keep_23 : decode cX4_keep 23 = .ok (.lshr, 1) := by decide +kernel
theorem dX4_keep_24 : decode cX4_keep 24 = .ok (.lastore, 1) := by decide +kernel
theorem dX4_keep_25 : decode cX4_keep 25 = .ok (.return_, 1) := by decide +kernel
theorem dX4_holds_0 : decode cX4_holds 0 = .ok (.iload_n 1, 1) := by decide +kernel
theorem dX4_holds_1 : decode cX4_holds 1 = .ok (.ifCond .lt 29, 3) := by decide +kernel
theorem dX4_holds_4 : decode cX4_holds 4 = .ok (.iload_n 2, 1) := by decide +kernel
theorem dX4_holds_5 : decode cX4_holds 5 = .ok (.ifCond .lt 25, 3) := by decide +kernel
theorem dX4_holds_8 : decode cX4_holds 8 = .ok (.iload_n 1, 1) := by decide +kernel
theorem dX4_holds_9 : decode cX4_holds 9 = .ok (.aload_n 0, 1) := by decide +kernel
theorem dX4_holds_10 : decode cX4_holds 10 = .ok (.getfield 23, 3) := by decide +kernel
theorem dX4_holds_13 : decode cX4_holds 13 = .ok (.if_icmp .gt 17, 3) := by decide +kernel
theorem dX4_holds_16 : decode cX4_holds 16 = .ok (.iload_n 2, 1) := by decide +kernel
theorem dX4_holds_17 : decode cX4_holds 17 = .ok (.aload_n 0, 1) := by decide +kernel
theorem dX4_holds_18 : decode cX4_holds 18 = .ok (.getfield 23, 3) := by decide +kernel
theorem dX4_holds_21 : decode cX4_holds 21 = .ok (.iload_n 1, 1) := by decide +kernel
theorem dX4_holds_22 : decode cX4_holds 22 = .ok (.isub, 1) := by decide +kernel
theorem dX4_holds_23 : decode cX4_holds 23 = .ok (.if_icmp .gt 7, 3) := by decide +kernel
theorem dX4_holds_26 : decode cX4_holds 26 = .ok (.iconst 1, 1) := by decide +kernel
theorem dX4_holds_27 : decode cX4_holds 27 = .ok (.goto 4, 3) := by decide +kernel
theorem dX4_holds_30 : decode cX4_holds 30 = .ok (.iconst 0, 1) := by decide +kernel
theorem dX4_holds_31 : decode cX4_holds 31 = .ok (.ireturn, 1) := by decide +kernel
theorem dJ6_compare_7cf53_0 : decode cJ6_compare_7cf53 0 = .ok (.iload_n 0, 1) := by decide +kernel
theorem dJ6_compare_7cf53_1 : decode cJ6_compare_7cf53 1 = .ok (.iload_n 1, 1) := by decide +kernel
theorem dJ6_compare_7cf53_2 : decode cJ6_compare_7cf53 2 = .ok (.if_icmp .ge 7, 3) := by decide +kernel
theorem dJ6_compare_7cf53_5 : decode cJ6_compare_7cf53 5 = .ok (.iconst (-1), 1) := by decide +kernel
theorem dJ6_compare_7cf53_6 : decode cJ6_compare_7cf53 6 = .ok (.goto 13, 3) := by decide +kernel
theorem dJ6_compare_7cf53_9 : decode cJ6_compare_7cf53 9 = .ok (.iload_n 0, 1) := by decide +kernel
theorem dJ6_compare_7cf53_10 : decode cJ6_compare_7cf53 10 = .ok (.iload_n 1, 1) := by decide +kernel
theorem dJ6_compare_7cf53_11 : decode cJ6_compare_7cf53 11 = .ok (.if_icmp .ne 7, 3) := by decide +kernel
theorem dJ6_compare_7cf53_14 : decode cJ6_compare_7cf53 14 = .ok (.iconst 0, 1) := by decide +kernel
theorem dJ6_compare_7cf53_15 : decode cJ6_compare_7cf53 15 = .ok (.goto 4, 3) := by decide +kernel
theorem dJ6_compare_7cf53_18 : decode cJ6_compare_7cf53 18 = .ok (.iconst 1, 1) := by decide +kernel
theorem dJ6_compare_7cf53_19 : decode cJ6_compare_7cf53 19 = .ok (.ireturn, 1) := by decide +kernel
theorem dJ6_bitCount_0f7a4_0 : decode cJ6_bitCount_0f7a4 0 = .ok (.iload_n 0, 1) := by decide +kernel
theorem dJ6_bitCount_0f7a4_1 : decode cJ6_bitCount_0f7a4 1 = .ok (.iload_n 0, 1) := by decide +kernel
theorem dJ6_bitCount_0f7a4_2 : decode cJ6_bitCount_0f7a4 2 = .ok (.iconst 1, 1) := by decide +kernel
theorem dJ6_bitCount_0f7a4_3 : decode cJ6_bitCount_0f7a4 3 = .ok (.iushr, 1) := by decide +kernel
theorem dJ6_bitCount_0f7a4_4 : decode cJ6_bitCount_0f7a4 4 = .ok (.ldc_w 265, 3) := by decide +kernel
theorem dJ6_bitCount_0f7a4_7 : decode cJ6_bitCount_0f7a4 7 = .ok (.iand, 1) := by decide +kernel
theorem dJ6_bitCount_0f7a4_8 : decode cJ6_bitCount_0f7a4 8 = .ok (.isub, 1) := by decide +kernel
theorem dJ6_bitCount_0f7a4_9 : decode cJ6_bitCount_0f7a4 9 = .ok (.istore_n 0, 1) := by decide +kernel
theorem dJ6_bitCount_0f7a4_10 : decode cJ6_bitCount_0f7a4 10 = .ok (.iload_n 0, 1) := by decide +kernel
theorem dJ6_bitCount_0f7a4_11 : decode cJ6_bitCount_0f7a4 11 = .ok (.ldc_w 266, 3) := by decide +kernel
theorem dJ6_bitCount_0f7a4_14 : decode cJ6_bitCount_0f7a4 14 = .ok (.iand, 1) := by decide +kernel
theorem dJ6_bitCount_0f7a4_15 : decode cJ6_bitCount_0f7a4 15 = .ok (.iload_n 0, 1) := by decide +kernel
theorem dJ6_bitCount_0f7a4_16 : decode cJ6_bitCount_0f7a4 16 = .ok (.iconst 2, 1) := by decide +kernel
theorem dJ6_bitCount_0f7a4_17 : decode cJ6_bitCount_0f7a4 17 = .ok (.iushr, 1) := by decide +kernel
theorem dJ6_bitCount_0f7a4_18 : decode cJ6_bitCount_0f7a4 18 = .ok (.ldc_w 266, 3) := by decide +kernel
theorem dJ6_bitCount_0f7a4_21 : decode cJ6_bitCount_0f7a4 21 = .ok (.iand, 1) := by decide +kernel
theorem dJ6_bitCount_0f7a4_22 : decode cJ6_bitCount_0f7a4 22 = .ok (.iadd, 1) := by decide +kernel
theorem dJ6_bitCount_0f7a4_23 : decode cJ6_bitCount_0f7a4 23 = .ok (.istore_n 0, 1) := by decide +kernel
theorem dJ6_bitCount_0f7a4_24 : decode cJ6_bitCount_0f7a4 24 = .ok (.iload_n 0, 1) := by decide +kernel
theorem dJ6_bitCount_0f7a4_25 : decode cJ6_bitCount_0f7a4 25 = .ok (.iload_n 0, 1) := by decide +kernel
theorem dJ6_bitCount_0f7a4_26 : decode cJ6_bitCount_0f7a4 26 = .ok (.iconst 4, 1) := by decide +kernel
theorem dJ6_bitCount_0f7a4_27 : decode cJ6_bitCount_0f7a4 27 = .ok (.iushr, 1) := by decide +kernel
theorem dJ6_bitCount_0f7a4_28 : decode cJ6_bitCount_0f7a4 28 = .ok (.iadd, 1) := by decide +kernel
theorem dJ6_bitCount_0f7a4_29 : decode cJ6_bitCount_0f7a4 29 = .ok (.ldc_w 267, 3) := by decide +kernel
theorem dJ6_bitCount_0f7a4_32 : decode cJ6_bitCount_0f7a4 32 = .ok (.iand, 1) := by decide +kernel
theorem dJ6_bitCount_0f7a4_33 : decode cJ6_bitCount_0f7a4 33 = .ok (.istore_n 0, 1) := by decide +kernel
theorem dJ6_bitCount_0f7a4_34 : decode cJ6_bitCount_0f7a4 34 = .ok (.iload_n 0, 1) := by decide +kernel
theorem dJ6_bitCount_0f7a4_35 : decode cJ6_bitCount_0f7a4 35 = .ok (.iload_n 0, 1) := by decide +kernel
theorem dJ6_bitCount_0f7a4_36 : decode cJ6_bitCount_0f7a4 36 = .ok (.bipush 8, 2) := by decide +kernel
theorem dJ6_bitCount_0f7a4_38 : decode cJ6_bitCount_0f7a4 38 = .ok (.iushr, 1) := by decide +kernel
theorem dJ6_bitCount_0f7a4_39 : decode cJ6_bitCount_0f7a4 39 = .ok (.iadd, 1) := by decide +kernel
theorem dJ6_bitCount_0f7a4_40 : decode cJ6_bitCount_0f7a4 40 = .ok (.istore_n 0, 1) := by decide +kernel
theorem dJ6_bitCount_0f7a4_41 : decode cJ6_bitCount_0f7a4 41 = .ok (.iload_n 0, 1) := by decide +kernel
theorem dJ6_bitCount_0f7a4_42 : decode cJ6_bitCount_0f7a4 42 = .ok (.iload_n 0, 1) := by decide +kernel
theorem dJ6_bitCount_0f7a4_43 : decode cJ6_bitCount_0f7a4 43 = .ok (.bipush 16, 2) := by decide +kernel
theorem dJ6_bitCount_0f7a4_45 : decode cJ6_bitCount_0f7a4 45 = .ok (.iushr, 1) := by decide +kernel
theorem dJ6_bitCount_0f7a4_46 : decode cJ6_bitCount_0f7a4 46 = .ok (.iadd, 1) := by decide +kernel
theorem dJ6_bitCount_0f7a4_47 : decode cJ6_bitCount_0f7a4 47 = .ok (.istore_n 0, 1) := by decide +kernel
theorem dJ6_bitCount_0f7a4_48 : decode cJ6_bitCount_0f7a4 48 = .ok (.iload_n 0, 1) := by decide +kernel
theorem dJ6_bitCount_0f7a4_49 : decode cJ6_bitCount_0f7a4 49 = .ok (.bipush 63, 2) := by decide +kernel
theorem dJ6_bitCount_0f7a4_51 : decode cJ6_bitCount_0f7a4 51 = .ok (.iand, 1) := by decide +kernel
theorem dJ6_bitCount_0f7a4_52 : decode cJ6_bitCount_0f7a4 52 = .ok (.ireturn, 1) := by decide +kernel
theorem dJ9_max_7cf53_0 : decode cJ9_max_7cf53 0 = .ok (.iload_n 0, 1) := by decide +kernel
theorem dJ9_max_7cf53_1 : decode cJ9_max_7cf53 1 = .ok (.iload_n 1, 1) := by decide +kernel
theorem dJ9_max_7cf53_2 : decode cJ9_max_7cf53 2 = .ok (.if_icmp .lt 7, 3) := by decide +kernel
theorem dJ9_max_7cf53_5 : decode cJ9_max_7cf53 5 = .ok (.iload_n 0, 1) := by decide +kernel
theorem dJ9_max_7cf53_6 : decode cJ9_max_7cf53 6 = .ok (.goto 4, 3) := by decide +kernel
theorem dJ9_max_7cf53_9 : decode cJ9_max_7cf53 9 = .ok (.iload_n 1, 1) := by decide +kernel
theorem dJ9_max_7cf53_10 : decode cJ9_max_7cf53 10 = .ok (.ireturn, 1) := by decide +kernel
theorem dJ9_min_7cf53_0 : decode cJ9_min_7cf53 0 = .ok (.iload_n 0, 1) := by decide +kernel
theorem dJ9_min_7cf53_1 : decode cJ9_min_7cf53 1 = .ok (.iload_n 1, 1) := by decide +kernel
theorem dJ9_min_7cf53_2 : decode cJ9_min_7cf53 2 = .ok (.if_icmp .gt 7, 3) := by decide +kernel
theorem dJ9_min_7cf53_5 : decode cJ9_min_7cf53 5 = .ok (.iload_n 0, 1) := by decide +kernel
theorem dJ9_min_7cf53_6 : decode cJ9_min_7cf53 6 = .ok (.goto 4, 3) := by decide +kernel
theorem dJ9_min_7cf53_9 : decode cJ9_min_7cf53 9 = .ok (.iload_n 1, 1) := by decide +kernel
theorem dJ9_min_7cf53_10 : decode cJ9_min_7cf53 10 = .ok (.ireturn, 1) := by decide +kernel
theorem dJ0_length_8abf5_0 : decode cJ0_length_8abf5 0 = .ok (.aload_n 0, 1) := by decide +kernel
theorem dJ0_length_8abf5_1 : decode cJ0_length_8abf5 1 = .ok (.getfield 9, 3) := by decide +kernel
theorem dJ0_length_8abf5_4 : decode cJ0_length_8abf5 4 = .ok (.arraylength, 1) := by decide +kernel
theorem dJ0_length_8abf5_5 : decode cJ0_length_8abf5 5 = .ok (.aload_n 0, 1) := by decide +kernel
theorem dJ0_length_8abf5_6 : decode cJ0_length_8abf5 6 = .ok (.invokevirtual 335, 3) := by decide +kernel
theorem dJ0_length_8abf5_9 : decode cJ0_length_8abf5 9 = .ok (.ishr, 1) := by decide +kernel
theorem dJ0_length_8abf5_10 : decode cJ0_length_8abf5 10 = .ok (.ireturn, 1) := by decide +kernel
theorem dJ0_charAt_5068e_0 : decode cJ0_charAt_5068e 0 = .ok (.aload_n 0, 1) := by decide +kernel
theorem dJ0_charAt_5068e_1 : decode cJ0_charAt_5068e 1 = .ok (.invokevirtual 492, 3) := by decide +kernel
theorem dJ0_charAt_5068e_4 : decode cJ0_charAt_5068e 4 = .ok (.ifCond .eq 12, 3) := by decide +kernel
theorem dJ0_charAt_5068e_7 : decode cJ0_charAt_5068e 7 = .ok (.aload_n 0, 1) := by decide +kernel
theorem dJ0_charAt_5068e_8 : decode cJ0_charAt_5068e 8 = .ok (.getfield 9, 3) := by decide +kernel
theorem dJ0_charAt_5068e_11 : decode cJ0_charAt_5068e 11 = .ok (.iload_n 1, 1) := by decide +kernel
theorem dJ0_charAt_5068e_12 : decode cJ0_charAt_5068e 12 = .ok (.invokestatic 495, 3) := by decide +kernel
theorem dJ0_charAt_5068e_15 : decode cJ0_charAt_5068e 15 = .ok (.ireturn, 1) := by decide +kernel
theorem dJ0_charAt_5068e_16 : decode cJ0_charAt_5068e 16 = .ok (.aload_n 0, 1) := by decide +kernel
theorem dJ0_charAt_5068e_17 : decode cJ0_charAt_5068e 17 = .ok (.getfield 9, 3) := by decide +kernel
theorem dJ0_charAt_5068e_20 : decode cJ0_charAt_5068e 20 = .ok (.iload_n 1, 1) := by decide +kernel
theorem dJ0_charAt_5068e_21 : decode cJ0_charAt_5068e 21 = .ok (.invokestatic 498, 3) := by decide +kernel
theorem dJ0_charAt_5068e_24 : decode cJ0_charAt_5068e 24 = .ok (.ireturn, 1) := by decide +kernel
theorem dJ0_coder_7d493_0 : decode cJ0_coder_7d493 0 = .ok (.getstatic 38, 3) := by decide +kernel
theorem dJ0_coder_7d493_3 : decode cJ0_coder_7d493 3 = .ok (.ifCond .eq 10, 3) := by decide +kernel
theorem dJ0_coder_7d493_6 : decode cJ0_coder_7d493 6 = .ok (.aload_n 0, 1) := by decide +kernel
theorem dJ0_coder_7d493_7 : decode cJ0_coder_7d493 7 = .ok (.getfield 15, 3) := by decide +kernel
theorem dJ0_coder_7d493_10 : decode cJ0_coder_7d493 10 = .ok (.goto 4, 3) := by decide +kernel
theorem dJ0_coder_7d493_13 : decode cJ0_coder_7d493 13 = .ok (.iconst 1, 1) := by decide +kernel
theorem dJ0_coder_7d493_14 : decode cJ0_coder_7d493 14 = .ok (.ireturn, 1) := by decide +kernel
theorem dJ0_isLatin1_aae02_0 : decode cJ0_isLatin1_aae02 0 = .ok (.getstatic 38, 3) := by decide +kernel
theorem dJ0_isLatin1_aae02_3 : decode cJ0_isLatin1_aae02 3 = .ok (.ifCond .eq 14, 3) := by decide +kernel
theorem dJ0_isLatin1_aae02_6 : decode cJ0_isLatin1_aae02 6 = .ok (.aload_n 0, 1) := by decide +kernel
theorem dJ0_isLatin1_aae02_7 : decode cJ0_isLatin1_aae02 7 = .ok (.getfield 15, 3) := by decide +kernel
theorem dJ0_isLatin1_aae02_10 : decode cJ0_isLatin1_aae02 10 = .ok (.ifCond .ne 7, 3) := by decide +kernel
theorem dJ0_isLatin1_aae02_13 : decode cJ0_isLatin1_aae02 13 = .ok (.iconst 1, 1) := by decide +kernel
theorem dJ0_isLatin1_aae02_14 : decode cJ0_isLatin1_aae02 14 = .ok (.goto 4, 3) := by decide +kernel
theorem dJ0_isLatin1_aae02_17 : decode cJ0_isLatin1_aae02 17 = .ok (.iconst 0, 1) := by decide +kernel
theorem dJ0_isLatin1_aae02_18 : decode cJ0_isLatin1_aae02 18 = .ok (.ireturn, 1) := by decide +kernel
theorem dJ0_checkIndex_df160_0 : decode cJ0_checkIndex_df160 0 = .ok (.iload_n 0, 1) := by decide +kernel
theorem dJ0_checkIndex_df160_1 : decode cJ0_checkIndex_df160 1 = .ok (.iload_n 1, 1) := by decide +kernel
theorem dJ0_checkIndex_df160_2 : decode cJ0_checkIndex_df160 2 = .ok (.getstatic 1053, 3) := by decide +kernel
theorem dJ0_checkIndex_df160_5 : decode cJ0_checkIndex_df160 5 = .ok (.invokestatic 1059, 3) := by decide +kernel
theorem dJ0_checkIndex_df160_8 : decode cJ0_checkIndex_df160 8 = .ok (.pop, 1) := by decide +kernel
theorem dJ0_checkIndex_df160_9 : decode cJ0_checkIndex_df160 9 = .ok (.return_, 1) := by decide +kernel
theorem dJ1_charAt_3b067_0 : decode cJ1_charAt_3b067 0 = .ok (.iload_n 1, 1) := by decide +kernel
theorem dJ1_charAt_3b067_1 : decode cJ1_charAt_3b067 1 = .ok (.aload_n 0, 1) := by decide +kernel
theorem dJ1_charAt_3b067_2 : decode cJ1_charAt_3b067 2 = .ok (.arraylength, 1) := by decide +kernel
theorem dJ1_charAt_3b067_3 : decode cJ1_charAt_3b067 3 = .ok (.invokestatic 9, 3) := by decide +kernel
theorem dJ1_charAt_3b067_6 : decode cJ1_charAt_3b067 6 = .ok (.aload_n 0, 1) := by decide +kernel
theorem dJ1_charAt_3b067_7 : decode cJ1_charAt_3b067 7 = .ok (.iload_n 1, 1) := by decide +kernel
theorem dJ1_charAt_3b067_8 : decode cJ1_charAt_3b067 8 = .ok (.baload, 1) := by decide +kernel
theorem dJ1_charAt_3b067_9 : decode cJ1_charAt_3b067 9 = .ok (.sipush 255, 3) := by decide +kernel
theorem dJ1_charAt_3b067_12 : decode cJ1_charAt_3b067 12 = .ok (.iand, 1) := by decide +kernel
theorem dJ1_charAt_3b067_13 : decode cJ1_charAt_3b067 13 = .ok (.i2c, 1) := by decide +kernel
theorem dJ1_charAt_3b067_14 : decode cJ1_charAt_3b067 14 = .ok (.ireturn, 1) := by decide +kernel
theorem dJ3_checkIndex_8e157_0 : decode cJ3_checkIndex_8e157 0 = .ok (.iload_n 0, 1) := by decide +kernel
theorem dJ3_checkIndex_8e157_1 : decode cJ3_checkIndex_8e157 1 = .ok (.ifCond .lt 8, 3) := by decide +kernel
theorem dJ3_checkIndex_8e157_4 : decode cJ3_checkIndex_8e157 4 = .ok (.iload_n 0, 1) := by decide +kernel
theorem dJ3_checkIndex_8e157_5 : decode cJ3_checkIndex_8e157 5 = .ok (.iload_n 1, 1) := by decide +kernel
theorem dJ3_checkIndex_8e157_6 : decode cJ3_checkIndex_8e157 6 = .ok (.if_icmp .lt 10, 3) := by decide +kernel
theorem dJ3_checkIndex_8e157_9 : decode cJ3_checkIndex_8e157 9 = .ok (.aload_n 2, 1) := by decide +kernel
theorem dJ3_checkIndex_8e157_10 : decode cJ3_checkIndex_8e157 10 = .ok (.iload_n 0, 1) := by decide +kernel
theorem dJ3_checkIndex_8e157_11 : decode cJ3_checkIndex_8e157 11 = .ok (.iload_n 1, 1) := by decide +kernel
theorem dJ3_checkIndex_8e157_12 : decode cJ3_checkIndex_8e157 12 = .ok (.invokestatic 95, 3) := by decide +kernel
theorem dJ3_checkIndex_8e157_15 : decode cJ3_checkIndex_8e157 15 = .ok (.athrow, 1) := by decide +kernel
theorem dJ3_checkIndex_8e157_16 : decode cJ3_checkIndex_8e157 16 = .ok (.iload_n 0, 1) := by decide +kernel
theorem dJ3_checkIndex_8e157_17 : decode cJ3_checkIndex_8e157 17 = .ok (.ireturn, 1) := by decide +kernel
