theorem dX0_init_0 : decode cX0_init 0 = .ok (.aload_n 0, 1) := by decide +kernel
theorem dX0_init_1 : decode cX0_init 1 = .ok (.invokespecial 3, 3) := by decide +kernel
theorem dX0_init_4 : decode cX0_init 4 = .ok (.aload_n 0, 1) := by decide +kernel
theorem dX0_init_5 : decode cX0_init 5 = .ok (.iconst 0, 1) := by decide +kernel
theorem dX0_init_6 : decode cX0_init 6 = .ok (.putfield 9, 3) := by decide +kernel
theorem dX0_init_9 : decode cX0_init 9 = .ok (.aload_n 0, 1) := by decide +kernel
theorem dX0_init_10 : decode cX0_init 10 = .ok (.bipush 81, 2) := by decide +kernel
theorem dX0_init_12 : decode cX0_init 12 = .ok (.putfield 15, 3) := by decide +kernel
theorem dX0_init_15 : decode cX0_init 15 = .ok (.aload_n 0, 1) := by decide +kernel
theorem dX0_init_16 : decode cX0_init 16 = .ok (.iconst 0, 1) := by decide +kernel
theorem dX0_init_17 : decode cX0_init 17 = .ok (.putfield 18, 3) := by decide +kernel
theorem dX0_init_20 : decode cX0_init 20 = .ok (.aload_n 0, 1) := by decide +kernel
theorem dX0_init_21 : decode cX0_init 21 = .ok (.iconst 0, 1) := by decide +kernel
theorem dX0_init_22 : decode cX0_init 22 = .ok (.putfield 21, 3) := by decide +kernel
theorem dX0_init_25 : decode cX0_init 25 = .ok (.return_, 1) := by decide +kernel
theorem dX0_begin_0 : decode cX0_begin 0 = .ok (.aload_n 0, 1) := by decide +kernel
theorem dX0_begin_1 : decode cX0_begin 1 = .ok (.iload_n 1, 1) := by decide +kernel
theorem dX0_begin_2 : decode cX0_begin 2 = .ok (.putfield 9, 3) := by decide +kernel
theorem dX0_begin_5 : decode cX0_begin 5 = .ok (.aload_n 0, 1) := by decide +kernel
theorem dX0_begin_6 : decode cX0_begin 6 = .ok (.bipush 81, 2) := by decide +kernel
theorem dX0_begin_8 : decode cX0_begin 8 = .ok (.putfield 15, 3) := by decide +kernel
theorem dX0_begin_11 : decode cX0_begin 11 = .ok (.aload_n 0, 1) := by decide +kernel
theorem dX0_begin_12 : decode cX0_begin 12 = .ok (.iconst 0, 1) := by decide +kernel
theorem dX0_begin_13 : decode cX0_begin 13 = .ok (.putfield 18, 3) := by decide +kernel
theorem dX0_begin_16 : decode cX0_begin 16 = .ok (.aload_n 0, 1) := by decide +kernel
theorem dX0_begin_17 : decode cX0_begin 17 = .ok (.iconst 0, 1) := by decide +kernel
theorem dX0_begin_18 : decode cX0_begin 18 = .ok (.putfield 21, 3) := by decide +kernel
theorem dX0_begin_21 : decode cX0_begin 21 = .ok (.return_, 1) := by decide +kernel
theorem dX0_step_0 : decode cX0_step 0 = .ok (.aload_n 1, 1) := by decide +kernel
theorem dX0_step_1 : decode cX0_step 1 = .ok (.getfield 24, 3) := by decide +kernel
theorem dX0_step_4 : decode cX0_step 4 = .ok (.iconst 2, 1) := by decide +kernel
theorem dX0_step_5 : decode cX0_step 5 = .ok (.aaload, 1) := by decide +kernel
theorem dX0_step_6 : decode cX0_step 6 = .ok (.aload_n 0, 1) := by decide +kernel
theorem dX0_step_7 : decode cX0_step 7 = .ok (.getfield 9, 3) := by decide +kernel
theorem dX0_step_10 : decode cX0_step 10 = .ok (.iaload, 1) := by decide +kernel
theorem dX0_step_11 : decode cX0_step 11 = .ok (.istore_n 2, 1) := by decide +kernel
theorem dX0_step_12 : decode cX0_step 12 = .ok (.aload_n 0, 1) := by decide +kernel
theorem dX0_step_13 : decode cX0_step 13 = .ok (.aload_n 0, 1) := by decide +kernel
theorem dX0_step_14 : decode cX0_step 14 = .ok (.getfield 15, 3) := by decide +kernel
theorem dX0_step_17 : decode cX0_step 17 = .ok (.aload_n 1, 1) := by decide +kernel
theorem dX0_step_18 : decode cX0_step 18 = .ok (.getfield 24, 3) := by decide +kernel
theorem dX0_step_21 : decode cX0_step 21 = .ok (.iconst 1, 1) := by decide +kernel
theorem dX0_step_22 : decode cX0_step 22 = .ok (.aaload, 1) := by decide +kernel
theorem dX0_step_23 : decode cX0_step 23 = .ok (.aload_n 0, 1) := by decide +kernel
theorem dX0_step_24 : decode cX0_step 24 = .ok (.getfield 9, 3) := by decide +kernel
theorem dX0_step_27 : decode cX0_step 27 = .ok (.iaload, 1) := by decide +kernel
theorem dX0_step_28 : decode cX0_step 28 = .ok (.imul, 1) := by decide +kernel
theorem dX0_step_29 : decode cX0_step 29 = .ok (.iconst 3, 1) := by decide +kernel
theorem dX0_step_30 : decode cX0_step 30 = .ok (.idiv, 1) := by decide +kernel
theorem dX0_step_31 : decode cX0_step 31 = .ok (.ldc 30, 2) := by decide +kernel
theorem dX0_step_33 : decode cX0_step 33 = .ok (.invokestatic 31, 3) := by decide +kernel
theorem dX0_step_36 : decode cX0_step 36 = .ok (.putfield 15, 3) := by decide +kernel
theorem dX0_step_39 : decode cX0_step 39 = .ok (.aload_n 0, 1) := by decide +kernel
theorem dX0_step_40 : decode cX0_step 40 = .ok (.aload_n 0, 1) := by decide +kernel
theorem dX0_step_41 : decode cX0_step 41 = .ok (.getfield 21, 3) := by decide +kernel
theorem dX0_step_44 : decode cX0_step 44 = .ok (.iconst 1, 1) := by decide +kernel
theorem dX0_step_45 : decode cX0_step 45 = .ok (.if_icmp .ne 12, 3) := by decide +kernel
theorem dX0_step_48 : decode cX0_step 48 = .ok (.aload_n 0, 1) := by decide +kernel
theorem dX0_step_49 : decode cX0_step 49 = .ok (.getfield 18, 3) := by decide +kernel
theorem dX0_step_52 : decode cX0_step 52 = .ok (.iload_n 2, 1) := by decide +kernel
theorem dX0_step_53 : decode cX0_step 53 = .ok (.isub, 1) := by decide +kernel
theorem dX0_step_54 : decode cX0_step 54 = .ok (.goto 9, 3) := by decide +kernel
theorem dX0_step_57 : decode cX0_step 57 = .ok (.aload_n 0, 1) := by decide +kernel
theorem dX0_step_58 : decode cX0_step 58 = .ok (.getfield 18, 3) := by decide +kernel
theorem dX0_step_61 : decode cX0_step 61 = .ok (.iload_n 2, 1) := by decide +kernel
theorem dX0_step_62 : decode cX0_step 62 = .ok (.iadd, 1) := by decide +kernel
theorem dX0_step_63 : decode cX0_step 63 = .ok (.iconst 4, 1) := by decide +kernel
theorem dX0_step_64 : decode cX0_step 64 = .ok (.invokestatic 37, 3) := by decide +kernel
theorem dX0_step_67 : decode cX0_step 67 = .ok (.putfield 18, 3) := by decide +kernel
theorem dX0_step_70 : decode cX0_step 70 = .ok (.aload_n 0, 1) := by decide +kernel
theorem dX0_step_71 : decode cX0_step 71 = .ok (.dup, 1) := by decide +kernel
theorem dX0_step_72 : decode cX0_step 72 = .ok (.getfield 21, 3) := by decide +kernel
theorem dX0_step_75 : decode cX0_step 75 = .ok (.aload_n 1, 1) := by decide +kernel
theorem dX0_step_76 : decode cX0_step 76 = .ok (.getfield 24, 3) := by decide +kernel
theorem dX0_step_79 : decode cX0_step 79 = .ok (.iconst 3, 1) := by decide +kernel
theorem dX0_step_80 : decode cX0_step 80 = .ok (.aaload, 1) := by decide +kernel
theorem dX0_step_81 : decode cX0_step 81 = .ok (.aload_n 0, 1) := by decide +kernel
theorem dX0_step_82 : decode cX0_step 82 = .ok (.getfield 9, 3) := by decide +kernel
theorem dX0_step_85 : decode cX0_step 85 = .ok (.iaload, 1) := by decide +kernel
theorem dX0_step_86 : decode cX0_step 86 = .ok (.ixor, 1) := by decide +kernel
theorem dX0_step_87 : decode cX0_step 87 = .ok (.putfield 21, 3) := by decide +kernel
theorem dX0_step_90 : decode cX0_step 90 = .ok (.aload_n 0, 1) := by decide +kernel
theorem dX0_step_91 : decode cX0_step 91 = .ok (.aload_n 1, 1) := by decide +kernel
theorem dX0_step_92 : decode cX0_step 92 = .ok (.getfield 24, 3) := by decide +kernel
theorem dX0_step_95 : decode cX0_step 95 = .ok (.iconst 0, 1) := by decide +kernel
theorem dX0_step_96 : decode cX0_step 96 = .ok (.aaload, 1) := by decide +kernel
theorem dX0_step_97 : decode cX0_step 97 = .ok (.aload_n 0, 1) := by decide +kernel
theorem dX0_step_98 : decode cX0_step 98 = .ok (.getfield 9, 3) := by decide +kernel
theorem dX0_step_101 : decode cX0_step 101 = .ok (.iaload, 1) := by decide +kernel
theorem dX0_step_102 : decode cX0_step 102 = .ok (.putfield 9, 3) := by decide +kernel
theorem dX0_step_105 : decode cX0_step 105 = .ok (.return_, 1) := by decide +kernel
theorem dX0_take_0 : decode cX0_take 0 = .ok (.aload_n 0, 1) := by decide +kernel
theorem dX0_take_1 : decode cX0_take 1 = .ok (.iload_n 2, 1) := by decide +kernel
theorem dX0_take_2 : decode cX0_take 2 = .ok (.invokevirtual 40, 3) := by decide +kernel
theorem dX0_take_5 : decode cX0_take 5 = .ok (.iconst 0, 1) := by decide +kernel
theorem dX0_take_6 : decode cX0_take 6 = .ok (.istore 4, 2) := by decide +kernel
theorem dX0_take_8 : decode cX0_take 8 = .ok (.iload 4, 2) := by decide +kernel
theorem dX0_take_10 : decode cX0_take 10 = .ok (.iload_n 3, 1) := by decide +kernel
theorem dX0_take_11 : decode cX0_take 11 = .ok (.if_icmp .ge 14, 3) := by decide +kernel
theorem dX0_take_14 : decode cX0_take 14 = .ok (.aload_n 0, 1) := by decide +kernel
theorem dX0_take_15 : decode cX0_take 15 = .ok (.aload_n 1, 1) := by decide +kernel
theorem dX0_take_16 : decode cX0_take 16 = .ok (.invokevirtual 44, 3) := by decide +kernel
theorem dX0_take_19 : decode cX0_take 19 = .ok (.iinc 4 1, 3) := by decide +kernel
theorem dX0_take_22 : decode cX0_take 22 = .ok (.goto (-14), 3) := by decide +kernel
theorem dX0_take_25 : decode cX0_take 25 = .ok (.return_, 1) := by decide +kernel
theorem dX1_init_0 : decode cX1_init 0 = .ok (.aload_n 0, 1) := by decide +kernel
theorem dX1_init_1 : decode cX1_init 1 = .ok (.invokespecial 3, 3) := by decide +kernel
theorem dX1_init_4 : decode cX1_init 4 = .ok (.aload_n 0, 1) := by decide +kernel
theorem dX1_init_5 : decode cX1_init 5 = .ok (.bipush 6, 2) := by decide +kernel
theorem dX1_init_7 : decode cX1_init 7 = .ok (.bipush 16, 2) := by decide +kernel
theorem dX1_init_9 : decode cX1_init 9 = .ok (.multianewarray 9 2, 4) := by decide +kernel
theorem dX1_init_13 : decode cX1_init 13 = .ok (.putfield 11, 3) := by decide +kernel
theorem dX1_init_16 : decode cX1_init 16 = .ok (.aload_n 0, 1) := by decide +kernel
theorem dX1_init_17 : decode cX1_init 17 = .ok (.iconst 3, 1) := by decide +kernel
theorem dX1_init_18 : decode cX1_init 18 = .ok (.bipush 8, 2) := by decide +kernel
theorem dX1_init_20 : decode cX1_init 20 = .ok (.multianewarray 9 2, 4) := by decide +kernel
theorem dX1_init_24 : decode cX1_init 24 = .ok (.putfield 16, 3) := by decide +kernel
theorem dX1_init_27 : decode cX1_init 27 = .ok (.aload_n 0, 1) := by decide +kernel
theorem dX1_init_28 : decode cX1_init 28 = .ok (.bipush 10, 2) := by decide +kernel
theorem dX1_init_30 : decode cX1_init 30 = .ok (.newarray .int, 2) := by decide +kernel
theorem dX1_init_32 : decode cX1_init 32 = .ok (.putfield 19, 3) := by decide +kernel
theorem dX1_init_35 : decode cX1_init 35 = .ok (.aload_n 0, 1) := by decide +kernel
theorem dX1_init_36 : decode cX1_init 36 = .ok (.iconst 0, 1) := by decide +kernel
theorem dX1_init_37 : decode cX1_init 37 = .ok (.putfield 23, 3) := by decide +kernel
theorem dX1_init_40 : decode cX1_init 40 = .ok (.aload_n 0, 1) := by decide +kernel
theorem dX1_init_41 : decode cX1_init 41 = .ok (.iconst 0, 1) := by decide +kernel
theorem dX1_init_42 : decode cX1_init 42 = .ok (.putfield 27, 3) := by decide +kernel
theorem dX1_init_45 : decode cX1_init 45 = .ok (.aload_n 0, 1) := by decide +kernel
theorem dX1_init_46 : decode cX1_init 46 = .ok (.iconst 0, 1) := by decide +kernel
theorem dX1_init_47 : decode cX1_init 47 = .ok (.putfield 30, 3) := by decide +kernel
theorem dX1_init_50 : decode cX1_init 50 = .ok (.aload_n 0, 1) := by decide +kernel
theorem dX1_init_51 : decode cX1_init 51 = .ok (.iconst 1, 1) := by decide +kernel
theorem dX1_init_52 : decode cX1_init 52 = .ok (.putfield 33, 3) := by decide +kernel
theorem dX1_init_55 : decode cX1_init 55 = .ok (.iconst 0, 1) := by decide +kernel
theorem dX1_init_56 : decode cX1_init 56 = .ok (.istore_n 1, 1) := by decide +kernel
theorem dX1_init_57 : decode cX1_init 57 = .ok (.iload_n 1, 1) := by decide +kernel
theorem dX1_init_58 : decode cX1_init 58 = .ok (.bipush 16, 2) := by decide +kernel
theorem dX1_init_60 : decode cX1_init 60 = .ok (.if_icmp .ge 51, 3) := by decide +kernel
theorem dX1_init_63 : decode cX1_init 63 = .ok (.aload_n 0, 1) := by decide +kernel
theorem dX1_init_64 : decode cX1_init 64 = .ok (.getfield 11, 3) := by decide +kernel
theorem dX1_init_67 : decode cX1_init 67 = .ok (.iconst 0, 1) := by decide +kernel
theorem dX1_init_68 : decode cX1_init 68 = .ok (.aaload, 1) := by decide +kernel
theorem dX1_init_69 : decode cX1_init 69 = .ok (.iload_n 1, 1) := by decide +kernel
theorem dX1_init_70 : decode cX1_init 70 = .ok (.iload_n 1, 1) := by decide +kernel
theorem dX1_init_71 : decode cX1_init 71 = .ok (.iconst 1, 1) := by decide +kernel
theorem dX1_init_72 : decode cX1_init 72 = .ok (.iadd, 1) := by decide +kernel
theorem dX1_init_73 : decode cX1_init 73 = .ok (.bipush 16, 2) := by decide +kernel
theorem dX1_init_75 : decode cX1_init 75 = .ok (.irem, 1) := by decide +kernel
theorem dX1_init_76 : decode cX1_init 76 = .ok (.iastore, 1) := by decide +kernel
theorem dX1_init_77 : decode cX1_init 77 = .ok (.aload_n 0, 1) := by decide +kernel
theorem dX1_init_78 : decode cX1_init 78 = .ok (.getfield 11, 3) := by decide +kernel
theorem dX1_init_81 : decode cX1_init 81 = .ok (.iconst 1, 1) := by decide +kernel
theorem dX1_init_82 : decode cX1_init 82 = .ok (.aaload, 1) := by decide +kernel
theorem dX1_init_83 : decode cX1_init 83 = .ok (.iload_n 1, 1) := by decide +kernel
theorem dX1_init_84 : decode cX1_init 84 = .ok (.iconst 3, 1) := by decide +kernel
theorem dX1_init_85 : decode cX1_init 85 = .ok (.iastore, 1) := by decide +kernel
theorem dX1_init_86 : decode cX1_init 86 = .ok (.aload_n 0, 1) := by decide +kernel
theorem dX1_init_87 : decode cX1_init 87 = .ok (.getfield 11, 3) := by decide +kernel
theorem dX1_init_90 : decode cX1_init 90 = .ok (.iconst 4, 1) := by decide +kernel
theorem dX1_init_91 : decode cX1_init 91 = .ok (.aaload, 1) := by decide +kernel
theorem dX1_init_92 : decode cX1_init 92 = .ok (.iload_n 1, 1) := by decide +kernel
theorem dX1_init_93 : decode cX1_init 93 = .ok (.iload_n 1, 1) := by decide +kernel
theorem dX1_init_94 : decode cX1_init 94 = .ok (.iastore, 1) := by decide +kernel
theorem dX1_init_95 : decode cX1_init 95 = .ok (.aload_n 0, 1) := by decide +kernel
theorem dX1_init_96 : decode cX1_init 96 = .ok (.getfield 11, 3) := by decide +kernel
theorem dX1_init_99 : decode cX1_init 99 = .ok (.iconst 5, 1) := by decide +kernel
theorem dX1_init_100 : decode cX1_init 100 = .ok (.aaload, 1) := by decide +kernel
theorem dX1_init_101 : decode cX1_init 101 = .ok (.iload_n 1, 1) := by decide +kernel
theorem dX1_init_102 : decode cX1_init 102 = .ok (.bipush 10, 2) := by decide +kernel
theorem dX1_init_104 : decode cX1_init 104 = .ok (.iastore, 1) := by decide +kernel
theorem dX1_init_105 : decode cX1_init 105 = .ok (.iinc 1 1, 3) := by decide +kernel
theorem dX1_init_108 : decode cX1_init 108 = .ok (.goto (-51), 3) := by decide +kernel
theorem dX1_init_111 : decode cX1_init 111 = .ok (.iconst 0, 1) := by decide +kernel
theorem dX1_init_112 : decode cX1_init 112 = .ok (.istore_n 1, 1) := by decide +kernel
theorem dX1_init_113 : decode cX1_init 113 = .ok (.iload_n 1, 1) := by decide +kernel
theorem dX1_init_114 : decode cX1_init 114 = .ok (.bipush 10, 2) := by decide +kernel
theorem dX1_init_116 : decode cX1_init 116 = .ok (.if_icmp .ge 16, 3) := by decide +kernel
theorem dX1_init_119 : decode cX1_init 119 = .ok (.aload_n 0, 1) := by decide +kernel
theorem dX1_init_120 : decode cX1_init 120 = .ok (.getfield 19, 3) := by decide +kernel
theorem dX1_init_123 : decode cX1_init 123 = .ok (.iload_n 1, 1) := by decide +kernel
theorem dX1_init_124 : decode cX1_init 124 = .ok (.iconst (-1), 1) := by decide +kernel
theorem dX1_init_125 : decode cX1_init 125 = .ok (.iastore, 1) := by decide +kernel
theorem dX1_init_126 : decode cX1_init 126 = .ok (.iinc 1 1, 3) := by decide +kernel
theorem dX1_init_129 : decode cX1_init 129 = .ok (.goto (-16), 3) := by decide +kernel
theorem dX1_init_132 : decode cX1_init 132 = .ok (.return_, 1) := by decide +kernel
theorem dX1_become_0 : decode cX1_become 0 = .ok (.iconst 0, 1) := by decide +kernel
theorem dX1_become_1 : decode cX1_become 1 = .ok (.istore_n 2, 1) := by decide +kernel
theorem dX1_become_2 : decode cX1_become 2 = .ok (.iload_n 2, 1) := by decide +kernel
theorem dX1_become_3 : decode cX1_become 3 = .ok (.iconst 5, 1) := by decide +kernel
theorem dX1_become_4 : decode cX1_become 4 = .ok (.if_icmp .gt 28, 3) := by decide +kernel
theorem dX1_become_7 : decode cX1_become 7 = .ok (.aload_n 1, 1) := by decide +kernel
theorem dX1_become_8 : decode cX1_become 8 = .ok (.getfield 11, 3) := by decide +kernel
theorem dX1_become_11 : decode cX1_become 11 = .ok (.iload_n 2, 1) := by decide +kernel
theorem dX1_become_12 : decode cX1_become 12 = .ok (.aaload, 1) := by decide +kernel
theorem dX1_become_13 : decode cX1_become 13 = .ok (.iconst 0, 1) := by decide +kernel
theorem dX1_become_14 : decode cX1_become 14 = .ok (.aload_n 0, 1) := by decide +kernel
theorem dX1_become_15 : decode cX1_become 15 = .ok (.getfield 11, 3) := by decide +kernel
theorem dX1_become_18 : decode cX1_become 18 = .ok (.iload_n 2, 1) := by decide +kernel
theorem dX1_become_19 : decode cX1_become 19 = .ok (.aaload, 1) := by decide +kernel
theorem dX1_become_20 : decode cX1_become 20 = .ok (.iconst 0, 1) := by decide +kernel
theorem dX1_become_21 : decode cX1_become 21 = .ok (.bipush 16, 2) := by decide +kernel
theorem dX1_become_23 : decode cX1_become 23 = .ok (.invokestatic 36, 3) := by decide +kernel
theorem dX1_become_26 : decode cX1_become 26 = .ok (.iinc 2 1, 3) := by decide +kernel
theorem dX1_become_29 : decode cX1_become 29 = .ok (.goto (-27), 3) := by decide +kernel
theorem dX1_become_32 : decode cX1_become 32 = .ok (.iconst 0, 1) := by decide +kernel
theorem dX1_become_33 : decode cX1_become 33 = .ok (.istore_n 2, 1) := by decide +kernel
theorem dX1_become_34 : decode cX1_become 34 = .ok (.iload_n 2, 1) := by decide +kernel
theorem dX1_become_35 : decode cX1_become 35 = .ok (.iconst 2, 1) := by decide +kernel
theorem dX1_become_36 : decode cX1_become 36 = .ok (.if_icmp .gt 28, 3) := by decide +kernel
theorem dX1_become_39 : decode cX1_become 39 = .ok (.aload_n 1, 1) := by decide +kernel
theorem dX1_become_40 : decode cX1_become 40 = .ok (.getfield 16, 3) := by decide +kernel
theorem dX1_become_43 : decode cX1_become 43 = .ok (.iload_n 2, 1) := by decide +kernel
theorem dX1_become_44 : decode cX1_become 44 = .ok (.aaload, 1) := by decide +kernel
theorem dX1_become_45 : decode cX1_become 45 = .ok (.iconst 0, 1) := by decide +kernel
theorem dX1_become_46 : decode cX1_become 46 = .ok (.aload_n 0, 1) := by decide +kernel
theorem dX1_become_47 : decode cX1_become 47 = .ok (.getfield 16, 3) := by decide +kernel
theorem dX1_become_50 : decode cX1_become 50 = .ok (.iload_n 2, 1) := by decide +kernel
theorem dX1_become_51 : decode cX1_become 51 = .ok (.aaload, 1) := by decide +kernel
theorem dX1_become_52 : decode cX1_become 52 = .ok (.iconst 0, 1) := by decide +kernel
theorem dX1_become_53 : decode cX1_become 53 = .ok (.bipush 8, 2) := by decide +kernel
theorem dX1_become_55 : decode cX1_become 55 = .ok (.invokestatic 36, 3) := by decide +kernel
theorem dX1_become_58 : decode cX1_become 58 = .ok (.iinc 2 1, 3) := by decide +kernel
theorem dX1_become_61 : decode cX1_become 61 = .ok (.goto (-27), 3) := by decide +kernel
theorem dX1_become_64 : decode cX1_become 64 = .ok (.aload_n 1, 1) := by decide +kernel
theorem dX1_become_65 : decode cX1_become 65 = .ok (.getfield 19, 3) := by decide +kernel
theorem dX1_become_68 : decode cX1_become 68 = .ok (.iconst 0, 1) := by decide +kernel
theorem dX1_become_69 : decode cX1_become 69 = .ok (.aload_n 0, 1) := by decide +kernel
theorem dX1_become_70 : decode cX1_become 70 = .ok (.getfield 19, 3) := by decide +kernel
theorem dX1_become_73 : decode cX1_become 73 = .ok (.iconst 0, 1) := by decide +kernel
theorem dX1_become_74 : decode cX1_become 74 = .ok (.bipush 10, 2) := by decide +kernel
theorem dX1_become_76 : decode cX1_become 76 = .ok (.invokestatic 36, 3) := by decide +kernel
theorem dX1_become_79 : decode cX1_become 79 = .ok (.aload_n 0, 1) := by decide +kernel
theorem dX1_become_80 : decode cX1_become 80 = .ok (.aload_n 1, 1) := by decide +kernel
theorem dX1_become_81 : decode cX1_become 81 = .ok (.getfield 23, 3) := by decide +kernel
theorem dX1_become_84 : decode cX1_become 84 = .ok (.putfield 23, 3) := by decide +kernel
theorem dX1_become_87 : decode cX1_become 87 = .ok (.aload_n 0, 1) := by decide +kernel
theorem dX1_become_88 : decode cX1_become 88 = .ok (.aload_n 1, 1) := by decide +kernel
theorem dX1_become_89 : decode cX1_become 89 = .ok (.getfield 27, 3) := by decide +kernel
theorem dX1_become_92 : decode cX1_become 92 = .ok (.putfield 27, 3) := by decide +kernel
theorem dX1_become_95 : decode cX1_become 95 = .ok (.aload_n 0, 1) := by decide +kernel
theorem dX1_become_96 : decode cX1_become 96 = .ok (.aload_n 1, 1) := by decide +kernel
theorem dX1_become_97 : decode cX1_become 97 = .ok (.getfield 30, 3) := by decide +kernel
theorem dX1_become_100 : decode cX1_become 100 = .ok (.putfield 30, 3) := by decide +kernel
theorem dX1_become_103 : decode cX1_become 103 = .ok (.aload_n 0, 1) := by decide +kernel
theorem dX1_become_104 : decode cX1_become 104 = .ok (.aload_n 1, 1) := by decide +kernel
theorem dX1_become_105 : decode cX1_become 105 = .ok (.getfield 33, 3) := by decide +kernel
theorem dX1_become_108 : decode cX1_become 108 = .ok (.putfield 33, 3) := by decide +kernel
theorem dX1_become_111 : decode cX1_become 111 = .ok (.return_, 1) := by decide +kernel
theorem dX1_has_0 : decode cX1_has 0 = .ok (.iload_n 1, 1) := by decide +kernel
theorem dX1_has_1 : decode cX1_has 1 = .ok (.ifCond .lt 15, 3) := by decide +kernel
theorem dX1_has_4 : decode cX1_has 4 = .ok (.iload_n 1, 1) := by decide +kernel
theorem dX1_has_5 : decode cX1_has 5 = .ok (.aload_n 0, 1) := by decide +kernel
theorem dX1_has_6 : decode cX1_has 6 = .ok (.getfield 23, 3) := by decide +kernel
theorem dX1_has_9 : decode cX1_has 9 = .ok (.if_icmp .ge 7, 3) := by decide +kernel
theorem dX1_has_12 : decode cX1_has 12 = .ok (.iconst 1, 1) := by decide +kernel
theorem dX1_has_13 : decode cX1_has 13 = .ok (.goto 4, 3) := by decide +kernel
theorem dX1_has_16 : decode cX1_has 16 = .ok (.iconst 0, 1) := by decide +kernel
theorem dX1_has_17 : decode cX1_has 17 = .ok (.ireturn, 1) := by decide +kernel
theorem dX1_isFull_0 : decode cX1_isFull 0 = .ok (.aload_n 0, 1) := by decide +kernel
theorem dX1_isFull_1 : decode cX1_isFull 1 = .ok (.getfield 23, 3) := by decide +kernel
theorem dX1_isFull_4 : decode cX1_isFull 4 = .ok (.bipush 8, 2) := by decide +kernel
theorem dX1_isFull_6 : decode cX1_isFull 6 = .ok (.if_icmp .lt 7, 3) := by decide +kernel
theorem dX1_isFull_9 : decode cX1_isFull 9 = .ok (.iconst 1, 1) := by decide +kernel
theorem dX1_isFull_10 : decode cX1_isFull 10 = .ok (.goto 4, 3) := by decide +kernel
theorem dX1_isFull_13 : decode cX1_isFull 13 = .ok (.iconst 0, 1) := by decide +kernel
theorem dX1_isFull_14 : decode cX1_isFull 14 = .ok (.ireturn, 1) := by decide +kernel
theorem dX1_add_0 : decode cX1_add 0 = .ok (.aload_n 0, 1) := by decide +kernel
theorem dX1_add_1 : decode cX1_add 1 = .ok (.getfield 23, 3) := by decide +kernel
theorem dX1_add_4 : decode cX1_add 4 = .ok (.istore 4, 2) := by decide +kernel
theorem dX1_add_6 : decode cX1_add 6 = .ok (.iload 4, 2) := by decide +kernel
theorem dX1_add_8 : decode cX1_add 8 = .ok (.bipush 8, 2) := by decide +kernel
theorem dX1_add_10 : decode cX1_add 10 = .ok (.if_icmp .ge 43, 3) := by decide +kernel
theorem dX1_add_13 : decode cX1_add 13 = .ok (.aload_n 0, 1) := by decide +kernel
theorem dX1_add_14 : decode cX1_add 14 = .ok (.getfield 16, 3) := by decide +kernel
theorem dX1_add_17 : decode cX1_add 17 = .ok (.iconst 0, 1) := by decide +kernel
theorem dX1_add_18 : decode cX1_add 18 = .ok (.aaload, 1) := by decide +kernel
theorem dX1_add_19 : decode cX1_add 19 = .ok (.iload 4, 2) := by decide +kernel
theorem dX1_add_21 : decode cX1_add 21 = .ok (.iload_n 1, 1) := by decide +kernel
theorem dX1_add_22 : decode cX1_add 22 = .ok (.iastore, 1) := by decide +kernel
theorem dX1_add_23 : decode cX1_add 23 = .ok (.aload_n 0, 1) := by decide +kernel
theorem dX1_add_24 : decode cX1_add 24 = .ok (.getfield 16, 3) := by decide +kernel
theorem dX1_add_27 : decode cX1_add 27 = .ok (.iconst 1, 1) := by decide +kernel
theorem dX1_add_28 : decode cX1_add 28 = .ok (.aaload, 1) := by decide +kernel
theorem dX1_add_29 : decode cX1_add 29 = .ok (.iload 4, 2) := by decide +kernel
theorem dX1_add_31 : decode cX1_add 31 = .ok (.iload_n 2, 1) := by decide +kernel
theorem dX1_add_32 : decode cX1_add 32 = .ok (.iastore, 1) := by decide +kernel
theorem dX1_add_33 : decode cX1_add 33 = .ok (.aload_n 0, 1) := by decide +kernel
theorem dX1_add_34 : decode cX1_add 34 = .ok (.getfield 16, 3) := by decide +kernel
theorem dX1_add_37 : decode cX1_add 37 = .ok (.iconst 2, 1) := by decide +kernel
theorem dX1_add_38 : decode cX1_add 38 = .ok (.aaload, 1) := by decide +kernel
theorem dX1_add_39 : decode cX1_add 39 = .ok (.iload 4, 2) := by decide +kernel
theorem dX1_add_41 : decode cX1_add 41 = .ok (.iload_n 3, 1) := by decide +kernel
theorem dX1_add_42 : decode cX1_add 42 = .ok (.iastore, 1) := by decide +kernel
theorem dX1_add_43 : decode cX1_add 43 = .ok (.aload_n 0, 1) := by decide +kernel
theorem dX1_add_44 : decode cX1_add 44 = .ok (.dup, 1) := by decide +kernel
theorem dX1_add_45 : decode cX1_add 45 = .ok (.getfield 23, 3) := by decide +kernel
theorem dX1_add_48 : decode cX1_add 48 = .ok (.iconst 1, 1) := by decide +kernel
theorem dX1_add_49 : decode cX1_add 49 = .ok (.iadd, 1) := by decide +kernel
theorem dX1_add_50 : decode cX1_add 50 = .ok (.putfield 23, 3) := by decide +kernel
theorem dX1_add_53 : decode cX1_add 53 = .ok (.iload 4, 2) := by decide +kernel
theorem dX1_add_55 : decode cX1_add 55 = .ok (.ireturn, 1) := by decide +kernel
theorem dX1_isOfKind_0 : decode cX1_isOfKind 0 = .ok (.getstatic 42, 3) := by decide +kernel
theorem dX1_isOfKind_3 : decode cX1_isOfKind 3 = .ok (.iload_n 2, 1) := by decide +kernel
theorem dX1_isOfKind_4 : decode cX1_isOfKind 4 = .ok (.iaload, 1) := by decide +kernel
theorem dX1_isOfKind_5 : decode cX1_isOfKind 5 = .ok (.aload_n 0, 1) := by decide +kernel
theorem dX1_isOfKind_6 : decode cX1_isOfKind 6 = .ok (.getfield 16, 3) := by decide +kernel
theorem dX1_isOfKind_9 : decode cX1_isOfKind 9 = .ok (.iconst 0, 1) := by decide +kernel
theorem dX1_isOfKind_10 : decode cX1_isOfKind 10 = .ok (.aaload, 1) := by decide +kernel
theorem dX1_isOfKind_11 : decode cX1_isOfKind 11 = .ok (.iload_n 1, 1) := by decide +kernel
theorem dX1_isOfKind_12 : decode cX1_isOfKind 12 = .ok (.iaload, 1) := by decide +kernel
theorem dX1_isOfKind_13 : decode cX1_isOfKind 13 = .ok (.ishr, 1) := by decide +kernel
theorem dX1_isOfKind_14 : decode cX1_isOfKind 14 = .ok (.iconst 1, 1) := by decide +kernel
theorem dX1_isOfKind_15 : decode cX1_isOfKind 15 = .ok (.iand, 1) := by decide +kernel
theorem dX1_isOfKind_16 : decode cX1_isOfKind 16 = .ok (.ifCond .eq 7, 3) := by decide +kernel
theorem dX1_isOfKind_19 : decode cX1_isOfKind 19 = .ok (.iconst 1, 1) := by decide +kernel
theorem dX1_isOfKind_20 : decode cX1_isOfKind 20 = .ok (.goto 4, 3) := by decide +kernel
theorem dX1_isOfKind_23 : decode cX1_isOfKind 23 = .ok (.iconst 0, 1) := by decide +kernel
theorem dX1_isOfKind_24 : decode cX1_isOfKind 24 = .ok (.ireturn, 1) := by decide +kernel
theorem dX1_thingsIn_0 : decode cX1_thingsIn 0 = .ok (.iconst 0, 1) := by decide +kernel
theorem dX1_thingsIn_1 : decode cX1_thingsIn 1 = .ok (.istore_n 2, 1) := by decide +kernel
theorem dX1_thingsIn_2 : decode cX1_thingsIn 2 = .ok (.iconst 0, 1) := by decide +kernel
theorem dX1_thingsIn_3 : decode cX1_thingsIn 3 = .ok (.istore_n 3, 1) := by decide +kernel
theorem dX1_thingsIn_4 : decode cX1_thingsIn 4 = .ok (.iload_n 3, 1) := by decide +kernel
theorem dX1_thingsIn_5 : decode cX1_thingsIn 5 = .ok (.aload_n 0, 1) := by decide +kernel
theorem dX1_thingsIn_6 : decode cX1_thingsIn 6 = .ok (.getfield 23, 3) := by decide +kernel
theorem dX1_thingsIn_9 : decode cX1_thingsIn 9 = .ok (.if_icmp .ge 27, 3) := by decide +kernel
theorem dX1_thingsIn_12 : decode cX1_thingsIn 12 = .ok (.aload_n 0, 1) := by decide +kernel
theorem dX1_thingsIn_13 : decode cX1_thingsIn 13 = .ok (.getfield 16, 3) := by decide +kernel
theorem dX1_thingsIn_16 : decode cX1_thingsIn 16 = .ok (.iconst 1, 1) := by decide +kernel
theorem dX1_thingsIn_17 : decode cX1_thingsIn 17 = .ok (.aaload, 1) := by decide +kernel
theorem dX1_thingsIn_18 : decode cX1_thingsIn 18 = .ok (.iload_n 3, 1) := by decide +kernel
theorem dX1_thingsIn_19 : decode cX1_thingsIn 19 = .ok (.iaload, 1) := by decide +kernel
theorem dX1_thingsIn_20 : decode cX1_thingsIn 20 = .ok (.iload_n 1, 1) := by decide +kernel
theorem dX1_thingsIn_21 : decode cX1_thingsIn 21 = .ok (.if_icmp .ne 9, 3) := by decide +kernel
theorem dX1_thingsIn_24 : decode cX1_thingsIn 24 = .ok (.iload_n 2, 1) := by decide +kernel
theorem dX1_thingsIn_25 : decode cX1_thingsIn 25 = .ok (.iconst 1, 1) := by decide +kernel
theorem dX1_thingsIn_26 : decode cX1_thingsIn 26 = .ok (.iload_n 3, 1) := by decide +kernel
theorem dX1_thingsIn_27 : decode cX1_thingsIn 27 = .ok (.ishl, 1) := by decide +kernel
theorem dX1_thingsIn_28 : decode cX1_thingsIn 28 = .ok (.ior, 1) := by decide +kernel
theorem dX1_thingsIn_29 : decode cX1_thingsIn 29 = .ok (.istore_n 2, 1) := by decide +kernel
theorem dX1_thingsIn_30 : decode cX1_thingsIn 30 = .ok (.iinc 3 1, 3) := by decide +kernel
theorem dX1_thingsIn_33 : decode cX1_thingsIn 33 = .ok (.goto (-29), 3) := by decide +kernel
theorem dX1_thingsIn_36 : decode cX1_thingsIn 36 = .ok (.iload_n 2, 1) := by decide +kernel
theorem dX1_thingsIn_37 : decode cX1_thingsIn 37 = .ok (.ireturn, 1) := by decide +kernel
theorem dX1_thingsSeenIn_0 : decode cX1_thingsSeenIn 0 = .ok (.aload_n 0, 1) := by decide +kernel
theorem dX1_thingsSeenIn_1 : decode cX1_thingsSeenIn 1 = .ok (.aload_n 0, 1) := by decide +kernel
theorem dX1_thingsSeenIn_2 : decode cX1_thingsSeenIn 2 = .ok (.getfield 11, 3) := by decide +kernel
theorem dX1_thingsSeenIn_5 : decode cX1_thingsSeenIn 5 = .ok (.iconst 0, 1) := by decide +kernel
theorem dX1_thingsSeenIn_6 : decode cX1_thingsSeenIn 6 = .ok (.aaload, 1) := by decide +kernel
theorem dX1_thingsSeenIn_7 : decode cX1_thingsSeenIn 7 = .ok (.iload_n 1, 1) := by decide +kernel
theorem dX1_thingsSeenIn_8 : decode cX1_thingsSeenIn 8 = .ok (.iaload, 1) := by decide +kernel
theorem dX1_thingsSeenIn_9 : decode cX1_thingsSeenIn 9 = .ok (.invokevirtual 45, 3) := by decide +kernel
theorem dX1_thingsSeenIn_12 : decode cX1_thingsSeenIn 12 = .ok (.ireturn, 1) := by decide +kernel
theorem dX1_showersOf_0 : decode cX1_showersOf 0 = .ok (.iconst 0, 1) := by decide +kernel
theorem dX1_showersOf_1 : decode cX1_showersOf 1 = .ok (.istore_n 2, 1) := by decide +kernel
theorem dX1_showersOf_2 : decode cX1_showersOf 2 = .ok (.iconst 0, 1) := by decide +kernel
theorem dX1_showersOf_3 : decode cX1_showersOf 3 = .ok (.istore_n 3, 1) := by decide +kernel
theorem dX1_showersOf_4 : decode cX1_showersOf 4 = .ok (.iload_n 3, 1) := by decide +kernel
theorem dX1_showersOf_5 : decode cX1_showersOf 5 = .ok (.bipush 16, 2) := by decide +kernel
theorem dX1_showersOf_7 : decode cX1_showersOf 7 = .ok (.if_icmp .ge 27, 3) := by decide +kernel
theorem dX1_showersOf_10 : decode cX1_showersOf 10 = .ok (.aload_n 0, 1) := by decide +kernel
theorem dX1_showersOf_11 : decode cX1_showersOf 11 = .ok (.getfield 11, 3) := by decide +kernel
theorem dX1_showersOf_14 : decode cX1_showersOf 14 = .ok (.iconst 0, 1) := by decide +kernel
theorem dX1_showersOf_15 : decode cX1_showersOf 15 = .ok (.aaload, 1) := by decide +kernel
theorem dX1_showersOf_16 : decode cX1_showersOf 16 = .ok (.iload_n 3, 1) := by decide +kernel
theorem dX1_showersOf_17 : decode cX1_showersOf 17 = .ok (.iaload, 1) := by decide +kernel
theorem dX1_showersOf_18 : decode cX1_showersOf 18 = .ok (.iload_n 1, 1) := by decide +kernel
theorem dX1_showersOf_19 : decode cX1_showersOf 19 = .ok (.if_icmp .ne 9, 3) := by decide +kernel
theorem dX1_showersOf_22 : decode cX1_showersOf 22 = .ok (.iload_n 2, 1) := by decide +kernel
theorem dX1_showersOf_23 : decode cX1_showersOf 23 = .ok (.iconst 1, 1) := by decide +kernel
theorem dX1_showersOf_24 : decode cX1_showersOf 24 = .ok (.iload_n 3, 1) := by decide +kernel
theorem dX1_showersOf_25 : decode cX1_showersOf 25 = .ok (.ishl, 1) := by decide +kernel
theorem dX1_showersOf_26 : decode cX1_showersOf 26 = .ok (.ior, 1) := by decide +kernel
theorem dX1_showersOf_27 : decode cX1_showersOf 27 = .ok (.istore_n 2, 1) := by decide +kernel
theorem dX1_showersOf_28 : decode cX1_showersOf 28 = .ok (.iinc 3 1, 3) := by decide +kernel
theorem dX1_showersOf_31 : decode cX1_showersOf 31 = .ok (.goto (-27), 3) := by decide +kernel
theorem dX1_showersOf_34 : decode cX1_showersOf 34 = .ok (.iload_n 2, 1) := by decide +kernel
theorem dX1_showersOf_35 : decode cX1_showersOf 35 = .ok (.ireturn, 1) := by decide +kernel
theorem dX1_pondsWithThings_0 : decode cX1_pondsWithThings 0 = .ok (.iconst 0, 1) := by decide +kernel
theorem dX1_pondsWithThings_1 : decode cX1_pondsWithThings 1 = .ok (.istore_n 1, 1) := by decide +kernel
theorem dX1_pondsWithThings_2 : decode cX1_pondsWithThings 2 = .ok (.iconst 0, 1) := by decide +kernel
theorem dX1_pondsWithThings_3 : decode cX1_pondsWithThings 3 = .ok (.istore_n 2, 1) := by decide +kernel
theorem dX1_pondsWithThings_4 : decode cX1_pondsWithThings 4 = .ok (.iload_n 2, 1) := by decide +kernel
theorem dX1_pondsWithThings_5 : decode cX1_pondsWithThings 5 = .ok (.aload_n 0, 1) := by decide +kernel
theorem dX1_pondsWithThings_6 : decode cX1_pondsWithThings 6 = .ok (.getfield 23, 3) := by decide +kernel
theorem dX1_pondsWithThings_9 : decode cX1_pondsWithThings 9 = .ok (.if_icmp .ge 22, 3) := by decide +kernel
theorem dX1_pondsWithThings_12 : decode cX1_pondsWithThings 12 = .ok (.iload_n 1, 1) := by decide +kernel
theorem dX1_pondsWithThings_13 : decode cX1_pondsWithThings 13 = .ok (.iconst 1, 1) := by decide +kernel
theorem dX1_pondsWithThings_14 : decode cX1_pondsWithThings 14 = .ok (.aload_n 0, 1) := by decide +kernel
theorem dX1_pondsWithThings_15 : decode cX1_pondsWithThings 15 = .ok (.getfield 16, 3) := by decide +kernel
theorem dX1_pondsWithThings_18 : decode cX1_pondsWithThings 18 = .ok (.iconst 1, 1) := by decide +kernel
theorem dX1_pondsWithThings_19 : decode cX1_pondsWithThings 19 = .ok (.aaload, 1) := by decide +kernel
theorem dX1_pondsWithThings_20 : decode cX1_pondsWithThings 20 = .ok (.iload_n 2, 1) := by decide +kernel
theorem dX1_pondsWithThings_21 : decode cX1_pondsWithThings 21 = .ok (.iaload, 1) := by decide +kernel
theorem dX1_pondsWithThings_22 : decode cX1_pondsWithThings 22 = .ok (.ishl, 1) := by decide +kernel
theorem dX1_pondsWithThings_23 : decode cX1_pondsWithThings 23 = .ok (.ior, 1) := by decide +kernel
theorem dX1_pondsWithThings_24 : decode cX1_pondsWithThings 24 = .ok (.istore_n 1, 1) := by decide +kernel
theorem dX1_pondsWithThings_25 : decode cX1_pondsWithThings 25 = .ok (.iinc 2 1, 3) := by decide +kernel
theorem dX1_pondsWithThings_28 : decode cX1_pondsWithThings 28 = .ok (.goto (-24), 3) := by decide +kernel
theorem dX1_pondsWithThings_31 : decode cX1_pondsWithThings 31 = .ok (.iload_n 1, 1) := by decide +kernel
theorem dX1_pondsWithThings_32 : decode cX1_pondsWithThings 32 = .ok (.ireturn, 1) := by decide +kernel
theorem dX1_pondsWithSights_0 : decode cX1_pondsWithSights 0 = .ok (.aload_n 0, 1) := by decide +kernel
theorem dX1_pondsWithSights_1 : decode cX1_pondsWithSights 1 = .ok (.invokevirtual 49, 3) := by decide +kernel
theorem dX1_pondsWithSights_4 : decode cX1_pondsWithSights 4 = .ok (.istore_n 1, 1) := by decide +kernel
theorem dX1_pondsWithSights_5 : decode cX1_pondsWithSights 5 = .ok (.iconst 0, 1) := by decide +kernel
theorem dX1_pondsWithSights_6 : decode cX1_pondsWithSights 6 = .ok (.istore_n 2, 1) := by decide +kernel
theorem dX1_pondsWithSights_7 : decode cX1_pondsWithSights 7 = .ok (.iconst 0, 1) := by decide +kernel
theorem dX1_pondsWithSights_8 : decode cX1_pondsWithSights 8 = .ok (.istore_n 3, 1) := by decide +kernel
theorem dX1_pondsWithSights_9 : decode cX1_pondsWithSights 9 = .ok (.iload_n 3, 1) := by decide +kernel
theorem dX1_pondsWithSights_10 : decode cX1_pondsWithSights 10 = .ok (.bipush 16, 2) := by decide +kernel
theorem dX1_pondsWithSights_12 : decode cX1_pondsWithSights 12 = .ok (.if_icmp .ge 30, 3) := by decide +kernel
theorem dX1_pondsWithSights_15 : decode cX1_pondsWithSights 15 = .ok (.iload_n 1, 1) := by decide +kernel
theorem dX1_pondsWithSights_16 : decode cX1_pondsWithSights 16 = .ok (.aload_n 0, 1) := by decide +kernel
theorem dX1_pondsWithSights_17 : decode cX1_pondsWithSights 17 = .ok (.getfield 11, 3) := by decide +kernel
theorem dX1_pondsWithSights_20 : decode cX1_pondsWithSights 20 = .ok (.iconst 0, 1) := by decide +kernel
theorem dX1_pondsWithSights_21 : decode cX1_pondsWithSights 21 = .ok (.aaload, 1) := by decide +kernel
theorem dX1_pondsWithSights_22 : decode cX1_pondsWithSights 22 = .ok (.iload_n 3, 1) := by decide +kernel
theorem dX1_pondsWithSights_23 : decode cX1_pondsWithSights 23 = .ok (.iaload, 1) := by decide +kernel
theorem dX1_pondsWithSights_24 : decode cX1_pondsWithSights 24 = .ok (.ishr, 1) := by decide +kernel
theorem dX1_pondsWithSights_25 : decode cX1_pondsWithSights 25 = .ok (.iconst 1, 1) := by decide +kernel
theorem dX1_pondsWithSights_26 : decode cX1_pondsWithSights 26 = .ok (.iand, 1) := by decide +kernel
theorem dX1_pondsWithSights_27 : decode cX1_pondsWithSights 27 = .ok (.ifCond .eq 9, 3) := by decide +kernel
theorem dX1_pondsWithSights_30 : decode cX1_pondsWithSights 30 = .ok (.iload_n 2, 1) := by decide +kernel
theorem dX1_pondsWithSights_31 : decode cX1_pondsWithSights 31 = .ok (.iconst 1, 1) := by decide +kernel
theorem dX1_pondsWithSights_32 : decode cX1_pondsWithSights 32 = .ok (.iload_n 3, 1) := by decide +kernel
theorem dX1_pondsWithSights_33 : decode cX1_pondsWithSights 33 = .ok (.ishl, 1) := by decide +kernel
theorem dX1_pondsWithSights_34 : decode cX1_pondsWithSights 34 = .ok (.ior, 1) := by decide +kernel
theorem dX1_pondsWithSights_35 : decode cX1_pondsWithSights 35 = .ok (.istore_n 2, 1) := by decide +kernel
theorem dX1_pondsWithSights_36 : decode cX1_pondsWithSights 36 = .ok (.iinc 3 1, 3) := by decide +kernel
theorem dX1_pondsWithSights_39 : decode cX1_pondsWithSights 39 = .ok (.goto (-30), 3) := by decide +kernel
theorem dX1_pondsWithSights_42 : decode cX1_pondsWithSights 42 = .ok (.iload_n 2, 1) := by decide +kernel
theorem dX1_pondsWithSights_43 : decode cX1_pondsWithSights 43 = .ok (.ireturn, 1) := by decide +kernel
theorem dX1_lengths_0 : decode cX1_lengths 0 = .ok (.iconst 0, 1) := by decide +kernel
theorem dX1_lengths_1 : decode cX1_lengths 1 = .ok (.istore_n 1, 1) := by decide +kernel
theorem dX1_lengths_2 : decode cX1_lengths 2 = .ok (.iconst 0, 1) := by decide +kernel
theorem dX1_lengths_3 : decode cX1_lengths 3 = .ok (.istore_n 2, 1) := by decide +kernel
theorem dX1_lengths_4 : decode cX1_lengths 4 = .ok (.iload_n 2, 1) := by decide +kernel
theorem dX1_lengths_5 : decode cX1_lengths 5 = .ok (.aload_n 0, 1) := by decide +kernel
theorem dX1_lengths_6 : decode cX1_lengths 6 = .ok (.getfield 23, 3) := by decide +kernel
theorem dX1_lengths_9 : decode cX1_lengths 9 = .ok (.if_icmp .ge 20, 3) := by decide +kernel
theorem dX1_lengths_12 : decode cX1_lengths 12 = .ok (.iload_n 1, 1) := by decide +kernel
theorem dX1_lengths_13 : decode cX1_lengths 13 = .ok (.aload_n 0, 1) := by decide +kernel
theorem dX1_lengths_14 : decode cX1_lengths 14 = .ok (.getfield 16, 3) := by decide +kernel
theorem dX1_lengths_17 : decode cX1_lengths 17 = .ok (.iconst 2, 1) := by decide +kernel
theorem dX1_lengths_18 : decode cX1_lengths 18 = .ok (.aaload, 1) := by decide +kernel
theorem dX1_lengths_19 : decode cX1_lengths 19 = .ok (.iload_n 2, 1) := by decide +kernel
theorem dX1_lengths_20 : decode cX1_lengths 20 = .ok (.iaload, 1) := by decide +kernel
theorem dX1_lengths_21 : decode cX1_lengths 21 = .ok (.iadd, 1) := by decide +kernel
theorem dX1_lengths_22 : decode cX1_lengths 22 = .ok (.istore_n 1, 1) := by decide +kernel
theorem dX1_lengths_23 : decode cX1_lengths 23 = .ok (.iinc 2 1, 3) := by decide +kernel
theorem dX1_lengths_26 : decode cX1_lengths 26 = .ok (.goto (-22), 3) := by decide +kernel
theorem dX1_lengths_29 : decode cX1_lengths 29 = .ok (.iload_n 1, 1) := by decide +kernel
theorem dX1_lengths_30 : decode cX1_lengths 30 = .ok (.ireturn, 1) := by decide +kernel
theorem dX1_spotsInUse_0 : decode cX1_spotsInUse 0 = .ok (.iconst 0, 1) := by decide +kernel
theorem dX1_spotsInUse_1 : decode cX1_spotsInUse 1 = .ok (.istore_n 1, 1) := by decide +kernel
theorem dX1_spotsInUse_2 : decode cX1_spotsInUse 2 = .ok (.aload_n 0, 1) := by decide +kernel
theorem dX1_spotsInUse_3 : decode cX1_spotsInUse 3 = .ok (.getfield 19, 3) := by decide +kernel
theorem dX1_spotsInUse_6 : decode cX1_spotsInUse 6 = .ok (.astore_n 2, 1) := by decide +kernel
theorem dX1_spotsInUse_7 : decode cX1_spotsInUse 7 = .ok (.aload_n 2, 1) := by decide +kernel
theorem dX1_spotsInUse_8 : decode cX1_spotsInUse 8 = .ok (.arraylength, 1) := by decide +kernel
theorem dX1_spotsInUse_9 : decode cX1_spotsInUse 9 = .ok (.istore_n 3, 1) := by decide +kernel
theorem dX1_spotsInUse_10 : decode cX1_spotsInUse 10 = .ok (.iconst 0, 1) := by decide +kernel
theorem dX1_spotsInUse_11 : decode cX1_spotsInUse 11 = .ok (.istore 4, 2) := by decide +kernel
theorem dX1_spotsInUse_13 : decode cX1_spotsInUse 13 = .ok (.iload 4, 2) := by decide +kernel
theorem dX1_spotsInUse_15 : decode cX1_spotsInUse 15 = .ok (.iload_n 3, 1) := by decide +kernel
theorem dX1_spotsInUse_16 : decode cX1_spotsInUse 16 = .ok (.if_icmp .ge 23, 3) := by decide +kernel
theorem dX1_spotsInUse_19 : decode cX1_spotsInUse 19 = .ok (.aload_n 2, 1) := by decide +kernel
theorem dX1_spotsInUse_20 : decode cX1_spotsInUse 20 = .ok (.iload 4, 2) := by decide +kernel
theorem dX1_spotsInUse_22 : decode cX1_spotsInUse 22 = .ok (.iaload, 1) := by decide +kernel
theorem dX1_spotsInUse_23 : decode cX1_spotsInUse 23 = .ok (.istore 5, 2) := by decide +kernel
theorem dX1_spotsInUse_25 : decode cX1_spotsInUse 25 = .ok (.iload 5, 2) := by decide +kernel
theorem dX1_spotsInUse_27 : decode cX1_spotsInUse 27 = .ok (.ifCond .lt 6, 3) := by decide +kernel
theorem dX1_spotsInUse_30 : decode cX1_spotsInUse 30 = .ok (.iinc 1 1, 3) := by decide +kernel
theorem dX1_spotsInUse_33 : decode cX1_spotsInUse 33 = .ok (.iinc 4 1, 3) := by decide +kernel
theorem dX1_spotsInUse_36 : decode cX1_spotsInUse 36 = .ok (.goto (-23), 3) := by decide +kernel
theorem dX1_spotsInUse_39 : decode cX1_spotsInUse 39 = .ok (.iload_n 1, 1) := by decide +kernel
theorem dX1_spotsInUse_40 : decode cX1_spotsInUse 40 = .ok (.ireturn, 1) := by decide +kernel
theorem dX1_passMinute_0 : decode cX1_passMinute 0 = .ok (.iconst 0, 1) := by decide +kernel
theorem dX1_passMinute_1 : decode cX1_passMinute 1 = .ok (.istore_n 1, 1) := by decide +kernel
theorem dX1_passMinute_2 : decode cX1_passMinute 2 = .ok (.iload_n 1, 1) := by decide +kernel
theorem dX1_passMinute_3 : decode cX1_passMinute 3 = .ok (.aload_n 0, 1) := by decide +kernel
theorem dX1_passMinute_4 : decode cX1_passMinute 4 = .ok (.getfield 23, 3) := by decide +kernel
theorem dX1_passMinute_7 : decode cX1_passMinute 7 = .ok (.if_icmp .ge 22, 3) := by decide +kernel
theorem dX1_passMinute_10 : decode cX1_passMinute 10 = .ok (.aload_n 0, 1) := by decide +kernel
theorem dX1_passMinute_11 : decode cX1_passMinute 11 = .ok (.getfield 16, 3) := by decide +kernel
theorem dX1_passMinute_14 : decode cX1_passMinute 14 = .ok (.iconst 1, 1) := by decide +kernel
theorem dX1_passMinute_15 : decode cX1_passMinute 15 = .ok (.aaload, 1) := by decide +kernel
theorem dX1_passMinute_16 : decode cX1_passMinute 16 = .ok (.iload_n 1, 1) := by decide +kernel
theorem dX1_passMinute_17 : decode cX1_passMinute 17 = .ok (.aload_n 0, 1) := by decide +kernel
theorem dX1_passMinute_18 : decode cX1_passMinute 18 = .ok (.iload_n 1, 1) := by decide +kernel
theorem dX1_passMinute_19 : decode cX1_passMinute 19 = .ok (.invokevirtual 53, 3) := by decide +kernel
theorem dX1_passMinute_22 : decode cX1_passMinute 22 = .ok (.iastore, 1) := by decide +kernel
theorem dX1_passMinute_23 : decode cX1_passMinute 23 = .ok (.iinc 1 1, 3) := by decide +kernel
theorem dX1_passMinute_26 : decode cX1_passMinute 26 = .ok (.goto (-24), 3) := by decide +kernel
theorem dX1_passMinute_29 : decode cX1_passMinute 29 = .ok (.aload_n 0, 1) := by decide +kernel
theorem dX1_passMinute_30 : decode cX1_passMinute 30 = .ok (.aload_n 0, 1) := by decide +kernel
theorem dX1_passMinute_31 : decode cX1_passMinute 31 = .ok (.getfield 30, 3) := by decide +kernel
theorem dX1_passMinute_34 : decode cX1_passMinute 34 = .ok (.iconst 1, 1) := by decide +kernel
theorem dX1_passMinute_35 : decode cX1_passMinute 35 = .ok (.iadd, 1) := by decide +kernel
theorem dX1_passMinute_36 : decode cX1_passMinute 36 = .ok (.ldc 56, 2) := by decide +kernel
theorem dX1_passMinute_38 : decode cX1_passMinute 38 = .ok (.invokestatic 57, 3) := by decide +kernel
theorem dX1_passMinute_41 : decode cX1_passMinute 41 = .ok (.putfield 30, 3) := by decide +kernel
theorem dX1_passMinute_44 : decode cX1_passMinute 44 = .ok (.return_, 1) := by decide +kernel
theorem dX1_nextPond_0 : decode cX1_nextPond 0 = .ok (.aload_n 0, 1) := by decide +kernel
theorem dX1_nextPond_1 : decode cX1_nextPond 1 = .ok (.getfield 16, 3) := by decide +kernel
theorem dX1_nextPond_4 : decode cX1_nextPond 4 = .ok (.iconst 1, 1) := by decide +kernel
theorem dX1_nextPond_5 : decode cX1_nextPond 5 = .ok (.aaload, 1) := by decide +kernel
theorem dX1_nextPond_6 : decode cX1_nextPond 6 = .ok (.iload_n 1, 1) := by decide +kernel
theorem dX1_nextPond_7 : decode cX1_nextPond 7 = .ok (.iaload, 1) := by decide +kernel
theorem dX1_nextPond_8 : decode cX1_nextPond 8 = .ok (.istore_n 2, 1) := by decide +kernel
theorem dX1_nextPond_9 : decode cX1_nextPond 9 = .ok (.iload_n 2, 1) := by decide +kernel
theorem dX1_nextPond_10 : decode cX1_nextPond 10 = .ok (.istore_n 3, 1) := by decide +kernel
theorem dX1_nextPond_11 : decode cX1_nextPond 11 = .ok (.aload_n 0, 1) := by decide +kernel
theorem dX1_nextPond_12 : decode cX1_nextPond 12 = .ok (.getfield 16, 3) := by decide +kernel
theorem dX1_nextPond_15 : decode cX1_nextPond 15 = .ok (.iconst 0, 1) := by decide +kernel
theorem dX1_nextPond_16 : decode cX1_nextPond 16 = .ok (.aaload, 1) := by decide +kernel
theorem dX1_nextPond_17 : decode cX1_nextPond 17 = .ok (.iload_n 1, 1) := by decide +kernel
theorem dX1_nextPond_18 : decode cX1_nextPond 18 = .ok (.iaload, 1) := by decide +kernel
theorem dX1_nextPond_19 : decode cX1_nextPond 19 = .ok (.tableswitch 123 1 6 #[37, 49, 61, 70, 79, 114], 37) := by decide +kernel
theorem dX1_nextPond_56 : decode cX1_nextPond 56 = .ok (.aload_n 0, 1) := by decide +kernel
theorem dX1_nextPond_57 : decode cX1_nextPond 57 = .ok (.getfield 11, 3) := by decide +kernel
theorem dX1_nextPond_60 : decode cX1_nextPond 60 = .ok (.iconst 4, 1) := by decide +kernel
theorem dX1_nextPond_61 : decode cX1_nextPond 61 = .ok (.aaload, 1) := by decide +kernel
theorem dX1_nextPond_62 : decode cX1_nextPond 62 = .ok (.iload_n 2, 1) := by decide +kernel
theorem dX1_nextPond_63 : decode cX1_nextPond 63 = .ok (.iaload, 1) := by decide +kernel
theorem dX1_nextPond_64 : decode cX1_nextPond 64 = .ok (.istore_n 3, 1) := by decide +kernel
theorem dX1_nextPond_65 : decode cX1_nextPond 65 = .ok (.goto 77, 3) := by decide +kernel
theorem dX1_nextPond_68 : decode cX1_nextPond 68 = .ok (.aload_n 0, 1) := by decide +kernel
theorem dX1_nextPond_69 : decode cX1_nextPond 69 = .ok (.getfield 11, 3) := by decide +kernel
theorem dX1_nextPond_72 : decode cX1_nextPond 72 = .ok (.iconst 0, 1) := by decide +kernel
theorem dX1_nextPond_73 : decode cX1_nextPond 73 = .ok (.aaload, 1) := by decide +kernel
theorem dX1_nextPond_74 : decode cX1_nextPond 74 = .ok (.iload_n 2, 1) := by decide +kernel
theorem dX1_nextPond_75 : decode cX1_nextPond 75 = .ok (.iaload, 1) := by decide +kernel
theorem dX1_nextPond_76 : decode cX1_nextPond 76 = .ok (.istore_n 3, 1) := by decide +kernel
theorem dX1_nextPond_77 : decode cX1_nextPond 77 = .ok (.goto 65, 3) := by decide +kernel
theorem dX1_nextPond_80 : decode cX1_nextPond 80 = .ok (.aload_n 0, 1) := by decide +kernel
theorem dX1_nextPond_81 : decode cX1_nextPond 81 = .ok (.iload_n 2, 1) := by decide +kernel
theorem dX1_nextPond_82 : decode cX1_nextPond 82 = .ok (.invokevirtual 63, 3) := by decide +kernel
theorem dX1_nextPond_85 : decode cX1_nextPond 85 = .ok (.istore_n 3, 1) := by decide +kernel
theorem dX1_nextPond_86 : decode cX1_nextPond 86 = .ok (.goto 56, 3) := by decide +kernel
theorem dX1_nextPond_89 : decode cX1_nextPond 89 = .ok (.aload_n 0, 1) := by decide +kernel
theorem dX1_nextPond_90 : decode cX1_nextPond 90 = .ok (.iload_n 2, 1) := by decide +kernel
theorem dX1_nextPond_91 : decode cX1_nextPond 91 = .ok (.invokevirtual 66, 3) := by decide +kernel
theorem dX1_nextPond_94 : decode cX1_nextPond 94 = .ok (.istore_n 3, 1) := by decide +kernel
theorem dX1_nextPond_95 : decode cX1_nextPond 95 = .ok (.goto 47, 3) := by decide +kernel
theorem dX1_nextPond_98 : decode cX1_nextPond 98 = .ok (.aload_n 0, 1) := by decide +kernel
theorem dX1_nextPond_99 : decode cX1_nextPond 99 = .ok (.getfield 11, 3) := by decide +kernel
theorem dX1_nextPond_102 : decode cX1_nextPond 102 = .ok (.iconst 5, 1) := by decide +kernel
theorem dX1_nextPond_103 : decode cX1_nextPond 103 = .ok (.aaload, 1) := by decide +kernel
theorem dX1_nextPond_104 : decode cX1_nextPond 104 = .ok (.iload_n 2, 1) := by decide +kernel
theorem dX1_nextPond_105 : decode cX1_nextPond 105 = .ok (.iaload, 1) := by decide +kernel
theorem dX1_nextPond_106 : decode cX1_nextPond 106 = .ok (.aload_n 0, 1) := by decide +kernel
theorem dX1_nextPond_107 : decode cX1_nextPond 107 = .ok (.getfield 16, 3) := by decide +kernel
theorem dX1_nextPond_110 : decode cX1_nextPond 110 = .ok (.iconst 2, 1) := by decide +kernel
theorem dX1_nextPond_111 : decode cX1_nextPond 111 = .ok (.aaload, 1) := by decide +kernel
theorem dX1_nextPond_112 : decode cX1_nextPond 112 = .ok (.iload_n 1, 1) := by decide +kernel
theorem dX1_nextPond_113 : decode cX1_nextPond 113 = .ok (.iaload, 1) := by decide +kernel
theorem dX1_nextPond_114 : decode cX1_nextPond 114 = .ok (.if_icmp .ge 14, 3) := by decide +kernel
theorem dX1_nextPond_117 : decode cX1_nextPond 117 = .ok (.aload_n 0, 1) := by decide +kernel
theorem dX1_nextPond_118 : decode cX1_nextPond 118 = .ok (.getfield 11, 3) := by decide +kernel
theorem dX1_nextPond_121 : decode cX1_nextPond 121 = .ok (.iconst 4, 1) := by decide +kernel
theorem dX1_nextPond_122 : decode cX1_nextPond 122 = .ok (.aaload, 1) := by decide +kernel
theorem dX1_nextPond_123 : decode cX1_nextPond 123 = .ok (.iload_n 2, 1) := by decide +kernel
theorem dX1_nextPond_124 : decode cX1_nextPond 124 = .ok (.iaload, 1) := by decide +kernel
theorem dX1_nextPond_125 : decode cX1_nextPond 125 = .ok (.goto 4, 3) := by decide +kernel
theorem dX1_nextPond_128 : decode cX1_nextPond 128 = .ok (.iload_n 2, 1) := by decide +kernel
theorem dX1_nextPond_129 : decode cX1_nextPond 129 = .ok (.istore_n 3, 1) := by decide +kernel
theorem dX1_nextPond_130 : decode cX1_nextPond 130 = .ok (.goto 12, 3) := by decide +kernel
theorem dX1_nextPond_133 : decode cX1_nextPond 133 = .ok (.aload_n 0, 1) := by decide +kernel
theorem dX1_nextPond_134 : decode cX1_nextPond 134 = .ok (.iload_n 2, 1) := by decide +kernel
theorem dX1_nextPond_135 : decode cX1_nextPond 135 = .ok (.invokevirtual 69, 3) := by decide +kernel
theorem dX1_nextPond_138 : decode cX1_nextPond 138 = .ok (.istore_n 3, 1) := by decide +kernel
theorem dX1_nextPond_139 : decode cX1_nextPond 139 = .ok (.goto 3, 3) := by decide +kernel
theorem dX1_nextPond_142 : decode cX1_nextPond 142 = .ok (.iload_n 3, 1) := by decide +kernel
theorem dX1_nextPond_143 : decode cX1_nextPond 143 = .ok (.aload_n 0, 1) := by decide +kernel
theorem dX1_nextPond_144 : decode cX1_nextPond 144 = .ok (.getfield 27, 3) := by decide +kernel
theorem dX1_nextPond_147 : decode cX1_nextPond 147 = .ok (.iadd, 1) := by decide +kernel
theorem dX1_nextPond_148 : decode cX1_nextPond 148 = .ok (.bipush 16, 2) := by decide +kernel
theorem dX1_nextPond_150 : decode cX1_nextPond 150 = .ok (.irem, 1) := by decide +kernel
theorem dX1_nextPond_151 : decode cX1_nextPond 151 = .ok (.ireturn, 1) := by decide +kernel
theorem dX1_nextOfFrog_0 : decode cX1_nextOfFrog 0 = .ok (.aload_n 0, 1) := by decide +kernel
theorem dX1_nextOfFrog_1 : decode cX1_nextOfFrog 1 = .ok (.getfield 30, 3) := by decide +kernel
theorem dX1_nextOfFrog_4 : decode cX1_nextOfFrog 4 = .ok (.iconst 2, 1) := by decide +kernel
theorem dX1_nextOfFrog_5 : decode cX1_nextOfFrog 5 = .ok (.irem, 1) := by decide +kernel
theorem dX1_nextOfFrog_6 : decode cX1_nextOfFrog 6 = .ok (.ifCond .ne 14, 3) := by decide +kernel
theorem dX1_nextOfFrog_9 : decode cX1_nextOfFrog 9 = .ok (.aload_n 0, 1) := by decide +kernel
theorem dX1_nextOfFrog_10 : decode cX1_nextOfFrog 10 = .ok (.getfield 11, 3) := by decide +kernel
theorem dX1_nextOfFrog_13 : decode cX1_nextOfFrog 13 = .ok (.iconst 0, 1) := by decide +kernel
theorem dX1_nextOfFrog_14 : decode cX1_nextOfFrog 14 = .ok (.aaload, 1) := by decide +kernel
theorem dX1_nextOfFrog_15 : decode cX1_nextOfFrog 15 = .ok (.iload_n 1, 1) := by decide +kernel
theorem dX1_nextOfFrog_16 : decode cX1_nextOfFrog 16 = .ok (.iaload, 1) := by decide +kernel
theorem dX1_nextOfFrog_17 : decode cX1_nextOfFrog 17 = .ok (.goto 4, 3) := by decide +kernel
theorem dX1_nextOfFrog_20 : decode cX1_nextOfFrog 20 = .ok (.iload_n 1, 1) := by decide +kernel
theorem dX1_nextOfFrog_21 : decode cX1_nextOfFrog 21 = .ok (.ireturn, 1) := by decide +kernel
theorem dX1_nextOfHeron_0 : decode cX1_nextOfHeron 0 = .ok (.iconst 0, 1) := by decide +kernel
theorem dX1_nextOfHeron_1 : decode cX1_nextOfHeron 1 = .ok (.istore_n 2, 1) := by decide +kernel
theorem dX1_nextOfHeron_2 : decode cX1_nextOfHeron 2 = .ok (.iload_n 2, 1) := by decide +kernel
theorem dX1_nextOfHeron_3 : decode cX1_nextOfHeron 3 = .ok (.bipush 16, 2) := by decide +kernel
theorem dX1_nextOfHeron_5 : decode cX1_nextOfHeron 5 = .ok (.if_icmp .ge 39, 3) := by decide +kernel
theorem dX1_nextOfHeron_8 : decode cX1_nextOfHeron 8 = .ok (.aload_n 0, 1) := by decide +kernel
theorem dX1_nextOfHeron_9 : decode cX1_nextOfHeron 9 = .ok (.getfield 11, 3) := by decide +kernel
theorem dX1_nextOfHeron_12 : decode cX1_nextOfHeron 12 = .ok (.iconst 0, 1) := by decide +kernel
theorem dX1_nextOfHeron_13 : decode cX1_nextOfHeron 13 = .ok (.aaload, 1) := by decide +kernel
theorem dX1_nextOfHeron_14 : decode cX1_nextOfHeron 14 = .ok (.iload_n 2, 1) := by decide +kernel
theorem dX1_nextOfHeron_15 : decode cX1_nextOfHeron 15 = .ok (.iaload, 1) := by decide +kernel
theorem dX1_nextOfHeron_16 : decode cX1_nextOfHeron 16 = .ok (.iload_n 1, 1) := by decide +kernel
theorem dX1_nextOfHeron_17 : decode cX1_nextOfHeron 17 = .ok (.if_icmp .ne 21, 3) := by decide +kernel
theorem dX1_nextOfHeron_20 : decode cX1_nextOfHeron 20 = .ok (.aload_n 0, 1) := by decide +kernel
theorem dX1_nextOfHeron_21 : decode cX1_nextOfHeron 21 = .ok (.iload_n 2, 1) := by decide +kernel
theorem dX1_nextOfHeron_22 : decode cX1_nextOfHeron 22 = .ok (.invokevirtual 72, 3) := by decide +kernel
theorem dX1_nextOfHeron_25 : decode cX1_nextOfHeron 25 = .ok (.ifCond .eq 7, 3) := by decide +kernel
theorem dX1_nextOfHeron_28 : decode cX1_nextOfHeron 28 = .ok (.iload_n 2, 1) := by decide +kernel
theorem dX1_nextOfHeron_29 : decode cX1_nextOfHeron 29 = .ok (.goto 8, 3) := by decide +kernel
theorem dX1_nextOfHeron_32 : decode cX1_nextOfHeron 32 = .ok (.aload_n 0, 1) := by decide +kernel
theorem dX1_nextOfHeron_33 : decode cX1_nextOfHeron 33 = .ok (.iload_n 1, 1) := by decide +kernel
theorem dX1_nextOfHeron_34 : decode cX1_nextOfHeron 34 = .ok (.invokevirtual 63, 3) := by decide +kernel
theorem dX1_nextOfHeron_37 : decode cX1_nextOfHeron 37 = .ok (.ireturn, 1) := by decide +kernel
theorem dX1_nextOfHeron_38 : decode cX1_nextOfHeron 38 = .ok (.iinc 2 1, 3) := by decide +kernel
theorem dX1_nextOfHeron_41 : decode cX1_nextOfHeron 41 = .ok (.goto (-39), 3) := by decide +kernel
theorem dX1_nextOfHeron_44 : decode cX1_nextOfHeron 44 = .ok (.aload_n 0, 1) := by decide +kernel
theorem dX1_nextOfHeron_45 : decode cX1_nextOfHeron 45 = .ok (.iload_n 1, 1) := by decide +kernel
theorem dX1_nextOfHeron_46 : decode cX1_nextOfHeron 46 = .ok (.invokevirtual 63, 3) := by decide +kernel
theorem dX1_nextOfHeron_49 : decode cX1_nextOfHeron 49 = .ok (.ireturn, 1) := by decide +kernel
theorem dX1_nextOfPike_0 : decode cX1_nextOfPike 0 = .ok (.aload_n 0, 1) := by decide +kernel
theorem dX1_nextOfPike_1 : decode cX1_nextOfPike 1 = .ok (.getfield 11, 3) := by decide +kernel
theorem dX1_nextOfPike_4 : decode cX1_nextOfPike 4 = .ok (.iconst 0, 1) := by decide +kernel
theorem dX1_nextOfPike_5 : decode cX1_nextOfPike 5 = .ok (.aaload, 1) := by decide +kernel
theorem dX1_nextOfPike_6 : decode cX1_nextOfPike 6 = .ok (.iload_n 1, 1) := by decide +kernel
theorem dX1_nextOfPike_7 : decode cX1_nextOfPike 7 = .ok (.iaload, 1) := by decide +kernel
theorem dX1_nextOfPike_8 : decode cX1_nextOfPike 8 = .ok (.istore_n 2, 1) := by decide +kernel
theorem dX1_nextOfPike_9 : decode cX1_nextOfPike 9 = .ok (.aload_n 0, 1) := by decide +kernel
theorem dX1_nextOfPike_10 : decode cX1_nextOfPike 10 = .ok (.iload_n 2, 1) := by decide +kernel
theorem dX1_nextOfPike_11 : decode cX1_nextOfPike 11 = .ok (.invokevirtual 72, 3) := by decide +kernel
theorem dX1_nextOfPike_14 : decode cX1_nextOfPike 14 = .ok (.ifCond .eq 7, 3) := by decide +kernel
theorem dX1_nextOfPike_17 : decode cX1_nextOfPike 17 = .ok (.iload_n 2, 1) := by decide +kernel
theorem dX1_nextOfPike_18 : decode cX1_nextOfPike 18 = .ok (.goto 11, 3) := by decide +kernel
theorem dX1_nextOfPike_21 : decode cX1_nextOfPike 21 = .ok (.aload_n 0, 1) := by decide +kernel
theorem dX1_nextOfPike_22 : decode cX1_nextOfPike 22 = .ok (.getfield 11, 3) := by decide +kernel
theorem dX1_nextOfPike_25 : decode cX1_nextOfPike 25 = .ok (.iconst 4, 1) := by decide +kernel
theorem dX1_nextOfPike_26 : decode cX1_nextOfPike 26 = .ok (.aaload, 1) := by decide +kernel
theorem dX1_nextOfPike_27 : decode cX1_nextOfPike 27 = .ok (.iload_n 1, 1) := by decide +kernel
theorem dX1_nextOfPike_28 : decode cX1_nextOfPike 28 = .ok (.iaload, 1) := by decide +kernel
theorem dX1_nextOfPike_29 : decode cX1_nextOfPike 29 = .ok (.ireturn, 1) := by decide +kernel
theorem dX1_hasFishIn_0 : decode cX1_hasFishIn 0 = .ok (.iconst 0, 1) := by decide +kernel
theorem dX1_hasFishIn_1 : decode cX1_hasFishIn 1 = .ok (.istore_n 2, 1) := by decide +kernel
theorem dX1_hasFishIn_2 : decode cX1_hasFishIn 2 = .ok (.iload_n 2, 1) := by decide +kernel
theorem dX1_hasFishIn_3 : decode cX1_hasFishIn 3 = .ok (.aload_n 0, 1) := by decide +kernel
theorem dX1_hasFishIn_4 : decode cX1_hasFishIn 4 = .ok (.getfield 23, 3) := by decide +kernel
theorem dX1_hasFishIn_7 : decode cX1_hasFishIn 7 = .ok (.if_icmp .ge 52, 3) := by decide +kernel
theorem dX1_hasFishIn_10 : decode cX1_hasFishIn 10 = .ok (.getstatic 42, 3) := by decide +kernel
theorem dX1_hasFishIn_13 : decode cX1_hasFishIn 13 = .ok (.iconst 1, 1) := by decide +kernel
theorem dX1_hasFishIn_14 : decode cX1_hasFishIn 14 = .ok (.iaload, 1) := by decide +kernel
theorem dX1_hasFishIn_15 : decode cX1_hasFishIn 15 = .ok (.aload_n 0, 1) := by decide +kernel
theorem dX1_hasFishIn_16 : decode cX1_hasFishIn 16 = .ok (.getfield 16, 3) := by decide +kernel
theorem dX1_hasFishIn_19 : decode cX1_hasFishIn 19 = .ok (.iconst 0, 1) := by decide +kernel
theorem dX1_hasFishIn_20 : decode cX1_hasFishIn 20 = .ok (.aaload, 1) := by decide +kernel
theorem dX1_hasFishIn_21 : decode cX1_hasFishIn 21 = .ok (.iload_n 2, 1) := by decide +kernel
theorem dX1_hasFishIn_22 : decode cX1_hasFishIn 22 = .ok (.iaload, 1) := by decide +kernel
theorem dX1_hasFishIn_23 : decode cX1_hasFishIn 23 = .ok (.ishr, 1) := by decide +kernel
theorem dX1_hasFishIn_24 : decode cX1_hasFishIn 24 = .ok (.iconst 1, 1) := by decide +kernel
theorem dX1_hasFishIn_25 : decode cX1_hasFishIn 25 = .ok (.iand, 1) := by decide +kernel
theorem dX1_hasFishIn_26 : decode cX1_hasFishIn 26 = .ok (.ifCond .eq 7, 3) := by decide +kernel
theorem dX1_hasFishIn_29 : decode cX1_hasFishIn 29 = .ok (.iconst 1, 1) := by decide +kernel
theorem dX1_hasFishIn_30 : decode cX1_hasFishIn 30 = .ok (.goto 4, 3) := by decide +kernel
theorem dX1_hasFishIn_33 : decode cX1_hasFishIn 33 = .ok (.iconst 0, 1) := by decide +kernel
theorem dX1_hasFishIn_34 : decode cX1_hasFishIn 34 = .ok (.istore_n 3, 1) := by decide +kernel
theorem dX1_hasFishIn_35 : decode cX1_hasFishIn 35 = .ok (.iload_n 3, 1) := by decide +kernel
theorem dX1_hasFishIn_36 : decode cX1_hasFishIn 36 = .ok (.ifCond .eq 17, 3) := by decide +kernel
theorem dX1_hasFishIn_39 : decode cX1_hasFishIn 39 = .ok (.aload_n 0, 1) := by decide +kernel
theorem dX1_hasFishIn_40 : decode cX1_hasFishIn 40 = .ok (.getfield 16, 3) := by decide +kernel
theorem dX1_hasFishIn_43 : decode cX1_hasFishIn 43 = .ok (.iconst 1, 1) := by decide +kernel
theorem dX1_hasFishIn_44 : decode cX1_hasFishIn 44 = .ok (.aaload, 1) := by decide +kernel
theorem dX1_hasFishIn_45 : decode cX1_hasFishIn 45 = .ok (.iload_n 2, 1) := by decide +kernel
theorem dX1_hasFishIn_46 : decode cX1_hasFishIn 46 = .ok (.iaload, 1) := by decide +kernel
theorem dX1_hasFishIn_47 : decode cX1_hasFishIn 47 = .ok (.iload_n 1, 1) := by decide +kernel
theorem dX1_hasFishIn_48 : decode cX1_hasFishIn 48 = .ok (.if_icmp .ne 5, 3) := by decide +kernel
theorem dX1_hasFishIn_51 : decode cX1_hasFishIn 51 = .ok (.iconst 1, 1) := by decide +kernel
theorem dX1_hasFishIn_52 : decode cX1_hasFishIn 52 = .ok (.ireturn, 1) := by decide +kernel
theorem dX1_hasFishIn_53 : decode cX1_hasFishIn 53 = .ok (.iinc 2 1, 3) := by decide +kernel
theorem dX1_hasFishIn_56 : decode cX1_hasFishIn 56 = .ok (.goto (-54), 3) := by decide +kernel
theorem dX1_hasFishIn_59 : decode cX1_hasFishIn 59 = .ok (.iconst 0, 1) := by decide +kernel
theorem dX1_hasFishIn_60 : decode cX1_hasFishIn 60 = .ok (.ireturn, 1) := by decide +kernel
theorem dX1_draw_0 : decode cX1_draw 0 = .ok (.aload_n 0, 1) := by decide +kernel
theorem dX1_draw_1 : decode cX1_draw 1 = .ok (.aload_n 0, 1) := by decide +kernel
theorem dX1_draw_2 : decode cX1_draw 2 = .ok (.getfield 33, 3) := by decide +kernel
theorem dX1_draw_5 : decode cX1_draw 5 = .ok (.ldc 76, 2) := by decide +kernel
theorem dX1_draw_7 : decode cX1_draw 7 = .ok (.imul, 1) := by decide +kernel
theorem dX1_draw_8 : decode cX1_draw 8 = .ok (.sipush 12345, 3) := by decide +kernel
theorem dX1_draw_11 : decode cX1_draw 11 = .ok (.iadd, 1) := by decide +kernel
theorem dX1_draw_12 : decode cX1_draw 12 = .ok (.putfield 33, 3) := by decide +kernel
theorem dX1_draw_15 : decode cX1_draw 15 = .ok (.aload_n 0, 1) := by decide +kernel
theorem dX1_draw_16 : decode cX1_draw 16 = .ok (.getfield 33, 3) := by decide +kernel
theorem dX1_draw_19 : decode cX1_draw 19 = .ok (.bipush 8, 2) := by decide +kernel
theorem dX1_draw_21 : decode cX1_draw 21 = .ok (.iushr, 1) := by decide +kernel
theorem dX1_draw_22 : decode cX1_draw 22 = .ok (.ireturn, 1) := by decide +kernel
theorem dX1_dropOne_0 : decode cX1_dropOne 0 = .ok (.aload_n 0, 1) := by decide +kernel
theorem dX1_dropOne_1 : decode cX1_dropOne 1 = .ok (.getfield 23, 3) := by decide +kernel
theorem dX1_dropOne_4 : decode cX1_dropOne 4 = .ok (.ifCond .le 28, 3) := by decide +kernel
theorem dX1_dropOne_7 : decode cX1_dropOne 7 = .ok (.aload_n 0, 1) := by decide +kernel
theorem dX1_dropOne_8 : decode cX1_dropOne 8 = .ok (.invokevirtual 77, 3) := by decide +kernel
theorem dX1_dropOne_11 : decode cX1_dropOne 11 = .ok (.aload_n 0, 1) := by decide +kernel
theorem dX1_dropOne_12 : decode cX1_dropOne 12 = .ok (.getfield 23, 3) := by decide +kernel
theorem dX1_dropOne_15 : decode cX1_dropOne 15 = .ok (.irem, 1) := by decide +kernel
theorem dX1_dropOne_16 : decode cX1_dropOne 16 = .ok (.istore_n 1, 1) := by decide +kernel
theorem dX1_dropOne_17 : decode cX1_dropOne 17 = .ok (.aload_n 0, 1) := by decide +kernel
theorem dX1_dropOne_18 : decode cX1_dropOne 18 = .ok (.getfield 16, 3) := by decide +kernel
theorem dX1_dropOne_21 : decode cX1_dropOne 21 = .ok (.iconst 1, 1) := by decide +kernel
theorem dX1_dropOne_22 : decode cX1_dropOne 22 = .ok (.aaload, 1) := by decide +kernel
theorem dX1_dropOne_23 : decode cX1_dropOne 23 = .ok (.iload_n 1, 1) := by decide +kernel
theorem dX1_dropOne_24 : decode cX1_dropOne 24 = .ok (.aload_n 0, 1) := by decide +kernel
theorem dX1_dropOne_25 : decode cX1_dropOne 25 = .ok (.invokevirtual 77, 3) := by decide +kernel
theorem dX1_dropOne_28 : decode cX1_dropOne 28 = .ok (.bipush 16, 2) := by decide +kernel
theorem dX1_dropOne_30 : decode cX1_dropOne 30 = .ok (.irem, 1) := by decide +kernel
theorem dX1_dropOne_31 : decode cX1_dropOne 31 = .ok (.iastore, 1) := by decide +kernel
theorem dX1_dropOne_32 : decode cX1_dropOne 32 = .ok (.return_, 1) := by decide +kernel
theorem dX1_chainEnd_0 : decode cX1_chainEnd 0 = .ok (.iload_n 1, 1) := by decide +kernel
theorem dX1_chainEnd_1 : decode cX1_chainEnd 1 = .ok (.istore_n 3, 1) := by decide +kernel
theorem dX1_chainEnd_2 : decode cX1_chainEnd 2 = .ok (.iconst 0, 1) := by decide +kernel
theorem dX1_chainEnd_3 : decode cX1_chainEnd 3 = .ok (.istore 4, 2) := by decide +kernel
theorem dX1_chainEnd_5 : decode cX1_chainEnd 5 = .ok (.iload 4, 2) := by decide +kernel
theorem dX1_chainEnd_7 : decode cX1_chainEnd 7 = .ok (.iload_n 2, 1) := by decide +kernel
theorem dX1_chainEnd_8 : decode cX1_chainEnd 8 = .ok (.if_icmp .ge 18, 3) := by decide +kernel
theorem dX1_chainEnd_11 : decode cX1_chainEnd 11 = .ok (.aload_n 0, 1) := by decide +kernel
theorem dX1_chainEnd_12 : decode cX1_chainEnd 12 = .ok (.getfield 11, 3) := by decide +kernel
theorem dX1_chainEnd_15 : decode cX1_chainEnd 15 = .ok (.iconst 0, 1) := by decide +kernel
theorem dX1_chainEnd_16 : decode cX1_chainEnd 16 = .ok (.aaload, 1) := by decide +kernel
theorem dX1_chainEnd_17 : decode cX1_chainEnd 17 = .ok (.iload_n 3, 1) := by decide +kernel
theorem dX1_chainEnd_18 : decode cX1_chainEnd 18 = .ok (.iaload, 1) := by decide +kernel
theorem dX1_chainEnd_19 : decode cX1_chainEnd 19 = .ok (.istore_n 3, 1) := by decide +kernel
theorem dX1_chainEnd_20 : decode cX1_chainEnd 20 = .ok (.iinc 4 1, 3) := by decide +kernel
theorem dX1_chainEnd_23 : decode cX1_chainEnd 23 = .ok (.goto (-18), 3) := by decide +kernel
theorem dX1_chainEnd_26 : decode cX1_chainEnd 26 = .ok (.iload_n 3, 1) := by decide +kernel
theorem dX1_chainEnd_27 : decode cX1_chainEnd 27 = .ok (.ireturn, 1) := by decide +kernel
theorem dX1_chainComes_0 : decode cX1_chainComes 0 = .ok (.iload_n 1, 1) := by decide +kernel
theorem dX1_chainComes_1 : decode cX1_chainComes 1 = .ok (.istore_n 3, 1) := by decide +kernel
theorem dX1_chainComes_2 : decode cX1_chainComes 2 = .ok (.iconst 0, 1) := by decide +kernel
theorem dX1_chainComes_3 : decode cX1_chainComes 3 = .ok (.istore 4, 2) := by decide +kernel
theorem dX1_chainComes_5 : decode cX1_chainComes 5 = .ok (.iload 4, 2) := by decide +kernel
theorem dX1_chainComes_7 : decode cX1_chainComes 7 = .ok (.bipush 16, 2) := by decide +kernel
theorem dX1_chainComes_9 : decode cX1_chainComes 9 = .ok (.if_icmp .ge 23, 3) := by decide +kernel
theorem dX1_chainComes_12 : decode cX1_chainComes 12 = .ok (.iload_n 3, 1) := by decide +kernel
theorem dX1_chainComes_13 : decode cX1_chainComes 13 = .ok (.iload_n 2, 1) := by decide +kernel
theorem dX1_chainComes_14 : decode cX1_chainComes 14 = .ok (.if_icmp .eq 18, 3) := by decide +kernel
theorem dX1_chainComes_17 : decode cX1_chainComes 17 = .ok (.aload_n 0, 1) := by decide +kernel
theorem dX1_chainComes_18 : decode cX1_chainComes 18 = .ok (.getfield 11, 3) := by decide +kernel
theorem dX1_chainComes_21 : decode cX1_chainComes 21 = .ok (.iconst 0, 1) := by decide +kernel
theorem dX1_chainComes_22 : decode cX1_chainComes 22 = .ok (.aaload, 1) := by decide +kernel
theorem dX1_chainComes_23 : decode cX1_chainComes 23 = .ok (.iload_n 3, 1) := by decide +kernel
theorem dX1_chainComes_24 : decode cX1_chainComes 24 = .ok (.iaload, 1) := by decide +kernel
theorem dX1_chainComes_25 : decode cX1_chainComes 25 = .ok (.istore_n 3, 1) := by decide +kernel
theorem dX1_chainComes_26 : decode cX1_chainComes 26 = .ok (.iinc 4 1, 3) := by decide +kernel
theorem dX1_chainComes_29 : decode cX1_chainComes 29 = .ok (.goto (-24), 3) := by decide +kernel
theorem dX1_chainComes_32 : decode cX1_chainComes 32 = .ok (.iload_n 3, 1) := by decide +kernel
theorem dX1_chainComes_33 : decode cX1_chainComes 33 = .ok (.iload_n 2, 1) := by decide +kernel
theorem dX1_chainComes_34 : decode cX1_chainComes 34 = .ok (.if_icmp .ne 7, 3) := by decide +kernel
theorem dX1_chainComes_37 : decode cX1_chainComes 37 = .ok (.iconst 1, 1) := by decide +kernel
theorem dX1_chainComes_38 : decode cX1_chainComes 38 = .ok (.goto 4, 3) := by decide +kernel
theorem dX1_chainComes_41 : decode cX1_chainComes 41 = .ok (.iconst 0, 1) := by decide +kernel
theorem dX1_chainComes_42 : decode cX1_chainComes 42 = .ok (.ireturn, 1) := by decide +kernel
theorem dX1_roundLength_0 : decode cX1_roundLength 0 = .ok (.iload_n 1, 1) := by decide +kernel
theorem dX1_roundLength_1 : decode cX1_roundLength 1 = .ok (.istore_n 2, 1) := by decide +kernel
theorem dX1_roundLength_2 : decode cX1_roundLength 2 = .ok (.iconst 1, 1) := by decide +kernel
theorem dX1_roundLength_3 : decode cX1_roundLength 3 = .ok (.istore_n 3, 1) := by decide +kernel
theorem dX1_roundLength_4 : decode cX1_roundLength 4 = .ok (.iload_n 3, 1) := by decide +kernel
theorem dX1_roundLength_5 : decode cX1_roundLength 5 = .ok (.bipush 16, 2) := by decide +kernel
theorem dX1_roundLength_7 : decode cX1_roundLength 7 = .ok (.if_icmp .gt 25, 3) := by decide +kernel
theorem dX1_roundLength_10 : decode cX1_roundLength 10 = .ok (.aload_n 0, 1) := by decide +kernel
theorem dX1_roundLength_11 : decode cX1_roundLength 11 = .ok (.getfield 11, 3) := by decide +kernel
theorem dX1_roundLength_14 : decode cX1_roundLength 14 = .ok (.iconst 0, 1) := by decide +kernel
theorem dX1_roundLength_15 : decode cX1_roundLength 15 = .ok (.aaload, 1) := by decide +kernel
theorem dX1_roundLength_16 : decode cX1_roundLength 16 = .ok (.iload_n 2, 1) := by decide +kernel
theorem dX1_roundLength_17 : decode cX1_roundLength 17 = .ok (.iaload, 1) := by decide +kernel
theorem dX1_roundLength_18 : decode cX1_roundLength 18 = .ok (.istore_n 2, 1) := by decide +kernel
theorem dX1_roundLength_19 : decode cX1_roundLength 19 = .ok (.iload_n 2, 1) := by decide +kernel
theorem dX1_roundLength_20 : decode cX1_roundLength 20 = .ok (.iload_n 1, 1) := by decide +kernel
theorem dX1_roundLength_21 : decode cX1_roundLength 21 = .ok (.if_icmp .ne 5, 3) := by decide +kernel
theorem dX1_roundLength_24 : decode cX1_roundLength 24 = .ok (.iload_n 3, 1) := by decide +kernel
theorem dX1_roundLength_25 : decode cX1_roundLength 25 = .ok (.ireturn, 1) := by decide +kernel
theorem dX1_roundLength_26 : decode cX1_roundLength 26 = .ok (.iinc 3 1, 3) := by decide +kernel
theorem dX1_roundLength_29 : decode cX1_roundLength 29 = .ok (.goto (-25), 3) := by decide +kernel
theorem dX1_roundLength_32 : decode cX1_roundLength 32 = .ok (.iconst 0, 1) := by decide +kernel
theorem dX1_roundLength_33 : decode cX1_roundLength 33 = .ok (.ireturn, 1) := by decide +kernel
theorem dX1_isLeastOfRound_0 : decode cX1_isLeastOfRound 0 = .ok (.aload_n 0, 1) := by decide +kernel
theorem dX1_isLeastOfRound_1 : decode cX1_isLeastOfRound 1 = .ok (.iload_n 1, 1) := by decide +kernel
theorem dX1_isLeastOfRound_2 : decode cX1_isLeastOfRound 2 = .ok (.invokevirtual 80, 3) := by decide +kernel
theorem dX1_isLeastOfRound_5 : decode cX1_isLeastOfRound 5 = .ok (.istore_n 2, 1) := by decide +kernel
theorem dX1_isLeastOfRound_6 : decode cX1_isLeastOfRound 6 = .ok (.iload_n 1, 1) := by decide +kernel
theorem dX1_isLeastOfRound_7 : decode cX1_isLeastOfRound 7 = .ok (.istore_n 3, 1) := by decide +kernel
theorem dX1_isLeastOfRound_8 : decode cX1_isLeastOfRound 8 = .ok (.iconst 1, 1) := by decide +kernel
theorem dX1_isLeastOfRound_9 : decode cX1_isLeastOfRound 9 = .ok (.istore 4, 2) := by decide +kernel
theorem dX1_isLeastOfRound_11 : decode cX1_isLeastOfRound 11 = .ok (.iload 4, 2) := by decide +kernel
theorem dX1_isLeastOfRound_13 : decode cX1_isLeastOfRound 13 = .ok (.iload_n 2, 1) := by decide +kernel
theorem dX1_isLeastOfRound_14 : decode cX1_isLeastOfRound 14 = .ok (.if_icmp .ge 25, 3) := by decide +kernel
theorem dX1_isLeastOfRound_17 : decode cX1_isLeastOfRound 17 = .ok (.aload_n 0, 1) := by decide +kernel
theorem dX1_isLeastOfRound_18 : decode cX1_isLeastOfRound 18 = .ok (.getfield 11, 3) := by decide +kernel
theorem dX1_isLeastOfRound_21 : decode cX1_isLeastOfRound 21 = .ok (.iconst 0, 1) := by decide +kernel
theorem dX1_isLeastOfRound_22 : decode cX1_isLeastOfRound 22 = .ok (.aaload, 1) := by decide +kernel
theorem dX1_isLeastOfRound_23 : decode cX1_isLeastOfRound 23 = .ok (.iload_n 3, 1) := by decide +kernel
theorem dX1_isLeastOfRound_24 : decode cX1_isLeastOfRound 24 = .ok (.iaload, 1) := by decide +kernel
theorem dX1_isLeastOfRound_25 : decode cX1_isLeastOfRound 25 = .ok (.istore_n 3, 1) := by decide +kernel
theorem dX1_isLeastOfRound_26 : decode cX1_isLeastOfRound 26 = .ok (.iload_n 3, 1) := by decide +kernel
theorem dX1_isLeastOfRound_27 : decode cX1_isLeastOfRound 27 = .ok (.iload_n 1, 1) := by decide +kernel
theorem dX1_isLeastOfRound_28 : decode cX1_isLeastOfRound 28 = .ok (.if_icmp .ge 5, 3) := by decide +kernel
theorem dX1_isLeastOfRound_31 : decode cX1_isLeastOfRound 31 = .ok (.iconst 0, 1) := by decide +kernel
theorem dX1_isLeastOfRound_32 : decode cX1_isLeastOfRound 32 = .ok (.ireturn, 1) := by decide +kernel
theorem dX1_isLeastOfRound_33 : decode cX1_isLeastOfRound 33 = .ok (.iinc 4 1, 3) := by decide +kernel
theorem dX1_isLeastOfRound_36 : decode cX1_isLeastOfRound 36 = .ok (.goto (-25), 3) := by decide +kernel
theorem dX1_isLeastOfRound_39 : decode cX1_isLeastOfRound 39 = .ok (.iload_n 2, 1) := by decide +kernel
theorem dX1_isLeastOfRound_40 : decode cX1_isLeastOfRound 40 = .ok (.ifCond .le 7, 3) := by decide +kernel
theorem dX1_isLeastOfRound_43 : decode cX1_isLeastOfRound 43 = .ok (.iconst 1, 1) := by decide +kernel
theorem dX1_isLeastOfRound_44 : decode cX1_isLeastOfRound 44 = .ok (.goto 4, 3) := by decide +kernel
theorem dX1_isLeastOfRound_47 : decode cX1_isLeastOfRound 47 = .ok (.iconst 0, 1) := by decide +kernel
theorem dX1_isLeastOfRound_48 : decode cX1_isLeastOfRound 48 = .ok (.ireturn, 1) := by decide +kernel
theorem dX2_init_0 : decode cX2_init 0 = .ok (.aload_n 0, 1) := by decide +kernel
theorem dX2_init_1 : decode cX2_init 1 = .ok (.invokespecial 3, 3) := by decide +kernel
theorem dX2_init_4 : decode cX2_init 4 = .ok (.aload_n 0, 1) := by decide +kernel
theorem dX2_init_5 : decode cX2_init 5 = .ok (.bipush 16, 2) := by decide +kernel
theorem dX2_init_7 : decode cX2_init 7 = .ok (.newarray .int, 2) := by decide +kernel
theorem dX2_init_9 : decode cX2_init 9 = .ok (.putfield 9, 3) := by decide +kernel
theorem dX2_init_12 : decode cX2_init 12 = .ok (.return_, 1) := by decide +kernel
theorem dX2_minutesTo_0 : decode cX2_minutesTo 0 = .ok (.iconst 0, 1) := by decide +kernel
theorem dX2_minutesTo_1 : decode cX2_minutesTo 1 = .ok (.istore 4, 2) := by decide +kernel
theorem dX2_minutesTo_3 : decode cX2_minutesTo 3 = .ok (.iload 4, 2) := by decide +kernel
theorem dX2_minutesTo_5 : decode cX2_minutesTo 5 = .ok (.bipush 100, 2) := by decide +kernel
theorem dX2_minutesTo_7 : decode cX2_minutesTo 7 = .ok (.if_icmp .gt 28, 3) := by decide +kernel
theorem dX2_minutesTo_10 : decode cX2_minutesTo 10 = .ok (.aload_n 1, 1) := by decide +kernel
theorem dX2_minutesTo_11 : decode cX2_minutesTo 11 = .ok (.getfield 15, 3) := by decide +kernel
theorem dX2_minutesTo_14 : decode cX2_minutesTo 14 = .ok (.iconst 1, 1) := by decide +kernel
theorem dX2_minutesTo_15 : decode cX2_minutesTo 15 = .ok (.aaload, 1) := by decide +kernel
theorem dX2_minutesTo_16 : decode cX2_minutesTo 16 = .ok (.iload_n 2, 1) := by decide +kernel
theorem dX2_minutesTo_17 : decode cX2_minutesTo 17 = .ok (.iaload, 1) := by decide +kernel
theorem dX2_minutesTo_18 : decode cX2_minutesTo 18 = .ok (.iload_n 3, 1) := by decide +kernel
theorem dX2_minutesTo_19 : decode cX2_minutesTo 19 = .ok (.if_icmp .ne 6, 3) := by decide +kernel
theorem dX2_minutesTo_22 : decode cX2_minutesTo 22 = .ok (.iload 4, 2) := by decide +kernel
theorem dX2_minutesTo_24 : decode cX2_minutesTo 24 = .ok (.ireturn, 1) := by decide +kernel
theorem dX2_minutesTo_25 : decode cX2_minutesTo 25 = .ok (.aload_n 1, 1) := by decide +kernel
theorem dX2_minutesTo_26 : decode cX2_minutesTo 26 = .ok (.invokevirtual 21, 3) := by decide +kernel
theorem dX2_minutesTo_29 : decode cX2_minutesTo 29 = .ok (.iinc 4 1, 3) := by decide +kernel
theorem dX2_minutesTo_32 : decode cX2_minutesTo 32 = .ok (.goto (-29), 3) := by decide +kernel
theorem dX2_minutesTo_35 : decode cX2_minutesTo 35 = .ok (.ldc 24, 2) := by decide +kernel
theorem dX2_minutesTo_37 : decode cX2_minutesTo 37 = .ok (.ireturn, 1) := by decide +kernel
theorem dX2_minutesToMeeting_0 : decode cX2_minutesToMeeting 0 = .ok (.iconst 0, 1) := by decide +kernel
theorem dX2_minutesToMeeting_1 : decode cX2_minutesToMeeting 1 = .ok (.istore 4, 2) := by decide +kernel
theorem dX2_minutesToMeeting_3 : decode cX2_minutesToMeeting 3 = .ok (.iload 4, 2) := by decide +kernel
theorem dX2_minutesToMeeting_5 : decode cX2_minutesToMeeting 5 = .ok (.bipush 100, 2) := by decide +kernel
theorem dX2_minutesToMeeting_7 : decode cX2_minutesToMeeting 7 = .ok (.if_icmp .gt 35, 3) := by decide +kernel
theorem dX2_minutesToMeeting_10 : decode cX2_minutesToMeeting 10 = .ok (.aload_n 1, 1) := by decide +kernel
theorem dX2_minutesToMeeting_11 : decode cX2_minutesToMeeting 11 = .ok (.getfield 15, 3) := by decide +kernel
theorem dX2_minutesToMeeting_14 : decode cX2_minutesToMeeting 14 = .ok (.iconst 1, 1) := by decide +kernel
theorem dX2_minutesToMeeting_15 : decode cX2_minutesToMeeting 15 = .ok (.aaload, 1) := by decide +kernel
theorem dX2_minutesToMeeting_16 : decode cX2_minutesToMeeting 16 = .ok (.iload_n 2, 1) := by decide +kernel
theorem dX2_minutesToMeeting_17 : decode cX2_minutesToMeeting 17 = .ok (.iaload, 1) := by decide +kernel
theorem dX2_minutesToMeeting_18 : decode cX2_minutesToMeeting 18 = .ok (.aload_n 1, 1) := by decide +kernel
theorem dX2_minutesToMeeting_19 : decode cX2_minutesToMeeting 19 = .ok (.getfield 15, 3) := by decide +kernel
theorem dX2_minutesToMeeting_22 : decode cX2_minutesToMeeting 22 = .ok (.iconst 1, 1) := by decide +kernel
theorem dX2_minutesToMeeting_23 : decode cX2_minutesToMeeting 23 = .ok (.aaload, 1) := by decide +kernel
theorem dX2_minutesToMeeting_24 : decode cX2_minutesToMeeting 24 = .ok (.iload_n 3, 1) := by decide +kernel
theorem dX2_minutesToMeeting_25 : decode cX2_minutesToMeeting 25 = .ok (.iaload, 1) := by decide +kernel
theorem dX2_minutesToMeeting_26 : decode cX2_minutesToMeeting 26 = .ok (.if_icmp .ne 6, 3) := by decide +kernel
theorem dX2_minutesToMeeting_29 : decode cX2_minutesToMeeting 29 = .ok (.iload 4, 2) := by decide +kernel
theorem dX2_minutesToMeeting_31 : decode cX2_minutesToMeeting 31 = .ok (.ireturn, 1) := by decide +kernel
theorem dX2_minutesToMeeting_32 : decode cX2_minutesToMeeting 32 = .ok (.aload_n 1, 1) := by decide +kernel
theorem dX2_minutesToMeeting_33 : decode cX2_minutesToMeeting 33 = .ok (.invokevirtual 21, 3) := by decide +kernel
theorem dX2_minutesToMeeting_36 : decode cX2_minutesToMeeting 36 = .ok (.iinc 4 1, 3) := by decide +kernel
theorem dX2_minutesToMeeting_39 : decode cX2_minutesToMeeting 39 = .ok (.goto (-36), 3) := by decide +kernel
theorem dX2_minutesToMeeting_42 : decode cX2_minutesToMeeting 42 = .ok (.ldc 24, 2) := by decide +kernel
theorem dX2_minutesToMeeting_44 : decode cX2_minutesToMeeting 44 = .ok (.ireturn, 1) := by decide +kernel
theorem dX2_usualPond_0 : decode cX2_usualPond 0 = .ok (.aload_n 0, 1) := by decide +kernel
theorem dX2_usualPond_1 : decode cX2_usualPond 1 = .ok (.invokevirtual 25, 3) := by decide +kernel
theorem dX2_usualPond_4 : decode cX2_usualPond 4 = .ok (.iconst 0, 1) := by decide +kernel
theorem dX2_usualPond_5 : decode cX2_usualPond 5 = .ok (.istore 4, 2) := by decide +kernel
theorem dX2_usualPond_7 : decode cX2_usualPond 7 = .ok (.iload 4, 2) := by decide +kernel
theorem dX2_usualPond_9 : decode cX2_usualPond 9 = .ok (.iload_n 3, 1) := by decide +kernel
theorem dX2_usualPond_10 : decode cX2_usualPond 10 = .ok (.if_icmp .ge 30, 3) := by decide +kernel
theorem dX2_usualPond_13 : decode cX2_usualPond 13 = .ok (.aload_n 1, 1) := by decide +kernel
theorem dX2_usualPond_14 : decode cX2_usualPond 14 = .ok (.invokevirtual 21, 3) := by decide +kernel
theorem dX2_usualPond_17 : decode cX2_usualPond 17 = .ok (.aload_n 0, 1) := by decide +kernel
theorem dX2_usualPond_18 : decode cX2_usualPond 18 = .ok (.getfield 9, 3) := by decide +kernel
theorem dX2_usualPond_21 : decode cX2_usualPond 21 = .ok (.aload_n 1, 1) := by decide +kernel
theorem dX2_usualPond_22 : decode cX2_usualPond 22 = .ok (.getfield 15, 3) := by decide +kernel
theorem dX2_usualPond_25 : decode cX2_usualPond 25 = .ok (.iconst 1, 1) := by decide +kernel
theorem dX2_usualPond_26 : decode cX2_usualPond 26 = .ok (.aaload, 1) := by decide +kernel
theorem dX2_usualPond_27 : decode cX2_usualPond 27 = .ok (.iload_n 2, 1) := by decide +kernel
theorem dX2_usualPond_28 : decode cX2_usualPond 28 = .ok (.iaload, 1) := by decide +kernel
theorem dX2_usualPond_29 : decode cX2_usualPond 29 = .ok (.dup2, 1) := by decide +kernel
theorem dX2_usualPond_30 : decode cX2_usualPond 30 = .ok (.iaload, 1) := by decide +kernel
theorem dX2_usualPond_31 : decode cX2_usualPond 31 = .ok (.iconst 1, 1) := by decide +kernel
theorem dX2_usualPond_32 : decode cX2_usualPond 32 = .ok (.iadd, 1) := by decide +kernel
theorem dX2_usualPond_33 : decode cX2_usualPond 33 = .ok (.iastore, 1) := by decide +kernel
theorem dX2_usualPond_34 : decode cX2_usualPond 34 = .ok (.iinc 4 1, 3) := by decide +kernel
theorem dX2_usualPond_37 : decode cX2_usualPond 37 = .ok (.goto (-30), 3) := by decide +kernel
theorem dX2_usualPond_40 : decode cX2_usualPond 40 = .ok (.aload_n 0, 1) := by decide +kernel
theorem dX2_usualPond_41 : decode cX2_usualPond 41 = .ok (.invokevirtual 28, 3) := by decide +kernel
theorem dX2_usualPond_44 : decode cX2_usualPond 44 = .ok (.ireturn, 1) := by decide +kernel
theorem dX2_pondsVisited_0 : decode cX2_pondsVisited 0 = .ok (.iconst 1, 1) := by decide +kernel
theorem dX2_pondsVisited_1 : decode cX2_pondsVisited 1 = .ok (.aload_n 1, 1) := by decide +kernel
theorem dX2_pondsVisited_2 : decode cX2_pondsVisited 2 = .ok (.getfield 15, 3) := by decide +kernel
theorem dX2_pondsVisited_5 : decode cX2_pondsVisited 5 = .ok (.iconst 1, 1) := by decide +kernel
theorem dX2_pondsVisited_6 : decode cX2_pondsVisited 6 = .ok (.aaload, 1) := by decide +kernel
theorem dX2_pondsVisited_7 : decode cX2_pondsVisited 7 = .ok (.iload_n 2, 1) := by decide +kernel
theorem dX2_pondsVisited_8 : decode cX2_pondsVisited 8 = .ok (.iaload, 1) := by decide +kernel
theorem dX2_pondsVisited_9 : decode cX2_pondsVisited 9 = .ok (.ishl, 1) := by decide +kernel
theorem dX2_pondsVisited_10 : decode cX2_pondsVisited 10 = .ok (.istore_n 3, 1) := by decide +kernel
theorem dX2_pondsVisited_11 : decode cX2_pondsVisited 11 = .ok (.iconst 0, 1) := by decide +kernel
theorem dX2_pondsVisited_12 : decode cX2_pondsVisited 12 = .ok (.istore 4, 2) := by decide +kernel
theorem dX2_pondsVisited_14 : decode cX2_pondsVisited 14 = .ok (.iload 4, 2) := by decide +kernel
theorem dX2_pondsVisited_16 : decode cX2_pondsVisited 16 = .ok (.bipush 60, 2) := by decide +kernel
theorem dX2_pondsVisited_18 : decode cX2_pondsVisited 18 = .ok (.if_icmp .ge 26, 3) := by decide +kernel
theorem dX2_pondsVisited_21 : decode cX2_pondsVisited 21 = .ok (.aload_n 1, 1) := by decide +kernel
theorem dX2_pondsVisited_22 : decode cX2_pondsVisited 22 = .ok (.invokevirtual 21, 3) := by decide +kernel
theorem dX2_pondsVisited_25 : decode cX2_pondsVisited 25 = .ok (.iload_n 3, 1) := by decide +kernel
theorem dX2_pondsVisited_26 : decode cX2_pondsVisited 26 = .ok (.iconst 1, 1) := by decide +kernel
theorem dX2_pondsVisited_27 : decode cX2_pondsVisited 27 = .ok (.aload_n 1, 1) := by decide +kernel
theorem dX2_pondsVisited_28 : decode cX2_pondsVisited 28 = .ok (.getfield 15, 3) := by decide +kernel
theorem dX2_pondsVisited_31 : decode cX2_pondsVisited 31 = .ok (.iconst 1, 1) := by decide +kernel
theorem dX2_pondsVisited_32 : decode cX2_pondsVisited 32 = .ok (.aaload, 1) := by decide +kernel
theorem dX2_pondsVisited_33 : decode cX2_pondsVisited 33 = .ok (.iload_n 2, 1) := by decide +kernel
theorem dX2_pondsVisited_34 : decode cX2_pondsVisited 34 = .ok (.iaload, 1) := by decide +kernel
theorem dX2_pondsVisited_35 : decode cX2_pondsVisited 35 = .ok (.ishl, 1) := by decide +kernel
theorem dX2_pondsVisited_36 : decode cX2_pondsVisited 36 = .ok (.ior, 1) := by decide +kernel
theorem dX2_pondsVisited_37 : decode cX2_pondsVisited 37 = .ok (.istore_n 3, 1) := by decide +kernel
theorem dX2_pondsVisited_38 : decode cX2_pondsVisited 38 = .ok (.iinc 4 1, 3) := by decide +kernel
theorem dX2_pondsVisited_41 : decode cX2_pondsVisited 41 = .ok (.goto (-27), 3) := by decide +kernel
theorem dX2_pondsVisited_44 : decode cX2_pondsVisited 44 = .ok (.iload_n 3, 1) := by decide +kernel
theorem dX2_pondsVisited_45 : decode cX2_pondsVisited 45 = .ok (.ireturn, 1) := by decide +kernel
theorem dX2_showsAsTold_0 : decode cX2_showsAsTold 0 = .ok (.iconst 0, 1) := by decide +kernel
theorem dX2_showsAsTold_1 : decode cX2_showsAsTold 1 = .ok (.istore 4, 2) := by decide +kernel
theorem dX2_showsAsTold_3 : decode cX2_showsAsTold 3 = .ok (.iload 4, 2) := by decide +kernel
theorem dX2_showsAsTold_5 : decode cX2_showsAsTold 5 = .ok (.aload_n 3, 1) := by decide +kernel
theorem dX2_showsAsTold_6 : decode cX2_showsAsTold 6 = .ok (.getfield 32, 3) := by decide +kernel
theorem dX2_showsAsTold_9 : decode cX2_showsAsTold 9 = .ok (.if_icmp .ge 40, 3) := by decide +kernel
theorem dX2_showsAsTold_12 : decode cX2_showsAsTold 12 = .ok (.aload_n 3, 1) := by decide +kernel
theorem dX2_showsAsTold_13 : decode cX2_showsAsTold 13 = .ok (.getfield 38, 3) := by decide +kernel
theorem dX2_showsAsTold_16 : decode cX2_showsAsTold 16 = .ok (.iload 4, 2) := by decide +kernel
theorem dX2_showsAsTold_18 : decode cX2_showsAsTold 18 = .ok (.iaload, 1) := by decide +kernel
theorem dX2_showsAsTold_19 : decode cX2_showsAsTold 19 = .ok (.istore 5, 2) := by decide +kernel
theorem dX2_showsAsTold_21 : decode cX2_showsAsTold 21 = .ok (.iload 5, 2) := by decide +kernel
theorem dX2_showsAsTold_23 : decode cX2_showsAsTold 23 = .ok (.iconst (-1), 1) := by decide +kernel
theorem dX2_showsAsTold_24 : decode cX2_showsAsTold 24 = .ok (.if_icmp .eq 15, 3) := by decide +kernel
theorem dX2_showsAsTold_27 : decode cX2_showsAsTold 27 = .ok (.iload 5, 2) := by decide +kernel
theorem dX2_showsAsTold_29 : decode cX2_showsAsTold 29 = .ok (.aload_n 1, 1) := by decide +kernel
theorem dX2_showsAsTold_30 : decode cX2_showsAsTold 30 = .ok (.iload_n 2, 1) := by decide +kernel
theorem dX2_showsAsTold_31 : decode cX2_showsAsTold 31 = .ok (.invokevirtual 41, 3) := by decide +kernel
theorem dX2_showsAsTold_34 : decode cX2_showsAsTold 34 = .ok (.if_icmp .eq 5, 3) := by decide +kernel
theorem dX2_showsAsTold_37 : decode cX2_showsAsTold 37 = .ok (.iconst 0, 1) := by decide +kernel
theorem dX2_showsAsTold_38 : decode cX2_showsAsTold 38 = .ok (.ireturn, 1) := by decide +kernel
theorem dX2_showsAsTold_39 : decode cX2_showsAsTold 39 = .ok (.aload_n 1, 1) := by decide +kernel
theorem dX2_showsAsTold_40 : decode cX2_showsAsTold 40 = .ok (.invokevirtual 21, 3) := by decide +kernel
theorem dX2_showsAsTold_43 : decode cX2_showsAsTold 43 = .ok (.iinc 4 1, 3) := by decide +kernel
theorem dX2_showsAsTold_46 : decode cX2_showsAsTold 46 = .ok (.goto (-43), 3) := by decide +kernel
theorem dX2_showsAsTold_49 : decode cX2_showsAsTold 49 = .ok (.iconst 1, 1) := by decide +kernel
theorem dX2_showsAsTold_50 : decode cX2_showsAsTold 50 = .ok (.ireturn, 1) := by decide +kernel
theorem dX2_thingsOnCourse_0 : decode cX2_thingsOnCourse 0 = .ok (.iconst 1, 1) := by decide +kernel
theorem dX2_thingsOnCourse_1 : decode cX2_thingsOnCourse 1 = .ok (.aload_n 1, 1) := by decide +kernel
theorem dX2_thingsOnCourse_2 : decode cX2_thingsOnCourse 2 = .ok (.getfield 45, 3) := by decide +kernel
theorem dX2_thingsOnCourse_5 : decode cX2_thingsOnCourse 5 = .ok (.ishl, 1) := by decide +kernel
theorem dX2_thingsOnCourse_6 : decode cX2_thingsOnCourse 6 = .ok (.iconst 1, 1) := by decide +kernel
theorem dX2_thingsOnCourse_7 : decode cX2_thingsOnCourse 7 = .ok (.isub, 1) := by decide +kernel
theorem dX2_thingsOnCourse_8 : decode cX2_thingsOnCourse 8 = .ok (.istore_n 3, 1) := by decide +kernel
theorem dX2_thingsOnCourse_9 : decode cX2_thingsOnCourse 9 = .ok (.iconst 0, 1) := by decide +kernel
theorem dX2_thingsOnCourse_10 : decode cX2_thingsOnCourse 10 = .ok (.istore 4, 2) := by decide +kernel
theorem dX2_thingsOnCourse_12 : decode cX2_thingsOnCourse 12 = .ok (.iload 4, 2) := by decide +kernel
theorem dX2_thingsOnCourse_14 : decode cX2_thingsOnCourse 14 = .ok (.aload_n 2, 1) := by decide +kernel
theorem dX2_thingsOnCourse_15 : decode cX2_thingsOnCourse 15 = .ok (.getfield 32, 3) := by decide +kernel
theorem dX2_thingsOnCourse_18 : decode cX2_thingsOnCourse 18 = .ok (.if_icmp .ge 37, 3) := by decide +kernel
theorem dX2_thingsOnCourse_21 : decode cX2_thingsOnCourse 21 = .ok (.aload_n 2, 1) := by decide +kernel
theorem dX2_thingsOnCourse_22 : decode cX2_thingsOnCourse 22 = .ok (.getfield 38, 3) := by decide +kernel
theorem dX2_thingsOnCourse_25 : decode cX2_thingsOnCourse 25 = .ok (.iload 4, 2) := by decide +kernel
theorem dX2_thingsOnCourse_27 : decode cX2_thingsOnCourse 27 = .ok (.iaload, 1) := by decide +kernel
theorem dX2_thingsOnCourse_28 : decode cX2_thingsOnCourse 28 = .ok (.istore 5, 2) := by decide +kernel
theorem dX2_thingsOnCourse_30 : decode cX2_thingsOnCourse 30 = .ok (.iload 5, 2) := by decide +kernel
theorem dX2_thingsOnCourse_32 : decode cX2_thingsOnCourse 32 = .ok (.iconst (-1), 1) := by decide +kernel
theorem dX2_thingsOnCourse_33 : decode cX2_thingsOnCourse 33 = .ok (.if_icmp .eq 12, 3) := by decide +kernel
theorem dX2_thingsOnCourse_36 : decode cX2_thingsOnCourse 36 = .ok (.iload_n 3, 1) := by decide +kernel
theorem dX2_thingsOnCourse_37 : decode cX2_thingsOnCourse 37 = .ok (.aload_n 1, 1) := by decide +kernel
theorem dX2_thingsOnCourse_38 : decode cX2_thingsOnCourse 38 = .ok (.iload 5, 2) := by decide +kernel
theorem dX2_thingsOnCourse_40 : decode cX2_thingsOnCourse 40 = .ok (.invokevirtual 48, 3) := by decide +kernel
theorem dX2_thingsOnCourse_43 : decode cX2_thingsOnCourse 43 = .ok (.iand, 1) := by decide +kernel
theorem dX2_thingsOnCourse_44 : decode cX2_thingsOnCourse 44 = .ok (.istore_n 3, 1) := by decide +kernel
theorem dX2_thingsOnCourse_45 : decode cX2_thingsOnCourse 45 = .ok (.aload_n 1, 1) := by decide +kernel
theorem dX2_thingsOnCourse_46 : decode cX2_thingsOnCourse 46 = .ok (.invokevirtual 21, 3) := by decide +kernel
theorem dX2_thingsOnCourse_49 : decode cX2_thingsOnCourse 49 = .ok (.iinc 4 1, 3) := by decide +kernel
theorem dX2_thingsOnCourse_52 : decode cX2_thingsOnCourse 52 = .ok (.goto (-40), 3) := by decide +kernel
theorem dX2_thingsOnCourse_55 : decode cX2_thingsOnCourse 55 = .ok (.iload_n 3, 1) := by decide +kernel
theorem dX2_thingsOnCourse_56 : decode cX2_thingsOnCourse 56 = .ok (.ireturn, 1) := by decide +kernel
theorem dX2_busiestPond_0 : decode cX2_busiestPond 0 = .ok (.aload_n 0, 1) := by decide +kernel
theorem dX2_busiestPond_1 : decode cX2_busiestPond 1 = .ok (.invokevirtual 25, 3) := by decide +kernel
theorem dX2_busiestPond_4 : decode cX2_busiestPond 4 = .ok (.iconst 0, 1) := by decide +kernel
theorem dX2_busiestPond_5 : decode cX2_busiestPond 5 = .ok (.istore_n 3, 1) := by decide +kernel
theorem dX2_busiestPond_6 : decode cX2_busiestPond 6 = .ok (.iload_n 3, 1) := by decide +kernel
theorem dX2_busiestPond_7 : decode cX2_busiestPond 7 = .ok (.iload_n 2, 1) := by decide +kernel
theorem dX2_busiestPond_8 : decode cX2_busiestPond 8 = .ok (.if_icmp .ge 48, 3) := by decide +kernel
theorem dX2_busiestPond_11 : decode cX2_busiestPond 11 = .ok (.aload_n 1, 1) := by decide +kernel
theorem dX2_busiestPond_12 : decode cX2_busiestPond 12 = .ok (.invokevirtual 21, 3) := by decide +kernel
theorem dX2_busiestPond_15 : decode cX2_busiestPond 15 = .ok (.iconst 0, 1) := by decide +kernel
theorem dX2_busiestPond_16 : decode cX2_busiestPond 16 = .ok (.istore 4, 2) := by decide +kernel
theorem dX2_busiestPond_18 : decode cX2_busiestPond 18 = .ok (.iload 4, 2) := by decide +kernel
theorem dX2_busiestPond_20 : decode cX2_busiestPond 20 = .ok (.bipush 16, 2) := by decide +kernel
theorem dX2_busiestPond_22 : decode cX2_busiestPond 22 = .ok (.if_icmp .ge 28, 3) := by decide +kernel
theorem dX2_busiestPond_25 : decode cX2_busiestPond 25 = .ok (.aload_n 0, 1) := by decide +kernel
theorem dX2_busiestPond_26 : decode cX2_busiestPond 26 = .ok (.getfield 9, 3) := by decide +kernel
theorem dX2_busiestPond_29 : decode cX2_busiestPond 29 = .ok (.iload 4, 2) := by decide +kernel
theorem dX2_busiestPond_31 : decode cX2_busiestPond 31 = .ok (.dup2, 1) := by decide +kernel
theorem dX2_busiestPond_32 : decode cX2_busiestPond 32 = .ok (.iaload, 1) := by decide +kernel
theorem dX2_busiestPond_33 : decode cX2_busiestPond 33 = .ok (.aload_n 1, 1) := by decide +kernel
theorem dX2_busiestPond_34 : decode cX2_busiestPond 34 = .ok (.iload 4, 2) := by decide +kernel
theorem dX2_busiestPond_36 : decode cX2_busiestPond 36 = .ok (.invokevirtual 41, 3) := by decide +kernel
theorem dX2_busiestPond_39 : decode cX2_busiestPond 39 = .ok (.invokestatic 51, 3) := by decide +kernel
theorem dX2_busiestPond_42 : decode cX2_busiestPond 42 = .ok (.iadd, 1) := by decide +kernel
theorem dX2_busiestPond_43 : decode cX2_busiestPond 43 = .ok (.iastore, 1) := by decide +kernel
theorem dX2_busiestPond_44 : decode cX2_busiestPond 44 = .ok (.iinc 4 1, 3) := by decide +kernel
theorem dX2_busiestPond_47 : decode cX2_busiestPond 47 = .ok (.goto (-29), 3) := by decide +kernel
theorem dX2_busiestPond_50 : decode cX2_busiestPond 50 = .ok (.iinc 3 1, 3) := by decide +kernel
theorem dX2_busiestPond_53 : decode cX2_busiestPond 53 = .ok (.goto (-47), 3) := by decide +kernel
theorem dX2_busiestPond_56 : decode cX2_busiestPond 56 = .ok (.aload_n 0, 1) := by decide +kernel
theorem dX2_busiestPond_57 : decode cX2_busiestPond 57 = .ok (.invokevirtual 28, 3) := by decide +kernel
theorem dX2_busiestPond_60 : decode cX2_busiestPond 60 = .ok (.ireturn, 1) := by decide +kernel
theorem dX2_clearTally_0 : decode cX2_clearTally 0 = .ok (.iconst 0, 1) := by decide +kernel
theorem dX2_clearTally_1 : decode cX2_clearTally 1 = .ok (.istore_n 1, 1) := by decide +kernel
theorem dX2_clearTally_2 : decode cX2_clearTally 2 = .ok (.iload_n 1, 1) := by decide +kernel
theorem dX2_clearTally_3 : decode cX2_clearTally 3 = .ok (.bipush 16, 2) := by decide +kernel
theorem dX2_clearTally_5 : decode cX2_clearTally 5 = .ok (.if_icmp .ge 16, 3) := by decide +kernel
theorem dX2_clearTally_8 : decode cX2_clearTally 8 = .ok (.aload_n 0, 1) := by decide +kernel
theorem dX2_clearTally_9 : decode cX2_clearTally 9 = .ok (.getfield 9, 3) := by decide +kernel
theorem dX2_clearTally_12 : decode cX2_clearTally 12 = .ok (.iload_n 1, 1) := by decide +kernel
theorem dX2_clearTally_13 : decode cX2_clearTally 13 = .ok (.iconst 0, 1) := by decide +kernel
theorem dX2_clearTally_14 : decode cX2_clearTally 14 = .ok (.iastore, 1) := by decide +kernel
theorem dX2_clearTally_15 : decode cX2_clearTally 15 = .ok (.iinc 1 1, 3) := by decide +kernel
theorem dX2_clearTally_18 : decode cX2_clearTally 18 = .ok (.goto (-16), 3) := by decide +kernel
theorem dX2_clearTally_21 : decode cX2_clearTally 21 = .ok (.return_, 1) := by decide +kernel
theorem dX2_leastOfMost_0 : decode cX2_leastOfMost 0 = .ok (.iconst 0, 1) := by decide +kernel
theorem dX2_leastOfMost_1 : decode cX2_leastOfMost 1 = .ok (.istore_n 1, 1) := by decide +kernel
theorem dX2_leastOfMost_2 : decode cX2_leastOfMost 2 = .ok (.iconst 1, 1) := by decide +kernel
theorem dX2_leastOfMost_3 : decode cX2_leastOfMost 3 = .ok (.istore_n 2, 1) := by decide +kernel
theorem dX2_leastOfMost_4 : decode cX2_leastOfMost 4 = .ok (.iload_n 2, 1) := by decide +kernel
theorem dX2_leastOfMost_5 : decode cX2_leastOfMost 5 = .ok (.bipush 16, 2) := by decide +kernel
theorem dX2_leastOfMost_7 : decode cX2_leastOfMost 7 = .ok (.if_icmp .ge 26, 3) := by decide +kernel
theorem dX2_leastOfMost_10 : decode cX2_leastOfMost 10 = .ok (.aload_n 0, 1) := by decide +kernel
theorem dX2_leastOfMost_11 : decode cX2_leastOfMost 11 = .ok (.getfield 9, 3) := by decide +kernel
theorem dX2_leastOfMost_14 : decode cX2_leastOfMost 14 = .ok (.iload_n 2, 1) := by decide +kernel
theorem dX2_leastOfMost_15 : decode cX2_leastOfMost 15 = .ok (.iaload, 1) := by decide +kernel
theorem dX2_leastOfMost_16 : decode cX2_leastOfMost 16 = .ok (.aload_n 0, 1) := by decide +kernel
theorem dX2_leastOfMost_17 : decode cX2_leastOfMost 17 = .ok (.getfield 9, 3) := by decide +kernel
theorem dX2_leastOfMost_20 : decode cX2_leastOfMost 20 = .ok (.iload_n 1, 1) := by decide +kernel
theorem dX2_leastOfMost_21 : decode cX2_leastOfMost 21 = .ok (.iaload, 1) := by decide +kernel
theorem dX2_leastOfMost_22 : decode cX2_leastOfMost 22 = .ok (.if_icmp .le 5, 3) := by decide +kernel
theorem dX2_leastOfMost_25 : decode cX2_leastOfMost 25 = .ok (.iload_n 2, 1) := by decide +kernel
theorem dX2_leastOfMost_26 : decode cX2_leastOfMost 26 = .ok (.istore_n 1, 1) := by decide +kernel
theorem dX2_leastOfMost_27 : decode cX2_leastOfMost 27 = .ok (.iinc 2 1, 3) := by decide +kernel
theorem dX2_leastOfMost_30 : decode cX2_leastOfMost 30 = .ok (.goto (-26), 3) := by decide +kernel
theorem dX2_leastOfMost_33 : decode cX2_leastOfMost 33 = .ok (.iload_n 1, 1) := by decide +kernel
theorem dX2_leastOfMost_34 : decode cX2_leastOfMost 34 = .ok (.ireturn, 1) := by decide +kernel
theorem dX3_init_0 : decode cX3_init 0 = .ok (.aload_n 0, 1) := by decide +kernel
theorem dX3_init_1 : decode cX3_init 1 = .ok (.invokespecial 3, 3) := by decide +kernel
theorem dX3_init_4 : decode cX3_init 4 = .ok (.aload_n 0, 1) := by decide +kernel
theorem dX3_init_5 : decode cX3_init 5 = .ok (.bipush 40, 2) := by decide +kernel
theorem dX3_init_7 : decode cX3_init 7 = .ok (.newarray .int, 2) := by decide +kernel
theorem dX3_init_9 : decode cX3_init 9 = .ok (.putfield 9, 3) := by decide +kernel
theorem dX3_init_12 : decode cX3_init 12 = .ok (.aload_n 0, 1) := by decide +kernel
theorem dX3_init_13 : decode cX3_init 13 = .ok (.iconst 0, 1) := by decide +kernel
theorem dX3_init_14 : decode cX3_init 14 = .ok (.putfield 15, 3) := by decide +kernel
theorem dX3_init_17 : decode cX3_init 17 = .ok (.aload_n 0, 1) := by decide +kernel
theorem dX3_init_18 : decode cX3_init 18 = .ok (.iconst 0, 1) := by decide +kernel
theorem dX3_init_19 : decode cX3_init 19 = .ok (.putfield 19, 3) := by decide +kernel
theorem dX3_init_22 : decode cX3_init 22 = .ok (.return_, 1) := by decide +kernel
theorem dX3_isMissing_0 : decode cX3_isMissing 0 = .ok (.aload_n 0, 1) := by decide +kernel
theorem dX3_isMissing_1 : decode cX3_isMissing 1 = .ok (.getfield 15, 3) := by decide +kernel
theorem dX3_isMissing_4 : decode cX3_isMissing 4 = .ok (.ifCond .ne 7, 3) := by decide +kernel
theorem dX3_isMissing_7 : decode cX3_isMissing 7 = .ok (.iconst 1, 1) := by decide +kernel
theorem dX3_isMissing_8 : decode cX3_isMissing 8 = .ok (.goto 4, 3) := by decide +kernel
theorem dX3_isMissing_11 : decode cX3_isMissing 11 = .ok (.iconst 0, 1) := by decide +kernel
theorem dX3_isMissing_12 : decode cX3_isMissing 12 = .ok (.ireturn, 1) := by decide +kernel
theorem dX3_clear_0 : decode cX3_clear 0 = .ok (.iconst 0, 1) := by decide +kernel
theorem dX3_clear_1 : decode cX3_clear 1 = .ok (.istore_n 3, 1) := by decide +kernel
theorem dX3_clear_2 : decode cX3_clear 2 = .ok (.iload_n 3, 1) := by decide +kernel
theorem dX3_clear_3 : decode cX3_clear 3 = .ok (.bipush 40, 2) := by decide +kernel
theorem dX3_clear_5 : decode cX3_clear 5 = .ok (.if_icmp .ge 16, 3) := by decide +kernel
theorem dX3_clear_8 : decode cX3_clear 8 = .ok (.aload_n 0, 1) := by decide +kernel
theorem dX3_clear_9 : decode cX3_clear 9 = .ok (.getfield 9, 3) := by decide +kernel
theorem dX3_clear_12 : decode cX3_clear 12 = .ok (.iload_n 3, 1) := by decide +kernel
theorem dX3_clear_13 : decode cX3_clear 13 = .ok (.iconst 0, 1) := by decide +kernel
theorem dX3_clear_14 : decode cX3_clear 14 = .ok (.iastore, 1) := by decide +kernel
theorem dX3_clear_15 : decode cX3_clear 15 = .ok (.iinc 3 1, 3) := by decide +kernel
theorem dX3_clear_18 : decode cX3_clear 18 = .ok (.goto (-16), 3) := by decide +kernel
theorem dX3_clear_21 : decode cX3_clear 21 = .ok (.aload_n 0, 1) := by decide +kernel
theorem dX3_clear_22 : decode cX3_clear 22 = .ok (.iload_n 1, 1) := by decide +kernel
theorem dX3_clear_23 : decode cX3_clear 23 = .ok (.putfield 15, 3) := by decide +kernel
theorem dX3_clear_26 : decode cX3_clear 26 = .ok (.aload_n 0, 1) := by decide +kernel
theorem dX3_clear_27 : decode cX3_clear 27 = .ok (.iload_n 1, 1) := by decide +kernel
theorem dX3_clear_28 : decode cX3_clear 28 = .ok (.ifCond .ne 7, 3) := by decide +kernel
theorem dX3_clear_31 : decode cX3_clear 31 = .ok (.iconst 0, 1) := by decide +kernel
theorem dX3_clear_32 : decode cX3_clear 32 = .ok (.goto 4, 3) := by decide +kernel
theorem dX3_clear_35 : decode cX3_clear 35 = .ok (.iload_n 2, 1) := by decide +kernel
theorem dX3_clear_36 : decode cX3_clear 36 = .ok (.putfield 19, 3) := by decide +kernel
theorem dX3_clear_39 : decode cX3_clear 39 = .ok (.return_, 1) := by decide +kernel
theorem dX3_put_0 : decode cX3_put 0 = .ok (.aload_n 0, 1) := by decide +kernel
theorem dX3_put_1 : decode cX3_put 1 = .ok (.getfield 15, 3) := by decide +kernel
theorem dX3_put_4 : decode cX3_put 4 = .ok (.lookupswitch 50 #[(8, 28), (16, 39)], 28) := by decide +kernel
theorem dX3_put_32 : decode cX3_put 32 = .ok (.aload_n 0, 1) := by decide +kernel
theorem dX3_put_33 : decode cX3_put 33 = .ok (.getfield 9, 3) := by decide +kernel
theorem dX3_put_36 : decode cX3_put 36 = .ok (.iload_n 1, 1) := by decide +kernel
theorem dX3_put_37 : decode cX3_put 37 = .ok (.iload_n 2, 1) := by decide +kernel
theorem dX3_put_38 : decode cX3_put 38 = .ok (.i2b, 1) := by decide +kernel
theorem dX3_put_39 : decode cX3_put 39 = .ok (.iastore, 1) := by decide +kernel
theorem dX3_put_40 : decode cX3_put 40 = .ok (.goto 21, 3) := by decide +kernel
theorem dX3_put_43 : decode cX3_put 43 = .ok (.aload_n 0, 1) := by decide +kernel
theorem dX3_put_44 : decode cX3_put 44 = .ok (.getfield 9, 3) := by decide +kernel
theorem dX3_put_47 : decode cX3_put 47 = .ok (.iload_n 1, 1) := by decide +kernel
theorem dX3_put_48 : decode cX3_put 48 = .ok (.iload_n 2, 1) := by decide +kernel
theorem dX3_put_49 : decode cX3_put 49 = .ok (.i2s, 1) := by decide +kernel
theorem dX3_put_50 : decode cX3_put 50 = .ok (.iastore, 1) := by decide +kernel
theorem dX3_put_51 : decode cX3_put 51 = .ok (.goto 10, 3) := by decide +kernel
theorem dX3_put_54 : decode cX3_put 54 = .ok (.aload_n 0, 1) := by decide +kernel
theorem dX3_put_55 : decode cX3_put 55 = .ok (.getfield 9, 3) := by decide +kernel
theorem dX3_put_58 : decode cX3_put 58 = .ok (.iload_n 1, 1) := by decide +kernel
theorem dX3_put_59 : decode cX3_put 59 = .ok (.iload_n 2, 1) := by decide +kernel
theorem dX3_put_60 : decode cX3_put 60 = .ok (.iastore, 1) := by decide +kernel
theorem dX3_put_61 : decode cX3_put 61 = .ok (.return_, 1) := by decide +kernel
theorem dX3_reaches_0 : decode cX3_reaches 0 = .ok (.iload_n 1, 1) := by decide +kernel
theorem dX3_reaches_1 : decode cX3_reaches 1 = .ok (.ifCond .lt 29, 3) := by decide +kernel
theorem dX3_reaches_4 : decode cX3_reaches 4 = .ok (.iload_n 2, 1) := by decide +kernel
theorem dX3_reaches_5 : decode cX3_reaches 5 = .ok (.ifCond .lt 25, 3) := by decide +kernel
theorem dX3_reaches_8 : decode cX3_reaches 8 = .ok (.iload_n 1, 1) := by decide +kernel
theorem dX3_reaches_9 : decode cX3_reaches 9 = .ok (.aload_n 0, 1) := by decide +kernel
theorem dX3_reaches_10 : decode cX3_reaches 10 = .ok (.getfield 19, 3) := by decide +kernel
theorem dX3_reaches_13 : decode cX3_reaches 13 = .ok (.if_icmp .gt 17, 3) := by decide +kernel
theorem dX3_reaches_16 : decode cX3_reaches 16 = .ok (.iload_n 2, 1) := by decide +kernel
theorem dX3_reaches_17 : decode cX3_reaches 17 = .ok (.aload_n 0, 1) := by decide +kernel
theorem dX3_reaches_18 : decode cX3_reaches 18 = .ok (.getfield 19, 3) := by decide +kernel
theorem dX3_reaches_21 : decode cX3_reaches 21 = .ok (.iload_n 1, 1) := by decide +kernel
theorem dX3_reaches_22 : decode cX3_reaches 22 = .ok (.isub, 1) := by decide +kernel
theorem dX3_reaches_23 : decode cX3_reaches 23 = .ok (.if_icmp .gt 7, 3) := by decide +kernel
theorem dX3_reaches_26 : decode cX3_reaches 26 = .ok (.iconst 1, 1) := by decide +kernel
theorem dX3_reaches_27 : decode cX3_reaches 27 = .ok (.goto 4, 3) := by decide +kernel
theorem dX3_reaches_30 : decode cX3_reaches 30 = .ok (.iconst 0, 1) := by decide +kernel
theorem dX3_reaches_31 : decode cX3_reaches 31 = .ok (.ireturn, 1) := by decide +kernel
theorem dX4_init_0 : decode cX4_init 0 = .ok (.aload_n 0, 1) := by decide +kernel
theorem dX4_init_1 : decode cX4_init 1 = .ok (.invokespecial 3, 3) := by decide +kernel
theorem dX4_init_4 : decode cX4_init 4 = .ok (.aload_n 0, 1) := by decide +kernel
theorem dX4_init_5 : decode cX4_init 5 = .ok (.bipush 120, 2) := by decide +kernel
theorem dX4_init_7 : decode cX4_init 7 = .ok (.newarray .int, 2) := by decide +kernel
theorem dX4_init_9 : decode cX4_init 9 = .ok (.putfield 9, 3) := by decide +kernel
theorem dX4_init_12 : decode cX4_init 12 = .ok (.aload_n 0, 1) := by decide +kernel
theorem dX4_init_13 : decode cX4_init 13 = .ok (.iconst 0, 1) := by decide +kernel
theorem dX4_init_14 : decode cX4_init 14 = .ok (.putfield 15, 3) := by decide +kernel
theorem dX4_init_17 : decode cX4_init 17 = .ok (.return_, 1) := by decide +kernel
theorem dX4_append_0 : decode cX4_append 0 = .ok (.aload_n 0, 1) := by decide +kernel
theorem dX4_append_1 : decode cX4_append 1 = .ok (.getfield 15, 3) := by decide +kernel
theorem dX4_append_4 : decode cX4_append 4 = .ok (.bipush 120, 2) := by decide +kernel
theorem dX4_append_6 : decode cX4_append 6 = .ok (.if_icmp .ge 23, 3) := by decide +kernel
theorem dX4_append_9 : decode cX4_append 9 = .ok (.aload_n 0, 1) := by decide +kernel
theorem dX4_append_10 : decode cX4_append 10 = .ok (.getfield 9, 3) := by decide +kernel
theorem dX4_append_13 : decode cX4_append 13 = .ok (.aload_n 0, 1) := by decide +kernel
theorem dX4_append_14 : decode cX4_append 14 = .ok (.getfield 15, 3) := by decide +kernel
theorem dX4_append_17 : decode cX4_append 17 = .ok (.iload_n 1, 1) := by decide +kernel
theorem dX4_append_18 : decode cX4_append 18 = .ok (.iastore, 1) := by decide +kernel
theorem dX4_append_19 : decode cX4_append 19 = .ok (.aload_n 0, 1) := by decide +kernel
theorem dX4_append_20 : decode cX4_append 20 = .ok (.dup, 1) := by decide +kernel
theorem dX4_append_21 : decode cX4_append 21 = .ok (.getfield 15, 3) := by decide +kernel
theorem dX4_append_24 : decode cX4_append 24 = .ok (.iconst 1, 1) := by decide +kernel
theorem dX4_append_25 : decode cX4_append 25 = .ok (.iadd, 1) := by decide +kernel
theorem dX4_append_26 : decode cX4_append 26 = .ok (.putfield 15, 3) := by decide +kernel
theorem dX4_append_29 : decode cX4_append 29 = .ok (.return_, 1) := by decide +kernel
theorem dX4_at_0 : decode cX4_at 0 = .ok (.iload_n 1, 1) := by decide +kernel
theorem dX4_at_1 : decode cX4_at 1 = .ok (.ifCond .lt 20, 3) := by decide +kernel
theorem dX4_at_4 : decode cX4_at 4 = .ok (.iload_n 1, 1) := by decide +kernel
theorem dX4_at_5 : decode cX4_at 5 = .ok (.aload_n 0, 1) := by decide +kernel
theorem dX4_at_6 : decode cX4_at 6 = .ok (.getfield 15, 3) := by decide +kernel
theorem dX4_at_9 : decode cX4_at 9 = .ok (.if_icmp .ge 12, 3) := by decide +kernel
theorem dX4_at_12 : decode cX4_at 12 = .ok (.aload_n 0, 1) := by decide +kernel
theorem dX4_at_13 : decode cX4_at 13 = .ok (.getfield 9, 3) := by decide +kernel
theorem dX4_at_16 : decode cX4_at 16 = .ok (.iload_n 1, 1) := by decide +kernel
theorem dX4_at_17 : decode cX4_at 17 = .ok (.iaload, 1) := by decide +kernel
theorem dX4_at_18 : decode cX4_at 18 = .ok (.goto 4, 3) := by decide +kernel
theorem dX4_at_21 : decode cX4_at 21 = .ok (.iconst (-1), 1) := by decide +kernel
theorem dX4_at_22 : decode cX4_at 22 = .ok (.ireturn, 1) := by decide +kernel
theorem dX4_says_0 : decode cX4_says 0 = .ok (.iload_n 3, 1) := by decide +kernel
theorem dX4_says_1 : decode cX4_says 1 = .ok (.iload_n 2, 1) := by decide +kernel
theorem dX4_says_2 : decode cX4_says 2 = .ok (.isub, 1) := by decide +kernel
theorem dX4_says_3 : decode cX4_says 3 = .ok (.aload_n 1, 1) := by decide +kernel
theorem dX4_says_4 : decode cX4_says 4 = .ok (.invokevirtual 19, 3) := by decide +kernel
theorem dX4_says_7 : decode cX4_says 7 = .ok (.if_icmp .eq 5, 3) := by decide +kernel
theorem dX4_says_10 : decode cX4_says 10 = .ok (.iconst 0, 1) := by decide +kernel
theorem dX4_says_11 : decode cX4_says 11 = .ok (.ireturn, 1) := by decide +kernel
theorem dX4_says_12 : decode cX4_says 12 = .ok (.iconst 0, 1) := by decide +kernel
theorem dX4_says_13 : decode cX4_says 13 = .ok (.istore 4, 2) := by decide +kernel
theorem dX4_says_15 : decode cX4_says 15 = .ok (.iload 4, 2) := by decide +kernel
theorem dX4_says_17 : decode cX4_says 17 = .ok (.aload_n 1, 1) := by decide +kernel
theorem dX4_says_18 : decode cX4_says 18 = .ok (.invokevirtual 19, 3) := by decide +kernel
theorem dX4_says_21 : decode cX4_says 21 = .ok (.if_icmp .ge 28, 3) := by decide +kernel
theorem dX4_says_24 : decode cX4_says 24 = .ok (.aload_n 0, 1) := by decide +kernel
theorem dX4_says_25 : decode cX4_says 25 = .ok (.iload_n 2, 1) := by decide +kernel
theorem dX4_says_26 : decode cX4_says 26 = .ok (.iload 4, 2) := by decide +kernel
theorem dX4_says_28 : decode cX4_says 28 = .ok (.iadd, 1) := by decide +kernel
theorem dX4_says_29 : decode cX4_says 29 = .ok (.invokevirtual 24, 3) := by decide +kernel
theorem dX4_says_32 : decode cX4_says 32 = .ok (.aload_n 1, 1) := by decide +kernel
theorem dX4_says_33 : decode cX4_says 33 = .ok (.iload 4, 2) := by decide +kernel
theorem dX4_says_35 : decode cX4_says 35 = .ok (.invokevirtual 28, 3) := by decide +kernel
theorem dX4_says_38 : decode cX4_says 38 = .ok (.if_icmp .eq 5, 3) := by decide +kernel
theorem dX4_says_41 : decode cX4_says 41 = .ok (.iconst 0, 1) := by decide +kernel
theorem dX4_says_42 : decode cX4_says 42 = .ok (.ireturn, 1) := by decide +kernel
theorem dX4_says_43 : decode cX4_says 43 = .ok (.iinc 4 1, 3) := by decide +kernel
theorem dX4_says_46 : decode cX4_says 46 = .ok (.goto (-31), 3) := by decide +kernel
theorem dX4_says_49 : decode cX4_says 49 = .ok (.iconst 1, 1) := by decide +kernel
theorem dX4_says_50 : decode cX4_says 50 = .ok (.ireturn, 1) := by decide +kernel
theorem dX5_init_0 : decode cX5_init 0 = .ok (.aload_n 0, 1) := by decide +kernel
theorem dX5_init_1 : decode cX5_init 1 = .ok (.invokespecial 3, 3) := by decide +kernel
theorem dX5_init_4 : decode cX5_init 4 = .ok (.aload_n 0, 1) := by decide +kernel
theorem dX5_init_5 : decode cX5_init 5 = .ok (.new 9, 3) := by decide +kernel
theorem dX5_init_8 : decode cX5_init 8 = .ok (.dup, 1) := by decide +kernel
theorem dX5_init_9 : decode cX5_init 9 = .ok (.invokespecial 11, 3) := by decide +kernel
theorem dX5_init_12 : decode cX5_init 12 = .ok (.putfield 12, 3) := by decide +kernel
theorem dX5_init_15 : decode cX5_init 15 = .ok (.aload_n 0, 1) := by decide +kernel
theorem dX5_init_16 : decode cX5_init 16 = .ok (.iconst (-1), 1) := by decide +kernel
theorem dX5_init_17 : decode cX5_init 17 = .ok (.putfield 18, 3) := by decide +kernel
theorem dX5_init_20 : decode cX5_init 20 = .ok (.return_, 1) := by decide +kernel
theorem dX5_read_0 : decode cX5_read 0 = .ok (.aload_n 0, 1) := by decide +kernel
theorem dX5_read_1 : decode cX5_read 1 = .ok (.iconst (-1), 1) := by decide +kernel
theorem dX5_read_2 : decode cX5_read 2 = .ok (.putfield 18, 3) := by decide +kernel
theorem dX5_read_5 : decode cX5_read 5 = .ok (.aload_n 0, 1) := by decide +kernel
theorem dX5_read_6 : decode cX5_read 6 = .ok (.getfield 12, 3) := by decide +kernel
theorem dX5_read_9 : decode cX5_read 9 = .ok (.aload_n 1, 1) := by decide +kernel
theorem dX5_read_10 : decode cX5_read 10 = .ok (.invokevirtual 22, 3) := by decide +kernel
theorem dX5_read_13 : decode cX5_read 13 = .ok (.aload_n 0, 1) := by decide +kernel
theorem dX5_read_14 : decode cX5_read 14 = .ok (.aload_n 2, 1) := by decide +kernel
theorem dX5_read_15 : decode cX5_read 15 = .ok (.invokevirtual 26, 3) := by decide +kernel
theorem dX5_read_18 : decode cX5_read 18 = .ok (.iconst 1, 1) := by decide +kernel
theorem dX5_read_19 : decode cX5_read 19 = .ok (.istore_n 3, 1) := by decide +kernel
theorem dX5_read_20 : decode cX5_read 20 = .ok (.aload_n 0, 1) := by decide +kernel
theorem dX5_read_21 : decode cX5_read 21 = .ok (.invokevirtual 30, 3) := by decide +kernel
theorem dX5_read_24 : decode cX5_read 24 = .ok (.ifCond .eq 27, 3) := by decide +kernel
theorem dX5_read_27 : decode cX5_read 27 = .ok (.iload_n 3, 1) := by decide +kernel
theorem dX5_read_28 : decode cX5_read 28 = .ok (.bipush 120, 2) := by decide +kernel
theorem dX5_read_30 : decode cX5_read 30 = .ok (.if_icmp .gt 21, 3) := by decide +kernel
theorem dX5_read_33 : decode cX5_read 33 = .ok (.aload_n 0, 1) := by decide +kernel
theorem dX5_read_34 : decode cX5_read 34 = .ok (.getfield 12, 3) := by decide +kernel
theorem dX5_read_37 : decode cX5_read 37 = .ok (.invokevirtual 34, 3) := by decide +kernel
theorem dX5_read_40 : decode cX5_read 40 = .ok (.aload_n 0, 1) := by decide +kernel
theorem dX5_read_41 : decode cX5_read 41 = .ok (.aload_n 2, 1) := by decide +kernel
theorem dX5_read_42 : decode cX5_read 42 = .ok (.invokevirtual 26, 3) := by decide +kernel
theorem dX5_read_45 : decode cX5_read 45 = .ok (.iinc 3 1, 3) := by decide +kernel
theorem dX5_read_48 : decode cX5_read 48 = .ok (.goto (-28), 3) := by decide +kernel
theorem dX5_read_51 : decode cX5_read 51 = .ok (.aload_n 0, 1) := by decide +kernel
theorem dX5_read_52 : decode cX5_read 52 = .ok (.getfield 12, 3) := by decide +kernel
theorem dX5_read_55 : decode cX5_read 55 = .ok (.iconst 0, 1) := by decide +kernel
theorem dX5_read_56 : decode cX5_read 56 = .ok (.invokevirtual 37, 3) := by decide +kernel
theorem dX5_read_59 : decode cX5_read 59 = .ok (.ifCond .ne 7, 3) := by decide +kernel
theorem dX5_read_62 : decode cX5_read 62 = .ok (.aload_n 0, 1) := by decide +kernel
theorem dX5_read_63 : decode cX5_read 63 = .ok (.invokevirtual 41, 3) := by decide +kernel
theorem dX5_read_66 : decode cX5_read 66 = .ok (.aload_n 0, 1) := by decide +kernel
theorem dX5_read_67 : decode cX5_read 67 = .ok (.getfield 18, 3) := by decide +kernel
theorem dX5_read_70 : decode cX5_read 70 = .ok (.ifCond .lt 12, 3) := by decide +kernel
theorem dX5_read_73 : decode cX5_read 73 = .ok (.iconst (-1), 1) := by decide +kernel
theorem dX5_read_74 : decode cX5_read 74 = .ok (.aload_n 0, 1) := by decide +kernel
theorem dX5_read_75 : decode cX5_read 75 = .ok (.getfield 18, 3) := by decide +kernel
theorem dX5_read_78 : decode cX5_read 78 = .ok (.isub, 1) := by decide +kernel
theorem dX5_read_79 : decode cX5_read 79 = .ok (.goto 4, 3) := by decide +kernel
theorem dX5_read_82 : decode cX5_read 82 = .ok (.iload_n 3, 1) := by decide +kernel
theorem dX5_read_83 : decode cX5_read 83 = .ok (.ireturn, 1) := by decide +kernel
theorem dX5_readItem_0 : decode cX5_readItem 0 = .ok (.aload_n 0, 1) := by decide +kernel
theorem dX5_readItem_1 : decode cX5_readItem 1 = .ok (.invokevirtual 44, 3) := by decide +kernel
theorem dX5_readItem_4 : decode cX5_readItem 4 = .ok (.ifCond .eq 11, 3) := by decide +kernel
theorem dX5_readItem_7 : decode cX5_readItem 7 = .ok (.aload_n 0, 1) := by decide +kernel
theorem dX5_readItem_8 : decode cX5_readItem 8 = .ok (.aload_n 1, 1) := by decide +kernel
theorem dX5_readItem_9 : decode cX5_readItem 9 = .ok (.invokevirtual 47, 3) := by decide +kernel
theorem dX5_readItem_12 : decode cX5_readItem 12 = .ok (.goto 79, 3) := by decide +kernel
theorem dX5_readItem_15 : decode cX5_readItem 15 = .ok (.aload_n 0, 1) := by decide +kernel
theorem dX5_readItem_16 : decode cX5_readItem 16 = .ok (.bipush 15, 2) := by decide +kernel
theorem dX5_readItem_18 : decode cX5_readItem 18 = .ok (.invokevirtual 50, 3) := by decide +kernel
theorem dX5_readItem_21 : decode cX5_readItem 21 = .ok (.ifCond .eq 18, 3) := by decide +kernel
theorem dX5_readItem_24 : decode cX5_readItem 24 = .ok (.aload_n 0, 1) := by decide +kernel
theorem dX5_readItem_25 : decode cX5_readItem 25 = .ok (.getfield 12, 3) := by decide +kernel
theorem dX5_readItem_28 : decode cX5_readItem 28 = .ok (.invokevirtual 34, 3) := by decide +kernel
theorem dX5_readItem_31 : decode cX5_readItem 31 = .ok (.aload_n 0, 1) := by decide +kernel
theorem dX5_readItem_32 : decode cX5_readItem 32 = .ok (.aload_n 1, 1) := by decide +kernel
theorem dX5_readItem_33 : decode cX5_readItem 33 = .ok (.invokevirtual 53, 3) := by decide +kernel
theorem dX5_readItem_36 : decode cX5_readItem 36 = .ok (.goto 55, 3) := by decide +kernel
theorem dX5_readItem_39 : decode cX5_readItem 39 = .ok (.aload_n 0, 1) := by decide +kernel
theorem dX5_readItem_40 : decode cX5_readItem 40 = .ok (.bipush 16, 2) := by decide +kernel
theorem dX5_readItem_42 : decode cX5_readItem 42 = .ok (.invokevirtual 50, 3) := by decide +kernel
theorem dX5_readItem_45 : decode cX5_readItem 45 = .ok (.ifCond .eq 18, 3) := by decide +kernel
theorem dX5_readItem_48 : decode cX5_readItem 48 = .ok (.aload_n 0, 1) := by decide +kernel
theorem dX5_readItem_49 : decode cX5_readItem 49 = .ok (.getfield 12, 3) := by decide +kernel
theorem dX5_readItem_52 : decode cX5_readItem 52 = .ok (.invokevirtual 34, 3) := by decide +kernel
theorem dX5_readItem_55 : decode cX5_readItem 55 = .ok (.aload_n 1, 1) := by decide +kernel
theorem dX5_readItem_56 : decode cX5_readItem 56 = .ok (.iconst 1, 1) := by decide +kernel
theorem dX5_readItem_57 : decode cX5_readItem 57 = .ok (.putfield 56, 3) := by decide +kernel
theorem dX5_readItem_60 : decode cX5_readItem 60 = .ok (.goto 31, 3) := by decide +kernel
theorem dX5_readItem_63 : decode cX5_readItem 63 = .ok (.aload_n 0, 1) := by decide +kernel
theorem dX5_readItem_64 : decode cX5_readItem 64 = .ok (.bipush 17, 2) := by decide +kernel
theorem dX5_readItem_66 : decode cX5_readItem 66 = .ok (.invokevirtual 50, 3) := by decide +kernel
theorem dX5_readItem_69 : decode cX5_readItem 69 = .ok (.ifCond .eq 18, 3) := by decide +kernel
theorem dX5_readItem_72 : decode cX5_readItem 72 = .ok (.aload_n 0, 1) := by decide +kernel
theorem dX5_readItem_73 : decode cX5_readItem 73 = .ok (.getfield 12, 3) := by decide +kernel
theorem dX5_readItem_76 : decode cX5_readItem 76 = .ok (.invokevirtual 34, 3) := by decide +kernel
theorem dX5_readItem_79 : decode cX5_readItem 79 = .ok (.aload_n 1, 1) := by decide +kernel
theorem dX5_readItem_80 : decode cX5_readItem 80 = .ok (.iconst 0, 1) := by decide +kernel
theorem dX5_readItem_81 : decode cX5_readItem 81 = .ok (.putfield 56, 3) := by decide +kernel
theorem dX5_readItem_84 : decode cX5_readItem 84 = .ok (.goto 7, 3) := by decide +kernel
theorem dX5_readItem_87 : decode cX5_readItem 87 = .ok (.aload_n 0, 1) := by decide +kernel
theorem dX5_readItem_88 : decode cX5_readItem 88 = .ok (.invokevirtual 41, 3) := by decide +kernel
theorem dX5_readItem_91 : decode cX5_readItem 91 = .ok (.return_, 1) := by decide +kernel
theorem dX5_readThing_0 : decode cX5_readThing 0 = .ok (.aload_n 1, 1) := by decide +kernel
theorem dX5_readThing_1 : decode cX5_readThing 1 = .ok (.invokevirtual 61, 3) := by decide +kernel
theorem dX5_readThing_4 : decode cX5_readThing 4 = .ok (.ifCond .eq 8, 3) := by decide +kernel
theorem dX5_readThing_7 : decode cX5_readThing 7 = .ok (.aload_n 0, 1) := by decide +kernel
theorem dX5_readThing_8 : decode cX5_readThing 8 = .ok (.invokevirtual 41, 3) := by decide +kernel
theorem dX5_readThing_11 : decode cX5_readThing 11 = .ok (.return_, 1) := by decide +kernel
theorem dX5_readThing_12 : decode cX5_readThing 12 = .ok (.aload_n 0, 1) := by decide +kernel
theorem dX5_readThing_13 : decode cX5_readThing 13 = .ok (.getfield 12, 3) := by decide +kernel
theorem dX5_readThing_16 : decode cX5_readThing 16 = .ok (.invokevirtual 64, 3) := by decide +kernel
theorem dX5_readThing_19 : decode cX5_readThing 19 = .ok (.istore_n 2, 1) := by decide +kernel
theorem dX5_readThing_20 : decode cX5_readThing 20 = .ok (.iconst 0, 1) := by decide +kernel
theorem dX5_readThing_21 : decode cX5_readThing 21 = .ok (.istore_n 3, 1) := by decide +kernel
theorem dX5_readThing_22 : decode cX5_readThing 22 = .ok (.bipush 9, 2) := by decide +kernel
theorem dX5_readThing_24 : decode cX5_readThing 24 = .ok (.istore 4, 2) := by decide +kernel
theorem dX5_readThing_26 : decode cX5_readThing 26 = .ok (.aload_n 0, 1) := by decide +kernel
theorem dX5_readThing_27 : decode cX5_readThing 27 = .ok (.getfield 12, 3) := by decide +kernel
theorem dX5_readThing_30 : decode cX5_readThing 30 = .ok (.invokevirtual 34, 3) := by decide +kernel
theorem dX5_readThing_33 : decode cX5_readThing 33 = .ok (.aload_n 0, 1) := by decide +kernel
theorem dX5_readThing_34 : decode cX5_readThing 34 = .ok (.bipush 13, 2) := by decide +kernel
theorem dX5_readThing_36 : decode cX5_readThing 36 = .ok (.invokevirtual 50, 3) := by decide +kernel
theorem dX5_readThing_39 : decode cX5_readThing 39 = .ok (.ifCond .eq 26, 3) := by decide +kernel
theorem dX5_readThing_42 : decode cX5_readThing 42 = .ok (.aload_n 0, 1) := by decide +kernel
theorem dX5_readThing_43 : decode cX5_readThing 43 = .ok (.getfield 12, 3) := by decide +kernel
theorem dX5_readThing_46 : decode cX5_readThing 46 = .ok (.invokevirtual 34, 3) := by decide +kernel
theorem dX5_readThing_49 : decode cX5_readThing 49 = .ok (.aload_n 0, 1) := by decide +kernel
theorem dX5_readThing_50 : decode cX5_readThing 50 = .ok (.getstatic 68, 3) := by decide +kernel
theorem dX5_readThing_53 : decode cX5_readThing 53 = .ok (.iconst 1, 1) := by decide +kernel
theorem dX5_readThing_54 : decode cX5_readThing 54 = .ok (.iaload, 1) := by decide +kernel
theorem dX5_readThing_55 : decode cX5_readThing 55 = .ok (.getstatic 72, 3) := by decide +kernel
theorem dX5_readThing_58 : decode cX5_readThing 58 = .ok (.iconst 1, 1) := by decide +kernel
theorem dX5_readThing_59 : decode cX5_readThing 59 = .ok (.iaload, 1) := by decide +kernel
theorem dX5_readThing_60 : decode cX5_readThing 60 = .ok (.iconst (-1), 1) := by decide +kernel
theorem dX5_readThing_61 : decode cX5_readThing 61 = .ok (.invokevirtual 75, 3) := by decide +kernel
theorem dX5_readThing_64 : decode cX5_readThing 64 = .ok (.istore_n 3, 1) := by decide +kernel
theorem dX5_readThing_65 : decode cX5_readThing 65 = .ok (.aload_n 0, 1) := by decide +kernel
theorem dX5_readThing_66 : decode cX5_readThing 66 = .ok (.bipush 14, 2) := by decide +kernel
theorem dX5_readThing_68 : decode cX5_readThing 68 = .ok (.invokevirtual 50, 3) := by decide +kernel
theorem dX5_readThing_71 : decode cX5_readThing 71 = .ok (.ifCond .eq 27, 3) := by decide +kernel
theorem dX5_readThing_74 : decode cX5_readThing 74 = .ok (.aload_n 0, 1) := by decide +kernel
theorem dX5_readThing_75 : decode cX5_readThing 75 = .ok (.getfield 12, 3) := by decide +kernel
theorem dX5_readThing_78 : decode cX5_readThing 78 = .ok (.invokevirtual 34, 3) := by decide +kernel
theorem dX5_readThing_81 : decode cX5_readThing 81 = .ok (.aload_n 0, 1) := by decide +kernel
theorem dX5_readThing_82 : decode cX5_readThing 82 = .ok (.getstatic 68, 3) := by decide +kernel
theorem dX5_readThing_85 : decode cX5_readThing 85 = .ok (.iconst 2, 1) := by decide +kernel
theorem dX5_readThing_86 : decode cX5_readThing 86 = .ok (.iaload, 1) := by decide +kernel
theorem dX5_readThing_87 : decode cX5_readThing 87 = .ok (.getstatic 72, 3) := by decide +kernel
theorem dX5_readThing_90 : decode cX5_readThing 90 = .ok (.iconst 2, 1) := by decide +kernel
theorem dX5_readThing_91 : decode cX5_readThing 91 = .ok (.iaload, 1) := by decide +kernel
theorem dX5_readThing_92 : decode cX5_readThing 92 = .ok (.iconst (-1), 1) := by decide +kernel
theorem dX5_readThing_93 : decode cX5_readThing 93 = .ok (.invokevirtual 75, 3) := by decide +kernel
theorem dX5_readThing_96 : decode cX5_readThing 96 = .ok (.istore 4, 2) := by decide +kernel
theorem dX5_readThing_98 : decode cX5_readThing 98 = .ok (.aload_n 1, 1) := by decide +kernel
theorem dX5_readThing_99 : decode cX5_readThing 99 = .ok (.iload_n 2, 1) := by decide +kernel
theorem dX5_readThing_100 : decode cX5_readThing 100 = .ok (.iload_n 3, 1) := by decide +kernel
theorem dX5_readThing_101 : decode cX5_readThing 101 = .ok (.iload 4, 2) := by decide +kernel
theorem dX5_readThing_103 : decode cX5_readThing 103 = .ok (.invokevirtual 79, 3) := by decide +kernel
theorem dX5_readThing_106 : decode cX5_readThing 106 = .ok (.pop, 1) := by decide +kernel
theorem dX5_readThing_107 : decode cX5_readThing 107 = .ok (.return_, 1) := by decide +kernel
theorem dX5_readPond_0 : decode cX5_readPond 0 = .ok (.aload_n 0, 1) := by decide +kernel
theorem dX5_readPond_1 : decode cX5_readPond 1 = .ok (.iconst 0, 1) := by decide +kernel
theorem dX5_readPond_2 : decode cX5_readPond 2 = .ok (.bipush 15, 2) := by decide +kernel
theorem dX5_readPond_4 : decode cX5_readPond 4 = .ok (.iconst (-1), 1) := by decide +kernel
theorem dX5_readPond_5 : decode cX5_readPond 5 = .ok (.invokevirtual 75, 3) := by decide +kernel
theorem dX5_readPond_8 : decode cX5_readPond 8 = .ok (.istore_n 2, 1) := by decide +kernel
theorem dX5_readPond_9 : decode cX5_readPond 9 = .ok (.iconst 0, 1) := by decide +kernel
theorem dX5_readPond_10 : decode cX5_readPond 10 = .ok (.istore_n 3, 1) := by decide +kernel
theorem dX5_readPond_11 : decode cX5_readPond 11 = .ok (.iload_n 3, 1) := by decide +kernel
theorem dX5_readPond_12 : decode cX5_readPond 12 = .ok (.iconst 5, 1) := by decide +kernel
theorem dX5_readPond_13 : decode cX5_readPond 13 = .ok (.if_icmp .gt 41, 3) := by decide +kernel
theorem dX5_readPond_16 : decode cX5_readPond 16 = .ok (.aload_n 0, 1) := by decide +kernel
theorem dX5_readPond_17 : decode cX5_readPond 17 = .ok (.bipush 7, 2) := by decide +kernel
theorem dX5_readPond_19 : decode cX5_readPond 19 = .ok (.iload_n 3, 1) := by decide +kernel
theorem dX5_readPond_20 : decode cX5_readPond 20 = .ok (.iadd, 1) := by decide +kernel
theorem dX5_readPond_21 : decode cX5_readPond 21 = .ok (.invokevirtual 50, 3) := by decide +kernel
theorem dX5_readPond_24 : decode cX5_readPond 24 = .ok (.ifCond .eq 24, 3) := by decide +kernel
theorem dX5_readPond_27 : decode cX5_readPond 27 = .ok (.aload_n 0, 1) := by decide +kernel
theorem dX5_readPond_28 : decode cX5_readPond 28 = .ok (.getfield 12, 3) := by decide +kernel
theorem dX5_readPond_31 : decode cX5_readPond 31 = .ok (.invokevirtual 34, 3) := by decide +kernel
theorem dX5_readPond_34 : decode cX5_readPond 34 = .ok (.aload_n 1, 1) := by decide +kernel
theorem dX5_readPond_35 : decode cX5_readPond 35 = .ok (.getfield 82, 3) := by decide +kernel
theorem dX5_readPond_38 : decode cX5_readPond 38 = .ok (.iload_n 3, 1) := by decide +kernel
theorem dX5_readPond_39 : decode cX5_readPond 39 = .ok (.aaload, 1) := by decide +kernel
theorem dX5_readPond_40 : decode cX5_readPond 40 = .ok (.iload_n 2, 1) := by decide +kernel
theorem dX5_readPond_41 : decode cX5_readPond 41 = .ok (.aload_n 0, 1) := by decide +kernel
theorem dX5_readPond_42 : decode cX5_readPond 42 = .ok (.iload_n 3, 1) := by decide +kernel
theorem dX5_readPond_43 : decode cX5_readPond 43 = .ok (.iload_n 2, 1) := by decide +kernel
theorem dX5_readPond_44 : decode cX5_readPond 44 = .ok (.invokevirtual 86, 3) := by decide +kernel
theorem dX5_readPond_47 : decode cX5_readPond 47 = .ok (.iastore, 1) := by decide +kernel
theorem dX5_readPond_48 : decode cX5_readPond 48 = .ok (.iinc 3 1, 3) := by decide +kernel
theorem dX5_readPond_51 : decode cX5_readPond 51 = .ok (.goto (-40), 3) := by decide +kernel
theorem dX5_readPond_54 : decode cX5_readPond 54 = .ok (.return_, 1) := by decide +kernel
theorem dX5_readTrait_0 : decode cX5_readTrait 0 = .ok (.iload_n 1, 1) := by decide +kernel
theorem dX5_readTrait_1 : decode cX5_readTrait 1 = .ok (.iconst 3, 1) := by decide +kernel
theorem dX5_readTrait_2 : decode cX5_readTrait 2 = .ok (.if_icmp .ne 5, 3) := by decide +kernel
theorem dX5_readTrait_5 : decode cX5_readTrait 5 = .ok (.iconst 1, 1) := by decide +kernel
theorem dX5_readTrait_6 : decode cX5_readTrait 6 = .ok (.ireturn, 1) := by decide +kernel
theorem dX5_readTrait_7 : decode cX5_readTrait 7 = .ok (.aload_n 0, 1) := by decide +kernel
theorem dX5_readTrait_8 : decode cX5_readTrait 8 = .ok (.getstatic 90, 3) := by decide +kernel
theorem dX5_readTrait_11 : decode cX5_readTrait 11 = .ok (.iload_n 1, 1) := by decide +kernel
theorem dX5_readTrait_12 : decode cX5_readTrait 12 = .ok (.iaload, 1) := by decide +kernel
theorem dX5_readTrait_13 : decode cX5_readTrait 13 = .ok (.getstatic 93, 3) := by decide +kernel
theorem dX5_readTrait_16 : decode cX5_readTrait 16 = .ok (.iload_n 1, 1) := by decide +kernel
theorem dX5_readTrait_17 : decode cX5_readTrait 17 = .ok (.iaload, 1) := by decide +kernel
theorem dX5_readTrait_18 : decode cX5_readTrait 18 = .ok (.iload_n 1, 1) := by decide +kernel
theorem dX5_readTrait_19 : decode cX5_readTrait 19 = .ok (.ifCond .ne 7, 3) := by decide +kernel
theorem dX5_readTrait_22 : decode cX5_readTrait 22 = .ok (.iload_n 2, 1) := by decide +kernel
theorem dX5_readTrait_23 : decode cX5_readTrait 23 = .ok (.goto 4, 3) := by decide +kernel
theorem dX5_readTrait_26 : decode cX5_readTrait 26 = .ok (.iconst (-1), 1) := by decide +kernel
theorem dX5_readTrait_27 : decode cX5_readTrait 27 = .ok (.invokevirtual 75, 3) := by decide +kernel
theorem dX5_readTrait_30 : decode cX5_readTrait 30 = .ok (.ireturn, 1) := by decide +kernel
theorem dX5_readNumber_0 : decode cX5_readNumber 0 = .ok (.aload_n 0, 1) := by decide +kernel
theorem dX5_readNumber_1 : decode cX5_readNumber 1 = .ok (.getfield 12, 3) := by decide +kernel
theorem dX5_readNumber_4 : decode cX5_readNumber 4 = .ok (.invokevirtual 64, 3) := by decide +kernel
theorem dX5_readNumber_7 : decode cX5_readNumber 7 = .ok (.istore 4, 2) := by decide +kernel
theorem dX5_readNumber_9 : decode cX5_readNumber 9 = .ok (.aload_n 0, 1) := by decide +kernel
theorem dX5_readNumber_10 : decode cX5_readNumber 10 = .ok (.invokevirtual 96, 3) := by decide +kernel
theorem dX5_readNumber_13 : decode cX5_readNumber 13 = .ok (.ifCond .eq 21, 3) := by decide +kernel
theorem dX5_readNumber_16 : decode cX5_readNumber 16 = .ok (.iload 4, 2) := by decide +kernel
theorem dX5_readNumber_18 : decode cX5_readNumber 18 = .ok (.iload_n 1, 1) := by decide +kernel
theorem dX5_readNumber_19 : decode cX5_readNumber 19 = .ok (.if_icmp .lt 15, 3) := by decide +kernel
theorem dX5_readNumber_22 : decode cX5_readNumber 22 = .ok (.iload 4, 2) := by decide +kernel
theorem dX5_readNumber_24 : decode cX5_readNumber 24 = .ok (.iload_n 2, 1) := by decide +kernel
theorem dX5_readNumber_25 : decode cX5_readNumber 25 = .ok (.if_icmp .gt 9, 3) := by decide +kernel
theorem dX5_readNumber_28 : decode cX5_readNumber 28 = .ok (.iload 4, 2) := by decide +kernel
theorem dX5_readNumber_30 : decode cX5_readNumber 30 = .ok (.iload_n 3, 1) := by decide +kernel
theorem dX5_readNumber_31 : decode cX5_readNumber 31 = .ok (.if_icmp .ne 9, 3) := by decide +kernel
theorem dX5_readNumber_34 : decode cX5_readNumber 34 = .ok (.aload_n 0, 1) := by decide +kernel
theorem dX5_readNumber_35 : decode cX5_readNumber 35 = .ok (.invokevirtual 41, 3) := by decide +kernel
theorem dX5_readNumber_38 : decode cX5_readNumber 38 = .ok (.iload_n 1, 1) := by decide +kernel
theorem dX5_readNumber_39 : decode cX5_readNumber 39 = .ok (.ireturn, 1) := by decide +kernel
theorem dX5_readNumber_40 : decode cX5_readNumber 40 = .ok (.aload_n 0, 1) := by decide +kernel
theorem dX5_readNumber_41 : decode cX5_readNumber 41 = .ok (.getfield 12, 3) := by decide +kernel
theorem dX5_readNumber_44 : decode cX5_readNumber 44 = .ok (.invokevirtual 34, 3) := by decide +kernel
theorem dX5_readNumber_47 : decode cX5_readNumber 47 = .ok (.iload 4, 2) := by decide +kernel
theorem dX5_readNumber_49 : decode cX5_readNumber 49 = .ok (.ireturn, 1) := by decide +kernel
theorem dX5_hasWord_0 : decode cX5_hasWord 0 = .ok (.aload_n 0, 1) := by decide +kernel
theorem dX5_hasWord_1 : decode cX5_hasWord 1 = .ok (.getfield 18, 3) := by decide +kernel
theorem dX5_hasWord_4 : decode cX5_hasWord 4 = .ok (.ifCond .ge 18, 3) := by decide +kernel
theorem dX5_hasWord_7 : decode cX5_hasWord 7 = .ok (.aload_n 0, 1) := by decide +kernel
theorem dX5_hasWord_8 : decode cX5_hasWord 8 = .ok (.getfield 12, 3) := by decide +kernel
theorem dX5_hasWord_11 : decode cX5_hasWord 11 = .ok (.iload_n 1, 1) := by decide +kernel
theorem dX5_hasWord_12 : decode cX5_hasWord 12 = .ok (.invokevirtual 99, 3) := by decide +kernel
theorem dX5_hasWord_15 : decode cX5_hasWord 15 = .ok (.ifCond .eq 7, 3) := by decide +kernel
theorem dX5_hasWord_18 : decode cX5_hasWord 18 = .ok (.iconst 1, 1) := by decide +kernel
theorem dX5_hasWord_19 : decode cX5_hasWord 19 = .ok (.goto 4, 3) := by decide +kernel
theorem dX5_hasWord_22 : decode cX5_hasWord 22 = .ok (.iconst 0, 1) := by decide +kernel
theorem dX5_hasWord_23 : decode cX5_hasWord 23 = .ok (.ireturn, 1) := by decide +kernel
theorem dX5_hasKind_0 : decode cX5_hasKind 0 = .ok (.aload_n 0, 1) := by decide +kernel
theorem dX5_hasKind_1 : decode cX5_hasKind 1 = .ok (.getfield 18, 3) := by decide +kernel
theorem dX5_hasKind_4 : decode cX5_hasKind 4 = .ok (.ifCond .ge 30, 3) := by decide +kernel
theorem dX5_hasKind_7 : decode cX5_hasKind 7 = .ok (.aload_n 0, 1) := by decide +kernel
theorem dX5_hasKind_8 : decode cX5_hasKind 8 = .ok (.getfield 12, 3) := by decide +kernel
theorem dX5_hasKind_11 : decode cX5_hasKind 11 = .ok (.iconst 1, 1) := by decide +kernel
theorem dX5_hasKind_12 : decode cX5_hasKind 12 = .ok (.invokevirtual 37, 3) := by decide +kernel
theorem dX5_hasKind_15 : decode cX5_hasKind 15 = .ok (.ifCond .eq 19, 3) := by decide +kernel
theorem dX5_hasKind_18 : decode cX5_hasKind 18 = .ok (.aload_n 0, 1) := by decide +kernel
theorem dX5_hasKind_19 : decode cX5_hasKind 19 = .ok (.getfield 12, 3) := by decide +kernel
theorem dX5_hasKind_22 : decode cX5_hasKind 22 = .ok (.invokevirtual 64, 3) := by decide +kernel
theorem dX5_hasKind_25 : decode cX5_hasKind 25 = .ok (.bipush 7, 2) := by decide +kernel
theorem dX5_hasKind_27 : decode cX5_hasKind 27 = .ok (.if_icmp .ge 7, 3) := by decide +kernel
theorem dX5_hasKind_30 : decode cX5_hasKind 30 = .ok (.iconst 1, 1) := by decide +kernel
theorem dX5_hasKind_31 : decode cX5_hasKind 31 = .ok (.goto 4, 3) := by decide +kernel
theorem dX5_hasKind_34 : decode cX5_hasKind 34 = .ok (.iconst 0, 1) := by decide +kernel
theorem dX5_hasKind_35 : decode cX5_hasKind 35 = .ok (.ireturn, 1) := by decide +kernel
theorem dX5_hasNumber_0 : decode cX5_hasNumber 0 = .ok (.aload_n 0, 1) := by decide +kernel
theorem dX5_hasNumber_1 : decode cX5_hasNumber 1 = .ok (.getfield 18, 3) := by decide +kernel
theorem dX5_hasNumber_4 : decode cX5_hasNumber 4 = .ok (.ifCond .ge 18, 3) := by decide +kernel
theorem dX5_hasNumber_7 : decode cX5_hasNumber 7 = .ok (.aload_n 0, 1) := by decide +kernel
theorem dX5_hasNumber_8 : decode cX5_hasNumber 8 = .ok (.getfield 12, 3) := by decide +kernel
theorem dX5_hasNumber_11 : decode cX5_hasNumber 11 = .ok (.iconst 2, 1) := by decide +kernel
theorem dX5_hasNumber_12 : decode cX5_hasNumber 12 = .ok (.invokevirtual 37, 3) := by decide +kernel
theorem dX5_hasNumber_15 : decode cX5_hasNumber 15 = .ok (.ifCond .eq 7, 3) := by decide +kernel
theorem dX5_hasNumber_18 : decode cX5_hasNumber 18 = .ok (.iconst 1, 1) := by decide +kernel
theorem dX5_hasNumber_19 : decode cX5_hasNumber 19 = .ok (.goto 4, 3) := by decide +kernel
theorem dX5_hasNumber_22 : decode cX5_hasNumber 22 = .ok (.iconst 0, 1) := by decide +kernel
theorem dX5_hasNumber_23 : decode cX5_hasNumber 23 = .ok (.ireturn, 1) := by decide +kernel
theorem dX5_hasSign_0 : decode cX5_hasSign 0 = .ok (.aload_n 0, 1) := by decide +kernel
theorem dX5_hasSign_1 : decode cX5_hasSign 1 = .ok (.getfield 18, 3) := by decide +kernel
theorem dX5_hasSign_4 : decode cX5_hasSign 4 = .ok (.ifCond .ge 18, 3) := by decide +kernel
theorem dX5_hasSign_7 : decode cX5_hasSign 7 = .ok (.aload_n 0, 1) := by decide +kernel
theorem dX5_hasSign_8 : decode cX5_hasSign 8 = .ok (.getfield 12, 3) := by decide +kernel
theorem dX5_hasSign_11 : decode cX5_hasSign 11 = .ok (.iconst 3, 1) := by decide +kernel
theorem dX5_hasSign_12 : decode cX5_hasSign 12 = .ok (.invokevirtual 37, 3) := by decide +kernel
theorem dX5_hasSign_15 : decode cX5_hasSign 15 = .ok (.ifCond .eq 7, 3) := by decide +kernel
theorem dX5_hasSign_18 : decode cX5_hasSign 18 = .ok (.iconst 1, 1) := by decide +kernel
theorem dX5_hasSign_19 : decode cX5_hasSign 19 = .ok (.goto 4, 3) := by decide +kernel
theorem dX5_hasSign_22 : decode cX5_hasSign 22 = .ok (.iconst 0, 1) := by decide +kernel
theorem dX5_hasSign_23 : decode cX5_hasSign 23 = .ok (.ireturn, 1) := by decide +kernel
theorem dX5_fail_0 : decode cX5_fail 0 = .ok (.aload_n 0, 1) := by decide +kernel
theorem dX5_fail_1 : decode cX5_fail 1 = .ok (.getfield 18, 3) := by decide +kernel
theorem dX5_fail_4 : decode cX5_fail 4 = .ok (.ifCond .ge 14, 3) := by decide +kernel
theorem dX5_fail_7 : decode cX5_fail 7 = .ok (.aload_n 0, 1) := by decide +kernel
theorem dX5_fail_8 : decode cX5_fail 8 = .ok (.aload_n 0, 1) := by decide +kernel
theorem dX5_fail_9 : decode cX5_fail 9 = .ok (.getfield 12, 3) := by decide +kernel
theorem dX5_fail_12 : decode cX5_fail 12 = .ok (.invokevirtual 102, 3) := by decide +kernel
theorem dX5_fail_15 : decode cX5_fail 15 = .ok (.putfield 18, 3) := by decide +kernel
theorem dX5_fail_18 : decode cX5_fail 18 = .ok (.return_, 1) := by decide +kernel
theorem dX6_init_0 : decode cX6_init 0 = .ok (.aload_n 0, 1) := by decide +kernel
theorem dX6_init_1 : decode cX6_init 1 = .ok (.invokespecial 5, 3) := by decide +kernel
theorem dX6_init_4 : decode cX6_init 4 = .ok (.aload_n 0, 1) := by decide +kernel
theorem dX6_init_5 : decode cX6_init 5 = .ok (.bipush 121, 2) := by decide +kernel
theorem dX6_init_7 : decode cX6_init 7 = .ok (.newarray .int, 2) := by decide +kernel
theorem dX6_init_9 : decode cX6_init 9 = .ok (.putfield 11, 3) := by decide +kernel
theorem dX6_init_12 : decode cX6_init 12 = .ok (.aload_n 0, 1) := by decide +kernel
theorem dX6_init_13 : decode cX6_init 13 = .ok (.bipush 121, 2) := by decide +kernel
theorem dX6_init_15 : decode cX6_init 15 = .ok (.newarray .int, 2) := by decide +kernel
theorem dX6_init_17 : decode cX6_init 17 = .ok (.putfield 15, 3) := by decide +kernel
theorem dX6_init_20 : decode cX6_init 20 = .ok (.aload_n 0, 1) := by decide +kernel
theorem dX6_init_21 : decode cX6_init 21 = .ok (.bipush 121, 2) := by decide +kernel
theorem dX6_init_23 : decode cX6_init 23 = .ok (.newarray .int, 2) := by decide +kernel
theorem dX6_init_25 : decode cX6_init 25 = .ok (.putfield 18, 3) := by decide +kernel
theorem dX6_init_28 : decode cX6_init 28 = .ok (.aload_n 0, 1) := by decide +kernel
theorem dX6_init_29 : decode cX6_init 29 = .ok (.iconst 0, 1) := by decide +kernel
theorem dX6_init_30 : decode cX6_init 30 = .ok (.putfield 21, 3) := by decide +kernel
theorem dX6_init_33 : decode cX6_init 33 = .ok (.return_, 1) := by decide +kernel
theorem dX6_take_0 : decode cX6_take 0 = .ok (.iconst 0, 1) := by decide +kernel
theorem dX6_take_1 : decode cX6_take 1 = .ok (.istore_n 2, 1) := by decide +kernel
theorem dX6_take_2 : decode cX6_take 2 = .ok (.iconst 0, 1) := by decide +kernel
theorem dX6_take_3 : decode cX6_take 3 = .ok (.istore_n 3, 1) := by decide +kernel
theorem dX6_take_4 : decode cX6_take 4 = .ok (.iload_n 3, 1) := by decide +kernel
theorem dX6_take_5 : decode cX6_take 5 = .ok (.aload_n 1, 1) := by decide +kernel
theorem dX6_take_6 : decode cX6_take 6 = .ok (.getfield 25, 3) := by decide +kernel
theorem dX6_take_9 : decode cX6_take 9 = .ok (.if_icmp .ge 46, 3) := by decide +kernel
theorem dX6_take_12 : decode cX6_take 12 = .ok (.iload_n 2, 1) := by decide +kernel
theorem dX6_take_13 : decode cX6_take 13 = .ok (.bipush 120, 2) := by decide +kernel
theorem dX6_take_15 : decode cX6_take 15 = .ok (.if_icmp .ge 40, 3) := by decide +kernel
theorem dX6_take_18 : decode cX6_take 18 = .ok (.aload_n 1, 1) := by decide +kernel
theorem dX6_take_19 : decode cX6_take 19 = .ok (.iload_n 3, 1) := by decide +kernel
theorem dX6_take_20 : decode cX6_take 20 = .ok (.invokevirtual 30, 3) := by decide +kernel
theorem dX6_take_23 : decode cX6_take 23 = .ok (.bipush 32, 2) := by decide +kernel
theorem dX6_take_25 : decode cX6_take 25 = .ok (.if_icmp .ne 9, 3) := by decide +kernel
theorem dX6_take_28 : decode cX6_take 28 = .ok (.iinc 3 1, 3) := by decide +kernel
theorem dX6_take_31 : decode cX6_take 31 = .ok (.goto (-27), 3) := by decide +kernel
theorem dX6_take_34 : decode cX6_take 34 = .ok (.aload_n 0, 1) := by decide +kernel
theorem dX6_take_35 : decode cX6_take 35 = .ok (.getfield 15, 3) := by decide +kernel
theorem dX6_take_38 : decode cX6_take 38 = .ok (.iload_n 2, 1) := by decide +kernel
theorem dX6_take_39 : decode cX6_take 39 = .ok (.iload_n 3, 1) := by decide +kernel
theorem dX6_take_40 : decode cX6_take 40 = .ok (.iastore, 1) := by decide +kernel
theorem dX6_take_41 : decode cX6_take 41 = .ok (.aload_n 0, 1) := by decide +kernel
theorem dX6_take_42 : decode cX6_take 42 = .ok (.aload_n 1, 1) := by decide +kernel
theorem dX6_take_43 : decode cX6_take 43 = .ok (.iload_n 3, 1) := by decide +kernel
theorem dX6_take_44 : decode cX6_take 44 = .ok (.iload_n 2, 1) := by decide +kernel
theorem dX6_take_45 : decode cX6_take 45 = .ok (.invokevirtual 33, 3) := by decide +kernel
theorem dX6_take_48 : decode cX6_take 48 = .ok (.istore_n 3, 1) := by decide +kernel
theorem dX6_take_49 : decode cX6_take 49 = .ok (.iinc 2 1, 3) := by decide +kernel
theorem dX6_take_52 : decode cX6_take 52 = .ok (.goto (-48), 3) := by decide +kernel
theorem dX6_take_55 : decode cX6_take 55 = .ok (.aload_n 0, 1) := by decide +kernel
theorem dX6_take_56 : decode cX6_take 56 = .ok (.getfield 11, 3) := by decide +kernel
theorem dX6_take_59 : decode cX6_take 59 = .ok (.iload_n 2, 1) := by decide +kernel
theorem dX6_take_60 : decode cX6_take 60 = .ok (.iconst 0, 1) := by decide +kernel
theorem dX6_take_61 : decode cX6_take 61 = .ok (.iastore, 1) := by decide +kernel
theorem dX6_take_62 : decode cX6_take 62 = .ok (.aload_n 0, 1) := by decide +kernel
theorem dX6_take_63 : decode cX6_take 63 = .ok (.getfield 15, 3) := by decide +kernel
theorem dX6_take_66 : decode cX6_take 66 = .ok (.iload_n 2, 1) := by decide +kernel
theorem dX6_take_67 : decode cX6_take 67 = .ok (.aload_n 1, 1) := by decide +kernel
theorem dX6_take_68 : decode cX6_take 68 = .ok (.getfield 25, 3) := by decide +kernel
theorem dX6_take_71 : decode cX6_take 71 = .ok (.iastore, 1) := by decide +kernel
theorem dX6_take_72 : decode cX6_take 72 = .ok (.aload_n 0, 1) := by decide +kernel
theorem dX6_take_73 : decode cX6_take 73 = .ok (.iconst 0, 1) := by decide +kernel
theorem dX6_take_74 : decode cX6_take 74 = .ok (.putfield 21, 3) := by decide +kernel
theorem dX6_take_77 : decode cX6_take 77 = .ok (.return_, 1) := by decide +kernel
theorem dX6_begin_0 : decode cX6_begin 0 = .ok (.aload_n 0, 1) := by decide +kernel
theorem dX6_begin_1 : decode cX6_begin 1 = .ok (.getfield 15, 3) := by decide +kernel
theorem dX6_begin_4 : decode cX6_begin 4 = .ok (.aload_n 0, 1) := by decide +kernel
theorem dX6_begin_5 : decode cX6_begin 5 = .ok (.getfield 21, 3) := by decide +kernel
theorem dX6_begin_8 : decode cX6_begin 8 = .ok (.iaload, 1) := by decide +kernel
theorem dX6_begin_9 : decode cX6_begin 9 = .ok (.ireturn, 1) := by decide +kernel
theorem dX6_value_0 : decode cX6_value 0 = .ok (.aload_n 0, 1) := by decide +kernel
theorem dX6_value_1 : decode cX6_value 1 = .ok (.getfield 18, 3) := by decide +kernel
theorem dX6_value_4 : decode cX6_value 4 = .ok (.aload_n 0, 1) := by decide +kernel
theorem dX6_value_5 : decode cX6_value 5 = .ok (.getfield 21, 3) := by decide +kernel
theorem dX6_value_8 : decode cX6_value 8 = .ok (.iaload, 1) := by decide +kernel
theorem dX6_value_9 : decode cX6_value 9 = .ok (.ireturn, 1) := by decide +kernel
theorem dX6_isSort_0 : decode cX6_isSort 0 = .ok (.aload_n 0, 1) := by decide +kernel
theorem dX6_isSort_1 : decode cX6_isSort 1 = .ok (.getfield 11, 3) := by decide +kernel
theorem dX6_isSort_4 : decode cX6_isSort 4 = .ok (.aload_n 0, 1) := by decide +kernel
theorem dX6_isSort_5 : decode cX6_isSort 5 = .ok (.getfield 21, 3) := by decide +kernel
theorem dX6_isSort_8 : decode cX6_isSort 8 = .ok (.iaload, 1) := by decide +kernel
theorem dX6_isSort_9 : decode cX6_isSort 9 = .ok (.iload_n 1, 1) := by decide +kernel
theorem dX6_isSort_10 : decode cX6_isSort 10 = .ok (.if_icmp .ne 7, 3) := by decide +kernel
theorem dX6_isSort_13 : decode cX6_isSort 13 = .ok (.iconst 1, 1) := by decide +kernel
theorem dX6_isSort_14 : decode cX6_isSort 14 = .ok (.goto 4, 3) := by decide +kernel
theorem dX6_isSort_17 : decode cX6_isSort 17 = .ok (.iconst 0, 1) := by decide +kernel
theorem dX6_isSort_18 : decode cX6_isSort 18 = .ok (.ireturn, 1) := by decide +kernel
theorem dX6_isWord_0 : decode cX6_isWord 0 = .ok (.aload_n 0, 1) := by decide +kernel
theorem dX6_isWord_1 : decode cX6_isWord 1 = .ok (.getfield 11, 3) := by decide +kernel
theorem dX6_isWord_4 : decode cX6_isWord 4 = .ok (.aload_n 0, 1) := by decide +kernel
theorem dX6_isWord_5 : decode cX6_isWord 5 = .ok (.getfield 21, 3) := by decide +kernel
theorem dX6_isWord_8 : decode cX6_isWord 8 = .ok (.iaload, 1) := by decide +kernel
theorem dX6_isWord_9 : decode cX6_isWord 9 = .ok (.iconst 1, 1) := by decide +kernel
theorem dX6_isWord_10 : decode cX6_isWord 10 = .ok (.if_icmp .ne 20, 3) := by decide +kernel
theorem dX6_isWord_13 : decode cX6_isWord 13 = .ok (.aload_n 0, 1) := by decide +kernel
theorem dX6_isWord_14 : decode cX6_isWord 14 = .ok (.getfield 18, 3) := by decide +kernel
theorem dX6_isWord_17 : decode cX6_isWord 17 = .ok (.aload_n 0, 1) := by decide +kernel
theorem dX6_isWord_18 : decode cX6_isWord 18 = .ok (.getfield 21, 3) := by decide +kernel
theorem dX6_isWord_21 : decode cX6_isWord 21 = .ok (.iaload, 1) := by decide +kernel
theorem dX6_isWord_22 : decode cX6_isWord 22 = .ok (.iload_n 1, 1) := by decide +kernel
theorem dX6_isWord_23 : decode cX6_isWord 23 = .ok (.if_icmp .ne 7, 3) := by decide +kernel
theorem dX6_isWord_26 : decode cX6_isWord 26 = .ok (.iconst 1, 1) := by decide +kernel
theorem dX6_isWord_27 : decode cX6_isWord 27 = .ok (.goto 4, 3) := by decide +kernel
theorem dX6_isWord_30 : decode cX6_isWord 30 = .ok (.iconst 0, 1) := by decide +kernel
theorem dX6_isWord_31 : decode cX6_isWord 31 = .ok (.ireturn, 1) := by decide +kernel
theorem dX6_advance_0 : decode cX6_advance 0 = .ok (.aload_n 0, 1) := by decide +kernel
theorem dX6_advance_1 : decode cX6_advance 1 = .ok (.getfield 11, 3) := by decide +kernel
theorem dX6_advance_4 : decode cX6_advance 4 = .ok (.aload_n 0, 1) := by decide +kernel
theorem dX6_advance_5 : decode cX6_advance 5 = .ok (.getfield 21, 3) := by decide +kernel
theorem dX6_advance_8 : decode cX6_advance 8 = .ok (.iaload, 1) := by decide +kernel
theorem dX6_advance_9 : decode cX6_advance 9 = .ok (.ifCond .eq 22, 3) := by decide +kernel
theorem dX6_advance_12 : decode cX6_advance 12 = .ok (.aload_n 0, 1) := by decide +kernel
theorem dX6_advance_13 : decode cX6_advance 13 = .ok (.getfield 21, 3) := by decide +kernel
theorem dX6_advance_16 : decode cX6_advance 16 = .ok (.bipush 120, 2) := by decide +kernel
theorem dX6_advance_18 : decode cX6_advance 18 = .ok (.if_icmp .ge 13, 3) := by decide +kernel
theorem dX6_advance_21 : decode cX6_advance 21 = .ok (.aload_n 0, 1) := by decide +kernel
theorem dX6_advance_22 : decode cX6_advance 22 = .ok (.dup, 1) := by decide +kernel
theorem dX6_advance_23 : decode cX6_advance 23 = .ok (.getfield 21, 3) := by decide +kernel
theorem dX6_advance_26 : decode cX6_advance 26 = .ok (.iconst 1, 1) := by decide +kernel
theorem dX6_advance_27 : decode cX6_advance 27 = .ok (.iadd, 1) := by decide +kernel
theorem dX6_advance_28 : decode cX6_advance 28 = .ok (.putfield 21, 3) := by decide +kernel
theorem dX6_advance_31 : decode cX6_advance 31 = .ok (.return_, 1) := by decide +kernel
theorem dX6_takeOne_0 : decode cX6_takeOne 0 = .ok (.aload_n 1, 1) := by decide +kernel
theorem dX6_takeOne_1 : decode cX6_takeOne 1 = .ok (.iload_n 2, 1) := by decide +kernel
theorem dX6_takeOne_2 : decode cX6_takeOne 2 = .ok (.invokevirtual 30, 3) := by decide +kernel
theorem dX6_takeOne_5 : decode cX6_takeOne 5 = .ok (.istore 4, 2) := by decide +kernel
theorem dX6_takeOne_7 : decode cX6_takeOne 7 = .ok (.iload_n 2, 1) := by decide +kernel
theorem dX6_takeOne_8 : decode cX6_takeOne 8 = .ok (.iconst 1, 1) := by decide +kernel
theorem dX6_takeOne_9 : decode cX6_takeOne 9 = .ok (.iadd, 1) := by decide +kernel
theorem dX6_takeOne_10 : decode cX6_takeOne 10 = .ok (.istore 5, 2) := by decide +kernel
theorem dX6_takeOne_12 : decode cX6_takeOne 12 = .ok (.iload 4, 2) := by decide +kernel
theorem dX6_takeOne_14 : decode cX6_takeOne 14 = .ok (.invokestatic 37, 3) := by decide +kernel
theorem dX6_takeOne_17 : decode cX6_takeOne 17 = .ok (.ifCond .eq 51, 3) := by decide +kernel
theorem dX6_takeOne_20 : decode cX6_takeOne 20 = .ok (.aload_n 1, 1) := by decide +kernel
theorem dX6_takeOne_21 : decode cX6_takeOne 21 = .ok (.iload 5, 2) := by decide +kernel
theorem dX6_takeOne_23 : decode cX6_takeOne 23 = .ok (.invokevirtual 30, 3) := by decide +kernel
theorem dX6_takeOne_26 : decode cX6_takeOne 26 = .ok (.invokestatic 37, 3) := by decide +kernel
theorem dX6_takeOne_29 : decode cX6_takeOne 29 = .ok (.ifCond .eq 16, 3) := by decide +kernel
theorem dX6_takeOne_32 : decode cX6_takeOne 32 = .ok (.iload 5, 2) := by decide +kernel
theorem dX6_takeOne_34 : decode cX6_takeOne 34 = .ok (.bipush 120, 2) := by decide +kernel
theorem dX6_takeOne_36 : decode cX6_takeOne 36 = .ok (.if_icmp .ge 9, 3) := by decide +kernel
theorem dX6_takeOne_39 : decode cX6_takeOne 39 = .ok (.iinc 5 1, 3) := by decide +kernel
theorem dX6_takeOne_42 : decode cX6_takeOne 42 = .ok (.goto (-22), 3) := by decide +kernel
theorem dX6_takeOne_45 : decode cX6_takeOne 45 = .ok (.aload_n 0, 1) := by decide +kernel
theorem dX6_takeOne_46 : decode cX6_takeOne 46 = .ok (.getfield 11, 3) := by decide +kernel
theorem dX6_takeOne_49 : decode cX6_takeOne 49 = .ok (.iload_n 3, 1) := by decide +kernel
theorem dX6_takeOne_50 : decode cX6_takeOne 50 = .ok (.iconst 1, 1) := by decide +kernel
theorem dX6_takeOne_51 : decode cX6_takeOne 51 = .ok (.iastore, 1) := by decide +kernel
theorem dX6_takeOne_52 : decode cX6_takeOne 52 = .ok (.aload_n 0, 1) := by decide +kernel
theorem dX6_takeOne_53 : decode cX6_takeOne 53 = .ok (.getfield 18, 3) := by decide +kernel
theorem dX6_takeOne_56 : decode cX6_takeOne 56 = .ok (.iload_n 3, 1) := by decide +kernel
theorem dX6_takeOne_57 : decode cX6_takeOne 57 = .ok (.aload_n 1, 1) := by decide +kernel
theorem dX6_takeOne_58 : decode cX6_takeOne 58 = .ok (.iload_n 2, 1) := by decide +kernel
theorem dX6_takeOne_59 : decode cX6_takeOne 59 = .ok (.iload 5, 2) := by decide +kernel
theorem dX6_takeOne_61 : decode cX6_takeOne 61 = .ok (.invokestatic 41, 3) := by decide +kernel
theorem dX6_takeOne_64 : decode cX6_takeOne 64 = .ok (.iastore, 1) := by decide +kernel
theorem dX6_takeOne_65 : decode cX6_takeOne 65 = .ok (.goto 102, 3) := by decide +kernel
theorem dX6_takeOne_68 : decode cX6_takeOne 68 = .ok (.iload 4, 2) := by decide +kernel
theorem dX6_takeOne_70 : decode cX6_takeOne 70 = .ok (.invokestatic 44, 3) := by decide +kernel
theorem dX6_takeOne_73 : decode cX6_takeOne 73 = .ok (.ifCond .eq 76, 3) := by decide +kernel
theorem dX6_takeOne_76 : decode cX6_takeOne 76 = .ok (.iload 4, 2) := by decide +kernel
theorem dX6_takeOne_78 : decode cX6_takeOne 78 = .ok (.bipush 48, 2) := by decide +kernel
theorem dX6_takeOne_80 : decode cX6_takeOne 80 = .ok (.isub, 1) := by decide +kernel
theorem dX6_takeOne_81 : decode cX6_takeOne 81 = .ok (.istore 6, 2) := by decide +kernel
theorem dX6_takeOne_83 : decode cX6_takeOne 83 = .ok (.aload_n 1, 1) := by decide +kernel
theorem dX6_takeOne_84 : decode cX6_takeOne 84 = .ok (.iload 5, 2) := by decide +kernel
theorem dX6_takeOne_86 : decode cX6_takeOne 86 = .ok (.invokevirtual 30, 3) := by decide +kernel
theorem dX6_takeOne_89 : decode cX6_takeOne 89 = .ok (.invokestatic 44, 3) := by decide +kernel
theorem dX6_takeOne_92 : decode cX6_takeOne 92 = .ok (.ifCond .eq 39, 3) := by decide +kernel
theorem dX6_takeOne_95 : decode cX6_takeOne 95 = .ok (.iload 5, 2) := by decide +kernel
theorem dX6_takeOne_97 : decode cX6_takeOne 97 = .ok (.bipush 120, 2) := by decide +kernel
theorem dX6_takeOne_99 : decode cX6_takeOne 99 = .ok (.if_icmp .ge 32, 3) := by decide +kernel
theorem dX6_takeOne_102 : decode cX6_takeOne 102 = .ok (.iload 6, 2) := by decide +kernel
theorem dX6_takeOne_104 : decode cX6_takeOne 104 = .ok (.bipush 10, 2) := by decide +kernel
theorem dX6_takeOne_106 : decode cX6_takeOne 106 = .ok (.imul, 1) := by decide +kernel
theorem dX6_takeOne_107 : decode cX6_takeOne 107 = .ok (.aload_n 1, 1) := by decide +kernel
theorem dX6_takeOne_108 : decode cX6_takeOne 108 = .ok (.iload 5, 2) := by decide +kernel
theorem dX6_takeOne_110 : decode cX6_takeOne 110 = .ok (.invokevirtual 30, 3) := by decide +kernel
theorem dX6_takeOne_113 : decode cX6_takeOne 113 = .ok (.iadd, 1) := by decide +kernel
theorem dX6_takeOne_114 : decode cX6_takeOne 114 = .ok (.bipush 48, 2) := by decide +kernel
theorem dX6_takeOne_116 : decode cX6_takeOne 116 = .ok (.isub, 1) := by decide +kernel
theorem dX6_takeOne_117 : decode cX6_takeOne 117 = .ok (.sipush 1000, 3) := by decide +kernel
theorem dX6_takeOne_120 : decode cX6_takeOne 120 = .ok (.invokestatic 47, 3) := by decide +kernel
theorem dX6_takeOne_123 : decode cX6_takeOne 123 = .ok (.istore 6, 2) := by decide +kernel
theorem dX6_takeOne_125 : decode cX6_takeOne 125 = .ok (.iinc 5 1, 3) := by decide +kernel
theorem dX6_takeOne_128 : decode cX6_takeOne 128 = .ok (.goto (-45), 3) := by decide +kernel
theorem dX6_takeOne_131 : decode cX6_takeOne 131 = .ok (.aload_n 0, 1) := by decide +kernel
theorem dX6_takeOne_132 : decode cX6_takeOne 132 = .ok (.getfield 11, 3) := by decide +kernel
theorem dX6_takeOne_135 : decode cX6_takeOne 135 = .ok (.iload_n 3, 1) := by decide +kernel
theorem dX6_takeOne_136 : decode cX6_takeOne 136 = .ok (.iconst 2, 1) := by decide +kernel
theorem dX6_takeOne_137 : decode cX6_takeOne 137 = .ok (.iastore, 1) := by decide +kernel
theorem dX6_takeOne_138 : decode cX6_takeOne 138 = .ok (.aload_n 0, 1) := by decide +kernel
theorem dX6_takeOne_139 : decode cX6_takeOne 139 = .ok (.getfield 18, 3) := by decide +kernel
theorem dX6_takeOne_142 : decode cX6_takeOne 142 = .ok (.iload_n 3, 1) := by decide +kernel
theorem dX6_takeOne_143 : decode cX6_takeOne 143 = .ok (.iload 6, 2) := by decide +kernel
theorem dX6_takeOne_145 : decode cX6_takeOne 145 = .ok (.iastore, 1) := by decide +kernel
theorem dX6_takeOne_146 : decode cX6_takeOne 146 = .ok (.goto 21, 3) := by decide +kernel
theorem dX6_takeOne_149 : decode cX6_takeOne 149 = .ok (.aload_n 0, 1) := by decide +kernel
theorem dX6_takeOne_150 : decode cX6_takeOne 150 = .ok (.getfield 11, 3) := by decide +kernel
theorem dX6_takeOne_153 : decode cX6_takeOne 153 = .ok (.iload_n 3, 1) := by decide +kernel
theorem dX6_takeOne_154 : decode cX6_takeOne 154 = .ok (.iload 4, 2) := by decide +kernel
theorem dX6_takeOne_156 : decode cX6_takeOne 156 = .ok (.bipush 59, 2) := by decide +kernel
theorem dX6_takeOne_158 : decode cX6_takeOne 158 = .ok (.if_icmp .ne 7, 3) := by decide +kernel
theorem dX6_takeOne_161 : decode cX6_takeOne 161 = .ok (.iconst 3, 1) := by decide +kernel
theorem dX6_takeOne_162 : decode cX6_takeOne 162 = .ok (.goto 4, 3) := by decide +kernel
theorem dX6_takeOne_165 : decode cX6_takeOne 165 = .ok (.iconst 4, 1) := by decide +kernel
theorem dX6_takeOne_166 : decode cX6_takeOne 166 = .ok (.iastore, 1) := by decide +kernel
theorem dX6_takeOne_167 : decode cX6_takeOne 167 = .ok (.iload 5, 2) := by decide +kernel
theorem dX6_takeOne_169 : decode cX6_takeOne 169 = .ok (.ireturn, 1) := by decide +kernel
theorem dX6_isLetter_0 : decode cX6_isLetter 0 = .ok (.iload_n 0, 1) := by decide +kernel
theorem dX6_isLetter_1 : decode cX6_isLetter 1 = .ok (.bipush 97, 2) := by decide +kernel
theorem dX6_isLetter_3 : decode cX6_isLetter 3 = .ok (.if_icmp .lt 13, 3) := by decide +kernel
theorem dX6_isLetter_6 : decode cX6_isLetter 6 = .ok (.iload_n 0, 1) := by decide +kernel
theorem dX6_isLetter_7 : decode cX6_isLetter 7 = .ok (.bipush 122, 2) := by decide +kernel
theorem dX6_isLetter_9 : decode cX6_isLetter 9 = .ok (.if_icmp .gt 7, 3) := by decide +kernel
theorem dX6_isLetter_12 : decode cX6_isLetter 12 = .ok (.iconst 1, 1) := by decide +kernel
theorem dX6_isLetter_13 : decode cX6_isLetter 13 = .ok (.goto 4, 3) := by decide +kernel
theorem dX6_isLetter_16 : decode cX6_isLetter 16 = .ok (.iconst 0, 1) := by decide +kernel
theorem dX6_isLetter_17 : decode cX6_isLetter 17 = .ok (.ireturn, 1) := by decide +kernel
theorem dX6_isDigit_0 : decode cX6_isDigit 0 = .ok (.iload_n 0, 1) := by decide +kernel
theorem dX6_isDigit_1 : decode cX6_isDigit 1 = .ok (.bipush 48, 2) := by decide +kernel
theorem dX6_isDigit_3 : decode cX6_isDigit 3 = .ok (.if_icmp .lt 13, 3) := by decide +kernel
theorem dX6_isDigit_6 : decode cX6_isDigit 6 = .ok (.iload_n 0, 1) := by decide +kernel
theorem dX6_isDigit_7 : decode cX6_isDigit 7 = .ok (.bipush 57, 2) := by decide +kernel
theorem dX6_isDigit_9 : decode cX6_isDigit 9 = .ok (.if_icmp .gt 7, 3) := by decide +kernel
theorem dX6_isDigit_12 : decode cX6_isDigit 12 = .ok (.iconst 1, 1) := by decide +kernel
theorem dX6_isDigit_13 : decode cX6_isDigit 13 = .ok (.goto 4, 3) := by decide +kernel
theorem dX6_isDigit_16 : decode cX6_isDigit 16 = .ok (.iconst 0, 1) := by decide +kernel
theorem dX6_isDigit_17 : decode cX6_isDigit 17 = .ok (.ireturn, 1) := by decide +kernel
theorem dX6_wordAt_0 : decode cX6_wordAt 0 = .ok (.iconst 0, 1) := by decide +kernel
theorem dX6_wordAt_1 : decode cX6_wordAt 1 = .ok (.istore_n 3, 1) := by decide +kernel
theorem dX6_wordAt_2 : decode cX6_wordAt 2 = .ok (.iload_n 3, 1) := by decide +kernel
theorem dX6_wordAt_3 : decode cX6_wordAt 3 = .ok (.bipush 18, 2) := by decide +kernel
theorem dX6_wordAt_5 : decode cX6_wordAt 5 = .ok (.if_icmp .ge 22, 3) := by decide +kernel
theorem dX6_wordAt_8 : decode cX6_wordAt 8 = .ok (.aload_n 0, 1) := by decide +kernel
theorem dX6_wordAt_9 : decode cX6_wordAt 9 = .ok (.iload_n 3, 1) := by decide +kernel
theorem dX6_wordAt_10 : decode cX6_wordAt 10 = .ok (.invokestatic 53, 3) := by decide +kernel
theorem dX6_wordAt_13 : decode cX6_wordAt 13 = .ok (.iload_n 1, 1) := by decide +kernel
theorem dX6_wordAt_14 : decode cX6_wordAt 14 = .ok (.iload_n 2, 1) := by decide +kernel
theorem dX6_wordAt_15 : decode cX6_wordAt 15 = .ok (.invokevirtual 57, 3) := by decide +kernel
theorem dX6_wordAt_18 : decode cX6_wordAt 18 = .ok (.ifCond .ne 9, 3) := by decide +kernel
theorem dX6_wordAt_21 : decode cX6_wordAt 21 = .ok (.iinc 3 1, 3) := by decide +kernel
theorem dX6_wordAt_24 : decode cX6_wordAt 24 = .ok (.goto (-22), 3) := by decide +kernel
theorem dX6_wordAt_27 : decode cX6_wordAt 27 = .ok (.iload_n 3, 1) := by decide +kernel
theorem dX6_wordAt_28 : decode cX6_wordAt 28 = .ok (.ireturn, 1) := by decide +kernel
theorem dX6_nameOf_0 : decode cX6_nameOf 0 = .ok (.iload_n 0, 1) := by decide +kernel
theorem dX6_nameOf_1 : decode cX6_nameOf 1 = .ok (.tableswitch 134 1 17 #[83, 86, 89, 92, 95, 98, 101, 104, 107, 110, 113, 116, 119, 122, 125, 128, 131], 83) := by decide +kernel
theorem dX6_nameOf_84 : decode cX6_nameOf 84 = .ok (.ldc 61, 2) := by decide +kernel
theorem dX6_nameOf_86 : decode cX6_nameOf 86 = .ok (.areturn, 1) := by decide +kernel
theorem dX6_nameOf_87 : decode cX6_nameOf 87 = .ok (.ldc 63, 2) := by decide +kernel
theorem dX6_nameOf_89 : decode cX6_nameOf 89 = .ok (.areturn, 1) := by decide +kernel
theorem dX6_nameOf_90 : decode cX6_nameOf 90 = .ok (.ldc 65, 2) := by decide +kernel
theorem dX6_nameOf_92 : decode cX6_nameOf 92 = .ok (.areturn, 1) := by decide +kernel
theorem dX6_nameOf_93 : decode cX6_nameOf 93 = .ok (.ldc 67, 2) := by decide +kernel
theorem dX6_nameOf_95 : decode cX6_nameOf 95 = .ok (.areturn, 1) := by decide +kernel
theorem dX6_nameOf_96 : decode cX6_nameOf 96 = .ok (.ldc 69, 2) := by decide +kernel
theorem dX6_nameOf_98 : decode cX6_nameOf 98 = .ok (.areturn, 1) := by decide +kernel
theorem dX6_nameOf_99 : decode cX6_nameOf 99 = .ok (.ldc 71, 2) := by decide +kernel
theorem dX6_nameOf_101 : decode cX6_nameOf 101 = .ok (.areturn, 1) := by decide +kernel
theorem dX6_nameOf_102 : decode cX6_nameOf 102 = .ok (.ldc 73, 2) := by decide +kernel
theorem dX6_nameOf_104 : decode cX6_nameOf 104 = .ok (.areturn, 1) := by decide +kernel
theorem dX6_nameOf_105 : decode cX6_nameOf 105 = .ok (.ldc 75, 2) := by decide +kernel
theorem dX6_nameOf_107 : decode cX6_nameOf 107 = .ok (.areturn, 1) := by decide +kernel
theorem dX6_nameOf_108 : decode cX6_nameOf 108 = .ok (.ldc 77, 2) := by decide +kernel
theorem dX6_nameOf_110 : decode cX6_nameOf 110 = .ok (.areturn, 1) := by decide +kernel
theorem dX6_nameOf_111 : decode cX6_nameOf 111 = .ok (.ldc 79, 2) := by decide +kernel
theorem dX6_nameOf_113 : decode cX6_nameOf 113 = .ok (.areturn, 1) := by decide +kernel
theorem dX6_nameOf_114 : decode cX6_nameOf 114 = .ok (.ldc 81, 2) := by decide +kernel
theorem dX6_nameOf_116 : decode cX6_nameOf 116 = .ok (.areturn, 1) := by decide +kernel
theorem dX6_nameOf_117 : decode cX6_nameOf 117 = .ok (.ldc 83, 2) := by decide +kernel
theorem dX6_nameOf_119 : decode cX6_nameOf 119 = .ok (.areturn, 1) := by decide +kernel
theorem dX6_nameOf_120 : decode cX6_nameOf 120 = .ok (.ldc 85, 2) := by decide +kernel
theorem dX6_nameOf_122 : decode cX6_nameOf 122 = .ok (.areturn, 1) := by decide +kernel
theorem dX6_nameOf_123 : decode cX6_nameOf 123 = .ok (.ldc 87, 2) := by decide +kernel
theorem dX6_nameOf_125 : decode cX6_nameOf 125 = .ok (.areturn, 1) := by decide +kernel
theorem dX6_nameOf_126 : decode cX6_nameOf 126 = .ok (.ldc 89, 2) := by decide +kernel
theorem dX6_nameOf_128 : decode cX6_nameOf 128 = .ok (.areturn, 1) := by decide +kernel
theorem dX6_nameOf_129 : decode cX6_nameOf 129 = .ok (.ldc 91, 2) := by decide +kernel
theorem dX6_nameOf_131 : decode cX6_nameOf 131 = .ok (.areturn, 1) := by decide +kernel
theorem dX6_nameOf_132 : decode cX6_nameOf 132 = .ok (.ldc 93, 2) := by decide +kernel
theorem dX6_nameOf_134 : decode cX6_nameOf 134 = .ok (.areturn, 1) := by decide +kernel
theorem dX6_nameOf_135 : decode cX6_nameOf 135 = .ok (.ldc 95, 2) := by decide +kernel
theorem dX6_nameOf_137 : decode cX6_nameOf 137 = .ok (.areturn, 1) := by decide +kernel
theorem dJ6_lowestOneBit_0f7a4_0 : decode cJ6_lowestOneBit_0f7a4 0 = .ok (.iload_n 0, 1) := by decide +kernel
theorem dJ6_lowestOneBit_0f7a4_1 : decode cJ6_lowestOneBit_0f7a4 1 = .ok (.iload_n 0, 1) := by decide +kernel
theorem dJ6_lowestOneBit_0f7a4_2 : decode cJ6_lowestOneBit_0f7a4 2 = .ok (.ineg, 1) := by decide +kernel
theorem dJ6_lowestOneBit_0f7a4_3 : decode cJ6_lowestOneBit_0f7a4 3 = .ok (.iand, 1) := by decide +kernel
theorem dJ6_lowestOneBit_0f7a4_4 : decode cJ6_lowestOneBit_0f7a4 4 = .ok (.ireturn, 1) := by decide +kernel
theorem dJ6_numberOfTrailingZeros_0f7a4_0 : decode cJ6_numberOfTrailingZeros_0f7a4 0 = .ok (.iload_n 0, 1) := by decide +kernel
theorem dJ6_numberOfTrailingZeros_0f7a4_1 : decode cJ6_numberOfTrailingZeros_0f7a4 1 = .ok (.iconst (-1), 1) := by decide +kernel
theorem dJ6_numberOfTrailingZeros_0f7a4_2 : decode cJ6_numberOfTrailingZeros_0f7a4 2 = .ok (.ixor, 1) := by decide +kernel
theorem dJ6_numberOfTrailingZeros_0f7a4_3 : decode cJ6_numberOfTrailingZeros_0f7a4 3 = .ok (.iload_n 0, 1) := by decide +kernel
theorem dJ6_numberOfTrailingZeros_0f7a4_4 : decode cJ6_numberOfTrailingZeros_0f7a4 4 = .ok (.iconst 1, 1) := by decide +kernel
theorem dJ6_numberOfTrailingZeros_0f7a4_5 : decode cJ6_numberOfTrailingZeros_0f7a4 5 = .ok (.isub, 1) := by decide +kernel
theorem dJ6_numberOfTrailingZeros_0f7a4_6 : decode cJ6_numberOfTrailingZeros_0f7a4 6 = .ok (.iand, 1) := by decide +kernel
theorem dJ6_numberOfTrailingZeros_0f7a4_7 : decode cJ6_numberOfTrailingZeros_0f7a4 7 = .ok (.istore_n 0, 1) := by decide +kernel
theorem dJ6_numberOfTrailingZeros_0f7a4_8 : decode cJ6_numberOfTrailingZeros_0f7a4 8 = .ok (.iload_n 0, 1) := by decide +kernel
theorem dJ6_numberOfTrailingZeros_0f7a4_9 : decode cJ6_numberOfTrailingZeros_0f7a4 9 = .ok (.ifCond .gt 8, 3) := by decide +kernel
theorem dJ6_numberOfTrailingZeros_0f7a4_12 : decode cJ6_numberOfTrailingZeros_0f7a4 12 = .ok (.iload_n 0, 1) := by decide +kernel
theorem dJ6_numberOfTrailingZeros_0f7a4_13 : decode cJ6_numberOfTrailingZeros_0f7a4 13 = .ok (.bipush 32, 2) := by decide +kernel
theorem dJ6_numberOfTrailingZeros_0f7a4_15 : decode cJ6_numberOfTrailingZeros_0f7a4 15 = .ok (.iand, 1) := by decide +kernel
theorem dJ6_numberOfTrailingZeros_0f7a4_16 : decode cJ6_numberOfTrailingZeros_0f7a4 16 = .ok (.ireturn, 1) := by decide +kernel
theorem dJ6_numberOfTrailingZeros_0f7a4_17 : decode cJ6_numberOfTrailingZeros_0f7a4 17 = .ok (.iconst 1, 1) := by decide +kernel
theorem dJ6_numberOfTrailingZeros_0f7a4_18 : decode cJ6_numberOfTrailingZeros_0f7a4 18 = .ok (.istore_n 1, 1) := by decide +kernel
theorem dJ6_numberOfTrailingZeros_0f7a4_19 : decode cJ6_numberOfTrailingZeros_0f7a4 19 = .ok (.iload_n 0, 1) := by decide +kernel
theorem dJ6_numberOfTrailingZeros_0f7a4_20 : decode cJ6_numberOfTrailingZeros_0f7a4 20 = .ok (.ldc_w 264, 3) := by decide +kernel
theorem dJ6_numberOfTrailingZeros_0f7a4_23 : decode cJ6_numberOfTrailingZeros_0f7a4 23 = .ok (.if_icmp .le 11, 3) := by decide +kernel
theorem dJ6_numberOfTrailingZeros_0f7a4_26 : decode cJ6_numberOfTrailingZeros_0f7a4 26 = .ok (.iinc 1 16, 3) := by decide +kernel
theorem dJ6_numberOfTrailingZeros_0f7a4_29 : decode cJ6_numberOfTrailingZeros_0f7a4 29 = .ok (.iload_n 0, 1) := by decide +kernel
theorem dJ6_numberOfTrailingZeros_0f7a4_30 : decode cJ6_numberOfTrailingZeros_0f7a4 30 = .ok (.bipush 16, 2) := by decide +kernel
theorem dJ6_numberOfTrailingZeros_0f7a4_32 : decode cJ6_numberOfTrailingZeros_0f7a4 32 = .ok (.iushr, 1) := by decide +kernel
theorem dJ6_numberOfTrailingZeros_0f7a4_33 : decode cJ6_numberOfTrailingZeros_0f7a4 33 = .ok (.istore_n 0, 1) := by decide +kernel
theorem dJ6_numberOfTrailingZeros_0f7a4_34 : decode cJ6_numberOfTrailingZeros_0f7a4 34 = .ok (.iload_n 0, 1) := by decide +kernel
theorem dJ6_numberOfTrailingZeros_0f7a4_35 : decode cJ6_numberOfTrailingZeros_0f7a4 35 = .ok (.sipush 256, 3) := by decide +kernel
theorem dJ6_numberOfTrailingZeros_0f7a4_38 : decode cJ6_numberOfTrailingZeros_0f7a4 38 = .ok (.if_icmp .le 11, 3) := by decide +kernel
theorem dJ6_numberOfTrailingZeros_0f7a4_41 : decode cJ6_numberOfTrailingZeros_0f7a4 41 = .ok (.iinc 1 8, 3) := by decide +kernel
theorem dJ6_numberOfTrailingZeros_0f7a4_44 : decode cJ6_numberOfTrailingZeros_0f7a4 44 = .ok (.iload_n 0, 1) := by decide +kernel
theorem dJ6_numberOfTrailingZeros_0f7a4_45 : decode cJ6_numberOfTrailingZeros_0f7a4 45 = .ok (.bipush 8, 2) := by decide +kernel
theorem dJ6_numberOfTrailingZeros_0f7a4_47 : decode cJ6_numberOfTrailingZeros_0f7a4 47 = .ok (.iushr, 1) := by decide +kernel
theorem dJ6_numberOfTrailingZeros_0f7a4_48 : decode cJ6_numberOfTrailingZeros_0f7a4 48 = .ok (.istore_n 0, 1) := by decide +kernel
theorem dJ6_numberOfTrailingZeros_0f7a4_49 : decode cJ6_numberOfTrailingZeros_0f7a4 49 = .ok (.iload_n 0, 1) := by decide +kernel
theorem dJ6_numberOfTrailingZeros_0f7a4_50 : decode cJ6_numberOfTrailingZeros_0f7a4 50 = .ok (.bipush 16, 2) := by decide +kernel
theorem dJ6_numberOfTrailingZeros_0f7a4_52 : decode cJ6_numberOfTrailingZeros_0f7a4 52 = .ok (.if_icmp .le 10, 3) := by decide +kernel
theorem dJ6_numberOfTrailingZeros_0f7a4_55 : decode cJ6_numberOfTrailingZeros_0f7a4 55 = .ok (.iinc 1 4, 3) := by decide +kernel
theorem dJ6_numberOfTrailingZeros_0f7a4_58 : decode cJ6_numberOfTrailingZeros_0f7a4 58 = .ok (.iload_n 0, 1) := by decide +kernel
theorem dJ6_numberOfTrailingZeros_0f7a4_59 : decode cJ6_numberOfTrailingZeros_0f7a4 59 = .ok (.iconst 4, 1) := by decide +kernel
theorem dJ6_numberOfTrailingZeros_0f7a4_60 : decode cJ6_numberOfTrailingZeros_0f7a4 60 = .ok (.iushr, 1) := by decide +kernel
theorem dJ6_numberOfTrailingZeros_0f7a4_61 : decode cJ6_numberOfTrailingZeros_0f7a4 61 = .ok (.istore_n 0, 1) := by decide +kernel
theorem dJ6_numberOfTrailingZeros_0f7a4_62 : decode cJ6_numberOfTrailingZeros_0f7a4 62 = .ok (.iload_n 0, 1) := by decide +kernel
theorem dJ6_numberOfTrailingZeros_0f7a4_63 : decode cJ6_numberOfTrailingZeros_0f7a4 63 = .ok (.iconst 4, 1) := by decide +kernel
theorem dJ6_numberOfTrailingZeros_0f7a4_64 : decode cJ6_numberOfTrailingZeros_0f7a4 64 = .ok (.if_icmp .le 10, 3) := by decide +kernel
theorem dJ6_numberOfTrailingZeros_0f7a4_67 : decode cJ6_numberOfTrailingZeros_0f7a4 67 = .ok (.iinc 1 2, 3) := by decide +kernel
theorem dJ6_numberOfTrailingZeros_0f7a4_70 : decode cJ6_numberOfTrailingZeros_0f7a4 70 = .ok (.iload_n 0, 1) := by decide +kernel
theorem dJ6_numberOfTrailingZeros_0f7a4_71 : decode cJ6_numberOfTrailingZeros_0f7a4 71 = .ok (.iconst 2, 1) := by decide +kernel
theorem dJ6_numberOfTrailingZeros_0f7a4_72 : decode cJ6_numberOfTrailingZeros_0f7a4 72 = .ok (.iushr, 1) := by decide +kernel
theorem dJ6_numberOfTrailingZeros_0f7a4_73 : decode cJ6_numberOfTrailingZeros_0f7a4 73 = .ok (.istore_n 0, 1) := by decide +kernel
theorem dJ6_numberOfTrailingZeros_0f7a4_74 : decode cJ6_numberOfTrailingZeros_0f7a4 74 = .ok (.iload_n 1, 1) := by decide +kernel
theorem dJ6_numberOfTrailingZeros_0f7a4_75 : decode cJ6_numberOfTrailingZeros_0f7a4 75 = .ok (.iload_n 0, 1) := by decide +kernel
theorem dJ6_numberOfTrailingZeros_0f7a4_76 : decode cJ6_numberOfTrailingZeros_0f7a4 76 = .ok (.iconst 1, 1) := by decide +kernel
theorem dJ6_numberOfTrailingZeros_0f7a4_77 : decode cJ6_numberOfTrailingZeros_0f7a4 77 = .ok (.iushr, 1) := by decide +kernel
theorem dJ6_numberOfTrailingZeros_0f7a4_78 : decode cJ6_numberOfTrailingZeros_0f7a4 78 = .ok (.iadd, 1) := by decide +kernel
theorem dJ6_numberOfTrailingZeros_0f7a4_79 : decode cJ6_numberOfTrailingZeros_0f7a4 79 = .ok (.ireturn, 1) := by decide +kernel
theorem dJ6_bitCount_0f7a4_0 : decode cJ6_bitCount_0f7a4 0 = .ok (.iload_n 0, 1) := by decide +kernel
theorem dJ6_bitCount_0f7a4_1 : decode cJ6_bitCount_0f7a4 1 = .ok (.iload_n 0, 1) := by decide +kernel
theorem dJ6_bitCount_0f7a4_2 : decode cJ6_bitCount_0f7a4 2 = .ok (.iconst 1, 1) := by decide +kernel
theorem dJ6_bitCount_0f7a4_3 : decode cJ6_bitCount_0f7a4 3 = .ok (.iushr, 1) := by decide +kernel
theorem dJ6_bitCount_0f7a4_4 : decode cJ6_bitCount_0f7a4 4 = .ok (.ldc_w 265, 3) := by decide +kernel
theorem dJ6_bitCount_0f7a4_7 : decode cJ6_bitCount_0f7a4 7 = .ok (.iand, 1) := by decide +kernel
theorem dJ6_bitCount_0f7a4_8 : decode cJ6_bitCount_0f7a4 8 = .ok (.isub, 1) := by decide +kernel
theorem dJ6_bitCount_0f7a4_9 : decode cJ6_bitCount_0f7a4 9 = .ok (.istore_n 0, 1) := by decide +kernel
theorem dJ6_bitCount_0f7a4_10 : decode cJ6_bitCount_0f7a4 10 = .ok (.iload_n 0, 1) := by decide +kernel
theorem dJ6_bitCount_0f7a4_11 : decode cJ6_bitCount_0f7a4 11 = .ok (.ldc_w 266, 3) := by decide +kernel
theorem dJ6_bitCount_0f7a4_14 : decode cJ6_bitCount_0f7a4 14 = .ok (.iand, 1) := by decide +kernel
theorem dJ6_bitCount_0f7a4_15 : decode cJ6_bitCount_0f7a4 15 = .ok (.iload_n 0, 1) := by decide +kernel
theorem dJ6_bitCount_0f7a4_16 : decode cJ6_bitCount_0f7a4 16 = .ok (.iconst 2, 1) := by decide +kernel
theorem dJ6_bitCount_0f7a4_17 : decode cJ6_bitCount_0f7a4 17 = .ok (.iushr, 1) := by decide +kernel
theorem dJ6_bitCount_0f7a4_18 : decode cJ6_bitCount_0f7a4 18 = .ok (.ldc_w 266, 3) := by decide +kernel
theorem dJ6_bitCount_0f7a4_21 : decode cJ6_bitCount_0f7a4 21 = .ok (.iand, 1) := by decide +kernel
theorem dJ6_bitCount_0f7a4_22 : decode cJ6_bitCount_0f7a4 22 = .ok (.iadd, 1) := by decide +kernel
theorem dJ6_bitCount_0f7a4_23 : decode cJ6_bitCount_0f7a4 23 = .ok (.istore_n 0, 1) := by decide +kernel
theorem dJ6_bitCount_0f7a4_24 : decode cJ6_bitCount_0f7a4 24 = .ok (.iload_n 0, 1) := by decide +kernel
theorem dJ6_bitCount_0f7a4_25 : decode cJ6_bitCount_0f7a4 25 = .ok (.iload_n 0, 1) := by decide +kernel
theorem dJ6_bitCount_0f7a4_26 : decode cJ6_bitCount_0f7a4 26 = .ok (.iconst 4, 1) := by decide +kernel
theorem dJ6_bitCount_0f7a4_27 : decode cJ6_bitCount_0f7a4 27 = .ok (.iushr, 1) := by decide +kernel
theorem dJ6_bitCount_0f7a4_28 : decode cJ6_bitCount_0f7a4 28 = .ok (.iadd, 1) := by decide +kernel
theorem dJ6_bitCount_0f7a4_29 : decode cJ6_bitCount_0f7a4 29 = .ok (.ldc_w 267, 3) := by decide +kernel
theorem dJ6_bitCount_0f7a4_32 : decode cJ6_bitCount_0f7a4 32 = .ok (.iand, 1) := by decide +kernel
theorem dJ6_bitCount_0f7a4_33 : decode cJ6_bitCount_0f7a4 33 = .ok (.istore_n 0, 1) := by decide +kernel
theorem dJ6_bitCount_0f7a4_34 : decode cJ6_bitCount_0f7a4 34 = .ok (.iload_n 0, 1) := by decide +kernel
theorem dJ6_bitCount_0f7a4_35 : decode cJ6_bitCount_0f7a4 35 = .ok (.iload_n 0, 1) := by decide +kernel
theorem dJ6_bitCount_0f7a4_36 : decode cJ6_bitCount_0f7a4 36 = .ok (.bipush 8, 2) := by decide +kernel
theorem dJ6_bitCount_0f7a4_38 : decode cJ6_bitCount_0f7a4 38 = .ok (.iushr, 1) := by decide +kernel
theorem dJ6_bitCount_0f7a4_39 : decode cJ6_bitCount_0f7a4 39 = .ok (.iadd, 1) := by decide +kernel
theorem dJ6_bitCount_0f7a4_40 : decode cJ6_bitCount_0f7a4 40 = .ok (.istore_n 0, 1) := by decide +kernel
theorem dJ6_bitCount_0f7a4_41 : decode cJ6_bitCount_0f7a4 41 = .ok (.iload_n 0, 1) := by decide +kernel
theorem dJ6_bitCount_0f7a4_42 : decode cJ6_bitCount_0f7a4 42 = .ok (.iload_n 0, 1) := by decide +kernel
theorem dJ6_bitCount_0f7a4_43 : decode cJ6_bitCount_0f7a4 43 = .ok (.bipush 16, 2) := by decide +kernel
theorem dJ6_bitCount_0f7a4_45 : decode cJ6_bitCount_0f7a4 45 = .ok (.iushr, 1) := by decide +kernel
theorem dJ6_bitCount_0f7a4_46 : decode cJ6_bitCount_0f7a4 46 = .ok (.iadd, 1) := by decide +kernel
theorem dJ6_bitCount_0f7a4_47 : decode cJ6_bitCount_0f7a4 47 = .ok (.istore_n 0, 1) := by decide +kernel
theorem dJ6_bitCount_0f7a4_48 : decode cJ6_bitCount_0f7a4 48 = .ok (.iload_n 0, 1) := by decide +kernel
theorem dJ6_bitCount_0f7a4_49 : decode cJ6_bitCount_0f7a4 49 = .ok (.bipush 63, 2) := by decide +kernel
theorem dJ6_bitCount_0f7a4_51 : decode cJ6_bitCount_0f7a4 51 = .ok (.iand, 1) := by decide +kernel
theorem dJ6_bitCount_0f7a4_52 : decode cJ6_bitCount_0f7a4 52 = .ok (.ireturn, 1) := by decide +kernel
theorem dJ9_floorMod_7cf53_0 : decode cJ9_floorMod_7cf53 0 = .ok (.iload_n 0, 1) := by decide +kernel
theorem dJ9_floorMod_7cf53_1 : decode cJ9_floorMod_7cf53 1 = .ok (.iload_n 1, 1) := by decide +kernel
theorem dJ9_floorMod_7cf53_2 : decode cJ9_floorMod_7cf53 2 = .ok (.irem, 1) := by decide +kernel
theorem dJ9_floorMod_7cf53_3 : decode cJ9_floorMod_7cf53 3 = .ok (.istore_n 2, 1) := by decide +kernel
theorem dJ9_floorMod_7cf53_4 : decode cJ9_floorMod_7cf53 4 = .ok (.iload_n 0, 1) := by decide +kernel
theorem dJ9_floorMod_7cf53_5 : decode cJ9_floorMod_7cf53 5 = .ok (.iload_n 1, 1) := by decide +kernel
theorem dJ9_floorMod_7cf53_6 : decode cJ9_floorMod_7cf53 6 = .ok (.ixor, 1) := by decide +kernel
theorem dJ9_floorMod_7cf53_7 : decode cJ9_floorMod_7cf53 7 = .ok (.ifCond .ge 11, 3) := by decide +kernel
theorem dJ9_floorMod_7cf53_10 : decode cJ9_floorMod_7cf53 10 = .ok (.iload_n 2, 1) := by decide +kernel
theorem dJ9_floorMod_7cf53_11 : decode cJ9_floorMod_7cf53 11 = .ok (.ifCond .eq 7, 3) := by decide +kernel
theorem dJ9_floorMod_7cf53_14 : decode cJ9_floorMod_7cf53 14 = .ok (.iload_n 2, 1) := by decide +kernel
theorem dJ9_floorMod_7cf53_15 : decode cJ9_floorMod_7cf53 15 = .ok (.iload_n 1, 1) := by decide +kernel
theorem dJ9_floorMod_7cf53_16 : decode cJ9_floorMod_7cf53 16 = .ok (.iadd, 1) := by decide +kernel
theorem dJ9_floorMod_7cf53_17 : decode cJ9_floorMod_7cf53 17 = .ok (.ireturn, 1) := by decide +kernel
theorem dJ9_floorMod_7cf53_18 : decode cJ9_floorMod_7cf53 18 = .ok (.iload_n 2, 1) := by decide +kernel
theorem dJ9_floorMod_7cf53_19 : decode cJ9_floorMod_7cf53 19 = .ok (.ireturn, 1) := by decide +kernel
theorem dJ9_min_7cf53_0 : decode cJ9_min_7cf53 0 = .ok (.iload_n 0, 1) := by decide +kernel
theorem dJ9_min_7cf53_1 : decode cJ9_min_7cf53 1 = .ok (.iload_n 1, 1) := by decide +kernel
theorem dJ9_min_7cf53_2 : decode cJ9_min_7cf53 2 = .ok (.if_icmp .gt 7, 3) := by decide +kernel
theorem dJ9_min_7cf53_5 : decode cJ9_min_7cf53 5 = .ok (.iload_n 0, 1) := by decide +kernel
theorem dJ9_min_7cf53_6 : decode cJ9_min_7cf53 6 = .ok (.goto 4, 3) := by decide +kernel
theorem dJ9_min_7cf53_9 : decode cJ9_min_7cf53 9 = .ok (.iload_n 1, 1) := by decide +kernel
theorem dJ9_min_7cf53_10 : decode cJ9_min_7cf53 10 = .ok (.ireturn, 1) := by decide +kernel
theorem dJ0_length_8abf5_0 : decode cJ0_length_8abf5 0 = .ok (.aload_n 0, 1) := by decide +kernel
theorem dJ0_length_8abf5_1 : decode cJ0_length_8abf5 1 = .ok (.getfield 9, 3) := by decide +kernel
theorem dJ0_length_8abf5_4 : decode cJ0_length_8abf5 4 = .ok (.arraylength, 1) := by decide +kernel
theorem dJ0_length_8abf5_5 : decode cJ0_length_8abf5 5 = .ok (.aload_n 0, 1) := by decide +kernel
theorem dJ0_length_8abf5_6 : decode cJ0_length_8abf5 6 = .ok (.invokevirtual 335, 3) := by decide +kernel
theorem dJ0_length_8abf5_9 : decode cJ0_length_8abf5 9 = .ok (.ishr, 1) := by decide +kernel
theorem dJ0_length_8abf5_10 : decode cJ0_length_8abf5 10 = .ok (.ireturn, 1) := by decide +kernel
theorem dJ0_charAt_5068e_0 : decode cJ0_charAt_5068e 0 = .ok (.aload_n 0, 1) := by decide +kernel
theorem dJ0_charAt_5068e_1 : decode cJ0_charAt_5068e 1 = .ok (.invokevirtual 492, 3) := by decide +kernel
theorem dJ0_charAt_5068e_4 : decode cJ0_charAt_5068e 4 = .ok (.ifCond .eq 12, 3) := by decide +kernel
theorem dJ0_charAt_5068e_7 : decode cJ0_charAt_5068e 7 = .ok (.aload_n 0, 1) := by decide +kernel
theorem dJ0_charAt_5068e_8 : decode cJ0_charAt_5068e 8 = .ok (.getfield 9, 3) := by decide +kernel
theorem dJ0_charAt_5068e_11 : decode cJ0_charAt_5068e 11 = .ok (.iload_n 1, 1) := by decide +kernel
theorem dJ0_charAt_5068e_12 : decode cJ0_charAt_5068e 12 = .ok (.invokestatic 495, 3) := by decide +kernel
theorem dJ0_charAt_5068e_15 : decode cJ0_charAt_5068e 15 = .ok (.ireturn, 1) := by decide +kernel
theorem dJ0_charAt_5068e_16 : decode cJ0_charAt_5068e 16 = .ok (.aload_n 0, 1) := by decide +kernel
theorem dJ0_charAt_5068e_17 : decode cJ0_charAt_5068e 17 = .ok (.getfield 9, 3) := by decide +kernel
theorem dJ0_charAt_5068e_20 : decode cJ0_charAt_5068e 20 = .ok (.iload_n 1, 1) := by decide +kernel
theorem dJ0_charAt_5068e_21 : decode cJ0_charAt_5068e 21 = .ok (.invokestatic 498, 3) := by decide +kernel
theorem dJ0_charAt_5068e_24 : decode cJ0_charAt_5068e 24 = .ok (.ireturn, 1) := by decide +kernel
theorem dJ0_coder_7d493_0 : decode cJ0_coder_7d493 0 = .ok (.getstatic 38, 3) := by decide +kernel
theorem dJ0_coder_7d493_3 : decode cJ0_coder_7d493 3 = .ok (.ifCond .eq 10, 3) := by decide +kernel
theorem dJ0_coder_7d493_6 : decode cJ0_coder_7d493 6 = .ok (.aload_n 0, 1) := by decide +kernel
theorem dJ0_coder_7d493_7 : decode cJ0_coder_7d493 7 = .ok (.getfield 15, 3) := by decide +kernel
theorem dJ0_coder_7d493_10 : decode cJ0_coder_7d493 10 = .ok (.goto 4, 3) := by decide +kernel
theorem dJ0_coder_7d493_13 : decode cJ0_coder_7d493 13 = .ok (.iconst 1, 1) := by decide +kernel
theorem dJ0_coder_7d493_14 : decode cJ0_coder_7d493 14 = .ok (.ireturn, 1) := by decide +kernel
theorem dJ0_isLatin1_aae02_0 : decode cJ0_isLatin1_aae02 0 = .ok (.getstatic 38, 3) := by decide +kernel
theorem dJ0_isLatin1_aae02_3 : decode cJ0_isLatin1_aae02 3 = .ok (.ifCond .eq 14, 3) := by decide +kernel
theorem dJ0_isLatin1_aae02_6 : decode cJ0_isLatin1_aae02 6 = .ok (.aload_n 0, 1) := by decide +kernel
theorem dJ0_isLatin1_aae02_7 : decode cJ0_isLatin1_aae02 7 = .ok (.getfield 15, 3) := by decide +kernel
theorem dJ0_isLatin1_aae02_10 : decode cJ0_isLatin1_aae02 10 = .ok (.ifCond .ne 7, 3) := by decide +kernel
theorem dJ0_isLatin1_aae02_13 : decode cJ0_isLatin1_aae02 13 = .ok (.iconst 1, 1) := by decide +kernel
theorem dJ0_isLatin1_aae02_14 : decode cJ0_isLatin1_aae02 14 = .ok (.goto 4, 3) := by decide +kernel
theorem dJ0_isLatin1_aae02_17 : decode cJ0_isLatin1_aae02 17 = .ok (.iconst 0, 1) := by decide +kernel
theorem dJ0_isLatin1_aae02_18 : decode cJ0_isLatin1_aae02 18 = .ok (.ireturn, 1) := by decide +kernel
theorem dJ0_checkIndex_df160_0 : decode cJ0_checkIndex_df160 0 = .ok (.iload_n 0, 1) := by decide +kernel
theorem dJ0_checkIndex_df160_1 : decode cJ0_checkIndex_df160 1 = .ok (.iload_n 1, 1) := by decide +kernel
theorem dJ0_checkIndex_df160_2 : decode cJ0_checkIndex_df160 2 = .ok (.getstatic 1053, 3) := by decide +kernel
theorem dJ0_checkIndex_df160_5 : decode cJ0_checkIndex_df160 5 = .ok (.invokestatic 1059, 3) := by decide +kernel
theorem dJ0_checkIndex_df160_8 : decode cJ0_checkIndex_df160 8 = .ok (.pop, 1) := by decide +kernel
theorem dJ0_checkIndex_df160_9 : decode cJ0_checkIndex_df160 9 = .ok (.return_, 1) := by decide +kernel
theorem dJ1_charAt_3b067_0 : decode cJ1_charAt_3b067 0 = .ok (.iload_n 1, 1) := by decide +kernel
theorem dJ1_charAt_3b067_1 : decode cJ1_charAt_3b067 1 = .ok (.aload_n 0, 1) := by decide +kernel
theorem dJ1_charAt_3b067_2 : decode cJ1_charAt_3b067 2 = .ok (.arraylength, 1) := by decide +kernel
theorem dJ1_charAt_3b067_3 : decode cJ1_charAt_3b067 3 = .ok (.invokestatic 9, 3) := by decide +kernel
theorem dJ1_charAt_3b067_6 : decode cJ1_charAt_3b067 6 = .ok (.aload_n 0, 1) := by decide +kernel
theorem dJ1_charAt_3b067_7 : decode cJ1_charAt_3b067 7 = .ok (.iload_n 1, 1) := by decide +kernel
theorem dJ1_charAt_3b067_8 : decode cJ1_charAt_3b067 8 = .ok (.baload, 1) := by decide +kernel
theorem dJ1_charAt_3b067_9 : decode cJ1_charAt_3b067 9 = .ok (.sipush 255, 3) := by decide +kernel
theorem dJ1_charAt_3b067_12 : decode cJ1_charAt_3b067 12 = .ok (.iand, 1) := by decide +kernel
theorem dJ1_charAt_3b067_13 : decode cJ1_charAt_3b067 13 = .ok (.i2c, 1) := by decide +kernel
theorem dJ1_charAt_3b067_14 : decode cJ1_charAt_3b067 14 = .ok (.ireturn, 1) := by decide +kernel
theorem dJ2_getChar_3b067_0 : decode cJ2_getChar_3b067 0 = .ok (.getstatic 44, 3) := by decide +kernel
theorem dJ2_getChar_3b067_3 : decode cJ2_getChar_3b067 3 = .ok (.ifCond .ne 25, 3) := by decide +kernel
theorem dJ2_getChar_3b067_6 : decode cJ2_getChar_3b067 6 = .ok (.iload_n 1, 1) := by decide +kernel
theorem dJ2_getChar_3b067_7 : decode cJ2_getChar_3b067 7 = .ok (.ifCond .lt 11, 3) := by decide +kernel
theorem dJ2_getChar_3b067_10 : decode cJ2_getChar_3b067 10 = .ok (.iload_n 1, 1) := by decide +kernel
theorem dJ2_getChar_3b067_11 : decode cJ2_getChar_3b067 11 = .ok (.aload_n 0, 1) := by decide +kernel
theorem dJ2_getChar_3b067_12 : decode cJ2_getChar_3b067 12 = .ok (.invokestatic 48, 3) := by decide +kernel
theorem dJ2_getChar_3b067_15 : decode cJ2_getChar_3b067 15 = .ok (.if_icmp .lt 13, 3) := by decide +kernel
theorem dJ2_getChar_3b067_18 : decode cJ2_getChar_3b067 18 = .ok (.new 52, 3) := by decide +kernel
theorem dJ2_getChar_3b067_21 : decode cJ2_getChar_3b067 21 = .ok (.dup, 1) := by decide +kernel
theorem dJ2_getChar_3b067_22 : decode cJ2_getChar_3b067 22 = .ok (.ldc 54, 2) := by decide +kernel
theorem dJ2_getChar_3b067_24 : decode cJ2_getChar_3b067 24 = .ok (.invokespecial 56, 3) := by decide +kernel
theorem dJ2_getChar_3b067_27 : decode cJ2_getChar_3b067 27 = .ok (.athrow, 1) := by decide +kernel
theorem dJ2_getChar_3b067_28 : decode cJ2_getChar_3b067 28 = .ok (.iload_n 1, 1) := by decide +kernel
theorem dJ2_getChar_3b067_29 : decode cJ2_getChar_3b067 29 = .ok (.iconst 1, 1) := by decide +kernel
theorem dJ2_getChar_3b067_30 : decode cJ2_getChar_3b067 30 = .ok (.ishl, 1) := by decide +kernel
theorem dJ2_getChar_3b067_31 : decode cJ2_getChar_3b067 31 = .ok (.istore_n 1, 1) := by decide +kernel
theorem dJ2_getChar_3b067_32 : decode cJ2_getChar_3b067 32 = .ok (.aload_n 0, 1) := by decide +kernel
theorem dJ2_getChar_3b067_33 : decode cJ2_getChar_3b067 33 = .ok (.iload_n 1, 1) := by decide +kernel
theorem dJ2_getChar_3b067_34 : decode cJ2_getChar_3b067 34 = .ok (.iinc 1 1, 3) := by decide +kernel
theorem dJ2_getChar_3b067_37 : decode cJ2_getChar_3b067 37 = .ok (.baload, 1) := by decide +kernel
theorem dJ2_getChar_3b067_38 : decode cJ2_getChar_3b067 38 = .ok (.sipush 255, 3) := by decide +kernel
theorem dJ2_getChar_3b067_41 : decode cJ2_getChar_3b067 41 = .ok (.iand, 1) := by decide +kernel
theorem dJ2_getChar_3b067_42 : decode cJ2_getChar_3b067 42 = .ok (.getstatic 59, 3) := by decide +kernel
theorem dJ2_getChar_3b067_45 : decode cJ2_getChar_3b067 45 = .ok (.ishl, 1) := by decide +kernel
theorem dJ2_getChar_3b067_46 : decode cJ2_getChar_3b067 46 = .ok (.aload_n 0, 1) := by decide +kernel
theorem dJ2_getChar_3b067_47 : decode cJ2_getChar_3b067 47 = .ok (.iload_n 1, 1) := by decide +kernel
theorem dJ2_getChar_3b067_48 : decode cJ2_getChar_3b067 48 = .ok (.baload, 1) := by decide +kernel
theorem dJ2_getChar_3b067_49 : decode cJ2_getChar_3b067 49 = .ok (.sipush 255, 3) := by decide +kernel
theorem dJ2_getChar_3b067_52 : decode cJ2_getChar_3b067 52 = .ok (.iand, 1) := by decide +kernel
theorem dJ2_getChar_3b067_53 : decode cJ2_getChar_3b067 53 = .ok (.getstatic 63, 3) := by decide +kernel
theorem dJ2_getChar_3b067_56 : decode cJ2_getChar_3b067 56 = .ok (.ishl, 1) := by decide +kernel
theorem dJ2_getChar_3b067_57 : decode cJ2_getChar_3b067 57 = .ok (.ior, 1) := by decide +kernel
theorem dJ2_getChar_3b067_58 : decode cJ2_getChar_3b067 58 = .ok (.i2c, 1) := by decide +kernel
theorem dJ2_getChar_3b067_59 : decode cJ2_getChar_3b067 59 = .ok (.ireturn, 1) := by decide +kernel
theorem dJ2_length_9d52b_0 : decode cJ2_length_9d52b 0 = .ok (.aload_n 0, 1) := by decide +kernel
theorem dJ2_length_9d52b_1 : decode cJ2_length_9d52b 1 = .ok (.arraylength, 1) := by decide +kernel
theorem dJ2_length_9d52b_2 : decode cJ2_length_9d52b 2 = .ok (.iconst 1, 1) := by decide +kernel
theorem dJ2_length_9d52b_3 : decode cJ2_length_9d52b 3 = .ok (.ishr, 1) := by decide +kernel
theorem dJ2_length_9d52b_4 : decode cJ2_length_9d52b 4 = .ok (.ireturn, 1) := by decide +kernel
theorem dJ2_charAt_3b067_0 : decode cJ2_charAt_3b067 0 = .ok (.iload_n 1, 1) := by decide +kernel
theorem dJ2_charAt_3b067_1 : decode cJ2_charAt_3b067 1 = .ok (.aload_n 0, 1) := by decide +kernel
theorem dJ2_charAt_3b067_2 : decode cJ2_charAt_3b067 2 = .ok (.invokestatic 67, 3) := by decide +kernel
theorem dJ2_charAt_3b067_5 : decode cJ2_charAt_3b067 5 = .ok (.aload_n 0, 1) := by decide +kernel
theorem dJ2_charAt_3b067_6 : decode cJ2_charAt_3b067 6 = .ok (.iload_n 1, 1) := by decide +kernel
theorem dJ2_charAt_3b067_7 : decode cJ2_charAt_3b067 7 = .ok (.invokestatic 71, 3) := by decide +kernel
theorem dJ2_charAt_3b067_10 : decode cJ2_charAt_3b067 10 = .ok (.ireturn, 1) := by decide +kernel
theorem dJ2_checkIndex_2214a_0 : decode cJ2_checkIndex_2214a 0 = .ok (.iload_n 0, 1) := by decide +kernel
theorem dJ2_checkIndex_2214a_1 : decode cJ2_checkIndex_2214a 1 = .ok (.aload_n 1, 1) := by decide +kernel
theorem dJ2_checkIndex_2214a_2 : decode cJ2_checkIndex_2214a 2 = .ok (.invokestatic 48, 3) := by decide +kernel
theorem dJ2_checkIndex_2214a_5 : decode cJ2_checkIndex_2214a 5 = .ok (.invokestatic 414, 3) := by decide +kernel
theorem dJ2_checkIndex_2214a_8 : decode cJ2_checkIndex_2214a 8 = .ok (.return_, 1) := by decide +kernel
theorem dJ3_checkIndex_8e157_0 : decode cJ3_checkIndex_8e157 0 = .ok (.iload_n 0, 1) := by decide +kernel
theorem dJ3_checkIndex_8e157_1 : decode cJ3_checkIndex_8e157 1 = .ok (.ifCond .lt 8, 3) := by decide +kernel
theorem dJ3_checkIndex_8e157_4 : decode cJ3_checkIndex_8e157 4 = .ok (.iload_n 0, 1) := by decide +kernel
theorem dJ3_checkIndex_8e157_5 : decode cJ3_checkIndex_8e157 5 = .ok (.iload_n 1, 1) := by decide +kernel
theorem dJ3_checkIndex_8e157_6 : decode cJ3_checkIndex_8e157 6 = .ok (.if_icmp .lt 10, 3) := by decide +kernel
theorem dJ3_checkIndex_8e157_9 : decode cJ3_checkIndex_8e157 9 = .ok (.aload_n 2, 1) := by decide +kernel
theorem dJ3_checkIndex_8e157_10 : decode cJ3_checkIndex_8e157 10 = .ok (.iload_n 0, 1) := by decide +kernel
theorem dJ3_checkIndex_8e157_11 : decode cJ3_checkIndex_8e157 11 = .ok (.iload_n 1, 1) := by decide +kernel
theorem dJ3_checkIndex_8e157_12 : decode cJ3_checkIndex_8e157 12 = .ok (.invokestatic 95, 3) := by decide +kernel
theorem dJ3_checkIndex_8e157_15 : decode cJ3_checkIndex_8e157 15 = .ok (.athrow, 1) := by decide +kernel
theorem dJ3_checkIndex_8e157_16 : decode cJ3_checkIndex_8e157 16 = .ok (.iload_n 0, 1) := by decide +kernel
theorem dJ3_checkIndex_8e157_17 : decode cJ3_checkIndex_8e157 17 = .ok (.ireturn, 1) := by decide +kernel
