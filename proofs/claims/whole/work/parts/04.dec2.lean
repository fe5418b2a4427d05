theorem dX7_init_0 : decode cX7_init 0 = .ok (.aload_n 0, 1) := by decide +kernel
theorem dX7_init_1 : decode cX7_init 1 = .ok (.invokespecial 3, 3) := by decide +kernel
theorem dX7_init_4 : decode cX7_init 4 = .ok (.aload_n 0, 1) := by decide +kernel
theorem dX7_init_5 : decode cX7_init 5 = .ok (.new 9, 3) := by decide +kernel
theorem dX7_init_8 : decode cX7_init 8 = .ok (.dup, 1) := by decide +kernel
theorem dX7_init_9 : decode cX7_init 9 = .ok (.invokespecial 11, 3) := by decide +kernel
theorem dX7_init_12 : decode cX7_init 12 = .ok (.putfield 12, 3) := by decide +kernel
theorem dX7_init_15 : decode cX7_init 15 = .ok (.aload_n 0, 1) := by decide +kernel
theorem dX7_init_16 : decode cX7_init 16 = .ok (.new 9, 3) := by decide +kernel
theorem dX7_init_19 : decode cX7_init 19 = .ok (.dup, 1) := by decide +kernel
theorem dX7_init_20 : decode cX7_init 20 = .ok (.invokespecial 11, 3) := by decide +kernel
theorem dX7_init_23 : decode cX7_init 23 = .ok (.putfield 16, 3) := by decide +kernel
theorem dX7_init_26 : decode cX7_init 26 = .ok (.aload_n 0, 1) := by decide +kernel
theorem dX7_init_27 : decode cX7_init 27 = .ok (.new 9, 3) := by decide +kernel
theorem dX7_init_30 : decode cX7_init 30 = .ok (.dup, 1) := by decide +kernel
theorem dX7_init_31 : decode cX7_init 31 = .ok (.invokespecial 11, 3) := by decide +kernel
theorem dX7_init_34 : decode cX7_init 34 = .ok (.putfield 19, 3) := by decide +kernel
theorem dX7_init_37 : decode cX7_init 37 = .ok (.aload_n 0, 1) := by decide +kernel
theorem dX7_init_38 : decode cX7_init 38 = .ok (.iconst 0, 1) := by decide +kernel
theorem dX7_init_39 : decode cX7_init 39 = .ok (.putfield 22, 3) := by decide +kernel
theorem dX7_init_42 : decode cX7_init 42 = .ok (.aload_n 0, 1) := by decide +kernel
theorem dX7_init_43 : decode cX7_init 43 = .ok (.new 26, 3) := by decide +kernel
theorem dX7_init_46 : decode cX7_init 46 = .ok (.dup, 1) := by decide +kernel
theorem dX7_init_47 : decode cX7_init 47 = .ok (.invokespecial 28, 3) := by decide +kernel
theorem dX7_init_50 : decode cX7_init 50 = .ok (.putfield 29, 3) := by decide +kernel
theorem dX7_init_53 : decode cX7_init 53 = .ok (.aload_n 0, 1) := by decide +kernel
theorem dX7_init_54 : decode cX7_init 54 = .ok (.new 33, 3) := by decide +kernel
theorem dX7_init_57 : decode cX7_init 57 = .ok (.dup, 1) := by decide +kernel
theorem dX7_init_58 : decode cX7_init 58 = .ok (.invokespecial 35, 3) := by decide +kernel
theorem dX7_init_61 : decode cX7_init 61 = .ok (.putfield 36, 3) := by decide +kernel
theorem dX7_init_64 : decode cX7_init 64 = .ok (.aload_n 0, 1) := by decide +kernel
theorem dX7_init_65 : decode cX7_init 65 = .ok (.new 40, 3) := by decide +kernel
theorem dX7_init_68 : decode cX7_init 68 = .ok (.dup, 1) := by decide +kernel
theorem dX7_init_69 : decode cX7_init 69 = .ok (.invokespecial 42, 3) := by decide +kernel
theorem dX7_init_72 : decode cX7_init 72 = .ok (.putfield 43, 3) := by decide +kernel
theorem dX7_init_75 : decode cX7_init 75 = .ok (.aload_n 0, 1) := by decide +kernel
theorem dX7_init_76 : decode cX7_init 76 = .ok (.new 47, 3) := by decide +kernel
theorem dX7_init_79 : decode cX7_init 79 = .ok (.dup, 1) := by decide +kernel
theorem dX7_init_80 : decode cX7_init 80 = .ok (.invokespecial 49, 3) := by decide +kernel
theorem dX7_init_83 : decode cX7_init 83 = .ok (.putfield 50, 3) := by decide +kernel
theorem dX7_init_86 : decode cX7_init 86 = .ok (.aload_n 0, 1) := by decide +kernel
theorem dX7_init_87 : decode cX7_init 87 = .ok (.iconst 4, 1) := by decide +kernel
theorem dX7_init_88 : decode cX7_init 88 = .ok (.anewarray 54, 3) := by decide +kernel
theorem dX7_init_91 : decode cX7_init 91 = .ok (.dup, 1) := by decide +kernel
theorem dX7_init_92 : decode cX7_init 92 = .ok (.iconst 0, 1) := by decide +kernel
theorem dX7_init_93 : decode cX7_init 93 = .ok (.new 54, 3) := by decide +kernel
theorem dX7_init_96 : decode cX7_init 96 = .ok (.dup, 1) := by decide +kernel
theorem dX7_init_97 : decode cX7_init 97 = .ok (.invokespecial 56, 3) := by decide +kernel
theorem dX7_init_100 : decode cX7_init 100 = .ok (.aastore, 1) := by decide +kernel
theorem dX7_init_101 : decode cX7_init 101 = .ok (.dup, 1) := by decide +kernel
theorem dX7_init_102 : decode cX7_init 102 = .ok (.iconst 1, 1) := by decide +kernel
theorem dX7_init_103 : decode cX7_init 103 = .ok (.new 54, 3) := by decide +kernel
theorem dX7_init_106 : decode cX7_init 106 = .ok (.dup, 1) := by decide +kernel
theorem dX7_init_107 : decode cX7_init 107 = .ok (.invokespecial 56, 3) := by decide +kernel
theorem dX7_init_110 : decode cX7_init 110 = .ok (.aastore, 1) := by decide +kernel
theorem dX7_init_111 : decode cX7_init 111 = .ok (.dup, 1) := by decide +kernel
theorem dX7_init_112 : decode cX7_init 112 = .ok (.iconst 2, 1) := by decide +kernel
theorem dX7_init_113 : decode cX7_init 113 = .ok (.new 54, 3) := by decide +kernel
theorem dX7_init_116 : decode cX7_init 116 = .ok (.dup, 1) := by decide +kernel
theorem dX7_init_117 : decode cX7_init 117 = .ok (.invokespecial 56, 3) := by decide +kernel
theorem dX7_init_120 : decode cX7_init 120 = .ok (.aastore, 1) := by decide +kernel
theorem dX7_init_121 : decode cX7_init 121 = .ok (.dup, 1) := by decide +kernel
theorem dX7_init_122 : decode cX7_init 122 = .ok (.iconst 3, 1) := by decide +kernel
theorem dX7_init_123 : decode cX7_init 123 = .ok (.new 54, 3) := by decide +kernel
theorem dX7_init_126 : decode cX7_init 126 = .ok (.dup, 1) := by decide +kernel
theorem dX7_init_127 : decode cX7_init 127 = .ok (.invokespecial 56, 3) := by decide +kernel
theorem dX7_init_130 : decode cX7_init 130 = .ok (.aastore, 1) := by decide +kernel
theorem dX7_init_131 : decode cX7_init 131 = .ok (.putfield 57, 3) := by decide +kernel
theorem dX7_init_134 : decode cX7_init 134 = .ok (.aload_n 0, 1) := by decide +kernel
theorem dX7_init_135 : decode cX7_init 135 = .ok (.bipush 7, 2) := by decide +kernel
theorem dX7_init_137 : decode cX7_init 137 = .ok (.newarray .int, 2) := by decide +kernel
theorem dX7_init_139 : decode cX7_init 139 = .ok (.putfield 61, 3) := by decide +kernel
theorem dX7_init_142 : decode cX7_init 142 = .ok (.return_, 1) := by decide +kernel
theorem dX7_pond_0 : decode cX7_pond 0 = .ok (.iload_n 1, 1) := by decide +kernel
theorem dX7_pond_1 : decode cX7_pond 1 = .ok (.invokestatic 65, 3) := by decide +kernel
theorem dX7_pond_4 : decode cX7_pond 4 = .ok (.ifCond .eq 13, 3) := by decide +kernel
theorem dX7_pond_7 : decode cX7_pond 7 = .ok (.iload_n 2, 1) := by decide +kernel
theorem dX7_pond_8 : decode cX7_pond 8 = .ok (.ifCond .lt 9, 3) := by decide +kernel
theorem dX7_pond_11 : decode cX7_pond 11 = .ok (.iload_n 2, 1) := by decide +kernel
theorem dX7_pond_12 : decode cX7_pond 12 = .ok (.bipush 7, 2) := by decide +kernel
theorem dX7_pond_14 : decode cX7_pond 14 = .ok (.if_icmp .le 10, 3) := by decide +kernel
theorem dX7_pond_17 : decode cX7_pond 17 = .ok (.aload_n 0, 1) := by decide +kernel
theorem dX7_pond_18 : decode cX7_pond 18 = .ok (.ldc 69, 2) := by decide +kernel
theorem dX7_pond_20 : decode cX7_pond 20 = .ok (.invokevirtual 70, 3) := by decide +kernel
theorem dX7_pond_23 : decode cX7_pond 23 = .ok (.ireturn, 1) := by decide +kernel
theorem dX7_pond_24 : decode cX7_pond 24 = .ok (.iload_n 2, 1) := by decide +kernel
theorem dX7_pond_25 : decode cX7_pond 25 = .ok (.bipush 6, 2) := by decide +kernel
theorem dX7_pond_27 : decode cX7_pond 27 = .ok (.if_icmp .ne 12, 3) := by decide +kernel
theorem dX7_pond_30 : decode cX7_pond 30 = .ok (.aload_n 0, 1) := by decide +kernel
theorem dX7_pond_31 : decode cX7_pond 31 = .ok (.getfield 12, 3) := by decide +kernel
theorem dX7_pond_34 : decode cX7_pond 34 = .ok (.iload_n 1, 1) := by decide +kernel
theorem dX7_pond_35 : decode cX7_pond 35 = .ok (.invokevirtual 74, 3) := by decide +kernel
theorem dX7_pond_38 : decode cX7_pond 38 = .ok (.ireturn, 1) := by decide +kernel
theorem dX7_pond_39 : decode cX7_pond 39 = .ok (.iload_n 2, 1) := by decide +kernel
theorem dX7_pond_40 : decode cX7_pond 40 = .ok (.bipush 7, 2) := by decide +kernel
theorem dX7_pond_42 : decode cX7_pond 42 = .ok (.if_icmp .ne 12, 3) := by decide +kernel
theorem dX7_pond_45 : decode cX7_pond 45 = .ok (.aload_n 0, 1) := by decide +kernel
theorem dX7_pond_46 : decode cX7_pond 46 = .ok (.getfield 12, 3) := by decide +kernel
theorem dX7_pond_49 : decode cX7_pond 49 = .ok (.iload_n 1, 1) := by decide +kernel
theorem dX7_pond_50 : decode cX7_pond 50 = .ok (.invokevirtual 77, 3) := by decide +kernel
theorem dX7_pond_53 : decode cX7_pond 53 = .ok (.ireturn, 1) := by decide +kernel
theorem dX7_pond_54 : decode cX7_pond 54 = .ok (.aload_n 0, 1) := by decide +kernel
theorem dX7_pond_55 : decode cX7_pond 55 = .ok (.getfield 12, 3) := by decide +kernel
theorem dX7_pond_58 : decode cX7_pond 58 = .ok (.getfield 80, 3) := by decide +kernel
theorem dX7_pond_61 : decode cX7_pond 61 = .ok (.iload_n 2, 1) := by decide +kernel
theorem dX7_pond_62 : decode cX7_pond 62 = .ok (.aaload, 1) := by decide +kernel
theorem dX7_pond_63 : decode cX7_pond 63 = .ok (.iload_n 1, 1) := by decide +kernel
theorem dX7_pond_64 : decode cX7_pond 64 = .ok (.iaload, 1) := by decide +kernel
theorem dX7_pond_65 : decode cX7_pond 65 = .ok (.ireturn, 1) := by decide +kernel
theorem dX7_dig_0 : decode cX7_dig 0 = .ok (.iload_n 1, 1) := by decide +kernel
theorem dX7_dig_1 : decode cX7_dig 1 = .ok (.invokestatic 65, 3) := by decide +kernel
theorem dX7_dig_4 : decode cX7_dig 4 = .ok (.ifCond .eq 12, 3) := by decide +kernel
theorem dX7_dig_7 : decode cX7_dig 7 = .ok (.iload_n 1, 1) := by decide +kernel
theorem dX7_dig_8 : decode cX7_dig 8 = .ok (.iload_n 2, 1) := by decide +kernel
theorem dX7_dig_9 : decode cX7_dig 9 = .ok (.iload_n 3, 1) := by decide +kernel
theorem dX7_dig_10 : decode cX7_dig 10 = .ok (.invokestatic 84, 3) := by decide +kernel
theorem dX7_dig_13 : decode cX7_dig 13 = .ok (.ifCond .ne 10, 3) := by decide +kernel
theorem dX7_dig_16 : decode cX7_dig 16 = .ok (.aload_n 0, 1) := by decide +kernel
theorem dX7_dig_17 : decode cX7_dig 17 = .ok (.ldc 69, 2) := by decide +kernel
theorem dX7_dig_19 : decode cX7_dig 19 = .ok (.invokevirtual 70, 3) := by decide +kernel
theorem dX7_dig_22 : decode cX7_dig 22 = .ok (.ireturn, 1) := by decide +kernel
theorem dX7_dig_23 : decode cX7_dig 23 = .ok (.aload_n 0, 1) := by decide +kernel
theorem dX7_dig_24 : decode cX7_dig 24 = .ok (.getfield 12, 3) := by decide +kernel
theorem dX7_dig_27 : decode cX7_dig 27 = .ok (.getfield 80, 3) := by decide +kernel
theorem dX7_dig_30 : decode cX7_dig 30 = .ok (.iload_n 2, 1) := by decide +kernel
theorem dX7_dig_31 : decode cX7_dig 31 = .ok (.aaload, 1) := by decide +kernel
theorem dX7_dig_32 : decode cX7_dig 32 = .ok (.iload_n 1, 1) := by decide +kernel
theorem dX7_dig_33 : decode cX7_dig 33 = .ok (.iaload, 1) := by decide +kernel
theorem dX7_dig_34 : decode cX7_dig 34 = .ok (.istore 4, 2) := by decide +kernel
theorem dX7_dig_36 : decode cX7_dig 36 = .ok (.aload_n 0, 1) := by decide +kernel
theorem dX7_dig_37 : decode cX7_dig 37 = .ok (.getfield 12, 3) := by decide +kernel
theorem dX7_dig_40 : decode cX7_dig 40 = .ok (.getfield 80, 3) := by decide +kernel
theorem dX7_dig_43 : decode cX7_dig 43 = .ok (.iload_n 2, 1) := by decide +kernel
theorem dX7_dig_44 : decode cX7_dig 44 = .ok (.aaload, 1) := by decide +kernel
theorem dX7_dig_45 : decode cX7_dig 45 = .ok (.iload_n 1, 1) := by decide +kernel
theorem dX7_dig_46 : decode cX7_dig 46 = .ok (.iload_n 3, 1) := by decide +kernel
theorem dX7_dig_47 : decode cX7_dig 47 = .ok (.iastore, 1) := by decide +kernel
theorem dX7_dig_48 : decode cX7_dig 48 = .ok (.iload 4, 2) := by decide +kernel
theorem dX7_dig_50 : decode cX7_dig 50 = .ok (.ireturn, 1) := by decide +kernel
theorem dX7_thing_0 : decode cX7_thing 0 = .ok (.iload_n 1, 1) := by decide +kernel
theorem dX7_thing_1 : decode cX7_thing 1 = .ok (.invokestatic 88, 3) := by decide +kernel
theorem dX7_thing_4 : decode cX7_thing 4 = .ok (.ifCond .eq 10, 3) := by decide +kernel
theorem dX7_thing_7 : decode cX7_thing 7 = .ok (.iload_n 2, 1) := by decide +kernel
theorem dX7_thing_8 : decode cX7_thing 8 = .ok (.invokestatic 65, 3) := by decide +kernel
theorem dX7_thing_11 : decode cX7_thing 11 = .ok (.ifCond .ne 10, 3) := by decide +kernel
theorem dX7_thing_14 : decode cX7_thing 14 = .ok (.aload_n 0, 1) := by decide +kernel
theorem dX7_thing_15 : decode cX7_thing 15 = .ok (.ldc 69, 2) := by decide +kernel
theorem dX7_thing_17 : decode cX7_thing 17 = .ok (.invokevirtual 70, 3) := by decide +kernel
theorem dX7_thing_20 : decode cX7_thing 20 = .ok (.ireturn, 1) := by decide +kernel
theorem dX7_thing_21 : decode cX7_thing 21 = .ok (.aload_n 0, 1) := by decide +kernel
theorem dX7_thing_22 : decode cX7_thing 22 = .ok (.getfield 12, 3) := by decide +kernel
theorem dX7_thing_25 : decode cX7_thing 25 = .ok (.invokevirtual 91, 3) := by decide +kernel
theorem dX7_thing_28 : decode cX7_thing 28 = .ok (.ifCond .eq 10, 3) := by decide +kernel
theorem dX7_thing_31 : decode cX7_thing 31 = .ok (.aload_n 0, 1) := by decide +kernel
theorem dX7_thing_32 : decode cX7_thing 32 = .ok (.ldc 95, 2) := by decide +kernel
theorem dX7_thing_34 : decode cX7_thing 34 = .ok (.invokevirtual 70, 3) := by decide +kernel
theorem dX7_thing_37 : decode cX7_thing 37 = .ok (.ireturn, 1) := by decide +kernel
theorem dX7_thing_38 : decode cX7_thing 38 = .ok (.aload_n 0, 1) := by decide +kernel
theorem dX7_thing_39 : decode cX7_thing 39 = .ok (.getfield 12, 3) := by decide +kernel
theorem dX7_thing_42 : decode cX7_thing 42 = .ok (.iload_n 1, 1) := by decide +kernel
theorem dX7_thing_43 : decode cX7_thing 43 = .ok (.iload_n 2, 1) := by decide +kernel
theorem dX7_thing_44 : decode cX7_thing 44 = .ok (.bipush 9, 2) := by decide +kernel
theorem dX7_thing_46 : decode cX7_thing 46 = .ok (.invokevirtual 96, 3) := by decide +kernel
theorem dX7_thing_49 : decode cX7_thing 49 = .ok (.ireturn, 1) := by decide +kernel
theorem dX7_of_0 : decode cX7_of 0 = .ok (.aload_n 0, 1) := by decide +kernel
theorem dX7_of_1 : decode cX7_of 1 = .ok (.getfield 12, 3) := by decide +kernel
theorem dX7_of_4 : decode cX7_of 4 = .ok (.iload_n 1, 1) := by decide +kernel
theorem dX7_of_5 : decode cX7_of 5 = .ok (.invokevirtual 100, 3) := by decide +kernel
theorem dX7_of_8 : decode cX7_of 8 = .ok (.ifCond .eq 12, 3) := by decide +kernel
theorem dX7_of_11 : decode cX7_of 11 = .ok (.iload_n 2, 1) := by decide +kernel
theorem dX7_of_12 : decode cX7_of 12 = .ok (.ifCond .lt 8, 3) := by decide +kernel
theorem dX7_of_15 : decode cX7_of 15 = .ok (.iload_n 2, 1) := by decide +kernel
theorem dX7_of_16 : decode cX7_of 16 = .ok (.iconst 4, 1) := by decide +kernel
theorem dX7_of_17 : decode cX7_of 17 = .ok (.if_icmp .le 10, 3) := by decide +kernel
theorem dX7_of_20 : decode cX7_of 20 = .ok (.aload_n 0, 1) := by decide +kernel
theorem dX7_of_21 : decode cX7_of 21 = .ok (.ldc 69, 2) := by decide +kernel
theorem dX7_of_23 : decode cX7_of 23 = .ok (.invokevirtual 70, 3) := by decide +kernel
theorem dX7_of_26 : decode cX7_of 26 = .ok (.ireturn, 1) := by decide +kernel
theorem dX7_of_27 : decode cX7_of 27 = .ok (.iload_n 2, 1) := by decide +kernel
theorem dX7_of_28 : decode cX7_of 28 = .ok (.iconst 3, 1) := by decide +kernel
theorem dX7_of_29 : decode cX7_of 29 = .ok (.if_icmp .ne 12, 3) := by decide +kernel
theorem dX7_of_32 : decode cX7_of 32 = .ok (.aload_n 0, 1) := by decide +kernel
theorem dX7_of_33 : decode cX7_of 33 = .ok (.getfield 12, 3) := by decide +kernel
theorem dX7_of_36 : decode cX7_of 36 = .ok (.iload_n 1, 1) := by decide +kernel
theorem dX7_of_37 : decode cX7_of 37 = .ok (.invokevirtual 103, 3) := by decide +kernel
theorem dX7_of_40 : decode cX7_of 40 = .ok (.ireturn, 1) := by decide +kernel
theorem dX7_of_41 : decode cX7_of 41 = .ok (.iload_n 2, 1) := by decide +kernel
theorem dX7_of_42 : decode cX7_of 42 = .ok (.iconst 4, 1) := by decide +kernel
theorem dX7_of_43 : decode cX7_of 43 = .ok (.if_icmp .ne 22, 3) := by decide +kernel
theorem dX7_of_46 : decode cX7_of 46 = .ok (.aload_n 0, 1) := by decide +kernel
theorem dX7_of_47 : decode cX7_of 47 = .ok (.getfield 12, 3) := by decide +kernel
theorem dX7_of_50 : decode cX7_of 50 = .ok (.aload_n 0, 1) := by decide +kernel
theorem dX7_of_51 : decode cX7_of 51 = .ok (.getfield 12, 3) := by decide +kernel
theorem dX7_of_54 : decode cX7_of 54 = .ok (.getfield 106, 3) := by decide +kernel
theorem dX7_of_57 : decode cX7_of 57 = .ok (.iconst 1, 1) := by decide +kernel
theorem dX7_of_58 : decode cX7_of 58 = .ok (.aaload, 1) := by decide +kernel
theorem dX7_of_59 : decode cX7_of 59 = .ok (.iload_n 1, 1) := by decide +kernel
theorem dX7_of_60 : decode cX7_of 60 = .ok (.iaload, 1) := by decide +kernel
theorem dX7_of_61 : decode cX7_of 61 = .ok (.invokevirtual 109, 3) := by decide +kernel
theorem dX7_of_64 : decode cX7_of 64 = .ok (.ireturn, 1) := by decide +kernel
theorem dX7_of_65 : decode cX7_of 65 = .ok (.aload_n 0, 1) := by decide +kernel
theorem dX7_of_66 : decode cX7_of 66 = .ok (.getfield 12, 3) := by decide +kernel
theorem dX7_of_69 : decode cX7_of 69 = .ok (.getfield 106, 3) := by decide +kernel
theorem dX7_of_72 : decode cX7_of 72 = .ok (.iload_n 2, 1) := by decide +kernel
theorem dX7_of_73 : decode cX7_of 73 = .ok (.aaload, 1) := by decide +kernel
theorem dX7_of_74 : decode cX7_of 74 = .ok (.iload_n 1, 1) := by decide +kernel
theorem dX7_of_75 : decode cX7_of 75 = .ok (.iaload, 1) := by decide +kernel
theorem dX7_of_76 : decode cX7_of 76 = .ok (.ireturn, 1) := by decide +kernel
theorem dX7_change_0 : decode cX7_change 0 = .ok (.aload_n 0, 1) := by decide +kernel
theorem dX7_change_1 : decode cX7_change 1 = .ok (.getfield 12, 3) := by decide +kernel
theorem dX7_change_4 : decode cX7_change 4 = .ok (.iload_n 1, 1) := by decide +kernel
theorem dX7_change_5 : decode cX7_change 5 = .ok (.invokevirtual 100, 3) := by decide +kernel
theorem dX7_change_8 : decode cX7_change 8 = .ok (.ifCond .eq 11, 3) := by decide +kernel
theorem dX7_change_11 : decode cX7_change 11 = .ok (.iload_n 2, 1) := by decide +kernel
theorem dX7_change_12 : decode cX7_change 12 = .ok (.iload_n 3, 1) := by decide +kernel
theorem dX7_change_13 : decode cX7_change 13 = .ok (.invokestatic 112, 3) := by decide +kernel
theorem dX7_change_16 : decode cX7_change 16 = .ok (.ifCond .ne 10, 3) := by decide +kernel
theorem dX7_change_19 : decode cX7_change 19 = .ok (.aload_n 0, 1) := by decide +kernel
theorem dX7_change_20 : decode cX7_change 20 = .ok (.ldc 69, 2) := by decide +kernel
theorem dX7_change_22 : decode cX7_change 22 = .ok (.invokevirtual 70, 3) := by decide +kernel
theorem dX7_change_25 : decode cX7_change 25 = .ok (.ireturn, 1) := by decide +kernel
theorem dX7_change_26 : decode cX7_change 26 = .ok (.aload_n 0, 1) := by decide +kernel
theorem dX7_change_27 : decode cX7_change 27 = .ok (.getfield 12, 3) := by decide +kernel
theorem dX7_change_30 : decode cX7_change 30 = .ok (.getfield 106, 3) := by decide +kernel
theorem dX7_change_33 : decode cX7_change 33 = .ok (.iload_n 2, 1) := by decide +kernel
theorem dX7_change_34 : decode cX7_change 34 = .ok (.aaload, 1) := by decide +kernel
theorem dX7_change_35 : decode cX7_change 35 = .ok (.iload_n 1, 1) := by decide +kernel
theorem dX7_change_36 : decode cX7_change 36 = .ok (.iaload, 1) := by decide +kernel
theorem dX7_change_37 : decode cX7_change 37 = .ok (.istore 4, 2) := by decide +kernel
theorem dX7_change_39 : decode cX7_change 39 = .ok (.aload_n 0, 1) := by decide +kernel
theorem dX7_change_40 : decode cX7_change 40 = .ok (.getfield 12, 3) := by decide +kernel
theorem dX7_change_43 : decode cX7_change 43 = .ok (.getfield 106, 3) := by decide +kernel
theorem dX7_change_46 : decode cX7_change 46 = .ok (.iload_n 2, 1) := by decide +kernel
theorem dX7_change_47 : decode cX7_change 47 = .ok (.aaload, 1) := by decide +kernel
theorem dX7_change_48 : decode cX7_change 48 = .ok (.iload_n 1, 1) := by decide +kernel
theorem dX7_change_49 : decode cX7_change 49 = .ok (.iload_n 3, 1) := by decide +kernel
theorem dX7_change_50 : decode cX7_change 50 = .ok (.iastore, 1) := by decide +kernel
theorem dX7_change_51 : decode cX7_change 51 = .ok (.iload 4, 2) := by decide +kernel
theorem dX7_change_53 : decode cX7_change 53 = .ok (.ireturn, 1) := by decide +kernel
theorem dX7_rain_0 : decode cX7_rain 0 = .ok (.iload_n 1, 1) := by decide +kernel
theorem dX7_rain_1 : decode cX7_rain 1 = .ok (.ifCond .lt 8, 3) := by decide +kernel
theorem dX7_rain_4 : decode cX7_rain 4 = .ok (.iload_n 1, 1) := by decide +kernel
theorem dX7_rain_5 : decode cX7_rain 5 = .ok (.iconst 1, 1) := by decide +kernel
theorem dX7_rain_6 : decode cX7_rain 6 = .ok (.if_icmp .le 10, 3) := by decide +kernel
theorem dX7_rain_9 : decode cX7_rain 9 = .ok (.aload_n 0, 1) := by decide +kernel
theorem dX7_rain_10 : decode cX7_rain 10 = .ok (.ldc 69, 2) := by decide +kernel
theorem dX7_rain_12 : decode cX7_rain 12 = .ok (.invokevirtual 70, 3) := by decide +kernel
theorem dX7_rain_15 : decode cX7_rain 15 = .ok (.ireturn, 1) := by decide +kernel
theorem dX7_rain_16 : decode cX7_rain 16 = .ok (.aload_n 0, 1) := by decide +kernel
theorem dX7_rain_17 : decode cX7_rain 17 = .ok (.getfield 12, 3) := by decide +kernel
theorem dX7_rain_20 : decode cX7_rain 20 = .ok (.getfield 116, 3) := by decide +kernel
theorem dX7_rain_23 : decode cX7_rain 23 = .ok (.istore_n 2, 1) := by decide +kernel
theorem dX7_rain_24 : decode cX7_rain 24 = .ok (.aload_n 0, 1) := by decide +kernel
theorem dX7_rain_25 : decode cX7_rain 25 = .ok (.getfield 12, 3) := by decide +kernel
theorem dX7_rain_28 : decode cX7_rain 28 = .ok (.iload_n 1, 1) := by decide +kernel
theorem dX7_rain_29 : decode cX7_rain 29 = .ok (.putfield 116, 3) := by decide +kernel
theorem dX7_rain_32 : decode cX7_rain 32 = .ok (.iload_n 2, 1) := by decide +kernel
theorem dX7_rain_33 : decode cX7_rain 33 = .ok (.ireturn, 1) := by decide +kernel
theorem dX7_go_0 : decode cX7_go 0 = .ok (.iload_n 1, 1) := by decide +kernel
theorem dX7_go_1 : decode cX7_go 1 = .ok (.iconst 1, 1) := by decide +kernel
theorem dX7_go_2 : decode cX7_go 2 = .ok (.if_icmp .lt 9, 3) := by decide +kernel
theorem dX7_go_5 : decode cX7_go 5 = .ok (.iload_n 1, 1) := by decide +kernel
theorem dX7_go_6 : decode cX7_go 6 = .ok (.bipush 60, 2) := by decide +kernel
theorem dX7_go_8 : decode cX7_go 8 = .ok (.if_icmp .le 10, 3) := by decide +kernel
theorem dX7_go_11 : decode cX7_go 11 = .ok (.aload_n 0, 1) := by decide +kernel
theorem dX7_go_12 : decode cX7_go 12 = .ok (.ldc 69, 2) := by decide +kernel
theorem dX7_go_14 : decode cX7_go 14 = .ok (.invokevirtual 70, 3) := by decide +kernel
theorem dX7_go_17 : decode cX7_go 17 = .ok (.ireturn, 1) := by decide +kernel
theorem dX7_go_18 : decode cX7_go 18 = .ok (.aload_n 0, 1) := by decide +kernel
theorem dX7_go_19 : decode cX7_go 19 = .ok (.getfield 12, 3) := by decide +kernel
theorem dX7_go_22 : decode cX7_go 22 = .ok (.getfield 120, 3) := by decide +kernel
theorem dX7_go_25 : decode cX7_go 25 = .ok (.ldc 123, 2) := by decide +kernel
theorem dX7_go_27 : decode cX7_go 27 = .ok (.iload_n 1, 1) := by decide +kernel
theorem dX7_go_28 : decode cX7_go 28 = .ok (.isub, 1) := by decide +kernel
theorem dX7_go_29 : decode cX7_go 29 = .ok (.if_icmp .le 10, 3) := by decide +kernel
theorem dX7_go_32 : decode cX7_go 32 = .ok (.aload_n 0, 1) := by decide +kernel
theorem dX7_go_33 : decode cX7_go 33 = .ok (.ldc 124, 2) := by decide +kernel
theorem dX7_go_35 : decode cX7_go 35 = .ok (.invokevirtual 70, 3) := by decide +kernel
theorem dX7_go_38 : decode cX7_go 38 = .ok (.ireturn, 1) := by decide +kernel
theorem dX7_go_39 : decode cX7_go 39 = .ok (.iconst 0, 1) := by decide +kernel
theorem dX7_go_40 : decode cX7_go 40 = .ok (.istore_n 2, 1) := by decide +kernel
theorem dX7_go_41 : decode cX7_go 41 = .ok (.iload_n 2, 1) := by decide +kernel
theorem dX7_go_42 : decode cX7_go 42 = .ok (.iload_n 1, 1) := by decide +kernel
theorem dX7_go_43 : decode cX7_go 43 = .ok (.if_icmp .ge 16, 3) := by decide +kernel
theorem dX7_go_46 : decode cX7_go 46 = .ok (.aload_n 0, 1) := by decide +kernel
theorem dX7_go_47 : decode cX7_go 47 = .ok (.getfield 12, 3) := by decide +kernel
theorem dX7_go_50 : decode cX7_go 50 = .ok (.invokevirtual 125, 3) := by decide +kernel
theorem dX7_go_53 : decode cX7_go 53 = .ok (.iinc 2 1, 3) := by decide +kernel
theorem dX7_go_56 : decode cX7_go 56 = .ok (.goto (-15), 3) := by decide +kernel
theorem dX7_go_59 : decode cX7_go 59 = .ok (.aload_n 0, 1) := by decide +kernel
theorem dX7_go_60 : decode cX7_go 60 = .ok (.getfield 12, 3) := by decide +kernel
theorem dX7_go_63 : decode cX7_go 63 = .ok (.getfield 120, 3) := by decide +kernel
theorem dX7_go_66 : decode cX7_go 66 = .ok (.ireturn, 1) := by decide +kernel
theorem dX7_now_0 : decode cX7_now 0 = .ok (.iload_n 1, 1) := by decide +kernel
theorem dX7_now_1 : decode cX7_now 1 = .ok (.tableswitch 75 0 4 #[35, 43, 51, 59, 67], 35) := by decide +kernel
theorem dX7_now_36 : decode cX7_now 36 = .ok (.aload_n 0, 1) := by decide +kernel
theorem dX7_now_37 : decode cX7_now 37 = .ok (.getfield 12, 3) := by decide +kernel
theorem dX7_now_40 : decode cX7_now 40 = .ok (.getfield 120, 3) := by decide +kernel
theorem dX7_now_43 : decode cX7_now 43 = .ok (.ireturn, 1) := by decide +kernel
theorem dX7_now_44 : decode cX7_now 44 = .ok (.aload_n 0, 1) := by decide +kernel
theorem dX7_now_45 : decode cX7_now 45 = .ok (.getfield 12, 3) := by decide +kernel
theorem dX7_now_48 : decode cX7_now 48 = .ok (.invokevirtual 128, 3) := by decide +kernel
theorem dX7_now_51 : decode cX7_now 51 = .ok (.ireturn, 1) := by decide +kernel
theorem dX7_now_52 : decode cX7_now 52 = .ok (.aload_n 0, 1) := by decide +kernel
theorem dX7_now_53 : decode cX7_now 53 = .ok (.getfield 12, 3) := by decide +kernel
theorem dX7_now_56 : decode cX7_now 56 = .ok (.invokevirtual 132, 3) := by decide +kernel
theorem dX7_now_59 : decode cX7_now 59 = .ok (.ireturn, 1) := by decide +kernel
theorem dX7_now_60 : decode cX7_now 60 = .ok (.aload_n 0, 1) := by decide +kernel
theorem dX7_now_61 : decode cX7_now 61 = .ok (.getfield 12, 3) := by decide +kernel
theorem dX7_now_64 : decode cX7_now 64 = .ok (.getfield 116, 3) := by decide +kernel
theorem dX7_now_67 : decode cX7_now 67 = .ok (.ireturn, 1) := by decide +kernel
theorem dX7_now_68 : decode cX7_now 68 = .ok (.aload_n 0, 1) := by decide +kernel
theorem dX7_now_69 : decode cX7_now 69 = .ok (.getfield 12, 3) := by decide +kernel
theorem dX7_now_72 : decode cX7_now 72 = .ok (.invokevirtual 135, 3) := by decide +kernel
theorem dX7_now_75 : decode cX7_now 75 = .ok (.ireturn, 1) := by decide +kernel
theorem dX7_now_76 : decode cX7_now 76 = .ok (.aload_n 0, 1) := by decide +kernel
theorem dX7_now_77 : decode cX7_now 77 = .ok (.ldc 69, 2) := by decide +kernel
theorem dX7_now_79 : decode cX7_now 79 = .ok (.invokevirtual 70, 3) := by decide +kernel
theorem dX7_now_82 : decode cX7_now 82 = .ok (.ireturn, 1) := by decide +kernel
theorem dX7_chain_0 : decode cX7_chain 0 = .ok (.iload_n 1, 1) := by decide +kernel
theorem dX7_chain_1 : decode cX7_chain 1 = .ok (.invokestatic 65, 3) := by decide +kernel
theorem dX7_chain_4 : decode cX7_chain 4 = .ok (.ifCond .eq 19, 3) := by decide +kernel
theorem dX7_chain_7 : decode cX7_chain 7 = .ok (.iload_n 2, 1) := by decide +kernel
theorem dX7_chain_8 : decode cX7_chain 8 = .ok (.invokestatic 138, 3) := by decide +kernel
theorem dX7_chain_11 : decode cX7_chain 11 = .ok (.ifCond .eq 12, 3) := by decide +kernel
theorem dX7_chain_14 : decode cX7_chain 14 = .ok (.iload_n 3, 1) := by decide +kernel
theorem dX7_chain_15 : decode cX7_chain 15 = .ok (.ifCond .lt 8, 3) := by decide +kernel
theorem dX7_chain_18 : decode cX7_chain 18 = .ok (.iload_n 3, 1) := by decide +kernel
theorem dX7_chain_19 : decode cX7_chain 19 = .ok (.iconst 3, 1) := by decide +kernel
theorem dX7_chain_20 : decode cX7_chain 20 = .ok (.if_icmp .le 10, 3) := by decide +kernel
theorem dX7_chain_23 : decode cX7_chain 23 = .ok (.aload_n 0, 1) := by decide +kernel
theorem dX7_chain_24 : decode cX7_chain 24 = .ok (.ldc 69, 2) := by decide +kernel
theorem dX7_chain_26 : decode cX7_chain 26 = .ok (.invokevirtual 70, 3) := by decide +kernel
theorem dX7_chain_29 : decode cX7_chain 29 = .ok (.ireturn, 1) := by decide +kernel
theorem dX7_chain_30 : decode cX7_chain 30 = .ok (.aload_n 0, 1) := by decide +kernel
theorem dX7_chain_31 : decode cX7_chain 31 = .ok (.getfield 29, 3) := by decide +kernel
theorem dX7_chain_34 : decode cX7_chain 34 = .ok (.aload_n 0, 1) := by decide +kernel
theorem dX7_chain_35 : decode cX7_chain 35 = .ok (.getfield 12, 3) := by decide +kernel
theorem dX7_chain_38 : decode cX7_chain 38 = .ok (.iload_n 1, 1) := by decide +kernel
theorem dX7_chain_39 : decode cX7_chain 39 = .ok (.iload_n 2, 1) := by decide +kernel
theorem dX7_chain_40 : decode cX7_chain 40 = .ok (.invokevirtual 141, 3) := by decide +kernel
theorem dX7_chain_43 : decode cX7_chain 43 = .ok (.iload_n 3, 1) := by decide +kernel
theorem dX7_chain_44 : decode cX7_chain 44 = .ok (.tableswitch 52 0 2 #[28, 36, 44], 28) := by decide +kernel
theorem dX7_chain_72 : decode cX7_chain 72 = .ok (.aload_n 0, 1) := by decide +kernel
theorem dX7_chain_73 : decode cX7_chain 73 = .ok (.getfield 29, 3) := by decide +kernel
theorem dX7_chain_76 : decode cX7_chain 76 = .ok (.getfield 145, 3) := by decide +kernel
theorem dX7_chain_79 : decode cX7_chain 79 = .ok (.ireturn, 1) := by decide +kernel
theorem dX7_chain_80 : decode cX7_chain 80 = .ok (.aload_n 0, 1) := by decide +kernel
theorem dX7_chain_81 : decode cX7_chain 81 = .ok (.getfield 29, 3) := by decide +kernel
theorem dX7_chain_84 : decode cX7_chain 84 = .ok (.getfield 148, 3) := by decide +kernel
theorem dX7_chain_87 : decode cX7_chain 87 = .ok (.ireturn, 1) := by decide +kernel
theorem dX7_chain_88 : decode cX7_chain 88 = .ok (.aload_n 0, 1) := by decide +kernel
theorem dX7_chain_89 : decode cX7_chain 89 = .ok (.getfield 29, 3) := by decide +kernel
theorem dX7_chain_92 : decode cX7_chain 92 = .ok (.getfield 151, 3) := by decide +kernel
theorem dX7_chain_95 : decode cX7_chain 95 = .ok (.ireturn, 1) := by decide +kernel
theorem dX7_chain_96 : decode cX7_chain 96 = .ok (.aload_n 0, 1) := by decide +kernel
theorem dX7_chain_97 : decode cX7_chain 97 = .ok (.getfield 29, 3) := by decide +kernel
theorem dX7_chain_100 : decode cX7_chain 100 = .ok (.getfield 154, 3) := by decide +kernel
theorem dX7_chain_103 : decode cX7_chain 103 = .ok (.ireturn, 1) := by decide +kernel
theorem dX7_through_0 : decode cX7_through 0 = .ok (.iload_n 1, 1) := by decide +kernel
theorem dX7_through_1 : decode cX7_through 1 = .ok (.invokestatic 65, 3) := by decide +kernel
theorem dX7_through_4 : decode cX7_through 4 = .ok (.ifCond .eq 14, 3) := by decide +kernel
theorem dX7_through_7 : decode cX7_through 7 = .ok (.aload_n 0, 1) := by decide +kernel
theorem dX7_through_8 : decode cX7_through 8 = .ok (.getfield 12, 3) := by decide +kernel
theorem dX7_through_11 : decode cX7_through 11 = .ok (.iload_n 2, 1) := by decide +kernel
theorem dX7_through_12 : decode cX7_through 12 = .ok (.invokevirtual 100, 3) := by decide +kernel
theorem dX7_through_15 : decode cX7_through 15 = .ok (.ifCond .ne 10, 3) := by decide +kernel
theorem dX7_through_18 : decode cX7_through 18 = .ok (.aload_n 0, 1) := by decide +kernel
theorem dX7_through_19 : decode cX7_through 19 = .ok (.ldc 69, 2) := by decide +kernel
theorem dX7_through_21 : decode cX7_through 21 = .ok (.invokevirtual 70, 3) := by decide +kernel
theorem dX7_through_24 : decode cX7_through 24 = .ok (.ireturn, 1) := by decide +kernel
theorem dX7_through_25 : decode cX7_through 25 = .ok (.aload_n 0, 1) := by decide +kernel
theorem dX7_through_26 : decode cX7_through 26 = .ok (.getfield 29, 3) := by decide +kernel
theorem dX7_through_29 : decode cX7_through 29 = .ok (.iload_n 1, 1) := by decide +kernel
theorem dX7_through_30 : decode cX7_through 30 = .ok (.invokevirtual 157, 3) := by decide +kernel
theorem dX7_through_33 : decode cX7_through 33 = .ok (.iconst 1, 1) := by decide +kernel
theorem dX7_through_34 : decode cX7_through 34 = .ok (.istore_n 3, 1) := by decide +kernel
theorem dX7_through_35 : decode cX7_through 35 = .ok (.iload_n 3, 1) := by decide +kernel
theorem dX7_through_36 : decode cX7_through 36 = .ok (.bipush 16, 2) := by decide +kernel
theorem dX7_through_38 : decode cX7_through 38 = .ok (.if_icmp .gt 43, 3) := by decide +kernel
theorem dX7_through_41 : decode cX7_through 41 = .ok (.aload_n 0, 1) := by decide +kernel
theorem dX7_through_42 : decode cX7_through 42 = .ok (.getfield 29, 3) := by decide +kernel
theorem dX7_through_45 : decode cX7_through 45 = .ok (.aload_n 0, 1) := by decide +kernel
theorem dX7_through_46 : decode cX7_through 46 = .ok (.getfield 12, 3) := by decide +kernel
theorem dX7_through_49 : decode cX7_through 49 = .ok (.invokevirtual 161, 3) := by decide +kernel
theorem dX7_through_52 : decode cX7_through 52 = .ok (.aload_n 0, 1) := by decide +kernel
theorem dX7_through_53 : decode cX7_through 53 = .ok (.getfield 29, 3) := by decide +kernel
theorem dX7_through_56 : decode cX7_through 56 = .ok (.getfield 145, 3) := by decide +kernel
theorem dX7_through_59 : decode cX7_through 59 = .ok (.aload_n 0, 1) := by decide +kernel
theorem dX7_through_60 : decode cX7_through 60 = .ok (.getfield 12, 3) := by decide +kernel
theorem dX7_through_63 : decode cX7_through 63 = .ok (.getfield 106, 3) := by decide +kernel
theorem dX7_through_66 : decode cX7_through 66 = .ok (.iconst 1, 1) := by decide +kernel
theorem dX7_through_67 : decode cX7_through 67 = .ok (.aaload, 1) := by decide +kernel
theorem dX7_through_68 : decode cX7_through 68 = .ok (.iload_n 2, 1) := by decide +kernel
theorem dX7_through_69 : decode cX7_through 69 = .ok (.iaload, 1) := by decide +kernel
theorem dX7_through_70 : decode cX7_through 70 = .ok (.if_icmp .ne 5, 3) := by decide +kernel
theorem dX7_through_73 : decode cX7_through 73 = .ok (.iload_n 3, 1) := by decide +kernel
theorem dX7_through_74 : decode cX7_through 74 = .ok (.ireturn, 1) := by decide +kernel
theorem dX7_through_75 : decode cX7_through 75 = .ok (.iinc 3 1, 3) := by decide +kernel
theorem dX7_through_78 : decode cX7_through 78 = .ok (.goto (-43), 3) := by decide +kernel
theorem dX7_through_81 : decode cX7_through 81 = .ok (.aload_n 0, 1) := by decide +kernel
theorem dX7_through_82 : decode cX7_through 82 = .ok (.ldc 165, 2) := by decide +kernel
theorem dX7_through_84 : decode cX7_through 84 = .ok (.invokevirtual 70, 3) := by decide +kernel
theorem dX7_through_87 : decode cX7_through 87 = .ok (.ireturn, 1) := by decide +kernel
theorem dX7_upright_0 : decode cX7_upright 0 = .ok (.iload_n 1, 1) := by decide +kernel
theorem dX7_upright_1 : decode cX7_upright 1 = .ok (.invokestatic 65, 3) := by decide +kernel
theorem dX7_upright_4 : decode cX7_upright 4 = .ok (.ifCond .ne 10, 3) := by decide +kernel
theorem dX7_upright_7 : decode cX7_upright 7 = .ok (.aload_n 0, 1) := by decide +kernel
theorem dX7_upright_8 : decode cX7_upright 8 = .ok (.ldc 69, 2) := by decide +kernel
theorem dX7_upright_10 : decode cX7_upright 10 = .ok (.invokevirtual 70, 3) := by decide +kernel
theorem dX7_upright_13 : decode cX7_upright 13 = .ok (.ireturn, 1) := by decide +kernel
theorem dX7_upright_14 : decode cX7_upright 14 = .ok (.aload_n 0, 1) := by decide +kernel
theorem dX7_upright_15 : decode cX7_upright 15 = .ok (.getfield 29, 3) := by decide +kernel
theorem dX7_upright_18 : decode cX7_upright 18 = .ok (.iload_n 1, 1) := by decide +kernel
theorem dX7_upright_19 : decode cX7_upright 19 = .ok (.invokevirtual 157, 3) := by decide +kernel
theorem dX7_upright_22 : decode cX7_upright 22 = .ok (.iconst 1, 1) := by decide +kernel
theorem dX7_upright_23 : decode cX7_upright 23 = .ok (.istore_n 2, 1) := by decide +kernel
theorem dX7_upright_24 : decode cX7_upright 24 = .ok (.iload_n 2, 1) := by decide +kernel
theorem dX7_upright_25 : decode cX7_upright 25 = .ok (.bipush 16, 2) := by decide +kernel
theorem dX7_upright_27 : decode cX7_upright 27 = .ok (.if_icmp .gt 42, 3) := by decide +kernel
theorem dX7_upright_30 : decode cX7_upright 30 = .ok (.aload_n 0, 1) := by decide +kernel
theorem dX7_upright_31 : decode cX7_upright 31 = .ok (.getfield 29, 3) := by decide +kernel
theorem dX7_upright_34 : decode cX7_upright 34 = .ok (.aload_n 0, 1) := by decide +kernel
theorem dX7_upright_35 : decode cX7_upright 35 = .ok (.getfield 12, 3) := by decide +kernel
theorem dX7_upright_38 : decode cX7_upright 38 = .ok (.invokevirtual 161, 3) := by decide +kernel
theorem dX7_upright_41 : decode cX7_upright 41 = .ok (.aload_n 0, 1) := by decide +kernel
theorem dX7_upright_42 : decode cX7_upright 42 = .ok (.getfield 29, 3) := by decide +kernel
theorem dX7_upright_45 : decode cX7_upright 45 = .ok (.getfield 151, 3) := by decide +kernel
theorem dX7_upright_48 : decode cX7_upright 48 = .ok (.ifCond .ne 15, 3) := by decide +kernel
theorem dX7_upright_51 : decode cX7_upright 51 = .ok (.aload_n 0, 1) := by decide +kernel
theorem dX7_upright_52 : decode cX7_upright 52 = .ok (.getfield 29, 3) := by decide +kernel
theorem dX7_upright_55 : decode cX7_upright 55 = .ok (.getfield 154, 3) := by decide +kernel
theorem dX7_upright_58 : decode cX7_upright 58 = .ok (.ifCond .ne 5, 3) := by decide +kernel
theorem dX7_upright_61 : decode cX7_upright 61 = .ok (.iload_n 2, 1) := by decide +kernel
theorem dX7_upright_62 : decode cX7_upright 62 = .ok (.ireturn, 1) := by decide +kernel
theorem dX7_upright_63 : decode cX7_upright 63 = .ok (.iinc 2 1, 3) := by decide +kernel
theorem dX7_upright_66 : decode cX7_upright 66 = .ok (.goto (-42), 3) := by decide +kernel
theorem dX7_upright_69 : decode cX7_upright 69 = .ok (.aload_n 0, 1) := by decide +kernel
theorem dX7_upright_70 : decode cX7_upright 70 = .ok (.ldc 165, 2) := by decide +kernel
theorem dX7_upright_72 : decode cX7_upright 72 = .ok (.invokevirtual 70, 3) := by decide +kernel
theorem dX7_upright_75 : decode cX7_upright 75 = .ok (.ireturn, 1) := by decide +kernel
theorem dX7_large_0 : decode cX7_large 0 = .ok (.iload_n 1, 1) := by decide +kernel
theorem dX7_large_1 : decode cX7_large 1 = .ok (.invokestatic 65, 3) := by decide +kernel
theorem dX7_large_4 : decode cX7_large 4 = .ok (.ifCond .eq 21, 3) := by decide +kernel
theorem dX7_large_7 : decode cX7_large 7 = .ok (.iload_n 2, 1) := by decide +kernel
theorem dX7_large_8 : decode cX7_large 8 = .ok (.invokestatic 138, 3) := by decide +kernel
theorem dX7_large_11 : decode cX7_large 11 = .ok (.ifCond .eq 14, 3) := by decide +kernel
theorem dX7_large_14 : decode cX7_large 14 = .ok (.aload_n 0, 1) := by decide +kernel
theorem dX7_large_15 : decode cX7_large 15 = .ok (.getfield 12, 3) := by decide +kernel
theorem dX7_large_18 : decode cX7_large 18 = .ok (.iload_n 3, 1) := by decide +kernel
theorem dX7_large_19 : decode cX7_large 19 = .ok (.invokevirtual 100, 3) := by decide +kernel
theorem dX7_large_22 : decode cX7_large 22 = .ok (.ifCond .ne 10, 3) := by decide +kernel
theorem dX7_large_25 : decode cX7_large 25 = .ok (.aload_n 0, 1) := by decide +kernel
theorem dX7_large_26 : decode cX7_large 26 = .ok (.ldc 69, 2) := by decide +kernel
theorem dX7_large_28 : decode cX7_large 28 = .ok (.invokevirtual 70, 3) := by decide +kernel
theorem dX7_large_31 : decode cX7_large 31 = .ok (.ireturn, 1) := by decide +kernel
theorem dX7_large_32 : decode cX7_large 32 = .ok (.aload_n 0, 1) := by decide +kernel
theorem dX7_large_33 : decode cX7_large 33 = .ok (.getfield 29, 3) := by decide +kernel
theorem dX7_large_36 : decode cX7_large 36 = .ok (.aload_n 0, 1) := by decide +kernel
theorem dX7_large_37 : decode cX7_large 37 = .ok (.getfield 12, 3) := by decide +kernel
theorem dX7_large_40 : decode cX7_large 40 = .ok (.iload_n 1, 1) := by decide +kernel
theorem dX7_large_41 : decode cX7_large 41 = .ok (.iload_n 2, 1) := by decide +kernel
theorem dX7_large_42 : decode cX7_large 42 = .ok (.invokevirtual 141, 3) := by decide +kernel
theorem dX7_large_45 : decode cX7_large 45 = .ok (.aload_n 0, 1) := by decide +kernel
theorem dX7_large_46 : decode cX7_large 46 = .ok (.getfield 29, 3) := by decide +kernel
theorem dX7_large_49 : decode cX7_large 49 = .ok (.getfield 145, 3) := by decide +kernel
theorem dX7_large_52 : decode cX7_large 52 = .ok (.aload_n 0, 1) := by decide +kernel
theorem dX7_large_53 : decode cX7_large 53 = .ok (.getfield 12, 3) := by decide +kernel
theorem dX7_large_56 : decode cX7_large 56 = .ok (.getfield 106, 3) := by decide +kernel
theorem dX7_large_59 : decode cX7_large 59 = .ok (.iconst 1, 1) := by decide +kernel
theorem dX7_large_60 : decode cX7_large 60 = .ok (.aaload, 1) := by decide +kernel
theorem dX7_large_61 : decode cX7_large 61 = .ok (.iload_n 3, 1) := by decide +kernel
theorem dX7_large_62 : decode cX7_large 62 = .ok (.iaload, 1) := by decide +kernel
theorem dX7_large_63 : decode cX7_large 63 = .ok (.if_icmp .eq 10, 3) := by decide +kernel
theorem dX7_large_66 : decode cX7_large 66 = .ok (.aload_n 0, 1) := by decide +kernel
theorem dX7_large_67 : decode cX7_large 67 = .ok (.ldc 124, 2) := by decide +kernel
theorem dX7_large_69 : decode cX7_large 69 = .ok (.invokevirtual 70, 3) := by decide +kernel
theorem dX7_large_72 : decode cX7_large 72 = .ok (.ireturn, 1) := by decide +kernel
theorem dX7_large_73 : decode cX7_large 73 = .ok (.aload_n 0, 1) := by decide +kernel
theorem dX7_large_74 : decode cX7_large 74 = .ok (.getfield 12, 3) := by decide +kernel
theorem dX7_large_77 : decode cX7_large 77 = .ok (.getfield 106, 3) := by decide +kernel
theorem dX7_large_80 : decode cX7_large 80 = .ok (.iconst 2, 1) := by decide +kernel
theorem dX7_large_81 : decode cX7_large 81 = .ok (.aaload, 1) := by decide +kernel
theorem dX7_large_82 : decode cX7_large 82 = .ok (.iload_n 3, 1) := by decide +kernel
theorem dX7_large_83 : decode cX7_large 83 = .ok (.iaload, 1) := by decide +kernel
theorem dX7_large_84 : decode cX7_large 84 = .ok (.aload_n 0, 1) := by decide +kernel
theorem dX7_large_85 : decode cX7_large 85 = .ok (.getfield 29, 3) := by decide +kernel
theorem dX7_large_88 : decode cX7_large 88 = .ok (.getfield 148, 3) := by decide +kernel
theorem dX7_large_91 : decode cX7_large 91 = .ok (.imul, 1) := by decide +kernel
theorem dX7_large_92 : decode cX7_large 92 = .ok (.bipush 81, 2) := by decide +kernel
theorem dX7_large_94 : decode cX7_large 94 = .ok (.idiv, 1) := by decide +kernel
theorem dX7_large_95 : decode cX7_large 95 = .ok (.ireturn, 1) := by decide +kernel
theorem dX7_round_0 : decode cX7_round 0 = .ok (.iload_n 1, 1) := by decide +kernel
theorem dX7_round_1 : decode cX7_round 1 = .ok (.invokestatic 65, 3) := by decide +kernel
theorem dX7_round_4 : decode cX7_round 4 = .ok (.ifCond .ne 10, 3) := by decide +kernel
theorem dX7_round_7 : decode cX7_round 7 = .ok (.aload_n 0, 1) := by decide +kernel
theorem dX7_round_8 : decode cX7_round 8 = .ok (.ldc 69, 2) := by decide +kernel
theorem dX7_round_10 : decode cX7_round 10 = .ok (.invokevirtual 70, 3) := by decide +kernel
theorem dX7_round_13 : decode cX7_round 13 = .ok (.ireturn, 1) := by decide +kernel
theorem dX7_round_14 : decode cX7_round 14 = .ok (.aload_n 0, 1) := by decide +kernel
theorem dX7_round_15 : decode cX7_round 15 = .ok (.getfield 12, 3) := by decide +kernel
theorem dX7_round_18 : decode cX7_round 18 = .ok (.aload_n 0, 1) := by decide +kernel
theorem dX7_round_19 : decode cX7_round 19 = .ok (.getfield 12, 3) := by decide +kernel
theorem dX7_round_22 : decode cX7_round 22 = .ok (.iload_n 1, 1) := by decide +kernel
theorem dX7_round_23 : decode cX7_round 23 = .ok (.bipush 16, 2) := by decide +kernel
theorem dX7_round_25 : decode cX7_round 25 = .ok (.invokevirtual 166, 3) := by decide +kernel
theorem dX7_round_28 : decode cX7_round 28 = .ok (.invokevirtual 170, 3) := by decide +kernel
theorem dX7_round_31 : decode cX7_round 31 = .ok (.ireturn, 1) := by decide +kernel
theorem dX7_rounds_0 : decode cX7_rounds 0 = .ok (.iconst 0, 1) := by decide +kernel
theorem dX7_rounds_1 : decode cX7_rounds 1 = .ok (.istore_n 1, 1) := by decide +kernel
theorem dX7_rounds_2 : decode cX7_rounds 2 = .ok (.iconst 0, 1) := by decide +kernel
theorem dX7_rounds_3 : decode cX7_rounds 3 = .ok (.istore_n 2, 1) := by decide +kernel
theorem dX7_rounds_4 : decode cX7_rounds 4 = .ok (.iload_n 2, 1) := by decide +kernel
theorem dX7_rounds_5 : decode cX7_rounds 5 = .ok (.bipush 16, 2) := by decide +kernel
theorem dX7_rounds_7 : decode cX7_rounds 7 = .ok (.if_icmp .ge 23, 3) := by decide +kernel
theorem dX7_rounds_10 : decode cX7_rounds 10 = .ok (.aload_n 0, 1) := by decide +kernel
theorem dX7_rounds_11 : decode cX7_rounds 11 = .ok (.getfield 12, 3) := by decide +kernel
theorem dX7_rounds_14 : decode cX7_rounds 14 = .ok (.iload_n 2, 1) := by decide +kernel
theorem dX7_rounds_15 : decode cX7_rounds 15 = .ok (.invokevirtual 173, 3) := by decide +kernel
theorem dX7_rounds_18 : decode cX7_rounds 18 = .ok (.ifCond .eq 6, 3) := by decide +kernel
theorem dX7_rounds_21 : decode cX7_rounds 21 = .ok (.iinc 1 1, 3) := by decide +kernel
theorem dX7_rounds_24 : decode cX7_rounds 24 = .ok (.iinc 2 1, 3) := by decide +kernel
theorem dX7_rounds_27 : decode cX7_rounds 27 = .ok (.goto (-23), 3) := by decide +kernel
theorem dX7_rounds_30 : decode cX7_rounds 30 = .ok (.iload_n 1, 1) := by decide +kernel
theorem dX7_rounds_31 : decode cX7_rounds 31 = .ok (.ireturn, 1) := by decide +kernel
theorem dX7_before_0 : decode cX7_before 0 = .ok (.iload_n 1, 1) := by decide +kernel
theorem dX7_before_1 : decode cX7_before 1 = .ok (.invokestatic 65, 3) := by decide +kernel
theorem dX7_before_4 : decode cX7_before 4 = .ok (.ifCond .ne 10, 3) := by decide +kernel
theorem dX7_before_7 : decode cX7_before 7 = .ok (.aload_n 0, 1) := by decide +kernel
theorem dX7_before_8 : decode cX7_before 8 = .ok (.ldc 69, 2) := by decide +kernel
theorem dX7_before_10 : decode cX7_before 10 = .ok (.invokevirtual 70, 3) := by decide +kernel
theorem dX7_before_13 : decode cX7_before 13 = .ok (.ireturn, 1) := by decide +kernel
theorem dX7_before_14 : decode cX7_before 14 = .ok (.iload_n 1, 1) := by decide +kernel
theorem dX7_before_15 : decode cX7_before 15 = .ok (.istore_n 2, 1) := by decide +kernel
theorem dX7_before_16 : decode cX7_before 16 = .ok (.iconst 0, 1) := by decide +kernel
theorem dX7_before_17 : decode cX7_before 17 = .ok (.istore_n 3, 1) := by decide +kernel
theorem dX7_before_18 : decode cX7_before 18 = .ok (.iload_n 3, 1) := by decide +kernel
theorem dX7_before_19 : decode cX7_before 19 = .ok (.bipush 16, 2) := by decide +kernel
theorem dX7_before_21 : decode cX7_before 21 = .ok (.if_icmp .ge 32, 3) := by decide +kernel
theorem dX7_before_24 : decode cX7_before 24 = .ok (.aload_n 0, 1) := by decide +kernel
theorem dX7_before_25 : decode cX7_before 25 = .ok (.getfield 12, 3) := by decide +kernel
theorem dX7_before_28 : decode cX7_before 28 = .ok (.iload_n 2, 1) := by decide +kernel
theorem dX7_before_29 : decode cX7_before 29 = .ok (.invokevirtual 170, 3) := by decide +kernel
theorem dX7_before_32 : decode cX7_before 32 = .ok (.ifCond .ne 21, 3) := by decide +kernel
theorem dX7_before_35 : decode cX7_before 35 = .ok (.aload_n 0, 1) := by decide +kernel
theorem dX7_before_36 : decode cX7_before 36 = .ok (.getfield 12, 3) := by decide +kernel
theorem dX7_before_39 : decode cX7_before 39 = .ok (.getfield 80, 3) := by decide +kernel
theorem dX7_before_42 : decode cX7_before 42 = .ok (.iconst 0, 1) := by decide +kernel
theorem dX7_before_43 : decode cX7_before 43 = .ok (.aaload, 1) := by decide +kernel
theorem dX7_before_44 : decode cX7_before 44 = .ok (.iload_n 2, 1) := by decide +kernel
theorem dX7_before_45 : decode cX7_before 45 = .ok (.iaload, 1) := by decide +kernel
theorem dX7_before_46 : decode cX7_before 46 = .ok (.istore_n 2, 1) := by decide +kernel
theorem dX7_before_47 : decode cX7_before 47 = .ok (.iinc 3 1, 3) := by decide +kernel
theorem dX7_before_50 : decode cX7_before 50 = .ok (.goto (-32), 3) := by decide +kernel
theorem dX7_before_53 : decode cX7_before 53 = .ok (.iload_n 3, 1) := by decide +kernel
theorem dX7_before_54 : decode cX7_before 54 = .ok (.ireturn, 1) := by decide +kernel
theorem dX7_shownBy_0 : decode cX7_shownBy 0 = .ok (.iload_n 1, 1) := by decide +kernel
theorem dX7_shownBy_1 : decode cX7_shownBy 1 = .ok (.invokestatic 65, 3) := by decide +kernel
theorem dX7_shownBy_4 : decode cX7_shownBy 4 = .ok (.ifCond .ne 10, 3) := by decide +kernel
theorem dX7_shownBy_7 : decode cX7_shownBy 7 = .ok (.aload_n 0, 1) := by decide +kernel
theorem dX7_shownBy_8 : decode cX7_shownBy 8 = .ok (.ldc 69, 2) := by decide +kernel
theorem dX7_shownBy_10 : decode cX7_shownBy 10 = .ok (.invokevirtual 70, 3) := by decide +kernel
theorem dX7_shownBy_13 : decode cX7_shownBy 13 = .ok (.ireturn, 1) := by decide +kernel
theorem dX7_shownBy_14 : decode cX7_shownBy 14 = .ok (.iconst 0, 1) := by decide +kernel
theorem dX7_shownBy_15 : decode cX7_shownBy 15 = .ok (.istore_n 2, 1) := by decide +kernel
theorem dX7_shownBy_16 : decode cX7_shownBy 16 = .ok (.iconst 0, 1) := by decide +kernel
theorem dX7_shownBy_17 : decode cX7_shownBy 17 = .ok (.istore_n 3, 1) := by decide +kernel
theorem dX7_shownBy_18 : decode cX7_shownBy 18 = .ok (.iload_n 3, 1) := by decide +kernel
theorem dX7_shownBy_19 : decode cX7_shownBy 19 = .ok (.bipush 16, 2) := by decide +kernel
theorem dX7_shownBy_21 : decode cX7_shownBy 21 = .ok (.if_icmp .ge 27, 3) := by decide +kernel
theorem dX7_shownBy_24 : decode cX7_shownBy 24 = .ok (.aload_n 0, 1) := by decide +kernel
theorem dX7_shownBy_25 : decode cX7_shownBy 25 = .ok (.getfield 12, 3) := by decide +kernel
theorem dX7_shownBy_28 : decode cX7_shownBy 28 = .ok (.iload_n 3, 1) := by decide +kernel
theorem dX7_shownBy_29 : decode cX7_shownBy 29 = .ok (.iload_n 1, 1) := by decide +kernel
theorem dX7_shownBy_30 : decode cX7_shownBy 30 = .ok (.invokevirtual 176, 3) := by decide +kernel
theorem dX7_shownBy_33 : decode cX7_shownBy 33 = .ok (.ifCond .eq 9, 3) := by decide +kernel
theorem dX7_shownBy_36 : decode cX7_shownBy 36 = .ok (.iload_n 2, 1) := by decide +kernel
theorem dX7_shownBy_37 : decode cX7_shownBy 37 = .ok (.iconst 1, 1) := by decide +kernel
theorem dX7_shownBy_38 : decode cX7_shownBy 38 = .ok (.iload_n 3, 1) := by decide +kernel
theorem dX7_shownBy_39 : decode cX7_shownBy 39 = .ok (.ishl, 1) := by decide +kernel
theorem dX7_shownBy_40 : decode cX7_shownBy 40 = .ok (.ior, 1) := by decide +kernel
theorem dX7_shownBy_41 : decode cX7_shownBy 41 = .ok (.istore_n 2, 1) := by decide +kernel
theorem dX7_shownBy_42 : decode cX7_shownBy 42 = .ok (.iinc 3 1, 3) := by decide +kernel
theorem dX7_shownBy_45 : decode cX7_shownBy 45 = .ok (.goto (-27), 3) := by decide +kernel
theorem dX7_shownBy_48 : decode cX7_shownBy 48 = .ok (.iload_n 2, 1) := by decide +kernel
theorem dX7_shownBy_49 : decode cX7_shownBy 49 = .ok (.ireturn, 1) := by decide +kernel
theorem dX7_ahead_0 : decode cX7_ahead 0 = .ok (.aload_n 0, 1) := by decide +kernel
theorem dX7_ahead_1 : decode cX7_ahead 1 = .ok (.getfield 12, 3) := by decide +kernel
theorem dX7_ahead_4 : decode cX7_ahead 4 = .ok (.iload_n 1, 1) := by decide +kernel
theorem dX7_ahead_5 : decode cX7_ahead 5 = .ok (.invokevirtual 100, 3) := by decide +kernel
theorem dX7_ahead_8 : decode cX7_ahead 8 = .ok (.ifCond .eq 13, 3) := by decide +kernel
theorem dX7_ahead_11 : decode cX7_ahead 11 = .ok (.iload_n 2, 1) := by decide +kernel
theorem dX7_ahead_12 : decode cX7_ahead 12 = .ok (.ifCond .lt 9, 3) := by decide +kernel
theorem dX7_ahead_15 : decode cX7_ahead 15 = .ok (.iload_n 2, 1) := by decide +kernel
theorem dX7_ahead_16 : decode cX7_ahead 16 = .ok (.bipush 100, 2) := by decide +kernel
theorem dX7_ahead_18 : decode cX7_ahead 18 = .ok (.if_icmp .le 10, 3) := by decide +kernel
theorem dX7_ahead_21 : decode cX7_ahead 21 = .ok (.aload_n 0, 1) := by decide +kernel
theorem dX7_ahead_22 : decode cX7_ahead 22 = .ok (.ldc 69, 2) := by decide +kernel
theorem dX7_ahead_24 : decode cX7_ahead 24 = .ok (.invokevirtual 70, 3) := by decide +kernel
theorem dX7_ahead_27 : decode cX7_ahead 27 = .ok (.ireturn, 1) := by decide +kernel
theorem dX7_ahead_28 : decode cX7_ahead 28 = .ok (.aload_n 0, 1) := by decide +kernel
theorem dX7_ahead_29 : decode cX7_ahead 29 = .ok (.getfield 16, 3) := by decide +kernel
theorem dX7_ahead_32 : decode cX7_ahead 32 = .ok (.aload_n 0, 1) := by decide +kernel
theorem dX7_ahead_33 : decode cX7_ahead 33 = .ok (.getfield 12, 3) := by decide +kernel
theorem dX7_ahead_36 : decode cX7_ahead 36 = .ok (.invokevirtual 179, 3) := by decide +kernel
theorem dX7_ahead_39 : decode cX7_ahead 39 = .ok (.iconst 0, 1) := by decide +kernel
theorem dX7_ahead_40 : decode cX7_ahead 40 = .ok (.istore_n 3, 1) := by decide +kernel
theorem dX7_ahead_41 : decode cX7_ahead 41 = .ok (.iload_n 3, 1) := by decide +kernel
theorem dX7_ahead_42 : decode cX7_ahead 42 = .ok (.iload_n 2, 1) := by decide +kernel
theorem dX7_ahead_43 : decode cX7_ahead 43 = .ok (.if_icmp .ge 16, 3) := by decide +kernel
theorem dX7_ahead_46 : decode cX7_ahead 46 = .ok (.aload_n 0, 1) := by decide +kernel
theorem dX7_ahead_47 : decode cX7_ahead 47 = .ok (.getfield 16, 3) := by decide +kernel
theorem dX7_ahead_50 : decode cX7_ahead 50 = .ok (.invokevirtual 125, 3) := by decide +kernel
theorem dX7_ahead_53 : decode cX7_ahead 53 = .ok (.iinc 3 1, 3) := by decide +kernel
theorem dX7_ahead_56 : decode cX7_ahead 56 = .ok (.goto (-15), 3) := by decide +kernel
theorem dX7_ahead_59 : decode cX7_ahead 59 = .ok (.aload_n 0, 1) := by decide +kernel
theorem dX7_ahead_60 : decode cX7_ahead 60 = .ok (.getfield 16, 3) := by decide +kernel
theorem dX7_ahead_63 : decode cX7_ahead 63 = .ok (.getfield 106, 3) := by decide +kernel
theorem dX7_ahead_66 : decode cX7_ahead 66 = .ok (.iconst 1, 1) := by decide +kernel
theorem dX7_ahead_67 : decode cX7_ahead 67 = .ok (.aaload, 1) := by decide +kernel
theorem dX7_ahead_68 : decode cX7_ahead 68 = .ok (.iload_n 1, 1) := by decide +kernel
theorem dX7_ahead_69 : decode cX7_ahead 69 = .ok (.iaload, 1) := by decide +kernel
theorem dX7_ahead_70 : decode cX7_ahead 70 = .ok (.ireturn, 1) := by decide +kernel
theorem dX7_comes_0 : decode cX7_comes 0 = .ok (.aload_n 0, 1) := by decide +kernel
theorem dX7_comes_1 : decode cX7_comes 1 = .ok (.getfield 12, 3) := by decide +kernel
theorem dX7_comes_4 : decode cX7_comes 4 = .ok (.iload_n 1, 1) := by decide +kernel
theorem dX7_comes_5 : decode cX7_comes 5 = .ok (.invokevirtual 100, 3) := by decide +kernel
theorem dX7_comes_8 : decode cX7_comes 8 = .ok (.ifCond .eq 10, 3) := by decide +kernel
theorem dX7_comes_11 : decode cX7_comes 11 = .ok (.iload_n 2, 1) := by decide +kernel
theorem dX7_comes_12 : decode cX7_comes 12 = .ok (.invokestatic 65, 3) := by decide +kernel
theorem dX7_comes_15 : decode cX7_comes 15 = .ok (.ifCond .ne 10, 3) := by decide +kernel
theorem dX7_comes_18 : decode cX7_comes 18 = .ok (.aload_n 0, 1) := by decide +kernel
theorem dX7_comes_19 : decode cX7_comes 19 = .ok (.ldc 69, 2) := by decide +kernel
theorem dX7_comes_21 : decode cX7_comes 21 = .ok (.invokevirtual 70, 3) := by decide +kernel
theorem dX7_comes_24 : decode cX7_comes 24 = .ok (.ireturn, 1) := by decide +kernel
theorem dX7_comes_25 : decode cX7_comes 25 = .ok (.aload_n 0, 1) := by decide +kernel
theorem dX7_comes_26 : decode cX7_comes 26 = .ok (.getfield 16, 3) := by decide +kernel
theorem dX7_comes_29 : decode cX7_comes 29 = .ok (.aload_n 0, 1) := by decide +kernel
theorem dX7_comes_30 : decode cX7_comes 30 = .ok (.getfield 12, 3) := by decide +kernel
theorem dX7_comes_33 : decode cX7_comes 33 = .ok (.invokevirtual 179, 3) := by decide +kernel
theorem dX7_comes_36 : decode cX7_comes 36 = .ok (.aload_n 0, 1) := by decide +kernel
theorem dX7_comes_37 : decode cX7_comes 37 = .ok (.aload_n 0, 1) := by decide +kernel
theorem dX7_comes_38 : decode cX7_comes 38 = .ok (.getfield 36, 3) := by decide +kernel
theorem dX7_comes_41 : decode cX7_comes 41 = .ok (.aload_n 0, 1) := by decide +kernel
theorem dX7_comes_42 : decode cX7_comes 42 = .ok (.getfield 16, 3) := by decide +kernel
theorem dX7_comes_45 : decode cX7_comes 45 = .ok (.iload_n 1, 1) := by decide +kernel
theorem dX7_comes_46 : decode cX7_comes 46 = .ok (.iload_n 2, 1) := by decide +kernel
theorem dX7_comes_47 : decode cX7_comes 47 = .ok (.invokevirtual 182, 3) := by decide +kernel
theorem dX7_comes_50 : decode cX7_comes 50 = .ok (.invokevirtual 186, 3) := by decide +kernel
theorem dX7_comes_53 : decode cX7_comes 53 = .ok (.ireturn, 1) := by decide +kernel
theorem dX7_seen_0 : decode cX7_seen 0 = .ok (.aload_n 0, 1) := by decide +kernel
theorem dX7_seen_1 : decode cX7_seen 1 = .ok (.getfield 12, 3) := by decide +kernel
theorem dX7_seen_4 : decode cX7_seen 4 = .ok (.iload_n 1, 1) := by decide +kernel
theorem dX7_seen_5 : decode cX7_seen 5 = .ok (.invokevirtual 100, 3) := by decide +kernel
theorem dX7_seen_8 : decode cX7_seen 8 = .ok (.ifCond .eq 10, 3) := by decide +kernel
theorem dX7_seen_11 : decode cX7_seen 11 = .ok (.iload_n 2, 1) := by decide +kernel
theorem dX7_seen_12 : decode cX7_seen 12 = .ok (.invokestatic 65, 3) := by decide +kernel
theorem dX7_seen_15 : decode cX7_seen 15 = .ok (.ifCond .ne 10, 3) := by decide +kernel
theorem dX7_seen_18 : decode cX7_seen 18 = .ok (.aload_n 0, 1) := by decide +kernel
theorem dX7_seen_19 : decode cX7_seen 19 = .ok (.ldc 69, 2) := by decide +kernel
theorem dX7_seen_21 : decode cX7_seen 21 = .ok (.invokevirtual 70, 3) := by decide +kernel
theorem dX7_seen_24 : decode cX7_seen 24 = .ok (.ireturn, 1) := by decide +kernel
theorem dX7_seen_25 : decode cX7_seen 25 = .ok (.aload_n 0, 1) := by decide +kernel
theorem dX7_seen_26 : decode cX7_seen 26 = .ok (.getfield 16, 3) := by decide +kernel
theorem dX7_seen_29 : decode cX7_seen 29 = .ok (.aload_n 0, 1) := by decide +kernel
theorem dX7_seen_30 : decode cX7_seen 30 = .ok (.getfield 12, 3) := by decide +kernel
theorem dX7_seen_33 : decode cX7_seen 33 = .ok (.invokevirtual 179, 3) := by decide +kernel
theorem dX7_seen_36 : decode cX7_seen 36 = .ok (.aload_n 0, 1) := by decide +kernel
theorem dX7_seen_37 : decode cX7_seen 37 = .ok (.aload_n 0, 1) := by decide +kernel
theorem dX7_seen_38 : decode cX7_seen 38 = .ok (.getfield 36, 3) := by decide +kernel
theorem dX7_seen_41 : decode cX7_seen 41 = .ok (.aload_n 0, 1) := by decide +kernel
theorem dX7_seen_42 : decode cX7_seen 42 = .ok (.getfield 16, 3) := by decide +kernel
theorem dX7_seen_45 : decode cX7_seen 45 = .ok (.iload_n 1, 1) := by decide +kernel
theorem dX7_seen_46 : decode cX7_seen 46 = .ok (.aload_n 0, 1) := by decide +kernel
theorem dX7_seen_47 : decode cX7_seen 47 = .ok (.getfield 12, 3) := by decide +kernel
theorem dX7_seen_50 : decode cX7_seen 50 = .ok (.getfield 80, 3) := by decide +kernel
theorem dX7_seen_53 : decode cX7_seen 53 = .ok (.iconst 0, 1) := by decide +kernel
theorem dX7_seen_54 : decode cX7_seen 54 = .ok (.aaload, 1) := by decide +kernel
theorem dX7_seen_55 : decode cX7_seen 55 = .ok (.iload_n 2, 1) := by decide +kernel
theorem dX7_seen_56 : decode cX7_seen 56 = .ok (.iaload, 1) := by decide +kernel
theorem dX7_seen_57 : decode cX7_seen 57 = .ok (.invokevirtual 182, 3) := by decide +kernel
theorem dX7_seen_60 : decode cX7_seen 60 = .ok (.invokevirtual 186, 3) := by decide +kernel
theorem dX7_seen_63 : decode cX7_seen 63 = .ok (.ireturn, 1) := by decide +kernel
theorem dX7_meet_0 : decode cX7_meet 0 = .ok (.aload_n 0, 1) := by decide +kernel
theorem dX7_meet_1 : decode cX7_meet 1 = .ok (.getfield 12, 3) := by decide +kernel
theorem dX7_meet_4 : decode cX7_meet 4 = .ok (.iload_n 1, 1) := by decide +kernel
theorem dX7_meet_5 : decode cX7_meet 5 = .ok (.invokevirtual 100, 3) := by decide +kernel
theorem dX7_meet_8 : decode cX7_meet 8 = .ok (.ifCond .eq 19, 3) := by decide +kernel
theorem dX7_meet_11 : decode cX7_meet 11 = .ok (.aload_n 0, 1) := by decide +kernel
theorem dX7_meet_12 : decode cX7_meet 12 = .ok (.getfield 12, 3) := by decide +kernel
theorem dX7_meet_15 : decode cX7_meet 15 = .ok (.iload_n 2, 1) := by decide +kernel
theorem dX7_meet_16 : decode cX7_meet 16 = .ok (.invokevirtual 100, 3) := by decide +kernel
theorem dX7_meet_19 : decode cX7_meet 19 = .ok (.ifCond .eq 8, 3) := by decide +kernel
theorem dX7_meet_22 : decode cX7_meet 22 = .ok (.iload_n 1, 1) := by decide +kernel
theorem dX7_meet_23 : decode cX7_meet 23 = .ok (.iload_n 2, 1) := by decide +kernel
theorem dX7_meet_24 : decode cX7_meet 24 = .ok (.if_icmp .ne 10, 3) := by decide +kernel
theorem dX7_meet_27 : decode cX7_meet 27 = .ok (.aload_n 0, 1) := by decide +kernel
theorem dX7_meet_28 : decode cX7_meet 28 = .ok (.ldc 69, 2) := by decide +kernel
theorem dX7_meet_30 : decode cX7_meet 30 = .ok (.invokevirtual 70, 3) := by decide +kernel
theorem dX7_meet_33 : decode cX7_meet 33 = .ok (.ireturn, 1) := by decide +kernel
theorem dX7_meet_34 : decode cX7_meet 34 = .ok (.aload_n 0, 1) := by decide +kernel
theorem dX7_meet_35 : decode cX7_meet 35 = .ok (.getfield 16, 3) := by decide +kernel
theorem dX7_meet_38 : decode cX7_meet 38 = .ok (.aload_n 0, 1) := by decide +kernel
theorem dX7_meet_39 : decode cX7_meet 39 = .ok (.getfield 12, 3) := by decide +kernel
theorem dX7_meet_42 : decode cX7_meet 42 = .ok (.invokevirtual 179, 3) := by decide +kernel
theorem dX7_meet_45 : decode cX7_meet 45 = .ok (.aload_n 0, 1) := by decide +kernel
theorem dX7_meet_46 : decode cX7_meet 46 = .ok (.aload_n 0, 1) := by decide +kernel
theorem dX7_meet_47 : decode cX7_meet 47 = .ok (.getfield 36, 3) := by decide +kernel
theorem dX7_meet_50 : decode cX7_meet 50 = .ok (.aload_n 0, 1) := by decide +kernel
theorem dX7_meet_51 : decode cX7_meet 51 = .ok (.getfield 16, 3) := by decide +kernel
theorem dX7_meet_54 : decode cX7_meet 54 = .ok (.iload_n 1, 1) := by decide +kernel
theorem dX7_meet_55 : decode cX7_meet 55 = .ok (.iload_n 2, 1) := by decide +kernel
theorem dX7_meet_56 : decode cX7_meet 56 = .ok (.invokevirtual 189, 3) := by decide +kernel
theorem dX7_meet_59 : decode cX7_meet 59 = .ok (.invokevirtual 186, 3) := by decide +kernel
theorem dX7_meet_62 : decode cX7_meet 62 = .ok (.ireturn, 1) := by decide +kernel
theorem dX7_cast_0 : decode cX7_cast 0 = .ok (.aload_n 0, 1) := by decide +kernel
theorem dX7_cast_1 : decode cX7_cast 1 = .ok (.getfield 12, 3) := by decide +kernel
theorem dX7_cast_4 : decode cX7_cast 4 = .ok (.iload_n 1, 1) := by decide +kernel
theorem dX7_cast_5 : decode cX7_cast 5 = .ok (.invokevirtual 100, 3) := by decide +kernel
theorem dX7_cast_8 : decode cX7_cast 8 = .ok (.ifCond .eq 14, 3) := by decide +kernel
theorem dX7_cast_11 : decode cX7_cast 11 = .ok (.iload_n 2, 1) := by decide +kernel
theorem dX7_cast_12 : decode cX7_cast 12 = .ok (.iconst 1, 1) := by decide +kernel
theorem dX7_cast_13 : decode cX7_cast 13 = .ok (.if_icmp .lt 9, 3) := by decide +kernel
theorem dX7_cast_16 : decode cX7_cast 16 = .ok (.iload_n 2, 1) := by decide +kernel
theorem dX7_cast_17 : decode cX7_cast 17 = .ok (.bipush 100, 2) := by decide +kernel
theorem dX7_cast_19 : decode cX7_cast 19 = .ok (.if_icmp .le 10, 3) := by decide +kernel
theorem dX7_cast_22 : decode cX7_cast 22 = .ok (.aload_n 0, 1) := by decide +kernel
theorem dX7_cast_23 : decode cX7_cast 23 = .ok (.ldc 69, 2) := by decide +kernel
theorem dX7_cast_25 : decode cX7_cast 25 = .ok (.invokevirtual 70, 3) := by decide +kernel
theorem dX7_cast_28 : decode cX7_cast 28 = .ok (.ireturn, 1) := by decide +kernel
theorem dX7_cast_29 : decode cX7_cast 29 = .ok (.aload_n 0, 1) := by decide +kernel
theorem dX7_cast_30 : decode cX7_cast 30 = .ok (.getfield 16, 3) := by decide +kernel
theorem dX7_cast_33 : decode cX7_cast 33 = .ok (.aload_n 0, 1) := by decide +kernel
theorem dX7_cast_34 : decode cX7_cast 34 = .ok (.getfield 12, 3) := by decide +kernel
theorem dX7_cast_37 : decode cX7_cast 37 = .ok (.invokevirtual 179, 3) := by decide +kernel
theorem dX7_cast_40 : decode cX7_cast 40 = .ok (.aload_n 0, 1) := by decide +kernel
theorem dX7_cast_41 : decode cX7_cast 41 = .ok (.getfield 36, 3) := by decide +kernel
theorem dX7_cast_44 : decode cX7_cast 44 = .ok (.aload_n 0, 1) := by decide +kernel
theorem dX7_cast_45 : decode cX7_cast 45 = .ok (.getfield 16, 3) := by decide +kernel
theorem dX7_cast_48 : decode cX7_cast 48 = .ok (.iload_n 1, 1) := by decide +kernel
theorem dX7_cast_49 : decode cX7_cast 49 = .ok (.iload_n 2, 1) := by decide +kernel
theorem dX7_cast_50 : decode cX7_cast 50 = .ok (.invokevirtual 192, 3) := by decide +kernel
theorem dX7_cast_53 : decode cX7_cast 53 = .ok (.ireturn, 1) := by decide +kernel
theorem dX7_kindFor_0 : decode cX7_kindFor 0 = .ok (.aload_n 0, 1) := by decide +kernel
theorem dX7_kindFor_1 : decode cX7_kindFor 1 = .ok (.getfield 12, 3) := by decide +kernel
theorem dX7_kindFor_4 : decode cX7_kindFor 4 = .ok (.iload_n 1, 1) := by decide +kernel
theorem dX7_kindFor_5 : decode cX7_kindFor 5 = .ok (.invokevirtual 100, 3) := by decide +kernel
theorem dX7_kindFor_8 : decode cX7_kindFor 8 = .ok (.ifCond .ne 10, 3) := by decide +kernel
theorem dX7_kindFor_11 : decode cX7_kindFor 11 = .ok (.aload_n 0, 1) := by decide +kernel
theorem dX7_kindFor_12 : decode cX7_kindFor 12 = .ok (.ldc 69, 2) := by decide +kernel
theorem dX7_kindFor_14 : decode cX7_kindFor 14 = .ok (.invokevirtual 70, 3) := by decide +kernel
theorem dX7_kindFor_17 : decode cX7_kindFor 17 = .ok (.ireturn, 1) := by decide +kernel
theorem dX7_kindFor_18 : decode cX7_kindFor 18 = .ok (.iconst 0, 1) := by decide +kernel
theorem dX7_kindFor_19 : decode cX7_kindFor 19 = .ok (.istore_n 2, 1) := by decide +kernel
theorem dX7_kindFor_20 : decode cX7_kindFor 20 = .ok (.iconst (-1), 1) := by decide +kernel
theorem dX7_kindFor_21 : decode cX7_kindFor 21 = .ok (.istore_n 3, 1) := by decide +kernel
theorem dX7_kindFor_22 : decode cX7_kindFor 22 = .ok (.iconst 0, 1) := by decide +kernel
theorem dX7_kindFor_23 : decode cX7_kindFor 23 = .ok (.istore 4, 2) := by decide +kernel
theorem dX7_kindFor_25 : decode cX7_kindFor 25 = .ok (.iload 4, 2) := by decide +kernel
theorem dX7_kindFor_27 : decode cX7_kindFor 27 = .ok (.bipush 7, 2) := by decide +kernel
theorem dX7_kindFor_29 : decode cX7_kindFor 29 = .ok (.if_icmp .ge 62, 3) := by decide +kernel
theorem dX7_kindFor_32 : decode cX7_kindFor 32 = .ok (.aload_n 0, 1) := by decide +kernel
theorem dX7_kindFor_33 : decode cX7_kindFor 33 = .ok (.getfield 16, 3) := by decide +kernel
theorem dX7_kindFor_36 : decode cX7_kindFor 36 = .ok (.aload_n 0, 1) := by decide +kernel
theorem dX7_kindFor_37 : decode cX7_kindFor 37 = .ok (.getfield 12, 3) := by decide +kernel
theorem dX7_kindFor_40 : decode cX7_kindFor 40 = .ok (.invokevirtual 179, 3) := by decide +kernel
theorem dX7_kindFor_43 : decode cX7_kindFor 43 = .ok (.aload_n 0, 1) := by decide +kernel
theorem dX7_kindFor_44 : decode cX7_kindFor 44 = .ok (.getfield 16, 3) := by decide +kernel
theorem dX7_kindFor_47 : decode cX7_kindFor 47 = .ok (.getfield 106, 3) := by decide +kernel
theorem dX7_kindFor_50 : decode cX7_kindFor 50 = .ok (.iconst 0, 1) := by decide +kernel
theorem dX7_kindFor_51 : decode cX7_kindFor 51 = .ok (.aaload, 1) := by decide +kernel
theorem dX7_kindFor_52 : decode cX7_kindFor 52 = .ok (.iload_n 1, 1) := by decide +kernel
theorem dX7_kindFor_53 : decode cX7_kindFor 53 = .ok (.iload 4, 2) := by decide +kernel
theorem dX7_kindFor_55 : decode cX7_kindFor 55 = .ok (.iastore, 1) := by decide +kernel
theorem dX7_kindFor_56 : decode cX7_kindFor 56 = .ok (.aload_n 0, 1) := by decide +kernel
theorem dX7_kindFor_57 : decode cX7_kindFor 57 = .ok (.getfield 36, 3) := by decide +kernel
theorem dX7_kindFor_60 : decode cX7_kindFor 60 = .ok (.aload_n 0, 1) := by decide +kernel
theorem dX7_kindFor_61 : decode cX7_kindFor 61 = .ok (.getfield 16, 3) := by decide +kernel
theorem dX7_kindFor_64 : decode cX7_kindFor 64 = .ok (.iload_n 1, 1) := by decide +kernel
theorem dX7_kindFor_65 : decode cX7_kindFor 65 = .ok (.invokevirtual 195, 3) := by decide +kernel
theorem dX7_kindFor_68 : decode cX7_kindFor 68 = .ok (.invokestatic 199, 3) := by decide +kernel
theorem dX7_kindFor_71 : decode cX7_kindFor 71 = .ok (.istore 5, 2) := by decide +kernel
theorem dX7_kindFor_73 : decode cX7_kindFor 73 = .ok (.iload 5, 2) := by decide +kernel
theorem dX7_kindFor_75 : decode cX7_kindFor 75 = .ok (.iload_n 3, 1) := by decide +kernel
theorem dX7_kindFor_76 : decode cX7_kindFor 76 = .ok (.if_icmp .le 9, 3) := by decide +kernel
theorem dX7_kindFor_79 : decode cX7_kindFor 79 = .ok (.iload 5, 2) := by decide +kernel
theorem dX7_kindFor_81 : decode cX7_kindFor 81 = .ok (.istore_n 3, 1) := by decide +kernel
theorem dX7_kindFor_82 : decode cX7_kindFor 82 = .ok (.iload 4, 2) := by decide +kernel
theorem dX7_kindFor_84 : decode cX7_kindFor 84 = .ok (.istore_n 2, 1) := by decide +kernel
theorem dX7_kindFor_85 : decode cX7_kindFor 85 = .ok (.iinc 4 1, 3) := by decide +kernel
theorem dX7_kindFor_88 : decode cX7_kindFor 88 = .ok (.goto (-63), 3) := by decide +kernel
theorem dX7_kindFor_91 : decode cX7_kindFor 91 = .ok (.iload_n 2, 1) := by decide +kernel
theorem dX7_kindFor_92 : decode cX7_kindFor 92 = .ok (.ireturn, 1) := by decide +kernel
theorem dX7_fits_0 : decode cX7_fits 0 = .ok (.aload_n 0, 1) := by decide +kernel
theorem dX7_fits_1 : decode cX7_fits 1 = .ok (.iload_n 1, 1) := by decide +kernel
theorem dX7_fits_2 : decode cX7_fits 2 = .ok (.iload_n 2, 1) := by decide +kernel
theorem dX7_fits_3 : decode cX7_fits 3 = .ok (.invokevirtual 204, 3) := by decide +kernel
theorem dX7_fits_6 : decode cX7_fits 6 = .ok (.istore_n 3, 1) := by decide +kernel
theorem dX7_fits_7 : decode cX7_fits 7 = .ok (.iload_n 3, 1) := by decide +kernel
theorem dX7_fits_8 : decode cX7_fits 8 = .ok (.ifCond .eq 9, 3) := by decide +kernel
theorem dX7_fits_11 : decode cX7_fits 11 = .ok (.aload_n 0, 1) := by decide +kernel
theorem dX7_fits_12 : decode cX7_fits 12 = .ok (.iload_n 3, 1) := by decide +kernel
theorem dX7_fits_13 : decode cX7_fits 13 = .ok (.invokevirtual 70, 3) := by decide +kernel
theorem dX7_fits_16 : decode cX7_fits 16 = .ok (.ireturn, 1) := by decide +kernel
theorem dX7_fits_17 : decode cX7_fits 17 = .ok (.aload_n 0, 1) := by decide +kernel
theorem dX7_fits_18 : decode cX7_fits 18 = .ok (.aload_n 0, 1) := by decide +kernel
theorem dX7_fits_19 : decode cX7_fits 19 = .ok (.getfield 57, 3) := by decide +kernel
theorem dX7_fits_22 : decode cX7_fits 22 = .ok (.iload_n 1, 1) := by decide +kernel
theorem dX7_fits_23 : decode cX7_fits 23 = .ok (.aaload, 1) := by decide +kernel
theorem dX7_fits_24 : decode cX7_fits 24 = .ok (.iload_n 2, 1) := by decide +kernel
theorem dX7_fits_25 : decode cX7_fits 25 = .ok (.invokevirtual 207, 3) := by decide +kernel
theorem dX7_fits_28 : decode cX7_fits 28 = .ok (.invokestatic 199, 3) := by decide +kernel
theorem dX7_fits_31 : decode cX7_fits 31 = .ok (.ireturn, 1) := by decide +kernel
theorem dX7_lens_0 : decode cX7_lens 0 = .ok (.aload_n 0, 1) := by decide +kernel
theorem dX7_lens_1 : decode cX7_lens 1 = .ok (.iload_n 1, 1) := by decide +kernel
theorem dX7_lens_2 : decode cX7_lens 2 = .ok (.iload_n 2, 1) := by decide +kernel
theorem dX7_lens_3 : decode cX7_lens 3 = .ok (.invokevirtual 204, 3) := by decide +kernel
theorem dX7_lens_6 : decode cX7_lens 6 = .ok (.istore_n 3, 1) := by decide +kernel
theorem dX7_lens_7 : decode cX7_lens 7 = .ok (.iload_n 3, 1) := by decide +kernel
theorem dX7_lens_8 : decode cX7_lens 8 = .ok (.ifCond .eq 9, 3) := by decide +kernel
theorem dX7_lens_11 : decode cX7_lens 11 = .ok (.aload_n 0, 1) := by decide +kernel
theorem dX7_lens_12 : decode cX7_lens 12 = .ok (.iload_n 3, 1) := by decide +kernel
theorem dX7_lens_13 : decode cX7_lens 13 = .ok (.invokevirtual 70, 3) := by decide +kernel
theorem dX7_lens_16 : decode cX7_lens 16 = .ok (.ireturn, 1) := by decide +kernel
theorem dX7_lens_17 : decode cX7_lens 17 = .ok (.aload_n 0, 1) := by decide +kernel
theorem dX7_lens_18 : decode cX7_lens 18 = .ok (.aload_n 0, 1) := by decide +kernel
theorem dX7_lens_19 : decode cX7_lens 19 = .ok (.getfield 57, 3) := by decide +kernel
theorem dX7_lens_22 : decode cX7_lens 22 = .ok (.iload_n 1, 1) := by decide +kernel
theorem dX7_lens_23 : decode cX7_lens 23 = .ok (.aaload, 1) := by decide +kernel
theorem dX7_lens_24 : decode cX7_lens 24 = .ok (.iload_n 2, 1) := by decide +kernel
theorem dX7_lens_25 : decode cX7_lens 25 = .ok (.invokevirtual 207, 3) := by decide +kernel
theorem dX7_lens_28 : decode cX7_lens 28 = .ok (.istore 4, 2) := by decide +kernel
theorem dX7_lens_30 : decode cX7_lens 30 = .ok (.iload 4, 2) := by decide +kernel
theorem dX7_lens_32 : decode cX7_lens 32 = .ok (.ifCond .ne 10, 3) := by decide +kernel
theorem dX7_lens_35 : decode cX7_lens 35 = .ok (.aload_n 0, 1) := by decide +kernel
theorem dX7_lens_36 : decode cX7_lens 36 = .ok (.ldc 165, 2) := by decide +kernel
theorem dX7_lens_38 : decode cX7_lens 38 = .ok (.invokevirtual 70, 3) := by decide +kernel
theorem dX7_lens_41 : decode cX7_lens 41 = .ok (.ireturn, 1) := by decide +kernel
theorem dX7_lens_42 : decode cX7_lens 42 = .ok (.iload 4, 2) := by decide +kernel
theorem dX7_lens_44 : decode cX7_lens 44 = .ok (.invokestatic 211, 3) := by decide +kernel
theorem dX7_lens_47 : decode cX7_lens 47 = .ok (.ireturn, 1) := by decide +kernel
theorem dX7_which_0 : decode cX7_which 0 = .ok (.aload_n 0, 1) := by decide +kernel
theorem dX7_which_1 : decode cX7_which 1 = .ok (.iload_n 1, 1) := by decide +kernel
theorem dX7_which_2 : decode cX7_which 2 = .ok (.invokevirtual 214, 3) := by decide +kernel
theorem dX7_which_5 : decode cX7_which 5 = .ok (.istore_n 2, 1) := by decide +kernel
theorem dX7_which_6 : decode cX7_which 6 = .ok (.iload_n 2, 1) := by decide +kernel
theorem dX7_which_7 : decode cX7_which 7 = .ok (.ifCond .eq 9, 3) := by decide +kernel
theorem dX7_which_10 : decode cX7_which 10 = .ok (.aload_n 0, 1) := by decide +kernel
theorem dX7_which_11 : decode cX7_which 11 = .ok (.iload_n 2, 1) := by decide +kernel
theorem dX7_which_12 : decode cX7_which 12 = .ok (.invokevirtual 70, 3) := by decide +kernel
theorem dX7_which_15 : decode cX7_which 15 = .ok (.ireturn, 1) := by decide +kernel
theorem dX7_which_16 : decode cX7_which 16 = .ok (.aload_n 0, 1) := by decide +kernel
theorem dX7_which_17 : decode cX7_which 17 = .ok (.getfield 16, 3) := by decide +kernel
theorem dX7_which_20 : decode cX7_which 20 = .ok (.aload_n 0, 1) := by decide +kernel
theorem dX7_which_21 : decode cX7_which 21 = .ok (.getfield 12, 3) := by decide +kernel
theorem dX7_which_24 : decode cX7_which 24 = .ok (.invokevirtual 179, 3) := by decide +kernel
theorem dX7_which_27 : decode cX7_which 27 = .ok (.aload_n 0, 1) := by decide +kernel
theorem dX7_which_28 : decode cX7_which 28 = .ok (.getfield 36, 3) := by decide +kernel
theorem dX7_which_31 : decode cX7_which 31 = .ok (.aload_n 0, 1) := by decide +kernel
theorem dX7_which_32 : decode cX7_which 32 = .ok (.getfield 16, 3) := by decide +kernel
theorem dX7_which_35 : decode cX7_which 35 = .ok (.aload_n 0, 1) := by decide +kernel
theorem dX7_which_36 : decode cX7_which 36 = .ok (.getfield 57, 3) := by decide +kernel
theorem dX7_which_39 : decode cX7_which 39 = .ok (.iload_n 1, 1) := by decide +kernel
theorem dX7_which_40 : decode cX7_which 40 = .ok (.aaload, 1) := by decide +kernel
theorem dX7_which_41 : decode cX7_which 41 = .ok (.invokevirtual 217, 3) := by decide +kernel
theorem dX7_which_44 : decode cX7_which 44 = .ok (.ireturn, 1) := by decide +kernel
theorem dX7_eyes_0 : decode cX7_eyes 0 = .ok (.aload_n 0, 1) := by decide +kernel
theorem dX7_eyes_1 : decode cX7_eyes 1 = .ok (.getfield 12, 3) := by decide +kernel
theorem dX7_eyes_4 : decode cX7_eyes 4 = .ok (.invokevirtual 128, 3) := by decide +kernel
theorem dX7_eyes_7 : decode cX7_eyes 7 = .ok (.istore_n 1, 1) := by decide +kernel
theorem dX7_eyes_8 : decode cX7_eyes 8 = .ok (.iconst 0, 1) := by decide +kernel
theorem dX7_eyes_9 : decode cX7_eyes 9 = .ok (.istore_n 2, 1) := by decide +kernel
theorem dX7_eyes_10 : decode cX7_eyes 10 = .ok (.iconst 0, 1) := by decide +kernel
theorem dX7_eyes_11 : decode cX7_eyes 11 = .ok (.istore_n 3, 1) := by decide +kernel
theorem dX7_eyes_12 : decode cX7_eyes 12 = .ok (.iload_n 3, 1) := by decide +kernel
theorem dX7_eyes_13 : decode cX7_eyes 13 = .ok (.bipush 16, 2) := by decide +kernel
theorem dX7_eyes_15 : decode cX7_eyes 15 = .ok (.if_icmp .ge 47, 3) := by decide +kernel
theorem dX7_eyes_18 : decode cX7_eyes 18 = .ok (.iload_n 1, 1) := by decide +kernel
theorem dX7_eyes_19 : decode cX7_eyes 19 = .ok (.iload_n 3, 1) := by decide +kernel
theorem dX7_eyes_20 : decode cX7_eyes 20 = .ok (.ishr, 1) := by decide +kernel
theorem dX7_eyes_21 : decode cX7_eyes 21 = .ok (.iconst 1, 1) := by decide +kernel
theorem dX7_eyes_22 : decode cX7_eyes 22 = .ok (.iand, 1) := by decide +kernel
theorem dX7_eyes_23 : decode cX7_eyes 23 = .ok (.ifCond .eq 33, 3) := by decide +kernel
theorem dX7_eyes_26 : decode cX7_eyes 26 = .ok (.aload_n 0, 1) := by decide +kernel
theorem dX7_eyes_27 : decode cX7_eyes 27 = .ok (.getfield 12, 3) := by decide +kernel
theorem dX7_eyes_30 : decode cX7_eyes 30 = .ok (.iload_n 3, 1) := by decide +kernel
theorem dX7_eyes_31 : decode cX7_eyes 31 = .ok (.invokevirtual 109, 3) := by decide +kernel
theorem dX7_eyes_34 : decode cX7_eyes 34 = .ok (.istore 4, 2) := by decide +kernel
theorem dX7_eyes_36 : decode cX7_eyes 36 = .ok (.iload 4, 2) := by decide +kernel
theorem dX7_eyes_38 : decode cX7_eyes 38 = .ok (.ifCond .ne 10, 3) := by decide +kernel
theorem dX7_eyes_41 : decode cX7_eyes 41 = .ok (.aload_n 0, 1) := by decide +kernel
theorem dX7_eyes_42 : decode cX7_eyes 42 = .ok (.ldc 165, 2) := by decide +kernel
theorem dX7_eyes_44 : decode cX7_eyes 44 = .ok (.invokevirtual 70, 3) := by decide +kernel
theorem dX7_eyes_47 : decode cX7_eyes 47 = .ok (.ireturn, 1) := by decide +kernel
theorem dX7_eyes_48 : decode cX7_eyes 48 = .ok (.iload_n 2, 1) := by decide +kernel
theorem dX7_eyes_49 : decode cX7_eyes 49 = .ok (.iload 4, 2) := by decide +kernel
theorem dX7_eyes_51 : decode cX7_eyes 51 = .ok (.invokestatic 221, 3) := by decide +kernel
theorem dX7_eyes_54 : decode cX7_eyes 54 = .ok (.ior, 1) := by decide +kernel
theorem dX7_eyes_55 : decode cX7_eyes 55 = .ok (.istore_n 2, 1) := by decide +kernel
theorem dX7_eyes_56 : decode cX7_eyes 56 = .ok (.iinc 3 1, 3) := by decide +kernel
theorem dX7_eyes_59 : decode cX7_eyes 59 = .ok (.goto (-47), 3) := by decide +kernel
theorem dX7_eyes_62 : decode cX7_eyes 62 = .ok (.iload_n 2, 1) := by decide +kernel
theorem dX7_eyes_63 : decode cX7_eyes 63 = .ok (.ireturn, 1) := by decide +kernel
theorem dX7_dredge_0 : decode cX7_dredge 0 = .ok (.aload_n 0, 1) := by decide +kernel
theorem dX7_dredge_1 : decode cX7_dredge 1 = .ok (.getfield 12, 3) := by decide +kernel
theorem dX7_dredge_4 : decode cX7_dredge 4 = .ok (.iload_n 1, 1) := by decide +kernel
theorem dX7_dredge_5 : decode cX7_dredge 5 = .ok (.invokevirtual 100, 3) := by decide +kernel
theorem dX7_dredge_8 : decode cX7_dredge 8 = .ok (.ifCond .eq 12, 3) := by decide +kernel
theorem dX7_dredge_11 : decode cX7_dredge 11 = .ok (.iload_n 2, 1) := by decide +kernel
theorem dX7_dredge_12 : decode cX7_dredge 12 = .ok (.ifCond .lt 8, 3) := by decide +kernel
theorem dX7_dredge_15 : decode cX7_dredge 15 = .ok (.iload_n 2, 1) := by decide +kernel
theorem dX7_dredge_16 : decode cX7_dredge 16 = .ok (.iconst 1, 1) := by decide +kernel
theorem dX7_dredge_17 : decode cX7_dredge 17 = .ok (.if_icmp .le 10, 3) := by decide +kernel
theorem dX7_dredge_20 : decode cX7_dredge 20 = .ok (.aload_n 0, 1) := by decide +kernel
theorem dX7_dredge_21 : decode cX7_dredge 21 = .ok (.ldc 69, 2) := by decide +kernel
theorem dX7_dredge_23 : decode cX7_dredge 23 = .ok (.invokevirtual 70, 3) := by decide +kernel
theorem dX7_dredge_26 : decode cX7_dredge 26 = .ok (.ireturn, 1) := by decide +kernel
theorem dX7_dredge_27 : decode cX7_dredge 27 = .ok (.aload_n 0, 1) := by decide +kernel
theorem dX7_dredge_28 : decode cX7_dredge 28 = .ok (.getfield 12, 3) := by decide +kernel
theorem dX7_dredge_31 : decode cX7_dredge 31 = .ok (.aload_n 0, 1) := by decide +kernel
theorem dX7_dredge_32 : decode cX7_dredge 32 = .ok (.getfield 12, 3) := by decide +kernel
theorem dX7_dredge_35 : decode cX7_dredge 35 = .ok (.getfield 106, 3) := by decide +kernel
theorem dX7_dredge_38 : decode cX7_dredge 38 = .ok (.iconst 1, 1) := by decide +kernel
theorem dX7_dredge_39 : decode cX7_dredge 39 = .ok (.aaload, 1) := by decide +kernel
theorem dX7_dredge_40 : decode cX7_dredge 40 = .ok (.iload_n 1, 1) := by decide +kernel
theorem dX7_dredge_41 : decode cX7_dredge 41 = .ok (.iaload, 1) := by decide +kernel
theorem dX7_dredge_42 : decode cX7_dredge 42 = .ok (.invokevirtual 109, 3) := by decide +kernel
theorem dX7_dredge_45 : decode cX7_dredge 45 = .ok (.istore_n 3, 1) := by decide +kernel
theorem dX7_dredge_46 : decode cX7_dredge 46 = .ok (.iconst 0, 1) := by decide +kernel
theorem dX7_dredge_47 : decode cX7_dredge 47 = .ok (.istore 4, 2) := by decide +kernel
theorem dX7_dredge_49 : decode cX7_dredge 49 = .ok (.iconst 0, 1) := by decide +kernel
theorem dX7_dredge_50 : decode cX7_dredge 50 = .ok (.istore 5, 2) := by decide +kernel
theorem dX7_dredge_52 : decode cX7_dredge 52 = .ok (.iconst 0, 1) := by decide +kernel
theorem dX7_dredge_53 : decode cX7_dredge 53 = .ok (.istore 6, 2) := by decide +kernel
theorem dX7_dredge_55 : decode cX7_dredge 55 = .ok (.iload 6, 2) := by decide +kernel
theorem dX7_dredge_57 : decode cX7_dredge 57 = .ok (.bipush 16, 2) := by decide +kernel
theorem dX7_dredge_59 : decode cX7_dredge 59 = .ok (.if_icmp .ge 48, 3) := by decide +kernel
theorem dX7_dredge_62 : decode cX7_dredge 62 = .ok (.aload_n 0, 1) := by decide +kernel
theorem dX7_dredge_63 : decode cX7_dredge 63 = .ok (.getfield 12, 3) := by decide +kernel
theorem dX7_dredge_66 : decode cX7_dredge 66 = .ok (.iload 6, 2) := by decide +kernel
theorem dX7_dredge_68 : decode cX7_dredge 68 = .ok (.invokevirtual 109, 3) := by decide +kernel
theorem dX7_dredge_71 : decode cX7_dredge 71 = .ok (.iload_n 3, 1) := by decide +kernel
theorem dX7_dredge_72 : decode cX7_dredge 72 = .ok (.if_icmp .ne 29, 3) := by decide +kernel
theorem dX7_dredge_75 : decode cX7_dredge 75 = .ok (.iload 4, 2) := by decide +kernel
theorem dX7_dredge_77 : decode cX7_dredge 77 = .ok (.iconst 1, 1) := by decide +kernel
theorem dX7_dredge_78 : decode cX7_dredge 78 = .ok (.iload 6, 2) := by decide +kernel
theorem dX7_dredge_80 : decode cX7_dredge 80 = .ok (.ishl, 1) := by decide +kernel
theorem dX7_dredge_81 : decode cX7_dredge 81 = .ok (.ior, 1) := by decide +kernel
theorem dX7_dredge_82 : decode cX7_dredge 82 = .ok (.istore 4, 2) := by decide +kernel
theorem dX7_dredge_84 : decode cX7_dredge 84 = .ok (.iload 5, 2) := by decide +kernel
theorem dX7_dredge_86 : decode cX7_dredge 86 = .ok (.aload_n 0, 1) := by decide +kernel
theorem dX7_dredge_87 : decode cX7_dredge 87 = .ok (.getfield 12, 3) := by decide +kernel
theorem dX7_dredge_90 : decode cX7_dredge 90 = .ok (.getfield 80, 3) := by decide +kernel
theorem dX7_dredge_93 : decode cX7_dredge 93 = .ok (.iconst 5, 1) := by decide +kernel
theorem dX7_dredge_94 : decode cX7_dredge 94 = .ok (.aaload, 1) := by decide +kernel
theorem dX7_dredge_95 : decode cX7_dredge 95 = .ok (.iload 6, 2) := by decide +kernel
theorem dX7_dredge_97 : decode cX7_dredge 97 = .ok (.iaload, 1) := by decide +kernel
theorem dX7_dredge_98 : decode cX7_dredge 98 = .ok (.iadd, 1) := by decide +kernel
theorem dX7_dredge_99 : decode cX7_dredge 99 = .ok (.istore 5, 2) := by decide +kernel
theorem dX7_dredge_101 : decode cX7_dredge 101 = .ok (.iinc 6 1, 3) := by decide +kernel
theorem dX7_dredge_104 : decode cX7_dredge 104 = .ok (.goto (-49), 3) := by decide +kernel
theorem dX7_dredge_107 : decode cX7_dredge 107 = .ok (.iload_n 2, 1) := by decide +kernel
theorem dX7_dredge_108 : decode cX7_dredge 108 = .ok (.ifCond .ne 8, 3) := by decide +kernel
theorem dX7_dredge_111 : decode cX7_dredge 111 = .ok (.iload 4, 2) := by decide +kernel
theorem dX7_dredge_113 : decode cX7_dredge 113 = .ok (.goto 5, 3) := by decide +kernel
theorem dX7_dredge_116 : decode cX7_dredge 116 = .ok (.iload 5, 2) := by decide +kernel
theorem dX7_dredge_118 : decode cX7_dredge 118 = .ok (.ireturn, 1) := by decide +kernel
theorem dX7_watch_0 : decode cX7_watch 0 = .ok (.iload_n 1, 1) := by decide +kernel
theorem dX7_watch_1 : decode cX7_watch 1 = .ok (.iconst 1, 1) := by decide +kernel
theorem dX7_watch_2 : decode cX7_watch 2 = .ok (.if_icmp .lt 9, 3) := by decide +kernel
theorem dX7_watch_5 : decode cX7_watch 5 = .ok (.iload_n 1, 1) := by decide +kernel
theorem dX7_watch_6 : decode cX7_watch 6 = .ok (.bipush 40, 2) := by decide +kernel
theorem dX7_watch_8 : decode cX7_watch 8 = .ok (.if_icmp .le 10, 3) := by decide +kernel
theorem dX7_watch_11 : decode cX7_watch 11 = .ok (.aload_n 0, 1) := by decide +kernel
theorem dX7_watch_12 : decode cX7_watch 12 = .ok (.ldc 69, 2) := by decide +kernel
theorem dX7_watch_14 : decode cX7_watch 14 = .ok (.invokevirtual 70, 3) := by decide +kernel
theorem dX7_watch_17 : decode cX7_watch 17 = .ok (.ireturn, 1) := by decide +kernel
theorem dX7_watch_18 : decode cX7_watch 18 = .ok (.aload_n 0, 1) := by decide +kernel
theorem dX7_watch_19 : decode cX7_watch 19 = .ok (.getfield 16, 3) := by decide +kernel
theorem dX7_watch_22 : decode cX7_watch 22 = .ok (.aload_n 0, 1) := by decide +kernel
theorem dX7_watch_23 : decode cX7_watch 23 = .ok (.getfield 12, 3) := by decide +kernel
theorem dX7_watch_26 : decode cX7_watch 26 = .ok (.invokevirtual 179, 3) := by decide +kernel
theorem dX7_watch_29 : decode cX7_watch 29 = .ok (.aload_n 0, 1) := by decide +kernel
theorem dX7_watch_30 : decode cX7_watch 30 = .ok (.getfield 36, 3) := by decide +kernel
theorem dX7_watch_33 : decode cX7_watch 33 = .ok (.aload_n 0, 1) := by decide +kernel
theorem dX7_watch_34 : decode cX7_watch 34 = .ok (.getfield 16, 3) := by decide +kernel
theorem dX7_watch_37 : decode cX7_watch 37 = .ok (.iload_n 1, 1) := by decide +kernel
theorem dX7_watch_38 : decode cX7_watch 38 = .ok (.invokevirtual 224, 3) := by decide +kernel
theorem dX7_watch_41 : decode cX7_watch 41 = .ok (.ireturn, 1) := by decide +kernel
theorem dX7_falls_0 : decode cX7_falls 0 = .ok (.iload_n 1, 1) := by decide +kernel
theorem dX7_falls_1 : decode cX7_falls 1 = .ok (.iconst 1, 1) := by decide +kernel
theorem dX7_falls_2 : decode cX7_falls 2 = .ok (.if_icmp .lt 9, 3) := by decide +kernel
theorem dX7_falls_5 : decode cX7_falls 5 = .ok (.iload_n 1, 1) := by decide +kernel
theorem dX7_falls_6 : decode cX7_falls 6 = .ok (.bipush 20, 2) := by decide +kernel
theorem dX7_falls_8 : decode cX7_falls 8 = .ok (.if_icmp .le 10, 3) := by decide +kernel
theorem dX7_falls_11 : decode cX7_falls 11 = .ok (.aload_n 0, 1) := by decide +kernel
theorem dX7_falls_12 : decode cX7_falls 12 = .ok (.ldc 69, 2) := by decide +kernel
theorem dX7_falls_14 : decode cX7_falls 14 = .ok (.invokevirtual 70, 3) := by decide +kernel
theorem dX7_falls_17 : decode cX7_falls 17 = .ok (.ireturn, 1) := by decide +kernel
theorem dX7_falls_18 : decode cX7_falls 18 = .ok (.aload_n 0, 1) := by decide +kernel
theorem dX7_falls_19 : decode cX7_falls 19 = .ok (.getfield 12, 3) := by decide +kernel
theorem dX7_falls_22 : decode cX7_falls 22 = .ok (.getfield 120, 3) := by decide +kernel
theorem dX7_falls_25 : decode cX7_falls 25 = .ok (.ldc 123, 2) := by decide +kernel
theorem dX7_falls_27 : decode cX7_falls 27 = .ok (.iload_n 1, 1) := by decide +kernel
theorem dX7_falls_28 : decode cX7_falls 28 = .ok (.isub, 1) := by decide +kernel
theorem dX7_falls_29 : decode cX7_falls 29 = .ok (.if_icmp .le 10, 3) := by decide +kernel
theorem dX7_falls_32 : decode cX7_falls 32 = .ok (.aload_n 0, 1) := by decide +kernel
theorem dX7_falls_33 : decode cX7_falls 33 = .ok (.ldc 124, 2) := by decide +kernel
theorem dX7_falls_35 : decode cX7_falls 35 = .ok (.invokevirtual 70, 3) := by decide +kernel
theorem dX7_falls_38 : decode cX7_falls 38 = .ok (.ireturn, 1) := by decide +kernel
theorem dX7_falls_39 : decode cX7_falls 39 = .ok (.iconst 0, 1) := by decide +kernel
theorem dX7_falls_40 : decode cX7_falls 40 = .ok (.istore_n 2, 1) := by decide +kernel
theorem dX7_falls_41 : decode cX7_falls 41 = .ok (.iconst 0, 1) := by decide +kernel
theorem dX7_falls_42 : decode cX7_falls 42 = .ok (.istore_n 3, 1) := by decide +kernel
theorem dX7_falls_43 : decode cX7_falls 43 = .ok (.iload_n 3, 1) := by decide +kernel
theorem dX7_falls_44 : decode cX7_falls 44 = .ok (.iload_n 1, 1) := by decide +kernel
theorem dX7_falls_45 : decode cX7_falls 45 = .ok (.if_icmp .ge 36, 3) := by decide +kernel
theorem dX7_falls_48 : decode cX7_falls 48 = .ok (.aload_n 0, 1) := by decide +kernel
theorem dX7_falls_49 : decode cX7_falls 49 = .ok (.getfield 12, 3) := by decide +kernel
theorem dX7_falls_52 : decode cX7_falls 52 = .ok (.invokevirtual 227, 3) := by decide +kernel
theorem dX7_falls_55 : decode cX7_falls 55 = .ok (.aload_n 0, 1) := by decide +kernel
theorem dX7_falls_56 : decode cX7_falls 56 = .ok (.getfield 12, 3) := by decide +kernel
theorem dX7_falls_59 : decode cX7_falls 59 = .ok (.invokevirtual 125, 3) := by decide +kernel
theorem dX7_falls_62 : decode cX7_falls 62 = .ok (.iload_n 2, 1) := by decide +kernel
theorem dX7_falls_63 : decode cX7_falls 63 = .ok (.aload_n 0, 1) := by decide +kernel
theorem dX7_falls_64 : decode cX7_falls 64 = .ok (.getfield 12, 3) := by decide +kernel
theorem dX7_falls_67 : decode cX7_falls 67 = .ok (.invokevirtual 132, 3) := by decide +kernel
theorem dX7_falls_70 : decode cX7_falls 70 = .ok (.invokestatic 199, 3) := by decide +kernel
theorem dX7_falls_73 : decode cX7_falls 73 = .ok (.iadd, 1) := by decide +kernel
theorem dX7_falls_74 : decode cX7_falls 74 = .ok (.istore_n 2, 1) := by decide +kernel
theorem dX7_falls_75 : decode cX7_falls 75 = .ok (.iinc 3 1, 3) := by decide +kernel
theorem dX7_falls_78 : decode cX7_falls 78 = .ok (.goto (-35), 3) := by decide +kernel
theorem dX7_falls_81 : decode cX7_falls 81 = .ok (.iload_n 2, 1) := by decide +kernel
theorem dX7_falls_82 : decode cX7_falls 82 = .ok (.ireturn, 1) := by decide +kernel
theorem dX7_odds_0 : decode cX7_odds 0 = .ok (.iload_n 1, 1) := by decide +kernel
theorem dX7_odds_1 : decode cX7_odds 1 = .ok (.ifCond .lt 18, 3) := by decide +kernel
theorem dX7_odds_4 : decode cX7_odds 4 = .ok (.iload_n 1, 1) := by decide +kernel
theorem dX7_odds_5 : decode cX7_odds 5 = .ok (.bipush 12, 2) := by decide +kernel
theorem dX7_odds_7 : decode cX7_odds 7 = .ok (.if_icmp .gt 12, 3) := by decide +kernel
theorem dX7_odds_10 : decode cX7_odds 10 = .ok (.iload_n 2, 1) := by decide +kernel
theorem dX7_odds_11 : decode cX7_odds 11 = .ok (.ifCond .lt 8, 3) := by decide +kernel
theorem dX7_odds_14 : decode cX7_odds 14 = .ok (.iload_n 2, 1) := by decide +kernel
theorem dX7_odds_15 : decode cX7_odds 15 = .ok (.iconst 1, 1) := by decide +kernel
theorem dX7_odds_16 : decode cX7_odds 16 = .ok (.if_icmp .le 11, 3) := by decide +kernel
theorem dX7_odds_19 : decode cX7_odds 19 = .ok (.aload_n 0, 1) := by decide +kernel
theorem dX7_odds_20 : decode cX7_odds 20 = .ok (.ldc 69, 2) := by decide +kernel
theorem dX7_odds_22 : decode cX7_odds 22 = .ok (.invokevirtual 70, 3) := by decide +kernel
theorem dX7_odds_25 : decode cX7_odds 25 = .ok (.i2l, 1) := by decide +kernel
theorem dX7_odds_26 : decode cX7_odds 26 = .ok (.lreturn, 1) := by decide +kernel
theorem dX7_odds_27 : decode cX7_odds 27 = .ok (.bipush 16, 2) := by decide +kernel
theorem dX7_odds_29 : decode cX7_odds 29 = .ok (.aload_n 0, 1) := by decide +kernel
theorem dX7_odds_30 : decode cX7_odds 30 = .ok (.getfield 12, 3) := by decide +kernel
theorem dX7_odds_33 : decode cX7_odds 33 = .ok (.invokevirtual 132, 3) := by decide +kernel
theorem dX7_odds_36 : decode cX7_odds 36 = .ok (.invokestatic 199, 3) := by decide +kernel
theorem dX7_odds_39 : decode cX7_odds 39 = .ok (.isub, 1) := by decide +kernel
theorem dX7_odds_40 : decode cX7_odds 40 = .ok (.istore_n 3, 1) := by decide +kernel
theorem dX7_odds_41 : decode cX7_odds 41 = .ok (.bipush 16, 2) := by decide +kernel
theorem dX7_odds_43 : decode cX7_odds 43 = .ok (.istore 4, 2) := by decide +kernel
theorem dX7_odds_45 : decode cX7_odds 45 = .ok (.iload 4, 2) := by decide +kernel
theorem dX7_odds_47 : decode cX7_odds 47 = .ok (.iconst 1, 1) := by decide +kernel
theorem dX7_odds_48 : decode cX7_odds 48 = .ok (.if_icmp .le 22, 3) := by decide +kernel
theorem dX7_odds_51 : decode cX7_odds 51 = .ok (.iload_n 3, 1) := by decide +kernel
theorem dX7_odds_52 : decode cX7_odds 52 = .ok (.iconst 2, 1) := by decide +kernel
theorem dX7_odds_53 : decode cX7_odds 53 = .ok (.irem, 1) := by decide +kernel
theorem dX7_odds_54 : decode cX7_odds 54 = .ok (.ifCond .ne 16, 3) := by decide +kernel
theorem dX7_odds_57 : decode cX7_odds 57 = .ok (.iload_n 3, 1) := by decide +kernel
theorem dX7_odds_58 : decode cX7_odds 58 = .ok (.iconst 2, 1) := by decide +kernel
theorem dX7_odds_59 : decode cX7_odds 59 = .ok (.idiv, 1) := by decide +kernel
theorem dX7_odds_60 : decode cX7_odds 60 = .ok (.istore_n 3, 1) := by decide +kernel
theorem dX7_odds_61 : decode cX7_odds 61 = .ok (.iload 4, 2) := by decide +kernel
theorem dX7_odds_63 : decode cX7_odds 63 = .ok (.iconst 2, 1) := by decide +kernel
theorem dX7_odds_64 : decode cX7_odds 64 = .ok (.idiv, 1) := by decide +kernel
theorem dX7_odds_65 : decode cX7_odds 65 = .ok (.istore 4, 2) := by decide +kernel
theorem dX7_odds_67 : decode cX7_odds 67 = .ok (.goto (-22), 3) := by decide +kernel
theorem dX7_odds_70 : decode cX7_odds 70 = .ok (.iload_n 2, 1) := by decide +kernel
theorem dX7_odds_71 : decode cX7_odds 71 = .ok (.ifCond .ne 7, 3) := by decide +kernel
theorem dX7_odds_74 : decode cX7_odds 74 = .ok (.iload_n 3, 1) := by decide +kernel
theorem dX7_odds_75 : decode cX7_odds 75 = .ok (.goto 5, 3) := by decide +kernel
theorem dX7_odds_78 : decode cX7_odds 78 = .ok (.iload 4, 2) := by decide +kernel
theorem dX7_odds_80 : decode cX7_odds 80 = .ok (.istore 5, 2) := by decide +kernel
theorem dX7_odds_82 : decode cX7_odds 82 = .ok (.lconst 1, 1) := by decide +kernel
theorem dX7_odds_83 : decode cX7_odds 83 = .ok (.lstore 6, 2) := by decide +kernel
theorem dX7_odds_85 : decode cX7_odds 85 = .ok (.iconst 0, 1) := by decide +kernel
theorem dX7_odds_86 : decode cX7_odds 86 = .ok (.istore 8, 2) := by decide +kernel
theorem dX7_odds_88 : decode cX7_odds 88 = .ok (.iload 8, 2) := by decide +kernel
theorem dX7_odds_90 : decode cX7_odds 90 = .ok (.iload_n 1, 1) := by decide +kernel
theorem dX7_odds_91 : decode cX7_odds 91 = .ok (.if_icmp .ge 17, 3) := by decide +kernel
theorem dX7_odds_94 : decode cX7_odds 94 = .ok (.lload 6, 2) := by decide +kernel
theorem dX7_odds_96 : decode cX7_odds 96 = .ok (.iload 5, 2) := by decide +kernel
theorem dX7_odds_98 : decode cX7_odds 98 = .ok (.i2l, 1) := by decide +kernel
theorem dX7_odds_99 : decode cX7_odds 99 = .ok (.lmul, 1) := by decide +kernel
theorem dX7_odds_100 : decode cX7_odds 100 = .ok (.lstore 6, 2) := by decide +kernel
theorem dX7_odds_102 : decode cX7_odds 102 = .ok (.iinc 8 1, 3) := by decide +kernel
theorem dX7_odds_105 : decode cX7_odds 105 = .ok (.goto (-17), 3) := by decide +kernel
theorem dX7_odds_108 : decode cX7_odds 108 = .ok (.lload 6, 2) := by decide +kernel
theorem dX7_odds_110 : decode cX7_odds 110 = .ok (.lreturn, 1) := by decide +kernel
theorem dX7_seed_0 : decode cX7_seed 0 = .ok (.aload_n 0, 1) := by decide +kernel
theorem dX7_seed_1 : decode cX7_seed 1 = .ok (.getfield 12, 3) := by decide +kernel
theorem dX7_seed_4 : decode cX7_seed 4 = .ok (.getfield 230, 3) := by decide +kernel
theorem dX7_seed_7 : decode cX7_seed 7 = .ok (.istore_n 2, 1) := by decide +kernel
theorem dX7_seed_8 : decode cX7_seed 8 = .ok (.aload_n 0, 1) := by decide +kernel
theorem dX7_seed_9 : decode cX7_seed 9 = .ok (.getfield 12, 3) := by decide +kernel
theorem dX7_seed_12 : decode cX7_seed 12 = .ok (.iload_n 1, 1) := by decide +kernel
theorem dX7_seed_13 : decode cX7_seed 13 = .ok (.putfield 230, 3) := by decide +kernel
theorem dX7_seed_16 : decode cX7_seed 16 = .ok (.iload_n 2, 1) := by decide +kernel
theorem dX7_seed_17 : decode cX7_seed 17 = .ok (.ireturn, 1) := by decide +kernel
theorem dX7_feed_0 : decode cX7_feed 0 = .ok (.iload_n 2, 1) := by decide +kernel
theorem dX7_feed_1 : decode cX7_feed 1 = .ok (.iconst 1, 1) := by decide +kernel
theorem dX7_feed_2 : decode cX7_feed 2 = .ok (.if_icmp .lt 8, 3) := by decide +kernel
theorem dX7_feed_5 : decode cX7_feed 5 = .ok (.iload_n 2, 1) := by decide +kernel
theorem dX7_feed_6 : decode cX7_feed 6 = .ok (.iconst 4, 1) := by decide +kernel
theorem dX7_feed_7 : decode cX7_feed 7 = .ok (.if_icmp .le 10, 3) := by decide +kernel
theorem dX7_feed_10 : decode cX7_feed 10 = .ok (.aload_n 0, 1) := by decide +kernel
theorem dX7_feed_11 : decode cX7_feed 11 = .ok (.ldc 69, 2) := by decide +kernel
theorem dX7_feed_13 : decode cX7_feed 13 = .ok (.invokevirtual 70, 3) := by decide +kernel
theorem dX7_feed_16 : decode cX7_feed 16 = .ok (.ireturn, 1) := by decide +kernel
theorem dX7_feed_17 : decode cX7_feed 17 = .ok (.iload_n 2, 1) := by decide +kernel
theorem dX7_feed_18 : decode cX7_feed 18 = .ok (.bipush 120, 2) := by decide +kernel
theorem dX7_feed_20 : decode cX7_feed 20 = .ok (.aload_n 0, 1) := by decide +kernel
theorem dX7_feed_21 : decode cX7_feed 21 = .ok (.getfield 43, 3) := by decide +kernel
theorem dX7_feed_24 : decode cX7_feed 24 = .ok (.getfield 233, 3) := by decide +kernel
theorem dX7_feed_27 : decode cX7_feed 27 = .ok (.isub, 1) := by decide +kernel
theorem dX7_feed_28 : decode cX7_feed 28 = .ok (.if_icmp .le 10, 3) := by decide +kernel
theorem dX7_feed_31 : decode cX7_feed 31 = .ok (.aload_n 0, 1) := by decide +kernel
theorem dX7_feed_32 : decode cX7_feed 32 = .ok (.ldc 95, 2) := by decide +kernel
theorem dX7_feed_34 : decode cX7_feed 34 = .ok (.invokevirtual 70, 3) := by decide +kernel
theorem dX7_feed_37 : decode cX7_feed 37 = .ok (.ireturn, 1) := by decide +kernel
theorem dX7_feed_38 : decode cX7_feed 38 = .ok (.iload_n 2, 1) := by decide +kernel
theorem dX7_feed_39 : decode cX7_feed 39 = .ok (.iconst 1, 1) := by decide +kernel
theorem dX7_feed_40 : decode cX7_feed 40 = .ok (.isub, 1) := by decide +kernel
theorem dX7_feed_41 : decode cX7_feed 41 = .ok (.istore_n 3, 1) := by decide +kernel
theorem dX7_feed_42 : decode cX7_feed 42 = .ok (.iload_n 3, 1) := by decide +kernel
theorem dX7_feed_43 : decode cX7_feed 43 = .ok (.ifCond .lt 26, 3) := by decide +kernel
theorem dX7_feed_46 : decode cX7_feed 46 = .ok (.aload_n 0, 1) := by decide +kernel
theorem dX7_feed_47 : decode cX7_feed 47 = .ok (.getfield 43, 3) := by decide +kernel
theorem dX7_feed_50 : decode cX7_feed 50 = .ok (.iload_n 1, 1) := by decide +kernel
theorem dX7_feed_51 : decode cX7_feed 51 = .ok (.bipush 8, 2) := by decide +kernel
theorem dX7_feed_53 : decode cX7_feed 53 = .ok (.iload_n 3, 1) := by decide +kernel
theorem dX7_feed_54 : decode cX7_feed 54 = .ok (.imul, 1) := by decide +kernel
theorem dX7_feed_55 : decode cX7_feed 55 = .ok (.iushr, 1) := by decide +kernel
theorem dX7_feed_56 : decode cX7_feed 56 = .ok (.sipush 255, 3) := by decide +kernel
theorem dX7_feed_59 : decode cX7_feed 59 = .ok (.iand, 1) := by decide +kernel
theorem dX7_feed_60 : decode cX7_feed 60 = .ok (.invokevirtual 236, 3) := by decide +kernel
theorem dX7_feed_63 : decode cX7_feed 63 = .ok (.iinc 3 (-1), 3) := by decide +kernel
theorem dX7_feed_66 : decode cX7_feed 66 = .ok (.goto (-24), 3) := by decide +kernel
theorem dX7_feed_69 : decode cX7_feed 69 = .ok (.aload_n 0, 1) := by decide +kernel
theorem dX7_feed_70 : decode cX7_feed 70 = .ok (.getfield 43, 3) := by decide +kernel
theorem dX7_feed_73 : decode cX7_feed 73 = .ok (.getfield 233, 3) := by decide +kernel
theorem dX7_feed_76 : decode cX7_feed 76 = .ok (.ireturn, 1) := by decide +kernel
theorem dX7_wipe_0 : decode cX7_wipe 0 = .ok (.aload_n 0, 1) := by decide +kernel
theorem dX7_wipe_1 : decode cX7_wipe 1 = .ok (.getfield 43, 3) := by decide +kernel
theorem dX7_wipe_4 : decode cX7_wipe 4 = .ok (.getfield 233, 3) := by decide +kernel
theorem dX7_wipe_7 : decode cX7_wipe 7 = .ok (.istore_n 1, 1) := by decide +kernel
theorem dX7_wipe_8 : decode cX7_wipe 8 = .ok (.aload_n 0, 1) := by decide +kernel
theorem dX7_wipe_9 : decode cX7_wipe 9 = .ok (.getfield 43, 3) := by decide +kernel
theorem dX7_wipe_12 : decode cX7_wipe 12 = .ok (.iconst 0, 1) := by decide +kernel
theorem dX7_wipe_13 : decode cX7_wipe 13 = .ok (.putfield 233, 3) := by decide +kernel
theorem dX7_wipe_16 : decode cX7_wipe 16 = .ok (.iload_n 1, 1) := by decide +kernel
theorem dX7_wipe_17 : decode cX7_wipe 17 = .ok (.ireturn, 1) := by decide +kernel
theorem dX7_text_0 : decode cX7_text 0 = .ok (.aload_n 0, 1) := by decide +kernel
theorem dX7_text_1 : decode cX7_text 1 = .ok (.getfield 16, 3) := by decide +kernel
theorem dX7_text_4 : decode cX7_text 4 = .ok (.aload_n 0, 1) := by decide +kernel
theorem dX7_text_5 : decode cX7_text 5 = .ok (.getfield 12, 3) := by decide +kernel
theorem dX7_text_8 : decode cX7_text 8 = .ok (.invokevirtual 179, 3) := by decide +kernel
theorem dX7_text_11 : decode cX7_text 11 = .ok (.aload_n 0, 1) := by decide +kernel
theorem dX7_text_12 : decode cX7_text 12 = .ok (.getfield 50, 3) := by decide +kernel
theorem dX7_text_15 : decode cX7_text 15 = .ok (.aload_n 0, 1) := by decide +kernel
theorem dX7_text_16 : decode cX7_text 16 = .ok (.getfield 43, 3) := by decide +kernel
theorem dX7_text_19 : decode cX7_text 19 = .ok (.aload_n 0, 1) := by decide +kernel
theorem dX7_text_20 : decode cX7_text 20 = .ok (.getfield 16, 3) := by decide +kernel
theorem dX7_text_23 : decode cX7_text 23 = .ok (.invokevirtual 239, 3) := by decide +kernel
theorem dX7_text_26 : decode cX7_text 26 = .ok (.istore_n 1, 1) := by decide +kernel
theorem dX7_text_27 : decode cX7_text 27 = .ok (.iload_n 1, 1) := by decide +kernel
theorem dX7_text_28 : decode cX7_text 28 = .ok (.ifCond .le 14, 3) := by decide +kernel
theorem dX7_text_31 : decode cX7_text 31 = .ok (.aload_n 0, 1) := by decide +kernel
theorem dX7_text_32 : decode cX7_text 32 = .ok (.getfield 12, 3) := by decide +kernel
theorem dX7_text_35 : decode cX7_text 35 = .ok (.aload_n 0, 1) := by decide +kernel
theorem dX7_text_36 : decode cX7_text 36 = .ok (.getfield 16, 3) := by decide +kernel
theorem dX7_text_39 : decode cX7_text 39 = .ok (.invokevirtual 179, 3) := by decide +kernel
theorem dX7_text_42 : decode cX7_text 42 = .ok (.aload_n 0, 1) := by decide +kernel
theorem dX7_text_43 : decode cX7_text 43 = .ok (.getfield 43, 3) := by decide +kernel
theorem dX7_text_46 : decode cX7_text 46 = .ok (.iconst 0, 1) := by decide +kernel
theorem dX7_text_47 : decode cX7_text 47 = .ok (.putfield 233, 3) := by decide +kernel
theorem dX7_text_50 : decode cX7_text 50 = .ok (.iload_n 1, 1) := by decide +kernel
theorem dX7_text_51 : decode cX7_text 51 = .ok (.ireturn, 1) := by decide +kernel
theorem dX7_hold_0 : decode cX7_hold 0 = .ok (.iload_n 1, 1) := by decide +kernel
theorem dX7_hold_1 : decode cX7_hold 1 = .ok (.invokestatic 243, 3) := by decide +kernel
theorem dX7_hold_4 : decode cX7_hold 4 = .ok (.ifCond .eq 19, 3) := by decide +kernel
theorem dX7_hold_7 : decode cX7_hold 7 = .ok (.iload_n 2, 1) := by decide +kernel
theorem dX7_hold_8 : decode cX7_hold 8 = .ok (.iconst (-1), 1) := by decide +kernel
theorem dX7_hold_9 : decode cX7_hold 9 = .ok (.if_icmp .eq 21, 3) := by decide +kernel
theorem dX7_hold_12 : decode cX7_hold 12 = .ok (.aload_n 0, 1) := by decide +kernel
theorem dX7_hold_13 : decode cX7_hold 13 = .ok (.getfield 12, 3) := by decide +kernel
theorem dX7_hold_16 : decode cX7_hold 16 = .ok (.iload_n 2, 1) := by decide +kernel
theorem dX7_hold_17 : decode cX7_hold 17 = .ok (.invokevirtual 100, 3) := by decide +kernel
theorem dX7_hold_20 : decode cX7_hold 20 = .ok (.ifCond .ne 10, 3) := by decide +kernel
theorem dX7_hold_23 : decode cX7_hold 23 = .ok (.aload_n 0, 1) := by decide +kernel
theorem dX7_hold_24 : decode cX7_hold 24 = .ok (.ldc 69, 2) := by decide +kernel
theorem dX7_hold_26 : decode cX7_hold 26 = .ok (.invokevirtual 70, 3) := by decide +kernel
theorem dX7_hold_29 : decode cX7_hold 29 = .ok (.ireturn, 1) := by decide +kernel
theorem dX7_hold_30 : decode cX7_hold 30 = .ok (.aload_n 0, 1) := by decide +kernel
theorem dX7_hold_31 : decode cX7_hold 31 = .ok (.getfield 12, 3) := by decide +kernel
theorem dX7_hold_34 : decode cX7_hold 34 = .ok (.getfield 246, 3) := by decide +kernel
theorem dX7_hold_37 : decode cX7_hold 37 = .ok (.iload_n 1, 1) := by decide +kernel
theorem dX7_hold_38 : decode cX7_hold 38 = .ok (.iload_n 2, 1) := by decide +kernel
theorem dX7_hold_39 : decode cX7_hold 39 = .ok (.iastore, 1) := by decide +kernel
theorem dX7_hold_40 : decode cX7_hold 40 = .ok (.iconst 1, 1) := by decide +kernel
theorem dX7_hold_41 : decode cX7_hold 41 = .ok (.ireturn, 1) := by decide +kernel
theorem dX7_as_0 : decode cX7_as 0 = .ok (.iload_n 1, 1) := by decide +kernel
theorem dX7_as_1 : decode cX7_as 1 = .ok (.invokestatic 243, 3) := by decide +kernel
theorem dX7_as_4 : decode cX7_as 4 = .ok (.ifCond .eq 10, 3) := by decide +kernel
theorem dX7_as_7 : decode cX7_as 7 = .ok (.iload_n 2, 1) := by decide +kernel
theorem dX7_as_8 : decode cX7_as 8 = .ok (.invokestatic 88, 3) := by decide +kernel
theorem dX7_as_11 : decode cX7_as 11 = .ok (.ifCond .ne 10, 3) := by decide +kernel
theorem dX7_as_14 : decode cX7_as 14 = .ok (.aload_n 0, 1) := by decide +kernel
theorem dX7_as_15 : decode cX7_as 15 = .ok (.ldc 69, 2) := by decide +kernel
theorem dX7_as_17 : decode cX7_as 17 = .ok (.invokevirtual 70, 3) := by decide +kernel
theorem dX7_as_20 : decode cX7_as 20 = .ok (.ireturn, 1) := by decide +kernel
theorem dX7_as_21 : decode cX7_as 21 = .ok (.aload_n 0, 1) := by decide +kernel
theorem dX7_as_22 : decode cX7_as 22 = .ok (.getfield 12, 3) := by decide +kernel
theorem dX7_as_25 : decode cX7_as 25 = .ok (.getfield 246, 3) := by decide +kernel
theorem dX7_as_28 : decode cX7_as 28 = .ok (.iload_n 1, 1) := by decide +kernel
theorem dX7_as_29 : decode cX7_as 29 = .ok (.iaload, 1) := by decide +kernel
theorem dX7_as_30 : decode cX7_as 30 = .ok (.istore_n 3, 1) := by decide +kernel
theorem dX7_as_31 : decode cX7_as 31 = .ok (.aload_n 0, 1) := by decide +kernel
theorem dX7_as_32 : decode cX7_as 32 = .ok (.getfield 12, 3) := by decide +kernel
theorem dX7_as_35 : decode cX7_as 35 = .ok (.iload_n 3, 1) := by decide +kernel
theorem dX7_as_36 : decode cX7_as 36 = .ok (.invokevirtual 100, 3) := by decide +kernel
theorem dX7_as_39 : decode cX7_as 39 = .ok (.ifCond .ne 10, 3) := by decide +kernel
theorem dX7_as_42 : decode cX7_as 42 = .ok (.aload_n 0, 1) := by decide +kernel
theorem dX7_as_43 : decode cX7_as 43 = .ok (.ldc 249, 2) := by decide +kernel
theorem dX7_as_45 : decode cX7_as 45 = .ok (.invokevirtual 70, 3) := by decide +kernel
theorem dX7_as_48 : decode cX7_as 48 = .ok (.ireturn, 1) := by decide +kernel
theorem dX7_as_49 : decode cX7_as 49 = .ok (.aload_n 0, 1) := by decide +kernel
theorem dX7_as_50 : decode cX7_as 50 = .ok (.getfield 12, 3) := by decide +kernel
theorem dX7_as_53 : decode cX7_as 53 = .ok (.iload_n 3, 1) := by decide +kernel
theorem dX7_as_54 : decode cX7_as 54 = .ok (.iload_n 2, 1) := by decide +kernel
theorem dX7_as_55 : decode cX7_as 55 = .ok (.invokevirtual 250, 3) := by decide +kernel
theorem dX7_as_58 : decode cX7_as 58 = .ok (.ifCond .ne 10, 3) := by decide +kernel
theorem dX7_as_61 : decode cX7_as 61 = .ok (.aload_n 0, 1) := by decide +kernel
theorem dX7_as_62 : decode cX7_as 62 = .ok (.ldc 253, 2) := by decide +kernel
theorem dX7_as_64 : decode cX7_as 64 = .ok (.invokevirtual 70, 3) := by decide +kernel
theorem dX7_as_67 : decode cX7_as 67 = .ok (.ireturn, 1) := by decide +kernel
theorem dX7_as_68 : decode cX7_as 68 = .ok (.iload_n 3, 1) := by decide +kernel
theorem dX7_as_69 : decode cX7_as 69 = .ok (.ireturn, 1) := by decide +kernel
theorem dX7_sheet_0 : decode cX7_sheet 0 = .ok (.iload_n 1, 1) := by decide +kernel
theorem dX7_sheet_1 : decode cX7_sheet 1 = .ok (.invokestatic 254, 3) := by decide +kernel
theorem dX7_sheet_4 : decode cX7_sheet 4 = .ok (.ifCond .eq 10, 3) := by decide +kernel
theorem dX7_sheet_7 : decode cX7_sheet 7 = .ok (.iload_n 2, 1) := by decide +kernel
theorem dX7_sheet_8 : decode cX7_sheet 8 = .ok (.invokestatic 257, 3) := by decide +kernel
theorem dX7_sheet_11 : decode cX7_sheet 11 = .ok (.ifCond .ne 10, 3) := by decide +kernel
theorem dX7_sheet_14 : decode cX7_sheet 14 = .ok (.aload_n 0, 1) := by decide +kernel
theorem dX7_sheet_15 : decode cX7_sheet 15 = .ok (.ldc 69, 2) := by decide +kernel
theorem dX7_sheet_17 : decode cX7_sheet 17 = .ok (.invokevirtual 70, 3) := by decide +kernel
theorem dX7_sheet_20 : decode cX7_sheet 20 = .ok (.ireturn, 1) := by decide +kernel
theorem dX7_sheet_21 : decode cX7_sheet 21 = .ok (.iload_n 3, 1) := by decide +kernel
theorem dX7_sheet_22 : decode cX7_sheet 22 = .ok (.ifCond .ge 11, 3) := by decide +kernel
theorem dX7_sheet_25 : decode cX7_sheet 25 = .ok (.aload_n 0, 1) := by decide +kernel
theorem dX7_sheet_26 : decode cX7_sheet 26 = .ok (.ldc_w 260, 3) := by decide +kernel
theorem dX7_sheet_29 : decode cX7_sheet 29 = .ok (.invokevirtual 70, 3) := by decide +kernel
theorem dX7_sheet_32 : decode cX7_sheet 32 = .ok (.ireturn, 1) := by decide +kernel
theorem dX7_sheet_33 : decode cX7_sheet 33 = .ok (.iload_n 3, 1) := by decide +kernel
theorem dX7_sheet_34 : decode cX7_sheet 34 = .ok (.bipush 40, 2) := by decide +kernel
theorem dX7_sheet_36 : decode cX7_sheet 36 = .ok (.if_icmp .le 10, 3) := by decide +kernel
theorem dX7_sheet_39 : decode cX7_sheet 39 = .ok (.aload_n 0, 1) := by decide +kernel
theorem dX7_sheet_40 : decode cX7_sheet 40 = .ok (.ldc 69, 2) := by decide +kernel
theorem dX7_sheet_42 : decode cX7_sheet 42 = .ok (.invokevirtual 70, 3) := by decide +kernel
theorem dX7_sheet_45 : decode cX7_sheet 45 = .ok (.ireturn, 1) := by decide +kernel
theorem dX7_sheet_46 : decode cX7_sheet 46 = .ok (.aload_n 0, 1) := by decide +kernel
theorem dX7_sheet_47 : decode cX7_sheet 47 = .ok (.getfield 57, 3) := by decide +kernel
theorem dX7_sheet_50 : decode cX7_sheet 50 = .ok (.iload_n 1, 1) := by decide +kernel
theorem dX7_sheet_51 : decode cX7_sheet 51 = .ok (.aaload, 1) := by decide +kernel
theorem dX7_sheet_52 : decode cX7_sheet 52 = .ok (.iload_n 2, 1) := by decide +kernel
theorem dX7_sheet_53 : decode cX7_sheet 53 = .ok (.iload_n 3, 1) := by decide +kernel
theorem dX7_sheet_54 : decode cX7_sheet 54 = .ok (.invokevirtual 261, 3) := by decide +kernel
theorem dX7_sheet_57 : decode cX7_sheet 57 = .ok (.aload_n 0, 1) := by decide +kernel
theorem dX7_sheet_58 : decode cX7_sheet 58 = .ok (.getfield 57, 3) := by decide +kernel
theorem dX7_sheet_61 : decode cX7_sheet 61 = .ok (.iload_n 1, 1) := by decide +kernel
theorem dX7_sheet_62 : decode cX7_sheet 62 = .ok (.aaload, 1) := by decide +kernel
theorem dX7_sheet_63 : decode cX7_sheet 63 = .ok (.getfield 265, 3) := by decide +kernel
theorem dX7_sheet_66 : decode cX7_sheet 66 = .ok (.ireturn, 1) := by decide +kernel
theorem dX7_write_0 : decode cX7_write 0 = .ok (.aload_n 0, 1) := by decide +kernel
theorem dX7_write_1 : decode cX7_write 1 = .ok (.iload_n 1, 1) := by decide +kernel
theorem dX7_write_2 : decode cX7_write 2 = .ok (.invokevirtual 214, 3) := by decide +kernel
theorem dX7_write_5 : decode cX7_write 5 = .ok (.istore 4, 2) := by decide +kernel
theorem dX7_write_7 : decode cX7_write 7 = .ok (.iload 4, 2) := by decide +kernel
theorem dX7_write_9 : decode cX7_write 9 = .ok (.ifCond .ne 24, 3) := by decide +kernel
theorem dX7_write_12 : decode cX7_write 12 = .ok (.iload_n 2, 1) := by decide +kernel
theorem dX7_write_13 : decode cX7_write 13 = .ok (.ifCond .lt 16, 3) := by decide +kernel
theorem dX7_write_16 : decode cX7_write 16 = .ok (.iload_n 2, 1) := by decide +kernel
theorem dX7_write_17 : decode cX7_write 17 = .ok (.aload_n 0, 1) := by decide +kernel
theorem dX7_write_18 : decode cX7_write 18 = .ok (.getfield 57, 3) := by decide +kernel
theorem dX7_write_21 : decode cX7_write 21 = .ok (.iload_n 1, 1) := by decide +kernel
theorem dX7_write_22 : decode cX7_write 22 = .ok (.aaload, 1) := by decide +kernel
theorem dX7_write_23 : decode cX7_write 23 = .ok (.getfield 265, 3) := by decide +kernel
theorem dX7_write_26 : decode cX7_write 26 = .ok (.if_icmp .lt 7, 3) := by decide +kernel
theorem dX7_write_29 : decode cX7_write 29 = .ok (.ldc 69, 2) := by decide +kernel
theorem dX7_write_31 : decode cX7_write 31 = .ok (.istore 4, 2) := by decide +kernel
theorem dX7_write_33 : decode cX7_write 33 = .ok (.iload 4, 2) := by decide +kernel
theorem dX7_write_35 : decode cX7_write 35 = .ok (.ifCond .eq 10, 3) := by decide +kernel
theorem dX7_write_38 : decode cX7_write 38 = .ok (.aload_n 0, 1) := by decide +kernel
theorem dX7_write_39 : decode cX7_write 39 = .ok (.iload 4, 2) := by decide +kernel
theorem dX7_write_41 : decode cX7_write 41 = .ok (.invokevirtual 70, 3) := by decide +kernel
theorem dX7_write_44 : decode cX7_write 44 = .ok (.ireturn, 1) := by decide +kernel
theorem dX7_write_45 : decode cX7_write 45 = .ok (.aload_n 0, 1) := by decide +kernel
theorem dX7_write_46 : decode cX7_write 46 = .ok (.getfield 57, 3) := by decide +kernel
theorem dX7_write_49 : decode cX7_write 49 = .ok (.iload_n 1, 1) := by decide +kernel
theorem dX7_write_50 : decode cX7_write 50 = .ok (.aaload, 1) := by decide +kernel
theorem dX7_write_51 : decode cX7_write 51 = .ok (.iload_n 2, 1) := by decide +kernel
theorem dX7_write_52 : decode cX7_write 52 = .ok (.iload_n 3, 1) := by decide +kernel
theorem dX7_write_53 : decode cX7_write 53 = .ok (.invokevirtual 266, 3) := by decide +kernel
theorem dX7_write_56 : decode cX7_write 56 = .ok (.iconst 1, 1) := by decide +kernel
theorem dX7_write_57 : decode cX7_write 57 = .ok (.ireturn, 1) := by decide +kernel
theorem dX7_copy_0 : decode cX7_copy 0 = .ok (.iload_n 1, 1) := by decide +kernel
theorem dX7_copy_1 : decode cX7_copy 1 = .ok (.invokestatic 254, 3) := by decide +kernel
theorem dX7_copy_4 : decode cX7_copy 4 = .ok (.ifCond .eq 10, 3) := by decide +kernel
theorem dX7_copy_7 : decode cX7_copy 7 = .ok (.iload_n 3, 1) := by decide +kernel
theorem dX7_copy_8 : decode cX7_copy 8 = .ok (.invokestatic 254, 3) := by decide +kernel
theorem dX7_copy_11 : decode cX7_copy 11 = .ok (.ifCond .ne 10, 3) := by decide +kernel
theorem dX7_copy_14 : decode cX7_copy 14 = .ok (.aload_n 0, 1) := by decide +kernel
theorem dX7_copy_15 : decode cX7_copy 15 = .ok (.ldc 69, 2) := by decide +kernel
theorem dX7_copy_17 : decode cX7_copy 17 = .ok (.invokevirtual 70, 3) := by decide +kernel
theorem dX7_copy_20 : decode cX7_copy 20 = .ok (.ireturn, 1) := by decide +kernel
theorem dX7_copy_21 : decode cX7_copy 21 = .ok (.aload_n 0, 1) := by decide +kernel
theorem dX7_copy_22 : decode cX7_copy 22 = .ok (.getfield 57, 3) := by decide +kernel
theorem dX7_copy_25 : decode cX7_copy 25 = .ok (.iload_n 1, 1) := by decide +kernel
theorem dX7_copy_26 : decode cX7_copy 26 = .ok (.aaload, 1) := by decide +kernel
theorem dX7_copy_27 : decode cX7_copy 27 = .ok (.astore 6, 2) := by decide +kernel
theorem dX7_copy_29 : decode cX7_copy 29 = .ok (.aload_n 0, 1) := by decide +kernel
theorem dX7_copy_30 : decode cX7_copy 30 = .ok (.getfield 57, 3) := by decide +kernel
theorem dX7_copy_33 : decode cX7_copy 33 = .ok (.iload_n 3, 1) := by decide +kernel
theorem dX7_copy_34 : decode cX7_copy 34 = .ok (.aaload, 1) := by decide +kernel
theorem dX7_copy_35 : decode cX7_copy 35 = .ok (.astore 7, 2) := by decide +kernel
theorem dX7_copy_37 : decode cX7_copy 37 = .ok (.aload 6, 2) := by decide +kernel
theorem dX7_copy_39 : decode cX7_copy 39 = .ok (.invokevirtual 269, 3) := by decide +kernel
theorem dX7_copy_42 : decode cX7_copy 42 = .ok (.ifCond .ne 11, 3) := by decide +kernel
theorem dX7_copy_45 : decode cX7_copy 45 = .ok (.aload 7, 2) := by decide +kernel
theorem dX7_copy_47 : decode cX7_copy 47 = .ok (.invokevirtual 269, 3) := by decide +kernel
theorem dX7_copy_50 : decode cX7_copy 50 = .ok (.ifCond .eq 10, 3) := by decide +kernel
theorem dX7_copy_53 : decode cX7_copy 53 = .ok (.aload_n 0, 1) := by decide +kernel
theorem dX7_copy_54 : decode cX7_copy 54 = .ok (.ldc 249, 2) := by decide +kernel
theorem dX7_copy_56 : decode cX7_copy 56 = .ok (.invokevirtual 70, 3) := by decide +kernel
theorem dX7_copy_59 : decode cX7_copy 59 = .ok (.ireturn, 1) := by decide +kernel
theorem dX7_copy_60 : decode cX7_copy 60 = .ok (.aload 6, 2) := by decide +kernel
theorem dX7_copy_62 : decode cX7_copy 62 = .ok (.getfield 272, 3) := by decide +kernel
theorem dX7_copy_65 : decode cX7_copy 65 = .ok (.aload 7, 2) := by decide +kernel
theorem dX7_copy_67 : decode cX7_copy 67 = .ok (.getfield 272, 3) := by decide +kernel
theorem dX7_copy_70 : decode cX7_copy 70 = .ok (.if_icmp .eq 10, 3) := by decide +kernel
theorem dX7_copy_73 : decode cX7_copy 73 = .ok (.aload_n 0, 1) := by decide +kernel
theorem dX7_copy_74 : decode cX7_copy 74 = .ok (.ldc 253, 2) := by decide +kernel
theorem dX7_copy_76 : decode cX7_copy 76 = .ok (.invokevirtual 70, 3) := by decide +kernel
theorem dX7_copy_79 : decode cX7_copy 79 = .ok (.ireturn, 1) := by decide +kernel
theorem dX7_copy_80 : decode cX7_copy 80 = .ok (.aload 6, 2) := by decide +kernel
theorem dX7_copy_82 : decode cX7_copy 82 = .ok (.iload_n 2, 1) := by decide +kernel
theorem dX7_copy_83 : decode cX7_copy 83 = .ok (.iload 5, 2) := by decide +kernel
theorem dX7_copy_85 : decode cX7_copy 85 = .ok (.invokevirtual 275, 3) := by decide +kernel
theorem dX7_copy_88 : decode cX7_copy 88 = .ok (.ifCond .eq 15, 3) := by decide +kernel
theorem dX7_copy_91 : decode cX7_copy 91 = .ok (.aload 7, 2) := by decide +kernel
theorem dX7_copy_93 : decode cX7_copy 93 = .ok (.iload 4, 2) := by decide +kernel
theorem dX7_copy_95 : decode cX7_copy 95 = .ok (.iload 5, 2) := by decide +kernel
theorem dX7_copy_97 : decode cX7_copy 97 = .ok (.invokevirtual 275, 3) := by decide +kernel
theorem dX7_copy_100 : decode cX7_copy 100 = .ok (.ifCond .ne 10, 3) := by decide +kernel
theorem dX7_copy_103 : decode cX7_copy 103 = .ok (.aload_n 0, 1) := by decide +kernel
theorem dX7_copy_104 : decode cX7_copy 104 = .ok (.ldc 69, 2) := by decide +kernel
theorem dX7_copy_106 : decode cX7_copy 106 = .ok (.invokevirtual 70, 3) := by decide +kernel
theorem dX7_copy_109 : decode cX7_copy 109 = .ok (.ireturn, 1) := by decide +kernel
theorem dX7_copy_110 : decode cX7_copy 110 = .ok (.aload 6, 2) := by decide +kernel
theorem dX7_copy_112 : decode cX7_copy 112 = .ok (.getfield 278, 3) := by decide +kernel
theorem dX7_copy_115 : decode cX7_copy 115 = .ok (.iload_n 2, 1) := by decide +kernel
theorem dX7_copy_116 : decode cX7_copy 116 = .ok (.aload 7, 2) := by decide +kernel
theorem dX7_copy_118 : decode cX7_copy 118 = .ok (.getfield 278, 3) := by decide +kernel
theorem dX7_copy_121 : decode cX7_copy 121 = .ok (.iload 4, 2) := by decide +kernel
theorem dX7_copy_123 : decode cX7_copy 123 = .ok (.iload 5, 2) := by decide +kernel
theorem dX7_copy_125 : decode cX7_copy 125 = .ok (.invokestatic 281, 3) := by decide +kernel
theorem dX7_copy_128 : decode cX7_copy 128 = .ok (.iload 5, 2) := by decide +kernel
theorem dX7_copy_130 : decode cX7_copy 130 = .ok (.ireturn, 1) := by decide +kernel
theorem dX7_load_0 : decode cX7_load 0 = .ok (.aload_n 0, 1) := by decide +kernel
theorem dX7_load_1 : decode cX7_load 1 = .ok (.iload_n 1, 1) := by decide +kernel
theorem dX7_load_2 : decode cX7_load 2 = .ok (.invokevirtual 214, 3) := by decide +kernel
theorem dX7_load_5 : decode cX7_load 5 = .ok (.istore_n 2, 1) := by decide +kernel
theorem dX7_load_6 : decode cX7_load 6 = .ok (.iload_n 2, 1) := by decide +kernel
theorem dX7_load_7 : decode cX7_load 7 = .ok (.ifCond .eq 9, 3) := by decide +kernel
theorem dX7_load_10 : decode cX7_load 10 = .ok (.aload_n 0, 1) := by decide +kernel
theorem dX7_load_11 : decode cX7_load 11 = .ok (.iload_n 2, 1) := by decide +kernel
theorem dX7_load_12 : decode cX7_load 12 = .ok (.invokevirtual 70, 3) := by decide +kernel
theorem dX7_load_15 : decode cX7_load 15 = .ok (.ireturn, 1) := by decide +kernel
theorem dX7_load_16 : decode cX7_load 16 = .ok (.aload_n 0, 1) := by decide +kernel
theorem dX7_load_17 : decode cX7_load 17 = .ok (.getfield 57, 3) := by decide +kernel
theorem dX7_load_20 : decode cX7_load 20 = .ok (.iload_n 1, 1) := by decide +kernel
theorem dX7_load_21 : decode cX7_load 21 = .ok (.aaload, 1) := by decide +kernel
theorem dX7_load_22 : decode cX7_load 22 = .ok (.astore_n 3, 1) := by decide +kernel
theorem dX7_load_23 : decode cX7_load 23 = .ok (.iconst 0, 1) := by decide +kernel
theorem dX7_load_24 : decode cX7_load 24 = .ok (.istore 4, 2) := by decide +kernel
theorem dX7_load_26 : decode cX7_load 26 = .ok (.iload 4, 2) := by decide +kernel
theorem dX7_load_28 : decode cX7_load 28 = .ok (.aload_n 3, 1) := by decide +kernel
theorem dX7_load_29 : decode cX7_load 29 = .ok (.getfield 265, 3) := by decide +kernel
theorem dX7_load_32 : decode cX7_load 32 = .ok (.if_icmp .ge 43, 3) := by decide +kernel
theorem dX7_load_35 : decode cX7_load 35 = .ok (.iload 4, 2) := by decide +kernel
theorem dX7_load_37 : decode cX7_load 37 = .ok (.aload_n 3, 1) := by decide +kernel
theorem dX7_load_38 : decode cX7_load 38 = .ok (.getfield 278, 3) := by decide +kernel
theorem dX7_load_41 : decode cX7_load 41 = .ok (.iload 4, 2) := by decide +kernel
theorem dX7_load_43 : decode cX7_load 43 = .ok (.iaload, 1) := by decide +kernel
theorem dX7_load_44 : decode cX7_load 44 = .ok (.invokestatic 287, 3) := by decide +kernel
theorem dX7_load_47 : decode cX7_load 47 = .ok (.ifCond .eq 28, 3) := by decide +kernel
theorem dX7_load_50 : decode cX7_load 50 = .ok (.aload_n 0, 1) := by decide +kernel
theorem dX7_load_51 : decode cX7_load 51 = .ok (.getfield 12, 3) := by decide +kernel
theorem dX7_load_54 : decode cX7_load 54 = .ok (.getfield 80, 3) := by decide +kernel
theorem dX7_load_57 : decode cX7_load 57 = .ok (.iconst 5, 1) := by decide +kernel
theorem dX7_load_58 : decode cX7_load 58 = .ok (.aaload, 1) := by decide +kernel
theorem dX7_load_59 : decode cX7_load 59 = .ok (.iload 4, 2) := by decide +kernel
theorem dX7_load_61 : decode cX7_load 61 = .ok (.aload_n 3, 1) := by decide +kernel
theorem dX7_load_62 : decode cX7_load 62 = .ok (.getfield 278, 3) := by decide +kernel
theorem dX7_load_65 : decode cX7_load 65 = .ok (.iload 4, 2) := by decide +kernel
theorem dX7_load_67 : decode cX7_load 67 = .ok (.iaload, 1) := by decide +kernel
theorem dX7_load_68 : decode cX7_load 68 = .ok (.iastore, 1) := by decide +kernel
theorem dX7_load_69 : decode cX7_load 69 = .ok (.iinc 4 1, 3) := by decide +kernel
theorem dX7_load_72 : decode cX7_load 72 = .ok (.goto (-46), 3) := by decide +kernel
theorem dX7_load_75 : decode cX7_load 75 = .ok (.iload 4, 2) := by decide +kernel
theorem dX7_load_77 : decode cX7_load 77 = .ok (.ireturn, 1) := by decide +kernel
theorem dX7_judge_0 : decode cX7_judge 0 = .ok (.aload_n 0, 1) := by decide +kernel
theorem dX7_judge_1 : decode cX7_judge 1 = .ok (.iload_n 1, 1) := by decide +kernel
theorem dX7_judge_2 : decode cX7_judge 2 = .ok (.invokevirtual 214, 3) := by decide +kernel
theorem dX7_judge_5 : decode cX7_judge 5 = .ok (.istore_n 2, 1) := by decide +kernel
theorem dX7_judge_6 : decode cX7_judge 6 = .ok (.iload_n 2, 1) := by decide +kernel
theorem dX7_judge_7 : decode cX7_judge 7 = .ok (.ifCond .eq 9, 3) := by decide +kernel
theorem dX7_judge_10 : decode cX7_judge 10 = .ok (.aload_n 0, 1) := by decide +kernel
theorem dX7_judge_11 : decode cX7_judge 11 = .ok (.iload_n 2, 1) := by decide +kernel
theorem dX7_judge_12 : decode cX7_judge 12 = .ok (.invokevirtual 70, 3) := by decide +kernel
theorem dX7_judge_15 : decode cX7_judge 15 = .ok (.ireturn, 1) := by decide +kernel
theorem dX7_judge_16 : decode cX7_judge 16 = .ok (.aload_n 0, 1) := by decide +kernel
theorem dX7_judge_17 : decode cX7_judge 17 = .ok (.getfield 57, 3) := by decide +kernel
theorem dX7_judge_20 : decode cX7_judge 20 = .ok (.iload_n 1, 1) := by decide +kernel
theorem dX7_judge_21 : decode cX7_judge 21 = .ok (.aaload, 1) := by decide +kernel
theorem dX7_judge_22 : decode cX7_judge 22 = .ok (.astore_n 3, 1) := by decide +kernel
theorem dX7_judge_23 : decode cX7_judge 23 = .ok (.iconst 0, 1) := by decide +kernel
theorem dX7_judge_24 : decode cX7_judge 24 = .ok (.istore 4, 2) := by decide +kernel
theorem dX7_judge_26 : decode cX7_judge 26 = .ok (.iload 4, 2) := by decide +kernel
theorem dX7_judge_28 : decode cX7_judge 28 = .ok (.aload_n 3, 1) := by decide +kernel
theorem dX7_judge_29 : decode cX7_judge 29 = .ok (.getfield 265, 3) := by decide +kernel
theorem dX7_judge_32 : decode cX7_judge 32 = .ok (.if_icmp .ge 60, 3) := by decide +kernel
theorem dX7_judge_35 : decode cX7_judge 35 = .ok (.aload_n 3, 1) := by decide +kernel
theorem dX7_judge_36 : decode cX7_judge 36 = .ok (.getfield 278, 3) := by decide +kernel
theorem dX7_judge_39 : decode cX7_judge 39 = .ok (.iload 4, 2) := by decide +kernel
theorem dX7_judge_41 : decode cX7_judge 41 = .ok (.iaload, 1) := by decide +kernel
theorem dX7_judge_42 : decode cX7_judge 42 = .ok (.istore 5, 2) := by decide +kernel
theorem dX7_judge_44 : decode cX7_judge 44 = .ok (.iload 5, 2) := by decide +kernel
theorem dX7_judge_46 : decode cX7_judge 46 = .ok (.invokestatic 65, 3) := by decide +kernel
theorem dX7_judge_49 : decode cX7_judge 49 = .ok (.ifCond .eq 32, 3) := by decide +kernel
theorem dX7_judge_52 : decode cX7_judge 52 = .ok (.iload 4, 2) := by decide +kernel
theorem dX7_judge_54 : decode cX7_judge 54 = .ok (.ifCond .le 32, 3) := by decide +kernel
theorem dX7_judge_57 : decode cX7_judge 57 = .ok (.aload_n 0, 1) := by decide +kernel
theorem dX7_judge_58 : decode cX7_judge 58 = .ok (.getfield 12, 3) := by decide +kernel
theorem dX7_judge_61 : decode cX7_judge 61 = .ok (.getfield 80, 3) := by decide +kernel
theorem dX7_judge_64 : decode cX7_judge 64 = .ok (.iconst 0, 1) := by decide +kernel
theorem dX7_judge_65 : decode cX7_judge 65 = .ok (.aaload, 1) := by decide +kernel
theorem dX7_judge_66 : decode cX7_judge 66 = .ok (.aload_n 3, 1) := by decide +kernel
theorem dX7_judge_67 : decode cX7_judge 67 = .ok (.getfield 278, 3) := by decide +kernel
theorem dX7_judge_70 : decode cX7_judge 70 = .ok (.iload 4, 2) := by decide +kernel
theorem dX7_judge_72 : decode cX7_judge 72 = .ok (.iconst 1, 1) := by decide +kernel
theorem dX7_judge_73 : decode cX7_judge 73 = .ok (.isub, 1) := by decide +kernel
theorem dX7_judge_74 : decode cX7_judge 74 = .ok (.iaload, 1) := by decide +kernel
theorem dX7_judge_75 : decode cX7_judge 75 = .ok (.iaload, 1) := by decide +kernel
theorem dX7_judge_76 : decode cX7_judge 76 = .ok (.iload 5, 2) := by decide +kernel
theorem dX7_judge_78 : decode cX7_judge 78 = .ok (.if_icmp .eq 8, 3) := by decide +kernel
theorem dX7_judge_81 : decode cX7_judge 81 = .ok (.iconst 1, 1) := by decide +kernel
theorem dX7_judge_82 : decode cX7_judge 82 = .ok (.iload 4, 2) := by decide +kernel
theorem dX7_judge_84 : decode cX7_judge 84 = .ok (.iadd, 1) := by decide +kernel
theorem dX7_judge_85 : decode cX7_judge 85 = .ok (.ireturn, 1) := by decide +kernel
theorem dX7_judge_86 : decode cX7_judge 86 = .ok (.iinc 4 1, 3) := by decide +kernel
theorem dX7_judge_89 : decode cX7_judge 89 = .ok (.goto (-63), 3) := by decide +kernel
theorem dX7_judge_92 : decode cX7_judge 92 = .ok (.iconst 0, 1) := by decide +kernel
theorem dX7_judge_93 : decode cX7_judge 93 = .ok (.ireturn, 1) := by decide +kernel
theorem dX7_image_0 : decode cX7_image 0 = .ok (.aload_n 0, 1) := by decide +kernel
theorem dX7_image_1 : decode cX7_image 1 = .ok (.getfield 19, 3) := by decide +kernel
theorem dX7_image_4 : decode cX7_image 4 = .ok (.aload_n 0, 1) := by decide +kernel
theorem dX7_image_5 : decode cX7_image 5 = .ok (.getfield 12, 3) := by decide +kernel
theorem dX7_image_8 : decode cX7_image 8 = .ok (.invokevirtual 179, 3) := by decide +kernel
theorem dX7_image_11 : decode cX7_image 11 = .ok (.aload_n 0, 1) := by decide +kernel
theorem dX7_image_12 : decode cX7_image 12 = .ok (.iconst 1, 1) := by decide +kernel
theorem dX7_image_13 : decode cX7_image 13 = .ok (.putfield 22, 3) := by decide +kernel
theorem dX7_image_16 : decode cX7_image 16 = .ok (.iconst 1, 1) := by decide +kernel
theorem dX7_image_17 : decode cX7_image 17 = .ok (.ireturn, 1) := by decide +kernel
theorem dX7_undo_0 : decode cX7_undo 0 = .ok (.aload_n 0, 1) := by decide +kernel
theorem dX7_undo_1 : decode cX7_undo 1 = .ok (.getfield 22, 3) := by decide +kernel
theorem dX7_undo_4 : decode cX7_undo 4 = .ok (.ifCond .ne 10, 3) := by decide +kernel
theorem dX7_undo_7 : decode cX7_undo 7 = .ok (.aload_n 0, 1) := by decide +kernel
theorem dX7_undo_8 : decode cX7_undo 8 = .ok (.ldc 165, 2) := by decide +kernel
theorem dX7_undo_10 : decode cX7_undo 10 = .ok (.invokevirtual 70, 3) := by decide +kernel
theorem dX7_undo_13 : decode cX7_undo 13 = .ok (.ireturn, 1) := by decide +kernel
theorem dX7_undo_14 : decode cX7_undo 14 = .ok (.aload_n 0, 1) := by decide +kernel
theorem dX7_undo_15 : decode cX7_undo 15 = .ok (.getfield 12, 3) := by decide +kernel
theorem dX7_undo_18 : decode cX7_undo 18 = .ok (.aload_n 0, 1) := by decide +kernel
theorem dX7_undo_19 : decode cX7_undo 19 = .ok (.getfield 19, 3) := by decide +kernel
theorem dX7_undo_22 : decode cX7_undo 22 = .ok (.invokevirtual 179, 3) := by decide +kernel
theorem dX7_undo_25 : decode cX7_undo 25 = .ok (.aload_n 0, 1) := by decide +kernel
theorem dX7_undo_26 : decode cX7_undo 26 = .ok (.getfield 12, 3) := by decide +kernel
theorem dX7_undo_29 : decode cX7_undo 29 = .ok (.getfield 120, 3) := by decide +kernel
theorem dX7_undo_32 : decode cX7_undo 32 = .ok (.ireturn, 1) := by decide +kernel
theorem dX7_tear_0 : decode cX7_tear 0 = .ok (.aload_n 0, 1) := by decide +kernel
theorem dX7_tear_1 : decode cX7_tear 1 = .ok (.getfield 22, 3) := by decide +kernel
theorem dX7_tear_4 : decode cX7_tear 4 = .ok (.ifCond .eq 7, 3) := by decide +kernel
theorem dX7_tear_7 : decode cX7_tear 7 = .ok (.iconst 1, 1) := by decide +kernel
theorem dX7_tear_8 : decode cX7_tear 8 = .ok (.goto 4, 3) := by decide +kernel
theorem dX7_tear_11 : decode cX7_tear 11 = .ok (.iconst 0, 1) := by decide +kernel
theorem dX7_tear_12 : decode cX7_tear 12 = .ok (.istore_n 1, 1) := by decide +kernel
theorem dX7_tear_13 : decode cX7_tear 13 = .ok (.aload_n 0, 1) := by decide +kernel
theorem dX7_tear_14 : decode cX7_tear 14 = .ok (.iconst 0, 1) := by decide +kernel
theorem dX7_tear_15 : decode cX7_tear 15 = .ok (.putfield 22, 3) := by decide +kernel
theorem dX7_tear_18 : decode cX7_tear 18 = .ok (.iload_n 1, 1) := by decide +kernel
theorem dX7_tear_19 : decode cX7_tear 19 = .ok (.ireturn, 1) := by decide +kernel
theorem dX7_count_0 : decode cX7_count 0 = .ok (.iload_n 1, 1) := by decide +kernel
theorem dX7_count_1 : decode cX7_count 1 = .ok (.tableswitch 117 0 7 #[47, 55, 63, 74, 85, 93, 101, 109], 47) := by decide +kernel
theorem dX7_count_48 : decode cX7_count 48 = .ok (.aload_n 0, 1) := by decide +kernel
theorem dX7_count_49 : decode cX7_count 49 = .ok (.getfield 12, 3) := by decide +kernel
theorem dX7_count_52 : decode cX7_count 52 = .ok (.getfield 120, 3) := by decide +kernel
theorem dX7_count_55 : decode cX7_count 55 = .ok (.ireturn, 1) := by decide +kernel
theorem dX7_count_56 : decode cX7_count 56 = .ok (.aload_n 0, 1) := by decide +kernel
theorem dX7_count_57 : decode cX7_count 57 = .ok (.getfield 12, 3) := by decide +kernel
theorem dX7_count_60 : decode cX7_count 60 = .ok (.getfield 290, 3) := by decide +kernel
theorem dX7_count_63 : decode cX7_count 63 = .ok (.ireturn, 1) := by decide +kernel
theorem dX7_count_64 : decode cX7_count 64 = .ok (.aload_n 0, 1) := by decide +kernel
theorem dX7_count_65 : decode cX7_count 65 = .ok (.getfield 12, 3) := by decide +kernel
theorem dX7_count_68 : decode cX7_count 68 = .ok (.invokevirtual 128, 3) := by decide +kernel
theorem dX7_count_71 : decode cX7_count 71 = .ok (.invokestatic 199, 3) := by decide +kernel
theorem dX7_count_74 : decode cX7_count 74 = .ok (.ireturn, 1) := by decide +kernel
theorem dX7_count_75 : decode cX7_count 75 = .ok (.aload_n 0, 1) := by decide +kernel
theorem dX7_count_76 : decode cX7_count 76 = .ok (.getfield 12, 3) := by decide +kernel
theorem dX7_count_79 : decode cX7_count 79 = .ok (.invokevirtual 132, 3) := by decide +kernel
theorem dX7_count_82 : decode cX7_count 82 = .ok (.invokestatic 199, 3) := by decide +kernel
theorem dX7_count_85 : decode cX7_count 85 = .ok (.ireturn, 1) := by decide +kernel
theorem dX7_count_86 : decode cX7_count 86 = .ok (.aload_n 0, 1) := by decide +kernel
theorem dX7_count_87 : decode cX7_count 87 = .ok (.getfield 12, 3) := by decide +kernel
theorem dX7_count_90 : decode cX7_count 90 = .ok (.invokevirtual 135, 3) := by decide +kernel
theorem dX7_count_93 : decode cX7_count 93 = .ok (.ireturn, 1) := by decide +kernel
theorem dX7_count_94 : decode cX7_count 94 = .ok (.aload_n 0, 1) := by decide +kernel
theorem dX7_count_95 : decode cX7_count 95 = .ok (.getfield 43, 3) := by decide +kernel
theorem dX7_count_98 : decode cX7_count 98 = .ok (.getfield 233, 3) := by decide +kernel
theorem dX7_count_101 : decode cX7_count 101 = .ok (.ireturn, 1) := by decide +kernel
theorem dX7_count_102 : decode cX7_count 102 = .ok (.aload_n 0, 1) := by decide +kernel
theorem dX7_count_103 : decode cX7_count 103 = .ok (.getfield 12, 3) := by decide +kernel
theorem dX7_count_106 : decode cX7_count 106 = .ok (.getfield 230, 3) := by decide +kernel
theorem dX7_count_109 : decode cX7_count 109 = .ok (.ireturn, 1) := by decide +kernel
theorem dX7_count_110 : decode cX7_count 110 = .ok (.aload_n 0, 1) := by decide +kernel
theorem dX7_count_111 : decode cX7_count 111 = .ok (.getfield 12, 3) := by decide +kernel
theorem dX7_count_114 : decode cX7_count 114 = .ok (.invokevirtual 291, 3) := by decide +kernel
theorem dX7_count_117 : decode cX7_count 117 = .ok (.ireturn, 1) := by decide +kernel
theorem dX7_count_118 : decode cX7_count 118 = .ok (.aload_n 0, 1) := by decide +kernel
theorem dX7_count_119 : decode cX7_count 119 = .ok (.ldc 69, 2) := by decide +kernel
theorem dX7_count_121 : decode cX7_count 121 = .ok (.invokevirtual 70, 3) := by decide +kernel
theorem dX7_count_124 : decode cX7_count 124 = .ok (.ireturn, 1) := by decide +kernel
theorem dX7_status_0 : decode cX7_status 0 = .ok (.iload_n 1, 1) := by decide +kernel
theorem dX7_status_1 : decode cX7_status 1 = .ok (.iconst (-1), 1) := by decide +kernel
theorem dX7_status_2 : decode cX7_status 2 = .ok (.if_icmp .lt 9, 3) := by decide +kernel
theorem dX7_status_5 : decode cX7_status 5 = .ok (.iload_n 1, 1) := by decide +kernel
theorem dX7_status_6 : decode cX7_status 6 = .ok (.bipush 7, 2) := by decide +kernel
theorem dX7_status_8 : decode cX7_status 8 = .ok (.if_icmp .lt 10, 3) := by decide +kernel
theorem dX7_status_11 : decode cX7_status 11 = .ok (.aload_n 0, 1) := by decide +kernel
theorem dX7_status_12 : decode cX7_status 12 = .ok (.ldc 69, 2) := by decide +kernel
theorem dX7_status_14 : decode cX7_status 14 = .ok (.invokevirtual 70, 3) := by decide +kernel
theorem dX7_status_17 : decode cX7_status 17 = .ok (.ireturn, 1) := by decide +kernel
theorem dX7_status_18 : decode cX7_status 18 = .ok (.iload_n 1, 1) := by decide +kernel
theorem dX7_status_19 : decode cX7_status 19 = .ok (.ifCond .lt 10, 3) := by decide +kernel
theorem dX7_status_22 : decode cX7_status 22 = .ok (.aload_n 0, 1) := by decide +kernel
theorem dX7_status_23 : decode cX7_status 23 = .ok (.getfield 61, 3) := by decide +kernel
theorem dX7_status_26 : decode cX7_status 26 = .ok (.iload_n 1, 1) := by decide +kernel
theorem dX7_status_27 : decode cX7_status 27 = .ok (.iaload, 1) := by decide +kernel
theorem dX7_status_28 : decode cX7_status 28 = .ok (.ireturn, 1) := by decide +kernel
theorem dX7_status_29 : decode cX7_status 29 = .ok (.iconst 0, 1) := by decide +kernel
theorem dX7_status_30 : decode cX7_status 30 = .ok (.istore_n 2, 1) := by decide +kernel
theorem dX7_status_31 : decode cX7_status 31 = .ok (.aload_n 0, 1) := by decide +kernel
theorem dX7_status_32 : decode cX7_status 32 = .ok (.getfield 61, 3) := by decide +kernel
theorem dX7_status_35 : decode cX7_status 35 = .ok (.astore_n 3, 1) := by decide +kernel
theorem dX7_status_36 : decode cX7_status 36 = .ok (.aload_n 3, 1) := by decide +kernel
theorem dX7_status_37 : decode cX7_status 37 = .ok (.arraylength, 1) := by decide +kernel
theorem dX7_status_38 : decode cX7_status 38 = .ok (.istore 4, 2) := by decide +kernel
theorem dX7_status_40 : decode cX7_status 40 = .ok (.iconst 0, 1) := by decide +kernel
theorem dX7_status_41 : decode cX7_status 41 = .ok (.istore 5, 2) := by decide +kernel
theorem dX7_status_43 : decode cX7_status 43 = .ok (.iload 5, 2) := by decide +kernel
theorem dX7_status_45 : decode cX7_status 45 = .ok (.iload 4, 2) := by decide +kernel
theorem dX7_status_47 : decode cX7_status 47 = .ok (.if_icmp .ge 20, 3) := by decide +kernel
theorem dX7_status_50 : decode cX7_status 50 = .ok (.aload_n 3, 1) := by decide +kernel
theorem dX7_status_51 : decode cX7_status 51 = .ok (.iload 5, 2) := by decide +kernel
theorem dX7_status_53 : decode cX7_status 53 = .ok (.iaload, 1) := by decide +kernel
theorem dX7_status_54 : decode cX7_status 54 = .ok (.istore 6, 2) := by decide +kernel
theorem dX7_status_56 : decode cX7_status 56 = .ok (.iload_n 2, 1) := by decide +kernel
theorem dX7_status_57 : decode cX7_status 57 = .ok (.iload 6, 2) := by decide +kernel
theorem dX7_status_59 : decode cX7_status 59 = .ok (.iadd, 1) := by decide +kernel
theorem dX7_status_60 : decode cX7_status 60 = .ok (.istore_n 2, 1) := by decide +kernel
theorem dX7_status_61 : decode cX7_status 61 = .ok (.iinc 5 1, 3) := by decide +kernel
theorem dX7_status_64 : decode cX7_status 64 = .ok (.goto (-21), 3) := by decide +kernel
theorem dX7_status_67 : decode cX7_status 67 = .ok (.iload_n 2, 1) := by decide +kernel
theorem dX7_status_68 : decode cX7_status 68 = .ok (.ireturn, 1) := by decide +kernel
theorem dX7_finding_0 : decode cX7_finding 0 = .ok (.ldc 69, 2) := by decide +kernel
theorem dX7_finding_2 : decode cX7_finding 2 = .ok (.iload_n 1, 1) := by decide +kernel
theorem dX7_finding_3 : decode cX7_finding 3 = .ok (.isub, 1) := by decide +kernel
theorem dX7_finding_4 : decode cX7_finding 4 = .ok (.istore_n 2, 1) := by decide +kernel
theorem dX7_finding_5 : decode cX7_finding 5 = .ok (.iload_n 2, 1) := by decide +kernel
theorem dX7_finding_6 : decode cX7_finding 6 = .ok (.ifCond .lt 19, 3) := by decide +kernel
theorem dX7_finding_9 : decode cX7_finding 9 = .ok (.iload_n 2, 1) := by decide +kernel
theorem dX7_finding_10 : decode cX7_finding 10 = .ok (.bipush 7, 2) := by decide +kernel
theorem dX7_finding_12 : decode cX7_finding 12 = .ok (.if_icmp .ge 13, 3) := by decide +kernel
theorem dX7_finding_15 : decode cX7_finding 15 = .ok (.aload_n 0, 1) := by decide +kernel
theorem dX7_finding_16 : decode cX7_finding 16 = .ok (.getfield 61, 3) := by decide +kernel
theorem dX7_finding_19 : decode cX7_finding 19 = .ok (.iload_n 2, 1) := by decide +kernel
theorem dX7_finding_20 : decode cX7_finding 20 = .ok (.dup2, 1) := by decide +kernel
theorem dX7_finding_21 : decode cX7_finding 21 = .ok (.iaload, 1) := by decide +kernel
theorem dX7_finding_22 : decode cX7_finding 22 = .ok (.iconst 1, 1) := by decide +kernel
theorem dX7_finding_23 : decode cX7_finding 23 = .ok (.iadd, 1) := by decide +kernel
theorem dX7_finding_24 : decode cX7_finding 24 = .ok (.iastore, 1) := by decide +kernel
theorem dX7_finding_25 : decode cX7_finding 25 = .ok (.iload_n 1, 1) := by decide +kernel
theorem dX7_finding_26 : decode cX7_finding 26 = .ok (.ireturn, 1) := by decide +kernel
theorem dX7_findingOrAnswer_0 : decode cX7_findingOrAnswer 0 = .ok (.iload_n 1, 1) := by decide +kernel
theorem dX7_findingOrAnswer_1 : decode cX7_findingOrAnswer 1 = .ok (.ldc 165, 2) := by decide +kernel
theorem dX7_findingOrAnswer_3 : decode cX7_findingOrAnswer 3 = .ok (.if_icmp .ne 12, 3) := by decide +kernel
theorem dX7_findingOrAnswer_6 : decode cX7_findingOrAnswer 6 = .ok (.aload_n 0, 1) := by decide +kernel
theorem dX7_findingOrAnswer_7 : decode cX7_findingOrAnswer 7 = .ok (.ldc 165, 2) := by decide +kernel
theorem dX7_findingOrAnswer_9 : decode cX7_findingOrAnswer 9 = .ok (.invokevirtual 70, 3) := by decide +kernel
theorem dX7_findingOrAnswer_12 : decode cX7_findingOrAnswer 12 = .ok (.goto 4, 3) := by decide +kernel
theorem dX7_findingOrAnswer_15 : decode cX7_findingOrAnswer 15 = .ok (.iload_n 1, 1) := by decide +kernel
theorem dX7_findingOrAnswer_16 : decode cX7_findingOrAnswer 16 = .ok (.ireturn, 1) := by decide +kernel
theorem dX7_lackOfSheet_0 : decode cX7_lackOfSheet 0 = .ok (.iload_n 1, 1) := by decide +kernel
theorem dX7_lackOfSheet_1 : decode cX7_lackOfSheet 1 = .ok (.invokestatic 254, 3) := by decide +kernel
theorem dX7_lackOfSheet_4 : decode cX7_lackOfSheet 4 = .ok (.ifCond .ne 6, 3) := by decide +kernel
theorem dX7_lackOfSheet_7 : decode cX7_lackOfSheet 7 = .ok (.ldc 69, 2) := by decide +kernel
theorem dX7_lackOfSheet_9 : decode cX7_lackOfSheet 9 = .ok (.ireturn, 1) := by decide +kernel
theorem dX7_lackOfSheet_10 : decode cX7_lackOfSheet 10 = .ok (.aload_n 0, 1) := by decide +kernel
theorem dX7_lackOfSheet_11 : decode cX7_lackOfSheet 11 = .ok (.getfield 57, 3) := by decide +kernel
theorem dX7_lackOfSheet_14 : decode cX7_lackOfSheet 14 = .ok (.iload_n 1, 1) := by decide +kernel
theorem dX7_lackOfSheet_15 : decode cX7_lackOfSheet 15 = .ok (.aaload, 1) := by decide +kernel
theorem dX7_lackOfSheet_16 : decode cX7_lackOfSheet 16 = .ok (.invokevirtual 269, 3) := by decide +kernel
theorem dX7_lackOfSheet_19 : decode cX7_lackOfSheet 19 = .ok (.ifCond .eq 8, 3) := by decide +kernel
theorem dX7_lackOfSheet_22 : decode cX7_lackOfSheet 22 = .ok (.ldc 249, 2) := by decide +kernel
theorem dX7_lackOfSheet_24 : decode cX7_lackOfSheet 24 = .ok (.goto 4, 3) := by decide +kernel
theorem dX7_lackOfSheet_27 : decode cX7_lackOfSheet 27 = .ok (.iconst 0, 1) := by decide +kernel
theorem dX7_lackOfSheet_28 : decode cX7_lackOfSheet 28 = .ok (.ireturn, 1) := by decide +kernel
theorem dX7_lackOfSight_0 : decode cX7_lackOfSight 0 = .ok (.aload_n 0, 1) := by decide +kernel
theorem dX7_lackOfSight_1 : decode cX7_lackOfSight 1 = .ok (.iload_n 1, 1) := by decide +kernel
theorem dX7_lackOfSight_2 : decode cX7_lackOfSight 2 = .ok (.invokevirtual 214, 3) := by decide +kernel
theorem dX7_lackOfSight_5 : decode cX7_lackOfSight 5 = .ok (.istore_n 3, 1) := by decide +kernel
theorem dX7_lackOfSight_6 : decode cX7_lackOfSight 6 = .ok (.iload_n 3, 1) := by decide +kernel
theorem dX7_lackOfSight_7 : decode cX7_lackOfSight 7 = .ok (.ifCond .ne 15, 3) := by decide +kernel
theorem dX7_lackOfSight_10 : decode cX7_lackOfSight 10 = .ok (.iload_n 2, 1) := by decide +kernel
theorem dX7_lackOfSight_11 : decode cX7_lackOfSight 11 = .ok (.invokestatic 65, 3) := by decide +kernel
theorem dX7_lackOfSight_14 : decode cX7_lackOfSight 14 = .ok (.ifCond .ne 8, 3) := by decide +kernel
theorem dX7_lackOfSight_17 : decode cX7_lackOfSight 17 = .ok (.ldc 69, 2) := by decide +kernel
theorem dX7_lackOfSight_19 : decode cX7_lackOfSight 19 = .ok (.goto 4, 3) := by decide +kernel
theorem dX7_lackOfSight_22 : decode cX7_lackOfSight 22 = .ok (.iload_n 3, 1) := by decide +kernel
theorem dX7_lackOfSight_23 : decode cX7_lackOfSight 23 = .ok (.ireturn, 1) := by decide +kernel
theorem dX7_lensesFor_0 : decode cX7_lensesFor 0 = .ok (.iconst 0, 1) := by decide +kernel
theorem dX7_lensesFor_1 : decode cX7_lensesFor 1 = .ok (.istore_n 3, 1) := by decide +kernel
theorem dX7_lensesFor_2 : decode cX7_lensesFor 2 = .ok (.iconst 0, 1) := by decide +kernel
theorem dX7_lensesFor_3 : decode cX7_lensesFor 3 = .ok (.istore 4, 2) := by decide +kernel
theorem dX7_lensesFor_5 : decode cX7_lensesFor 5 = .ok (.iload 4, 2) := by decide +kernel
theorem dX7_lensesFor_7 : decode cX7_lensesFor 7 = .ok (.bipush 16, 2) := by decide +kernel
theorem dX7_lensesFor_9 : decode cX7_lensesFor 9 = .ok (.if_icmp .ge 62, 3) := by decide +kernel
theorem dX7_lensesFor_12 : decode cX7_lensesFor 12 = .ok (.iload 4, 2) := by decide +kernel
theorem dX7_lensesFor_14 : decode cX7_lensesFor 14 = .ok (.iload_n 2, 1) := by decide +kernel
theorem dX7_lensesFor_15 : decode cX7_lensesFor 15 = .ok (.if_icmp .eq 50, 3) := by decide +kernel
theorem dX7_lensesFor_18 : decode cX7_lensesFor 18 = .ok (.aload_n 0, 1) := by decide +kernel
theorem dX7_lensesFor_19 : decode cX7_lensesFor 19 = .ok (.getfield 16, 3) := by decide +kernel
theorem dX7_lensesFor_22 : decode cX7_lensesFor 22 = .ok (.aload_n 0, 1) := by decide +kernel
theorem dX7_lensesFor_23 : decode cX7_lensesFor 23 = .ok (.getfield 12, 3) := by decide +kernel
theorem dX7_lensesFor_26 : decode cX7_lensesFor 26 = .ok (.invokevirtual 179, 3) := by decide +kernel
theorem dX7_lensesFor_29 : decode cX7_lensesFor 29 = .ok (.aload_n 0, 1) := by decide +kernel
theorem dX7_lensesFor_30 : decode cX7_lensesFor 30 = .ok (.getfield 16, 3) := by decide +kernel
theorem dX7_lensesFor_33 : decode cX7_lensesFor 33 = .ok (.getfield 80, 3) := by decide +kernel
theorem dX7_lensesFor_36 : decode cX7_lensesFor 36 = .ok (.iconst 0, 1) := by decide +kernel
theorem dX7_lensesFor_37 : decode cX7_lensesFor 37 = .ok (.aaload, 1) := by decide +kernel
theorem dX7_lensesFor_38 : decode cX7_lensesFor 38 = .ok (.iload_n 2, 1) := by decide +kernel
theorem dX7_lensesFor_39 : decode cX7_lensesFor 39 = .ok (.iload 4, 2) := by decide +kernel
theorem dX7_lensesFor_41 : decode cX7_lensesFor 41 = .ok (.iastore, 1) := by decide +kernel
theorem dX7_lensesFor_42 : decode cX7_lensesFor 42 = .ok (.aload_n 0, 1) := by decide +kernel
theorem dX7_lensesFor_43 : decode cX7_lensesFor 43 = .ok (.getfield 36, 3) := by decide +kernel
theorem dX7_lensesFor_46 : decode cX7_lensesFor 46 = .ok (.aload_n 0, 1) := by decide +kernel
theorem dX7_lensesFor_47 : decode cX7_lensesFor 47 = .ok (.getfield 16, 3) := by decide +kernel
theorem dX7_lensesFor_50 : decode cX7_lensesFor 50 = .ok (.iload_n 2, 1) := by decide +kernel
theorem dX7_lensesFor_51 : decode cX7_lensesFor 51 = .ok (.aload_n 1, 1) := by decide +kernel
theorem dX7_lensesFor_52 : decode cX7_lensesFor 52 = .ok (.invokevirtual 294, 3) := by decide +kernel
theorem dX7_lensesFor_55 : decode cX7_lensesFor 55 = .ok (.ifCond .eq 10, 3) := by decide +kernel
theorem dX7_lensesFor_58 : decode cX7_lensesFor 58 = .ok (.iload_n 3, 1) := by decide +kernel
theorem dX7_lensesFor_59 : decode cX7_lensesFor 59 = .ok (.iconst 1, 1) := by decide +kernel
theorem dX7_lensesFor_60 : decode cX7_lensesFor 60 = .ok (.iload 4, 2) := by decide +kernel
theorem dX7_lensesFor_62 : decode cX7_lensesFor 62 = .ok (.ishl, 1) := by decide +kernel
theorem dX7_lensesFor_63 : decode cX7_lensesFor 63 = .ok (.ior, 1) := by decide +kernel
theorem dX7_lensesFor_64 : decode cX7_lensesFor 64 = .ok (.istore_n 3, 1) := by decide +kernel
theorem dX7_lensesFor_65 : decode cX7_lensesFor 65 = .ok (.iinc 4 1, 3) := by decide +kernel
theorem dX7_lensesFor_68 : decode cX7_lensesFor 68 = .ok (.goto (-63), 3) := by decide +kernel
theorem dX7_lensesFor_71 : decode cX7_lensesFor 71 = .ok (.iload_n 3, 1) := by decide +kernel
theorem dX7_lensesFor_72 : decode cX7_lensesFor 72 = .ok (.ireturn, 1) := by decide +kernel
theorem dX7_isPond_0 : decode cX7_isPond 0 = .ok (.iload_n 0, 1) := by decide +kernel
theorem dX7_isPond_1 : decode cX7_isPond 1 = .ok (.ifCond .lt 13, 3) := by decide +kernel
theorem dX7_isPond_4 : decode cX7_isPond 4 = .ok (.iload_n 0, 1) := by decide +kernel
theorem dX7_isPond_5 : decode cX7_isPond 5 = .ok (.bipush 16, 2) := by decide +kernel
theorem dX7_isPond_7 : decode cX7_isPond 7 = .ok (.if_icmp .ge 7, 3) := by decide +kernel
theorem dX7_isPond_10 : decode cX7_isPond 10 = .ok (.iconst 1, 1) := by decide +kernel
theorem dX7_isPond_11 : decode cX7_isPond 11 = .ok (.goto 4, 3) := by decide +kernel
theorem dX7_isPond_14 : decode cX7_isPond 14 = .ok (.iconst 0, 1) := by decide +kernel
theorem dX7_isPond_15 : decode cX7_isPond 15 = .ok (.ireturn, 1) := by decide +kernel
theorem dX7_isKind_0 : decode cX7_isKind 0 = .ok (.iload_n 0, 1) := by decide +kernel
theorem dX7_isKind_1 : decode cX7_isKind 1 = .ok (.ifCond .lt 13, 3) := by decide +kernel
theorem dX7_isKind_4 : decode cX7_isKind 4 = .ok (.iload_n 0, 1) := by decide +kernel
theorem dX7_isKind_5 : decode cX7_isKind 5 = .ok (.bipush 7, 2) := by decide +kernel
theorem dX7_isKind_7 : decode cX7_isKind 7 = .ok (.if_icmp .ge 7, 3) := by decide +kernel
theorem dX7_isKind_10 : decode cX7_isKind 10 = .ok (.iconst 1, 1) := by decide +kernel
theorem dX7_isKind_11 : decode cX7_isKind 11 = .ok (.goto 4, 3) := by decide +kernel
theorem dX7_isKind_14 : decode cX7_isKind 14 = .ok (.iconst 0, 1) := by decide +kernel
theorem dX7_isKind_15 : decode cX7_isKind 15 = .ok (.ireturn, 1) := by decide +kernel
theorem dX7_isSpot_0 : decode cX7_isSpot 0 = .ok (.iload_n 0, 1) := by decide +kernel
theorem dX7_isSpot_1 : decode cX7_isSpot 1 = .ok (.ifCond .lt 13, 3) := by decide +kernel
theorem dX7_isSpot_4 : decode cX7_isSpot 4 = .ok (.iload_n 0, 1) := by decide +kernel
theorem dX7_isSpot_5 : decode cX7_isSpot 5 = .ok (.bipush 10, 2) := by decide +kernel
theorem dX7_isSpot_7 : decode cX7_isSpot 7 = .ok (.if_icmp .ge 7, 3) := by decide +kernel
theorem dX7_isSpot_10 : decode cX7_isSpot 10 = .ok (.iconst 1, 1) := by decide +kernel
theorem dX7_isSpot_11 : decode cX7_isSpot 11 = .ok (.goto 4, 3) := by decide +kernel
theorem dX7_isSpot_14 : decode cX7_isSpot 14 = .ok (.iconst 0, 1) := by decide +kernel
theorem dX7_isSpot_15 : decode cX7_isSpot 15 = .ok (.ireturn, 1) := by decide +kernel
theorem dX7_isSheet_0 : decode cX7_isSheet 0 = .ok (.iload_n 0, 1) := by decide +kernel
theorem dX7_isSheet_1 : decode cX7_isSheet 1 = .ok (.ifCond .lt 12, 3) := by decide +kernel
theorem dX7_isSheet_4 : decode cX7_isSheet 4 = .ok (.iload_n 0, 1) := by decide +kernel
theorem dX7_isSheet_5 : decode cX7_isSheet 5 = .ok (.iconst 4, 1) := by decide +kernel
theorem dX7_isSheet_6 : decode cX7_isSheet 6 = .ok (.if_icmp .ge 7, 3) := by decide +kernel
theorem dX7_isSheet_9 : decode cX7_isSheet 9 = .ok (.iconst 1, 1) := by decide +kernel
theorem dX7_isSheet_10 : decode cX7_isSheet 10 = .ok (.goto 4, 3) := by decide +kernel
theorem dX7_isSheet_13 : decode cX7_isSheet 13 = .ok (.iconst 0, 1) := by decide +kernel
theorem dX7_isSheet_14 : decode cX7_isSheet 14 = .ok (.ireturn, 1) := by decide +kernel
theorem dX7_isBits_0 : decode cX7_isBits 0 = .ok (.iload_n 0, 1) := by decide +kernel
theorem dX7_isBits_1 : decode cX7_isBits 1 = .ok (.ifCond .eq 21, 3) := by decide +kernel
theorem dX7_isBits_4 : decode cX7_isBits 4 = .ok (.iload_n 0, 1) := by decide +kernel
theorem dX7_isBits_5 : decode cX7_isBits 5 = .ok (.bipush 8, 2) := by decide +kernel
theorem dX7_isBits_7 : decode cX7_isBits 7 = .ok (.if_icmp .eq 15, 3) := by decide +kernel
theorem dX7_isBits_10 : decode cX7_isBits 10 = .ok (.iload_n 0, 1) := by decide +kernel
theorem dX7_isBits_11 : decode cX7_isBits 11 = .ok (.bipush 16, 2) := by decide +kernel
theorem dX7_isBits_13 : decode cX7_isBits 13 = .ok (.if_icmp .eq 9, 3) := by decide +kernel
theorem dX7_isBits_16 : decode cX7_isBits 16 = .ok (.iload_n 0, 1) := by decide +kernel
theorem dX7_isBits_17 : decode cX7_isBits 17 = .ok (.bipush 32, 2) := by decide +kernel
theorem dX7_isBits_19 : decode cX7_isBits 19 = .ok (.if_icmp .ne 7, 3) := by decide +kernel
theorem dX7_isBits_22 : decode cX7_isBits 22 = .ok (.iconst 1, 1) := by decide +kernel
theorem dX7_isBits_23 : decode cX7_isBits 23 = .ok (.goto 4, 3) := by decide +kernel
theorem dX7_isBits_26 : decode cX7_isBits 26 = .ok (.iconst 0, 1) := by decide +kernel
theorem dX7_isBits_27 : decode cX7_isBits 27 = .ok (.ireturn, 1) := by decide +kernel
theorem dX7_isSteps_0 : decode cX7_isSteps 0 = .ok (.iload_n 0, 1) := by decide +kernel
theorem dX7_isSteps_1 : decode cX7_isSteps 1 = .ok (.ifCond .lt 13, 3) := by decide +kernel
theorem dX7_isSteps_4 : decode cX7_isSteps 4 = .ok (.iload_n 0, 1) := by decide +kernel
theorem dX7_isSteps_5 : decode cX7_isSteps 5 = .ok (.bipush 16, 2) := by decide +kernel
theorem dX7_isSteps_7 : decode cX7_isSteps 7 = .ok (.if_icmp .gt 7, 3) := by decide +kernel
theorem dX7_isSteps_10 : decode cX7_isSteps 10 = .ok (.iconst 1, 1) := by decide +kernel
theorem dX7_isSteps_11 : decode cX7_isSteps 11 = .ok (.goto 4, 3) := by decide +kernel
theorem dX7_isSteps_14 : decode cX7_isSteps 14 = .ok (.iconst 0, 1) := by decide +kernel
theorem dX7_isSteps_15 : decode cX7_isSteps 15 = .ok (.ireturn, 1) := by decide +kernel
theorem dX7_fitsPond_0 : decode cX7_fitsPond 0 = .ok (.iload_n 1, 1) := by decide +kernel
theorem dX7_fitsPond_1 : decode cX7_fitsPond 1 = .ok (.ifCond .lt 8, 3) := by decide +kernel
theorem dX7_fitsPond_4 : decode cX7_fitsPond 4 = .ok (.iload_n 1, 1) := by decide +kernel
theorem dX7_fitsPond_5 : decode cX7_fitsPond 5 = .ok (.iconst 5, 1) := by decide +kernel
theorem dX7_fitsPond_6 : decode cX7_fitsPond 6 = .ok (.if_icmp .le 5, 3) := by decide +kernel
theorem dX7_fitsPond_9 : decode cX7_fitsPond 9 = .ok (.iconst 0, 1) := by decide +kernel
theorem dX7_fitsPond_10 : decode cX7_fitsPond 10 = .ok (.ireturn, 1) := by decide +kernel
theorem dX7_fitsPond_11 : decode cX7_fitsPond 11 = .ok (.iload_n 1, 1) := by decide +kernel
theorem dX7_fitsPond_12 : decode cX7_fitsPond 12 = .ok (.ifCond .ne 10, 3) := by decide +kernel
theorem dX7_fitsPond_15 : decode cX7_fitsPond 15 = .ok (.iload_n 2, 1) := by decide +kernel
theorem dX7_fitsPond_16 : decode cX7_fitsPond 16 = .ok (.iload_n 0, 1) := by decide +kernel
theorem dX7_fitsPond_17 : decode cX7_fitsPond 17 = .ok (.if_icmp .ne 5, 3) := by decide +kernel
theorem dX7_fitsPond_20 : decode cX7_fitsPond 20 = .ok (.iconst 0, 1) := by decide +kernel
theorem dX7_fitsPond_21 : decode cX7_fitsPond 21 = .ok (.ireturn, 1) := by decide +kernel
theorem dX7_fitsPond_22 : decode cX7_fitsPond 22 = .ok (.iload_n 2, 1) := by decide +kernel
theorem dX7_fitsPond_23 : decode cX7_fitsPond 23 = .ok (.getstatic 298, 3) := by decide +kernel
theorem dX7_fitsPond_26 : decode cX7_fitsPond 26 = .ok (.iload_n 1, 1) := by decide +kernel
theorem dX7_fitsPond_27 : decode cX7_fitsPond 27 = .ok (.iaload, 1) := by decide +kernel
theorem dX7_fitsPond_28 : decode cX7_fitsPond 28 = .ok (.if_icmp .lt 16, 3) := by decide +kernel
theorem dX7_fitsPond_31 : decode cX7_fitsPond 31 = .ok (.iload_n 2, 1) := by decide +kernel
theorem dX7_fitsPond_32 : decode cX7_fitsPond 32 = .ok (.getstatic 301, 3) := by decide +kernel
theorem dX7_fitsPond_35 : decode cX7_fitsPond 35 = .ok (.iload_n 1, 1) := by decide +kernel
theorem dX7_fitsPond_36 : decode cX7_fitsPond 36 = .ok (.iaload, 1) := by decide +kernel
theorem dX7_fitsPond_37 : decode cX7_fitsPond 37 = .ok (.if_icmp .gt 7, 3) := by decide +kernel
theorem dX7_fitsPond_40 : decode cX7_fitsPond 40 = .ok (.iconst 1, 1) := by decide +kernel
theorem dX7_fitsPond_41 : decode cX7_fitsPond 41 = .ok (.goto 4, 3) := by decide +kernel
theorem dX7_fitsPond_44 : decode cX7_fitsPond 44 = .ok (.iconst 0, 1) := by decide +kernel
theorem dX7_fitsPond_45 : decode cX7_fitsPond 45 = .ok (.ireturn, 1) := by decide +kernel
theorem dX7_fitsThing_0 : decode cX7_fitsThing 0 = .ok (.iload_n 0, 1) := by decide +kernel
theorem dX7_fitsThing_1 : decode cX7_fitsThing 1 = .ok (.ifCond .lt 8, 3) := by decide +kernel
theorem dX7_fitsThing_4 : decode cX7_fitsThing 4 = .ok (.iload_n 0, 1) := by decide +kernel
theorem dX7_fitsThing_5 : decode cX7_fitsThing 5 = .ok (.iconst 2, 1) := by decide +kernel
theorem dX7_fitsThing_6 : decode cX7_fitsThing 6 = .ok (.if_icmp .le 5, 3) := by decide +kernel
theorem dX7_fitsThing_9 : decode cX7_fitsThing 9 = .ok (.iconst 0, 1) := by decide +kernel
theorem dX7_fitsThing_10 : decode cX7_fitsThing 10 = .ok (.ireturn, 1) := by decide +kernel
theorem dX7_fitsThing_11 : decode cX7_fitsThing 11 = .ok (.iload_n 1, 1) := by decide +kernel
theorem dX7_fitsThing_12 : decode cX7_fitsThing 12 = .ok (.getstatic 304, 3) := by decide +kernel
theorem dX7_fitsThing_15 : decode cX7_fitsThing 15 = .ok (.iload_n 0, 1) := by decide +kernel
theorem dX7_fitsThing_16 : decode cX7_fitsThing 16 = .ok (.iaload, 1) := by decide +kernel
theorem dX7_fitsThing_17 : decode cX7_fitsThing 17 = .ok (.if_icmp .lt 16, 3) := by decide +kernel
theorem dX7_fitsThing_20 : decode cX7_fitsThing 20 = .ok (.iload_n 1, 1) := by decide +kernel
theorem dX7_fitsThing_21 : decode cX7_fitsThing 21 = .ok (.getstatic 307, 3) := by decide +kernel
theorem dX7_fitsThing_24 : decode cX7_fitsThing 24 = .ok (.iload_n 0, 1) := by decide +kernel
theorem dX7_fitsThing_25 : decode cX7_fitsThing 25 = .ok (.iaload, 1) := by decide +kernel
theorem dX7_fitsThing_26 : decode cX7_fitsThing 26 = .ok (.if_icmp .gt 7, 3) := by decide +kernel
theorem dX7_fitsThing_29 : decode cX7_fitsThing 29 = .ok (.iconst 1, 1) := by decide +kernel
theorem dX7_fitsThing_30 : decode cX7_fitsThing 30 = .ok (.goto 4, 3) := by decide +kernel
theorem dX7_fitsThing_33 : decode cX7_fitsThing 33 = .ok (.iconst 0, 1) := by decide +kernel
theorem dX7_fitsThing_34 : decode cX7_fitsThing 34 = .ok (.ireturn, 1) := by decide +kernel
theorem dX7_fitsDepth_0 : decode cX7_fitsDepth 0 = .ok (.iload_n 0, 1) := by decide +kernel
theorem dX7_fitsDepth_1 : decode cX7_fitsDepth 1 = .ok (.invokestatic 65, 3) := by decide +kernel
theorem dX7_fitsDepth_4 : decode cX7_fitsDepth 4 = .ok (.ifCond .eq 16, 3) := by decide +kernel
theorem dX7_fitsDepth_7 : decode cX7_fitsDepth 7 = .ok (.iload_n 0, 1) := by decide +kernel
theorem dX7_fitsDepth_8 : decode cX7_fitsDepth 8 = .ok (.iconst 5, 1) := by decide +kernel
theorem dX7_fitsDepth_9 : decode cX7_fitsDepth 9 = .ok (.iload_n 1, 1) := by decide +kernel
theorem dX7_fitsDepth_10 : decode cX7_fitsDepth 10 = .ok (.invokestatic 84, 3) := by decide +kernel
theorem dX7_fitsDepth_13 : decode cX7_fitsDepth 13 = .ok (.ifCond .eq 7, 3) := by decide +kernel
theorem dX7_fitsDepth_16 : decode cX7_fitsDepth 16 = .ok (.iconst 1, 1) := by decide +kernel
theorem dX7_fitsDepth_17 : decode cX7_fitsDepth 17 = .ok (.goto 4, 3) := by decide +kernel
theorem dX7_fitsDepth_20 : decode cX7_fitsDepth 20 = .ok (.iconst 0, 1) := by decide +kernel
theorem dX7_fitsDepth_21 : decode cX7_fitsDepth 21 = .ok (.ireturn, 1) := by decide +kernel
theorem dL_law_0 : decode cL_law 0 = .ok (.new 7, 3) := by decide +kernel
theorem dL_law_3 : decode cL_law 3 = .ok (.dup, 1) := by decide +kernel
theorem dL_law_4 : decode cL_law 4 = .ok (.invokespecial 9, 3) := by decide +kernel
theorem dL_law_7 : decode cL_law 7 = .ok (.astore_n 1, 1) := by decide +kernel
theorem dL_law_8 : decode cL_law 8 = .ok (.new 10, 3) := by decide +kernel
theorem dL_law_11 : decode cL_law 11 = .ok (.dup, 1) := by decide +kernel
theorem dL_law_12 : decode cL_law 12 = .ok (.invokespecial 12, 3) := by decide +kernel
theorem dL_law_15 : decode cL_law 15 = .ok (.astore_n 2, 1) := by decide +kernel
theorem dL_law_16 : decode cL_law 16 = .ok (.iconst 0, 1) := by decide +kernel
theorem dL_law_17 : decode cL_law 17 = .ok (.istore_n 3, 1) := by decide +kernel
theorem dL_law_18 : decode cL_law 18 = .ok (.iload_n 3, 1) := by decide +kernel
theorem dL_law_19 : decode cL_law 19 = .ok (.aload_n 0, 1) := by decide +kernel
theorem dL_law_20 : decode cL_law 20 = .ok (.arraylength, 1) := by decide +kernel
theorem dL_law_21 : decode cL_law 21 = .ok (.bipush 6, 2) := by decide +kernel
theorem dL_law_23 : decode cL_law 23 = .ok (.isub, 1) := by decide +kernel
theorem dL_law_24 : decode cL_law 24 = .ok (.if_icmp .gt 1523, 3) := by decide +kernel
theorem dL_law_27 : decode cL_law 27 = .ok (.aload_n 0, 1) := by decide +kernel
theorem dL_law_28 : decode cL_law 28 = .ok (.iload_n 3, 1) := by decide +kernel
theorem dL_law_29 : decode cL_law 29 = .ok (.iaload, 1) := by decide +kernel
theorem dL_law_30 : decode cL_law 30 = .ok (.bipush 63, 2) := by decide +kernel
theorem dL_law_32 : decode cL_law 32 = .ok (.iand, 1) := by decide +kernel
theorem dL_law_33 : decode cL_law 33 = .ok (.tableswitch 1508 0 45 #[199, 232, 275, 308, 341, 384, 407, 430, 453, 496, 529, 552, 595, 618, 631, 654, 677, 710, 743, 776, 809, 842, 865, 898, 931, 954, 967, 1000, 1023, 1046, 1080, 1103, 1136, 1149, 1162, 1195, 1228, 1271, 1314, 1377, 1400, 1423, 1436, 1449, 1462, 1485], 199) := by decide +kernel
theorem dL_law_232 : decode cL_law 232 = .ok (.aload_n 1, 1) := by decide +kernel
theorem dL_law_233 : decode cL_law 233 = .ok (.aload_n 0, 1) := by decide +kernel
theorem dL_law_234 : decode cL_law 234 = .ok (.iload_n 3, 1) := by decide +kernel
theorem dL_law_235 : decode cL_law 235 = .ok (.iconst 1, 1) := by decide +kernel
theorem dL_law_236 : decode cL_law 236 = .ok (.iadd, 1) := by decide +kernel
theorem dL_law_237 : decode cL_law 237 = .ok (.iaload, 1) := by decide +kernel
theorem dL_law_238 : decode cL_law 238 = .ok (.aload_n 0, 1) := by decide +kernel
theorem dL_law_239 : decode cL_law 239 = .ok (.iload_n 3, 1) := by decide +kernel
theorem dL_law_240 : decode cL_law 240 = .ok (.iconst 2, 1) := by decide +kernel
theorem dL_law_241 : decode cL_law 241 = .ok (.iadd, 1) := by decide +kernel
theorem dL_law_242 : decode cL_law 242 = .ok (.iaload, 1) := by decide +kernel
theorem dL_law_243 : decode cL_law 243 = .ok (.invokevirtual 13, 3) := by decide +kernel
theorem dL_law_246 : decode cL_law 246 = .ok (.aload_n 2, 1) := by decide +kernel
theorem dL_law_247 : decode cL_law 247 = .ok (.aload_n 0, 1) := by decide +kernel
theorem dL_law_248 : decode cL_law 248 = .ok (.iload_n 3, 1) := by decide +kernel
theorem dL_law_249 : decode cL_law 249 = .ok (.iconst 1, 1) := by decide +kernel
theorem dL_law_250 : decode cL_law 250 = .ok (.iadd, 1) := by decide +kernel
theorem dL_law_251 : decode cL_law 251 = .ok (.iaload, 1) := by decide +kernel
theorem dL_law_252 : decode cL_law 252 = .ok (.aload_n 0, 1) := by decide +kernel
theorem dL_law_253 : decode cL_law 253 = .ok (.iload_n 3, 1) := by decide +kernel
theorem dL_law_254 : decode cL_law 254 = .ok (.iconst 2, 1) := by decide +kernel
theorem dL_law_255 : decode cL_law 255 = .ok (.iadd, 1) := by decide +kernel
theorem dL_law_256 : decode cL_law 256 = .ok (.iaload, 1) := by decide +kernel
theorem dL_law_257 : decode cL_law 257 = .ok (.invokevirtual 17, 3) := by decide +kernel
theorem dL_law_260 : decode cL_law 260 = .ok (.if_icmp .eq 1281, 3) := by decide +kernel
theorem dL_law_263 : decode cL_law 263 = .ok (.iconst 0, 1) := by decide +kernel
theorem dL_law_264 : decode cL_law 264 = .ok (.ireturn, 1) := by decide +kernel
theorem dL_law_265 : decode cL_law 265 = .ok (.aload_n 1, 1) := by decide +kernel
theorem dL_law_266 : decode cL_law 266 = .ok (.aload_n 0, 1) := by decide +kernel
theorem dL_law_267 : decode cL_law 267 = .ok (.iload_n 3, 1) := by decide +kernel
theorem dL_law_268 : decode cL_law 268 = .ok (.iconst 1, 1) := by decide +kernel
theorem dL_law_269 : decode cL_law 269 = .ok (.iadd, 1) := by decide +kernel
theorem dL_law_270 : decode cL_law 270 = .ok (.iaload, 1) := by decide +kernel
theorem dL_law_271 : decode cL_law 271 = .ok (.aload_n 0, 1) := by decide +kernel
theorem dL_law_272 : decode cL_law 272 = .ok (.iload_n 3, 1) := by decide +kernel
theorem dL_law_273 : decode cL_law 273 = .ok (.iconst 2, 1) := by decide +kernel
theorem dL_law_274 : decode cL_law 274 = .ok (.iadd, 1) := by decide +kernel
theorem dL_law_275 : decode cL_law 275 = .ok (.iaload, 1) := by decide +kernel
theorem dL_law_276 : decode cL_law 276 = .ok (.aload_n 0, 1) := by decide +kernel
theorem dL_law_277 : decode cL_law 277 = .ok (.iload_n 3, 1) := by decide +kernel
theorem dL_law_278 : decode cL_law 278 = .ok (.iconst 3, 1) := by decide +kernel
theorem dL_law_279 : decode cL_law 279 = .ok (.iadd, 1) := by decide +kernel
theorem dL_law_280 : decode cL_law 280 = .ok (.iaload, 1) := by decide +kernel
theorem dL_law_281 : decode cL_law 281 = .ok (.invokevirtual 18, 3) := by decide +kernel
theorem dL_law_284 : decode cL_law 284 = .ok (.aload_n 2, 1) := by decide +kernel
theorem dL_law_285 : decode cL_law 285 = .ok (.aload_n 0, 1) := by decide +kernel
theorem dL_law_286 : decode cL_law 286 = .ok (.iload_n 3, 1) := by decide +kernel
theorem dL_law_287 : decode cL_law 287 = .ok (.iconst 1, 1) := by decide +kernel
theorem dL_law_288 : decode cL_law 288 = .ok (.iadd, 1) := by decide +kernel
theorem dL_law_289 : decode cL_law 289 = .ok (.iaload, 1) := by decide +kernel
theorem dL_law_290 : decode cL_law 290 = .ok (.aload_n 0, 1) := by decide +kernel
theorem dL_law_291 : decode cL_law 291 = .ok (.iload_n 3, 1) := by decide +kernel
theorem dL_law_292 : decode cL_law 292 = .ok (.iconst 2, 1) := by decide +kernel
theorem dL_law_293 : decode cL_law 293 = .ok (.iadd, 1) := by decide +kernel
theorem dL_law_294 : decode cL_law 294 = .ok (.iaload, 1) := by decide +kernel
theorem dL_law_295 : decode cL_law 295 = .ok (.aload_n 0, 1) := by decide +kernel
theorem dL_law_296 : decode cL_law 296 = .ok (.iload_n 3, 1) := by decide +kernel
theorem dL_law_297 : decode cL_law 297 = .ok (.iconst 3, 1) := by decide +kernel
theorem dL_law_298 : decode cL_law 298 = .ok (.iadd, 1) := by decide +kernel
theorem dL_law_299 : decode cL_law 299 = .ok (.iaload, 1) := by decide +kernel
theorem dL_law_300 : decode cL_law 300 = .ok (.invokevirtual 22, 3) := by decide +kernel
theorem dL_law_303 : decode cL_law 303 = .ok (.if_icmp .eq 1238, 3) := by decide +kernel
theorem dL_law_306 : decode cL_law 306 = .ok (.iconst 0, 1) := by decide +kernel
theorem dL_law_307 : decode cL_law 307 = .ok (.ireturn, 1) := by decide +kernel
theorem dL_law_308 : decode cL_law 308 = .ok (.aload_n 1, 1) := by decide +kernel
theorem dL_law_309 : decode cL_law 309 = .ok (.aload_n 0, 1) := by decide +kernel
theorem dL_law_310 : decode cL_law 310 = .ok (.iload_n 3, 1) := by decide +kernel
theorem dL_law_311 : decode cL_law 311 = .ok (.iconst 1, 1) := by decide +kernel
theorem dL_law_312 : decode cL_law 312 = .ok (.iadd, 1) := by decide +kernel
theorem dL_law_313 : decode cL_law 313 = .ok (.iaload, 1) := by decide +kernel
theorem dL_law_314 : decode cL_law 314 = .ok (.aload_n 0, 1) := by decide +kernel
theorem dL_law_315 : decode cL_law 315 = .ok (.iload_n 3, 1) := by decide +kernel
theorem dL_law_316 : decode cL_law 316 = .ok (.iconst 2, 1) := by decide +kernel
theorem dL_law_317 : decode cL_law 317 = .ok (.iadd, 1) := by decide +kernel
theorem dL_law_318 : decode cL_law 318 = .ok (.iaload, 1) := by decide +kernel
theorem dL_law_319 : decode cL_law 319 = .ok (.invokevirtual 23, 3) := by decide +kernel
theorem dL_law_322 : decode cL_law 322 = .ok (.aload_n 2, 1) := by decide +kernel
theorem dL_law_323 : decode cL_law 323 = .ok (.aload_n 0, 1) := by decide +kernel
theorem dL_law_324 : decode cL_law 324 = .ok (.iload_n 3, 1) := by decide +kernel
theorem dL_law_325 : decode cL_law 325 = .ok (.iconst 1, 1) := by decide +kernel
theorem dL_law_326 : decode cL_law 326 = .ok (.iadd, 1) := by decide +kernel
theorem dL_law_327 : decode cL_law 327 = .ok (.iaload, 1) := by decide +kernel
theorem dL_law_328 : decode cL_law 328 = .ok (.aload_n 0, 1) := by decide +kernel
theorem dL_law_329 : decode cL_law 329 = .ok (.iload_n 3, 1) := by decide +kernel
theorem dL_law_330 : decode cL_law 330 = .ok (.iconst 2, 1) := by decide +kernel
theorem dL_law_331 : decode cL_law 331 = .ok (.iadd, 1) := by decide +kernel
theorem dL_law_332 : decode cL_law 332 = .ok (.iaload, 1) := by decide +kernel
theorem dL_law_333 : decode cL_law 333 = .ok (.invokevirtual 26, 3) := by decide +kernel
theorem dL_law_336 : decode cL_law 336 = .ok (.if_icmp .eq 1205, 3) := by decide +kernel
theorem dL_law_339 : decode cL_law 339 = .ok (.iconst 0, 1) := by decide +kernel
theorem dL_law_340 : decode cL_law 340 = .ok (.ireturn, 1) := by decide +kernel
theorem dL_law_341 : decode cL_law 341 = .ok (.aload_n 1, 1) := by decide +kernel
theorem dL_law_342 : decode cL_law 342 = .ok (.aload_n 0, 1) := by decide +kernel
theorem dL_law_343 : decode cL_law 343 = .ok (.iload_n 3, 1) := by decide +kernel
theorem dL_law_344 : decode cL_law 344 = .ok (.iconst 1, 1) := by decide +kernel
theorem dL_law_345 : decode cL_law 345 = .ok (.iadd, 1) := by decide +kernel
theorem dL_law_346 : decode cL_law 346 = .ok (.iaload, 1) := by decide +kernel
theorem dL_law_347 : decode cL_law 347 = .ok (.aload_n 0, 1) := by decide +kernel
theorem dL_law_348 : decode cL_law 348 = .ok (.iload_n 3, 1) := by decide +kernel
theorem dL_law_349 : decode cL_law 349 = .ok (.iconst 2, 1) := by decide +kernel
theorem dL_law_350 : decode cL_law 350 = .ok (.iadd, 1) := by decide +kernel
theorem dL_law_351 : decode cL_law 351 = .ok (.iaload, 1) := by decide +kernel
theorem dL_law_352 : decode cL_law 352 = .ok (.invokevirtual 27, 3) := by decide +kernel
theorem dL_law_355 : decode cL_law 355 = .ok (.aload_n 2, 1) := by decide +kernel
theorem dL_law_356 : decode cL_law 356 = .ok (.aload_n 0, 1) := by decide +kernel
theorem dL_law_357 : decode cL_law 357 = .ok (.iload_n 3, 1) := by decide +kernel
theorem dL_law_358 : decode cL_law 358 = .ok (.iconst 1, 1) := by decide +kernel
theorem dL_law_359 : decode cL_law 359 = .ok (.iadd, 1) := by decide +kernel
theorem dL_law_360 : decode cL_law 360 = .ok (.iaload, 1) := by decide +kernel
theorem dL_law_361 : decode cL_law 361 = .ok (.aload_n 0, 1) := by decide +kernel
theorem dL_law_362 : decode cL_law 362 = .ok (.iload_n 3, 1) := by decide +kernel
theorem dL_law_363 : decode cL_law 363 = .ok (.iconst 2, 1) := by decide +kernel
theorem dL_law_364 : decode cL_law 364 = .ok (.iadd, 1) := by decide +kernel
theorem dL_law_365 : decode cL_law 365 = .ok (.iaload, 1) := by decide +kernel
theorem dL_law_366 : decode cL_law 366 = .ok (.invokevirtual 30, 3) := by decide +kernel
theorem dL_law_369 : decode cL_law 369 = .ok (.if_icmp .eq 1172, 3) := by decide +kernel
theorem dL_law_372 : decode cL_law 372 = .ok (.iconst 0, 1) := by decide +kernel
theorem dL_law_373 : decode cL_law 373 = .ok (.ireturn, 1) := by decide +kernel
theorem dL_law_374 : decode cL_law 374 = .ok (.aload_n 1, 1) := by decide +kernel
theorem dL_law_375 : decode cL_law 375 = .ok (.aload_n 0, 1) := by decide +kernel
theorem dL_law_376 : decode cL_law 376 = .ok (.iload_n 3, 1) := by decide +kernel
theorem dL_law_377 : decode cL_law 377 = .ok (.iconst 1, 1) := by decide +kernel
theorem dL_law_378 : decode cL_law 378 = .ok (.iadd, 1) := by decide +kernel
theorem dL_law_379 : decode cL_law 379 = .ok (.iaload, 1) := by decide +kernel
theorem dL_law_380 : decode cL_law 380 = .ok (.aload_n 0, 1) := by decide +kernel
theorem dL_law_381 : decode cL_law 381 = .ok (.iload_n 3, 1) := by decide +kernel
theorem dL_law_382 : decode cL_law 382 = .ok (.iconst 2, 1) := by decide +kernel
theorem dL_law_383 : decode cL_law 383 = .ok (.iadd, 1) := by decide +kernel
theorem dL_law_384 : decode cL_law 384 = .ok (.iaload, 1) := by decide +kernel
theorem dL_law_385 : decode cL_law 385 = .ok (.aload_n 0, 1) := by decide +kernel
theorem dL_law_386 : decode cL_law 386 = .ok (.iload_n 3, 1) := by decide +kernel
theorem dL_law_387 : decode cL_law 387 = .ok (.iconst 3, 1) := by decide +kernel
theorem dL_law_388 : decode cL_law 388 = .ok (.iadd, 1) := by decide +kernel
theorem dL_law_389 : decode cL_law 389 = .ok (.iaload, 1) := by decide +kernel
theorem dL_law_390 : decode cL_law 390 = .ok (.invokevirtual 31, 3) := by decide +kernel
theorem dL_law_393 : decode cL_law 393 = .ok (.aload_n 2, 1) := by decide +kernel
theorem dL_law_394 : decode cL_law 394 = .ok (.aload_n 0, 1) := by decide +kernel
theorem dL_law_395 : decode cL_law 395 = .ok (.iload_n 3, 1) := by decide +kernel
theorem dL_law_396 : decode cL_law 396 = .ok (.iconst 1, 1) := by decide +kernel
theorem dL_law_397 : decode cL_law 397 = .ok (.iadd, 1) := by decide +kernel
theorem dL_law_398 : decode cL_law 398 = .ok (.iaload, 1) := by decide +kernel
theorem dL_law_399 : decode cL_law 399 = .ok (.aload_n 0, 1) := by decide +kernel
theorem dL_law_400 : decode cL_law 400 = .ok (.iload_n 3, 1) := by decide +kernel
theorem dL_law_401 : decode cL_law 401 = .ok (.iconst 2, 1) := by decide +kernel
theorem dL_law_402 : decode cL_law 402 = .ok (.iadd, 1) := by decide +kernel
theorem dL_law_403 : decode cL_law 403 = .ok (.iaload, 1) := by decide +kernel
theorem dL_law_404 : decode cL_law 404 = .ok (.aload_n 0, 1) := by decide +kernel
theorem dL_law_405 : decode cL_law 405 = .ok (.iload_n 3, 1) := by decide +kernel
theorem dL_law_406 : decode cL_law 406 = .ok (.iconst 3, 1) := by decide +kernel
theorem dL_law_407 : decode cL_law 407 = .ok (.iadd, 1) := by decide +kernel
theorem dL_law_408 : decode cL_law 408 = .ok (.iaload, 1) := by decide +kernel
theorem dL_law_409 : decode cL_law 409 = .ok (.invokevirtual 34, 3) := by decide +kernel
theorem dL_law_412 : decode cL_law 412 = .ok (.if_icmp .eq 1129, 3) := by decide +kernel
theorem dL_law_415 : decode cL_law 415 = .ok (.iconst 0, 1) := by decide +kernel
theorem dL_law_416 : decode cL_law 416 = .ok (.ireturn, 1) := by decide +kernel
theorem dL_law_417 : decode cL_law 417 = .ok (.aload_n 1, 1) := by decide +kernel
theorem dL_law_418 : decode cL_law 418 = .ok (.aload_n 0, 1) := by decide +kernel
theorem dL_law_419 : decode cL_law 419 = .ok (.iload_n 3, 1) := by decide +kernel
theorem dL_law_420 : decode cL_law 420 = .ok (.iconst 1, 1) := by decide +kernel
theorem dL_law_421 : decode cL_law 421 = .ok (.iadd, 1) := by decide +kernel
theorem dL_law_422 : decode cL_law 422 = .ok (.iaload, 1) := by decide +kernel
theorem dL_law_423 : decode cL_law 423 = .ok (.invokevirtual 35, 3) := by decide +kernel
theorem dL_law_426 : decode cL_law 426 = .ok (.aload_n 2, 1) := by decide +kernel
theorem dL_law_427 : decode cL_law 427 = .ok (.aload_n 0, 1) := by decide +kernel
theorem dL_law_428 : decode cL_law 428 = .ok (.iload_n 3, 1) := by decide +kernel
theorem dL_law_429 : decode cL_law 429 = .ok (.iconst 1, 1) := by decide +kernel
theorem dL_law_430 : decode cL_law 430 = .ok (.iadd, 1) := by decide +kernel
theorem dL_law_431 : decode cL_law 431 = .ok (.iaload, 1) := by decide +kernel
theorem dL_law_432 : decode cL_law 432 = .ok (.invokevirtual 39, 3) := by decide +kernel
theorem dL_law_435 : decode cL_law 435 = .ok (.if_icmp .eq 1106, 3) := by decide +kernel
theorem dL_law_438 : decode cL_law 438 = .ok (.iconst 0, 1) := by decide +kernel
theorem dL_law_439 : decode cL_law 439 = .ok (.ireturn, 1) := by decide +kernel
theorem dL_law_440 : decode cL_law 440 = .ok (.aload_n 1, 1) := by decide +kernel
theorem dL_law_441 : decode cL_law 441 = .ok (.aload_n 0, 1) := by decide +kernel
theorem dL_law_442 : decode cL_law 442 = .ok (.iload_n 3, 1) := by decide +kernel
theorem dL_law_443 : decode cL_law 443 = .ok (.iconst 1, 1) := by decide +kernel
theorem dL_law_444 : decode cL_law 444 = .ok (.iadd, 1) := by decide +kernel
theorem dL_law_445 : decode cL_law 445 = .ok (.iaload, 1) := by decide +kernel
theorem dL_law_446 : decode cL_law 446 = .ok (.invokevirtual 40, 3) := by decide +kernel
theorem dL_law_449 : decode cL_law 449 = .ok (.aload_n 2, 1) := by decide +kernel
theorem dL_law_450 : decode cL_law 450 = .ok (.aload_n 0, 1) := by decide +kernel
theorem dL_law_451 : decode cL_law 451 = .ok (.iload_n 3, 1) := by decide +kernel
theorem dL_law_452 : decode cL_law 452 = .ok (.iconst 1, 1) := by decide +kernel
theorem dL_law_453 : decode cL_law 453 = .ok (.iadd, 1) := by decide +kernel
theorem dL_law_454 : decode cL_law 454 = .ok (.iaload, 1) := by decide +kernel
theorem dL_law_455 : decode cL_law 455 = .ok (.invokevirtual 43, 3) := by decide +kernel
theorem dL_law_458 : decode cL_law 458 = .ok (.if_icmp .eq 1083, 3) := by decide +kernel
theorem dL_law_461 : decode cL_law 461 = .ok (.iconst 0, 1) := by decide +kernel
theorem dL_law_462 : decode cL_law 462 = .ok (.ireturn, 1) := by decide +kernel
theorem dL_law_463 : decode cL_law 463 = .ok (.aload_n 1, 1) := by decide +kernel
theorem dL_law_464 : decode cL_law 464 = .ok (.aload_n 0, 1) := by decide +kernel
theorem dL_law_465 : decode cL_law 465 = .ok (.iload_n 3, 1) := by decide +kernel
theorem dL_law_466 : decode cL_law 466 = .ok (.iconst 1, 1) := by decide +kernel
theorem dL_law_467 : decode cL_law 467 = .ok (.iadd, 1) := by decide +kernel
theorem dL_law_468 : decode cL_law 468 = .ok (.iaload, 1) := by decide +kernel
theorem dL_law_469 : decode cL_law 469 = .ok (.invokevirtual 44, 3) := by decide +kernel
theorem dL_law_472 : decode cL_law 472 = .ok (.aload_n 2, 1) := by decide +kernel
theorem dL_law_473 : decode cL_law 473 = .ok (.aload_n 0, 1) := by decide +kernel
theorem dL_law_474 : decode cL_law 474 = .ok (.iload_n 3, 1) := by decide +kernel
theorem dL_law_475 : decode cL_law 475 = .ok (.iconst 1, 1) := by decide +kernel
theorem dL_law_476 : decode cL_law 476 = .ok (.iadd, 1) := by decide +kernel
theorem dL_law_477 : decode cL_law 477 = .ok (.iaload, 1) := by decide +kernel
theorem dL_law_478 : decode cL_law 478 = .ok (.invokevirtual 47, 3) := by decide +kernel
theorem dL_law_481 : decode cL_law 481 = .ok (.if_icmp .eq 1060, 3) := by decide +kernel
theorem dL_law_484 : decode cL_law 484 = .ok (.iconst 0, 1) := by decide +kernel
theorem dL_law_485 : decode cL_law 485 = .ok (.ireturn, 1) := by decide +kernel
theorem dL_law_486 : decode cL_law 486 = .ok (.aload_n 1, 1) := by decide +kernel
theorem dL_law_487 : decode cL_law 487 = .ok (.aload_n 0, 1) := by decide +kernel
theorem dL_law_488 : decode cL_law 488 = .ok (.iload_n 3, 1) := by decide +kernel
theorem dL_law_489 : decode cL_law 489 = .ok (.iconst 1, 1) := by decide +kernel
theorem dL_law_490 : decode cL_law 490 = .ok (.iadd, 1) := by decide +kernel
theorem dL_law_491 : decode cL_law 491 = .ok (.iaload, 1) := by decide +kernel
theorem dL_law_492 : decode cL_law 492 = .ok (.aload_n 0, 1) := by decide +kernel
theorem dL_law_493 : decode cL_law 493 = .ok (.iload_n 3, 1) := by decide +kernel
theorem dL_law_494 : decode cL_law 494 = .ok (.iconst 2, 1) := by decide +kernel
theorem dL_law_495 : decode cL_law 495 = .ok (.iadd, 1) := by decide +kernel
theorem dL_law_496 : decode cL_law 496 = .ok (.iaload, 1) := by decide +kernel
theorem dL_law_497 : decode cL_law 497 = .ok (.aload_n 0, 1) := by decide +kernel
theorem dL_law_498 : decode cL_law 498 = .ok (.iload_n 3, 1) := by decide +kernel
theorem dL_law_499 : decode cL_law 499 = .ok (.iconst 3, 1) := by decide +kernel
theorem dL_law_500 : decode cL_law 500 = .ok (.iadd, 1) := by decide +kernel
theorem dL_law_501 : decode cL_law 501 = .ok (.iaload, 1) := by decide +kernel
theorem dL_law_502 : decode cL_law 502 = .ok (.invokevirtual 48, 3) := by decide +kernel
theorem dL_law_505 : decode cL_law 505 = .ok (.aload_n 2, 1) := by decide +kernel
theorem dL_law_506 : decode cL_law 506 = .ok (.aload_n 0, 1) := by decide +kernel
theorem dL_law_507 : decode cL_law 507 = .ok (.iload_n 3, 1) := by decide +kernel
theorem dL_law_508 : decode cL_law 508 = .ok (.iconst 1, 1) := by decide +kernel
theorem dL_law_509 : decode cL_law 509 = .ok (.iadd, 1) := by decide +kernel
theorem dL_law_510 : decode cL_law 510 = .ok (.iaload, 1) := by decide +kernel
theorem dL_law_511 : decode cL_law 511 = .ok (.aload_n 0, 1) := by decide +kernel
theorem dL_law_512 : decode cL_law 512 = .ok (.iload_n 3, 1) := by decide +kernel
theorem dL_law_513 : decode cL_law 513 = .ok (.iconst 2, 1) := by decide +kernel
theorem dL_law_514 : decode cL_law 514 = .ok (.iadd, 1) := by decide +kernel
theorem dL_law_515 : decode cL_law 515 = .ok (.iaload, 1) := by decide +kernel
theorem dL_law_516 : decode cL_law 516 = .ok (.aload_n 0, 1) := by decide +kernel
theorem dL_law_517 : decode cL_law 517 = .ok (.iload_n 3, 1) := by decide +kernel
theorem dL_law_518 : decode cL_law 518 = .ok (.iconst 3, 1) := by decide +kernel
theorem dL_law_519 : decode cL_law 519 = .ok (.iadd, 1) := by decide +kernel
theorem dL_law_520 : decode cL_law 520 = .ok (.iaload, 1) := by decide +kernel
theorem dL_law_521 : decode cL_law 521 = .ok (.invokevirtual 51, 3) := by decide +kernel
theorem dL_law_524 : decode cL_law 524 = .ok (.if_icmp .eq 1017, 3) := by decide +kernel
theorem dL_law_527 : decode cL_law 527 = .ok (.iconst 0, 1) := by decide +kernel
theorem dL_law_528 : decode cL_law 528 = .ok (.ireturn, 1) := by decide +kernel
theorem dL_law_529 : decode cL_law 529 = .ok (.aload_n 1, 1) := by decide +kernel
theorem dL_law_530 : decode cL_law 530 = .ok (.aload_n 0, 1) := by decide +kernel
theorem dL_law_531 : decode cL_law 531 = .ok (.iload_n 3, 1) := by decide +kernel
theorem dL_law_532 : decode cL_law 532 = .ok (.iconst 1, 1) := by decide +kernel
theorem dL_law_533 : decode cL_law 533 = .ok (.iadd, 1) := by decide +kernel
theorem dL_law_534 : decode cL_law 534 = .ok (.iaload, 1) := by decide +kernel
theorem dL_law_535 : decode cL_law 535 = .ok (.aload_n 0, 1) := by decide +kernel
theorem dL_law_536 : decode cL_law 536 = .ok (.iload_n 3, 1) := by decide +kernel
theorem dL_law_537 : decode cL_law 537 = .ok (.iconst 2, 1) := by decide +kernel
theorem dL_law_538 : decode cL_law 538 = .ok (.iadd, 1) := by decide +kernel
theorem dL_law_539 : decode cL_law 539 = .ok (.iaload, 1) := by decide +kernel
theorem dL_law_540 : decode cL_law 540 = .ok (.invokevirtual 52, 3) := by decide +kernel
theorem dL_law_543 : decode cL_law 543 = .ok (.aload_n 2, 1) := by decide +kernel
theorem dL_law_544 : decode cL_law 544 = .ok (.aload_n 0, 1) := by decide +kernel
theorem dL_law_545 : decode cL_law 545 = .ok (.iload_n 3, 1) := by decide +kernel
theorem dL_law_546 : decode cL_law 546 = .ok (.iconst 1, 1) := by decide +kernel
theorem dL_law_547 : decode cL_law 547 = .ok (.iadd, 1) := by decide +kernel
theorem dL_law_548 : decode cL_law 548 = .ok (.iaload, 1) := by decide +kernel
theorem dL_law_549 : decode cL_law 549 = .ok (.aload_n 0, 1) := by decide +kernel
theorem dL_law_550 : decode cL_law 550 = .ok (.iload_n 3, 1) := by decide +kernel
theorem dL_law_551 : decode cL_law 551 = .ok (.iconst 2, 1) := by decide +kernel
theorem dL_law_552 : decode cL_law 552 = .ok (.iadd, 1) := by decide +kernel
theorem dL_law_553 : decode cL_law 553 = .ok (.iaload, 1) := by decide +kernel
theorem dL_law_554 : decode cL_law 554 = .ok (.invokevirtual 55, 3) := by decide +kernel
theorem dL_law_557 : decode cL_law 557 = .ok (.if_icmp .eq 984, 3) := by decide +kernel
theorem dL_law_560 : decode cL_law 560 = .ok (.iconst 0, 1) := by decide +kernel
theorem dL_law_561 : decode cL_law 561 = .ok (.ireturn, 1) := by decide +kernel
theorem dL_law_562 : decode cL_law 562 = .ok (.aload_n 1, 1) := by decide +kernel
theorem dL_law_563 : decode cL_law 563 = .ok (.aload_n 0, 1) := by decide +kernel
theorem dL_law_564 : decode cL_law 564 = .ok (.iload_n 3, 1) := by decide +kernel
theorem dL_law_565 : decode cL_law 565 = .ok (.iconst 1, 1) := by decide +kernel
theorem dL_law_566 : decode cL_law 566 = .ok (.iadd, 1) := by decide +kernel
theorem dL_law_567 : decode cL_law 567 = .ok (.iaload, 1) := by decide +kernel
theorem dL_law_568 : decode cL_law 568 = .ok (.invokevirtual 56, 3) := by decide +kernel
theorem dL_law_571 : decode cL_law 571 = .ok (.aload_n 2, 1) := by decide +kernel
theorem dL_law_572 : decode cL_law 572 = .ok (.aload_n 0, 1) := by decide +kernel
theorem dL_law_573 : decode cL_law 573 = .ok (.iload_n 3, 1) := by decide +kernel
theorem dL_law_574 : decode cL_law 574 = .ok (.iconst 1, 1) := by decide +kernel
theorem dL_law_575 : decode cL_law 575 = .ok (.iadd, 1) := by decide +kernel
theorem dL_law_576 : decode cL_law 576 = .ok (.iaload, 1) := by decide +kernel
theorem dL_law_577 : decode cL_law 577 = .ok (.invokevirtual 59, 3) := by decide +kernel
theorem dL_law_580 : decode cL_law 580 = .ok (.if_icmp .eq 961, 3) := by decide +kernel
theorem dL_law_583 : decode cL_law 583 = .ok (.iconst 0, 1) := by decide +kernel
theorem dL_law_584 : decode cL_law 584 = .ok (.ireturn, 1) := by decide +kernel
theorem dL_law_585 : decode cL_law 585 = .ok (.aload_n 1, 1) := by decide +kernel
theorem dL_law_586 : decode cL_law 586 = .ok (.aload_n 0, 1) := by decide +kernel
theorem dL_law_587 : decode cL_law 587 = .ok (.iload_n 3, 1) := by decide +kernel
theorem dL_law_588 : decode cL_law 588 = .ok (.iconst 1, 1) := by decide +kernel
theorem dL_law_589 : decode cL_law 589 = .ok (.iadd, 1) := by decide +kernel
theorem dL_law_590 : decode cL_law 590 = .ok (.iaload, 1) := by decide +kernel
theorem dL_law_591 : decode cL_law 591 = .ok (.aload_n 0, 1) := by decide +kernel
theorem dL_law_592 : decode cL_law 592 = .ok (.iload_n 3, 1) := by decide +kernel
theorem dL_law_593 : decode cL_law 593 = .ok (.iconst 2, 1) := by decide +kernel
theorem dL_law_594 : decode cL_law 594 = .ok (.iadd, 1) := by decide +kernel
theorem dL_law_595 : decode cL_law 595 = .ok (.iaload, 1) := by decide +kernel
theorem dL_law_596 : decode cL_law 596 = .ok (.aload_n 0, 1) := by decide +kernel
theorem dL_law_597 : decode cL_law 597 = .ok (.iload_n 3, 1) := by decide +kernel
theorem dL_law_598 : decode cL_law 598 = .ok (.iconst 3, 1) := by decide +kernel
theorem dL_law_599 : decode cL_law 599 = .ok (.iadd, 1) := by decide +kernel
theorem dL_law_600 : decode cL_law 600 = .ok (.iaload, 1) := by decide +kernel
theorem dL_law_601 : decode cL_law 601 = .ok (.invokevirtual 60, 3) := by decide +kernel
theorem dL_law_604 : decode cL_law 604 = .ok (.aload_n 2, 1) := by decide +kernel
theorem dL_law_605 : decode cL_law 605 = .ok (.aload_n 0, 1) := by decide +kernel
theorem dL_law_606 : decode cL_law 606 = .ok (.iload_n 3, 1) := by decide +kernel
theorem dL_law_607 : decode cL_law 607 = .ok (.iconst 1, 1) := by decide +kernel
theorem dL_law_608 : decode cL_law 608 = .ok (.iadd, 1) := by decide +kernel
theorem dL_law_609 : decode cL_law 609 = .ok (.iaload, 1) := by decide +kernel
theorem dL_law_610 : decode cL_law 610 = .ok (.aload_n 0, 1) := by decide +kernel
theorem dL_law_611 : decode cL_law 611 = .ok (.iload_n 3, 1) := by decide +kernel
theorem dL_law_612 : decode cL_law 612 = .ok (.iconst 2, 1) := by decide +kernel
theorem dL_law_613 : decode cL_law 613 = .ok (.iadd, 1) := by decide +kernel
theorem dL_law_614 : decode cL_law 614 = .ok (.iaload, 1) := by decide +kernel
theorem dL_law_615 : decode cL_law 615 = .ok (.aload_n 0, 1) := by decide +kernel
theorem dL_law_616 : decode cL_law 616 = .ok (.iload_n 3, 1) := by decide +kernel
theorem dL_law_617 : decode cL_law 617 = .ok (.iconst 3, 1) := by decide +kernel
theorem dL_law_618 : decode cL_law 618 = .ok (.iadd, 1) := by decide +kernel
theorem dL_law_619 : decode cL_law 619 = .ok (.iaload, 1) := by decide +kernel
theorem dL_law_620 : decode cL_law 620 = .ok (.invokevirtual 63, 3) := by decide +kernel
theorem dL_law_623 : decode cL_law 623 = .ok (.if_icmp .eq 918, 3) := by decide +kernel
theorem dL_law_626 : decode cL_law 626 = .ok (.iconst 0, 1) := by decide +kernel
theorem dL_law_627 : decode cL_law 627 = .ok (.ireturn, 1) := by decide +kernel
theorem dL_law_628 : decode cL_law 628 = .ok (.aload_n 1, 1) := by decide +kernel
theorem dL_law_629 : decode cL_law 629 = .ok (.aload_n 0, 1) := by decide +kernel
theorem dL_law_630 : decode cL_law 630 = .ok (.iload_n 3, 1) := by decide +kernel
theorem dL_law_631 : decode cL_law 631 = .ok (.iconst 1, 1) := by decide +kernel
theorem dL_law_632 : decode cL_law 632 = .ok (.iadd, 1) := by decide +kernel
theorem dL_law_633 : decode cL_law 633 = .ok (.iaload, 1) := by decide +kernel
theorem dL_law_634 : decode cL_law 634 = .ok (.invokevirtual 64, 3) := by decide +kernel
theorem dL_law_637 : decode cL_law 637 = .ok (.aload_n 2, 1) := by decide +kernel
theorem dL_law_638 : decode cL_law 638 = .ok (.aload_n 0, 1) := by decide +kernel
theorem dL_law_639 : decode cL_law 639 = .ok (.iload_n 3, 1) := by decide +kernel
theorem dL_law_640 : decode cL_law 640 = .ok (.iconst 1, 1) := by decide +kernel
theorem dL_law_641 : decode cL_law 641 = .ok (.iadd, 1) := by decide +kernel
theorem dL_law_642 : decode cL_law 642 = .ok (.iaload, 1) := by decide +kernel
theorem dL_law_643 : decode cL_law 643 = .ok (.invokevirtual 67, 3) := by decide +kernel
theorem dL_law_646 : decode cL_law 646 = .ok (.if_icmp .eq 895, 3) := by decide +kernel
theorem dL_law_649 : decode cL_law 649 = .ok (.iconst 0, 1) := by decide +kernel
theorem dL_law_650 : decode cL_law 650 = .ok (.ireturn, 1) := by decide +kernel
theorem dL_law_651 : decode cL_law 651 = .ok (.aload_n 1, 1) := by decide +kernel
theorem dL_law_652 : decode cL_law 652 = .ok (.invokevirtual 68, 3) := by decide +kernel
theorem dL_law_655 : decode cL_law 655 = .ok (.aload_n 2, 1) := by decide +kernel
theorem dL_law_656 : decode cL_law 656 = .ok (.invokevirtual 72, 3) := by decide +kernel
theorem dL_law_659 : decode cL_law 659 = .ok (.if_icmp .eq 882, 3) := by decide +kernel
theorem dL_law_662 : decode cL_law 662 = .ok (.iconst 0, 1) := by decide +kernel
theorem dL_law_663 : decode cL_law 663 = .ok (.ireturn, 1) := by decide +kernel
theorem dL_law_664 : decode cL_law 664 = .ok (.aload_n 1, 1) := by decide +kernel
theorem dL_law_665 : decode cL_law 665 = .ok (.aload_n 0, 1) := by decide +kernel
theorem dL_law_666 : decode cL_law 666 = .ok (.iload_n 3, 1) := by decide +kernel
theorem dL_law_667 : decode cL_law 667 = .ok (.iconst 1, 1) := by decide +kernel
theorem dL_law_668 : decode cL_law 668 = .ok (.iadd, 1) := by decide +kernel
theorem dL_law_669 : decode cL_law 669 = .ok (.iaload, 1) := by decide +kernel
theorem dL_law_670 : decode cL_law 670 = .ok (.invokevirtual 73, 3) := by decide +kernel
theorem dL_law_673 : decode cL_law 673 = .ok (.aload_n 2, 1) := by decide +kernel
theorem dL_law_674 : decode cL_law 674 = .ok (.aload_n 0, 1) := by decide +kernel
theorem dL_law_675 : decode cL_law 675 = .ok (.iload_n 3, 1) := by decide +kernel
theorem dL_law_676 : decode cL_law 676 = .ok (.iconst 1, 1) := by decide +kernel
theorem dL_law_677 : decode cL_law 677 = .ok (.iadd, 1) := by decide +kernel
theorem dL_law_678 : decode cL_law 678 = .ok (.iaload, 1) := by decide +kernel
theorem dL_law_679 : decode cL_law 679 = .ok (.invokevirtual 76, 3) := by decide +kernel
theorem dL_law_682 : decode cL_law 682 = .ok (.if_icmp .eq 859, 3) := by decide +kernel
theorem dL_law_685 : decode cL_law 685 = .ok (.iconst 0, 1) := by decide +kernel
theorem dL_law_686 : decode cL_law 686 = .ok (.ireturn, 1) := by decide +kernel
theorem dL_law_687 : decode cL_law 687 = .ok (.aload_n 1, 1) := by decide +kernel
theorem dL_law_688 : decode cL_law 688 = .ok (.aload_n 0, 1) := by decide +kernel
theorem dL_law_689 : decode cL_law 689 = .ok (.iload_n 3, 1) := by decide +kernel
theorem dL_law_690 : decode cL_law 690 = .ok (.iconst 1, 1) := by decide +kernel
theorem dL_law_691 : decode cL_law 691 = .ok (.iadd, 1) := by decide +kernel
theorem dL_law_692 : decode cL_law 692 = .ok (.iaload, 1) := by decide +kernel
theorem dL_law_693 : decode cL_law 693 = .ok (.invokevirtual 77, 3) := by decide +kernel
theorem dL_law_696 : decode cL_law 696 = .ok (.aload_n 2, 1) := by decide +kernel
theorem dL_law_697 : decode cL_law 697 = .ok (.aload_n 0, 1) := by decide +kernel
theorem dL_law_698 : decode cL_law 698 = .ok (.iload_n 3, 1) := by decide +kernel
theorem dL_law_699 : decode cL_law 699 = .ok (.iconst 1, 1) := by decide +kernel
theorem dL_law_700 : decode cL_law 700 = .ok (.iadd, 1) := by decide +kernel
theorem dL_law_701 : decode cL_law 701 = .ok (.iaload, 1) := by decide +kernel
theorem dL_law_702 : decode cL_law 702 = .ok (.invokevirtual 80, 3) := by decide +kernel
theorem dL_law_705 : decode cL_law 705 = .ok (.if_icmp .eq 836, 3) := by decide +kernel
theorem dL_law_708 : decode cL_law 708 = .ok (.iconst 0, 1) := by decide +kernel
theorem dL_law_709 : decode cL_law 709 = .ok (.ireturn, 1) := by decide +kernel
theorem dL_law_710 : decode cL_law 710 = .ok (.aload_n 1, 1) := by decide +kernel
theorem dL_law_711 : decode cL_law 711 = .ok (.aload_n 0, 1) := by decide +kernel
theorem dL_law_712 : decode cL_law 712 = .ok (.iload_n 3, 1) := by decide +kernel
theorem dL_law_713 : decode cL_law 713 = .ok (.iconst 1, 1) := by decide +kernel
theorem dL_law_714 : decode cL_law 714 = .ok (.iadd, 1) := by decide +kernel
theorem dL_law_715 : decode cL_law 715 = .ok (.iaload, 1) := by decide +kernel
theorem dL_law_716 : decode cL_law 716 = .ok (.aload_n 0, 1) := by decide +kernel
theorem dL_law_717 : decode cL_law 717 = .ok (.iload_n 3, 1) := by decide +kernel
theorem dL_law_718 : decode cL_law 718 = .ok (.iconst 2, 1) := by decide +kernel
theorem dL_law_719 : decode cL_law 719 = .ok (.iadd, 1) := by decide +kernel
theorem dL_law_720 : decode cL_law 720 = .ok (.iaload, 1) := by decide +kernel
theorem dL_law_721 : decode cL_law 721 = .ok (.invokevirtual 81, 3) := by decide +kernel
theorem dL_law_724 : decode cL_law 724 = .ok (.aload_n 2, 1) := by decide +kernel
theorem dL_law_725 : decode cL_law 725 = .ok (.aload_n 0, 1) := by decide +kernel
theorem dL_law_726 : decode cL_law 726 = .ok (.iload_n 3, 1) := by decide +kernel
theorem dL_law_727 : decode cL_law 727 = .ok (.iconst 1, 1) := by decide +kernel
theorem dL_law_728 : decode cL_law 728 = .ok (.iadd, 1) := by decide +kernel
theorem dL_law_729 : decode cL_law 729 = .ok (.iaload, 1) := by decide +kernel
theorem dL_law_730 : decode cL_law 730 = .ok (.aload_n 0, 1) := by decide +kernel
theorem dL_law_731 : decode cL_law 731 = .ok (.iload_n 3, 1) := by decide +kernel
theorem dL_law_732 : decode cL_law 732 = .ok (.iconst 2, 1) := by decide +kernel
theorem dL_law_733 : decode cL_law 733 = .ok (.iadd, 1) := by decide +kernel
theorem dL_law_734 : decode cL_law 734 = .ok (.iaload, 1) := by decide +kernel
theorem dL_law_735 : decode cL_law 735 = .ok (.invokevirtual 84, 3) := by decide +kernel
theorem dL_law_738 : decode cL_law 738 = .ok (.if_icmp .eq 803, 3) := by decide +kernel
theorem dL_law_741 : decode cL_law 741 = .ok (.iconst 0, 1) := by decide +kernel
theorem dL_law_742 : decode cL_law 742 = .ok (.ireturn, 1) := by decide +kernel
theorem dL_law_743 : decode cL_law 743 = .ok (.aload_n 1, 1) := by decide +kernel
theorem dL_law_744 : decode cL_law 744 = .ok (.aload_n 0, 1) := by decide +kernel
theorem dL_law_745 : decode cL_law 745 = .ok (.iload_n 3, 1) := by decide +kernel
theorem dL_law_746 : decode cL_law 746 = .ok (.iconst 1, 1) := by decide +kernel
theorem dL_law_747 : decode cL_law 747 = .ok (.iadd, 1) := by decide +kernel
theorem dL_law_748 : decode cL_law 748 = .ok (.iaload, 1) := by decide +kernel
theorem dL_law_749 : decode cL_law 749 = .ok (.aload_n 0, 1) := by decide +kernel
theorem dL_law_750 : decode cL_law 750 = .ok (.iload_n 3, 1) := by decide +kernel
theorem dL_law_751 : decode cL_law 751 = .ok (.iconst 2, 1) := by decide +kernel
theorem dL_law_752 : decode cL_law 752 = .ok (.iadd, 1) := by decide +kernel
theorem dL_law_753 : decode cL_law 753 = .ok (.iaload, 1) := by decide +kernel
theorem dL_law_754 : decode cL_law 754 = .ok (.invokevirtual 85, 3) := by decide +kernel
theorem dL_law_757 : decode cL_law 757 = .ok (.aload_n 2, 1) := by decide +kernel
theorem dL_law_758 : decode cL_law 758 = .ok (.aload_n 0, 1) := by decide +kernel
theorem dL_law_759 : decode cL_law 759 = .ok (.iload_n 3, 1) := by decide +kernel
theorem dL_law_760 : decode cL_law 760 = .ok (.iconst 1, 1) := by decide +kernel
theorem dL_law_761 : decode cL_law 761 = .ok (.iadd, 1) := by decide +kernel
theorem dL_law_762 : decode cL_law 762 = .ok (.iaload, 1) := by decide +kernel
theorem dL_law_763 : decode cL_law 763 = .ok (.aload_n 0, 1) := by decide +kernel
theorem dL_law_764 : decode cL_law 764 = .ok (.iload_n 3, 1) := by decide +kernel
theorem dL_law_765 : decode cL_law 765 = .ok (.iconst 2, 1) := by decide +kernel
theorem dL_law_766 : decode cL_law 766 = .ok (.iadd, 1) := by decide +kernel
theorem dL_law_767 : decode cL_law 767 = .ok (.iaload, 1) := by decide +kernel
theorem dL_law_768 : decode cL_law 768 = .ok (.invokevirtual 88, 3) := by decide +kernel
theorem dL_law_771 : decode cL_law 771 = .ok (.if_icmp .eq 770, 3) := by decide +kernel
theorem dL_law_774 : decode cL_law 774 = .ok (.iconst 0, 1) := by decide +kernel
theorem dL_law_775 : decode cL_law 775 = .ok (.ireturn, 1) := by decide +kernel
theorem dL_law_776 : decode cL_law 776 = .ok (.aload_n 1, 1) := by decide +kernel
theorem dL_law_777 : decode cL_law 777 = .ok (.aload_n 0, 1) := by decide +kernel
theorem dL_law_778 : decode cL_law 778 = .ok (.iload_n 3, 1) := by decide +kernel
theorem dL_law_779 : decode cL_law 779 = .ok (.iconst 1, 1) := by decide +kernel
theorem dL_law_780 : decode cL_law 780 = .ok (.iadd, 1) := by decide +kernel
theorem dL_law_781 : decode cL_law 781 = .ok (.iaload, 1) := by decide +kernel
theorem dL_law_782 : decode cL_law 782 = .ok (.aload_n 0, 1) := by decide +kernel
theorem dL_law_783 : decode cL_law 783 = .ok (.iload_n 3, 1) := by decide +kernel
theorem dL_law_784 : decode cL_law 784 = .ok (.iconst 2, 1) := by decide +kernel
theorem dL_law_785 : decode cL_law 785 = .ok (.iadd, 1) := by decide +kernel
theorem dL_law_786 : decode cL_law 786 = .ok (.iaload, 1) := by decide +kernel
theorem dL_law_787 : decode cL_law 787 = .ok (.invokevirtual 89, 3) := by decide +kernel
theorem dL_law_790 : decode cL_law 790 = .ok (.aload_n 2, 1) := by decide +kernel
theorem dL_law_791 : decode cL_law 791 = .ok (.aload_n 0, 1) := by decide +kernel
theorem dL_law_792 : decode cL_law 792 = .ok (.iload_n 3, 1) := by decide +kernel
theorem dL_law_793 : decode cL_law 793 = .ok (.iconst 1, 1) := by decide +kernel
theorem dL_law_794 : decode cL_law 794 = .ok (.iadd, 1) := by decide +kernel
theorem dL_law_795 : decode cL_law 795 = .ok (.iaload, 1) := by decide +kernel
theorem dL_law_796 : decode cL_law 796 = .ok (.aload_n 0, 1) := by decide +kernel
theorem dL_law_797 : decode cL_law 797 = .ok (.iload_n 3, 1) := by decide +kernel
theorem dL_law_798 : decode cL_law 798 = .ok (.iconst 2, 1) := by decide +kernel
theorem dL_law_799 : decode cL_law 799 = .ok (.iadd, 1) := by decide +kernel
theorem dL_law_800 : decode cL_law 800 = .ok (.iaload, 1) := by decide +kernel
theorem dL_law_801 : decode cL_law 801 = .ok (.invokevirtual 92, 3) := by decide +kernel
theorem dL_law_804 : decode cL_law 804 = .ok (.if_icmp .eq 737, 3) := by decide +kernel
theorem dL_law_807 : decode cL_law 807 = .ok (.iconst 0, 1) := by decide +kernel
theorem dL_law_808 : decode cL_law 808 = .ok (.ireturn, 1) := by decide +kernel
theorem dL_law_809 : decode cL_law 809 = .ok (.aload_n 1, 1) := by decide +kernel
theorem dL_law_810 : decode cL_law 810 = .ok (.aload_n 0, 1) := by decide +kernel
theorem dL_law_811 : decode cL_law 811 = .ok (.iload_n 3, 1) := by decide +kernel
theorem dL_law_812 : decode cL_law 812 = .ok (.iconst 1, 1) := by decide +kernel
theorem dL_law_813 : decode cL_law 813 = .ok (.iadd, 1) := by decide +kernel
theorem dL_law_814 : decode cL_law 814 = .ok (.iaload, 1) := by decide +kernel
theorem dL_law_815 : decode cL_law 815 = .ok (.aload_n 0, 1) := by decide +kernel
theorem dL_law_816 : decode cL_law 816 = .ok (.iload_n 3, 1) := by decide +kernel
theorem dL_law_817 : decode cL_law 817 = .ok (.iconst 2, 1) := by decide +kernel
theorem dL_law_818 : decode cL_law 818 = .ok (.iadd, 1) := by decide +kernel
theorem dL_law_819 : decode cL_law 819 = .ok (.iaload, 1) := by decide +kernel
theorem dL_law_820 : decode cL_law 820 = .ok (.invokevirtual 93, 3) := by decide +kernel
theorem dL_law_823 : decode cL_law 823 = .ok (.aload_n 2, 1) := by decide +kernel
theorem dL_law_824 : decode cL_law 824 = .ok (.aload_n 0, 1) := by decide +kernel
theorem dL_law_825 : decode cL_law 825 = .ok (.iload_n 3, 1) := by decide +kernel
theorem dL_law_826 : decode cL_law 826 = .ok (.iconst 1, 1) := by decide +kernel
theorem dL_law_827 : decode cL_law 827 = .ok (.iadd, 1) := by decide +kernel
theorem dL_law_828 : decode cL_law 828 = .ok (.iaload, 1) := by decide +kernel
theorem dL_law_829 : decode cL_law 829 = .ok (.aload_n 0, 1) := by decide +kernel
theorem dL_law_830 : decode cL_law 830 = .ok (.iload_n 3, 1) := by decide +kernel
theorem dL_law_831 : decode cL_law 831 = .ok (.iconst 2, 1) := by decide +kernel
theorem dL_law_832 : decode cL_law 832 = .ok (.iadd, 1) := by decide +kernel
theorem dL_law_833 : decode cL_law 833 = .ok (.iaload, 1) := by decide +kernel
theorem dL_law_834 : decode cL_law 834 = .ok (.invokevirtual 96, 3) := by decide +kernel
theorem dL_law_837 : decode cL_law 837 = .ok (.if_icmp .eq 704, 3) := by decide +kernel
theorem dL_law_840 : decode cL_law 840 = .ok (.iconst 0, 1) := by decide +kernel
theorem dL_law_841 : decode cL_law 841 = .ok (.ireturn, 1) := by decide +kernel
theorem dL_law_842 : decode cL_law 842 = .ok (.aload_n 1, 1) := by decide +kernel
theorem dL_law_843 : decode cL_law 843 = .ok (.aload_n 0, 1) := by decide +kernel
theorem dL_law_844 : decode cL_law 844 = .ok (.iload_n 3, 1) := by decide +kernel
theorem dL_law_845 : decode cL_law 845 = .ok (.iconst 1, 1) := by decide +kernel
theorem dL_law_846 : decode cL_law 846 = .ok (.iadd, 1) := by decide +kernel
theorem dL_law_847 : decode cL_law 847 = .ok (.iaload, 1) := by decide +kernel
theorem dL_law_848 : decode cL_law 848 = .ok (.aload_n 0, 1) := by decide +kernel
theorem dL_law_849 : decode cL_law 849 = .ok (.iload_n 3, 1) := by decide +kernel
theorem dL_law_850 : decode cL_law 850 = .ok (.iconst 2, 1) := by decide +kernel
theorem dL_law_851 : decode cL_law 851 = .ok (.iadd, 1) := by decide +kernel
theorem dL_law_852 : decode cL_law 852 = .ok (.iaload, 1) := by decide +kernel
theorem dL_law_853 : decode cL_law 853 = .ok (.invokevirtual 97, 3) := by decide +kernel
theorem dL_law_856 : decode cL_law 856 = .ok (.aload_n 2, 1) := by decide +kernel
theorem dL_law_857 : decode cL_law 857 = .ok (.aload_n 0, 1) := by decide +kernel
theorem dL_law_858 : decode cL_law 858 = .ok (.iload_n 3, 1) := by decide +kernel
theorem dL_law_859 : decode cL_law 859 = .ok (.iconst 1, 1) := by decide +kernel
theorem dL_law_860 : decode cL_law 860 = .ok (.iadd, 1) := by decide +kernel
theorem dL_law_861 : decode cL_law 861 = .ok (.iaload, 1) := by decide +kernel
theorem dL_law_862 : decode cL_law 862 = .ok (.aload_n 0, 1) := by decide +kernel
theorem dL_law_863 : decode cL_law 863 = .ok (.iload_n 3, 1) := by decide +kernel
theorem dL_law_864 : decode cL_law 864 = .ok (.iconst 2, 1) := by decide +kernel
theorem dL_law_865 : decode cL_law 865 = .ok (.iadd, 1) := by decide +kernel
theorem dL_law_866 : decode cL_law 866 = .ok (.iaload, 1) := by decide +kernel
theorem dL_law_867 : decode cL_law 867 = .ok (.invokevirtual 100, 3) := by decide +kernel
theorem dL_law_870 : decode cL_law 870 = .ok (.if_icmp .eq 671, 3) := by decide +kernel
theorem dL_law_873 : decode cL_law 873 = .ok (.iconst 0, 1) := by decide +kernel
theorem dL_law_874 : decode cL_law 874 = .ok (.ireturn, 1) := by decide +kernel
theorem dL_law_875 : decode cL_law 875 = .ok (.aload_n 1, 1) := by decide +kernel
theorem dL_law_876 : decode cL_law 876 = .ok (.aload_n 0, 1) := by decide +kernel
theorem dL_law_877 : decode cL_law 877 = .ok (.iload_n 3, 1) := by decide +kernel
theorem dL_law_878 : decode cL_law 878 = .ok (.iconst 1, 1) := by decide +kernel
theorem dL_law_879 : decode cL_law 879 = .ok (.iadd, 1) := by decide +kernel
theorem dL_law_880 : decode cL_law 880 = .ok (.iaload, 1) := by decide +kernel
theorem dL_law_881 : decode cL_law 881 = .ok (.invokevirtual 101, 3) := by decide +kernel
theorem dL_law_884 : decode cL_law 884 = .ok (.aload_n 2, 1) := by decide +kernel
theorem dL_law_885 : decode cL_law 885 = .ok (.aload_n 0, 1) := by decide +kernel
theorem dL_law_886 : decode cL_law 886 = .ok (.iload_n 3, 1) := by decide +kernel
theorem dL_law_887 : decode cL_law 887 = .ok (.iconst 1, 1) := by decide +kernel
theorem dL_law_888 : decode cL_law 888 = .ok (.iadd, 1) := by decide +kernel
theorem dL_law_889 : decode cL_law 889 = .ok (.iaload, 1) := by decide +kernel
theorem dL_law_890 : decode cL_law 890 = .ok (.invokevirtual 104, 3) := by decide +kernel
theorem dL_law_893 : decode cL_law 893 = .ok (.if_icmp .eq 648, 3) := by decide +kernel
theorem dL_law_896 : decode cL_law 896 = .ok (.iconst 0, 1) := by decide +kernel
theorem dL_law_897 : decode cL_law 897 = .ok (.ireturn, 1) := by decide +kernel
theorem dL_law_898 : decode cL_law 898 = .ok (.aload_n 1, 1) := by decide +kernel
theorem dL_law_899 : decode cL_law 899 = .ok (.aload_n 0, 1) := by decide +kernel
theorem dL_law_900 : decode cL_law 900 = .ok (.iload_n 3, 1) := by decide +kernel
theorem dL_law_901 : decode cL_law 901 = .ok (.iconst 1, 1) := by decide +kernel
theorem dL_law_902 : decode cL_law 902 = .ok (.iadd, 1) := by decide +kernel
theorem dL_law_903 : decode cL_law 903 = .ok (.iaload, 1) := by decide +kernel
theorem dL_law_904 : decode cL_law 904 = .ok (.aload_n 0, 1) := by decide +kernel
theorem dL_law_905 : decode cL_law 905 = .ok (.iload_n 3, 1) := by decide +kernel
theorem dL_law_906 : decode cL_law 906 = .ok (.iconst 2, 1) := by decide +kernel
theorem dL_law_907 : decode cL_law 907 = .ok (.iadd, 1) := by decide +kernel
theorem dL_law_908 : decode cL_law 908 = .ok (.iaload, 1) := by decide +kernel
theorem dL_law_909 : decode cL_law 909 = .ok (.invokevirtual 105, 3) := by decide +kernel
theorem dL_law_912 : decode cL_law 912 = .ok (.aload_n 2, 1) := by decide +kernel
theorem dL_law_913 : decode cL_law 913 = .ok (.aload_n 0, 1) := by decide +kernel
theorem dL_law_914 : decode cL_law 914 = .ok (.iload_n 3, 1) := by decide +kernel
theorem dL_law_915 : decode cL_law 915 = .ok (.iconst 1, 1) := by decide +kernel
theorem dL_law_916 : decode cL_law 916 = .ok (.iadd, 1) := by decide +kernel
theorem dL_law_917 : decode cL_law 917 = .ok (.iaload, 1) := by decide +kernel
theorem dL_law_918 : decode cL_law 918 = .ok (.aload_n 0, 1) := by decide +kernel
theorem dL_law_919 : decode cL_law 919 = .ok (.iload_n 3, 1) := by decide +kernel
theorem dL_law_920 : decode cL_law 920 = .ok (.iconst 2, 1) := by decide +kernel
theorem dL_law_921 : decode cL_law 921 = .ok (.iadd, 1) := by decide +kernel
theorem dL_law_922 : decode cL_law 922 = .ok (.iaload, 1) := by decide +kernel
theorem dL_law_923 : decode cL_law 923 = .ok (.invokevirtual 108, 3) := by decide +kernel
theorem dL_law_926 : decode cL_law 926 = .ok (.if_icmp .eq 615, 3) := by decide +kernel
theorem dL_law_929 : decode cL_law 929 = .ok (.iconst 0, 1) := by decide +kernel
theorem dL_law_930 : decode cL_law 930 = .ok (.ireturn, 1) := by decide +kernel
theorem dL_law_931 : decode cL_law 931 = .ok (.aload_n 1, 1) := by decide +kernel
theorem dL_law_932 : decode cL_law 932 = .ok (.aload_n 0, 1) := by decide +kernel
theorem dL_law_933 : decode cL_law 933 = .ok (.iload_n 3, 1) := by decide +kernel
theorem dL_law_934 : decode cL_law 934 = .ok (.iconst 1, 1) := by decide +kernel
theorem dL_law_935 : decode cL_law 935 = .ok (.iadd, 1) := by decide +kernel
theorem dL_law_936 : decode cL_law 936 = .ok (.iaload, 1) := by decide +kernel
theorem dL_law_937 : decode cL_law 937 = .ok (.aload_n 0, 1) := by decide +kernel
theorem dL_law_938 : decode cL_law 938 = .ok (.iload_n 3, 1) := by decide +kernel
theorem dL_law_939 : decode cL_law 939 = .ok (.iconst 2, 1) := by decide +kernel
theorem dL_law_940 : decode cL_law 940 = .ok (.iadd, 1) := by decide +kernel
theorem dL_law_941 : decode cL_law 941 = .ok (.iaload, 1) := by decide +kernel
theorem dL_law_942 : decode cL_law 942 = .ok (.invokevirtual 109, 3) := by decide +kernel
theorem dL_law_945 : decode cL_law 945 = .ok (.aload_n 2, 1) := by decide +kernel
theorem dL_law_946 : decode cL_law 946 = .ok (.aload_n 0, 1) := by decide +kernel
theorem dL_law_947 : decode cL_law 947 = .ok (.iload_n 3, 1) := by decide +kernel
theorem dL_law_948 : decode cL_law 948 = .ok (.iconst 1, 1) := by decide +kernel
theorem dL_law_949 : decode cL_law 949 = .ok (.iadd, 1) := by decide +kernel
theorem dL_law_950 : decode cL_law 950 = .ok (.iaload, 1) := by decide +kernel
theorem dL_law_951 : decode cL_law 951 = .ok (.aload_n 0, 1) := by decide +kernel
theorem dL_law_952 : decode cL_law 952 = .ok (.iload_n 3, 1) := by decide +kernel
theorem dL_law_953 : decode cL_law 953 = .ok (.iconst 2, 1) := by decide +kernel
theorem dL_law_954 : decode cL_law 954 = .ok (.iadd, 1) := by decide +kernel
theorem dL_law_955 : decode cL_law 955 = .ok (.iaload, 1) := by decide +kernel
theorem dL_law_956 : decode cL_law 956 = .ok (.invokevirtual 112, 3) := by decide +kernel
theorem dL_law_959 : decode cL_law 959 = .ok (.if_icmp .eq 582, 3) := by decide +kernel
theorem dL_law_962 : decode cL_law 962 = .ok (.iconst 0, 1) := by decide +kernel
theorem dL_law_963 : decode cL_law 963 = .ok (.ireturn, 1) := by decide +kernel
theorem dL_law_964 : decode cL_law 964 = .ok (.aload_n 1, 1) := by decide +kernel
theorem dL_law_965 : decode cL_law 965 = .ok (.aload_n 0, 1) := by decide +kernel
theorem dL_law_966 : decode cL_law 966 = .ok (.iload_n 3, 1) := by decide +kernel
theorem dL_law_967 : decode cL_law 967 = .ok (.iconst 1, 1) := by decide +kernel
theorem dL_law_968 : decode cL_law 968 = .ok (.iadd, 1) := by decide +kernel
theorem dL_law_969 : decode cL_law 969 = .ok (.iaload, 1) := by decide +kernel
theorem dL_law_970 : decode cL_law 970 = .ok (.invokevirtual 113, 3) := by decide +kernel
theorem dL_law_973 : decode cL_law 973 = .ok (.aload_n 2, 1) := by decide +kernel
theorem dL_law_974 : decode cL_law 974 = .ok (.aload_n 0, 1) := by decide +kernel
theorem dL_law_975 : decode cL_law 975 = .ok (.iload_n 3, 1) := by decide +kernel
theorem dL_law_976 : decode cL_law 976 = .ok (.iconst 1, 1) := by decide +kernel
theorem dL_law_977 : decode cL_law 977 = .ok (.iadd, 1) := by decide +kernel
theorem dL_law_978 : decode cL_law 978 = .ok (.iaload, 1) := by decide +kernel
theorem dL_law_979 : decode cL_law 979 = .ok (.invokevirtual 116, 3) := by decide +kernel
theorem dL_law_982 : decode cL_law 982 = .ok (.if_icmp .eq 559, 3) := by decide +kernel
theorem dL_law_985 : decode cL_law 985 = .ok (.iconst 0, 1) := by decide +kernel
theorem dL_law_986 : decode cL_law 986 = .ok (.ireturn, 1) := by decide +kernel
theorem dL_law_987 : decode cL_law 987 = .ok (.aload_n 1, 1) := by decide +kernel
theorem dL_law_988 : decode cL_law 988 = .ok (.invokevirtual 117, 3) := by decide +kernel
theorem dL_law_991 : decode cL_law 991 = .ok (.aload_n 2, 1) := by decide +kernel
theorem dL_law_992 : decode cL_law 992 = .ok (.invokevirtual 120, 3) := by decide +kernel
theorem dL_law_995 : decode cL_law 995 = .ok (.if_icmp .eq 546, 3) := by decide +kernel
theorem dL_law_998 : decode cL_law 998 = .ok (.iconst 0, 1) := by decide +kernel
theorem dL_law_999 : decode cL_law 999 = .ok (.ireturn, 1) := by decide +kernel
theorem dL_law_1000 : decode cL_law 1000 = .ok (.aload_n 1, 1) := by decide +kernel
theorem dL_law_1001 : decode cL_law 1001 = .ok (.aload_n 0, 1) := by decide +kernel
theorem dL_law_1002 : decode cL_law 1002 = .ok (.iload_n 3, 1) := by decide +kernel
theorem dL_law_1003 : decode cL_law 1003 = .ok (.iconst 1, 1) := by decide +kernel
theorem dL_law_1004 : decode cL_law 1004 = .ok (.iadd, 1) := by decide +kernel
theorem dL_law_1005 : decode cL_law 1005 = .ok (.iaload, 1) := by decide +kernel
theorem dL_law_1006 : decode cL_law 1006 = .ok (.aload_n 0, 1) := by decide +kernel
theorem dL_law_1007 : decode cL_law 1007 = .ok (.iload_n 3, 1) := by decide +kernel
theorem dL_law_1008 : decode cL_law 1008 = .ok (.iconst 2, 1) := by decide +kernel
theorem dL_law_1009 : decode cL_law 1009 = .ok (.iadd, 1) := by decide +kernel
theorem dL_law_1010 : decode cL_law 1010 = .ok (.iaload, 1) := by decide +kernel
theorem dL_law_1011 : decode cL_law 1011 = .ok (.invokevirtual 121, 3) := by decide +kernel
theorem dL_law_1014 : decode cL_law 1014 = .ok (.aload_n 2, 1) := by decide +kernel
theorem dL_law_1015 : decode cL_law 1015 = .ok (.aload_n 0, 1) := by decide +kernel
theorem dL_law_1016 : decode cL_law 1016 = .ok (.iload_n 3, 1) := by decide +kernel
theorem dL_law_1017 : decode cL_law 1017 = .ok (.iconst 1, 1) := by decide +kernel
theorem dL_law_1018 : decode cL_law 1018 = .ok (.iadd, 1) := by decide +kernel
theorem dL_law_1019 : decode cL_law 1019 = .ok (.iaload, 1) := by decide +kernel
theorem dL_law_1020 : decode cL_law 1020 = .ok (.aload_n 0, 1) := by decide +kernel
theorem dL_law_1021 : decode cL_law 1021 = .ok (.iload_n 3, 1) := by decide +kernel
theorem dL_law_1022 : decode cL_law 1022 = .ok (.iconst 2, 1) := by decide +kernel
theorem dL_law_1023 : decode cL_law 1023 = .ok (.iadd, 1) := by decide +kernel
theorem dL_law_1024 : decode cL_law 1024 = .ok (.iaload, 1) := by decide +kernel
theorem dL_law_1025 : decode cL_law 1025 = .ok (.invokevirtual 124, 3) := by decide +kernel
theorem dL_law_1028 : decode cL_law 1028 = .ok (.if_icmp .eq 513, 3) := by decide +kernel
theorem dL_law_1031 : decode cL_law 1031 = .ok (.iconst 0, 1) := by decide +kernel
theorem dL_law_1032 : decode cL_law 1032 = .ok (.ireturn, 1) := by decide +kernel
theorem dL_law_1033 : decode cL_law 1033 = .ok (.aload_n 1, 1) := by decide +kernel
theorem dL_law_1034 : decode cL_law 1034 = .ok (.aload_n 0, 1) := by decide +kernel
theorem dL_law_1035 : decode cL_law 1035 = .ok (.iload_n 3, 1) := by decide +kernel
theorem dL_law_1036 : decode cL_law 1036 = .ok (.iconst 1, 1) := by decide +kernel
theorem dL_law_1037 : decode cL_law 1037 = .ok (.iadd, 1) := by decide +kernel
theorem dL_law_1038 : decode cL_law 1038 = .ok (.iaload, 1) := by decide +kernel
theorem dL_law_1039 : decode cL_law 1039 = .ok (.invokevirtual 125, 3) := by decide +kernel
theorem dL_law_1042 : decode cL_law 1042 = .ok (.aload_n 2, 1) := by decide +kernel
theorem dL_law_1043 : decode cL_law 1043 = .ok (.aload_n 0, 1) := by decide +kernel
theorem dL_law_1044 : decode cL_law 1044 = .ok (.iload_n 3, 1) := by decide +kernel
theorem dL_law_1045 : decode cL_law 1045 = .ok (.iconst 1, 1) := by decide +kernel
theorem dL_law_1046 : decode cL_law 1046 = .ok (.iadd, 1) := by decide +kernel
theorem dL_law_1047 : decode cL_law 1047 = .ok (.iaload, 1) := by decide +kernel
theorem dL_law_1048 : decode cL_law 1048 = .ok (.invokevirtual 128, 3) := by decide +kernel
theorem dL_law_1051 : decode cL_law 1051 = .ok (.if_icmp .eq 490, 3) := by decide +kernel
theorem dL_law_1054 : decode cL_law 1054 = .ok (.iconst 0, 1) := by decide +kernel
theorem dL_law_1055 : decode cL_law 1055 = .ok (.ireturn, 1) := by decide +kernel
theorem dL_law_1056 : decode cL_law 1056 = .ok (.aload_n 1, 1) := by decide +kernel
theorem dL_law_1057 : decode cL_law 1057 = .ok (.aload_n 0, 1) := by decide +kernel
theorem dL_law_1058 : decode cL_law 1058 = .ok (.iload_n 3, 1) := by decide +kernel
theorem dL_law_1059 : decode cL_law 1059 = .ok (.iconst 1, 1) := by decide +kernel
theorem dL_law_1060 : decode cL_law 1060 = .ok (.iadd, 1) := by decide +kernel
theorem dL_law_1061 : decode cL_law 1061 = .ok (.iaload, 1) := by decide +kernel
theorem dL_law_1062 : decode cL_law 1062 = .ok (.invokevirtual 129, 3) := by decide +kernel
theorem dL_law_1065 : decode cL_law 1065 = .ok (.aload_n 2, 1) := by decide +kernel
theorem dL_law_1066 : decode cL_law 1066 = .ok (.aload_n 0, 1) := by decide +kernel
theorem dL_law_1067 : decode cL_law 1067 = .ok (.iload_n 3, 1) := by decide +kernel
theorem dL_law_1068 : decode cL_law 1068 = .ok (.iconst 1, 1) := by decide +kernel
theorem dL_law_1069 : decode cL_law 1069 = .ok (.iadd, 1) := by decide +kernel
theorem dL_law_1070 : decode cL_law 1070 = .ok (.iaload, 1) := by decide +kernel
theorem dL_law_1071 : decode cL_law 1071 = .ok (.invokevirtual 132, 3) := by decide +kernel
theorem dL_law_1074 : decode cL_law 1074 = .ok (.if_icmp .eq 467, 3) := by decide +kernel
theorem dL_law_1077 : decode cL_law 1077 = .ok (.iconst 0, 1) := by decide +kernel
theorem dL_law_1078 : decode cL_law 1078 = .ok (.ireturn, 1) := by decide +kernel
theorem dL_law_1079 : decode cL_law 1079 = .ok (.aload_n 1, 1) := by decide +kernel
theorem dL_law_1080 : decode cL_law 1080 = .ok (.aload_n 0, 1) := by decide +kernel
theorem dL_law_1081 : decode cL_law 1081 = .ok (.iload_n 3, 1) := by decide +kernel
theorem dL_law_1082 : decode cL_law 1082 = .ok (.iconst 1, 1) := by decide +kernel
theorem dL_law_1083 : decode cL_law 1083 = .ok (.iadd, 1) := by decide +kernel
theorem dL_law_1084 : decode cL_law 1084 = .ok (.iaload, 1) := by decide +kernel
theorem dL_law_1085 : decode cL_law 1085 = .ok (.aload_n 0, 1) := by decide +kernel
theorem dL_law_1086 : decode cL_law 1086 = .ok (.iload_n 3, 1) := by decide +kernel
theorem dL_law_1087 : decode cL_law 1087 = .ok (.iconst 2, 1) := by decide +kernel
theorem dL_law_1088 : decode cL_law 1088 = .ok (.iadd, 1) := by decide +kernel
theorem dL_law_1089 : decode cL_law 1089 = .ok (.iaload, 1) := by decide +kernel
theorem dL_law_1090 : decode cL_law 1090 = .ok (.invokevirtual 133, 3) := by decide +kernel
theorem dL_law_1093 : decode cL_law 1093 = .ok (.aload_n 2, 1) := by decide +kernel
theorem dL_law_1094 : decode cL_law 1094 = .ok (.aload_n 0, 1) := by decide +kernel
theorem dL_law_1095 : decode cL_law 1095 = .ok (.iload_n 3, 1) := by decide +kernel
theorem dL_law_1096 : decode cL_law 1096 = .ok (.iconst 1, 1) := by decide +kernel
theorem dL_law_1097 : decode cL_law 1097 = .ok (.iadd, 1) := by decide +kernel
theorem dL_law_1098 : decode cL_law 1098 = .ok (.iaload, 1) := by decide +kernel
theorem dL_law_1099 : decode cL_law 1099 = .ok (.aload_n 0, 1) := by decide +kernel
theorem dL_law_1100 : decode cL_law 1100 = .ok (.iload_n 3, 1) := by decide +kernel
theorem dL_law_1101 : decode cL_law 1101 = .ok (.iconst 2, 1) := by decide +kernel
theorem dL_law_1102 : decode cL_law 1102 = .ok (.iadd, 1) := by decide +kernel
theorem dL_law_1103 : decode cL_law 1103 = .ok (.iaload, 1) := by decide +kernel
theorem dL_law_1104 : decode cL_law 1104 = .ok (.invokevirtual 137, 3) := by decide +kernel
theorem dL_law_1107 : decode cL_law 1107 = .ok (.lcmp, 1) := by decide +kernel
theorem dL_law_1108 : decode cL_law 1108 = .ok (.ifCond .eq 433, 3) := by decide +kernel
theorem dL_law_1111 : decode cL_law 1111 = .ok (.iconst 0, 1) := by decide +kernel
theorem dL_law_1112 : decode cL_law 1112 = .ok (.ireturn, 1) := by decide +kernel
theorem dL_law_1113 : decode cL_law 1113 = .ok (.aload_n 1, 1) := by decide +kernel
theorem dL_law_1114 : decode cL_law 1114 = .ok (.aload_n 0, 1) := by decide +kernel
theorem dL_law_1115 : decode cL_law 1115 = .ok (.iload_n 3, 1) := by decide +kernel
theorem dL_law_1116 : decode cL_law 1116 = .ok (.iconst 1, 1) := by decide +kernel
theorem dL_law_1117 : decode cL_law 1117 = .ok (.iadd, 1) := by decide +kernel
theorem dL_law_1118 : decode cL_law 1118 = .ok (.iaload, 1) := by decide +kernel
theorem dL_law_1119 : decode cL_law 1119 = .ok (.invokevirtual 138, 3) := by decide +kernel
theorem dL_law_1122 : decode cL_law 1122 = .ok (.aload_n 2, 1) := by decide +kernel
theorem dL_law_1123 : decode cL_law 1123 = .ok (.aload_n 0, 1) := by decide +kernel
theorem dL_law_1124 : decode cL_law 1124 = .ok (.iload_n 3, 1) := by decide +kernel
theorem dL_law_1125 : decode cL_law 1125 = .ok (.iconst 1, 1) := by decide +kernel
theorem dL_law_1126 : decode cL_law 1126 = .ok (.iadd, 1) := by decide +kernel
theorem dL_law_1127 : decode cL_law 1127 = .ok (.iaload, 1) := by decide +kernel
theorem dL_law_1128 : decode cL_law 1128 = .ok (.invokevirtual 141, 3) := by decide +kernel
theorem dL_law_1131 : decode cL_law 1131 = .ok (.if_icmp .eq 410, 3) := by decide +kernel
theorem dL_law_1134 : decode cL_law 1134 = .ok (.iconst 0, 1) := by decide +kernel
theorem dL_law_1135 : decode cL_law 1135 = .ok (.ireturn, 1) := by decide +kernel
theorem dL_law_1136 : decode cL_law 1136 = .ok (.aload_n 1, 1) := by decide +kernel
theorem dL_law_1137 : decode cL_law 1137 = .ok (.aload_n 0, 1) := by decide +kernel
theorem dL_law_1138 : decode cL_law 1138 = .ok (.iload_n 3, 1) := by decide +kernel
theorem dL_law_1139 : decode cL_law 1139 = .ok (.iconst 1, 1) := by decide +kernel
theorem dL_law_1140 : decode cL_law 1140 = .ok (.iadd, 1) := by decide +kernel
theorem dL_law_1141 : decode cL_law 1141 = .ok (.iaload, 1) := by decide +kernel
theorem dL_law_1142 : decode cL_law 1142 = .ok (.aload_n 0, 1) := by decide +kernel
theorem dL_law_1143 : decode cL_law 1143 = .ok (.iload_n 3, 1) := by decide +kernel
theorem dL_law_1144 : decode cL_law 1144 = .ok (.iconst 2, 1) := by decide +kernel
theorem dL_law_1145 : decode cL_law 1145 = .ok (.iadd, 1) := by decide +kernel
theorem dL_law_1146 : decode cL_law 1146 = .ok (.iaload, 1) := by decide +kernel
theorem dL_law_1147 : decode cL_law 1147 = .ok (.invokevirtual 142, 3) := by decide +kernel
theorem dL_law_1150 : decode cL_law 1150 = .ok (.aload_n 2, 1) := by decide +kernel
theorem dL_law_1151 : decode cL_law 1151 = .ok (.aload_n 0, 1) := by decide +kernel
theorem dL_law_1152 : decode cL_law 1152 = .ok (.iload_n 3, 1) := by decide +kernel
theorem dL_law_1153 : decode cL_law 1153 = .ok (.iconst 1, 1) := by decide +kernel
theorem dL_law_1154 : decode cL_law 1154 = .ok (.iadd, 1) := by decide +kernel
theorem dL_law_1155 : decode cL_law 1155 = .ok (.iaload, 1) := by decide +kernel
theorem dL_law_1156 : decode cL_law 1156 = .ok (.aload_n 0, 1) := by decide +kernel
theorem dL_law_1157 : decode cL_law 1157 = .ok (.iload_n 3, 1) := by decide +kernel
theorem dL_law_1158 : decode cL_law 1158 = .ok (.iconst 2, 1) := by decide +kernel
theorem dL_law_1159 : decode cL_law 1159 = .ok (.iadd, 1) := by decide +kernel
theorem dL_law_1160 : decode cL_law 1160 = .ok (.iaload, 1) := by decide +kernel
theorem dL_law_1161 : decode cL_law 1161 = .ok (.invokevirtual 145, 3) := by decide +kernel
theorem dL_law_1164 : decode cL_law 1164 = .ok (.if_icmp .eq 377, 3) := by decide +kernel
theorem dL_law_1167 : decode cL_law 1167 = .ok (.iconst 0, 1) := by decide +kernel
theorem dL_law_1168 : decode cL_law 1168 = .ok (.ireturn, 1) := by decide +kernel
theorem dL_law_1169 : decode cL_law 1169 = .ok (.aload_n 1, 1) := by decide +kernel
theorem dL_law_1170 : decode cL_law 1170 = .ok (.invokevirtual 146, 3) := by decide +kernel
theorem dL_law_1173 : decode cL_law 1173 = .ok (.aload_n 2, 1) := by decide +kernel
theorem dL_law_1174 : decode cL_law 1174 = .ok (.invokevirtual 149, 3) := by decide +kernel
theorem dL_law_1177 : decode cL_law 1177 = .ok (.if_icmp .eq 364, 3) := by decide +kernel
theorem dL_law_1180 : decode cL_law 1180 = .ok (.iconst 0, 1) := by decide +kernel
theorem dL_law_1181 : decode cL_law 1181 = .ok (.ireturn, 1) := by decide +kernel
theorem dL_law_1182 : decode cL_law 1182 = .ok (.aload_n 1, 1) := by decide +kernel
theorem dL_law_1183 : decode cL_law 1183 = .ok (.invokevirtual 150, 3) := by decide +kernel
theorem dL_law_1186 : decode cL_law 1186 = .ok (.aload_n 2, 1) := by decide +kernel
theorem dL_law_1187 : decode cL_law 1187 = .ok (.invokevirtual 153, 3) := by decide +kernel
theorem dL_law_1190 : decode cL_law 1190 = .ok (.if_icmp .eq 351, 3) := by decide +kernel
theorem dL_law_1193 : decode cL_law 1193 = .ok (.iconst 0, 1) := by decide +kernel
theorem dL_law_1194 : decode cL_law 1194 = .ok (.ireturn, 1) := by decide +kernel
theorem dL_law_1195 : decode cL_law 1195 = .ok (.aload_n 1, 1) := by decide +kernel
theorem dL_law_1196 : decode cL_law 1196 = .ok (.aload_n 0, 1) := by decide +kernel
theorem dL_law_1197 : decode cL_law 1197 = .ok (.iload_n 3, 1) := by decide +kernel
theorem dL_law_1198 : decode cL_law 1198 = .ok (.iconst 1, 1) := by decide +kernel
theorem dL_law_1199 : decode cL_law 1199 = .ok (.iadd, 1) := by decide +kernel
theorem dL_law_1200 : decode cL_law 1200 = .ok (.iaload, 1) := by decide +kernel
theorem dL_law_1201 : decode cL_law 1201 = .ok (.aload_n 0, 1) := by decide +kernel
theorem dL_law_1202 : decode cL_law 1202 = .ok (.iload_n 3, 1) := by decide +kernel
theorem dL_law_1203 : decode cL_law 1203 = .ok (.iconst 2, 1) := by decide +kernel
theorem dL_law_1204 : decode cL_law 1204 = .ok (.iadd, 1) := by decide +kernel
theorem dL_law_1205 : decode cL_law 1205 = .ok (.iaload, 1) := by decide +kernel
theorem dL_law_1206 : decode cL_law 1206 = .ok (.invokevirtual 154, 3) := by decide +kernel
theorem dL_law_1209 : decode cL_law 1209 = .ok (.aload_n 2, 1) := by decide +kernel
theorem dL_law_1210 : decode cL_law 1210 = .ok (.aload_n 0, 1) := by decide +kernel
theorem dL_law_1211 : decode cL_law 1211 = .ok (.iload_n 3, 1) := by decide +kernel
theorem dL_law_1212 : decode cL_law 1212 = .ok (.iconst 1, 1) := by decide +kernel
theorem dL_law_1213 : decode cL_law 1213 = .ok (.iadd, 1) := by decide +kernel
theorem dL_law_1214 : decode cL_law 1214 = .ok (.iaload, 1) := by decide +kernel
theorem dL_law_1215 : decode cL_law 1215 = .ok (.aload_n 0, 1) := by decide +kernel
theorem dL_law_1216 : decode cL_law 1216 = .ok (.iload_n 3, 1) := by decide +kernel
theorem dL_law_1217 : decode cL_law 1217 = .ok (.iconst 2, 1) := by decide +kernel
theorem dL_law_1218 : decode cL_law 1218 = .ok (.iadd, 1) := by decide +kernel
theorem dL_law_1219 : decode cL_law 1219 = .ok (.iaload, 1) := by decide +kernel
theorem dL_law_1220 : decode cL_law 1220 = .ok (.invokevirtual 157, 3) := by decide +kernel
theorem dL_law_1223 : decode cL_law 1223 = .ok (.if_icmp .eq 318, 3) := by decide +kernel
theorem dL_law_1226 : decode cL_law 1226 = .ok (.iconst 0, 1) := by decide +kernel
theorem dL_law_1227 : decode cL_law 1227 = .ok (.ireturn, 1) := by decide +kernel
theorem dL_law_1228 : decode cL_law 1228 = .ok (.aload_n 1, 1) := by decide +kernel
theorem dL_law_1229 : decode cL_law 1229 = .ok (.aload_n 0, 1) := by decide +kernel
theorem dL_law_1230 : decode cL_law 1230 = .ok (.iload_n 3, 1) := by decide +kernel
theorem dL_law_1231 : decode cL_law 1231 = .ok (.iconst 1, 1) := by decide +kernel
theorem dL_law_1232 : decode cL_law 1232 = .ok (.iadd, 1) := by decide +kernel
theorem dL_law_1233 : decode cL_law 1233 = .ok (.iaload, 1) := by decide +kernel
theorem dL_law_1234 : decode cL_law 1234 = .ok (.aload_n 0, 1) := by decide +kernel
theorem dL_law_1235 : decode cL_law 1235 = .ok (.iload_n 3, 1) := by decide +kernel
theorem dL_law_1236 : decode cL_law 1236 = .ok (.iconst 2, 1) := by decide +kernel
theorem dL_law_1237 : decode cL_law 1237 = .ok (.iadd, 1) := by decide +kernel
theorem dL_law_1238 : decode cL_law 1238 = .ok (.iaload, 1) := by decide +kernel
theorem dL_law_1239 : decode cL_law 1239 = .ok (.invokevirtual 158, 3) := by decide +kernel
theorem dL_law_1242 : decode cL_law 1242 = .ok (.aload_n 2, 1) := by decide +kernel
theorem dL_law_1243 : decode cL_law 1243 = .ok (.aload_n 0, 1) := by decide +kernel
theorem dL_law_1244 : decode cL_law 1244 = .ok (.iload_n 3, 1) := by decide +kernel
theorem dL_law_1245 : decode cL_law 1245 = .ok (.iconst 1, 1) := by decide +kernel
theorem dL_law_1246 : decode cL_law 1246 = .ok (.iadd, 1) := by decide +kernel
theorem dL_law_1247 : decode cL_law 1247 = .ok (.iaload, 1) := by decide +kernel
theorem dL_law_1248 : decode cL_law 1248 = .ok (.aload_n 0, 1) := by decide +kernel
theorem dL_law_1249 : decode cL_law 1249 = .ok (.iload_n 3, 1) := by decide +kernel
theorem dL_law_1250 : decode cL_law 1250 = .ok (.iconst 2, 1) := by decide +kernel
theorem dL_law_1251 : decode cL_law 1251 = .ok (.iadd, 1) := by decide +kernel
theorem dL_law_1252 : decode cL_law 1252 = .ok (.iaload, 1) := by decide +kernel
theorem dL_law_1253 : decode cL_law 1253 = .ok (.invokevirtual 161, 3) := by decide +kernel
theorem dL_law_1256 : decode cL_law 1256 = .ok (.if_icmp .eq 285, 3) := by decide +kernel
theorem dL_law_1259 : decode cL_law 1259 = .ok (.iconst 0, 1) := by decide +kernel
theorem dL_law_1260 : decode cL_law 1260 = .ok (.ireturn, 1) := by decide +kernel
theorem dL_law_1261 : decode cL_law 1261 = .ok (.aload_n 1, 1) := by decide +kernel
theorem dL_law_1262 : decode cL_law 1262 = .ok (.aload_n 0, 1) := by decide +kernel
theorem dL_law_1263 : decode cL_law 1263 = .ok (.iload_n 3, 1) := by decide +kernel
theorem dL_law_1264 : decode cL_law 1264 = .ok (.iconst 1, 1) := by decide +kernel
theorem dL_law_1265 : decode cL_law 1265 = .ok (.iadd, 1) := by decide +kernel
theorem dL_law_1266 : decode cL_law 1266 = .ok (.iaload, 1) := by decide +kernel
theorem dL_law_1267 : decode cL_law 1267 = .ok (.aload_n 0, 1) := by decide +kernel
theorem dL_law_1268 : decode cL_law 1268 = .ok (.iload_n 3, 1) := by decide +kernel
theorem dL_law_1269 : decode cL_law 1269 = .ok (.iconst 2, 1) := by decide +kernel
theorem dL_law_1270 : decode cL_law 1270 = .ok (.iadd, 1) := by decide +kernel
theorem dL_law_1271 : decode cL_law 1271 = .ok (.iaload, 1) := by decide +kernel
theorem dL_law_1272 : decode cL_law 1272 = .ok (.aload_n 0, 1) := by decide +kernel
theorem dL_law_1273 : decode cL_law 1273 = .ok (.iload_n 3, 1) := by decide +kernel
theorem dL_law_1274 : decode cL_law 1274 = .ok (.iconst 3, 1) := by decide +kernel
theorem dL_law_1275 : decode cL_law 1275 = .ok (.iadd, 1) := by decide +kernel
theorem dL_law_1276 : decode cL_law 1276 = .ok (.iaload, 1) := by decide +kernel
theorem dL_law_1277 : decode cL_law 1277 = .ok (.invokevirtual 162, 3) := by decide +kernel
theorem dL_law_1280 : decode cL_law 1280 = .ok (.aload_n 2, 1) := by decide +kernel
theorem dL_law_1281 : decode cL_law 1281 = .ok (.aload_n 0, 1) := by decide +kernel
theorem dL_law_1282 : decode cL_law 1282 = .ok (.iload_n 3, 1) := by decide +kernel
theorem dL_law_1283 : decode cL_law 1283 = .ok (.iconst 1, 1) := by decide +kernel
theorem dL_law_1284 : decode cL_law 1284 = .ok (.iadd, 1) := by decide +kernel
theorem dL_law_1285 : decode cL_law 1285 = .ok (.iaload, 1) := by decide +kernel
theorem dL_law_1286 : decode cL_law 1286 = .ok (.aload_n 0, 1) := by decide +kernel
theorem dL_law_1287 : decode cL_law 1287 = .ok (.iload_n 3, 1) := by decide +kernel
theorem dL_law_1288 : decode cL_law 1288 = .ok (.iconst 2, 1) := by decide +kernel
theorem dL_law_1289 : decode cL_law 1289 = .ok (.iadd, 1) := by decide +kernel
theorem dL_law_1290 : decode cL_law 1290 = .ok (.iaload, 1) := by decide +kernel
theorem dL_law_1291 : decode cL_law 1291 = .ok (.aload_n 0, 1) := by decide +kernel
theorem dL_law_1292 : decode cL_law 1292 = .ok (.iload_n 3, 1) := by decide +kernel
theorem dL_law_1293 : decode cL_law 1293 = .ok (.iconst 3, 1) := by decide +kernel
theorem dL_law_1294 : decode cL_law 1294 = .ok (.iadd, 1) := by decide +kernel
theorem dL_law_1295 : decode cL_law 1295 = .ok (.iaload, 1) := by decide +kernel
theorem dL_law_1296 : decode cL_law 1296 = .ok (.invokevirtual 165, 3) := by decide +kernel
theorem dL_law_1299 : decode cL_law 1299 = .ok (.if_icmp .eq 242, 3) := by decide +kernel
theorem dL_law_1302 : decode cL_law 1302 = .ok (.iconst 0, 1) := by decide +kernel
theorem dL_law_1303 : decode cL_law 1303 = .ok (.ireturn, 1) := by decide +kernel
theorem dL_law_1304 : decode cL_law 1304 = .ok (.aload_n 1, 1) := by decide +kernel
theorem dL_law_1305 : decode cL_law 1305 = .ok (.aload_n 0, 1) := by decide +kernel
theorem dL_law_1306 : decode cL_law 1306 = .ok (.iload_n 3, 1) := by decide +kernel
theorem dL_law_1307 : decode cL_law 1307 = .ok (.iconst 1, 1) := by decide +kernel
theorem dL_law_1308 : decode cL_law 1308 = .ok (.iadd, 1) := by decide +kernel
theorem dL_law_1309 : decode cL_law 1309 = .ok (.iaload, 1) := by decide +kernel
theorem dL_law_1310 : decode cL_law 1310 = .ok (.aload_n 0, 1) := by decide +kernel
theorem dL_law_1311 : decode cL_law 1311 = .ok (.iload_n 3, 1) := by decide +kernel
theorem dL_law_1312 : decode cL_law 1312 = .ok (.iconst 2, 1) := by decide +kernel
theorem dL_law_1313 : decode cL_law 1313 = .ok (.iadd, 1) := by decide +kernel
theorem dL_law_1314 : decode cL_law 1314 = .ok (.iaload, 1) := by decide +kernel
theorem dL_law_1315 : decode cL_law 1315 = .ok (.aload_n 0, 1) := by decide +kernel
theorem dL_law_1316 : decode cL_law 1316 = .ok (.iload_n 3, 1) := by decide +kernel
theorem dL_law_1317 : decode cL_law 1317 = .ok (.iconst 3, 1) := by decide +kernel
theorem dL_law_1318 : decode cL_law 1318 = .ok (.iadd, 1) := by decide +kernel
theorem dL_law_1319 : decode cL_law 1319 = .ok (.iaload, 1) := by decide +kernel
theorem dL_law_1320 : decode cL_law 1320 = .ok (.invokevirtual 166, 3) := by decide +kernel
theorem dL_law_1323 : decode cL_law 1323 = .ok (.aload_n 2, 1) := by decide +kernel
theorem dL_law_1324 : decode cL_law 1324 = .ok (.aload_n 0, 1) := by decide +kernel
theorem dL_law_1325 : decode cL_law 1325 = .ok (.iload_n 3, 1) := by decide +kernel
theorem dL_law_1326 : decode cL_law 1326 = .ok (.iconst 1, 1) := by decide +kernel
theorem dL_law_1327 : decode cL_law 1327 = .ok (.iadd, 1) := by decide +kernel
theorem dL_law_1328 : decode cL_law 1328 = .ok (.iaload, 1) := by decide +kernel
theorem dL_law_1329 : decode cL_law 1329 = .ok (.aload_n 0, 1) := by decide +kernel
theorem dL_law_1330 : decode cL_law 1330 = .ok (.iload_n 3, 1) := by decide +kernel
theorem dL_law_1331 : decode cL_law 1331 = .ok (.iconst 2, 1) := by decide +kernel
theorem dL_law_1332 : decode cL_law 1332 = .ok (.iadd, 1) := by decide +kernel
theorem dL_law_1333 : decode cL_law 1333 = .ok (.iaload, 1) := by decide +kernel
theorem dL_law_1334 : decode cL_law 1334 = .ok (.aload_n 0, 1) := by decide +kernel
theorem dL_law_1335 : decode cL_law 1335 = .ok (.iload_n 3, 1) := by decide +kernel
theorem dL_law_1336 : decode cL_law 1336 = .ok (.iconst 3, 1) := by decide +kernel
theorem dL_law_1337 : decode cL_law 1337 = .ok (.iadd, 1) := by decide +kernel
theorem dL_law_1338 : decode cL_law 1338 = .ok (.iaload, 1) := by decide +kernel
theorem dL_law_1339 : decode cL_law 1339 = .ok (.invokevirtual 169, 3) := by decide +kernel
theorem dL_law_1342 : decode cL_law 1342 = .ok (.if_icmp .eq 199, 3) := by decide +kernel
theorem dL_law_1345 : decode cL_law 1345 = .ok (.iconst 0, 1) := by decide +kernel
theorem dL_law_1346 : decode cL_law 1346 = .ok (.ireturn, 1) := by decide +kernel
theorem dL_law_1347 : decode cL_law 1347 = .ok (.aload_n 1, 1) := by decide +kernel
theorem dL_law_1348 : decode cL_law 1348 = .ok (.aload_n 0, 1) := by decide +kernel
theorem dL_law_1349 : decode cL_law 1349 = .ok (.iload_n 3, 1) := by decide +kernel
theorem dL_law_1350 : decode cL_law 1350 = .ok (.iconst 1, 1) := by decide +kernel
theorem dL_law_1351 : decode cL_law 1351 = .ok (.iadd, 1) := by decide +kernel
theorem dL_law_1352 : decode cL_law 1352 = .ok (.iaload, 1) := by decide +kernel
theorem dL_law_1353 : decode cL_law 1353 = .ok (.aload_n 0, 1) := by decide +kernel
theorem dL_law_1354 : decode cL_law 1354 = .ok (.iload_n 3, 1) := by decide +kernel
theorem dL_law_1355 : decode cL_law 1355 = .ok (.iconst 2, 1) := by decide +kernel
theorem dL_law_1356 : decode cL_law 1356 = .ok (.iadd, 1) := by decide +kernel
theorem dL_law_1357 : decode cL_law 1357 = .ok (.iaload, 1) := by decide +kernel
theorem dL_law_1358 : decode cL_law 1358 = .ok (.aload_n 0, 1) := by decide +kernel
theorem dL_law_1359 : decode cL_law 1359 = .ok (.iload_n 3, 1) := by decide +kernel
theorem dL_law_1360 : decode cL_law 1360 = .ok (.iconst 3, 1) := by decide +kernel
theorem dL_law_1361 : decode cL_law 1361 = .ok (.iadd, 1) := by decide +kernel
theorem dL_law_1362 : decode cL_law 1362 = .ok (.iaload, 1) := by decide +kernel
theorem dL_law_1363 : decode cL_law 1363 = .ok (.aload_n 0, 1) := by decide +kernel
theorem dL_law_1364 : decode cL_law 1364 = .ok (.iload_n 3, 1) := by decide +kernel
theorem dL_law_1365 : decode cL_law 1365 = .ok (.iconst 4, 1) := by decide +kernel
theorem dL_law_1366 : decode cL_law 1366 = .ok (.iadd, 1) := by decide +kernel
theorem dL_law_1367 : decode cL_law 1367 = .ok (.iaload, 1) := by decide +kernel
theorem dL_law_1368 : decode cL_law 1368 = .ok (.aload_n 0, 1) := by decide +kernel
theorem dL_law_1369 : decode cL_law 1369 = .ok (.iload_n 3, 1) := by decide +kernel
theorem dL_law_1370 : decode cL_law 1370 = .ok (.iconst 5, 1) := by decide +kernel
theorem dL_law_1371 : decode cL_law 1371 = .ok (.iadd, 1) := by decide +kernel
theorem dL_law_1372 : decode cL_law 1372 = .ok (.iaload, 1) := by decide +kernel
theorem dL_law_1373 : decode cL_law 1373 = .ok (.invokevirtual 170, 3) := by decide +kernel
theorem dL_law_1376 : decode cL_law 1376 = .ok (.aload_n 2, 1) := by decide +kernel
theorem dL_law_1377 : decode cL_law 1377 = .ok (.aload_n 0, 1) := by decide +kernel
theorem dL_law_1378 : decode cL_law 1378 = .ok (.iload_n 3, 1) := by decide +kernel
theorem dL_law_1379 : decode cL_law 1379 = .ok (.iconst 1, 1) := by decide +kernel
theorem dL_law_1380 : decode cL_law 1380 = .ok (.iadd, 1) := by decide +kernel
theorem dL_law_1381 : decode cL_law 1381 = .ok (.iaload, 1) := by decide +kernel
theorem dL_law_1382 : decode cL_law 1382 = .ok (.aload_n 0, 1) := by decide +kernel
theorem dL_law_1383 : decode cL_law 1383 = .ok (.iload_n 3, 1) := by decide +kernel
theorem dL_law_1384 : decode cL_law 1384 = .ok (.iconst 2, 1) := by decide +kernel
theorem dL_law_1385 : decode cL_law 1385 = .ok (.iadd, 1) := by decide +kernel
theorem dL_law_1386 : decode cL_law 1386 = .ok (.iaload, 1) := by decide +kernel
theorem dL_law_1387 : decode cL_law 1387 = .ok (.aload_n 0, 1) := by decide +kernel
theorem dL_law_1388 : decode cL_law 1388 = .ok (.iload_n 3, 1) := by decide +kernel
theorem dL_law_1389 : decode cL_law 1389 = .ok (.iconst 3, 1) := by decide +kernel
theorem dL_law_1390 : decode cL_law 1390 = .ok (.iadd, 1) := by decide +kernel
theorem dL_law_1391 : decode cL_law 1391 = .ok (.iaload, 1) := by decide +kernel
theorem dL_law_1392 : decode cL_law 1392 = .ok (.aload_n 0, 1) := by decide +kernel
theorem dL_law_1393 : decode cL_law 1393 = .ok (.iload_n 3, 1) := by decide +kernel
theorem dL_law_1394 : decode cL_law 1394 = .ok (.iconst 4, 1) := by decide +kernel
theorem dL_law_1395 : decode cL_law 1395 = .ok (.iadd, 1) := by decide +kernel
theorem dL_law_1396 : decode cL_law 1396 = .ok (.iaload, 1) := by decide +kernel
theorem dL_law_1397 : decode cL_law 1397 = .ok (.aload_n 0, 1) := by decide +kernel
theorem dL_law_1398 : decode cL_law 1398 = .ok (.iload_n 3, 1) := by decide +kernel
theorem dL_law_1399 : decode cL_law 1399 = .ok (.iconst 5, 1) := by decide +kernel
theorem dL_law_1400 : decode cL_law 1400 = .ok (.iadd, 1) := by decide +kernel
theorem dL_law_1401 : decode cL_law 1401 = .ok (.iaload, 1) := by decide +kernel
theorem dL_law_1402 : decode cL_law 1402 = .ok (.invokevirtual 174, 3) := by decide +kernel
theorem dL_law_1405 : decode cL_law 1405 = .ok (.if_icmp .eq 136, 3) := by decide +kernel
theorem dL_law_1408 : decode cL_law 1408 = .ok (.iconst 0, 1) := by decide +kernel
theorem dL_law_1409 : decode cL_law 1409 = .ok (.ireturn, 1) := by decide +kernel
theorem dL_law_1410 : decode cL_law 1410 = .ok (.aload_n 1, 1) := by decide +kernel
theorem dL_law_1411 : decode cL_law 1411 = .ok (.aload_n 0, 1) := by decide +kernel
theorem dL_law_1412 : decode cL_law 1412 = .ok (.iload_n 3, 1) := by decide +kernel
theorem dL_law_1413 : decode cL_law 1413 = .ok (.iconst 1, 1) := by decide +kernel
theorem dL_law_1414 : decode cL_law 1414 = .ok (.iadd, 1) := by decide +kernel
theorem dL_law_1415 : decode cL_law 1415 = .ok (.iaload, 1) := by decide +kernel
theorem dL_law_1416 : decode cL_law 1416 = .ok (.invokevirtual 175, 3) := by decide +kernel
theorem dL_law_1419 : decode cL_law 1419 = .ok (.aload_n 2, 1) := by decide +kernel
theorem dL_law_1420 : decode cL_law 1420 = .ok (.aload_n 0, 1) := by decide +kernel
theorem dL_law_1421 : decode cL_law 1421 = .ok (.iload_n 3, 1) := by decide +kernel
theorem dL_law_1422 : decode cL_law 1422 = .ok (.iconst 1, 1) := by decide +kernel
theorem dL_law_1423 : decode cL_law 1423 = .ok (.iadd, 1) := by decide +kernel
theorem dL_law_1424 : decode cL_law 1424 = .ok (.iaload, 1) := by decide +kernel
theorem dL_law_1425 : decode cL_law 1425 = .ok (.invokevirtual 178, 3) := by decide +kernel
theorem dL_law_1428 : decode cL_law 1428 = .ok (.if_icmp .eq 113, 3) := by decide +kernel
theorem dL_law_1431 : decode cL_law 1431 = .ok (.iconst 0, 1) := by decide +kernel
theorem dL_law_1432 : decode cL_law 1432 = .ok (.ireturn, 1) := by decide +kernel
theorem dL_law_1433 : decode cL_law 1433 = .ok (.aload_n 1, 1) := by decide +kernel
theorem dL_law_1434 : decode cL_law 1434 = .ok (.aload_n 0, 1) := by decide +kernel
theorem dL_law_1435 : decode cL_law 1435 = .ok (.iload_n 3, 1) := by decide +kernel
theorem dL_law_1436 : decode cL_law 1436 = .ok (.iconst 1, 1) := by decide +kernel
theorem dL_law_1437 : decode cL_law 1437 = .ok (.iadd, 1) := by decide +kernel
theorem dL_law_1438 : decode cL_law 1438 = .ok (.iaload, 1) := by decide +kernel
theorem dL_law_1439 : decode cL_law 1439 = .ok (.invokevirtual 179, 3) := by decide +kernel
theorem dL_law_1442 : decode cL_law 1442 = .ok (.aload_n 2, 1) := by decide +kernel
theorem dL_law_1443 : decode cL_law 1443 = .ok (.aload_n 0, 1) := by decide +kernel
theorem dL_law_1444 : decode cL_law 1444 = .ok (.iload_n 3, 1) := by decide +kernel
theorem dL_law_1445 : decode cL_law 1445 = .ok (.iconst 1, 1) := by decide +kernel
theorem dL_law_1446 : decode cL_law 1446 = .ok (.iadd, 1) := by decide +kernel
theorem dL_law_1447 : decode cL_law 1447 = .ok (.iaload, 1) := by decide +kernel
theorem dL_law_1448 : decode cL_law 1448 = .ok (.invokevirtual 182, 3) := by decide +kernel
theorem dL_law_1451 : decode cL_law 1451 = .ok (.if_icmp .eq 90, 3) := by decide +kernel
theorem dL_law_1454 : decode cL_law 1454 = .ok (.iconst 0, 1) := by decide +kernel
theorem dL_law_1455 : decode cL_law 1455 = .ok (.ireturn, 1) := by decide +kernel
theorem dL_law_1456 : decode cL_law 1456 = .ok (.aload_n 1, 1) := by decide +kernel
theorem dL_law_1457 : decode cL_law 1457 = .ok (.invokevirtual 183, 3) := by decide +kernel
theorem dL_law_1460 : decode cL_law 1460 = .ok (.aload_n 2, 1) := by decide +kernel
theorem dL_law_1461 : decode cL_law 1461 = .ok (.invokevirtual 186, 3) := by decide +kernel
theorem dL_law_1464 : decode cL_law 1464 = .ok (.if_icmp .eq 77, 3) := by decide +kernel
theorem dL_law_1467 : decode cL_law 1467 = .ok (.iconst 0, 1) := by decide +kernel
theorem dL_law_1468 : decode cL_law 1468 = .ok (.ireturn, 1) := by decide +kernel
theorem dL_law_1469 : decode cL_law 1469 = .ok (.aload_n 1, 1) := by decide +kernel
theorem dL_law_1470 : decode cL_law 1470 = .ok (.invokevirtual 187, 3) := by decide +kernel
theorem dL_law_1473 : decode cL_law 1473 = .ok (.aload_n 2, 1) := by decide +kernel
theorem dL_law_1474 : decode cL_law 1474 = .ok (.invokevirtual 190, 3) := by decide +kernel
theorem dL_law_1477 : decode cL_law 1477 = .ok (.if_icmp .eq 64, 3) := by decide +kernel
theorem dL_law_1480 : decode cL_law 1480 = .ok (.iconst 0, 1) := by decide +kernel
theorem dL_law_1481 : decode cL_law 1481 = .ok (.ireturn, 1) := by decide +kernel
theorem dL_law_1482 : decode cL_law 1482 = .ok (.aload_n 1, 1) := by decide +kernel
theorem dL_law_1483 : decode cL_law 1483 = .ok (.invokevirtual 191, 3) := by decide +kernel
theorem dL_law_1486 : decode cL_law 1486 = .ok (.aload_n 2, 1) := by decide +kernel
theorem dL_law_1487 : decode cL_law 1487 = .ok (.invokevirtual 194, 3) := by decide +kernel
theorem dL_law_1490 : decode cL_law 1490 = .ok (.if_icmp .eq 51, 3) := by decide +kernel
theorem dL_law_1493 : decode cL_law 1493 = .ok (.iconst 0, 1) := by decide +kernel
theorem dL_law_1494 : decode cL_law 1494 = .ok (.ireturn, 1) := by decide +kernel
theorem dL_law_1495 : decode cL_law 1495 = .ok (.aload_n 1, 1) := by decide +kernel
theorem dL_law_1496 : decode cL_law 1496 = .ok (.aload_n 0, 1) := by decide +kernel
theorem dL_law_1497 : decode cL_law 1497 = .ok (.iload_n 3, 1) := by decide +kernel
theorem dL_law_1498 : decode cL_law 1498 = .ok (.iconst 1, 1) := by decide +kernel
theorem dL_law_1499 : decode cL_law 1499 = .ok (.iadd, 1) := by decide +kernel
theorem dL_law_1500 : decode cL_law 1500 = .ok (.iaload, 1) := by decide +kernel
theorem dL_law_1501 : decode cL_law 1501 = .ok (.invokevirtual 195, 3) := by decide +kernel
theorem dL_law_1504 : decode cL_law 1504 = .ok (.aload_n 2, 1) := by decide +kernel
theorem dL_law_1505 : decode cL_law 1505 = .ok (.aload_n 0, 1) := by decide +kernel
theorem dL_law_1506 : decode cL_law 1506 = .ok (.iload_n 3, 1) := by decide +kernel
theorem dL_law_1507 : decode cL_law 1507 = .ok (.iconst 1, 1) := by decide +kernel
theorem dL_law_1508 : decode cL_law 1508 = .ok (.iadd, 1) := by decide +kernel
theorem dL_law_1509 : decode cL_law 1509 = .ok (.iaload, 1) := by decide +kernel
theorem dL_law_1510 : decode cL_law 1510 = .ok (.invokevirtual 198, 3) := by decide +kernel
theorem dL_law_1513 : decode cL_law 1513 = .ok (.if_icmp .eq 28, 3) := by decide +kernel
theorem dL_law_1516 : decode cL_law 1516 = .ok (.iconst 0, 1) := by decide +kernel
theorem dL_law_1517 : decode cL_law 1517 = .ok (.ireturn, 1) := by decide +kernel
theorem dL_law_1518 : decode cL_law 1518 = .ok (.aload_n 1, 1) := by decide +kernel
theorem dL_law_1519 : decode cL_law 1519 = .ok (.aload_n 0, 1) := by decide +kernel
theorem dL_law_1520 : decode cL_law 1520 = .ok (.iload_n 3, 1) := by decide +kernel
theorem dL_law_1521 : decode cL_law 1521 = .ok (.iconst 1, 1) := by decide +kernel
theorem dL_law_1522 : decode cL_law 1522 = .ok (.iadd, 1) := by decide +kernel
theorem dL_law_1523 : decode cL_law 1523 = .ok (.iaload, 1) := by decide +kernel
theorem dL_law_1524 : decode cL_law 1524 = .ok (.invokevirtual 199, 3) := by decide +kernel
theorem dL_law_1527 : decode cL_law 1527 = .ok (.aload_n 2, 1) := by decide +kernel
theorem dL_law_1528 : decode cL_law 1528 = .ok (.aload_n 0, 1) := by decide +kernel
theorem dL_law_1529 : decode cL_law 1529 = .ok (.iload_n 3, 1) := by decide +kernel
theorem dL_law_1530 : decode cL_law 1530 = .ok (.iconst 1, 1) := by decide +kernel
theorem dL_law_1531 : decode cL_law 1531 = .ok (.iadd, 1) := by decide +kernel
theorem dL_law_1532 : decode cL_law 1532 = .ok (.iaload, 1) := by decide +kernel
theorem dL_law_1533 : decode cL_law 1533 = .ok (.invokevirtual 202, 3) := by decide +kernel
theorem dL_law_1536 : decode cL_law 1536 = .ok (.if_icmp .eq 5, 3) := by decide +kernel
theorem dL_law_1539 : decode cL_law 1539 = .ok (.iconst 0, 1) := by decide +kernel
theorem dL_law_1540 : decode cL_law 1540 = .ok (.ireturn, 1) := by decide +kernel
theorem dL_law_1541 : decode cL_law 1541 = .ok (.iinc 3 6, 3) := by decide +kernel
theorem dL_law_1544 : decode cL_law 1544 = .ok (.goto (-1526), 3) := by decide +kernel
theorem dL_law_1547 : decode cL_law 1547 = .ok (.iconst 1, 1) := by decide +kernel
theorem dL_law_1548 : decode cL_law 1548 = .ok (.ireturn, 1) := by decide +kernel
