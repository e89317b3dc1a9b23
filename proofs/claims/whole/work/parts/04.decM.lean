theorem dX10_init_0 : decode cX10_init 0 = .ok (.aload_n 0, 1) := by decide +kernel
theorem dX10_init_1 : decode cX10_init 1 = .ok (.invokespecial 1, 3) := by decide +kernel
theorem dX10_init_4 : decode cX10_init 4 = .ok (.aload_n 0, 1) := by decide +kernel
theorem dX10_init_5 : decode cX10_init 5 = .ok (.bipush 60, 2) := by decide +kernel
theorem dX10_init_7 : decode cX10_init 7 = .ok (.newarray .int, 2) := by decide +kernel
theorem dX10_init_9 : decode cX10_init 9 = .ok (.putfield 7, 3) := by decide +kernel
theorem dX10_init_12 : decode cX10_init 12 = .ok (.aload_n 0, 1) := by decide +kernel
theorem dX10_init_13 : decode cX10_init 13 = .ok (.bipush 33, 2) := by decide +kernel
theorem dX10_init_15 : decode cX10_init 15 = .ok (.newarray .int, 2) := by decide +kernel
theorem dX10_init_17 : decode cX10_init 17 = .ok (.putfield 13, 3) := by decide +kernel
theorem dX10_init_20 : decode cX10_init 20 = .ok (.aload_n 0, 1) := by decide +kernel
theorem dX10_init_21 : decode cX10_init 21 = .ok (.bipush 33, 2) := by decide +kernel
theorem dX10_init_23 : decode cX10_init 23 = .ok (.newarray .int, 2) := by decide +kernel
theorem dX10_init_25 : decode cX10_init 25 = .ok (.putfield 16, 3) := by decide +kernel
theorem dX10_init_28 : decode cX10_init 28 = .ok (.aload_n 0, 1) := by decide +kernel
theorem dX10_init_29 : decode cX10_init 29 = .ok (.sipush 462, 3) := by decide +kernel
theorem dX10_init_32 : decode cX10_init 32 = .ok (.newarray .int, 2) := by decide +kernel
theorem dX10_init_34 : decode cX10_init 34 = .ok (.putfield 19, 3) := by decide +kernel
theorem dX10_init_37 : decode cX10_init 37 = .ok (.aload_n 0, 1) := by decide +kernel
theorem dX10_init_38 : decode cX10_init 38 = .ok (.bipush 66, 2) := by decide +kernel
theorem dX10_init_40 : decode cX10_init 40 = .ok (.newarray .int, 2) := by decide +kernel
theorem dX10_init_42 : decode cX10_init 42 = .ok (.putfield 22, 3) := by decide +kernel
theorem dX10_init_45 : decode cX10_init 45 = .ok (.aload_n 0, 1) := by decide +kernel
theorem dX10_init_46 : decode cX10_init 46 = .ok (.iconst 2, 1) := by decide +kernel
theorem dX10_init_47 : decode cX10_init 47 = .ok (.newarray .boolean, 2) := by decide +kernel
theorem dX10_init_49 : decode cX10_init 49 = .ok (.putfield 25, 3) := by decide +kernel
theorem dX10_init_52 : decode cX10_init 52 = .ok (.aload_n 0, 1) := by decide +kernel
theorem dX10_init_53 : decode cX10_init 53 = .ok (.bipush 6, 2) := by decide +kernel
theorem dX10_init_55 : decode cX10_init 55 = .ok (.newarray .int, 2) := by decide +kernel
theorem dX10_init_57 : decode cX10_init 57 = .ok (.putfield 29, 3) := by decide +kernel
theorem dX10_init_60 : decode cX10_init 60 = .ok (.aload_n 0, 1) := by decide +kernel
theorem dX10_init_61 : decode cX10_init 61 = .ok (.bipush 6, 2) := by decide +kernel
theorem dX10_init_63 : decode cX10_init 63 = .ok (.newarray .int, 2) := by decide +kernel
theorem dX10_init_65 : decode cX10_init 65 = .ok (.putfield 32, 3) := by decide +kernel
theorem dX10_init_68 : decode cX10_init 68 = .ok (.aload_n 0, 1) := by decide +kernel
theorem dX10_init_69 : decode cX10_init 69 = .ok (.bipush 24, 2) := by decide +kernel
theorem dX10_init_71 : decode cX10_init 71 = .ok (.newarray .int, 2) := by decide +kernel
theorem dX10_init_73 : decode cX10_init 73 = .ok (.putfield 35, 3) := by decide +kernel
theorem dX10_init_76 : decode cX10_init 76 = .ok (.aload_n 0, 1) := by decide +kernel
theorem dX10_init_77 : decode cX10_init 77 = .ok (.bipush 8, 2) := by decide +kernel
theorem dX10_init_79 : decode cX10_init 79 = .ok (.newarray .int, 2) := by decide +kernel
theorem dX10_init_81 : decode cX10_init 81 = .ok (.putfield 38, 3) := by decide +kernel
theorem dX10_init_84 : decode cX10_init 84 = .ok (.aload_n 0, 1) := by decide +kernel
theorem dX10_init_85 : decode cX10_init 85 = .ok (.bipush 8, 2) := by decide +kernel
theorem dX10_init_87 : decode cX10_init 87 = .ok (.newarray .int, 2) := by decide +kernel
theorem dX10_init_89 : decode cX10_init 89 = .ok (.putfield 41, 3) := by decide +kernel
theorem dX10_init_92 : decode cX10_init 92 = .ok (.aload_n 0, 1) := by decide +kernel
theorem dX10_init_93 : decode cX10_init 93 = .ok (.bipush 8, 2) := by decide +kernel
theorem dX10_init_95 : decode cX10_init 95 = .ok (.newarray .int, 2) := by decide +kernel
theorem dX10_init_97 : decode cX10_init 97 = .ok (.putfield 44, 3) := by decide +kernel
theorem dX10_init_100 : decode cX10_init 100 = .ok (.aload_n 0, 1) := by decide +kernel
theorem dX10_init_101 : decode cX10_init 101 = .ok (.sipush 256, 3) := by decide +kernel
theorem dX10_init_104 : decode cX10_init 104 = .ok (.newarray .int, 2) := by decide +kernel
theorem dX10_init_106 : decode cX10_init 106 = .ok (.putfield 47, 3) := by decide +kernel
theorem dX10_init_109 : decode cX10_init 109 = .ok (.aload_n 0, 1) := by decide +kernel
theorem dX10_init_110 : decode cX10_init 110 = .ok (.bipush 61, 2) := by decide +kernel
theorem dX10_init_112 : decode cX10_init 112 = .ok (.newarray .long, 2) := by decide +kernel
theorem dX10_init_114 : decode cX10_init 114 = .ok (.putfield 50, 3) := by decide +kernel
theorem dX10_init_117 : decode cX10_init 117 = .ok (.aload_n 0, 1) := by decide +kernel
theorem dX10_init_118 : decode cX10_init 118 = .ok (.bipush 33, 2) := by decide +kernel
theorem dX10_init_120 : decode cX10_init 120 = .ok (.newarray .int, 2) := by decide +kernel
theorem dX10_init_122 : decode cX10_init 122 = .ok (.putfield 54, 3) := by decide +kernel
theorem dX10_init_125 : decode cX10_init 125 = .ok (.aload_n 0, 1) := by decide +kernel
theorem dX10_init_126 : decode cX10_init 126 = .ok (.iconst 1, 1) := by decide +kernel
theorem dX10_init_127 : decode cX10_init 127 = .ok (.putfield 57, 3) := by decide +kernel
theorem dX10_init_130 : decode cX10_init 130 = .ok (.aload_n 0, 1) := by decide +kernel
theorem dX10_init_131 : decode cX10_init 131 = .ok (.getfield 13, 3) := by decide +kernel
theorem dX10_init_134 : decode cX10_init 134 = .ok (.iconst 0, 1) := by decide +kernel
theorem dX10_init_135 : decode cX10_init 135 = .ok (.iconst 1, 1) := by decide +kernel
theorem dX10_init_136 : decode cX10_init 136 = .ok (.iastore, 1) := by decide +kernel
theorem dX10_init_137 : decode cX10_init 137 = .ok (.aload_n 0, 1) := by decide +kernel
theorem dX10_init_138 : decode cX10_init 138 = .ok (.getfield 13, 3) := by decide +kernel
theorem dX10_init_141 : decode cX10_init 141 = .ok (.iconst 1, 1) := by decide +kernel
theorem dX10_init_142 : decode cX10_init 142 = .ok (.iconst 1, 1) := by decide +kernel
theorem dX10_init_143 : decode cX10_init 143 = .ok (.iastore, 1) := by decide +kernel
theorem dX10_init_144 : decode cX10_init 144 = .ok (.aload_n 0, 1) := by decide +kernel
theorem dX10_init_145 : decode cX10_init 145 = .ok (.getfield 13, 3) := by decide +kernel
theorem dX10_init_148 : decode cX10_init 148 = .ok (.bipush 9, 2) := by decide +kernel
theorem dX10_init_150 : decode cX10_init 150 = .ok (.iconst 1, 1) := by decide +kernel
theorem dX10_init_151 : decode cX10_init 151 = .ok (.iastore, 1) := by decide +kernel
theorem dX10_init_152 : decode cX10_init 152 = .ok (.return_, 1) := by decide +kernel
theorem dX10_copy_0 : decode cX10_copy 0 = .ok (.iconst 0, 1) := by decide +kernel
theorem dX10_copy_1 : decode cX10_copy 1 = .ok (.istore_n 2, 1) := by decide +kernel
theorem dX10_copy_2 : decode cX10_copy 2 = .ok (.iload_n 2, 1) := by decide +kernel
theorem dX10_copy_3 : decode cX10_copy 3 = .ok (.bipush 33, 2) := by decide +kernel
theorem dX10_copy_5 : decode cX10_copy 5 = .ok (.if_icmp .ge 15, 3) := by decide +kernel
theorem dX10_copy_8 : decode cX10_copy 8 = .ok (.aload_n 1, 1) := by decide +kernel
theorem dX10_copy_9 : decode cX10_copy 9 = .ok (.iload_n 2, 1) := by decide +kernel
theorem dX10_copy_10 : decode cX10_copy 10 = .ok (.aload_n 0, 1) := by decide +kernel
theorem dX10_copy_11 : decode cX10_copy 11 = .ok (.iload_n 2, 1) := by decide +kernel
theorem dX10_copy_12 : decode cX10_copy 12 = .ok (.iaload, 1) := by decide +kernel
theorem dX10_copy_13 : decode cX10_copy 13 = .ok (.iastore, 1) := by decide +kernel
theorem dX10_copy_14 : decode cX10_copy 14 = .ok (.iinc 2 1, 3) := by decide +kernel
theorem dX10_copy_17 : decode cX10_copy 17 = .ok (.goto (-15), 3) := by decide +kernel
theorem dX10_copy_20 : decode cX10_copy 20 = .ok (.return_, 1) := by decide +kernel
theorem dX10_in_0 : decode cX10_in 0 = .ok (.lload_n 0, 1) := by decide +kernel
theorem dX10_in_1 : decode cX10_in 1 = .ok (.lload_n 2, 1) := by decide +kernel
theorem dX10_in_2 : decode cX10_in 2 = .ok (.lcmp, 1) := by decide +kernel
theorem dX10_in_3 : decode cX10_in 3 = .ok (.ifCond .lt 14, 3) := by decide +kernel
theorem dX10_in_6 : decode cX10_in 6 = .ok (.lload_n 0, 1) := by decide +kernel
theorem dX10_in_7 : decode cX10_in 7 = .ok (.lload 4, 2) := by decide +kernel
theorem dX10_in_9 : decode cX10_in 9 = .ok (.lcmp, 1) := by decide +kernel
theorem dX10_in_10 : decode cX10_in 10 = .ok (.ifCond .gt 7, 3) := by decide +kernel
theorem dX10_in_13 : decode cX10_in 13 = .ok (.iconst 1, 1) := by decide +kernel
theorem dX10_in_14 : decode cX10_in 14 = .ok (.goto 4, 3) := by decide +kernel
theorem dX10_in_17 : decode cX10_in 17 = .ok (.iconst 0, 1) := by decide +kernel
theorem dX10_in_18 : decode cX10_in 18 = .ok (.ireturn, 1) := by decide +kernel
theorem dX10_has_0 : decode cX10_has 0 = .ok (.iload_n 0, 1) := by decide +kernel
theorem dX10_has_1 : decode cX10_has 1 = .ok (.iload_n 1, 1) := by decide +kernel
theorem dX10_has_2 : decode cX10_has 2 = .ok (.ishr, 1) := by decide +kernel
theorem dX10_has_3 : decode cX10_has 3 = .ok (.iconst 1, 1) := by decide +kernel
theorem dX10_has_4 : decode cX10_has 4 = .ok (.iand, 1) := by decide +kernel
theorem dX10_has_5 : decode cX10_has 5 = .ok (.iconst 1, 1) := by decide +kernel
theorem dX10_has_6 : decode cX10_has 6 = .ok (.if_icmp .ne 7, 3) := by decide +kernel
theorem dX10_has_9 : decode cX10_has 9 = .ok (.iconst 1, 1) := by decide +kernel
theorem dX10_has_10 : decode cX10_has 10 = .ok (.goto 4, 3) := by decide +kernel
theorem dX10_has_13 : decode cX10_has 13 = .ok (.iconst 0, 1) := by decide +kernel
theorem dX10_has_14 : decode cX10_has 14 = .ok (.ireturn, 1) := by decide +kernel
theorem dX10_ones_0 : decode cX10_ones 0 = .ok (.iconst 0, 1) := by decide +kernel
theorem dX10_ones_1 : decode cX10_ones 1 = .ok (.istore_n 1, 1) := by decide +kernel
theorem dX10_ones_2 : decode cX10_ones 2 = .ok (.iconst 0, 1) := by decide +kernel
theorem dX10_ones_3 : decode cX10_ones 3 = .ok (.istore_n 2, 1) := by decide +kernel
theorem dX10_ones_4 : decode cX10_ones 4 = .ok (.iload_n 2, 1) := by decide +kernel
theorem dX10_ones_5 : decode cX10_ones 5 = .ok (.bipush 8, 2) := by decide +kernel
theorem dX10_ones_7 : decode cX10_ones 7 = .ok (.if_icmp .ge 17, 3) := by decide +kernel
theorem dX10_ones_10 : decode cX10_ones 10 = .ok (.iload_n 1, 1) := by decide +kernel
theorem dX10_ones_11 : decode cX10_ones 11 = .ok (.iload_n 0, 1) := by decide +kernel
theorem dX10_ones_12 : decode cX10_ones 12 = .ok (.iload_n 2, 1) := by decide +kernel
theorem dX10_ones_13 : decode cX10_ones 13 = .ok (.ishr, 1) := by decide +kernel
theorem dX10_ones_14 : decode cX10_ones 14 = .ok (.iconst 1, 1) := by decide +kernel
theorem dX10_ones_15 : decode cX10_ones 15 = .ok (.iand, 1) := by decide +kernel
theorem dX10_ones_16 : decode cX10_ones 16 = .ok (.iadd, 1) := by decide +kernel
theorem dX10_ones_17 : decode cX10_ones 17 = .ok (.istore_n 1, 1) := by decide +kernel
theorem dX10_ones_18 : decode cX10_ones 18 = .ok (.iinc 2 1, 3) := by decide +kernel
theorem dX10_ones_21 : decode cX10_ones 21 = .ok (.goto (-17), 3) := by decide +kernel
theorem dX10_ones_24 : decode cX10_ones 24 = .ok (.iload_n 1, 1) := by decide +kernel
theorem dX10_ones_25 : decode cX10_ones 25 = .ok (.ireturn, 1) := by decide +kernel
theorem dX10_power_0 : decode cX10_power 0 = .ok (.iconst 1, 1) := by decide +kernel
theorem dX10_power_1 : decode cX10_power 1 = .ok (.istore_n 2, 1) := by decide +kernel
theorem dX10_power_2 : decode cX10_power 2 = .ok (.iconst 0, 1) := by decide +kernel
theorem dX10_power_3 : decode cX10_power 3 = .ok (.istore_n 3, 1) := by decide +kernel
theorem dX10_power_4 : decode cX10_power 4 = .ok (.iload_n 3, 1) := by decide +kernel
theorem dX10_power_5 : decode cX10_power 5 = .ok (.iload_n 1, 1) := by decide +kernel
theorem dX10_power_6 : decode cX10_power 6 = .ok (.if_icmp .ge 13, 3) := by decide +kernel
theorem dX10_power_9 : decode cX10_power 9 = .ok (.iload_n 2, 1) := by decide +kernel
theorem dX10_power_10 : decode cX10_power 10 = .ok (.iload_n 0, 1) := by decide +kernel
theorem dX10_power_11 : decode cX10_power 11 = .ok (.imul, 1) := by decide +kernel
theorem dX10_power_12 : decode cX10_power 12 = .ok (.istore_n 2, 1) := by decide +kernel
theorem dX10_power_13 : decode cX10_power 13 = .ok (.iinc 3 1, 3) := by decide +kernel
theorem dX10_power_16 : decode cX10_power 16 = .ok (.goto (-12), 3) := by decide +kernel
theorem dX10_power_19 : decode cX10_power 19 = .ok (.iload_n 2, 1) := by decide +kernel
theorem dX10_power_20 : decode cX10_power 20 = .ok (.ireturn, 1) := by decide +kernel
theorem dX10_factorial_0 : decode cX10_factorial 0 = .ok (.iconst 1, 1) := by decide +kernel
theorem dX10_factorial_1 : decode cX10_factorial 1 = .ok (.istore_n 1, 1) := by decide +kernel
theorem dX10_factorial_2 : decode cX10_factorial 2 = .ok (.iconst 2, 1) := by decide +kernel
theorem dX10_factorial_3 : decode cX10_factorial 3 = .ok (.istore_n 2, 1) := by decide +kernel
theorem dX10_factorial_4 : decode cX10_factorial 4 = .ok (.iload_n 2, 1) := by decide +kernel
theorem dX10_factorial_5 : decode cX10_factorial 5 = .ok (.iload_n 0, 1) := by decide +kernel
theorem dX10_factorial_6 : decode cX10_factorial 6 = .ok (.if_icmp .gt 13, 3) := by decide +kernel
theorem dX10_factorial_9 : decode cX10_factorial 9 = .ok (.iload_n 1, 1) := by decide +kernel
theorem dX10_factorial_10 : decode cX10_factorial 10 = .ok (.iload_n 2, 1) := by decide +kernel
theorem dX10_factorial_11 : decode cX10_factorial 11 = .ok (.imul, 1) := by decide +kernel
theorem dX10_factorial_12 : decode cX10_factorial 12 = .ok (.istore_n 1, 1) := by decide +kernel
theorem dX10_factorial_13 : decode cX10_factorial 13 = .ok (.iinc 2 1, 3) := by decide +kernel
theorem dX10_factorial_16 : decode cX10_factorial 16 = .ok (.goto (-12), 3) := by decide +kernel
theorem dX10_factorial_19 : decode cX10_factorial 19 = .ok (.iload_n 1, 1) := by decide +kernel
theorem dX10_factorial_20 : decode cX10_factorial 20 = .ok (.ireturn, 1) := by decide +kernel
theorem dX10_fraction_0 : decode cX10_fraction 0 = .ok (.iload_n 0, 1) := by decide +kernel
theorem dX10_fraction_1 : decode cX10_fraction 1 = .ok (.ifCond .ge 8, 3) := by decide +kernel
theorem dX10_fraction_4 : decode cX10_fraction 4 = .ok (.iload_n 0, 1) := by decide +kernel
theorem dX10_fraction_5 : decode cX10_fraction 5 = .ok (.ineg, 1) := by decide +kernel
theorem dX10_fraction_6 : decode cX10_fraction 6 = .ok (.goto 4, 3) := by decide +kernel
theorem dX10_fraction_9 : decode cX10_fraction 9 = .ok (.iload_n 0, 1) := by decide +kernel
theorem dX10_fraction_10 : decode cX10_fraction 10 = .ok (.istore_n 3, 1) := by decide +kernel
theorem dX10_fraction_11 : decode cX10_fraction 11 = .ok (.iload_n 1, 1) := by decide +kernel
theorem dX10_fraction_12 : decode cX10_fraction 12 = .ok (.istore 4, 2) := by decide +kernel
theorem dX10_fraction_14 : decode cX10_fraction 14 = .ok (.iload 4, 2) := by decide +kernel
theorem dX10_fraction_16 : decode cX10_fraction 16 = .ok (.ifCond .eq 19, 3) := by decide +kernel
theorem dX10_fraction_19 : decode cX10_fraction 19 = .ok (.iload_n 3, 1) := by decide +kernel
theorem dX10_fraction_20 : decode cX10_fraction 20 = .ok (.iload 4, 2) := by decide +kernel
theorem dX10_fraction_22 : decode cX10_fraction 22 = .ok (.irem, 1) := by decide +kernel
theorem dX10_fraction_23 : decode cX10_fraction 23 = .ok (.istore 5, 2) := by decide +kernel
theorem dX10_fraction_25 : decode cX10_fraction 25 = .ok (.iload 4, 2) := by decide +kernel
theorem dX10_fraction_27 : decode cX10_fraction 27 = .ok (.istore_n 3, 1) := by decide +kernel
theorem dX10_fraction_28 : decode cX10_fraction 28 = .ok (.iload 5, 2) := by decide +kernel
theorem dX10_fraction_30 : decode cX10_fraction 30 = .ok (.istore 4, 2) := by decide +kernel
theorem dX10_fraction_32 : decode cX10_fraction 32 = .ok (.goto (-18), 3) := by decide +kernel
theorem dX10_fraction_35 : decode cX10_fraction 35 = .ok (.iload_n 2, 1) := by decide +kernel
theorem dX10_fraction_36 : decode cX10_fraction 36 = .ok (.ifCond .eq 9, 3) := by decide +kernel
theorem dX10_fraction_39 : decode cX10_fraction 39 = .ok (.iload_n 0, 1) := by decide +kernel
theorem dX10_fraction_40 : decode cX10_fraction 40 = .ok (.iload_n 3, 1) := by decide +kernel
theorem dX10_fraction_41 : decode cX10_fraction 41 = .ok (.idiv, 1) := by decide +kernel
theorem dX10_fraction_42 : decode cX10_fraction 42 = .ok (.goto 6, 3) := by decide +kernel
theorem dX10_fraction_45 : decode cX10_fraction 45 = .ok (.iload_n 1, 1) := by decide +kernel
theorem dX10_fraction_46 : decode cX10_fraction 46 = .ok (.iload_n 3, 1) := by decide +kernel
theorem dX10_fraction_47 : decode cX10_fraction 47 = .ok (.idiv, 1) := by decide +kernel
theorem dX10_fraction_48 : decode cX10_fraction 48 = .ok (.ireturn, 1) := by decide +kernel
theorem dX10_isPerson_0 : decode cX10_isPerson 0 = .ok (.iload_n 1, 1) := by decide +kernel
theorem dX10_isPerson_1 : decode cX10_isPerson 1 = .ok (.i2l, 1) := by decide +kernel
theorem dX10_isPerson_2 : decode cX10_isPerson 2 = .ok (.lconst 0, 1) := by decide +kernel
theorem dX10_isPerson_3 : decode cX10_isPerson 3 = .ok (.aload_n 0, 1) := by decide +kernel
theorem dX10_isPerson_4 : decode cX10_isPerson 4 = .ok (.getfield 57, 3) := by decide +kernel
theorem dX10_isPerson_7 : decode cX10_isPerson 7 = .ok (.iconst 1, 1) := by decide +kernel
theorem dX10_isPerson_8 : decode cX10_isPerson 8 = .ok (.isub, 1) := by decide +kernel
theorem dX10_isPerson_9 : decode cX10_isPerson 9 = .ok (.i2l, 1) := by decide +kernel
theorem dX10_isPerson_10 : decode cX10_isPerson 10 = .ok (.invokestatic 61, 3) := by decide +kernel
theorem dX10_isPerson_13 : decode cX10_isPerson 13 = .ok (.ireturn, 1) := by decide +kernel
theorem dX10_write_0 : decode cX10_write 0 = .ok (.iload_n 1, 1) := by decide +kernel
theorem dX10_write_1 : decode cX10_write 1 = .ok (.i2l, 1) := by decide +kernel
theorem dX10_write_2 : decode cX10_write 2 = .ok (.lconst 0, 1) := by decide +kernel
theorem dX10_write_3 : decode cX10_write 3 = .ok (.ldc2_w 65, 3) := by decide +kernel
theorem dX10_write_6 : decode cX10_write 6 = .ok (.invokestatic 61, 3) := by decide +kernel
theorem dX10_write_9 : decode cX10_write 9 = .ok (.ifCond .ne 6, 3) := by decide +kernel
theorem dX10_write_12 : decode cX10_write 12 = .ok (.bipush (-2), 2) := by decide +kernel
theorem dX10_write_14 : decode cX10_write 14 = .ok (.ireturn, 1) := by decide +kernel
theorem dX10_write_15 : decode cX10_write 15 = .ok (.aload_n 0, 1) := by decide +kernel
theorem dX10_write_16 : decode cX10_write 16 = .ok (.getfield 67, 3) := by decide +kernel
theorem dX10_write_19 : decode cX10_write 19 = .ok (.bipush 60, 2) := by decide +kernel
theorem dX10_write_21 : decode cX10_write 21 = .ok (.if_icmp .ne 6, 3) := by decide +kernel
theorem dX10_write_24 : decode cX10_write 24 = .ok (.bipush (-4), 2) := by decide +kernel
theorem dX10_write_26 : decode cX10_write 26 = .ok (.ireturn, 1) := by decide +kernel
theorem dX10_write_27 : decode cX10_write 27 = .ok (.aload_n 0, 1) := by decide +kernel
theorem dX10_write_28 : decode cX10_write 28 = .ok (.getfield 7, 3) := by decide +kernel
theorem dX10_write_31 : decode cX10_write 31 = .ok (.aload_n 0, 1) := by decide +kernel
theorem dX10_write_32 : decode cX10_write 32 = .ok (.getfield 67, 3) := by decide +kernel
theorem dX10_write_35 : decode cX10_write 35 = .ok (.iload_n 1, 1) := by decide +kernel
theorem dX10_write_36 : decode cX10_write 36 = .ok (.iastore, 1) := by decide +kernel
theorem dX10_write_37 : decode cX10_write 37 = .ok (.aload_n 0, 1) := by decide +kernel
theorem dX10_write_38 : decode cX10_write 38 = .ok (.dup, 1) := by decide +kernel
theorem dX10_write_39 : decode cX10_write 39 = .ok (.getfield 67, 3) := by decide +kernel
theorem dX10_write_42 : decode cX10_write 42 = .ok (.iconst 1, 1) := by decide +kernel
theorem dX10_write_43 : decode cX10_write 43 = .ok (.iadd, 1) := by decide +kernel
theorem dX10_write_44 : decode cX10_write 44 = .ok (.putfield 67, 3) := by decide +kernel
theorem dX10_write_47 : decode cX10_write 47 = .ok (.aload_n 0, 1) := by decide +kernel
theorem dX10_write_48 : decode cX10_write 48 = .ok (.getfield 67, 3) := by decide +kernel
theorem dX10_write_51 : decode cX10_write 51 = .ok (.ireturn, 1) := by decide +kernel
theorem dX10_wipe_0 : decode cX10_wipe 0 = .ok (.aload_n 0, 1) := by decide +kernel
theorem dX10_wipe_1 : decode cX10_wipe 1 = .ok (.getfield 67, 3) := by decide +kernel
theorem dX10_wipe_4 : decode cX10_wipe 4 = .ok (.istore_n 1, 1) := by decide +kernel
theorem dX10_wipe_5 : decode cX10_wipe 5 = .ok (.aload_n 0, 1) := by decide +kernel
theorem dX10_wipe_6 : decode cX10_wipe 6 = .ok (.iconst 0, 1) := by decide +kernel
theorem dX10_wipe_7 : decode cX10_wipe 7 = .ok (.putfield 67, 3) := by decide +kernel
theorem dX10_wipe_10 : decode cX10_wipe 10 = .ok (.iload_n 1, 1) := by decide +kernel
theorem dX10_wipe_11 : decode cX10_wipe 11 = .ok (.ireturn, 1) := by decide +kernel
theorem dX10_takeHead_0 : decode cX10_takeHead 0 = .ok (.iload_n 1, 1) := by decide +kernel
theorem dX10_takeHead_1 : decode cX10_takeHead 1 = .ok (.iconst 1, 1) := by decide +kernel
theorem dX10_takeHead_2 : decode cX10_takeHead 2 = .ok (.if_icmp .ne 20, 3) := by decide +kernel
theorem dX10_takeHead_5 : decode cX10_takeHead 5 = .ok (.aload_n 0, 1) := by decide +kernel
theorem dX10_takeHead_6 : decode cX10_takeHead 6 = .ok (.getfield 54, 3) := by decide +kernel
theorem dX10_takeHead_9 : decode cX10_takeHead 9 = .ok (.iconst 0, 1) := by decide +kernel
theorem dX10_takeHead_10 : decode cX10_takeHead 10 = .ok (.iload_n 2, 1) := by decide +kernel
theorem dX10_takeHead_11 : decode cX10_takeHead 11 = .ok (.iastore, 1) := by decide +kernel
theorem dX10_takeHead_12 : decode cX10_takeHead 12 = .ok (.iload_n 2, 1) := by decide +kernel
theorem dX10_takeHead_13 : decode cX10_takeHead 13 = .ok (.i2l, 1) := by decide +kernel
theorem dX10_takeHead_14 : decode cX10_takeHead 14 = .ok (.lconst 1, 1) := by decide +kernel
theorem dX10_takeHead_15 : decode cX10_takeHead 15 = .ok (.ldc2_w 70, 3) := by decide +kernel
theorem dX10_takeHead_18 : decode cX10_takeHead 18 = .ok (.invokestatic 61, 3) := by decide +kernel
theorem dX10_takeHead_21 : decode cX10_takeHead 21 = .ok (.ireturn, 1) := by decide +kernel
theorem dX10_takeHead_22 : decode cX10_takeHead 22 = .ok (.iload_n 1, 1) := by decide +kernel
theorem dX10_takeHead_23 : decode cX10_takeHead 23 = .ok (.iconst 2, 1) := by decide +kernel
theorem dX10_takeHead_24 : decode cX10_takeHead 24 = .ok (.if_icmp .ne 18, 3) := by decide +kernel
theorem dX10_takeHead_27 : decode cX10_takeHead 27 = .ok (.aload_n 0, 1) := by decide +kernel
theorem dX10_takeHead_28 : decode cX10_takeHead 28 = .ok (.iload_n 2, 1) := by decide +kernel
theorem dX10_takeHead_29 : decode cX10_takeHead 29 = .ok (.putfield 72, 3) := by decide +kernel
theorem dX10_takeHead_32 : decode cX10_takeHead 32 = .ok (.iload_n 2, 1) := by decide +kernel
theorem dX10_takeHead_33 : decode cX10_takeHead 33 = .ok (.i2l, 1) := by decide +kernel
theorem dX10_takeHead_34 : decode cX10_takeHead 34 = .ok (.lconst 1, 1) := by decide +kernel
theorem dX10_takeHead_35 : decode cX10_takeHead 35 = .ok (.ldc2_w 75, 3) := by decide +kernel
theorem dX10_takeHead_38 : decode cX10_takeHead 38 = .ok (.invokestatic 61, 3) := by decide +kernel
theorem dX10_takeHead_41 : decode cX10_takeHead 41 = .ok (.ireturn, 1) := by decide +kernel
theorem dX10_takeHead_42 : decode cX10_takeHead 42 = .ok (.iload_n 1, 1) := by decide +kernel
theorem dX10_takeHead_43 : decode cX10_takeHead 43 = .ok (.iconst 3, 1) := by decide +kernel
theorem dX10_takeHead_44 : decode cX10_takeHead 44 = .ok (.isub, 1) := by decide +kernel
theorem dX10_takeHead_45 : decode cX10_takeHead 45 = .ok (.iconst 2, 1) := by decide +kernel
theorem dX10_takeHead_46 : decode cX10_takeHead 46 = .ok (.idiv, 1) := by decide +kernel
theorem dX10_takeHead_47 : decode cX10_takeHead 47 = .ok (.istore_n 3, 1) := by decide +kernel
theorem dX10_takeHead_48 : decode cX10_takeHead 48 = .ok (.iload_n 1, 1) := by decide +kernel
theorem dX10_takeHead_49 : decode cX10_takeHead 49 = .ok (.iconst 2, 1) := by decide +kernel
theorem dX10_takeHead_50 : decode cX10_takeHead 50 = .ok (.irem, 1) := by decide +kernel
theorem dX10_takeHead_51 : decode cX10_takeHead 51 = .ok (.iconst 1, 1) := by decide +kernel
theorem dX10_takeHead_52 : decode cX10_takeHead 52 = .ok (.if_icmp .ne 22, 3) := by decide +kernel
theorem dX10_takeHead_55 : decode cX10_takeHead 55 = .ok (.aload_n 0, 1) := by decide +kernel
theorem dX10_takeHead_56 : decode cX10_takeHead 56 = .ok (.getfield 54, 3) := by decide +kernel
theorem dX10_takeHead_59 : decode cX10_takeHead 59 = .ok (.iconst 1, 1) := by decide +kernel
theorem dX10_takeHead_60 : decode cX10_takeHead 60 = .ok (.iload_n 3, 1) := by decide +kernel
theorem dX10_takeHead_61 : decode cX10_takeHead 61 = .ok (.iadd, 1) := by decide +kernel
theorem dX10_takeHead_62 : decode cX10_takeHead 62 = .ok (.iload_n 2, 1) := by decide +kernel
theorem dX10_takeHead_63 : decode cX10_takeHead 63 = .ok (.iastore, 1) := by decide +kernel
theorem dX10_takeHead_64 : decode cX10_takeHead 64 = .ok (.iload_n 2, 1) := by decide +kernel
theorem dX10_takeHead_65 : decode cX10_takeHead 65 = .ok (.i2l, 1) := by decide +kernel
theorem dX10_takeHead_66 : decode cX10_takeHead 66 = .ok (.lconst 1, 1) := by decide +kernel
theorem dX10_takeHead_67 : decode cX10_takeHead 67 = .ok (.ldc2_w 77, 3) := by decide +kernel
theorem dX10_takeHead_70 : decode cX10_takeHead 70 = .ok (.invokestatic 61, 3) := by decide +kernel
theorem dX10_takeHead_73 : decode cX10_takeHead 73 = .ok (.ireturn, 1) := by decide +kernel
theorem dX10_takeHead_74 : decode cX10_takeHead 74 = .ok (.aload_n 0, 1) := by decide +kernel
theorem dX10_takeHead_75 : decode cX10_takeHead 75 = .ok (.getfield 54, 3) := by decide +kernel
theorem dX10_takeHead_78 : decode cX10_takeHead 78 = .ok (.bipush 9, 2) := by decide +kernel
theorem dX10_takeHead_80 : decode cX10_takeHead 80 = .ok (.iload_n 3, 1) := by decide +kernel
theorem dX10_takeHead_81 : decode cX10_takeHead 81 = .ok (.iadd, 1) := by decide +kernel
theorem dX10_takeHead_82 : decode cX10_takeHead 82 = .ok (.iload_n 2, 1) := by decide +kernel
theorem dX10_takeHead_83 : decode cX10_takeHead 83 = .ok (.iastore, 1) := by decide +kernel
theorem dX10_takeHead_84 : decode cX10_takeHead 84 = .ok (.iload_n 2, 1) := by decide +kernel
theorem dX10_takeHead_85 : decode cX10_takeHead 85 = .ok (.i2l, 1) := by decide +kernel
theorem dX10_takeHead_86 : decode cX10_takeHead 86 = .ok (.lconst 1, 1) := by decide +kernel
theorem dX10_takeHead_87 : decode cX10_takeHead 87 = .ok (.ldc2_w 79, 3) := by decide +kernel
theorem dX10_takeHead_90 : decode cX10_takeHead 90 = .ok (.invokestatic 61, 3) := by decide +kernel
theorem dX10_takeHead_93 : decode cX10_takeHead 93 = .ok (.ireturn, 1) := by decide +kernel
theorem dX10_takePart_0 : decode cX10_takePart 0 = .ok (.iload_n 2, 1) := by decide +kernel
theorem dX10_takePart_1 : decode cX10_takePart 1 = .ok (.bipush 48, 2) := by decide +kernel
theorem dX10_takePart_3 : decode cX10_takePart 3 = .ok (.isub, 1) := by decide +kernel
theorem dX10_takePart_4 : decode cX10_takePart 4 = .ok (.istore_n 3, 1) := by decide +kernel
theorem dX10_takePart_5 : decode cX10_takePart 5 = .ok (.iload_n 1, 1) := by decide +kernel
theorem dX10_takePart_6 : decode cX10_takePart 6 = .ok (.ifCond .ne 28, 3) := by decide +kernel
theorem dX10_takePart_9 : decode cX10_takePart 9 = .ok (.iload_n 2, 1) := by decide +kernel
theorem dX10_takePart_10 : decode cX10_takePart 10 = .ok (.bipush 116, 2) := by decide +kernel
theorem dX10_takePart_12 : decode cX10_takePart 12 = .ok (.if_icmp .ne 20, 3) := by decide +kernel
theorem dX10_takePart_15 : decode cX10_takePart 15 = .ok (.aload_n 0, 1) := by decide +kernel
theorem dX10_takePart_16 : decode cX10_takePart 16 = .ok (.getfield 81, 3) := by decide +kernel
theorem dX10_takePart_19 : decode cX10_takePart 19 = .ok (.aload_n 0, 1) := by decide +kernel
theorem dX10_takePart_20 : decode cX10_takePart 20 = .ok (.getfield 72, 3) := by decide +kernel
theorem dX10_takePart_23 : decode cX10_takePart 23 = .ok (.iconst 1, 1) := by decide +kernel
theorem dX10_takePart_24 : decode cX10_takePart 24 = .ok (.isub, 1) := by decide +kernel
theorem dX10_takePart_25 : decode cX10_takePart 25 = .ok (.if_icmp .ge 7, 3) := by decide +kernel
theorem dX10_takePart_28 : decode cX10_takePart 28 = .ok (.iconst 1, 1) := by decide +kernel
theorem dX10_takePart_29 : decode cX10_takePart 29 = .ok (.goto 4, 3) := by decide +kernel
theorem dX10_takePart_32 : decode cX10_takePart 32 = .ok (.iconst 0, 1) := by decide +kernel
theorem dX10_takePart_33 : decode cX10_takePart 33 = .ok (.ireturn, 1) := by decide +kernel
theorem dX10_takePart_34 : decode cX10_takePart 34 = .ok (.iload_n 1, 1) := by decide +kernel
theorem dX10_takePart_35 : decode cX10_takePart 35 = .ok (.iconst 1, 1) := by decide +kernel
theorem dX10_takePart_36 : decode cX10_takePart 36 = .ok (.if_icmp .ne 41, 3) := by decide +kernel
theorem dX10_takePart_39 : decode cX10_takePart 39 = .ok (.aload_n 0, 1) := by decide +kernel
theorem dX10_takePart_40 : decode cX10_takePart 40 = .ok (.iload_n 3, 1) := by decide +kernel
theorem dX10_takePart_41 : decode cX10_takePart 41 = .ok (.putfield 84, 3) := by decide +kernel
theorem dX10_takePart_44 : decode cX10_takePart 44 = .ok (.iload_n 3, 1) := by decide +kernel
theorem dX10_takePart_45 : decode cX10_takePart 45 = .ok (.i2l, 1) := by decide +kernel
theorem dX10_takePart_46 : decode cX10_takePart 46 = .ok (.lconst 1, 1) := by decide +kernel
theorem dX10_takePart_47 : decode cX10_takePart 47 = .ok (.aload_n 0, 1) := by decide +kernel
theorem dX10_takePart_48 : decode cX10_takePart 48 = .ok (.getfield 72, 3) := by decide +kernel
theorem dX10_takePart_51 : decode cX10_takePart 51 = .ok (.iconst 1, 1) := by decide +kernel
theorem dX10_takePart_52 : decode cX10_takePart 52 = .ok (.isub, 1) := by decide +kernel
theorem dX10_takePart_53 : decode cX10_takePart 53 = .ok (.i2l, 1) := by decide +kernel
theorem dX10_takePart_54 : decode cX10_takePart 54 = .ok (.invokestatic 61, 3) := by decide +kernel
theorem dX10_takePart_57 : decode cX10_takePart 57 = .ok (.ifCond .eq 18, 3) := by decide +kernel
theorem dX10_takePart_60 : decode cX10_takePart 60 = .ok (.aload_n 0, 1) := by decide +kernel
theorem dX10_takePart_61 : decode cX10_takePart 61 = .ok (.getfield 87, 3) := by decide +kernel
theorem dX10_takePart_64 : decode cX10_takePart 64 = .ok (.iload_n 3, 1) := by decide +kernel
theorem dX10_takePart_65 : decode cX10_takePart 65 = .ok (.invokestatic 90, 3) := by decide +kernel
theorem dX10_takePart_68 : decode cX10_takePart 68 = .ok (.ifCond .ne 7, 3) := by decide +kernel
theorem dX10_takePart_71 : decode cX10_takePart 71 = .ok (.iconst 1, 1) := by decide +kernel
theorem dX10_takePart_72 : decode cX10_takePart 72 = .ok (.goto 4, 3) := by decide +kernel
theorem dX10_takePart_75 : decode cX10_takePart 75 = .ok (.iconst 0, 1) := by decide +kernel
theorem dX10_takePart_76 : decode cX10_takePart 76 = .ok (.ireturn, 1) := by decide +kernel
theorem dX10_takePart_77 : decode cX10_takePart 77 = .ok (.iload_n 3, 1) := by decide +kernel
theorem dX10_takePart_78 : decode cX10_takePart 78 = .ok (.i2l, 1) := by decide +kernel
theorem dX10_takePart_79 : decode cX10_takePart 79 = .ok (.lconst 0, 1) := by decide +kernel
theorem dX10_takePart_80 : decode cX10_takePart 80 = .ok (.aload_n 0, 1) := by decide +kernel
theorem dX10_takePart_81 : decode cX10_takePart 81 = .ok (.getfield 72, 3) := by decide +kernel
theorem dX10_takePart_84 : decode cX10_takePart 84 = .ok (.iconst 1, 1) := by decide +kernel
theorem dX10_takePart_85 : decode cX10_takePart 85 = .ok (.isub, 1) := by decide +kernel
theorem dX10_takePart_86 : decode cX10_takePart 86 = .ok (.i2l, 1) := by decide +kernel
theorem dX10_takePart_87 : decode cX10_takePart 87 = .ok (.invokestatic 61, 3) := by decide +kernel
theorem dX10_takePart_90 : decode cX10_takePart 90 = .ok (.ifCond .eq 14, 3) := by decide +kernel
theorem dX10_takePart_93 : decode cX10_takePart 93 = .ok (.aload_n 0, 1) := by decide +kernel
theorem dX10_takePart_94 : decode cX10_takePart 94 = .ok (.getfield 87, 3) := by decide +kernel
theorem dX10_takePart_97 : decode cX10_takePart 97 = .ok (.iload_n 3, 1) := by decide +kernel
theorem dX10_takePart_98 : decode cX10_takePart 98 = .ok (.invokestatic 90, 3) := by decide +kernel
theorem dX10_takePart_101 : decode cX10_takePart 101 = .ok (.ifCond .ne 5, 3) := by decide +kernel
theorem dX10_takePart_104 : decode cX10_takePart 104 = .ok (.iconst 0, 1) := by decide +kernel
theorem dX10_takePart_105 : decode cX10_takePart 105 = .ok (.ireturn, 1) := by decide +kernel
theorem dX10_takePart_106 : decode cX10_takePart 106 = .ok (.aload_n 0, 1) := by decide +kernel
theorem dX10_takePart_107 : decode cX10_takePart 107 = .ok (.getfield 54, 3) := by decide +kernel
theorem dX10_takePart_110 : decode cX10_takePart 110 = .ok (.bipush 17, 2) := by decide +kernel
theorem dX10_takePart_112 : decode cX10_takePart 112 = .ok (.aload_n 0, 1) := by decide +kernel
theorem dX10_takePart_113 : decode cX10_takePart 113 = .ok (.getfield 84, 3) := by decide +kernel
theorem dX10_takePart_116 : decode cX10_takePart 116 = .ok (.iadd, 1) := by decide +kernel
theorem dX10_takePart_117 : decode cX10_takePart 117 = .ok (.iload_n 3, 1) := by decide +kernel
theorem dX10_takePart_118 : decode cX10_takePart 118 = .ok (.iastore, 1) := by decide +kernel
theorem dX10_takePart_119 : decode cX10_takePart 119 = .ok (.aload_n 0, 1) := by decide +kernel
theorem dX10_takePart_120 : decode cX10_takePart 120 = .ok (.getfield 54, 3) := by decide +kernel
theorem dX10_takePart_123 : decode cX10_takePart 123 = .ok (.bipush 25, 2) := by decide +kernel
theorem dX10_takePart_125 : decode cX10_takePart 125 = .ok (.aload_n 0, 1) := by decide +kernel
theorem dX10_takePart_126 : decode cX10_takePart 126 = .ok (.getfield 81, 3) := by decide +kernel
theorem dX10_takePart_129 : decode cX10_takePart 129 = .ok (.iadd, 1) := by decide +kernel
theorem dX10_takePart_130 : decode cX10_takePart 130 = .ok (.aload_n 0, 1) := by decide +kernel
theorem dX10_takePart_131 : decode cX10_takePart 131 = .ok (.getfield 84, 3) := by decide +kernel
theorem dX10_takePart_134 : decode cX10_takePart 134 = .ok (.iastore, 1) := by decide +kernel
theorem dX10_takePart_135 : decode cX10_takePart 135 = .ok (.aload_n 0, 1) := by decide +kernel
theorem dX10_takePart_136 : decode cX10_takePart 136 = .ok (.dup, 1) := by decide +kernel
theorem dX10_takePart_137 : decode cX10_takePart 137 = .ok (.getfield 81, 3) := by decide +kernel
theorem dX10_takePart_140 : decode cX10_takePart 140 = .ok (.iconst 1, 1) := by decide +kernel
theorem dX10_takePart_141 : decode cX10_takePart 141 = .ok (.iadd, 1) := by decide +kernel
theorem dX10_takePart_142 : decode cX10_takePart 142 = .ok (.putfield 81, 3) := by decide +kernel
theorem dX10_takePart_145 : decode cX10_takePart 145 = .ok (.aload_n 0, 1) := by decide +kernel
theorem dX10_takePart_146 : decode cX10_takePart 146 = .ok (.dup, 1) := by decide +kernel
theorem dX10_takePart_147 : decode cX10_takePart 147 = .ok (.getfield 87, 3) := by decide +kernel
theorem dX10_takePart_150 : decode cX10_takePart 150 = .ok (.iconst 1, 1) := by decide +kernel
theorem dX10_takePart_151 : decode cX10_takePart 151 = .ok (.aload_n 0, 1) := by decide +kernel
theorem dX10_takePart_152 : decode cX10_takePart 152 = .ok (.getfield 84, 3) := by decide +kernel
theorem dX10_takePart_155 : decode cX10_takePart 155 = .ok (.ishl, 1) := by decide +kernel
theorem dX10_takePart_156 : decode cX10_takePart 156 = .ok (.ior, 1) := by decide +kernel
theorem dX10_takePart_157 : decode cX10_takePart 157 = .ok (.putfield 87, 3) := by decide +kernel
theorem dX10_takePart_160 : decode cX10_takePart 160 = .ok (.iconst 1, 1) := by decide +kernel
theorem dX10_takePart_161 : decode cX10_takePart 161 = .ok (.ireturn, 1) := by decide +kernel
theorem dX10_readText_0 : decode cX10_readText 0 = .ok (.iconst 0, 1) := by decide +kernel
theorem dX10_readText_1 : decode cX10_readText 1 = .ok (.istore_n 1, 1) := by decide +kernel
theorem dX10_readText_2 : decode cX10_readText 2 = .ok (.iload_n 1, 1) := by decide +kernel
theorem dX10_readText_3 : decode cX10_readText 3 = .ok (.bipush 33, 2) := by decide +kernel
theorem dX10_readText_5 : decode cX10_readText 5 = .ok (.if_icmp .ge 16, 3) := by decide +kernel
theorem dX10_readText_8 : decode cX10_readText 8 = .ok (.aload_n 0, 1) := by decide +kernel
theorem dX10_readText_9 : decode cX10_readText 9 = .ok (.getfield 54, 3) := by decide +kernel
theorem dX10_readText_12 : decode cX10_readText 12 = .ok (.iload_n 1, 1) := by decide +kernel
theorem dX10_readText_13 : decode cX10_readText 13 = .ok (.iconst 0, 1) := by decide +kernel
theorem dX10_readText_14 : decode cX10_readText 14 = .ok (.iastore, 1) := by decide +kernel
theorem dX10_readText_15 : decode cX10_readText 15 = .ok (.iinc 1 1, 3) := by decide +kernel
theorem dX10_readText_18 : decode cX10_readText 18 = .ok (.goto (-16), 3) := by decide +kernel
theorem dX10_readText_21 : decode cX10_readText 21 = .ok (.aload_n 0, 1) := by decide +kernel
theorem dX10_readText_22 : decode cX10_readText 22 = .ok (.iconst 1, 1) := by decide +kernel
theorem dX10_readText_23 : decode cX10_readText 23 = .ok (.putfield 72, 3) := by decide +kernel
theorem dX10_readText_26 : decode cX10_readText 26 = .ok (.aload_n 0, 1) := by decide +kernel
theorem dX10_readText_27 : decode cX10_readText 27 = .ok (.iconst 1, 1) := by decide +kernel
theorem dX10_readText_28 : decode cX10_readText 28 = .ok (.putfield 87, 3) := by decide +kernel
theorem dX10_readText_31 : decode cX10_readText 31 = .ok (.aload_n 0, 1) := by decide +kernel
theorem dX10_readText_32 : decode cX10_readText 32 = .ok (.iconst 0, 1) := by decide +kernel
theorem dX10_readText_33 : decode cX10_readText 33 = .ok (.putfield 81, 3) := by decide +kernel
theorem dX10_readText_36 : decode cX10_readText 36 = .ok (.aload_n 0, 1) := by decide +kernel
theorem dX10_readText_37 : decode cX10_readText 37 = .ok (.getfield 67, 3) := by decide +kernel
theorem dX10_readText_40 : decode cX10_readText 40 = .ok (.ifCond .eq 14, 3) := by decide +kernel
theorem dX10_readText_43 : decode cX10_readText 43 = .ok (.aload_n 0, 1) := by decide +kernel
theorem dX10_readText_44 : decode cX10_readText 44 = .ok (.getfield 7, 3) := by decide +kernel
theorem dX10_readText_47 : decode cX10_readText 47 = .ok (.iconst 0, 1) := by decide +kernel
theorem dX10_readText_48 : decode cX10_readText 48 = .ok (.iaload, 1) := by decide +kernel
theorem dX10_readText_49 : decode cX10_readText 49 = .ok (.bipush 84, 2) := by decide +kernel
theorem dX10_readText_51 : decode cX10_readText 51 = .ok (.if_icmp .eq 5, 3) := by decide +kernel
theorem dX10_readText_54 : decode cX10_readText 54 = .ok (.iconst 0, 1) := by decide +kernel
theorem dX10_readText_55 : decode cX10_readText 55 = .ok (.ireturn, 1) := by decide +kernel
theorem dX10_readText_56 : decode cX10_readText 56 = .ok (.iconst 1, 1) := by decide +kernel
theorem dX10_readText_57 : decode cX10_readText 57 = .ok (.istore_n 1, 1) := by decide +kernel
theorem dX10_readText_58 : decode cX10_readText 58 = .ok (.iload_n 1, 1) := by decide +kernel
theorem dX10_readText_59 : decode cX10_readText 59 = .ok (.aload_n 0, 1) := by decide +kernel
theorem dX10_readText_60 : decode cX10_readText 60 = .ok (.getfield 67, 3) := by decide +kernel
theorem dX10_readText_63 : decode cX10_readText 63 = .ok (.if_icmp .ge 78, 3) := by decide +kernel
theorem dX10_readText_66 : decode cX10_readText 66 = .ok (.iconst 3, 1) := by decide +kernel
theorem dX10_readText_67 : decode cX10_readText 67 = .ok (.iconst 2, 1) := by decide +kernel
theorem dX10_readText_68 : decode cX10_readText 68 = .ok (.aload_n 0, 1) := by decide +kernel
theorem dX10_readText_69 : decode cX10_readText 69 = .ok (.getfield 72, 3) := by decide +kernel
theorem dX10_readText_72 : decode cX10_readText 72 = .ok (.imul, 1) := by decide +kernel
theorem dX10_readText_73 : decode cX10_readText 73 = .ok (.iadd, 1) := by decide +kernel
theorem dX10_readText_74 : decode cX10_readText 74 = .ok (.istore_n 2, 1) := by decide +kernel
theorem dX10_readText_75 : decode cX10_readText 75 = .ok (.iload_n 1, 1) := by decide +kernel
theorem dX10_readText_76 : decode cX10_readText 76 = .ok (.iconst 3, 1) := by decide +kernel
theorem dX10_readText_77 : decode cX10_readText 77 = .ok (.if_icmp .lt 8, 3) := by decide +kernel
theorem dX10_readText_80 : decode cX10_readText 80 = .ok (.iload_n 1, 1) := by decide +kernel
theorem dX10_readText_81 : decode cX10_readText 81 = .ok (.iload_n 2, 1) := by decide +kernel
theorem dX10_readText_82 : decode cX10_readText 82 = .ok (.if_icmp .ge 7, 3) := by decide +kernel
theorem dX10_readText_85 : decode cX10_readText 85 = .ok (.iconst 1, 1) := by decide +kernel
theorem dX10_readText_86 : decode cX10_readText 86 = .ok (.goto 4, 3) := by decide +kernel
theorem dX10_readText_89 : decode cX10_readText 89 = .ok (.iconst 0, 1) := by decide +kernel
theorem dX10_readText_90 : decode cX10_readText 90 = .ok (.istore_n 3, 1) := by decide +kernel
theorem dX10_readText_91 : decode cX10_readText 91 = .ok (.iload_n 3, 1) := by decide +kernel
theorem dX10_readText_92 : decode cX10_readText 92 = .ok (.ifCond .eq 23, 3) := by decide +kernel
theorem dX10_readText_95 : decode cX10_readText 95 = .ok (.aload_n 0, 1) := by decide +kernel
theorem dX10_readText_96 : decode cX10_readText 96 = .ok (.iload_n 1, 1) := by decide +kernel
theorem dX10_readText_97 : decode cX10_readText 97 = .ok (.aload_n 0, 1) := by decide +kernel
theorem dX10_readText_98 : decode cX10_readText 98 = .ok (.getfield 7, 3) := by decide +kernel
theorem dX10_readText_101 : decode cX10_readText 101 = .ok (.iload_n 1, 1) := by decide +kernel
theorem dX10_readText_102 : decode cX10_readText 102 = .ok (.iaload, 1) := by decide +kernel
theorem dX10_readText_103 : decode cX10_readText 103 = .ok (.bipush 48, 2) := by decide +kernel
theorem dX10_readText_105 : decode cX10_readText 105 = .ok (.isub, 1) := by decide +kernel
theorem dX10_readText_106 : decode cX10_readText 106 = .ok (.invokevirtual 94, 3) := by decide +kernel
theorem dX10_readText_109 : decode cX10_readText 109 = .ok (.ifCond .eq 24, 3) := by decide +kernel
theorem dX10_readText_112 : decode cX10_readText 112 = .ok (.goto 23, 3) := by decide +kernel
theorem dX10_readText_115 : decode cX10_readText 115 = .ok (.aload_n 0, 1) := by decide +kernel
theorem dX10_readText_116 : decode cX10_readText 116 = .ok (.iload_n 1, 1) := by decide +kernel
theorem dX10_readText_117 : decode cX10_readText 117 = .ok (.iload_n 2, 1) := by decide +kernel
theorem dX10_readText_118 : decode cX10_readText 118 = .ok (.isub, 1) := by decide +kernel
theorem dX10_readText_119 : decode cX10_readText 119 = .ok (.iconst 3, 1) := by decide +kernel
theorem dX10_readText_120 : decode cX10_readText 120 = .ok (.irem, 1) := by decide +kernel
theorem dX10_readText_121 : decode cX10_readText 121 = .ok (.aload_n 0, 1) := by decide +kernel
theorem dX10_readText_122 : decode cX10_readText 122 = .ok (.getfield 7, 3) := by decide +kernel
theorem dX10_readText_125 : decode cX10_readText 125 = .ok (.iload_n 1, 1) := by decide +kernel
theorem dX10_readText_126 : decode cX10_readText 126 = .ok (.iaload, 1) := by decide +kernel
theorem dX10_readText_127 : decode cX10_readText 127 = .ok (.invokevirtual 97, 3) := by decide +kernel
theorem dX10_readText_130 : decode cX10_readText 130 = .ok (.ifCond .ne 5, 3) := by decide +kernel
theorem dX10_readText_133 : decode cX10_readText 133 = .ok (.iload_n 1, 1) := by decide +kernel
theorem dX10_readText_134 : decode cX10_readText 134 = .ok (.ireturn, 1) := by decide +kernel
theorem dX10_readText_135 : decode cX10_readText 135 = .ok (.iinc 1 1, 3) := by decide +kernel
theorem dX10_readText_138 : decode cX10_readText 138 = .ok (.goto (-80), 3) := by decide +kernel
theorem dX10_readText_141 : decode cX10_readText 141 = .ok (.aload_n 0, 1) := by decide +kernel
theorem dX10_readText_142 : decode cX10_readText 142 = .ok (.getfield 67, 3) := by decide +kernel
theorem dX10_readText_145 : decode cX10_readText 145 = .ok (.iconst 2, 1) := by decide +kernel
theorem dX10_readText_146 : decode cX10_readText 146 = .ok (.if_icmp .le 32, 3) := by decide +kernel
theorem dX10_readText_149 : decode cX10_readText 149 = .ok (.aload_n 0, 1) := by decide +kernel
theorem dX10_readText_150 : decode cX10_readText 150 = .ok (.getfield 67, 3) := by decide +kernel
theorem dX10_readText_153 : decode cX10_readText 153 = .ok (.iconst 3, 1) := by decide +kernel
theorem dX10_readText_154 : decode cX10_readText 154 = .ok (.iconst 2, 1) := by decide +kernel
theorem dX10_readText_155 : decode cX10_readText 155 = .ok (.aload_n 0, 1) := by decide +kernel
theorem dX10_readText_156 : decode cX10_readText 156 = .ok (.getfield 72, 3) := by decide +kernel
theorem dX10_readText_159 : decode cX10_readText 159 = .ok (.imul, 1) := by decide +kernel
theorem dX10_readText_160 : decode cX10_readText 160 = .ok (.iadd, 1) := by decide +kernel
theorem dX10_readText_161 : decode cX10_readText 161 = .ok (.iconst 3, 1) := by decide +kernel
theorem dX10_readText_162 : decode cX10_readText 162 = .ok (.aload_n 0, 1) := by decide +kernel
theorem dX10_readText_163 : decode cX10_readText 163 = .ok (.getfield 72, 3) := by decide +kernel
theorem dX10_readText_166 : decode cX10_readText 166 = .ok (.iconst 1, 1) := by decide +kernel
theorem dX10_readText_167 : decode cX10_readText 167 = .ok (.isub, 1) := by decide +kernel
theorem dX10_readText_168 : decode cX10_readText 168 = .ok (.imul, 1) := by decide +kernel
theorem dX10_readText_169 : decode cX10_readText 169 = .ok (.iadd, 1) := by decide +kernel
theorem dX10_readText_170 : decode cX10_readText 170 = .ok (.if_icmp .ne 8, 3) := by decide +kernel
theorem dX10_readText_173 : decode cX10_readText 173 = .ok (.bipush (-9), 2) := by decide +kernel
theorem dX10_readText_175 : decode cX10_readText 175 = .ok (.goto 7, 3) := by decide +kernel
theorem dX10_readText_178 : decode cX10_readText 178 = .ok (.aload_n 0, 1) := by decide +kernel
theorem dX10_readText_179 : decode cX10_readText 179 = .ok (.getfield 67, 3) := by decide +kernel
theorem dX10_readText_182 : decode cX10_readText 182 = .ok (.ireturn, 1) := by decide +kernel
theorem dX10_fault_0 : decode cX10_fault 0 = .ok (.aload_n 0, 1) := by decide +kernel
theorem dX10_fault_1 : decode cX10_fault 1 = .ok (.invokevirtual 100, 3) := by decide +kernel
theorem dX10_fault_4 : decode cX10_fault 4 = .ok (.ireturn, 1) := by decide +kernel
theorem dX10_telling_0 : decode cX10_telling 0 = .ok (.aload_n 0, 1) := by decide +kernel
theorem dX10_telling_1 : decode cX10_telling 1 = .ok (.invokevirtual 100, 3) := by decide +kernel
theorem dX10_telling_4 : decode cX10_telling 4 = .ok (.bipush (-9), 2) := by decide +kernel
theorem dX10_telling_6 : decode cX10_telling 6 = .ok (.if_icmp .eq 6, 3) := by decide +kernel
theorem dX10_telling_9 : decode cX10_telling 9 = .ok (.bipush (-3), 2) := by decide +kernel
theorem dX10_telling_11 : decode cX10_telling 11 = .ok (.ireturn, 1) := by decide +kernel
theorem dX10_telling_12 : decode cX10_telling 12 = .ok (.aload_n 0, 1) := by decide +kernel
theorem dX10_telling_13 : decode cX10_telling 13 = .ok (.aload_n 0, 1) := by decide +kernel
theorem dX10_telling_14 : decode cX10_telling 14 = .ok (.getfield 72, 3) := by decide +kernel
theorem dX10_telling_17 : decode cX10_telling 17 = .ok (.putfield 57, 3) := by decide +kernel
theorem dX10_telling_20 : decode cX10_telling 20 = .ok (.aload_n 0, 1) := by decide +kernel
theorem dX10_telling_21 : decode cX10_telling 21 = .ok (.getfield 54, 3) := by decide +kernel
theorem dX10_telling_24 : decode cX10_telling 24 = .ok (.aload_n 0, 1) := by decide +kernel
theorem dX10_telling_25 : decode cX10_telling 25 = .ok (.getfield 13, 3) := by decide +kernel
theorem dX10_telling_28 : decode cX10_telling 28 = .ok (.invokestatic 104, 3) := by decide +kernel
theorem dX10_telling_31 : decode cX10_telling 31 = .ok (.aload_n 0, 1) := by decide +kernel
theorem dX10_telling_32 : decode cX10_telling 32 = .ok (.iconst 0, 1) := by decide +kernel
theorem dX10_telling_33 : decode cX10_telling 33 = .ok (.putfield 108, 3) := by decide +kernel
theorem dX10_telling_36 : decode cX10_telling 36 = .ok (.aload_n 0, 1) := by decide +kernel
theorem dX10_telling_37 : decode cX10_telling 37 = .ok (.getfield 25, 3) := by decide +kernel
theorem dX10_telling_40 : decode cX10_telling 40 = .ok (.iconst 0, 1) := by decide +kernel
theorem dX10_telling_41 : decode cX10_telling 41 = .ok (.iconst 0, 1) := by decide +kernel
theorem dX10_telling_42 : decode cX10_telling 42 = .ok (.bastore, 1) := by decide +kernel
theorem dX10_telling_43 : decode cX10_telling 43 = .ok (.aload_n 0, 1) := by decide +kernel
theorem dX10_telling_44 : decode cX10_telling 44 = .ok (.getfield 25, 3) := by decide +kernel
theorem dX10_telling_47 : decode cX10_telling 47 = .ok (.iconst 1, 1) := by decide +kernel
theorem dX10_telling_48 : decode cX10_telling 48 = .ok (.iconst 0, 1) := by decide +kernel
theorem dX10_telling_49 : decode cX10_telling 49 = .ok (.bastore, 1) := by decide +kernel
theorem dX10_telling_50 : decode cX10_telling 50 = .ok (.aload_n 0, 1) := by decide +kernel
theorem dX10_telling_51 : decode cX10_telling 51 = .ok (.aload_n 0, 1) := by decide +kernel
theorem dX10_telling_52 : decode cX10_telling 52 = .ok (.getfield 13, 3) := by decide +kernel
theorem dX10_telling_55 : decode cX10_telling 55 = .ok (.invokevirtual 111, 3) := by decide +kernel
theorem dX10_telling_58 : decode cX10_telling 58 = .ok (.ireturn, 1) := by decide +kernel
theorem dX10_layTold_0 : decode cX10_layTold 0 = .ok (.iconst 0, 1) := by decide +kernel
theorem dX10_layTold_1 : decode cX10_layTold 1 = .ok (.istore_n 3, 1) := by decide +kernel
theorem dX10_layTold_2 : decode cX10_layTold 2 = .ok (.iconst 0, 1) := by decide +kernel
theorem dX10_layTold_3 : decode cX10_layTold 3 = .ok (.istore 4, 2) := by decide +kernel
theorem dX10_layTold_5 : decode cX10_layTold 5 = .ok (.iconst 0, 1) := by decide +kernel
theorem dX10_layTold_6 : decode cX10_layTold 6 = .ok (.istore 5, 2) := by decide +kernel
theorem dX10_layTold_8 : decode cX10_layTold 8 = .ok (.iload 5, 2) := by decide +kernel
theorem dX10_layTold_10 : decode cX10_layTold 10 = .ok (.aload_n 1, 1) := by decide +kernel
theorem dX10_layTold_11 : decode cX10_layTold 11 = .ok (.iconst 0, 1) := by decide +kernel
theorem dX10_layTold_12 : decode cX10_layTold 12 = .ok (.iaload, 1) := by decide +kernel
theorem dX10_layTold_13 : decode cX10_layTold 13 = .ok (.if_icmp .ge 122, 3) := by decide +kernel
theorem dX10_layTold_16 : decode cX10_layTold 16 = .ok (.iconst 0, 1) := by decide +kernel
theorem dX10_layTold_17 : decode cX10_layTold 17 = .ok (.istore 6, 2) := by decide +kernel
theorem dX10_layTold_19 : decode cX10_layTold 19 = .ok (.iload 6, 2) := by decide +kernel
theorem dX10_layTold_21 : decode cX10_layTold 21 = .ok (.aload_n 0, 1) := by decide +kernel
theorem dX10_layTold_22 : decode cX10_layTold 22 = .ok (.getfield 57, 3) := by decide +kernel
theorem dX10_layTold_25 : decode cX10_layTold 25 = .ok (.iconst 1, 1) := by decide +kernel
theorem dX10_layTold_26 : decode cX10_layTold 26 = .ok (.isub, 1) := by decide +kernel
theorem dX10_layTold_27 : decode cX10_layTold 27 = .ok (.if_icmp .ge 102, 3) := by decide +kernel
theorem dX10_layTold_30 : decode cX10_layTold 30 = .ok (.aload_n 1, 1) := by decide +kernel
theorem dX10_layTold_31 : decode cX10_layTold 31 = .ok (.bipush 25, 2) := by decide +kernel
theorem dX10_layTold_33 : decode cX10_layTold 33 = .ok (.iload 6, 2) := by decide +kernel
theorem dX10_layTold_35 : decode cX10_layTold 35 = .ok (.iadd, 1) := by decide +kernel
theorem dX10_layTold_36 : decode cX10_layTold 36 = .ok (.iaload, 1) := by decide +kernel
theorem dX10_layTold_37 : decode cX10_layTold 37 = .ok (.istore 7, 2) := by decide +kernel
theorem dX10_layTold_39 : decode cX10_layTold 39 = .ok (.aload_n 1, 1) := by decide +kernel
theorem dX10_layTold_40 : decode cX10_layTold 40 = .ok (.bipush 17, 2) := by decide +kernel
theorem dX10_layTold_42 : decode cX10_layTold 42 = .ok (.iload 7, 2) := by decide +kernel
theorem dX10_layTold_44 : decode cX10_layTold 44 = .ok (.iadd, 1) := by decide +kernel
theorem dX10_layTold_45 : decode cX10_layTold 45 = .ok (.iaload, 1) := by decide +kernel
theorem dX10_layTold_46 : decode cX10_layTold 46 = .ok (.iload_n 2, 1) := by decide +kernel
theorem dX10_layTold_47 : decode cX10_layTold 47 = .ok (.if_icmp .ne 76, 3) := by decide +kernel
theorem dX10_layTold_50 : decode cX10_layTold 50 = .ok (.aload_n 0, 1) := by decide +kernel
theorem dX10_layTold_51 : decode cX10_layTold 51 = .ok (.getfield 35, 3) := by decide +kernel
theorem dX10_layTold_54 : decode cX10_layTold 54 = .ok (.iconst 3, 1) := by decide +kernel
theorem dX10_layTold_55 : decode cX10_layTold 55 = .ok (.iload_n 2, 1) := by decide +kernel
theorem dX10_layTold_56 : decode cX10_layTold 56 = .ok (.imul, 1) := by decide +kernel
theorem dX10_layTold_57 : decode cX10_layTold 57 = .ok (.iload 5, 2) := by decide +kernel
theorem dX10_layTold_59 : decode cX10_layTold 59 = .ok (.iadd, 1) := by decide +kernel
theorem dX10_layTold_60 : decode cX10_layTold 60 = .ok (.iaload, 1) := by decide +kernel
theorem dX10_layTold_61 : decode cX10_layTold 61 = .ok (.istore 8, 2) := by decide +kernel
theorem dX10_layTold_63 : decode cX10_layTold 63 = .ok (.iload_n 3, 1) := by decide +kernel
theorem dX10_layTold_64 : decode cX10_layTold 64 = .ok (.ifCond .eq 29, 3) := by decide +kernel
theorem dX10_layTold_67 : decode cX10_layTold 67 = .ok (.iload 4, 2) := by decide +kernel
theorem dX10_layTold_69 : decode cX10_layTold 69 = .ok (.aload_n 1, 1) := by decide +kernel
theorem dX10_layTold_70 : decode cX10_layTold 70 = .ok (.bipush 9, 2) := by decide +kernel
theorem dX10_layTold_72 : decode cX10_layTold 72 = .ok (.iload_n 2, 1) := by decide +kernel
theorem dX10_layTold_73 : decode cX10_layTold 73 = .ok (.iadd, 1) := by decide +kernel
theorem dX10_layTold_74 : decode cX10_layTold 74 = .ok (.iaload, 1) := by decide +kernel
theorem dX10_layTold_75 : decode cX10_layTold 75 = .ok (.iadd, 1) := by decide +kernel
theorem dX10_layTold_76 : decode cX10_layTold 76 = .ok (.iload 8, 2) := by decide +kernel
theorem dX10_layTold_78 : decode cX10_layTold 78 = .ok (.if_icmp .le 15, 3) := by decide +kernel
theorem dX10_layTold_81 : decode cX10_layTold 81 = .ok (.iload 4, 2) := by decide +kernel
theorem dX10_layTold_83 : decode cX10_layTold 83 = .ok (.aload_n 1, 1) := by decide +kernel
theorem dX10_layTold_84 : decode cX10_layTold 84 = .ok (.bipush 9, 2) := by decide +kernel
theorem dX10_layTold_86 : decode cX10_layTold 86 = .ok (.iload_n 2, 1) := by decide +kernel
theorem dX10_layTold_87 : decode cX10_layTold 87 = .ok (.iadd, 1) := by decide +kernel
theorem dX10_layTold_88 : decode cX10_layTold 88 = .ok (.iaload, 1) := by decide +kernel
theorem dX10_layTold_89 : decode cX10_layTold 89 = .ok (.iadd, 1) := by decide +kernel
theorem dX10_layTold_90 : decode cX10_layTold 90 = .ok (.goto 5, 3) := by decide +kernel
theorem dX10_layTold_93 : decode cX10_layTold 93 = .ok (.iload 8, 2) := by decide +kernel
theorem dX10_layTold_95 : decode cX10_layTold 95 = .ok (.istore 8, 2) := by decide +kernel
theorem dX10_layTold_97 : decode cX10_layTold 97 = .ok (.aload_n 0, 1) := by decide +kernel
theorem dX10_layTold_98 : decode cX10_layTold 98 = .ok (.getfield 35, 3) := by decide +kernel
theorem dX10_layTold_101 : decode cX10_layTold 101 = .ok (.iconst 3, 1) := by decide +kernel
theorem dX10_layTold_102 : decode cX10_layTold 102 = .ok (.iload 7, 2) := by decide +kernel
theorem dX10_layTold_104 : decode cX10_layTold 104 = .ok (.imul, 1) := by decide +kernel
theorem dX10_layTold_105 : decode cX10_layTold 105 = .ok (.iload 5, 2) := by decide +kernel
theorem dX10_layTold_107 : decode cX10_layTold 107 = .ok (.iadd, 1) := by decide +kernel
theorem dX10_layTold_108 : decode cX10_layTold 108 = .ok (.iload 8, 2) := by decide +kernel
theorem dX10_layTold_110 : decode cX10_layTold 110 = .ok (.aload_n 1, 1) := by decide +kernel
theorem dX10_layTold_111 : decode cX10_layTold 111 = .ok (.iconst 1, 1) := by decide +kernel
theorem dX10_layTold_112 : decode cX10_layTold 112 = .ok (.iload_n 2, 1) := by decide +kernel
theorem dX10_layTold_113 : decode cX10_layTold 113 = .ok (.iadd, 1) := by decide +kernel
theorem dX10_layTold_114 : decode cX10_layTold 114 = .ok (.iaload, 1) := by decide +kernel
theorem dX10_layTold_115 : decode cX10_layTold 115 = .ok (.iadd, 1) := by decide +kernel
theorem dX10_layTold_116 : decode cX10_layTold 116 = .ok (.iastore, 1) := by decide +kernel
theorem dX10_layTold_117 : decode cX10_layTold 117 = .ok (.iload 8, 2) := by decide +kernel
theorem dX10_layTold_119 : decode cX10_layTold 119 = .ok (.istore 4, 2) := by decide +kernel
theorem dX10_layTold_121 : decode cX10_layTold 121 = .ok (.iconst 1, 1) := by decide +kernel
theorem dX10_layTold_122 : decode cX10_layTold 122 = .ok (.istore_n 3, 1) := by decide +kernel
theorem dX10_layTold_123 : decode cX10_layTold 123 = .ok (.iinc 6 1, 3) := by decide +kernel
theorem dX10_layTold_126 : decode cX10_layTold 126 = .ok (.goto (-107), 3) := by decide +kernel
theorem dX10_layTold_129 : decode cX10_layTold 129 = .ok (.iinc 5 1, 3) := by decide +kernel
theorem dX10_layTold_132 : decode cX10_layTold 132 = .ok (.goto (-124), 3) := by decide +kernel
theorem dX10_layTold_135 : decode cX10_layTold 135 = .ok (.return_, 1) := by decide +kernel
theorem dX10_layTicks_0 : decode cX10_layTicks 0 = .ok (.iconst 0, 1) := by decide +kernel
theorem dX10_layTicks_1 : decode cX10_layTicks 1 = .ok (.istore_n 2, 1) := by decide +kernel
theorem dX10_layTicks_2 : decode cX10_layTicks 2 = .ok (.iload_n 2, 1) := by decide +kernel
theorem dX10_layTicks_3 : decode cX10_layTicks 3 = .ok (.iconst 3, 1) := by decide +kernel
theorem dX10_layTicks_4 : decode cX10_layTicks 4 = .ok (.if_icmp .ge 16, 3) := by decide +kernel
theorem dX10_layTicks_7 : decode cX10_layTicks 7 = .ok (.aload_n 0, 1) := by decide +kernel
theorem dX10_layTicks_8 : decode cX10_layTicks 8 = .ok (.getfield 35, 3) := by decide +kernel
theorem dX10_layTicks_11 : decode cX10_layTicks 11 = .ok (.iload_n 2, 1) := by decide +kernel
theorem dX10_layTicks_12 : decode cX10_layTicks 12 = .ok (.iconst 0, 1) := by decide +kernel
theorem dX10_layTicks_13 : decode cX10_layTicks 13 = .ok (.iastore, 1) := by decide +kernel
theorem dX10_layTicks_14 : decode cX10_layTicks 14 = .ok (.iinc 2 1, 3) := by decide +kernel
theorem dX10_layTicks_17 : decode cX10_layTicks 17 = .ok (.goto (-15), 3) := by decide +kernel
theorem dX10_layTicks_20 : decode cX10_layTicks 20 = .ok (.aload_n 0, 1) := by decide +kernel
theorem dX10_layTicks_21 : decode cX10_layTicks 21 = .ok (.aload_n 1, 1) := by decide +kernel
theorem dX10_layTicks_22 : decode cX10_layTicks 22 = .ok (.iconst 0, 1) := by decide +kernel
theorem dX10_layTicks_23 : decode cX10_layTicks 23 = .ok (.invokevirtual 115, 3) := by decide +kernel
theorem dX10_layTicks_26 : decode cX10_layTicks 26 = .ok (.iconst 0, 1) := by decide +kernel
theorem dX10_layTicks_27 : decode cX10_layTicks 27 = .ok (.istore_n 2, 1) := by decide +kernel
theorem dX10_layTicks_28 : decode cX10_layTicks 28 = .ok (.iload_n 2, 1) := by decide +kernel
theorem dX10_layTicks_29 : decode cX10_layTicks 29 = .ok (.aload_n 0, 1) := by decide +kernel
theorem dX10_layTicks_30 : decode cX10_layTicks 30 = .ok (.getfield 57, 3) := by decide +kernel
theorem dX10_layTicks_33 : decode cX10_layTicks 33 = .ok (.iconst 1, 1) := by decide +kernel
theorem dX10_layTicks_34 : decode cX10_layTicks 34 = .ok (.isub, 1) := by decide +kernel
theorem dX10_layTicks_35 : decode cX10_layTicks 35 = .ok (.if_icmp .ge 20, 3) := by decide +kernel
theorem dX10_layTicks_38 : decode cX10_layTicks 38 = .ok (.aload_n 0, 1) := by decide +kernel
theorem dX10_layTicks_39 : decode cX10_layTicks 39 = .ok (.aload_n 1, 1) := by decide +kernel
theorem dX10_layTicks_40 : decode cX10_layTicks 40 = .ok (.aload_n 1, 1) := by decide +kernel
theorem dX10_layTicks_41 : decode cX10_layTicks 41 = .ok (.bipush 25, 2) := by decide +kernel
theorem dX10_layTicks_43 : decode cX10_layTicks 43 = .ok (.iload_n 2, 1) := by decide +kernel
theorem dX10_layTicks_44 : decode cX10_layTicks 44 = .ok (.iadd, 1) := by decide +kernel
theorem dX10_layTicks_45 : decode cX10_layTicks 45 = .ok (.iaload, 1) := by decide +kernel
theorem dX10_layTicks_46 : decode cX10_layTicks 46 = .ok (.invokevirtual 115, 3) := by decide +kernel
theorem dX10_layTicks_49 : decode cX10_layTicks 49 = .ok (.iinc 2 1, 3) := by decide +kernel
theorem dX10_layTicks_52 : decode cX10_layTicks 52 = .ok (.goto (-24), 3) := by decide +kernel
theorem dX10_layTicks_55 : decode cX10_layTicks 55 = .ok (.return_, 1) := by decide +kernel
theorem dX10_lastOfNews_0 : decode cX10_lastOfNews 0 = .ok (.aload_n 0, 1) := by decide +kernel
theorem dX10_lastOfNews_1 : decode cX10_lastOfNews 1 = .ok (.aload_n 1, 1) := by decide +kernel
theorem dX10_lastOfNews_2 : decode cX10_lastOfNews 2 = .ok (.invokevirtual 119, 3) := by decide +kernel
theorem dX10_lastOfNews_5 : decode cX10_lastOfNews 5 = .ok (.iconst 0, 1) := by decide +kernel
theorem dX10_lastOfNews_6 : decode cX10_lastOfNews 6 = .ok (.istore_n 3, 1) := by decide +kernel
theorem dX10_lastOfNews_7 : decode cX10_lastOfNews 7 = .ok (.iconst 1, 1) := by decide +kernel
theorem dX10_lastOfNews_8 : decode cX10_lastOfNews 8 = .ok (.istore 4, 2) := by decide +kernel
theorem dX10_lastOfNews_10 : decode cX10_lastOfNews 10 = .ok (.iload 4, 2) := by decide +kernel
theorem dX10_lastOfNews_12 : decode cX10_lastOfNews 12 = .ok (.aload_n 0, 1) := by decide +kernel
theorem dX10_lastOfNews_13 : decode cX10_lastOfNews 13 = .ok (.getfield 57, 3) := by decide +kernel
theorem dX10_lastOfNews_16 : decode cX10_lastOfNews 16 = .ok (.if_icmp .ge 40, 3) := by decide +kernel
theorem dX10_lastOfNews_19 : decode cX10_lastOfNews 19 = .ok (.aload_n 0, 1) := by decide +kernel
theorem dX10_lastOfNews_20 : decode cX10_lastOfNews 20 = .ok (.getfield 35, 3) := by decide +kernel
theorem dX10_lastOfNews_23 : decode cX10_lastOfNews 23 = .ok (.iconst 3, 1) := by decide +kernel
theorem dX10_lastOfNews_24 : decode cX10_lastOfNews 24 = .ok (.iload 4, 2) := by decide +kernel
theorem dX10_lastOfNews_26 : decode cX10_lastOfNews 26 = .ok (.imul, 1) := by decide +kernel
theorem dX10_lastOfNews_27 : decode cX10_lastOfNews 27 = .ok (.iload_n 2, 1) := by decide +kernel
theorem dX10_lastOfNews_28 : decode cX10_lastOfNews 28 = .ok (.iadd, 1) := by decide +kernel
theorem dX10_lastOfNews_29 : decode cX10_lastOfNews 29 = .ok (.iaload, 1) := by decide +kernel
theorem dX10_lastOfNews_30 : decode cX10_lastOfNews 30 = .ok (.iload_n 3, 1) := by decide +kernel
theorem dX10_lastOfNews_31 : decode cX10_lastOfNews 31 = .ok (.if_icmp .le 17, 3) := by decide +kernel
theorem dX10_lastOfNews_34 : decode cX10_lastOfNews 34 = .ok (.aload_n 0, 1) := by decide +kernel
theorem dX10_lastOfNews_35 : decode cX10_lastOfNews 35 = .ok (.getfield 35, 3) := by decide +kernel
theorem dX10_lastOfNews_38 : decode cX10_lastOfNews 38 = .ok (.iconst 3, 1) := by decide +kernel
theorem dX10_lastOfNews_39 : decode cX10_lastOfNews 39 = .ok (.iload 4, 2) := by decide +kernel
theorem dX10_lastOfNews_41 : decode cX10_lastOfNews 41 = .ok (.imul, 1) := by decide +kernel
theorem dX10_lastOfNews_42 : decode cX10_lastOfNews 42 = .ok (.iload_n 2, 1) := by decide +kernel
theorem dX10_lastOfNews_43 : decode cX10_lastOfNews 43 = .ok (.iadd, 1) := by decide +kernel
theorem dX10_lastOfNews_44 : decode cX10_lastOfNews 44 = .ok (.iaload, 1) := by decide +kernel
theorem dX10_lastOfNews_45 : decode cX10_lastOfNews 45 = .ok (.goto 4, 3) := by decide +kernel
theorem dX10_lastOfNews_48 : decode cX10_lastOfNews 48 = .ok (.iload_n 3, 1) := by decide +kernel
theorem dX10_lastOfNews_49 : decode cX10_lastOfNews 49 = .ok (.istore_n 3, 1) := by decide +kernel
theorem dX10_lastOfNews_50 : decode cX10_lastOfNews 50 = .ok (.iinc 4 1, 3) := by decide +kernel
theorem dX10_lastOfNews_53 : decode cX10_lastOfNews 53 = .ok (.goto (-43), 3) := by decide +kernel
theorem dX10_lastOfNews_56 : decode cX10_lastOfNews 56 = .ok (.iload_n 3, 1) := by decide +kernel
theorem dX10_lastOfNews_57 : decode cX10_lastOfNews 57 = .ok (.ireturn, 1) := by decide +kernel
theorem dX10_lastOf_0 : decode cX10_lastOf 0 = .ok (.iconst 0, 1) := by decide +kernel
theorem dX10_lastOf_1 : decode cX10_lastOf 1 = .ok (.istore_n 2, 1) := by decide +kernel
theorem dX10_lastOf_2 : decode cX10_lastOf 2 = .ok (.iconst 0, 1) := by decide +kernel
theorem dX10_lastOf_3 : decode cX10_lastOf 3 = .ok (.istore_n 3, 1) := by decide +kernel
theorem dX10_lastOf_4 : decode cX10_lastOf 4 = .ok (.iload_n 3, 1) := by decide +kernel
theorem dX10_lastOf_5 : decode cX10_lastOf 5 = .ok (.aload_n 1, 1) := by decide +kernel
theorem dX10_lastOf_6 : decode cX10_lastOf 6 = .ok (.iconst 0, 1) := by decide +kernel
theorem dX10_lastOf_7 : decode cX10_lastOf 7 = .ok (.iaload, 1) := by decide +kernel
theorem dX10_lastOf_8 : decode cX10_lastOf 8 = .ok (.if_icmp .ge 30, 3) := by decide +kernel
theorem dX10_lastOf_11 : decode cX10_lastOf 11 = .ok (.aload_n 0, 1) := by decide +kernel
theorem dX10_lastOf_12 : decode cX10_lastOf 12 = .ok (.aload_n 1, 1) := by decide +kernel
theorem dX10_lastOf_13 : decode cX10_lastOf 13 = .ok (.iload_n 3, 1) := by decide +kernel
theorem dX10_lastOf_14 : decode cX10_lastOf 14 = .ok (.invokevirtual 123, 3) := by decide +kernel
theorem dX10_lastOf_17 : decode cX10_lastOf 17 = .ok (.istore 4, 2) := by decide +kernel
theorem dX10_lastOf_19 : decode cX10_lastOf 19 = .ok (.iload 4, 2) := by decide +kernel
theorem dX10_lastOf_21 : decode cX10_lastOf 21 = .ok (.iload_n 2, 1) := by decide +kernel
theorem dX10_lastOf_22 : decode cX10_lastOf 22 = .ok (.if_icmp .le 8, 3) := by decide +kernel
theorem dX10_lastOf_25 : decode cX10_lastOf 25 = .ok (.iload 4, 2) := by decide +kernel
theorem dX10_lastOf_27 : decode cX10_lastOf 27 = .ok (.goto 4, 3) := by decide +kernel
theorem dX10_lastOf_30 : decode cX10_lastOf 30 = .ok (.iload_n 2, 1) := by decide +kernel
theorem dX10_lastOf_31 : decode cX10_lastOf 31 = .ok (.istore_n 2, 1) := by decide +kernel
theorem dX10_lastOf_32 : decode cX10_lastOf 32 = .ok (.iinc 3 1, 3) := by decide +kernel
theorem dX10_lastOf_35 : decode cX10_lastOf 35 = .ok (.goto (-31), 3) := by decide +kernel
theorem dX10_lastOf_38 : decode cX10_lastOf 38 = .ok (.iload_n 2, 1) := by decide +kernel
theorem dX10_lastOf_39 : decode cX10_lastOf 39 = .ok (.ireturn, 1) := by decide +kernel
theorem dX10_nextBegin_0 : decode cX10_nextBegin 0 = .ok (.aload_n 0, 1) := by decide +kernel
theorem dX10_nextBegin_1 : decode cX10_nextBegin 1 = .ok (.getfield 38, 3) := by decide +kernel
theorem dX10_nextBegin_4 : decode cX10_nextBegin 4 = .ok (.iload_n 2, 1) := by decide +kernel
theorem dX10_nextBegin_5 : decode cX10_nextBegin 5 = .ok (.iaload, 1) := by decide +kernel
theorem dX10_nextBegin_6 : decode cX10_nextBegin 6 = .ok (.aload_n 0, 1) := by decide +kernel
theorem dX10_nextBegin_7 : decode cX10_nextBegin 7 = .ok (.getfield 41, 3) := by decide +kernel
theorem dX10_nextBegin_10 : decode cX10_nextBegin 10 = .ok (.iload_n 2, 1) := by decide +kernel
theorem dX10_nextBegin_11 : decode cX10_nextBegin 11 = .ok (.iaload, 1) := by decide +kernel
theorem dX10_nextBegin_12 : decode cX10_nextBegin 12 = .ok (.aload_n 1, 1) := by decide +kernel
theorem dX10_nextBegin_13 : decode cX10_nextBegin 13 = .ok (.bipush 9, 2) := by decide +kernel
theorem dX10_nextBegin_15 : decode cX10_nextBegin 15 = .ok (.iload_n 2, 1) := by decide +kernel
theorem dX10_nextBegin_16 : decode cX10_nextBegin 16 = .ok (.iadd, 1) := by decide +kernel
theorem dX10_nextBegin_17 : decode cX10_nextBegin 17 = .ok (.iaload, 1) := by decide +kernel
theorem dX10_nextBegin_18 : decode cX10_nextBegin 18 = .ok (.imul, 1) := by decide +kernel
theorem dX10_nextBegin_19 : decode cX10_nextBegin 19 = .ok (.iadd, 1) := by decide +kernel
theorem dX10_nextBegin_20 : decode cX10_nextBegin 20 = .ok (.ireturn, 1) := by decide +kernel
theorem dX10_beginOne_0 : decode cX10_beginOne 0 = .ok (.iconst 0, 1) := by decide +kernel
theorem dX10_beginOne_1 : decode cX10_beginOne 1 = .ok (.istore_n 1, 1) := by decide +kernel
theorem dX10_beginOne_2 : decode cX10_beginOne 2 = .ok (.iload_n 1, 1) := by decide +kernel
theorem dX10_beginOne_3 : decode cX10_beginOne 3 = .ok (.bipush 8, 2) := by decide +kernel
theorem dX10_beginOne_5 : decode cX10_beginOne 5 = .ok (.if_icmp .ge 32, 3) := by decide +kernel
theorem dX10_beginOne_8 : decode cX10_beginOne 8 = .ok (.aload_n 0, 1) := by decide +kernel
theorem dX10_beginOne_9 : decode cX10_beginOne 9 = .ok (.getfield 38, 3) := by decide +kernel
theorem dX10_beginOne_12 : decode cX10_beginOne 12 = .ok (.iload_n 1, 1) := by decide +kernel
theorem dX10_beginOne_13 : decode cX10_beginOne 13 = .ok (.iload_n 1, 1) := by decide +kernel
theorem dX10_beginOne_14 : decode cX10_beginOne 14 = .ok (.ifCond .ne 7, 3) := by decide +kernel
theorem dX10_beginOne_17 : decode cX10_beginOne 17 = .ok (.iconst 0, 1) := by decide +kernel
theorem dX10_beginOne_18 : decode cX10_beginOne 18 = .ok (.goto 5, 3) := by decide +kernel
theorem dX10_beginOne_21 : decode cX10_beginOne 21 = .ok (.bipush (-9), 2) := by decide +kernel
theorem dX10_beginOne_23 : decode cX10_beginOne 23 = .ok (.iastore, 1) := by decide +kernel
theorem dX10_beginOne_24 : decode cX10_beginOne 24 = .ok (.aload_n 0, 1) := by decide +kernel
theorem dX10_beginOne_25 : decode cX10_beginOne 25 = .ok (.getfield 41, 3) := by decide +kernel
theorem dX10_beginOne_28 : decode cX10_beginOne 28 = .ok (.iload_n 1, 1) := by decide +kernel
theorem dX10_beginOne_29 : decode cX10_beginOne 29 = .ok (.iconst 0, 1) := by decide +kernel
theorem dX10_beginOne_30 : decode cX10_beginOne 30 = .ok (.iastore, 1) := by decide +kernel
theorem dX10_beginOne_31 : decode cX10_beginOne 31 = .ok (.iinc 1 1, 3) := by decide +kernel
theorem dX10_beginOne_34 : decode cX10_beginOne 34 = .ok (.goto (-32), 3) := by decide +kernel
theorem dX10_beginOne_37 : decode cX10_beginOne 37 = .ok (.return_, 1) := by decide +kernel
theorem dX10_tell_0 : decode cX10_tell 0 = .ok (.aload_n 0, 1) := by decide +kernel
theorem dX10_tell_1 : decode cX10_tell 1 = .ok (.getfield 38, 3) := by decide +kernel
theorem dX10_tell_4 : decode cX10_tell 4 = .ok (.iload_n 3, 1) := by decide +kernel
theorem dX10_tell_5 : decode cX10_tell 5 = .ok (.aload_n 0, 1) := by decide +kernel
theorem dX10_tell_6 : decode cX10_tell 6 = .ok (.aload_n 1, 1) := by decide +kernel
theorem dX10_tell_7 : decode cX10_tell 7 = .ok (.iload_n 2, 1) := by decide +kernel
theorem dX10_tell_8 : decode cX10_tell 8 = .ok (.invokevirtual 127, 3) := by decide +kernel
theorem dX10_tell_11 : decode cX10_tell 11 = .ok (.aload_n 1, 1) := by decide +kernel
theorem dX10_tell_12 : decode cX10_tell 12 = .ok (.iconst 1, 1) := by decide +kernel
theorem dX10_tell_13 : decode cX10_tell 13 = .ok (.iload_n 2, 1) := by decide +kernel
theorem dX10_tell_14 : decode cX10_tell 14 = .ok (.iadd, 1) := by decide +kernel
theorem dX10_tell_15 : decode cX10_tell 15 = .ok (.iaload, 1) := by decide +kernel
theorem dX10_tell_16 : decode cX10_tell 16 = .ok (.iadd, 1) := by decide +kernel
theorem dX10_tell_17 : decode cX10_tell 17 = .ok (.iastore, 1) := by decide +kernel
theorem dX10_tell_18 : decode cX10_tell 18 = .ok (.aload_n 0, 1) := by decide +kernel
theorem dX10_tell_19 : decode cX10_tell 19 = .ok (.getfield 41, 3) := by decide +kernel
theorem dX10_tell_22 : decode cX10_tell 22 = .ok (.iload_n 2, 1) := by decide +kernel
theorem dX10_tell_23 : decode cX10_tell 23 = .ok (.dup2, 1) := by decide +kernel
theorem dX10_tell_24 : decode cX10_tell 24 = .ok (.iaload, 1) := by decide +kernel
theorem dX10_tell_25 : decode cX10_tell 25 = .ok (.iconst 1, 1) := by decide +kernel
theorem dX10_tell_26 : decode cX10_tell 26 = .ok (.iadd, 1) := by decide +kernel
theorem dX10_tell_27 : decode cX10_tell 27 = .ok (.iastore, 1) := by decide +kernel
theorem dX10_tell_28 : decode cX10_tell 28 = .ok (.aload_n 0, 1) := by decide +kernel
theorem dX10_tell_29 : decode cX10_tell 29 = .ok (.getfield 38, 3) := by decide +kernel
theorem dX10_tell_32 : decode cX10_tell 32 = .ok (.iload_n 3, 1) := by decide +kernel
theorem dX10_tell_33 : decode cX10_tell 33 = .ok (.iaload, 1) := by decide +kernel
theorem dX10_tell_34 : decode cX10_tell 34 = .ok (.ireturn, 1) := by decide +kernel
theorem dX10_soonest_0 : decode cX10_soonest 0 = .ok (.iconst 0, 1) := by decide +kernel
theorem dX10_soonest_1 : decode cX10_soonest 1 = .ok (.istore_n 2, 1) := by decide +kernel
theorem dX10_soonest_2 : decode cX10_soonest 2 = .ok (.iconst 1, 1) := by decide +kernel
theorem dX10_soonest_3 : decode cX10_soonest 3 = .ok (.istore_n 3, 1) := by decide +kernel
theorem dX10_soonest_4 : decode cX10_soonest 4 = .ok (.iload_n 3, 1) := by decide +kernel
theorem dX10_soonest_5 : decode cX10_soonest 5 = .ok (.aload_n 0, 1) := by decide +kernel
theorem dX10_soonest_6 : decode cX10_soonest 6 = .ok (.getfield 57, 3) := by decide +kernel
theorem dX10_soonest_9 : decode cX10_soonest 9 = .ok (.if_icmp .ge 65, 3) := by decide +kernel
theorem dX10_soonest_12 : decode cX10_soonest 12 = .ok (.aload_n 0, 1) := by decide +kernel
theorem dX10_soonest_13 : decode cX10_soonest 13 = .ok (.getfield 38, 3) := by decide +kernel
theorem dX10_soonest_16 : decode cX10_soonest 16 = .ok (.iload_n 3, 1) := by decide +kernel
theorem dX10_soonest_17 : decode cX10_soonest 17 = .ok (.iaload, 1) := by decide +kernel
theorem dX10_soonest_18 : decode cX10_soonest 18 = .ok (.bipush (-9), 2) := by decide +kernel
theorem dX10_soonest_20 : decode cX10_soonest 20 = .ok (.if_icmp .eq 34, 3) := by decide +kernel
theorem dX10_soonest_23 : decode cX10_soonest 23 = .ok (.aload_n 0, 1) := by decide +kernel
theorem dX10_soonest_24 : decode cX10_soonest 24 = .ok (.aload_n 1, 1) := by decide +kernel
theorem dX10_soonest_25 : decode cX10_soonest 25 = .ok (.iload_n 3, 1) := by decide +kernel
theorem dX10_soonest_26 : decode cX10_soonest 26 = .ok (.invokevirtual 127, 3) := by decide +kernel
theorem dX10_soonest_29 : decode cX10_soonest 29 = .ok (.aload_n 1, 1) := by decide +kernel
theorem dX10_soonest_30 : decode cX10_soonest 30 = .ok (.iconst 1, 1) := by decide +kernel
theorem dX10_soonest_31 : decode cX10_soonest 31 = .ok (.iload_n 3, 1) := by decide +kernel
theorem dX10_soonest_32 : decode cX10_soonest 32 = .ok (.iadd, 1) := by decide +kernel
theorem dX10_soonest_33 : decode cX10_soonest 33 = .ok (.iaload, 1) := by decide +kernel
theorem dX10_soonest_34 : decode cX10_soonest 34 = .ok (.iadd, 1) := by decide +kernel
theorem dX10_soonest_35 : decode cX10_soonest 35 = .ok (.aload_n 0, 1) := by decide +kernel
theorem dX10_soonest_36 : decode cX10_soonest 36 = .ok (.aload_n 1, 1) := by decide +kernel
theorem dX10_soonest_37 : decode cX10_soonest 37 = .ok (.iload_n 2, 1) := by decide +kernel
theorem dX10_soonest_38 : decode cX10_soonest 38 = .ok (.invokevirtual 127, 3) := by decide +kernel
theorem dX10_soonest_41 : decode cX10_soonest 41 = .ok (.aload_n 1, 1) := by decide +kernel
theorem dX10_soonest_42 : decode cX10_soonest 42 = .ok (.iconst 1, 1) := by decide +kernel
theorem dX10_soonest_43 : decode cX10_soonest 43 = .ok (.iload_n 2, 1) := by decide +kernel
theorem dX10_soonest_44 : decode cX10_soonest 44 = .ok (.iadd, 1) := by decide +kernel
theorem dX10_soonest_45 : decode cX10_soonest 45 = .ok (.iaload, 1) := by decide +kernel
theorem dX10_soonest_46 : decode cX10_soonest 46 = .ok (.iadd, 1) := by decide +kernel
theorem dX10_soonest_47 : decode cX10_soonest 47 = .ok (.if_icmp .ge 7, 3) := by decide +kernel
theorem dX10_soonest_50 : decode cX10_soonest 50 = .ok (.iconst 1, 1) := by decide +kernel
theorem dX10_soonest_51 : decode cX10_soonest 51 = .ok (.goto 4, 3) := by decide +kernel
theorem dX10_soonest_54 : decode cX10_soonest 54 = .ok (.iconst 0, 1) := by decide +kernel
theorem dX10_soonest_55 : decode cX10_soonest 55 = .ok (.istore 4, 2) := by decide +kernel
theorem dX10_soonest_57 : decode cX10_soonest 57 = .ok (.iload 4, 2) := by decide +kernel
theorem dX10_soonest_59 : decode cX10_soonest 59 = .ok (.ifCond .eq 7, 3) := by decide +kernel
theorem dX10_soonest_62 : decode cX10_soonest 62 = .ok (.iload_n 3, 1) := by decide +kernel
theorem dX10_soonest_63 : decode cX10_soonest 63 = .ok (.goto 4, 3) := by decide +kernel
theorem dX10_soonest_66 : decode cX10_soonest 66 = .ok (.iload_n 2, 1) := by decide +kernel
theorem dX10_soonest_67 : decode cX10_soonest 67 = .ok (.istore_n 2, 1) := by decide +kernel
theorem dX10_soonest_68 : decode cX10_soonest 68 = .ok (.iinc 3 1, 3) := by decide +kernel
theorem dX10_soonest_71 : decode cX10_soonest 71 = .ok (.goto (-67), 3) := by decide +kernel
theorem dX10_soonest_74 : decode cX10_soonest 74 = .ok (.iload_n 2, 1) := by decide +kernel
theorem dX10_soonest_75 : decode cX10_soonest 75 = .ok (.ireturn, 1) := by decide +kernel
theorem dX10_quickest_0 : decode cX10_quickest 0 = .ok (.bipush (-9), 2) := by decide +kernel
theorem dX10_quickest_2 : decode cX10_quickest 2 = .ok (.istore_n 2, 1) := by decide +kernel
theorem dX10_quickest_3 : decode cX10_quickest 3 = .ok (.iconst 1, 1) := by decide +kernel
theorem dX10_quickest_4 : decode cX10_quickest 4 = .ok (.istore_n 3, 1) := by decide +kernel
theorem dX10_quickest_5 : decode cX10_quickest 5 = .ok (.iload_n 3, 1) := by decide +kernel
theorem dX10_quickest_6 : decode cX10_quickest 6 = .ok (.aload_n 0, 1) := by decide +kernel
theorem dX10_quickest_7 : decode cX10_quickest 7 = .ok (.getfield 57, 3) := by decide +kernel
theorem dX10_quickest_10 : decode cX10_quickest 10 = .ok (.if_icmp .ge 69, 3) := by decide +kernel
theorem dX10_quickest_13 : decode cX10_quickest 13 = .ok (.aload_n 0, 1) := by decide +kernel
theorem dX10_quickest_14 : decode cX10_quickest 14 = .ok (.getfield 38, 3) := by decide +kernel
theorem dX10_quickest_17 : decode cX10_quickest 17 = .ok (.iload_n 3, 1) := by decide +kernel
theorem dX10_quickest_18 : decode cX10_quickest 18 = .ok (.iaload, 1) := by decide +kernel
theorem dX10_quickest_19 : decode cX10_quickest 19 = .ok (.bipush (-9), 2) := by decide +kernel
theorem dX10_quickest_21 : decode cX10_quickest 21 = .ok (.if_icmp .ne 52, 3) := by decide +kernel
theorem dX10_quickest_24 : decode cX10_quickest 24 = .ok (.bipush 10, 2) := by decide +kernel
theorem dX10_quickest_26 : decode cX10_quickest 26 = .ok (.aload_n 1, 1) := by decide +kernel
theorem dX10_quickest_27 : decode cX10_quickest 27 = .ok (.iconst 1, 1) := by decide +kernel
theorem dX10_quickest_28 : decode cX10_quickest 28 = .ok (.iload_n 3, 1) := by decide +kernel
theorem dX10_quickest_29 : decode cX10_quickest 29 = .ok (.iadd, 1) := by decide +kernel
theorem dX10_quickest_30 : decode cX10_quickest 30 = .ok (.iaload, 1) := by decide +kernel
theorem dX10_quickest_31 : decode cX10_quickest 31 = .ok (.imul, 1) := by decide +kernel
theorem dX10_quickest_32 : decode cX10_quickest 32 = .ok (.aload_n 1, 1) := by decide +kernel
theorem dX10_quickest_33 : decode cX10_quickest 33 = .ok (.bipush 9, 2) := by decide +kernel
theorem dX10_quickest_35 : decode cX10_quickest 35 = .ok (.iload_n 3, 1) := by decide +kernel
theorem dX10_quickest_36 : decode cX10_quickest 36 = .ok (.iadd, 1) := by decide +kernel
theorem dX10_quickest_37 : decode cX10_quickest 37 = .ok (.iaload, 1) := by decide +kernel
theorem dX10_quickest_38 : decode cX10_quickest 38 = .ok (.iadd, 1) := by decide +kernel
theorem dX10_quickest_39 : decode cX10_quickest 39 = .ok (.istore 4, 2) := by decide +kernel
theorem dX10_quickest_41 : decode cX10_quickest 41 = .ok (.iload_n 2, 1) := by decide +kernel
theorem dX10_quickest_42 : decode cX10_quickest 42 = .ok (.bipush (-9), 2) := by decide +kernel
theorem dX10_quickest_44 : decode cX10_quickest 44 = .ok (.if_icmp .eq 23, 3) := by decide +kernel
theorem dX10_quickest_47 : decode cX10_quickest 47 = .ok (.iload 4, 2) := by decide +kernel
theorem dX10_quickest_49 : decode cX10_quickest 49 = .ok (.bipush 10, 2) := by decide +kernel
theorem dX10_quickest_51 : decode cX10_quickest 51 = .ok (.aload_n 1, 1) := by decide +kernel
theorem dX10_quickest_52 : decode cX10_quickest 52 = .ok (.iconst 1, 1) := by decide +kernel
theorem dX10_quickest_53 : decode cX10_quickest 53 = .ok (.iload_n 2, 1) := by decide +kernel
theorem dX10_quickest_54 : decode cX10_quickest 54 = .ok (.iadd, 1) := by decide +kernel
theorem dX10_quickest_55 : decode cX10_quickest 55 = .ok (.iaload, 1) := by decide +kernel
theorem dX10_quickest_56 : decode cX10_quickest 56 = .ok (.imul, 1) := by decide +kernel
theorem dX10_quickest_57 : decode cX10_quickest 57 = .ok (.aload_n 1, 1) := by decide +kernel
theorem dX10_quickest_58 : decode cX10_quickest 58 = .ok (.bipush 9, 2) := by decide +kernel
theorem dX10_quickest_60 : decode cX10_quickest 60 = .ok (.iload_n 2, 1) := by decide +kernel
theorem dX10_quickest_61 : decode cX10_quickest 61 = .ok (.iadd, 1) := by decide +kernel
theorem dX10_quickest_62 : decode cX10_quickest 62 = .ok (.iaload, 1) := by decide +kernel
theorem dX10_quickest_63 : decode cX10_quickest 63 = .ok (.iadd, 1) := by decide +kernel
theorem dX10_quickest_64 : decode cX10_quickest 64 = .ok (.if_icmp .ge 7, 3) := by decide +kernel
theorem dX10_quickest_67 : decode cX10_quickest 67 = .ok (.iload_n 3, 1) := by decide +kernel
theorem dX10_quickest_68 : decode cX10_quickest 68 = .ok (.goto 4, 3) := by decide +kernel
theorem dX10_quickest_71 : decode cX10_quickest 71 = .ok (.iload_n 2, 1) := by decide +kernel
theorem dX10_quickest_72 : decode cX10_quickest 72 = .ok (.istore_n 2, 1) := by decide +kernel
theorem dX10_quickest_73 : decode cX10_quickest 73 = .ok (.iinc 3 1, 3) := by decide +kernel
theorem dX10_quickest_76 : decode cX10_quickest 76 = .ok (.goto (-71), 3) := by decide +kernel
theorem dX10_quickest_79 : decode cX10_quickest 79 = .ok (.iload_n 2, 1) := by decide +kernel
theorem dX10_quickest_80 : decode cX10_quickest 80 = .ok (.ireturn, 1) := by decide +kernel
theorem dX10_quick_0 : decode cX10_quick 0 = .ok (.aload_n 0, 1) := by decide +kernel
theorem dX10_quick_1 : decode cX10_quick 1 = .ok (.invokevirtual 130, 3) := by decide +kernel
theorem dX10_quick_4 : decode cX10_quick 4 = .ok (.iconst 0, 1) := by decide +kernel
theorem dX10_quick_5 : decode cX10_quick 5 = .ok (.istore_n 2, 1) := by decide +kernel
theorem dX10_quick_6 : decode cX10_quick 6 = .ok (.iload_n 2, 1) := by decide +kernel
theorem dX10_quick_7 : decode cX10_quick 7 = .ok (.aload_n 0, 1) := by decide +kernel
theorem dX10_quick_8 : decode cX10_quick 8 = .ok (.getfield 57, 3) := by decide +kernel
theorem dX10_quick_11 : decode cX10_quick 11 = .ok (.iconst 1, 1) := by decide +kernel
theorem dX10_quick_12 : decode cX10_quick 12 = .ok (.isub, 1) := by decide +kernel
theorem dX10_quick_13 : decode cX10_quick 13 = .ok (.if_icmp .ge 48, 3) := by decide +kernel
theorem dX10_quick_16 : decode cX10_quick 16 = .ok (.aload_n 0, 1) := by decide +kernel
theorem dX10_quick_17 : decode cX10_quick 17 = .ok (.aload_n 1, 1) := by decide +kernel
theorem dX10_quick_18 : decode cX10_quick 18 = .ok (.invokevirtual 133, 3) := by decide +kernel
theorem dX10_quick_21 : decode cX10_quick 21 = .ok (.istore_n 3, 1) := by decide +kernel
theorem dX10_quick_22 : decode cX10_quick 22 = .ok (.aload_n 0, 1) := by decide +kernel
theorem dX10_quick_23 : decode cX10_quick 23 = .ok (.aload_n 1, 1) := by decide +kernel
theorem dX10_quick_24 : decode cX10_quick 24 = .ok (.invokevirtual 136, 3) := by decide +kernel
theorem dX10_quick_27 : decode cX10_quick 27 = .ok (.istore 4, 2) := by decide +kernel
theorem dX10_quick_29 : decode cX10_quick 29 = .ok (.aload_n 1, 1) := by decide +kernel
theorem dX10_quick_30 : decode cX10_quick 30 = .ok (.bipush 17, 2) := by decide +kernel
theorem dX10_quick_32 : decode cX10_quick 32 = .ok (.iload 4, 2) := by decide +kernel
theorem dX10_quick_34 : decode cX10_quick 34 = .ok (.iadd, 1) := by decide +kernel
theorem dX10_quick_35 : decode cX10_quick 35 = .ok (.iload_n 3, 1) := by decide +kernel
theorem dX10_quick_36 : decode cX10_quick 36 = .ok (.iastore, 1) := by decide +kernel
theorem dX10_quick_37 : decode cX10_quick 37 = .ok (.aload_n 1, 1) := by decide +kernel
theorem dX10_quick_38 : decode cX10_quick 38 = .ok (.bipush 25, 2) := by decide +kernel
theorem dX10_quick_40 : decode cX10_quick 40 = .ok (.iload_n 2, 1) := by decide +kernel
theorem dX10_quick_41 : decode cX10_quick 41 = .ok (.iadd, 1) := by decide +kernel
theorem dX10_quick_42 : decode cX10_quick 42 = .ok (.iload 4, 2) := by decide +kernel
theorem dX10_quick_44 : decode cX10_quick 44 = .ok (.iastore, 1) := by decide +kernel
theorem dX10_quick_45 : decode cX10_quick 45 = .ok (.aload_n 0, 1) := by decide +kernel
theorem dX10_quick_46 : decode cX10_quick 46 = .ok (.aload_n 1, 1) := by decide +kernel
theorem dX10_quick_47 : decode cX10_quick 47 = .ok (.iload_n 3, 1) := by decide +kernel
theorem dX10_quick_48 : decode cX10_quick 48 = .ok (.iload 4, 2) := by decide +kernel
theorem dX10_quick_50 : decode cX10_quick 50 = .ok (.invokevirtual 139, 3) := by decide +kernel
theorem dX10_quick_53 : decode cX10_quick 53 = .ok (.istore 5, 2) := by decide +kernel
theorem dX10_quick_55 : decode cX10_quick 55 = .ok (.iinc 2 1, 3) := by decide +kernel
theorem dX10_quick_58 : decode cX10_quick 58 = .ok (.goto (-52), 3) := by decide +kernel
theorem dX10_quick_61 : decode cX10_quick 61 = .ok (.return_, 1) := by decide +kernel
theorem dX10_lateBy_0 : decode cX10_lateBy 0 = .ok (.aload_n 0, 1) := by decide +kernel
theorem dX10_lateBy_1 : decode cX10_lateBy 1 = .ok (.invokevirtual 130, 3) := by decide +kernel
theorem dX10_lateBy_4 : decode cX10_lateBy 4 = .ok (.iload_n 1, 1) := by decide +kernel
theorem dX10_lateBy_5 : decode cX10_lateBy 5 = .ok (.istore_n 2, 1) := by decide +kernel
theorem dX10_lateBy_6 : decode cX10_lateBy 6 = .ok (.iconst 0, 1) := by decide +kernel
theorem dX10_lateBy_7 : decode cX10_lateBy 7 = .ok (.istore_n 3, 1) := by decide +kernel
theorem dX10_lateBy_8 : decode cX10_lateBy 8 = .ok (.aload_n 0, 1) := by decide +kernel
theorem dX10_lateBy_9 : decode cX10_lateBy 9 = .ok (.getfield 44, 3) := by decide +kernel
theorem dX10_lateBy_12 : decode cX10_lateBy 12 = .ok (.iconst 0, 1) := by decide +kernel
theorem dX10_lateBy_13 : decode cX10_lateBy 13 = .ok (.iconst 0, 1) := by decide +kernel
theorem dX10_lateBy_14 : decode cX10_lateBy 14 = .ok (.iastore, 1) := by decide +kernel
theorem dX10_lateBy_15 : decode cX10_lateBy 15 = .ok (.iconst 0, 1) := by decide +kernel
theorem dX10_lateBy_16 : decode cX10_lateBy 16 = .ok (.istore 4, 2) := by decide +kernel
theorem dX10_lateBy_18 : decode cX10_lateBy 18 = .ok (.iload 4, 2) := by decide +kernel
theorem dX10_lateBy_20 : decode cX10_lateBy 20 = .ok (.aload_n 0, 1) := by decide +kernel
theorem dX10_lateBy_21 : decode cX10_lateBy 21 = .ok (.getfield 57, 3) := by decide +kernel
theorem dX10_lateBy_24 : decode cX10_lateBy 24 = .ok (.iconst 1, 1) := by decide +kernel
theorem dX10_lateBy_25 : decode cX10_lateBy 25 = .ok (.isub, 1) := by decide +kernel
theorem dX10_lateBy_26 : decode cX10_lateBy 26 = .ok (.if_icmp .ge 128, 3) := by decide +kernel
theorem dX10_lateBy_29 : decode cX10_lateBy 29 = .ok (.aload_n 0, 1) := by decide +kernel
theorem dX10_lateBy_30 : decode cX10_lateBy 30 = .ok (.getfield 57, 3) := by decide +kernel
theorem dX10_lateBy_33 : decode cX10_lateBy 33 = .ok (.iconst 1, 1) := by decide +kernel
theorem dX10_lateBy_34 : decode cX10_lateBy 34 = .ok (.isub, 1) := by decide +kernel
theorem dX10_lateBy_35 : decode cX10_lateBy 35 = .ok (.iload 4, 2) := by decide +kernel
theorem dX10_lateBy_37 : decode cX10_lateBy 37 = .ok (.isub, 1) := by decide +kernel
theorem dX10_lateBy_38 : decode cX10_lateBy 38 = .ok (.istore 5, 2) := by decide +kernel
theorem dX10_lateBy_40 : decode cX10_lateBy 40 = .ok (.iload_n 2, 1) := by decide +kernel
theorem dX10_lateBy_41 : decode cX10_lateBy 41 = .ok (.iload 5, 2) := by decide +kernel
theorem dX10_lateBy_43 : decode cX10_lateBy 43 = .ok (.irem, 1) := by decide +kernel
theorem dX10_lateBy_44 : decode cX10_lateBy 44 = .ok (.istore 6, 2) := by decide +kernel
theorem dX10_lateBy_46 : decode cX10_lateBy 46 = .ok (.iload_n 2, 1) := by decide +kernel
theorem dX10_lateBy_47 : decode cX10_lateBy 47 = .ok (.iload 5, 2) := by decide +kernel
theorem dX10_lateBy_49 : decode cX10_lateBy 49 = .ok (.idiv, 1) := by decide +kernel
theorem dX10_lateBy_50 : decode cX10_lateBy 50 = .ok (.istore_n 2, 1) := by decide +kernel
theorem dX10_lateBy_51 : decode cX10_lateBy 51 = .ok (.iload_n 2, 1) := by decide +kernel
theorem dX10_lateBy_52 : decode cX10_lateBy 52 = .ok (.iload 4, 2) := by decide +kernel
theorem dX10_lateBy_54 : decode cX10_lateBy 54 = .ok (.iconst 1, 1) := by decide +kernel
theorem dX10_lateBy_55 : decode cX10_lateBy 55 = .ok (.iadd, 1) := by decide +kernel
theorem dX10_lateBy_56 : decode cX10_lateBy 56 = .ok (.irem, 1) := by decide +kernel
theorem dX10_lateBy_57 : decode cX10_lateBy 57 = .ok (.istore 7, 2) := by decide +kernel
theorem dX10_lateBy_59 : decode cX10_lateBy 59 = .ok (.iload_n 2, 1) := by decide +kernel
theorem dX10_lateBy_60 : decode cX10_lateBy 60 = .ok (.iload 4, 2) := by decide +kernel
theorem dX10_lateBy_62 : decode cX10_lateBy 62 = .ok (.iconst 1, 1) := by decide +kernel
theorem dX10_lateBy_63 : decode cX10_lateBy 63 = .ok (.iadd, 1) := by decide +kernel
theorem dX10_lateBy_64 : decode cX10_lateBy 64 = .ok (.idiv, 1) := by decide +kernel
theorem dX10_lateBy_65 : decode cX10_lateBy 65 = .ok (.istore_n 2, 1) := by decide +kernel
theorem dX10_lateBy_66 : decode cX10_lateBy 66 = .ok (.iconst 0, 1) := by decide +kernel
theorem dX10_lateBy_67 : decode cX10_lateBy 67 = .ok (.istore 8, 2) := by decide +kernel
theorem dX10_lateBy_69 : decode cX10_lateBy 69 = .ok (.iload 6, 2) := by decide +kernel
theorem dX10_lateBy_71 : decode cX10_lateBy 71 = .ok (.istore 9, 2) := by decide +kernel
theorem dX10_lateBy_73 : decode cX10_lateBy 73 = .ok (.iload 9, 2) := by decide +kernel
theorem dX10_lateBy_75 : decode cX10_lateBy 75 = .ok (.ifCond .lt 30, 3) := by decide +kernel
theorem dX10_lateBy_78 : decode cX10_lateBy 78 = .ok (.iinc 8 1, 3) := by decide +kernel
theorem dX10_lateBy_81 : decode cX10_lateBy 81 = .ok (.aload_n 0, 1) := by decide +kernel
theorem dX10_lateBy_82 : decode cX10_lateBy 82 = .ok (.getfield 38, 3) := by decide +kernel
theorem dX10_lateBy_85 : decode cX10_lateBy 85 = .ok (.iload 8, 2) := by decide +kernel
theorem dX10_lateBy_87 : decode cX10_lateBy 87 = .ok (.iaload, 1) := by decide +kernel
theorem dX10_lateBy_88 : decode cX10_lateBy 88 = .ok (.bipush (-9), 2) := by decide +kernel
theorem dX10_lateBy_90 : decode cX10_lateBy 90 = .ok (.if_icmp .eq 9, 3) := by decide +kernel
theorem dX10_lateBy_93 : decode cX10_lateBy 93 = .ok (.iinc 8 1, 3) := by decide +kernel
theorem dX10_lateBy_96 : decode cX10_lateBy 96 = .ok (.goto (-15), 3) := by decide +kernel
theorem dX10_lateBy_99 : decode cX10_lateBy 99 = .ok (.iinc 9 (-1), 3) := by decide +kernel
theorem dX10_lateBy_102 : decode cX10_lateBy 102 = .ok (.goto (-29), 3) := by decide +kernel
theorem dX10_lateBy_105 : decode cX10_lateBy 105 = .ok (.aload_n 0, 1) := by decide +kernel
theorem dX10_lateBy_106 : decode cX10_lateBy 106 = .ok (.aload_n 0, 1) := by decide +kernel
theorem dX10_lateBy_107 : decode cX10_lateBy 107 = .ok (.getfield 13, 3) := by decide +kernel
theorem dX10_lateBy_110 : decode cX10_lateBy 110 = .ok (.aload_n 0, 1) := by decide +kernel
theorem dX10_lateBy_111 : decode cX10_lateBy 111 = .ok (.getfield 44, 3) := by decide +kernel
theorem dX10_lateBy_114 : decode cX10_lateBy 114 = .ok (.iload 7, 2) := by decide +kernel
theorem dX10_lateBy_116 : decode cX10_lateBy 116 = .ok (.iaload, 1) := by decide +kernel
theorem dX10_lateBy_117 : decode cX10_lateBy 117 = .ok (.iload 8, 2) := by decide +kernel
theorem dX10_lateBy_119 : decode cX10_lateBy 119 = .ok (.invokevirtual 139, 3) := by decide +kernel
theorem dX10_lateBy_122 : decode cX10_lateBy 122 = .ok (.istore 9, 2) := by decide +kernel
theorem dX10_lateBy_124 : decode cX10_lateBy 124 = .ok (.aload_n 0, 1) := by decide +kernel
theorem dX10_lateBy_125 : decode cX10_lateBy 125 = .ok (.getfield 44, 3) := by decide +kernel
theorem dX10_lateBy_128 : decode cX10_lateBy 128 = .ok (.iload 4, 2) := by decide +kernel
theorem dX10_lateBy_130 : decode cX10_lateBy 130 = .ok (.iconst 1, 1) := by decide +kernel
theorem dX10_lateBy_131 : decode cX10_lateBy 131 = .ok (.iadd, 1) := by decide +kernel
theorem dX10_lateBy_132 : decode cX10_lateBy 132 = .ok (.iload 8, 2) := by decide +kernel
theorem dX10_lateBy_134 : decode cX10_lateBy 134 = .ok (.iastore, 1) := by decide +kernel
theorem dX10_lateBy_135 : decode cX10_lateBy 135 = .ok (.iload 9, 2) := by decide +kernel
theorem dX10_lateBy_137 : decode cX10_lateBy 137 = .ok (.iload_n 3, 1) := by decide +kernel
theorem dX10_lateBy_138 : decode cX10_lateBy 138 = .ok (.if_icmp .le 8, 3) := by decide +kernel
theorem dX10_lateBy_141 : decode cX10_lateBy 141 = .ok (.iload 9, 2) := by decide +kernel
theorem dX10_lateBy_143 : decode cX10_lateBy 143 = .ok (.goto 4, 3) := by decide +kernel
theorem dX10_lateBy_146 : decode cX10_lateBy 146 = .ok (.iload_n 3, 1) := by decide +kernel
theorem dX10_lateBy_147 : decode cX10_lateBy 147 = .ok (.istore_n 3, 1) := by decide +kernel
theorem dX10_lateBy_148 : decode cX10_lateBy 148 = .ok (.iinc 4 1, 3) := by decide +kernel
theorem dX10_lateBy_151 : decode cX10_lateBy 151 = .ok (.goto (-133), 3) := by decide +kernel
theorem dX10_lateBy_154 : decode cX10_lateBy 154 = .ok (.iload_n 3, 1) := by decide +kernel
theorem dX10_lateBy_155 : decode cX10_lateBy 155 = .ok (.ireturn, 1) := by decide +kernel
theorem dX10_best_0 : decode cX10_best 0 = .ok (.iconst 1, 1) := by decide +kernel
theorem dX10_best_1 : decode cX10_best 1 = .ok (.istore_n 1, 1) := by decide +kernel
theorem dX10_best_2 : decode cX10_best 2 = .ok (.iconst 0, 1) := by decide +kernel
theorem dX10_best_3 : decode cX10_best 3 = .ok (.istore_n 2, 1) := by decide +kernel
theorem dX10_best_4 : decode cX10_best 4 = .ok (.iload_n 2, 1) := by decide +kernel
theorem dX10_best_5 : decode cX10_best 5 = .ok (.aload_n 0, 1) := by decide +kernel
theorem dX10_best_6 : decode cX10_best 6 = .ok (.getfield 57, 3) := by decide +kernel
theorem dX10_best_9 : decode cX10_best 9 = .ok (.iconst 1, 1) := by decide +kernel
theorem dX10_best_10 : decode cX10_best 10 = .ok (.isub, 1) := by decide +kernel
theorem dX10_best_11 : decode cX10_best 11 = .ok (.if_icmp .ge 24, 3) := by decide +kernel
theorem dX10_best_14 : decode cX10_best 14 = .ok (.iload_n 1, 1) := by decide +kernel
theorem dX10_best_15 : decode cX10_best 15 = .ok (.aload_n 0, 1) := by decide +kernel
theorem dX10_best_16 : decode cX10_best 16 = .ok (.getfield 57, 3) := by decide +kernel
theorem dX10_best_19 : decode cX10_best 19 = .ok (.iconst 1, 1) := by decide +kernel
theorem dX10_best_20 : decode cX10_best 20 = .ok (.isub, 1) := by decide +kernel
theorem dX10_best_21 : decode cX10_best 21 = .ok (.iload_n 2, 1) := by decide +kernel
theorem dX10_best_22 : decode cX10_best 22 = .ok (.isub, 1) := by decide +kernel
theorem dX10_best_23 : decode cX10_best 23 = .ok (.iload_n 2, 1) := by decide +kernel
theorem dX10_best_24 : decode cX10_best 24 = .ok (.iconst 1, 1) := by decide +kernel
theorem dX10_best_25 : decode cX10_best 25 = .ok (.iadd, 1) := by decide +kernel
theorem dX10_best_26 : decode cX10_best 26 = .ok (.imul, 1) := by decide +kernel
theorem dX10_best_27 : decode cX10_best 27 = .ok (.imul, 1) := by decide +kernel
theorem dX10_best_28 : decode cX10_best 28 = .ok (.istore_n 1, 1) := by decide +kernel
theorem dX10_best_29 : decode cX10_best 29 = .ok (.iinc 2 1, 3) := by decide +kernel
theorem dX10_best_32 : decode cX10_best 32 = .ok (.goto (-28), 3) := by decide +kernel
theorem dX10_best_35 : decode cX10_best 35 = .ok (.bipush (-9), 2) := by decide +kernel
theorem dX10_best_37 : decode cX10_best 37 = .ok (.istore_n 2, 1) := by decide +kernel
theorem dX10_best_38 : decode cX10_best 38 = .ok (.iconst 0, 1) := by decide +kernel
theorem dX10_best_39 : decode cX10_best 39 = .ok (.istore_n 3, 1) := by decide +kernel
theorem dX10_best_40 : decode cX10_best 40 = .ok (.iload_n 3, 1) := by decide +kernel
theorem dX10_best_41 : decode cX10_best 41 = .ok (.iload_n 1, 1) := by decide +kernel
theorem dX10_best_42 : decode cX10_best 42 = .ok (.if_icmp .ge 35, 3) := by decide +kernel
theorem dX10_best_45 : decode cX10_best 45 = .ok (.aload_n 0, 1) := by decide +kernel
theorem dX10_best_46 : decode cX10_best 46 = .ok (.iload_n 3, 1) := by decide +kernel
theorem dX10_best_47 : decode cX10_best 47 = .ok (.invokevirtual 143, 3) := by decide +kernel
theorem dX10_best_50 : decode cX10_best 50 = .ok (.istore 4, 2) := by decide +kernel
theorem dX10_best_52 : decode cX10_best 52 = .ok (.iload_n 2, 1) := by decide +kernel
theorem dX10_best_53 : decode cX10_best 53 = .ok (.bipush (-9), 2) := by decide +kernel
theorem dX10_best_55 : decode cX10_best 55 = .ok (.if_icmp .eq 9, 3) := by decide +kernel
theorem dX10_best_58 : decode cX10_best 58 = .ok (.iload 4, 2) := by decide +kernel
theorem dX10_best_60 : decode cX10_best 60 = .ok (.iload_n 2, 1) := by decide +kernel
theorem dX10_best_61 : decode cX10_best 61 = .ok (.if_icmp .ge 8, 3) := by decide +kernel
theorem dX10_best_64 : decode cX10_best 64 = .ok (.iload 4, 2) := by decide +kernel
theorem dX10_best_66 : decode cX10_best 66 = .ok (.goto 4, 3) := by decide +kernel
theorem dX10_best_69 : decode cX10_best 69 = .ok (.iload_n 2, 1) := by decide +kernel
theorem dX10_best_70 : decode cX10_best 70 = .ok (.istore_n 2, 1) := by decide +kernel
theorem dX10_best_71 : decode cX10_best 71 = .ok (.iinc 3 1, 3) := by decide +kernel
theorem dX10_best_74 : decode cX10_best 74 = .ok (.goto (-34), 3) := by decide +kernel
theorem dX10_best_77 : decode cX10_best 77 = .ok (.iload_n 2, 1) := by decide +kernel
theorem dX10_best_78 : decode cX10_best 78 = .ok (.ireturn, 1) := by decide +kernel
theorem dX10_about_0 : decode cX10_about 0 = .ok (.iload_n 1, 1) := by decide +kernel
theorem dX10_about_1 : decode cX10_about 1 = .ok (.tableswitch 148 0 8 #[51, 56, 63, 72, 100, 119, 133, 138, 143], 51) := by decide +kernel
theorem dX10_about_52 : decode cX10_about 52 = .ok (.aload_n 0, 1) := by decide +kernel
theorem dX10_about_53 : decode cX10_about 53 = .ok (.getfield 57, 3) := by decide +kernel
theorem dX10_about_56 : decode cX10_about 56 = .ok (.ireturn, 1) := by decide +kernel
theorem dX10_about_57 : decode cX10_about 57 = .ok (.aload_n 0, 1) := by decide +kernel
theorem dX10_about_58 : decode cX10_about 58 = .ok (.getfield 13, 3) := by decide +kernel
theorem dX10_about_61 : decode cX10_about 61 = .ok (.iconst 0, 1) := by decide +kernel
theorem dX10_about_62 : decode cX10_about 62 = .ok (.iaload, 1) := by decide +kernel
theorem dX10_about_63 : decode cX10_about 63 = .ok (.ireturn, 1) := by decide +kernel
theorem dX10_about_64 : decode cX10_about 64 = .ok (.aload_n 0, 1) := by decide +kernel
theorem dX10_about_65 : decode cX10_about 65 = .ok (.aload_n 0, 1) := by decide +kernel
theorem dX10_about_66 : decode cX10_about 66 = .ok (.getfield 13, 3) := by decide +kernel
theorem dX10_about_69 : decode cX10_about 69 = .ok (.invokevirtual 111, 3) := by decide +kernel
theorem dX10_about_72 : decode cX10_about 72 = .ok (.ireturn, 1) := by decide +kernel
theorem dX10_about_73 : decode cX10_about 73 = .ok (.aload_n 0, 1) := by decide +kernel
theorem dX10_about_74 : decode cX10_about 74 = .ok (.getfield 13, 3) := by decide +kernel
theorem dX10_about_77 : decode cX10_about 77 = .ok (.aload_n 0, 1) := by decide +kernel
theorem dX10_about_78 : decode cX10_about 78 = .ok (.getfield 16, 3) := by decide +kernel
theorem dX10_about_81 : decode cX10_about 81 = .ok (.invokestatic 104, 3) := by decide +kernel
theorem dX10_about_84 : decode cX10_about 84 = .ok (.aload_n 0, 1) := by decide +kernel
theorem dX10_about_85 : decode cX10_about 85 = .ok (.aload_n 0, 1) := by decide +kernel
theorem dX10_about_86 : decode cX10_about 86 = .ok (.getfield 16, 3) := by decide +kernel
theorem dX10_about_89 : decode cX10_about 89 = .ok (.invokevirtual 147, 3) := by decide +kernel
theorem dX10_about_92 : decode cX10_about 92 = .ok (.aload_n 0, 1) := by decide +kernel
theorem dX10_about_93 : decode cX10_about 93 = .ok (.aload_n 0, 1) := by decide +kernel
theorem dX10_about_94 : decode cX10_about 94 = .ok (.getfield 16, 3) := by decide +kernel
theorem dX10_about_97 : decode cX10_about 97 = .ok (.invokevirtual 111, 3) := by decide +kernel
theorem dX10_about_100 : decode cX10_about 100 = .ok (.ireturn, 1) := by decide +kernel
theorem dX10_about_101 : decode cX10_about 101 = .ok (.aload_n 0, 1) := by decide +kernel
theorem dX10_about_102 : decode cX10_about 102 = .ok (.getfield 57, 3) := by decide +kernel
theorem dX10_about_105 : decode cX10_about 105 = .ok (.bipush 6, 2) := by decide +kernel
theorem dX10_about_107 : decode cX10_about 107 = .ok (.if_icmp .le 8, 3) := by decide +kernel
theorem dX10_about_110 : decode cX10_about 110 = .ok (.bipush (-3), 2) := by decide +kernel
theorem dX10_about_112 : decode cX10_about 112 = .ok (.goto 7, 3) := by decide +kernel
theorem dX10_about_115 : decode cX10_about 115 = .ok (.aload_n 0, 1) := by decide +kernel
theorem dX10_about_116 : decode cX10_about 116 = .ok (.invokevirtual 150, 3) := by decide +kernel
theorem dX10_about_119 : decode cX10_about 119 = .ok (.ireturn, 1) := by decide +kernel
theorem dX10_about_120 : decode cX10_about 120 = .ok (.aload_n 0, 1) := by decide +kernel
theorem dX10_about_121 : decode cX10_about 121 = .ok (.getfield 13, 3) := by decide +kernel
theorem dX10_about_124 : decode cX10_about 124 = .ok (.iconst 0, 1) := by decide +kernel
theorem dX10_about_125 : decode cX10_about 125 = .ok (.iaload, 1) := by decide +kernel
theorem dX10_about_126 : decode cX10_about 126 = .ok (.aload_n 0, 1) := by decide +kernel
theorem dX10_about_127 : decode cX10_about 127 = .ok (.getfield 57, 3) := by decide +kernel
theorem dX10_about_130 : decode cX10_about 130 = .ok (.iconst 1, 1) := by decide +kernel
theorem dX10_about_131 : decode cX10_about 131 = .ok (.isub, 1) := by decide +kernel
theorem dX10_about_132 : decode cX10_about 132 = .ok (.imul, 1) := by decide +kernel
theorem dX10_about_133 : decode cX10_about 133 = .ok (.ireturn, 1) := by decide +kernel
theorem dX10_about_134 : decode cX10_about 134 = .ok (.aload_n 0, 1) := by decide +kernel
theorem dX10_about_135 : decode cX10_about 135 = .ok (.getfield 108, 3) := by decide +kernel
theorem dX10_about_138 : decode cX10_about 138 = .ok (.ireturn, 1) := by decide +kernel
theorem dX10_about_139 : decode cX10_about 139 = .ok (.aload_n 0, 1) := by decide +kernel
theorem dX10_about_140 : decode cX10_about 140 = .ok (.getfield 153, 3) := by decide +kernel
theorem dX10_about_143 : decode cX10_about 143 = .ok (.ireturn, 1) := by decide +kernel
theorem dX10_about_144 : decode cX10_about 144 = .ok (.aload_n 0, 1) := by decide +kernel
theorem dX10_about_145 : decode cX10_about 145 = .ok (.getfield 67, 3) := by decide +kernel
theorem dX10_about_148 : decode cX10_about 148 = .ok (.ireturn, 1) := by decide +kernel
theorem dX10_about_149 : decode cX10_about 149 = .ok (.bipush (-2), 2) := by decide +kernel
theorem dX10_about_151 : decode cX10_about 151 = .ok (.ireturn, 1) := by decide +kernel
theorem dX10_placeOf_0 : decode cX10_placeOf 0 = .ok (.bipush (-9), 2) := by decide +kernel
theorem dX10_placeOf_2 : decode cX10_placeOf 2 = .ok (.istore_n 2, 1) := by decide +kernel
theorem dX10_placeOf_3 : decode cX10_placeOf 3 = .ok (.iconst 0, 1) := by decide +kernel
theorem dX10_placeOf_4 : decode cX10_placeOf 4 = .ok (.istore_n 3, 1) := by decide +kernel
theorem dX10_placeOf_5 : decode cX10_placeOf 5 = .ok (.iload_n 3, 1) := by decide +kernel
theorem dX10_placeOf_6 : decode cX10_placeOf 6 = .ok (.aload_n 0, 1) := by decide +kernel
theorem dX10_placeOf_7 : decode cX10_placeOf 7 = .ok (.getfield 57, 3) := by decide +kernel
theorem dX10_placeOf_10 : decode cX10_placeOf 10 = .ok (.iconst 1, 1) := by decide +kernel
theorem dX10_placeOf_11 : decode cX10_placeOf 11 = .ok (.isub, 1) := by decide +kernel
theorem dX10_placeOf_12 : decode cX10_placeOf 12 = .ok (.if_icmp .ge 28, 3) := by decide +kernel
theorem dX10_placeOf_15 : decode cX10_placeOf 15 = .ok (.aload_n 0, 1) := by decide +kernel
theorem dX10_placeOf_16 : decode cX10_placeOf 16 = .ok (.getfield 13, 3) := by decide +kernel
theorem dX10_placeOf_19 : decode cX10_placeOf 19 = .ok (.bipush 25, 2) := by decide +kernel
theorem dX10_placeOf_21 : decode cX10_placeOf 21 = .ok (.iload_n 3, 1) := by decide +kernel
theorem dX10_placeOf_22 : decode cX10_placeOf 22 = .ok (.iadd, 1) := by decide +kernel
theorem dX10_placeOf_23 : decode cX10_placeOf 23 = .ok (.iaload, 1) := by decide +kernel
theorem dX10_placeOf_24 : decode cX10_placeOf 24 = .ok (.iload_n 1, 1) := by decide +kernel
theorem dX10_placeOf_25 : decode cX10_placeOf 25 = .ok (.if_icmp .ne 7, 3) := by decide +kernel
theorem dX10_placeOf_28 : decode cX10_placeOf 28 = .ok (.iload_n 3, 1) := by decide +kernel
theorem dX10_placeOf_29 : decode cX10_placeOf 29 = .ok (.goto 4, 3) := by decide +kernel
theorem dX10_placeOf_32 : decode cX10_placeOf 32 = .ok (.iload_n 2, 1) := by decide +kernel
theorem dX10_placeOf_33 : decode cX10_placeOf 33 = .ok (.istore_n 2, 1) := by decide +kernel
theorem dX10_placeOf_34 : decode cX10_placeOf 34 = .ok (.iinc 3 1, 3) := by decide +kernel
theorem dX10_placeOf_37 : decode cX10_placeOf 37 = .ok (.goto (-32), 3) := by decide +kernel
theorem dX10_placeOf_40 : decode cX10_placeOf 40 = .ok (.iload_n 2, 1) := by decide +kernel
theorem dX10_placeOf_41 : decode cX10_placeOf 41 = .ok (.ireturn, 1) := by decide +kernel
theorem dX10_toldBy_0 : decode cX10_toldBy 0 = .ok (.iconst 0, 1) := by decide +kernel
theorem dX10_toldBy_1 : decode cX10_toldBy 1 = .ok (.istore_n 3, 1) := by decide +kernel
theorem dX10_toldBy_2 : decode cX10_toldBy 2 = .ok (.iconst 1, 1) := by decide +kernel
theorem dX10_toldBy_3 : decode cX10_toldBy 3 = .ok (.istore 4, 2) := by decide +kernel
theorem dX10_toldBy_5 : decode cX10_toldBy 5 = .ok (.iload 4, 2) := by decide +kernel
theorem dX10_toldBy_7 : decode cX10_toldBy 7 = .ok (.aload_n 0, 1) := by decide +kernel
theorem dX10_toldBy_8 : decode cX10_toldBy 8 = .ok (.getfield 57, 3) := by decide +kernel
theorem dX10_toldBy_11 : decode cX10_toldBy 11 = .ok (.if_icmp .ge 28, 3) := by decide +kernel
theorem dX10_toldBy_14 : decode cX10_toldBy 14 = .ok (.iload_n 3, 1) := by decide +kernel
theorem dX10_toldBy_15 : decode cX10_toldBy 15 = .ok (.aload_n 1, 1) := by decide +kernel
theorem dX10_toldBy_16 : decode cX10_toldBy 16 = .ok (.bipush 17, 2) := by decide +kernel
theorem dX10_toldBy_18 : decode cX10_toldBy 18 = .ok (.iload 4, 2) := by decide +kernel
theorem dX10_toldBy_20 : decode cX10_toldBy 20 = .ok (.iadd, 1) := by decide +kernel
theorem dX10_toldBy_21 : decode cX10_toldBy 21 = .ok (.iaload, 1) := by decide +kernel
theorem dX10_toldBy_22 : decode cX10_toldBy 22 = .ok (.iload_n 2, 1) := by decide +kernel
theorem dX10_toldBy_23 : decode cX10_toldBy 23 = .ok (.if_icmp .ne 7, 3) := by decide +kernel
theorem dX10_toldBy_26 : decode cX10_toldBy 26 = .ok (.iconst 1, 1) := by decide +kernel
theorem dX10_toldBy_27 : decode cX10_toldBy 27 = .ok (.goto 4, 3) := by decide +kernel
theorem dX10_toldBy_30 : decode cX10_toldBy 30 = .ok (.iconst 0, 1) := by decide +kernel
theorem dX10_toldBy_31 : decode cX10_toldBy 31 = .ok (.iadd, 1) := by decide +kernel
theorem dX10_toldBy_32 : decode cX10_toldBy 32 = .ok (.istore_n 3, 1) := by decide +kernel
theorem dX10_toldBy_33 : decode cX10_toldBy 33 = .ok (.iinc 4 1, 3) := by decide +kernel
theorem dX10_toldBy_36 : decode cX10_toldBy 36 = .ok (.goto (-31), 3) := by decide +kernel
theorem dX10_toldBy_39 : decode cX10_toldBy 39 = .ok (.iload_n 3, 1) := by decide +kernel
theorem dX10_toldBy_40 : decode cX10_toldBy 40 = .ok (.ireturn, 1) := by decide +kernel
theorem dX10_slack_0 : decode cX10_slack 0 = .ok (.aload_n 0, 1) := by decide +kernel
theorem dX10_slack_1 : decode cX10_slack 1 = .ok (.aload_n 0, 1) := by decide +kernel
theorem dX10_slack_2 : decode cX10_slack 2 = .ok (.getfield 13, 3) := by decide +kernel
theorem dX10_slack_5 : decode cX10_slack 5 = .ok (.invokevirtual 111, 3) := by decide +kernel
theorem dX10_slack_8 : decode cX10_slack 8 = .ok (.istore_n 2, 1) := by decide +kernel
theorem dX10_slack_9 : decode cX10_slack 9 = .ok (.iconst 0, 1) := by decide +kernel
theorem dX10_slack_10 : decode cX10_slack 10 = .ok (.istore_n 3, 1) := by decide +kernel
theorem dX10_slack_11 : decode cX10_slack 11 = .ok (.iconst 1, 1) := by decide +kernel
theorem dX10_slack_12 : decode cX10_slack 12 = .ok (.istore 4, 2) := by decide +kernel
theorem dX10_slack_14 : decode cX10_slack 14 = .ok (.iload 4, 2) := by decide +kernel
theorem dX10_slack_16 : decode cX10_slack 16 = .ok (.bipush 30, 2) := by decide +kernel
theorem dX10_slack_18 : decode cX10_slack 18 = .ok (.if_icmp .gt 52, 3) := by decide +kernel
theorem dX10_slack_21 : decode cX10_slack 21 = .ok (.aload_n 0, 1) := by decide +kernel
theorem dX10_slack_22 : decode cX10_slack 22 = .ok (.getfield 13, 3) := by decide +kernel
theorem dX10_slack_25 : decode cX10_slack 25 = .ok (.aload_n 0, 1) := by decide +kernel
theorem dX10_slack_26 : decode cX10_slack 26 = .ok (.getfield 16, 3) := by decide +kernel
theorem dX10_slack_29 : decode cX10_slack 29 = .ok (.invokestatic 104, 3) := by decide +kernel
theorem dX10_slack_32 : decode cX10_slack 32 = .ok (.aload_n 0, 1) := by decide +kernel
theorem dX10_slack_33 : decode cX10_slack 33 = .ok (.getfield 16, 3) := by decide +kernel
theorem dX10_slack_36 : decode cX10_slack 36 = .ok (.iconst 1, 1) := by decide +kernel
theorem dX10_slack_37 : decode cX10_slack 37 = .ok (.iload_n 1, 1) := by decide +kernel
theorem dX10_slack_38 : decode cX10_slack 38 = .ok (.iadd, 1) := by decide +kernel
theorem dX10_slack_39 : decode cX10_slack 39 = .ok (.dup2, 1) := by decide +kernel
theorem dX10_slack_40 : decode cX10_slack 40 = .ok (.iaload, 1) := by decide +kernel
theorem dX10_slack_41 : decode cX10_slack 41 = .ok (.iload 4, 2) := by decide +kernel
theorem dX10_slack_43 : decode cX10_slack 43 = .ok (.iadd, 1) := by decide +kernel
theorem dX10_slack_44 : decode cX10_slack 44 = .ok (.iastore, 1) := by decide +kernel
theorem dX10_slack_45 : decode cX10_slack 45 = .ok (.aload_n 0, 1) := by decide +kernel
theorem dX10_slack_46 : decode cX10_slack 46 = .ok (.aload_n 0, 1) := by decide +kernel
theorem dX10_slack_47 : decode cX10_slack 47 = .ok (.getfield 16, 3) := by decide +kernel
theorem dX10_slack_50 : decode cX10_slack 50 = .ok (.invokevirtual 111, 3) := by decide +kernel
theorem dX10_slack_53 : decode cX10_slack 53 = .ok (.iload_n 2, 1) := by decide +kernel
theorem dX10_slack_54 : decode cX10_slack 54 = .ok (.if_icmp .gt 8, 3) := by decide +kernel
theorem dX10_slack_57 : decode cX10_slack 57 = .ok (.iload 4, 2) := by decide +kernel
theorem dX10_slack_59 : decode cX10_slack 59 = .ok (.goto 4, 3) := by decide +kernel
theorem dX10_slack_62 : decode cX10_slack 62 = .ok (.iload_n 3, 1) := by decide +kernel
theorem dX10_slack_63 : decode cX10_slack 63 = .ok (.istore_n 3, 1) := by decide +kernel
theorem dX10_slack_64 : decode cX10_slack 64 = .ok (.iinc 4 1, 3) := by decide +kernel
theorem dX10_slack_67 : decode cX10_slack 67 = .ok (.goto (-53), 3) := by decide +kernel
theorem dX10_slack_70 : decode cX10_slack 70 = .ok (.iload_n 3, 1) := by decide +kernel
theorem dX10_slack_71 : decode cX10_slack 71 = .ok (.ireturn, 1) := by decide +kernel
theorem dX10_gathered_0 : decode cX10_gathered 0 = .ok (.aload_n 0, 1) := by decide +kernel
theorem dX10_gathered_1 : decode cX10_gathered 1 = .ok (.aload_n 0, 1) := by decide +kernel
theorem dX10_gathered_2 : decode cX10_gathered 2 = .ok (.getfield 13, 3) := by decide +kernel
theorem dX10_gathered_5 : decode cX10_gathered 5 = .ok (.invokevirtual 111, 3) := by decide +kernel
theorem dX10_gathered_8 : decode cX10_gathered 8 = .ok (.istore_n 2, 1) := by decide +kernel
theorem dX10_gathered_9 : decode cX10_gathered 9 = .ok (.aload_n 0, 1) := by decide +kernel
theorem dX10_gathered_10 : decode cX10_gathered 10 = .ok (.aload_n 0, 1) := by decide +kernel
theorem dX10_gathered_11 : decode cX10_gathered 11 = .ok (.getfield 13, 3) := by decide +kernel
theorem dX10_gathered_14 : decode cX10_gathered 14 = .ok (.invokevirtual 119, 3) := by decide +kernel
theorem dX10_gathered_17 : decode cX10_gathered 17 = .ok (.iload_n 2, 1) := by decide +kernel
theorem dX10_gathered_18 : decode cX10_gathered 18 = .ok (.aload_n 0, 1) := by decide +kernel
theorem dX10_gathered_19 : decode cX10_gathered 19 = .ok (.getfield 35, 3) := by decide +kernel
theorem dX10_gathered_22 : decode cX10_gathered 22 = .ok (.iconst 3, 1) := by decide +kernel
theorem dX10_gathered_23 : decode cX10_gathered 23 = .ok (.iload_n 1, 1) := by decide +kernel
theorem dX10_gathered_24 : decode cX10_gathered 24 = .ok (.imul, 1) := by decide +kernel
theorem dX10_gathered_25 : decode cX10_gathered 25 = .ok (.aload_n 0, 1) := by decide +kernel
theorem dX10_gathered_26 : decode cX10_gathered 26 = .ok (.getfield 13, 3) := by decide +kernel
theorem dX10_gathered_29 : decode cX10_gathered 29 = .ok (.iconst 0, 1) := by decide +kernel
theorem dX10_gathered_30 : decode cX10_gathered 30 = .ok (.iaload, 1) := by decide +kernel
theorem dX10_gathered_31 : decode cX10_gathered 31 = .ok (.iadd, 1) := by decide +kernel
theorem dX10_gathered_32 : decode cX10_gathered 32 = .ok (.iconst 1, 1) := by decide +kernel
theorem dX10_gathered_33 : decode cX10_gathered 33 = .ok (.isub, 1) := by decide +kernel
theorem dX10_gathered_34 : decode cX10_gathered 34 = .ok (.iaload, 1) := by decide +kernel
theorem dX10_gathered_35 : decode cX10_gathered 35 = .ok (.isub, 1) := by decide +kernel
theorem dX10_gathered_36 : decode cX10_gathered 36 = .ok (.ireturn, 1) := by decide +kernel
theorem dX10_person_0 : decode cX10_person 0 = .ok (.aload_n 0, 1) := by decide +kernel
theorem dX10_person_1 : decode cX10_person 1 = .ok (.iload_n 1, 1) := by decide +kernel
theorem dX10_person_2 : decode cX10_person 2 = .ok (.invokevirtual 156, 3) := by decide +kernel
theorem dX10_person_5 : decode cX10_person 5 = .ok (.ifCond .ne 5, 3) := by decide +kernel
theorem dX10_person_8 : decode cX10_person 8 = .ok (.iconst (-1), 1) := by decide +kernel
theorem dX10_person_9 : decode cX10_person 9 = .ok (.ireturn, 1) := by decide +kernel
theorem dX10_person_10 : decode cX10_person 10 = .ok (.iload_n 2, 1) := by decide +kernel
theorem dX10_person_11 : decode cX10_person 11 = .ok (.tableswitch 125 0 6 #[41, 50, 60, 79, 94, 104, 110], 41) := by decide +kernel
theorem dX10_person_52 : decode cX10_person 52 = .ok (.aload_n 0, 1) := by decide +kernel
theorem dX10_person_53 : decode cX10_person 53 = .ok (.getfield 13, 3) := by decide +kernel
theorem dX10_person_56 : decode cX10_person 56 = .ok (.iconst 1, 1) := by decide +kernel
theorem dX10_person_57 : decode cX10_person 57 = .ok (.iload_n 1, 1) := by decide +kernel
theorem dX10_person_58 : decode cX10_person 58 = .ok (.iadd, 1) := by decide +kernel
theorem dX10_person_59 : decode cX10_person 59 = .ok (.iaload, 1) := by decide +kernel
theorem dX10_person_60 : decode cX10_person 60 = .ok (.ireturn, 1) := by decide +kernel
theorem dX10_person_61 : decode cX10_person 61 = .ok (.aload_n 0, 1) := by decide +kernel
theorem dX10_person_62 : decode cX10_person 62 = .ok (.getfield 13, 3) := by decide +kernel
theorem dX10_person_65 : decode cX10_person 65 = .ok (.bipush 9, 2) := by decide +kernel
theorem dX10_person_67 : decode cX10_person 67 = .ok (.iload_n 1, 1) := by decide +kernel
theorem dX10_person_68 : decode cX10_person 68 = .ok (.iadd, 1) := by decide +kernel
theorem dX10_person_69 : decode cX10_person 69 = .ok (.iaload, 1) := by decide +kernel
theorem dX10_person_70 : decode cX10_person 70 = .ok (.ireturn, 1) := by decide +kernel
theorem dX10_person_71 : decode cX10_person 71 = .ok (.iload_n 1, 1) := by decide +kernel
theorem dX10_person_72 : decode cX10_person 72 = .ok (.ifCond .ne 8, 3) := by decide +kernel
theorem dX10_person_75 : decode cX10_person 75 = .ok (.bipush (-9), 2) := by decide +kernel
theorem dX10_person_77 : decode cX10_person 77 = .ok (.goto 12, 3) := by decide +kernel
theorem dX10_person_80 : decode cX10_person 80 = .ok (.aload_n 0, 1) := by decide +kernel
theorem dX10_person_81 : decode cX10_person 81 = .ok (.getfield 13, 3) := by decide +kernel
theorem dX10_person_84 : decode cX10_person 84 = .ok (.bipush 17, 2) := by decide +kernel
theorem dX10_person_86 : decode cX10_person 86 = .ok (.iload_n 1, 1) := by decide +kernel
theorem dX10_person_87 : decode cX10_person 87 = .ok (.iadd, 1) := by decide +kernel
theorem dX10_person_88 : decode cX10_person 88 = .ok (.iaload, 1) := by decide +kernel
theorem dX10_person_89 : decode cX10_person 89 = .ok (.ireturn, 1) := by decide +kernel
theorem dX10_person_90 : decode cX10_person 90 = .ok (.iload_n 1, 1) := by decide +kernel
theorem dX10_person_91 : decode cX10_person 91 = .ok (.ifCond .ne 8, 3) := by decide +kernel
theorem dX10_person_94 : decode cX10_person 94 = .ok (.bipush (-9), 2) := by decide +kernel
theorem dX10_person_96 : decode cX10_person 96 = .ok (.goto 8, 3) := by decide +kernel
theorem dX10_person_99 : decode cX10_person 99 = .ok (.aload_n 0, 1) := by decide +kernel
theorem dX10_person_100 : decode cX10_person 100 = .ok (.iload_n 1, 1) := by decide +kernel
theorem dX10_person_101 : decode cX10_person 101 = .ok (.invokevirtual 160, 3) := by decide +kernel
theorem dX10_person_104 : decode cX10_person 104 = .ok (.ireturn, 1) := by decide +kernel
theorem dX10_person_105 : decode cX10_person 105 = .ok (.aload_n 0, 1) := by decide +kernel
theorem dX10_person_106 : decode cX10_person 106 = .ok (.aload_n 0, 1) := by decide +kernel
theorem dX10_person_107 : decode cX10_person 107 = .ok (.getfield 13, 3) := by decide +kernel
theorem dX10_person_110 : decode cX10_person 110 = .ok (.iload_n 1, 1) := by decide +kernel
theorem dX10_person_111 : decode cX10_person 111 = .ok (.invokevirtual 163, 3) := by decide +kernel
theorem dX10_person_114 : decode cX10_person 114 = .ok (.ireturn, 1) := by decide +kernel
theorem dX10_person_115 : decode cX10_person 115 = .ok (.aload_n 0, 1) := by decide +kernel
theorem dX10_person_116 : decode cX10_person 116 = .ok (.iload_n 1, 1) := by decide +kernel
theorem dX10_person_117 : decode cX10_person 117 = .ok (.invokevirtual 166, 3) := by decide +kernel
theorem dX10_person_120 : decode cX10_person 120 = .ok (.ireturn, 1) := by decide +kernel
theorem dX10_person_121 : decode cX10_person 121 = .ok (.iload_n 1, 1) := by decide +kernel
theorem dX10_person_122 : decode cX10_person 122 = .ok (.ifCond .ne 8, 3) := by decide +kernel
theorem dX10_person_125 : decode cX10_person 125 = .ok (.bipush (-9), 2) := by decide +kernel
theorem dX10_person_127 : decode cX10_person 127 = .ok (.goto 8, 3) := by decide +kernel
theorem dX10_person_130 : decode cX10_person 130 = .ok (.aload_n 0, 1) := by decide +kernel
theorem dX10_person_131 : decode cX10_person 131 = .ok (.iload_n 1, 1) := by decide +kernel
theorem dX10_person_132 : decode cX10_person 132 = .ok (.invokevirtual 169, 3) := by decide +kernel
theorem dX10_person_135 : decode cX10_person 135 = .ok (.ireturn, 1) := by decide +kernel
theorem dX10_person_136 : decode cX10_person 136 = .ok (.bipush (-2), 2) := by decide +kernel
theorem dX10_person_138 : decode cX10_person 138 = .ok (.ireturn, 1) := by decide +kernel
theorem dX10_plan_0 : decode cX10_plan 0 = .ok (.iload_n 1, 1) := by decide +kernel
theorem dX10_plan_1 : decode cX10_plan 1 = .ok (.i2l, 1) := by decide +kernel
theorem dX10_plan_2 : decode cX10_plan 2 = .ok (.lconst 0, 1) := by decide +kernel
theorem dX10_plan_3 : decode cX10_plan 3 = .ok (.aload_n 0, 1) := by decide +kernel
theorem dX10_plan_4 : decode cX10_plan 4 = .ok (.getfield 57, 3) := by decide +kernel
theorem dX10_plan_7 : decode cX10_plan 7 = .ok (.iconst 2, 1) := by decide +kernel
theorem dX10_plan_8 : decode cX10_plan 8 = .ok (.isub, 1) := by decide +kernel
theorem dX10_plan_9 : decode cX10_plan 9 = .ok (.i2l, 1) := by decide +kernel
theorem dX10_plan_10 : decode cX10_plan 10 = .ok (.invokestatic 61, 3) := by decide +kernel
theorem dX10_plan_13 : decode cX10_plan 13 = .ok (.ifCond .eq 15, 3) := by decide +kernel
theorem dX10_plan_16 : decode cX10_plan 16 = .ok (.aload_n 0, 1) := by decide +kernel
theorem dX10_plan_17 : decode cX10_plan 17 = .ok (.getfield 13, 3) := by decide +kernel
theorem dX10_plan_20 : decode cX10_plan 20 = .ok (.bipush 25, 2) := by decide +kernel
theorem dX10_plan_22 : decode cX10_plan 22 = .ok (.iload_n 1, 1) := by decide +kernel
theorem dX10_plan_23 : decode cX10_plan 23 = .ok (.iadd, 1) := by decide +kernel
theorem dX10_plan_24 : decode cX10_plan 24 = .ok (.iaload, 1) := by decide +kernel
theorem dX10_plan_25 : decode cX10_plan 25 = .ok (.goto 4, 3) := by decide +kernel
theorem dX10_plan_28 : decode cX10_plan 28 = .ok (.iconst (-1), 1) := by decide +kernel
theorem dX10_plan_29 : decode cX10_plan 29 = .ok (.ireturn, 1) := by decide +kernel
theorem dX10_knows_0 : decode cX10_knows 0 = .ok (.aload_n 0, 1) := by decide +kernel
theorem dX10_knows_1 : decode cX10_knows 1 = .ok (.iload_n 1, 1) := by decide +kernel
theorem dX10_knows_2 : decode cX10_knows 2 = .ok (.invokevirtual 156, 3) := by decide +kernel
theorem dX10_knows_5 : decode cX10_knows 5 = .ok (.ifCond .eq 21, 3) := by decide +kernel
theorem dX10_knows_8 : decode cX10_knows 8 = .ok (.iload_n 2, 1) := by decide +kernel
theorem dX10_knows_9 : decode cX10_knows 9 = .ok (.i2l, 1) := by decide +kernel
theorem dX10_knows_10 : decode cX10_knows 10 = .ok (.lconst 0, 1) := by decide +kernel
theorem dX10_knows_11 : decode cX10_knows 11 = .ok (.aload_n 0, 1) := by decide +kernel
theorem dX10_knows_12 : decode cX10_knows 12 = .ok (.getfield 13, 3) := by decide +kernel
theorem dX10_knows_15 : decode cX10_knows 15 = .ok (.iconst 0, 1) := by decide +kernel
theorem dX10_knows_16 : decode cX10_knows 16 = .ok (.iaload, 1) := by decide +kernel
theorem dX10_knows_17 : decode cX10_knows 17 = .ok (.iconst 1, 1) := by decide +kernel
theorem dX10_knows_18 : decode cX10_knows 18 = .ok (.isub, 1) := by decide +kernel
theorem dX10_knows_19 : decode cX10_knows 19 = .ok (.i2l, 1) := by decide +kernel
theorem dX10_knows_20 : decode cX10_knows 20 = .ok (.invokestatic 61, 3) := by decide +kernel
theorem dX10_knows_23 : decode cX10_knows 23 = .ok (.ifCond .ne 5, 3) := by decide +kernel
theorem dX10_knows_26 : decode cX10_knows 26 = .ok (.iconst (-1), 1) := by decide +kernel
theorem dX10_knows_27 : decode cX10_knows 27 = .ok (.ireturn, 1) := by decide +kernel
theorem dX10_knows_28 : decode cX10_knows 28 = .ok (.aload_n 0, 1) := by decide +kernel
theorem dX10_knows_29 : decode cX10_knows 29 = .ok (.aload_n 0, 1) := by decide +kernel
theorem dX10_knows_30 : decode cX10_knows 30 = .ok (.getfield 13, 3) := by decide +kernel
theorem dX10_knows_33 : decode cX10_knows 33 = .ok (.invokevirtual 119, 3) := by decide +kernel
theorem dX10_knows_36 : decode cX10_knows 36 = .ok (.aload_n 0, 1) := by decide +kernel
theorem dX10_knows_37 : decode cX10_knows 37 = .ok (.getfield 35, 3) := by decide +kernel
theorem dX10_knows_40 : decode cX10_knows 40 = .ok (.iconst 3, 1) := by decide +kernel
theorem dX10_knows_41 : decode cX10_knows 41 = .ok (.iload_n 1, 1) := by decide +kernel
theorem dX10_knows_42 : decode cX10_knows 42 = .ok (.imul, 1) := by decide +kernel
theorem dX10_knows_43 : decode cX10_knows 43 = .ok (.iload_n 2, 1) := by decide +kernel
theorem dX10_knows_44 : decode cX10_knows 44 = .ok (.iadd, 1) := by decide +kernel
theorem dX10_knows_45 : decode cX10_knows 45 = .ok (.iaload, 1) := by decide +kernel
theorem dX10_knows_46 : decode cX10_knows 46 = .ok (.ireturn, 1) := by decide +kernel
theorem dX10_last_0 : decode cX10_last 0 = .ok (.iload_n 1, 1) := by decide +kernel
theorem dX10_last_1 : decode cX10_last 1 = .ok (.i2l, 1) := by decide +kernel
theorem dX10_last_2 : decode cX10_last 2 = .ok (.lconst 0, 1) := by decide +kernel
theorem dX10_last_3 : decode cX10_last 3 = .ok (.aload_n 0, 1) := by decide +kernel
theorem dX10_last_4 : decode cX10_last 4 = .ok (.getfield 13, 3) := by decide +kernel
theorem dX10_last_7 : decode cX10_last 7 = .ok (.iconst 0, 1) := by decide +kernel
theorem dX10_last_8 : decode cX10_last 8 = .ok (.iaload, 1) := by decide +kernel
theorem dX10_last_9 : decode cX10_last 9 = .ok (.iconst 1, 1) := by decide +kernel
theorem dX10_last_10 : decode cX10_last 10 = .ok (.isub, 1) := by decide +kernel
theorem dX10_last_11 : decode cX10_last 11 = .ok (.i2l, 1) := by decide +kernel
theorem dX10_last_12 : decode cX10_last 12 = .ok (.invokestatic 61, 3) := by decide +kernel
theorem dX10_last_15 : decode cX10_last 15 = .ok (.ifCond .eq 15, 3) := by decide +kernel
theorem dX10_last_18 : decode cX10_last 18 = .ok (.aload_n 0, 1) := by decide +kernel
theorem dX10_last_19 : decode cX10_last 19 = .ok (.aload_n 0, 1) := by decide +kernel
theorem dX10_last_20 : decode cX10_last 20 = .ok (.getfield 13, 3) := by decide +kernel
theorem dX10_last_23 : decode cX10_last 23 = .ok (.iload_n 1, 1) := by decide +kernel
theorem dX10_last_24 : decode cX10_last 24 = .ok (.invokevirtual 123, 3) := by decide +kernel
theorem dX10_last_27 : decode cX10_last 27 = .ok (.goto 4, 3) := by decide +kernel
theorem dX10_last_30 : decode cX10_last 30 = .ok (.iconst (-1), 1) := by decide +kernel
theorem dX10_last_31 : decode cX10_last 31 = .ok (.ireturn, 1) := by decide +kernel
theorem dX10_note_0 : decode cX10_note 0 = .ok (.iconst 0, 1) := by decide +kernel
theorem dX10_note_1 : decode cX10_note 1 = .ok (.istore_n 1, 1) := by decide +kernel
theorem dX10_note_2 : decode cX10_note 2 = .ok (.iload_n 1, 1) := by decide +kernel
theorem dX10_note_3 : decode cX10_note 3 = .ok (.bipush 33, 2) := by decide +kernel
theorem dX10_note_5 : decode cX10_note 5 = .ok (.if_icmp .ge 29, 3) := by decide +kernel
theorem dX10_note_8 : decode cX10_note 8 = .ok (.aload_n 0, 1) := by decide +kernel
theorem dX10_note_9 : decode cX10_note 9 = .ok (.getfield 19, 3) := by decide +kernel
theorem dX10_note_12 : decode cX10_note 12 = .ok (.bipush 33, 2) := by decide +kernel
theorem dX10_note_14 : decode cX10_note 14 = .ok (.aload_n 0, 1) := by decide +kernel
theorem dX10_note_15 : decode cX10_note 15 = .ok (.getfield 172, 3) := by decide +kernel
theorem dX10_note_18 : decode cX10_note 18 = .ok (.imul, 1) := by decide +kernel
theorem dX10_note_19 : decode cX10_note 19 = .ok (.iload_n 1, 1) := by decide +kernel
theorem dX10_note_20 : decode cX10_note 20 = .ok (.iadd, 1) := by decide +kernel
theorem dX10_note_21 : decode cX10_note 21 = .ok (.aload_n 0, 1) := by decide +kernel
theorem dX10_note_22 : decode cX10_note 22 = .ok (.getfield 13, 3) := by decide +kernel
theorem dX10_note_25 : decode cX10_note 25 = .ok (.iload_n 1, 1) := by decide +kernel
theorem dX10_note_26 : decode cX10_note 26 = .ok (.iaload, 1) := by decide +kernel
theorem dX10_note_27 : decode cX10_note 27 = .ok (.iastore, 1) := by decide +kernel
theorem dX10_note_28 : decode cX10_note 28 = .ok (.iinc 1 1, 3) := by decide +kernel
theorem dX10_note_31 : decode cX10_note 31 = .ok (.goto (-29), 3) := by decide +kernel
theorem dX10_note_34 : decode cX10_note 34 = .ok (.aload_n 0, 1) := by decide +kernel
theorem dX10_note_35 : decode cX10_note 35 = .ok (.aload_n 0, 1) := by decide +kernel
theorem dX10_note_36 : decode cX10_note 36 = .ok (.getfield 172, 3) := by decide +kernel
theorem dX10_note_39 : decode cX10_note 39 = .ok (.iconst 1, 1) := by decide +kernel
theorem dX10_note_40 : decode cX10_note 40 = .ok (.iadd, 1) := by decide +kernel
theorem dX10_note_41 : decode cX10_note 41 = .ok (.bipush 14, 2) := by decide +kernel
theorem dX10_note_43 : decode cX10_note 43 = .ok (.irem, 1) := by decide +kernel
theorem dX10_note_44 : decode cX10_note 44 = .ok (.putfield 172, 3) := by decide +kernel
theorem dX10_note_47 : decode cX10_note 47 = .ok (.aload_n 0, 1) := by decide +kernel
theorem dX10_note_48 : decode cX10_note 48 = .ok (.aload_n 0, 1) := by decide +kernel
theorem dX10_note_49 : decode cX10_note 49 = .ok (.getfield 108, 3) := by decide +kernel
theorem dX10_note_52 : decode cX10_note 52 = .ok (.bipush 14, 2) := by decide +kernel
theorem dX10_note_54 : decode cX10_note 54 = .ok (.if_icmp .ge 12, 3) := by decide +kernel
theorem dX10_note_57 : decode cX10_note 57 = .ok (.aload_n 0, 1) := by decide +kernel
theorem dX10_note_58 : decode cX10_note 58 = .ok (.getfield 108, 3) := by decide +kernel
theorem dX10_note_61 : decode cX10_note 61 = .ok (.iconst 1, 1) := by decide +kernel
theorem dX10_note_62 : decode cX10_note 62 = .ok (.iadd, 1) := by decide +kernel
theorem dX10_note_63 : decode cX10_note 63 = .ok (.goto 5, 3) := by decide +kernel
theorem dX10_note_66 : decode cX10_note 66 = .ok (.bipush 14, 2) := by decide +kernel
theorem dX10_note_68 : decode cX10_note 68 = .ok (.putfield 108, 3) := by decide +kernel
theorem dX10_note_71 : decode cX10_note 71 = .ok (.return_, 1) := by decide +kernel
theorem dX10_below_0 : decode cX10_below 0 = .ok (.iconst 1, 1) := by decide +kernel
theorem dX10_below_1 : decode cX10_below 1 = .ok (.iload_n 2, 1) := by decide +kernel
theorem dX10_below_2 : decode cX10_below 2 = .ok (.ishl, 1) := by decide +kernel
theorem dX10_below_3 : decode cX10_below 3 = .ok (.istore_n 3, 1) := by decide +kernel
theorem dX10_below_4 : decode cX10_below 4 = .ok (.iconst 0, 1) := by decide +kernel
theorem dX10_below_5 : decode cX10_below 5 = .ok (.istore 4, 2) := by decide +kernel
theorem dX10_below_7 : decode cX10_below 7 = .ok (.iload 4, 2) := by decide +kernel
theorem dX10_below_9 : decode cX10_below 9 = .ok (.aload_n 0, 1) := by decide +kernel
theorem dX10_below_10 : decode cX10_below 10 = .ok (.getfield 57, 3) := by decide +kernel
theorem dX10_below_13 : decode cX10_below 13 = .ok (.iconst 1, 1) := by decide +kernel
theorem dX10_below_14 : decode cX10_below 14 = .ok (.isub, 1) := by decide +kernel
theorem dX10_below_15 : decode cX10_below 15 = .ok (.if_icmp .ge 43, 3) := by decide +kernel
theorem dX10_below_18 : decode cX10_below 18 = .ok (.aload_n 1, 1) := by decide +kernel
theorem dX10_below_19 : decode cX10_below 19 = .ok (.bipush 25, 2) := by decide +kernel
theorem dX10_below_21 : decode cX10_below 21 = .ok (.iload 4, 2) := by decide +kernel
theorem dX10_below_23 : decode cX10_below 23 = .ok (.iadd, 1) := by decide +kernel
theorem dX10_below_24 : decode cX10_below 24 = .ok (.iaload, 1) := by decide +kernel
theorem dX10_below_25 : decode cX10_below 25 = .ok (.istore 5, 2) := by decide +kernel
theorem dX10_below_27 : decode cX10_below 27 = .ok (.iload_n 3, 1) := by decide +kernel
theorem dX10_below_28 : decode cX10_below 28 = .ok (.iload_n 3, 1) := by decide +kernel
theorem dX10_below_29 : decode cX10_below 29 = .ok (.aload_n 1, 1) := by decide +kernel
theorem dX10_below_30 : decode cX10_below 30 = .ok (.bipush 17, 2) := by decide +kernel
theorem dX10_below_32 : decode cX10_below 32 = .ok (.iload 5, 2) := by decide +kernel
theorem dX10_below_34 : decode cX10_below 34 = .ok (.iadd, 1) := by decide +kernel
theorem dX10_below_35 : decode cX10_below 35 = .ok (.iaload, 1) := by decide +kernel
theorem dX10_below_36 : decode cX10_below 36 = .ok (.invokestatic 90, 3) := by decide +kernel
theorem dX10_below_39 : decode cX10_below 39 = .ok (.ifCond .eq 10, 3) := by decide +kernel
theorem dX10_below_42 : decode cX10_below 42 = .ok (.iconst 1, 1) := by decide +kernel
theorem dX10_below_43 : decode cX10_below 43 = .ok (.iload 5, 2) := by decide +kernel
theorem dX10_below_45 : decode cX10_below 45 = .ok (.ishl, 1) := by decide +kernel
theorem dX10_below_46 : decode cX10_below 46 = .ok (.goto 4, 3) := by decide +kernel
theorem dX10_below_49 : decode cX10_below 49 = .ok (.iconst 0, 1) := by decide +kernel
theorem dX10_below_50 : decode cX10_below 50 = .ok (.ior, 1) := by decide +kernel
theorem dX10_below_51 : decode cX10_below 51 = .ok (.istore_n 3, 1) := by decide +kernel
theorem dX10_below_52 : decode cX10_below 52 = .ok (.iinc 4 1, 3) := by decide +kernel
theorem dX10_below_55 : decode cX10_below 55 = .ok (.goto (-48), 3) := by decide +kernel
theorem dX10_below_58 : decode cX10_below 58 = .ok (.iload_n 3, 1) := by decide +kernel
theorem dX10_below_59 : decode cX10_below 59 = .ok (.ireturn, 1) := by decide +kernel
theorem dX10_mayMove_0 : decode cX10_mayMove 0 = .ok (.aload_n 1, 1) := by decide +kernel
theorem dX10_mayMove_1 : decode cX10_mayMove 1 = .ok (.bipush 17, 2) := by decide +kernel
theorem dX10_mayMove_3 : decode cX10_mayMove 3 = .ok (.iload_n 2, 1) := by decide +kernel
theorem dX10_mayMove_4 : decode cX10_mayMove 4 = .ok (.iadd, 1) := by decide +kernel
theorem dX10_mayMove_5 : decode cX10_mayMove 5 = .ok (.iaload, 1) := by decide +kernel
theorem dX10_mayMove_6 : decode cX10_mayMove 6 = .ok (.iload_n 3, 1) := by decide +kernel
theorem dX10_mayMove_7 : decode cX10_mayMove 7 = .ok (.if_icmp .eq 20, 3) := by decide +kernel
theorem dX10_mayMove_10 : decode cX10_mayMove 10 = .ok (.aload_n 0, 1) := by decide +kernel
theorem dX10_mayMove_11 : decode cX10_mayMove 11 = .ok (.aload_n 1, 1) := by decide +kernel
theorem dX10_mayMove_12 : decode cX10_mayMove 12 = .ok (.iload_n 2, 1) := by decide +kernel
theorem dX10_mayMove_13 : decode cX10_mayMove 13 = .ok (.invokevirtual 175, 3) := by decide +kernel
theorem dX10_mayMove_16 : decode cX10_mayMove 16 = .ok (.iload_n 3, 1) := by decide +kernel
theorem dX10_mayMove_17 : decode cX10_mayMove 17 = .ok (.invokestatic 90, 3) := by decide +kernel
theorem dX10_mayMove_20 : decode cX10_mayMove 20 = .ok (.ifCond .ne 7, 3) := by decide +kernel
theorem dX10_mayMove_23 : decode cX10_mayMove 23 = .ok (.iconst 1, 1) := by decide +kernel
theorem dX10_mayMove_24 : decode cX10_mayMove 24 = .ok (.goto 4, 3) := by decide +kernel
theorem dX10_mayMove_27 : decode cX10_mayMove 27 = .ok (.iconst 0, 1) := by decide +kernel
theorem dX10_mayMove_28 : decode cX10_mayMove 28 = .ok (.ireturn, 1) := by decide +kernel
theorem dX10_moveOn_0 : decode cX10_moveOn 0 = .ok (.aload_n 0, 1) := by decide +kernel
theorem dX10_moveOn_1 : decode cX10_moveOn 1 = .ok (.aload_n 1, 1) := by decide +kernel
theorem dX10_moveOn_2 : decode cX10_moveOn 2 = .ok (.iload_n 2, 1) := by decide +kernel
theorem dX10_moveOn_3 : decode cX10_moveOn 3 = .ok (.invokevirtual 175, 3) := by decide +kernel
theorem dX10_moveOn_6 : decode cX10_moveOn 6 = .ok (.istore 4, 2) := by decide +kernel
theorem dX10_moveOn_8 : decode cX10_moveOn 8 = .ok (.iconst 0, 1) := by decide +kernel
theorem dX10_moveOn_9 : decode cX10_moveOn 9 = .ok (.istore 5, 2) := by decide +kernel
theorem dX10_moveOn_11 : decode cX10_moveOn 11 = .ok (.iconst 0, 1) := by decide +kernel
theorem dX10_moveOn_12 : decode cX10_moveOn 12 = .ok (.istore 6, 2) := by decide +kernel
theorem dX10_moveOn_14 : decode cX10_moveOn 14 = .ok (.iload 6, 2) := by decide +kernel
theorem dX10_moveOn_16 : decode cX10_moveOn 16 = .ok (.iconst 2, 1) := by decide +kernel
theorem dX10_moveOn_17 : decode cX10_moveOn 17 = .ok (.if_icmp .ge 71, 3) := by decide +kernel
theorem dX10_moveOn_20 : decode cX10_moveOn 20 = .ok (.iconst 0, 1) := by decide +kernel
theorem dX10_moveOn_21 : decode cX10_moveOn 21 = .ok (.istore 7, 2) := by decide +kernel
theorem dX10_moveOn_23 : decode cX10_moveOn 23 = .ok (.iload 7, 2) := by decide +kernel
theorem dX10_moveOn_25 : decode cX10_moveOn 25 = .ok (.aload_n 0, 1) := by decide +kernel
theorem dX10_moveOn_26 : decode cX10_moveOn 26 = .ok (.getfield 57, 3) := by decide +kernel
theorem dX10_moveOn_29 : decode cX10_moveOn 29 = .ok (.iconst 1, 1) := by decide +kernel
theorem dX10_moveOn_30 : decode cX10_moveOn 30 = .ok (.isub, 1) := by decide +kernel
theorem dX10_moveOn_31 : decode cX10_moveOn 31 = .ok (.if_icmp .ge 51, 3) := by decide +kernel
theorem dX10_moveOn_34 : decode cX10_moveOn 34 = .ok (.aload_n 1, 1) := by decide +kernel
theorem dX10_moveOn_35 : decode cX10_moveOn 35 = .ok (.bipush 25, 2) := by decide +kernel
theorem dX10_moveOn_37 : decode cX10_moveOn 37 = .ok (.iload 7, 2) := by decide +kernel
theorem dX10_moveOn_39 : decode cX10_moveOn 39 = .ok (.iadd, 1) := by decide +kernel
theorem dX10_moveOn_40 : decode cX10_moveOn 40 = .ok (.iaload, 1) := by decide +kernel
theorem dX10_moveOn_41 : decode cX10_moveOn 41 = .ok (.istore 8, 2) := by decide +kernel
theorem dX10_moveOn_43 : decode cX10_moveOn 43 = .ok (.iload 4, 2) := by decide +kernel
theorem dX10_moveOn_45 : decode cX10_moveOn 45 = .ok (.iload 8, 2) := by decide +kernel
theorem dX10_moveOn_47 : decode cX10_moveOn 47 = .ok (.invokestatic 90, 3) := by decide +kernel
theorem dX10_moveOn_50 : decode cX10_moveOn 50 = .ok (.iload 6, 2) := by decide +kernel
theorem dX10_moveOn_52 : decode cX10_moveOn 52 = .ok (.iconst 1, 1) := by decide +kernel
theorem dX10_moveOn_53 : decode cX10_moveOn 53 = .ok (.if_icmp .ne 7, 3) := by decide +kernel
theorem dX10_moveOn_56 : decode cX10_moveOn 56 = .ok (.iconst 1, 1) := by decide +kernel
theorem dX10_moveOn_57 : decode cX10_moveOn 57 = .ok (.goto 4, 3) := by decide +kernel
theorem dX10_moveOn_60 : decode cX10_moveOn 60 = .ok (.iconst 0, 1) := by decide +kernel
theorem dX10_moveOn_61 : decode cX10_moveOn 61 = .ok (.if_icmp .ne 15, 3) := by decide +kernel
theorem dX10_moveOn_64 : decode cX10_moveOn 64 = .ok (.aload_n 0, 1) := by decide +kernel
theorem dX10_moveOn_65 : decode cX10_moveOn 65 = .ok (.getfield 44, 3) := by decide +kernel
theorem dX10_moveOn_68 : decode cX10_moveOn 68 = .ok (.iload 5, 2) := by decide +kernel
theorem dX10_moveOn_70 : decode cX10_moveOn 70 = .ok (.iload 8, 2) := by decide +kernel
theorem dX10_moveOn_72 : decode cX10_moveOn 72 = .ok (.iastore, 1) := by decide +kernel
theorem dX10_moveOn_73 : decode cX10_moveOn 73 = .ok (.iinc 5 1, 3) := by decide +kernel
theorem dX10_moveOn_76 : decode cX10_moveOn 76 = .ok (.iinc 7 1, 3) := by decide +kernel
theorem dX10_moveOn_79 : decode cX10_moveOn 79 = .ok (.goto (-56), 3) := by decide +kernel
theorem dX10_moveOn_82 : decode cX10_moveOn 82 = .ok (.iinc 6 1, 3) := by decide +kernel
theorem dX10_moveOn_85 : decode cX10_moveOn 85 = .ok (.goto (-71), 3) := by decide +kernel
theorem dX10_moveOn_88 : decode cX10_moveOn 88 = .ok (.iconst 0, 1) := by decide +kernel
theorem dX10_moveOn_89 : decode cX10_moveOn 89 = .ok (.istore 6, 2) := by decide +kernel
theorem dX10_moveOn_91 : decode cX10_moveOn 91 = .ok (.iload 6, 2) := by decide +kernel
theorem dX10_moveOn_93 : decode cX10_moveOn 93 = .ok (.iload 5, 2) := by decide +kernel
theorem dX10_moveOn_95 : decode cX10_moveOn 95 = .ok (.if_icmp .ge 23, 3) := by decide +kernel
theorem dX10_moveOn_98 : decode cX10_moveOn 98 = .ok (.aload_n 1, 1) := by decide +kernel
theorem dX10_moveOn_99 : decode cX10_moveOn 99 = .ok (.bipush 25, 2) := by decide +kernel
theorem dX10_moveOn_101 : decode cX10_moveOn 101 = .ok (.iload 6, 2) := by decide +kernel
theorem dX10_moveOn_103 : decode cX10_moveOn 103 = .ok (.iadd, 1) := by decide +kernel
theorem dX10_moveOn_104 : decode cX10_moveOn 104 = .ok (.aload_n 0, 1) := by decide +kernel
theorem dX10_moveOn_105 : decode cX10_moveOn 105 = .ok (.getfield 44, 3) := by decide +kernel
theorem dX10_moveOn_108 : decode cX10_moveOn 108 = .ok (.iload 6, 2) := by decide +kernel
theorem dX10_moveOn_110 : decode cX10_moveOn 110 = .ok (.iaload, 1) := by decide +kernel
theorem dX10_moveOn_111 : decode cX10_moveOn 111 = .ok (.iastore, 1) := by decide +kernel
theorem dX10_moveOn_112 : decode cX10_moveOn 112 = .ok (.iinc 6 1, 3) := by decide +kernel
theorem dX10_moveOn_115 : decode cX10_moveOn 115 = .ok (.goto (-24), 3) := by decide +kernel
theorem dX10_moveOn_118 : decode cX10_moveOn 118 = .ok (.aload_n 1, 1) := by decide +kernel
theorem dX10_moveOn_119 : decode cX10_moveOn 119 = .ok (.bipush 17, 2) := by decide +kernel
theorem dX10_moveOn_121 : decode cX10_moveOn 121 = .ok (.iload_n 2, 1) := by decide +kernel
theorem dX10_moveOn_122 : decode cX10_moveOn 122 = .ok (.iadd, 1) := by decide +kernel
theorem dX10_moveOn_123 : decode cX10_moveOn 123 = .ok (.iload_n 3, 1) := by decide +kernel
theorem dX10_moveOn_124 : decode cX10_moveOn 124 = .ok (.iastore, 1) := by decide +kernel
theorem dX10_moveOn_125 : decode cX10_moveOn 125 = .ok (.return_, 1) := by decide +kernel
theorem dX10_move_0 : decode cX10_move 0 = .ok (.aload_n 0, 1) := by decide +kernel
theorem dX10_move_1 : decode cX10_move 1 = .ok (.iload_n 1, 1) := by decide +kernel
theorem dX10_move_2 : decode cX10_move 2 = .ok (.invokevirtual 156, 3) := by decide +kernel
theorem dX10_move_5 : decode cX10_move 5 = .ok (.ifCond .eq 15, 3) := by decide +kernel
theorem dX10_move_8 : decode cX10_move 8 = .ok (.iload_n 1, 1) := by decide +kernel
theorem dX10_move_9 : decode cX10_move 9 = .ok (.ifCond .eq 11, 3) := by decide +kernel
theorem dX10_move_12 : decode cX10_move 12 = .ok (.aload_n 0, 1) := by decide +kernel
theorem dX10_move_13 : decode cX10_move 13 = .ok (.iload_n 2, 1) := by decide +kernel
theorem dX10_move_14 : decode cX10_move 14 = .ok (.invokevirtual 156, 3) := by decide +kernel
theorem dX10_move_17 : decode cX10_move 17 = .ok (.ifCond .ne 5, 3) := by decide +kernel
theorem dX10_move_20 : decode cX10_move 20 = .ok (.iconst (-1), 1) := by decide +kernel
theorem dX10_move_21 : decode cX10_move 21 = .ok (.ireturn, 1) := by decide +kernel
theorem dX10_move_22 : decode cX10_move 22 = .ok (.aload_n 0, 1) := by decide +kernel
theorem dX10_move_23 : decode cX10_move 23 = .ok (.aload_n 0, 1) := by decide +kernel
theorem dX10_move_24 : decode cX10_move 24 = .ok (.getfield 13, 3) := by decide +kernel
theorem dX10_move_27 : decode cX10_move 27 = .ok (.iload_n 1, 1) := by decide +kernel
theorem dX10_move_28 : decode cX10_move 28 = .ok (.iload_n 2, 1) := by decide +kernel
theorem dX10_move_29 : decode cX10_move 29 = .ok (.invokevirtual 178, 3) := by decide +kernel
theorem dX10_move_32 : decode cX10_move 32 = .ok (.ifCond .ne 6, 3) := by decide +kernel
theorem dX10_move_35 : decode cX10_move 35 = .ok (.bipush (-3), 2) := by decide +kernel
theorem dX10_move_37 : decode cX10_move 37 = .ok (.ireturn, 1) := by decide +kernel
theorem dX10_move_38 : decode cX10_move 38 = .ok (.aload_n 0, 1) := by decide +kernel
theorem dX10_move_39 : decode cX10_move 39 = .ok (.invokevirtual 182, 3) := by decide +kernel
theorem dX10_move_42 : decode cX10_move 42 = .ok (.aload_n 0, 1) := by decide +kernel
theorem dX10_move_43 : decode cX10_move 43 = .ok (.aload_n 0, 1) := by decide +kernel
theorem dX10_move_44 : decode cX10_move 44 = .ok (.getfield 13, 3) := by decide +kernel
theorem dX10_move_47 : decode cX10_move 47 = .ok (.iload_n 1, 1) := by decide +kernel
theorem dX10_move_48 : decode cX10_move 48 = .ok (.iload_n 2, 1) := by decide +kernel
theorem dX10_move_49 : decode cX10_move 49 = .ok (.invokevirtual 185, 3) := by decide +kernel
theorem dX10_move_52 : decode cX10_move 52 = .ok (.aload_n 0, 1) := by decide +kernel
theorem dX10_move_53 : decode cX10_move 53 = .ok (.aload_n 0, 1) := by decide +kernel
theorem dX10_move_54 : decode cX10_move 54 = .ok (.getfield 13, 3) := by decide +kernel
theorem dX10_move_57 : decode cX10_move 57 = .ok (.invokevirtual 111, 3) := by decide +kernel
theorem dX10_move_60 : decode cX10_move 60 = .ok (.ireturn, 1) := by decide +kernel
theorem dX10_isPair_0 : decode cX10_isPair 0 = .ok (.iload_n 1, 1) := by decide +kernel
theorem dX10_isPair_1 : decode cX10_isPair 1 = .ok (.i2l, 1) := by decide +kernel
theorem dX10_isPair_2 : decode cX10_isPair 2 = .ok (.lconst 0, 1) := by decide +kernel
theorem dX10_isPair_3 : decode cX10_isPair 3 = .ok (.aload_n 0, 1) := by decide +kernel
theorem dX10_isPair_4 : decode cX10_isPair 4 = .ok (.getfield 57, 3) := by decide +kernel
theorem dX10_isPair_7 : decode cX10_isPair 7 = .ok (.iconst 3, 1) := by decide +kernel
theorem dX10_isPair_8 : decode cX10_isPair 8 = .ok (.isub, 1) := by decide +kernel
theorem dX10_isPair_9 : decode cX10_isPair 9 = .ok (.i2l, 1) := by decide +kernel
theorem dX10_isPair_10 : decode cX10_isPair 10 = .ok (.invokestatic 61, 3) := by decide +kernel
theorem dX10_isPair_13 : decode cX10_isPair 13 = .ok (.ireturn, 1) := by decide +kernel
theorem dX10_mayChange_0 : decode cX10_mayChange 0 = .ok (.aload_n 0, 1) := by decide +kernel
theorem dX10_mayChange_1 : decode cX10_mayChange 1 = .ok (.bipush 17, 2) := by decide +kernel
theorem dX10_mayChange_3 : decode cX10_mayChange 3 = .ok (.aload_n 0, 1) := by decide +kernel
theorem dX10_mayChange_4 : decode cX10_mayChange 4 = .ok (.bipush 25, 2) := by decide +kernel
theorem dX10_mayChange_6 : decode cX10_mayChange 6 = .ok (.iload_n 1, 1) := by decide +kernel
theorem dX10_mayChange_7 : decode cX10_mayChange 7 = .ok (.iadd, 1) := by decide +kernel
theorem dX10_mayChange_8 : decode cX10_mayChange 8 = .ok (.iconst 1, 1) := by decide +kernel
theorem dX10_mayChange_9 : decode cX10_mayChange 9 = .ok (.iadd, 1) := by decide +kernel
theorem dX10_mayChange_10 : decode cX10_mayChange 10 = .ok (.iaload, 1) := by decide +kernel
theorem dX10_mayChange_11 : decode cX10_mayChange 11 = .ok (.iadd, 1) := by decide +kernel
theorem dX10_mayChange_12 : decode cX10_mayChange 12 = .ok (.iaload, 1) := by decide +kernel
theorem dX10_mayChange_13 : decode cX10_mayChange 13 = .ok (.aload_n 0, 1) := by decide +kernel
theorem dX10_mayChange_14 : decode cX10_mayChange 14 = .ok (.bipush 25, 2) := by decide +kernel
theorem dX10_mayChange_16 : decode cX10_mayChange 16 = .ok (.iload_n 1, 1) := by decide +kernel
theorem dX10_mayChange_17 : decode cX10_mayChange 17 = .ok (.iadd, 1) := by decide +kernel
theorem dX10_mayChange_18 : decode cX10_mayChange 18 = .ok (.iaload, 1) := by decide +kernel
theorem dX10_mayChange_19 : decode cX10_mayChange 19 = .ok (.if_icmp .eq 7, 3) := by decide +kernel
theorem dX10_mayChange_22 : decode cX10_mayChange 22 = .ok (.iconst 1, 1) := by decide +kernel
theorem dX10_mayChange_23 : decode cX10_mayChange 23 = .ok (.goto 4, 3) := by decide +kernel
theorem dX10_mayChange_26 : decode cX10_mayChange 26 = .ok (.iconst 0, 1) := by decide +kernel
theorem dX10_mayChange_27 : decode cX10_mayChange 27 = .ok (.ireturn, 1) := by decide +kernel
theorem dX10_changeOn_0 : decode cX10_changeOn 0 = .ok (.aload_n 0, 1) := by decide +kernel
theorem dX10_changeOn_1 : decode cX10_changeOn 1 = .ok (.bipush 25, 2) := by decide +kernel
theorem dX10_changeOn_3 : decode cX10_changeOn 3 = .ok (.iload_n 1, 1) := by decide +kernel
theorem dX10_changeOn_4 : decode cX10_changeOn 4 = .ok (.iadd, 1) := by decide +kernel
theorem dX10_changeOn_5 : decode cX10_changeOn 5 = .ok (.iaload, 1) := by decide +kernel
theorem dX10_changeOn_6 : decode cX10_changeOn 6 = .ok (.istore_n 2, 1) := by decide +kernel
theorem dX10_changeOn_7 : decode cX10_changeOn 7 = .ok (.aload_n 0, 1) := by decide +kernel
theorem dX10_changeOn_8 : decode cX10_changeOn 8 = .ok (.bipush 25, 2) := by decide +kernel
theorem dX10_changeOn_10 : decode cX10_changeOn 10 = .ok (.iload_n 1, 1) := by decide +kernel
theorem dX10_changeOn_11 : decode cX10_changeOn 11 = .ok (.iadd, 1) := by decide +kernel
theorem dX10_changeOn_12 : decode cX10_changeOn 12 = .ok (.aload_n 0, 1) := by decide +kernel
theorem dX10_changeOn_13 : decode cX10_changeOn 13 = .ok (.bipush 25, 2) := by decide +kernel
theorem dX10_changeOn_15 : decode cX10_changeOn 15 = .ok (.iload_n 1, 1) := by decide +kernel
theorem dX10_changeOn_16 : decode cX10_changeOn 16 = .ok (.iadd, 1) := by decide +kernel
theorem dX10_changeOn_17 : decode cX10_changeOn 17 = .ok (.iconst 1, 1) := by decide +kernel
theorem dX10_changeOn_18 : decode cX10_changeOn 18 = .ok (.iadd, 1) := by decide +kernel
theorem dX10_changeOn_19 : decode cX10_changeOn 19 = .ok (.iaload, 1) := by decide +kernel
theorem dX10_changeOn_20 : decode cX10_changeOn 20 = .ok (.iastore, 1) := by decide +kernel
theorem dX10_changeOn_21 : decode cX10_changeOn 21 = .ok (.aload_n 0, 1) := by decide +kernel
theorem dX10_changeOn_22 : decode cX10_changeOn 22 = .ok (.bipush 25, 2) := by decide +kernel
theorem dX10_changeOn_24 : decode cX10_changeOn 24 = .ok (.iload_n 1, 1) := by decide +kernel
theorem dX10_changeOn_25 : decode cX10_changeOn 25 = .ok (.iadd, 1) := by decide +kernel
theorem dX10_changeOn_26 : decode cX10_changeOn 26 = .ok (.iconst 1, 1) := by decide +kernel
theorem dX10_changeOn_27 : decode cX10_changeOn 27 = .ok (.iadd, 1) := by decide +kernel
theorem dX10_changeOn_28 : decode cX10_changeOn 28 = .ok (.iload_n 2, 1) := by decide +kernel
theorem dX10_changeOn_29 : decode cX10_changeOn 29 = .ok (.iastore, 1) := by decide +kernel
theorem dX10_changeOn_30 : decode cX10_changeOn 30 = .ok (.return_, 1) := by decide +kernel
theorem dX10_change_0 : decode cX10_change 0 = .ok (.aload_n 0, 1) := by decide +kernel
theorem dX10_change_1 : decode cX10_change 1 = .ok (.iload_n 1, 1) := by decide +kernel
theorem dX10_change_2 : decode cX10_change 2 = .ok (.invokevirtual 189, 3) := by decide +kernel
theorem dX10_change_5 : decode cX10_change 5 = .ok (.ifCond .ne 5, 3) := by decide +kernel
theorem dX10_change_8 : decode cX10_change 8 = .ok (.iconst (-1), 1) := by decide +kernel
theorem dX10_change_9 : decode cX10_change 9 = .ok (.ireturn, 1) := by decide +kernel
theorem dX10_change_10 : decode cX10_change 10 = .ok (.aload_n 0, 1) := by decide +kernel
theorem dX10_change_11 : decode cX10_change 11 = .ok (.getfield 13, 3) := by decide +kernel
theorem dX10_change_14 : decode cX10_change 14 = .ok (.iload_n 1, 1) := by decide +kernel
theorem dX10_change_15 : decode cX10_change 15 = .ok (.invokestatic 192, 3) := by decide +kernel
theorem dX10_change_18 : decode cX10_change 18 = .ok (.ifCond .ne 6, 3) := by decide +kernel
theorem dX10_change_21 : decode cX10_change 21 = .ok (.bipush (-3), 2) := by decide +kernel
theorem dX10_change_23 : decode cX10_change 23 = .ok (.ireturn, 1) := by decide +kernel
theorem dX10_change_24 : decode cX10_change 24 = .ok (.aload_n 0, 1) := by decide +kernel
theorem dX10_change_25 : decode cX10_change 25 = .ok (.invokevirtual 182, 3) := by decide +kernel
theorem dX10_change_28 : decode cX10_change 28 = .ok (.aload_n 0, 1) := by decide +kernel
theorem dX10_change_29 : decode cX10_change 29 = .ok (.getfield 13, 3) := by decide +kernel
theorem dX10_change_32 : decode cX10_change 32 = .ok (.iload_n 1, 1) := by decide +kernel
theorem dX10_change_33 : decode cX10_change 33 = .ok (.invokestatic 196, 3) := by decide +kernel
theorem dX10_change_36 : decode cX10_change 36 = .ok (.aload_n 0, 1) := by decide +kernel
theorem dX10_change_37 : decode cX10_change 37 = .ok (.aload_n 0, 1) := by decide +kernel
theorem dX10_change_38 : decode cX10_change 38 = .ok (.getfield 13, 3) := by decide +kernel
theorem dX10_change_41 : decode cX10_change 41 = .ok (.invokevirtual 111, 3) := by decide +kernel
theorem dX10_change_44 : decode cX10_change 44 = .ok (.ireturn, 1) := by decide +kernel
theorem dX10_quicken_0 : decode cX10_quicken 0 = .ok (.aload_n 0, 1) := by decide +kernel
theorem dX10_quicken_1 : decode cX10_quicken 1 = .ok (.invokevirtual 182, 3) := by decide +kernel
theorem dX10_quicken_4 : decode cX10_quicken 4 = .ok (.aload_n 0, 1) := by decide +kernel
theorem dX10_quicken_5 : decode cX10_quicken 5 = .ok (.aload_n 0, 1) := by decide +kernel
theorem dX10_quicken_6 : decode cX10_quicken 6 = .ok (.getfield 13, 3) := by decide +kernel
theorem dX10_quicken_9 : decode cX10_quicken 9 = .ok (.invokevirtual 147, 3) := by decide +kernel
theorem dX10_quicken_12 : decode cX10_quicken 12 = .ok (.aload_n 0, 1) := by decide +kernel
theorem dX10_quicken_13 : decode cX10_quicken 13 = .ok (.aload_n 0, 1) := by decide +kernel
theorem dX10_quicken_14 : decode cX10_quicken 14 = .ok (.getfield 13, 3) := by decide +kernel
theorem dX10_quicken_17 : decode cX10_quicken 17 = .ok (.invokevirtual 111, 3) := by decide +kernel
theorem dX10_quicken_20 : decode cX10_quicken 20 = .ok (.ireturn, 1) := by decide +kernel
theorem dX10_set_0 : decode cX10_set 0 = .ok (.aload_n 0, 1) := by decide +kernel
theorem dX10_set_1 : decode cX10_set 1 = .ok (.iload_n 1, 1) := by decide +kernel
theorem dX10_set_2 : decode cX10_set 2 = .ok (.invokevirtual 156, 3) := by decide +kernel
theorem dX10_set_5 : decode cX10_set 5 = .ok (.ifCond .ne 5, 3) := by decide +kernel
theorem dX10_set_8 : decode cX10_set 8 = .ok (.iconst (-1), 1) := by decide +kernel
theorem dX10_set_9 : decode cX10_set 9 = .ok (.ireturn, 1) := by decide +kernel
theorem dX10_set_10 : decode cX10_set 10 = .ok (.iload_n 2, 1) := by decide +kernel
theorem dX10_set_11 : decode cX10_set 11 = .ok (.ifCond .ne 8, 3) := by decide +kernel
theorem dX10_set_14 : decode cX10_set 14 = .ok (.bipush 9, 2) := by decide +kernel
theorem dX10_set_16 : decode cX10_set 16 = .ok (.goto 13, 3) := by decide +kernel
theorem dX10_set_19 : decode cX10_set 19 = .ok (.iload_n 2, 1) := by decide +kernel
theorem dX10_set_20 : decode cX10_set 20 = .ok (.iconst 1, 1) := by decide +kernel
theorem dX10_set_21 : decode cX10_set 21 = .ok (.if_icmp .ne 7, 3) := by decide +kernel
theorem dX10_set_24 : decode cX10_set 24 = .ok (.iconst 5, 1) := by decide +kernel
theorem dX10_set_25 : decode cX10_set 25 = .ok (.goto 4, 3) := by decide +kernel
theorem dX10_set_28 : decode cX10_set 28 = .ok (.iconst 3, 1) := by decide +kernel
theorem dX10_set_29 : decode cX10_set 29 = .ok (.istore 4, 2) := by decide +kernel
theorem dX10_set_31 : decode cX10_set 31 = .ok (.iload_n 2, 1) := by decide +kernel
theorem dX10_set_32 : decode cX10_set 32 = .ok (.i2l, 1) := by decide +kernel
theorem dX10_set_33 : decode cX10_set 33 = .ok (.lconst 0, 1) := by decide +kernel
theorem dX10_set_34 : decode cX10_set 34 = .ok (.ldc2_w 199, 3) := by decide +kernel
theorem dX10_set_37 : decode cX10_set 37 = .ok (.invokestatic 61, 3) := by decide +kernel
theorem dX10_set_40 : decode cX10_set 40 = .ok (.ifCond .eq 24, 3) := by decide +kernel
theorem dX10_set_43 : decode cX10_set 43 = .ok (.iload_n 2, 1) := by decide +kernel
theorem dX10_set_44 : decode cX10_set 44 = .ok (.iconst 2, 1) := by decide +kernel
theorem dX10_set_45 : decode cX10_set 45 = .ok (.if_icmp .ne 7, 3) := by decide +kernel
theorem dX10_set_48 : decode cX10_set 48 = .ok (.iload_n 1, 1) := by decide +kernel
theorem dX10_set_49 : decode cX10_set 49 = .ok (.ifCond .ne 15, 3) := by decide +kernel
theorem dX10_set_52 : decode cX10_set 52 = .ok (.iload_n 3, 1) := by decide +kernel
theorem dX10_set_53 : decode cX10_set 53 = .ok (.i2l, 1) := by decide +kernel
theorem dX10_set_54 : decode cX10_set 54 = .ok (.lconst 1, 1) := by decide +kernel
theorem dX10_set_55 : decode cX10_set 55 = .ok (.iload 4, 2) := by decide +kernel
theorem dX10_set_57 : decode cX10_set 57 = .ok (.i2l, 1) := by decide +kernel
theorem dX10_set_58 : decode cX10_set 58 = .ok (.invokestatic 61, 3) := by decide +kernel
theorem dX10_set_61 : decode cX10_set 61 = .ok (.ifCond .ne 6, 3) := by decide +kernel
theorem dX10_set_64 : decode cX10_set 64 = .ok (.bipush (-2), 2) := by decide +kernel
theorem dX10_set_66 : decode cX10_set 66 = .ok (.ireturn, 1) := by decide +kernel
theorem dX10_set_67 : decode cX10_set 67 = .ok (.aload_n 0, 1) := by decide +kernel
theorem dX10_set_68 : decode cX10_set 68 = .ok (.invokevirtual 182, 3) := by decide +kernel
theorem dX10_set_71 : decode cX10_set 71 = .ok (.iload_n 2, 1) := by decide +kernel
theorem dX10_set_72 : decode cX10_set 72 = .ok (.ifCond .ne 9, 3) := by decide +kernel
theorem dX10_set_75 : decode cX10_set 75 = .ok (.iconst 1, 1) := by decide +kernel
theorem dX10_set_76 : decode cX10_set 76 = .ok (.iload_n 1, 1) := by decide +kernel
theorem dX10_set_77 : decode cX10_set 77 = .ok (.iadd, 1) := by decide +kernel
theorem dX10_set_78 : decode cX10_set 78 = .ok (.goto 16, 3) := by decide +kernel
theorem dX10_set_81 : decode cX10_set 81 = .ok (.iload_n 2, 1) := by decide +kernel
theorem dX10_set_82 : decode cX10_set 82 = .ok (.iconst 1, 1) := by decide +kernel
theorem dX10_set_83 : decode cX10_set 83 = .ok (.if_icmp .ne 10, 3) := by decide +kernel
theorem dX10_set_86 : decode cX10_set 86 = .ok (.bipush 9, 2) := by decide +kernel
theorem dX10_set_88 : decode cX10_set 88 = .ok (.iload_n 1, 1) := by decide +kernel
theorem dX10_set_89 : decode cX10_set 89 = .ok (.iadd, 1) := by decide +kernel
theorem dX10_set_90 : decode cX10_set 90 = .ok (.goto 4, 3) := by decide +kernel
theorem dX10_set_93 : decode cX10_set 93 = .ok (.iconst 0, 1) := by decide +kernel
theorem dX10_set_94 : decode cX10_set 94 = .ok (.istore 5, 2) := by decide +kernel
theorem dX10_set_96 : decode cX10_set 96 = .ok (.aload_n 0, 1) := by decide +kernel
theorem dX10_set_97 : decode cX10_set 97 = .ok (.getfield 13, 3) := by decide +kernel
theorem dX10_set_100 : decode cX10_set 100 = .ok (.iload 5, 2) := by decide +kernel
theorem dX10_set_102 : decode cX10_set 102 = .ok (.iaload, 1) := by decide +kernel
theorem dX10_set_103 : decode cX10_set 103 = .ok (.istore 6, 2) := by decide +kernel
theorem dX10_set_105 : decode cX10_set 105 = .ok (.aload_n 0, 1) := by decide +kernel
theorem dX10_set_106 : decode cX10_set 106 = .ok (.getfield 13, 3) := by decide +kernel
theorem dX10_set_109 : decode cX10_set 109 = .ok (.iload 5, 2) := by decide +kernel
theorem dX10_set_111 : decode cX10_set 111 = .ok (.iload_n 3, 1) := by decide +kernel
theorem dX10_set_112 : decode cX10_set 112 = .ok (.iastore, 1) := by decide +kernel
theorem dX10_set_113 : decode cX10_set 113 = .ok (.iload 6, 2) := by decide +kernel
theorem dX10_set_115 : decode cX10_set 115 = .ok (.ireturn, 1) := by decide +kernel
theorem dX10_undo_0 : decode cX10_undo 0 = .ok (.aload_n 0, 1) := by decide +kernel
theorem dX10_undo_1 : decode cX10_undo 1 = .ok (.getfield 108, 3) := by decide +kernel
theorem dX10_undo_4 : decode cX10_undo 4 = .ok (.ifCond .ne 6, 3) := by decide +kernel
theorem dX10_undo_7 : decode cX10_undo 7 = .ok (.bipush (-3), 2) := by decide +kernel
theorem dX10_undo_9 : decode cX10_undo 9 = .ok (.ireturn, 1) := by decide +kernel
theorem dX10_undo_10 : decode cX10_undo 10 = .ok (.aload_n 0, 1) := by decide +kernel
theorem dX10_undo_11 : decode cX10_undo 11 = .ok (.dup, 1) := by decide +kernel
theorem dX10_undo_12 : decode cX10_undo 12 = .ok (.getfield 108, 3) := by decide +kernel
theorem dX10_undo_15 : decode cX10_undo 15 = .ok (.iconst 1, 1) := by decide +kernel
theorem dX10_undo_16 : decode cX10_undo 16 = .ok (.isub, 1) := by decide +kernel
theorem dX10_undo_17 : decode cX10_undo 17 = .ok (.putfield 108, 3) := by decide +kernel
theorem dX10_undo_20 : decode cX10_undo 20 = .ok (.aload_n 0, 1) := by decide +kernel
theorem dX10_undo_21 : decode cX10_undo 21 = .ok (.aload_n 0, 1) := by decide +kernel
theorem dX10_undo_22 : decode cX10_undo 22 = .ok (.getfield 172, 3) := by decide +kernel
theorem dX10_undo_25 : decode cX10_undo 25 = .ok (.bipush 14, 2) := by decide +kernel
theorem dX10_undo_27 : decode cX10_undo 27 = .ok (.iadd, 1) := by decide +kernel
theorem dX10_undo_28 : decode cX10_undo 28 = .ok (.iconst 1, 1) := by decide +kernel
theorem dX10_undo_29 : decode cX10_undo 29 = .ok (.isub, 1) := by decide +kernel
theorem dX10_undo_30 : decode cX10_undo 30 = .ok (.bipush 14, 2) := by decide +kernel
theorem dX10_undo_32 : decode cX10_undo 32 = .ok (.irem, 1) := by decide +kernel
theorem dX10_undo_33 : decode cX10_undo 33 = .ok (.putfield 172, 3) := by decide +kernel
theorem dX10_undo_36 : decode cX10_undo 36 = .ok (.iconst 0, 1) := by decide +kernel
theorem dX10_undo_37 : decode cX10_undo 37 = .ok (.istore_n 1, 1) := by decide +kernel
theorem dX10_undo_38 : decode cX10_undo 38 = .ok (.iload_n 1, 1) := by decide +kernel
theorem dX10_undo_39 : decode cX10_undo 39 = .ok (.bipush 33, 2) := by decide +kernel
theorem dX10_undo_41 : decode cX10_undo 41 = .ok (.if_icmp .ge 29, 3) := by decide +kernel
theorem dX10_undo_44 : decode cX10_undo 44 = .ok (.aload_n 0, 1) := by decide +kernel
theorem dX10_undo_45 : decode cX10_undo 45 = .ok (.getfield 13, 3) := by decide +kernel
theorem dX10_undo_48 : decode cX10_undo 48 = .ok (.iload_n 1, 1) := by decide +kernel
theorem dX10_undo_49 : decode cX10_undo 49 = .ok (.aload_n 0, 1) := by decide +kernel
theorem dX10_undo_50 : decode cX10_undo 50 = .ok (.getfield 19, 3) := by decide +kernel
theorem dX10_undo_53 : decode cX10_undo 53 = .ok (.bipush 33, 2) := by decide +kernel
theorem dX10_undo_55 : decode cX10_undo 55 = .ok (.aload_n 0, 1) := by decide +kernel
theorem dX10_undo_56 : decode cX10_undo 56 = .ok (.getfield 172, 3) := by decide +kernel
theorem dX10_undo_59 : decode cX10_undo 59 = .ok (.imul, 1) := by decide +kernel
theorem dX10_undo_60 : decode cX10_undo 60 = .ok (.iload_n 1, 1) := by decide +kernel
theorem dX10_undo_61 : decode cX10_undo 61 = .ok (.iadd, 1) := by decide +kernel
theorem dX10_undo_62 : decode cX10_undo 62 = .ok (.iaload, 1) := by decide +kernel
theorem dX10_undo_63 : decode cX10_undo 63 = .ok (.iastore, 1) := by decide +kernel
theorem dX10_undo_64 : decode cX10_undo 64 = .ok (.iinc 1 1, 3) := by decide +kernel
theorem dX10_undo_67 : decode cX10_undo 67 = .ok (.goto (-29), 3) := by decide +kernel
theorem dX10_undo_70 : decode cX10_undo 70 = .ok (.aload_n 0, 1) := by decide +kernel
theorem dX10_undo_71 : decode cX10_undo 71 = .ok (.getfield 108, 3) := by decide +kernel
theorem dX10_undo_74 : decode cX10_undo 74 = .ok (.ireturn, 1) := by decide +kernel
theorem dX10_layMany_0 : decode cX10_layMany 0 = .ok (.aload_n 0, 1) := by decide +kernel
theorem dX10_layMany_1 : decode cX10_layMany 1 = .ok (.getfield 13, 3) := by decide +kernel
theorem dX10_layMany_4 : decode cX10_layMany 4 = .ok (.iconst 1, 1) := by decide +kernel
theorem dX10_layMany_5 : decode cX10_layMany 5 = .ok (.iload_n 1, 1) := by decide +kernel
theorem dX10_layMany_6 : decode cX10_layMany 6 = .ok (.iadd, 1) := by decide +kernel
theorem dX10_layMany_7 : decode cX10_layMany 7 = .ok (.iaload, 1) := by decide +kernel
theorem dX10_layMany_8 : decode cX10_layMany 8 = .ok (.istore_n 2, 1) := by decide +kernel
theorem dX10_layMany_9 : decode cX10_layMany 9 = .ok (.aload_n 0, 1) := by decide +kernel
theorem dX10_layMany_10 : decode cX10_layMany 10 = .ok (.getfield 13, 3) := by decide +kernel
theorem dX10_layMany_13 : decode cX10_layMany 13 = .ok (.bipush 9, 2) := by decide +kernel
theorem dX10_layMany_15 : decode cX10_layMany 15 = .ok (.iload_n 1, 1) := by decide +kernel
theorem dX10_layMany_16 : decode cX10_layMany 16 = .ok (.iadd, 1) := by decide +kernel
theorem dX10_layMany_17 : decode cX10_layMany 17 = .ok (.iaload, 1) := by decide +kernel
theorem dX10_layMany_18 : decode cX10_layMany 18 = .ok (.istore_n 3, 1) := by decide +kernel
theorem dX10_layMany_19 : decode cX10_layMany 19 = .ok (.iconst 0, 1) := by decide +kernel
theorem dX10_layMany_20 : decode cX10_layMany 20 = .ok (.istore 4, 2) := by decide +kernel
theorem dX10_layMany_22 : decode cX10_layMany 22 = .ok (.iload 4, 2) := by decide +kernel
theorem dX10_layMany_24 : decode cX10_layMany 24 = .ok (.bipush 60, 2) := by decide +kernel
theorem dX10_layMany_26 : decode cX10_layMany 26 = .ok (.if_icmp .gt 54, 3) := by decide +kernel
theorem dX10_layMany_29 : decode cX10_layMany 29 = .ok (.aload_n 0, 1) := by decide +kernel
theorem dX10_layMany_30 : decode cX10_layMany 30 = .ok (.getfield 50, 3) := by decide +kernel
theorem dX10_layMany_33 : decode cX10_layMany 33 = .ok (.iload 4, 2) := by decide +kernel
theorem dX10_layMany_35 : decode cX10_layMany 35 = .ok (.lconst 1, 1) := by decide +kernel
theorem dX10_layMany_36 : decode cX10_layMany 36 = .ok (.lastore, 1) := by decide +kernel
theorem dX10_layMany_37 : decode cX10_layMany 37 = .ok (.iload 4, 2) := by decide +kernel
theorem dX10_layMany_39 : decode cX10_layMany 39 = .ok (.iload_n 2, 1) := by decide +kernel
theorem dX10_layMany_40 : decode cX10_layMany 40 = .ok (.isub, 1) := by decide +kernel
theorem dX10_layMany_41 : decode cX10_layMany 41 = .ok (.istore 5, 2) := by decide +kernel
theorem dX10_layMany_43 : decode cX10_layMany 43 = .ok (.iload 5, 2) := by decide +kernel
theorem dX10_layMany_45 : decode cX10_layMany 45 = .ok (.ifCond .lt 29, 3) := by decide +kernel
theorem dX10_layMany_48 : decode cX10_layMany 48 = .ok (.aload_n 0, 1) := by decide +kernel
theorem dX10_layMany_49 : decode cX10_layMany 49 = .ok (.getfield 50, 3) := by decide +kernel
theorem dX10_layMany_52 : decode cX10_layMany 52 = .ok (.iload 4, 2) := by decide +kernel
theorem dX10_layMany_54 : decode cX10_layMany 54 = .ok (.dup2, 1) := by decide +kernel
theorem dX10_layMany_55 : decode cX10_layMany 55 = .ok (.laload, 1) := by decide +kernel
theorem dX10_layMany_56 : decode cX10_layMany 56 = .ok (.aload_n 0, 1) := by decide +kernel
theorem dX10_layMany_57 : decode cX10_layMany 57 = .ok (.getfield 50, 3) := by decide +kernel
theorem dX10_layMany_60 : decode cX10_layMany 60 = .ok (.iload 5, 2) := by decide +kernel
theorem dX10_layMany_62 : decode cX10_layMany 62 = .ok (.laload, 1) := by decide +kernel
theorem dX10_layMany_63 : decode cX10_layMany 63 = .ok (.ladd, 1) := by decide +kernel
theorem dX10_layMany_64 : decode cX10_layMany 64 = .ok (.lastore, 1) := by decide +kernel
theorem dX10_layMany_65 : decode cX10_layMany 65 = .ok (.iload 5, 2) := by decide +kernel
theorem dX10_layMany_67 : decode cX10_layMany 67 = .ok (.iload_n 3, 1) := by decide +kernel
theorem dX10_layMany_68 : decode cX10_layMany 68 = .ok (.isub, 1) := by decide +kernel
theorem dX10_layMany_69 : decode cX10_layMany 69 = .ok (.istore 5, 2) := by decide +kernel
theorem dX10_layMany_71 : decode cX10_layMany 71 = .ok (.goto (-28), 3) := by decide +kernel
theorem dX10_layMany_74 : decode cX10_layMany 74 = .ok (.iinc 4 1, 3) := by decide +kernel
theorem dX10_layMany_77 : decode cX10_layMany 77 = .ok (.goto (-55), 3) := by decide +kernel
theorem dX10_layMany_80 : decode cX10_layMany 80 = .ok (.return_, 1) := by decide +kernel
theorem dX10_number_0 : decode cX10_number 0 = .ok (.aload_n 0, 1) := by decide +kernel
theorem dX10_number_1 : decode cX10_number 1 = .ok (.iload_n 1, 1) := by decide +kernel
theorem dX10_number_2 : decode cX10_number 2 = .ok (.invokevirtual 156, 3) := by decide +kernel
theorem dX10_number_5 : decode cX10_number 5 = .ok (.ifCond .ne 7, 3) := by decide +kernel
theorem dX10_number_8 : decode cX10_number 8 = .ok (.ldc2_w 201, 3) := by decide +kernel
theorem dX10_number_11 : decode cX10_number 11 = .ok (.lreturn, 1) := by decide +kernel
theorem dX10_number_12 : decode cX10_number 12 = .ok (.iload_n 2, 1) := by decide +kernel
theorem dX10_number_13 : decode cX10_number 13 = .ok (.i2l, 1) := by decide +kernel
theorem dX10_number_14 : decode cX10_number 14 = .ok (.lconst 0, 1) := by decide +kernel
theorem dX10_number_15 : decode cX10_number 15 = .ok (.ldc2_w 203, 3) := by decide +kernel
theorem dX10_number_18 : decode cX10_number 18 = .ok (.invokestatic 61, 3) := by decide +kernel
theorem dX10_number_21 : decode cX10_number 21 = .ok (.ifCond .ne 7, 3) := by decide +kernel
theorem dX10_number_24 : decode cX10_number 24 = .ok (.ldc2_w 205, 3) := by decide +kernel
theorem dX10_number_27 : decode cX10_number 27 = .ok (.lreturn, 1) := by decide +kernel
theorem dX10_number_28 : decode cX10_number 28 = .ok (.aload_n 0, 1) := by decide +kernel
theorem dX10_number_29 : decode cX10_number 29 = .ok (.iload_n 1, 1) := by decide +kernel
theorem dX10_number_30 : decode cX10_number 30 = .ok (.invokevirtual 207, 3) := by decide +kernel
theorem dX10_number_33 : decode cX10_number 33 = .ok (.aload_n 0, 1) := by decide +kernel
theorem dX10_number_34 : decode cX10_number 34 = .ok (.getfield 50, 3) := by decide +kernel
theorem dX10_number_37 : decode cX10_number 37 = .ok (.iload_n 2, 1) := by decide +kernel
theorem dX10_number_38 : decode cX10_number 38 = .ok (.laload, 1) := by decide +kernel
theorem dX10_number_39 : decode cX10_number 39 = .ok (.lreturn, 1) := by decide +kernel
theorem dX10_soon_0 : decode cX10_soon 0 = .ok (.aload_n 0, 1) := by decide +kernel
theorem dX10_soon_1 : decode cX10_soon 1 = .ok (.iload_n 1, 1) := by decide +kernel
theorem dX10_soon_2 : decode cX10_soon 2 = .ok (.invokevirtual 156, 3) := by decide +kernel
theorem dX10_soon_5 : decode cX10_soon 5 = .ok (.ifCond .ne 5, 3) := by decide +kernel
theorem dX10_soon_8 : decode cX10_soon 8 = .ok (.iconst (-1), 1) := by decide +kernel
theorem dX10_soon_9 : decode cX10_soon 9 = .ok (.ireturn, 1) := by decide +kernel
theorem dX10_soon_10 : decode cX10_soon 10 = .ok (.iload_n 2, 1) := by decide +kernel
theorem dX10_soon_11 : decode cX10_soon 11 = .ok (.i2l, 1) := by decide +kernel
theorem dX10_soon_12 : decode cX10_soon 12 = .ok (.lconst 1, 1) := by decide +kernel
theorem dX10_soon_13 : decode cX10_soon 13 = .ok (.ldc2_w 211, 3) := by decide +kernel
theorem dX10_soon_16 : decode cX10_soon 16 = .ok (.invokestatic 61, 3) := by decide +kernel
theorem dX10_soon_19 : decode cX10_soon 19 = .ok (.ifCond .ne 6, 3) := by decide +kernel
theorem dX10_soon_22 : decode cX10_soon 22 = .ok (.bipush (-2), 2) := by decide +kernel
theorem dX10_soon_24 : decode cX10_soon 24 = .ok (.ireturn, 1) := by decide +kernel
theorem dX10_soon_25 : decode cX10_soon 25 = .ok (.aload_n 0, 1) := by decide +kernel
theorem dX10_soon_26 : decode cX10_soon 26 = .ok (.iload_n 1, 1) := by decide +kernel
theorem dX10_soon_27 : decode cX10_soon 27 = .ok (.invokevirtual 207, 3) := by decide +kernel
theorem dX10_soon_30 : decode cX10_soon 30 = .ok (.iconst 0, 1) := by decide +kernel
theorem dX10_soon_31 : decode cX10_soon 31 = .ok (.istore_n 3, 1) := by decide +kernel
theorem dX10_soon_32 : decode cX10_soon 32 = .ok (.iload_n 3, 1) := by decide +kernel
theorem dX10_soon_33 : decode cX10_soon 33 = .ok (.bipush 60, 2) := by decide +kernel
theorem dX10_soon_35 : decode cX10_soon 35 = .ok (.if_icmp .gt 23, 3) := by decide +kernel
theorem dX10_soon_38 : decode cX10_soon 38 = .ok (.aload_n 0, 1) := by decide +kernel
theorem dX10_soon_39 : decode cX10_soon 39 = .ok (.getfield 50, 3) := by decide +kernel
theorem dX10_soon_42 : decode cX10_soon 42 = .ok (.iload_n 3, 1) := by decide +kernel
theorem dX10_soon_43 : decode cX10_soon 43 = .ok (.laload, 1) := by decide +kernel
theorem dX10_soon_44 : decode cX10_soon 44 = .ok (.iload_n 2, 1) := by decide +kernel
theorem dX10_soon_45 : decode cX10_soon 45 = .ok (.i2l, 1) := by decide +kernel
theorem dX10_soon_46 : decode cX10_soon 46 = .ok (.lcmp, 1) := by decide +kernel
theorem dX10_soon_47 : decode cX10_soon 47 = .ok (.ifCond .lt 5, 3) := by decide +kernel
theorem dX10_soon_50 : decode cX10_soon 50 = .ok (.iload_n 3, 1) := by decide +kernel
theorem dX10_soon_51 : decode cX10_soon 51 = .ok (.ireturn, 1) := by decide +kernel
theorem dX10_soon_52 : decode cX10_soon 52 = .ok (.iinc 3 1, 3) := by decide +kernel
theorem dX10_soon_55 : decode cX10_soon 55 = .ok (.goto (-23), 3) := by decide +kernel
theorem dX10_soon_58 : decode cX10_soon 58 = .ok (.bipush (-9), 2) := by decide +kernel
theorem dX10_soon_60 : decode cX10_soon 60 = .ok (.ireturn, 1) := by decide +kernel
theorem dX10_knowers_0 : decode cX10_knowers 0 = .ok (.iload_n 1, 1) := by decide +kernel
theorem dX10_knowers_1 : decode cX10_knowers 1 = .ok (.i2l, 1) := by decide +kernel
theorem dX10_knowers_2 : decode cX10_knowers 2 = .ok (.lconst 0, 1) := by decide +kernel
theorem dX10_knowers_3 : decode cX10_knowers 3 = .ok (.aload_n 0, 1) := by decide +kernel
theorem dX10_knowers_4 : decode cX10_knowers 4 = .ok (.getfield 13, 3) := by decide +kernel
theorem dX10_knowers_7 : decode cX10_knowers 7 = .ok (.iconst 0, 1) := by decide +kernel
theorem dX10_knowers_8 : decode cX10_knowers 8 = .ok (.iaload, 1) := by decide +kernel
theorem dX10_knowers_9 : decode cX10_knowers 9 = .ok (.iconst 1, 1) := by decide +kernel
theorem dX10_knowers_10 : decode cX10_knowers 10 = .ok (.isub, 1) := by decide +kernel
theorem dX10_knowers_11 : decode cX10_knowers 11 = .ok (.i2l, 1) := by decide +kernel
theorem dX10_knowers_12 : decode cX10_knowers 12 = .ok (.invokestatic 61, 3) := by decide +kernel
theorem dX10_knowers_15 : decode cX10_knowers 15 = .ok (.ifCond .ne 5, 3) := by decide +kernel
theorem dX10_knowers_18 : decode cX10_knowers 18 = .ok (.iconst (-1), 1) := by decide +kernel
theorem dX10_knowers_19 : decode cX10_knowers 19 = .ok (.ireturn, 1) := by decide +kernel
theorem dX10_knowers_20 : decode cX10_knowers 20 = .ok (.iload_n 2, 1) := by decide +kernel
theorem dX10_knowers_21 : decode cX10_knowers 21 = .ok (.i2l, 1) := by decide +kernel
theorem dX10_knowers_22 : decode cX10_knowers 22 = .ok (.lconst 0, 1) := by decide +kernel
theorem dX10_knowers_23 : decode cX10_knowers 23 = .ok (.ldc2_w 213, 3) := by decide +kernel
theorem dX10_knowers_26 : decode cX10_knowers 26 = .ok (.invokestatic 61, 3) := by decide +kernel
theorem dX10_knowers_29 : decode cX10_knowers 29 = .ok (.ifCond .ne 6, 3) := by decide +kernel
theorem dX10_knowers_32 : decode cX10_knowers 32 = .ok (.bipush (-2), 2) := by decide +kernel
theorem dX10_knowers_34 : decode cX10_knowers 34 = .ok (.ireturn, 1) := by decide +kernel
theorem dX10_knowers_35 : decode cX10_knowers 35 = .ok (.aload_n 0, 1) := by decide +kernel
theorem dX10_knowers_36 : decode cX10_knowers 36 = .ok (.aload_n 0, 1) := by decide +kernel
theorem dX10_knowers_37 : decode cX10_knowers 37 = .ok (.getfield 13, 3) := by decide +kernel
theorem dX10_knowers_40 : decode cX10_knowers 40 = .ok (.invokevirtual 119, 3) := by decide +kernel
theorem dX10_knowers_43 : decode cX10_knowers 43 = .ok (.iconst 0, 1) := by decide +kernel
theorem dX10_knowers_44 : decode cX10_knowers 44 = .ok (.istore_n 3, 1) := by decide +kernel
theorem dX10_knowers_45 : decode cX10_knowers 45 = .ok (.iconst 0, 1) := by decide +kernel
theorem dX10_knowers_46 : decode cX10_knowers 46 = .ok (.istore 4, 2) := by decide +kernel
theorem dX10_knowers_48 : decode cX10_knowers 48 = .ok (.iload 4, 2) := by decide +kernel
theorem dX10_knowers_50 : decode cX10_knowers 50 = .ok (.aload_n 0, 1) := by decide +kernel
theorem dX10_knowers_51 : decode cX10_knowers 51 = .ok (.getfield 57, 3) := by decide +kernel
theorem dX10_knowers_54 : decode cX10_knowers 54 = .ok (.if_icmp .ge 35, 3) := by decide +kernel
theorem dX10_knowers_57 : decode cX10_knowers 57 = .ok (.iload_n 3, 1) := by decide +kernel
theorem dX10_knowers_58 : decode cX10_knowers 58 = .ok (.aload_n 0, 1) := by decide +kernel
theorem dX10_knowers_59 : decode cX10_knowers 59 = .ok (.getfield 35, 3) := by decide +kernel
theorem dX10_knowers_62 : decode cX10_knowers 62 = .ok (.iconst 3, 1) := by decide +kernel
theorem dX10_knowers_63 : decode cX10_knowers 63 = .ok (.iload 4, 2) := by decide +kernel
theorem dX10_knowers_65 : decode cX10_knowers 65 = .ok (.imul, 1) := by decide +kernel
theorem dX10_knowers_66 : decode cX10_knowers 66 = .ok (.iload_n 1, 1) := by decide +kernel
theorem dX10_knowers_67 : decode cX10_knowers 67 = .ok (.iadd, 1) := by decide +kernel
theorem dX10_knowers_68 : decode cX10_knowers 68 = .ok (.iaload, 1) := by decide +kernel
theorem dX10_knowers_69 : decode cX10_knowers 69 = .ok (.iload_n 2, 1) := by decide +kernel
theorem dX10_knowers_70 : decode cX10_knowers 70 = .ok (.if_icmp .gt 10, 3) := by decide +kernel
theorem dX10_knowers_73 : decode cX10_knowers 73 = .ok (.iconst 1, 1) := by decide +kernel
theorem dX10_knowers_74 : decode cX10_knowers 74 = .ok (.iload 4, 2) := by decide +kernel
theorem dX10_knowers_76 : decode cX10_knowers 76 = .ok (.ishl, 1) := by decide +kernel
theorem dX10_knowers_77 : decode cX10_knowers 77 = .ok (.goto 4, 3) := by decide +kernel
theorem dX10_knowers_80 : decode cX10_knowers 80 = .ok (.iconst 0, 1) := by decide +kernel
theorem dX10_knowers_81 : decode cX10_knowers 81 = .ok (.ior, 1) := by decide +kernel
theorem dX10_knowers_82 : decode cX10_knowers 82 = .ok (.istore_n 3, 1) := by decide +kernel
theorem dX10_knowers_83 : decode cX10_knowers 83 = .ok (.iinc 4 1, 3) := by decide +kernel
theorem dX10_knowers_86 : decode cX10_knowers 86 = .ok (.goto (-38), 3) := by decide +kernel
theorem dX10_knowers_89 : decode cX10_knowers 89 = .ok (.iload_n 3, 1) := by decide +kernel
theorem dX10_knowers_90 : decode cX10_knowers 90 = .ok (.ireturn, 1) := by decide +kernel
theorem dX10_judged_0 : decode cX10_judged 0 = .ok (.iload_n 1, 1) := by decide +kernel
theorem dX10_judged_1 : decode cX10_judged 1 = .ok (.tableswitch 254 1 7 #[43, 90, 125, 145, 170, 193, 227], 43) := by decide +kernel
theorem dX10_judged_44 : decode cX10_judged 44 = .ok (.aload_n 0, 1) := by decide +kernel
theorem dX10_judged_45 : decode cX10_judged 45 = .ok (.iload_n 2, 1) := by decide +kernel
theorem dX10_judged_46 : decode cX10_judged 46 = .ok (.invokevirtual 156, 3) := by decide +kernel
theorem dX10_judged_49 : decode cX10_judged 49 = .ok (.ifCond .eq 28, 3) := by decide +kernel
theorem dX10_judged_52 : decode cX10_judged 52 = .ok (.iload_n 2, 1) := by decide +kernel
theorem dX10_judged_53 : decode cX10_judged 53 = .ok (.ifCond .eq 24, 3) := by decide +kernel
theorem dX10_judged_56 : decode cX10_judged 56 = .ok (.aload_n 0, 1) := by decide +kernel
theorem dX10_judged_57 : decode cX10_judged 57 = .ok (.iload_n 3, 1) := by decide +kernel
theorem dX10_judged_58 : decode cX10_judged 58 = .ok (.invokevirtual 156, 3) := by decide +kernel
theorem dX10_judged_61 : decode cX10_judged 61 = .ok (.ifCond .eq 16, 3) := by decide +kernel
theorem dX10_judged_64 : decode cX10_judged 64 = .ok (.aload_n 0, 1) := by decide +kernel
theorem dX10_judged_65 : decode cX10_judged 65 = .ok (.aload_n 0, 1) := by decide +kernel
theorem dX10_judged_66 : decode cX10_judged 66 = .ok (.getfield 16, 3) := by decide +kernel
theorem dX10_judged_69 : decode cX10_judged 69 = .ok (.iload_n 2, 1) := by decide +kernel
theorem dX10_judged_70 : decode cX10_judged 70 = .ok (.iload_n 3, 1) := by decide +kernel
theorem dX10_judged_71 : decode cX10_judged 71 = .ok (.invokevirtual 178, 3) := by decide +kernel
theorem dX10_judged_74 : decode cX10_judged 74 = .ok (.ifCond .ne 5, 3) := by decide +kernel
theorem dX10_judged_77 : decode cX10_judged 77 = .ok (.iconst 0, 1) := by decide +kernel
theorem dX10_judged_78 : decode cX10_judged 78 = .ok (.ireturn, 1) := by decide +kernel
theorem dX10_judged_79 : decode cX10_judged 79 = .ok (.aload_n 0, 1) := by decide +kernel
theorem dX10_judged_80 : decode cX10_judged 80 = .ok (.aload_n 0, 1) := by decide +kernel
theorem dX10_judged_81 : decode cX10_judged 81 = .ok (.getfield 16, 3) := by decide +kernel
theorem dX10_judged_84 : decode cX10_judged 84 = .ok (.iload_n 2, 1) := by decide +kernel
theorem dX10_judged_85 : decode cX10_judged 85 = .ok (.iload_n 3, 1) := by decide +kernel
theorem dX10_judged_86 : decode cX10_judged 86 = .ok (.invokevirtual 185, 3) := by decide +kernel
theorem dX10_judged_89 : decode cX10_judged 89 = .ok (.iconst 1, 1) := by decide +kernel
theorem dX10_judged_90 : decode cX10_judged 90 = .ok (.ireturn, 1) := by decide +kernel
theorem dX10_judged_91 : decode cX10_judged 91 = .ok (.iload_n 2, 1) := by decide +kernel
theorem dX10_judged_92 : decode cX10_judged 92 = .ok (.ifCond .ne 22, 3) := by decide +kernel
theorem dX10_judged_95 : decode cX10_judged 95 = .ok (.aload_n 0, 1) := by decide +kernel
theorem dX10_judged_96 : decode cX10_judged 96 = .ok (.iload_n 3, 1) := by decide +kernel
theorem dX10_judged_97 : decode cX10_judged 97 = .ok (.invokevirtual 189, 3) := by decide +kernel
theorem dX10_judged_100 : decode cX10_judged 100 = .ok (.ifCond .eq 14, 3) := by decide +kernel
theorem dX10_judged_103 : decode cX10_judged 103 = .ok (.aload_n 0, 1) := by decide +kernel
theorem dX10_judged_104 : decode cX10_judged 104 = .ok (.getfield 16, 3) := by decide +kernel
theorem dX10_judged_107 : decode cX10_judged 107 = .ok (.iload_n 3, 1) := by decide +kernel
theorem dX10_judged_108 : decode cX10_judged 108 = .ok (.invokestatic 192, 3) := by decide +kernel
theorem dX10_judged_111 : decode cX10_judged 111 = .ok (.ifCond .ne 5, 3) := by decide +kernel
theorem dX10_judged_114 : decode cX10_judged 114 = .ok (.iconst 0, 1) := by decide +kernel
theorem dX10_judged_115 : decode cX10_judged 115 = .ok (.ireturn, 1) := by decide +kernel
theorem dX10_judged_116 : decode cX10_judged 116 = .ok (.aload_n 0, 1) := by decide +kernel
theorem dX10_judged_117 : decode cX10_judged 117 = .ok (.getfield 16, 3) := by decide +kernel
theorem dX10_judged_120 : decode cX10_judged 120 = .ok (.iload_n 3, 1) := by decide +kernel
theorem dX10_judged_121 : decode cX10_judged 121 = .ok (.invokestatic 196, 3) := by decide +kernel
theorem dX10_judged_124 : decode cX10_judged 124 = .ok (.iconst 1, 1) := by decide +kernel
theorem dX10_judged_125 : decode cX10_judged 125 = .ok (.ireturn, 1) := by decide +kernel
theorem dX10_judged_126 : decode cX10_judged 126 = .ok (.iload_n 2, 1) := by decide +kernel
theorem dX10_judged_127 : decode cX10_judged 127 = .ok (.ifCond .ne 7, 3) := by decide +kernel
theorem dX10_judged_130 : decode cX10_judged 130 = .ok (.iload_n 3, 1) := by decide +kernel
theorem dX10_judged_131 : decode cX10_judged 131 = .ok (.ifCond .eq 5, 3) := by decide +kernel
theorem dX10_judged_134 : decode cX10_judged 134 = .ok (.iconst 0, 1) := by decide +kernel
theorem dX10_judged_135 : decode cX10_judged 135 = .ok (.ireturn, 1) := by decide +kernel
theorem dX10_judged_136 : decode cX10_judged 136 = .ok (.aload_n 0, 1) := by decide +kernel
theorem dX10_judged_137 : decode cX10_judged 137 = .ok (.aload_n 0, 1) := by decide +kernel
theorem dX10_judged_138 : decode cX10_judged 138 = .ok (.getfield 16, 3) := by decide +kernel
theorem dX10_judged_141 : decode cX10_judged 141 = .ok (.invokevirtual 147, 3) := by decide +kernel
theorem dX10_judged_144 : decode cX10_judged 144 = .ok (.iconst 1, 1) := by decide +kernel
theorem dX10_judged_145 : decode cX10_judged 145 = .ok (.ireturn, 1) := by decide +kernel
theorem dX10_judged_146 : decode cX10_judged 146 = .ok (.aload_n 0, 1) := by decide +kernel
theorem dX10_judged_147 : decode cX10_judged 147 = .ok (.iload_n 2, 1) := by decide +kernel
theorem dX10_judged_148 : decode cX10_judged 148 = .ok (.invokevirtual 156, 3) := by decide +kernel
theorem dX10_judged_151 : decode cX10_judged 151 = .ok (.ifCond .eq 7, 3) := by decide +kernel
theorem dX10_judged_154 : decode cX10_judged 154 = .ok (.iload_n 3, 1) := by decide +kernel
theorem dX10_judged_155 : decode cX10_judged 155 = .ok (.ifCond .ne 5, 3) := by decide +kernel
theorem dX10_judged_158 : decode cX10_judged 158 = .ok (.iconst 0, 1) := by decide +kernel
theorem dX10_judged_159 : decode cX10_judged 159 = .ok (.ireturn, 1) := by decide +kernel
theorem dX10_judged_160 : decode cX10_judged 160 = .ok (.aload_n 0, 1) := by decide +kernel
theorem dX10_judged_161 : decode cX10_judged 161 = .ok (.getfield 16, 3) := by decide +kernel
theorem dX10_judged_164 : decode cX10_judged 164 = .ok (.iconst 1, 1) := by decide +kernel
theorem dX10_judged_165 : decode cX10_judged 165 = .ok (.iload_n 2, 1) := by decide +kernel
theorem dX10_judged_166 : decode cX10_judged 166 = .ok (.iadd, 1) := by decide +kernel
theorem dX10_judged_167 : decode cX10_judged 167 = .ok (.iload_n 3, 1) := by decide +kernel
theorem dX10_judged_168 : decode cX10_judged 168 = .ok (.iastore, 1) := by decide +kernel
theorem dX10_judged_169 : decode cX10_judged 169 = .ok (.iconst 1, 1) := by decide +kernel
theorem dX10_judged_170 : decode cX10_judged 170 = .ok (.ireturn, 1) := by decide +kernel
theorem dX10_judged_171 : decode cX10_judged 171 = .ok (.aload_n 0, 1) := by decide +kernel
theorem dX10_judged_172 : decode cX10_judged 172 = .ok (.aload_n 0, 1) := by decide +kernel
theorem dX10_judged_173 : decode cX10_judged 173 = .ok (.getfield 16, 3) := by decide +kernel
theorem dX10_judged_176 : decode cX10_judged 176 = .ok (.invokevirtual 111, 3) := by decide +kernel
theorem dX10_judged_179 : decode cX10_judged 179 = .ok (.bipush 10, 2) := by decide +kernel
theorem dX10_judged_181 : decode cX10_judged 181 = .ok (.iload_n 2, 1) := by decide +kernel
theorem dX10_judged_182 : decode cX10_judged 182 = .ok (.imul, 1) := by decide +kernel
theorem dX10_judged_183 : decode cX10_judged 183 = .ok (.iload_n 3, 1) := by decide +kernel
theorem dX10_judged_184 : decode cX10_judged 184 = .ok (.iadd, 1) := by decide +kernel
theorem dX10_judged_185 : decode cX10_judged 185 = .ok (.if_icmp .ne 7, 3) := by decide +kernel
theorem dX10_judged_188 : decode cX10_judged 188 = .ok (.iconst 1, 1) := by decide +kernel
theorem dX10_judged_189 : decode cX10_judged 189 = .ok (.goto 4, 3) := by decide +kernel
theorem dX10_judged_192 : decode cX10_judged 192 = .ok (.iconst 0, 1) := by decide +kernel
theorem dX10_judged_193 : decode cX10_judged 193 = .ok (.ireturn, 1) := by decide +kernel
theorem dX10_judged_194 : decode cX10_judged 194 = .ok (.aload_n 0, 1) := by decide +kernel
theorem dX10_judged_195 : decode cX10_judged 195 = .ok (.aload_n 0, 1) := by decide +kernel
theorem dX10_judged_196 : decode cX10_judged 196 = .ok (.getfield 16, 3) := by decide +kernel
theorem dX10_judged_199 : decode cX10_judged 199 = .ok (.invokevirtual 119, 3) := by decide +kernel
theorem dX10_judged_202 : decode cX10_judged 202 = .ok (.aload_n 0, 1) := by decide +kernel
theorem dX10_judged_203 : decode cX10_judged 203 = .ok (.iload_n 2, 1) := by decide +kernel
theorem dX10_judged_204 : decode cX10_judged 204 = .ok (.invokevirtual 156, 3) := by decide +kernel
theorem dX10_judged_207 : decode cX10_judged 207 = .ok (.ifCond .eq 19, 3) := by decide +kernel
theorem dX10_judged_210 : decode cX10_judged 210 = .ok (.aload_n 0, 1) := by decide +kernel
theorem dX10_judged_211 : decode cX10_judged 211 = .ok (.getfield 35, 3) := by decide +kernel
theorem dX10_judged_214 : decode cX10_judged 214 = .ok (.iconst 3, 1) := by decide +kernel
theorem dX10_judged_215 : decode cX10_judged 215 = .ok (.iload_n 2, 1) := by decide +kernel
theorem dX10_judged_216 : decode cX10_judged 216 = .ok (.imul, 1) := by decide +kernel
theorem dX10_judged_217 : decode cX10_judged 217 = .ok (.iaload, 1) := by decide +kernel
theorem dX10_judged_218 : decode cX10_judged 218 = .ok (.iload_n 3, 1) := by decide +kernel
theorem dX10_judged_219 : decode cX10_judged 219 = .ok (.if_icmp .gt 7, 3) := by decide +kernel
theorem dX10_judged_222 : decode cX10_judged 222 = .ok (.iconst 1, 1) := by decide +kernel
theorem dX10_judged_223 : decode cX10_judged 223 = .ok (.goto 4, 3) := by decide +kernel
theorem dX10_judged_226 : decode cX10_judged 226 = .ok (.iconst 0, 1) := by decide +kernel
theorem dX10_judged_227 : decode cX10_judged 227 = .ok (.ireturn, 1) := by decide +kernel
theorem dX10_judged_228 : decode cX10_judged 228 = .ok (.aload_n 0, 1) := by decide +kernel
theorem dX10_judged_229 : decode cX10_judged 229 = .ok (.iload_n 2, 1) := by decide +kernel
theorem dX10_judged_230 : decode cX10_judged 230 = .ok (.invokevirtual 156, 3) := by decide +kernel
theorem dX10_judged_233 : decode cX10_judged 233 = .ok (.ifCond .eq 20, 3) := by decide +kernel
theorem dX10_judged_236 : decode cX10_judged 236 = .ok (.aload_n 0, 1) := by decide +kernel
theorem dX10_judged_237 : decode cX10_judged 237 = .ok (.aload_n 0, 1) := by decide +kernel
theorem dX10_judged_238 : decode cX10_judged 238 = .ok (.getfield 16, 3) := by decide +kernel
theorem dX10_judged_241 : decode cX10_judged 241 = .ok (.iload_n 2, 1) := by decide +kernel
theorem dX10_judged_242 : decode cX10_judged 242 = .ok (.invokevirtual 163, 3) := by decide +kernel
theorem dX10_judged_245 : decode cX10_judged 245 = .ok (.iload_n 3, 1) := by decide +kernel
theorem dX10_judged_246 : decode cX10_judged 246 = .ok (.if_icmp .ne 7, 3) := by decide +kernel
theorem dX10_judged_249 : decode cX10_judged 249 = .ok (.iconst 1, 1) := by decide +kernel
theorem dX10_judged_250 : decode cX10_judged 250 = .ok (.goto 4, 3) := by decide +kernel
theorem dX10_judged_253 : decode cX10_judged 253 = .ok (.iconst 0, 1) := by decide +kernel
theorem dX10_judged_254 : decode cX10_judged 254 = .ok (.ireturn, 1) := by decide +kernel
theorem dX10_judged_255 : decode cX10_judged 255 = .ok (.iconst 0, 1) := by decide +kernel
theorem dX10_judged_256 : decode cX10_judged 256 = .ok (.ireturn, 1) := by decide +kernel
theorem dX10_thousands_0 : decode cX10_thousands 0 = .ok (.lconst 1, 1) := by decide +kernel
theorem dX10_thousands_1 : decode cX10_thousands 1 = .ok (.lstore_n 1, 1) := by decide +kernel
theorem dX10_thousands_2 : decode cX10_thousands 2 = .ok (.iconst 0, 1) := by decide +kernel
theorem dX10_thousands_3 : decode cX10_thousands 3 = .ok (.istore_n 3, 1) := by decide +kernel
theorem dX10_thousands_4 : decode cX10_thousands 4 = .ok (.iload_n 3, 1) := by decide +kernel
theorem dX10_thousands_5 : decode cX10_thousands 5 = .ok (.iload_n 0, 1) := by decide +kernel
theorem dX10_thousands_6 : decode cX10_thousands 6 = .ok (.if_icmp .ge 15, 3) := by decide +kernel
theorem dX10_thousands_9 : decode cX10_thousands 9 = .ok (.lload_n 1, 1) := by decide +kernel
theorem dX10_thousands_10 : decode cX10_thousands 10 = .ok (.ldc2_w 215, 3) := by decide +kernel
theorem dX10_thousands_13 : decode cX10_thousands 13 = .ok (.lmul, 1) := by decide +kernel
theorem dX10_thousands_14 : decode cX10_thousands 14 = .ok (.lstore_n 1, 1) := by decide +kernel
theorem dX10_thousands_15 : decode cX10_thousands 15 = .ok (.iinc 3 1, 3) := by decide +kernel
theorem dX10_thousands_18 : decode cX10_thousands 18 = .ok (.goto (-14), 3) := by decide +kernel
theorem dX10_thousands_21 : decode cX10_thousands 21 = .ok (.lload_n 1, 1) := by decide +kernel
theorem dX10_thousands_22 : decode cX10_thousands 22 = .ok (.lreturn, 1) := by decide +kernel
theorem dX10_judge_0 : decode cX10_judge 0 = .ok (.iload_n 1, 1) := by decide +kernel
theorem dX10_judge_1 : decode cX10_judge 1 = .ok (.i2l, 1) := by decide +kernel
theorem dX10_judge_2 : decode cX10_judge 2 = .ok (.lconst 1, 1) := by decide +kernel
theorem dX10_judge_3 : decode cX10_judge 3 = .ok (.ldc2_w 217, 3) := by decide +kernel
theorem dX10_judge_6 : decode cX10_judge 6 = .ok (.invokestatic 61, 3) := by decide +kernel
theorem dX10_judge_9 : decode cX10_judge 9 = .ok (.ifCond .eq 17, 3) := by decide +kernel
theorem dX10_judge_12 : decode cX10_judge 12 = .ok (.lload_n 2, 1) := by decide +kernel
theorem dX10_judge_13 : decode cX10_judge 13 = .ok (.lconst 0, 1) := by decide +kernel
theorem dX10_judge_14 : decode cX10_judge 14 = .ok (.iload_n 1, 1) := by decide +kernel
theorem dX10_judge_15 : decode cX10_judge 15 = .ok (.invokestatic 219, 3) := by decide +kernel
theorem dX10_judge_18 : decode cX10_judge 18 = .ok (.lconst 1, 1) := by decide +kernel
theorem dX10_judge_19 : decode cX10_judge 19 = .ok (.lsub, 1) := by decide +kernel
theorem dX10_judge_20 : decode cX10_judge 20 = .ok (.invokestatic 61, 3) := by decide +kernel
theorem dX10_judge_23 : decode cX10_judge 23 = .ok (.ifCond .ne 6, 3) := by decide +kernel
theorem dX10_judge_26 : decode cX10_judge 26 = .ok (.bipush (-2), 2) := by decide +kernel
theorem dX10_judge_28 : decode cX10_judge 28 = .ok (.ireturn, 1) := by decide +kernel
theorem dX10_judge_29 : decode cX10_judge 29 = .ok (.aload_n 0, 1) := by decide +kernel
theorem dX10_judge_30 : decode cX10_judge 30 = .ok (.getfield 13, 3) := by decide +kernel
theorem dX10_judge_33 : decode cX10_judge 33 = .ok (.aload_n 0, 1) := by decide +kernel
theorem dX10_judge_34 : decode cX10_judge 34 = .ok (.getfield 16, 3) := by decide +kernel
theorem dX10_judge_37 : decode cX10_judge 37 = .ok (.invokestatic 104, 3) := by decide +kernel
theorem dX10_judge_40 : decode cX10_judge 40 = .ok (.iconst 0, 1) := by decide +kernel
theorem dX10_judge_41 : decode cX10_judge 41 = .ok (.istore 4, 2) := by decide +kernel
theorem dX10_judge_43 : decode cX10_judge 43 = .ok (.iload 4, 2) := by decide +kernel
theorem dX10_judge_45 : decode cX10_judge 45 = .ok (.iload_n 1, 1) := by decide +kernel
theorem dX10_judge_46 : decode cX10_judge 46 = .ok (.if_icmp .ge 55, 3) := by decide +kernel
theorem dX10_judge_49 : decode cX10_judge 49 = .ok (.lload_n 2, 1) := by decide +kernel
theorem dX10_judge_50 : decode cX10_judge 50 = .ok (.iload_n 1, 1) := by decide +kernel
theorem dX10_judge_51 : decode cX10_judge 51 = .ok (.iconst 1, 1) := by decide +kernel
theorem dX10_judge_52 : decode cX10_judge 52 = .ok (.isub, 1) := by decide +kernel
theorem dX10_judge_53 : decode cX10_judge 53 = .ok (.iload 4, 2) := by decide +kernel
theorem dX10_judge_55 : decode cX10_judge 55 = .ok (.isub, 1) := by decide +kernel
theorem dX10_judge_56 : decode cX10_judge 56 = .ok (.invokestatic 219, 3) := by decide +kernel
theorem dX10_judge_59 : decode cX10_judge 59 = .ok (.ldiv, 1) := by decide +kernel
theorem dX10_judge_60 : decode cX10_judge 60 = .ok (.ldc2_w 215, 3) := by decide +kernel
theorem dX10_judge_63 : decode cX10_judge 63 = .ok (.lrem, 1) := by decide +kernel
theorem dX10_judge_64 : decode cX10_judge 64 = .ok (.l2i, 1) := by decide +kernel
theorem dX10_judge_65 : decode cX10_judge 65 = .ok (.istore 5, 2) := by decide +kernel
theorem dX10_judge_67 : decode cX10_judge 67 = .ok (.aload_n 0, 1) := by decide +kernel
theorem dX10_judge_68 : decode cX10_judge 68 = .ok (.iload 5, 2) := by decide +kernel
theorem dX10_judge_70 : decode cX10_judge 70 = .ok (.bipush 100, 2) := by decide +kernel
theorem dX10_judge_72 : decode cX10_judge 72 = .ok (.idiv, 1) := by decide +kernel
theorem dX10_judge_73 : decode cX10_judge 73 = .ok (.iload 5, 2) := by decide +kernel
theorem dX10_judge_75 : decode cX10_judge 75 = .ok (.bipush 10, 2) := by decide +kernel
theorem dX10_judge_77 : decode cX10_judge 77 = .ok (.idiv, 1) := by decide +kernel
theorem dX10_judge_78 : decode cX10_judge 78 = .ok (.bipush 10, 2) := by decide +kernel
theorem dX10_judge_80 : decode cX10_judge 80 = .ok (.irem, 1) := by decide +kernel
theorem dX10_judge_81 : decode cX10_judge 81 = .ok (.iload 5, 2) := by decide +kernel
theorem dX10_judge_83 : decode cX10_judge 83 = .ok (.bipush 10, 2) := by decide +kernel
theorem dX10_judge_85 : decode cX10_judge 85 = .ok (.irem, 1) := by decide +kernel
theorem dX10_judge_86 : decode cX10_judge 86 = .ok (.invokevirtual 223, 3) := by decide +kernel
theorem dX10_judge_89 : decode cX10_judge 89 = .ok (.ifCond .ne 6, 3) := by decide +kernel
theorem dX10_judge_92 : decode cX10_judge 92 = .ok (.iload 4, 2) := by decide +kernel
theorem dX10_judge_94 : decode cX10_judge 94 = .ok (.ireturn, 1) := by decide +kernel
theorem dX10_judge_95 : decode cX10_judge 95 = .ok (.iinc 4 1, 3) := by decide +kernel
theorem dX10_judge_98 : decode cX10_judge 98 = .ok (.goto (-55), 3) := by decide +kernel
theorem dX10_judge_101 : decode cX10_judge 101 = .ok (.bipush (-9), 2) := by decide +kernel
theorem dX10_judge_103 : decode cX10_judge 103 = .ok (.ireturn, 1) := by decide +kernel
theorem dX10_see_0 : decode cX10_see 0 = .ok (.aload_n 0, 1) := by decide +kernel
theorem dX10_see_1 : decode cX10_see 1 = .ok (.iload_n 1, 1) := by decide +kernel
theorem dX10_see_2 : decode cX10_see 2 = .ok (.invokevirtual 156, 3) := by decide +kernel
theorem dX10_see_5 : decode cX10_see 5 = .ok (.ifCond .ne 5, 3) := by decide +kernel
theorem dX10_see_8 : decode cX10_see 8 = .ok (.iconst (-1), 1) := by decide +kernel
theorem dX10_see_9 : decode cX10_see 9 = .ok (.ireturn, 1) := by decide +kernel
theorem dX10_see_10 : decode cX10_see 10 = .ok (.iload_n 2, 1) := by decide +kernel
theorem dX10_see_11 : decode cX10_see 11 = .ok (.i2l, 1) := by decide +kernel
theorem dX10_see_12 : decode cX10_see 12 = .ok (.lconst 0, 1) := by decide +kernel
theorem dX10_see_13 : decode cX10_see 13 = .ok (.ldc2_w 227, 3) := by decide +kernel
theorem dX10_see_16 : decode cX10_see 16 = .ok (.invokestatic 61, 3) := by decide +kernel
theorem dX10_see_19 : decode cX10_see 19 = .ok (.ifCond .ne 6, 3) := by decide +kernel
theorem dX10_see_22 : decode cX10_see 22 = .ok (.bipush (-2), 2) := by decide +kernel
theorem dX10_see_24 : decode cX10_see 24 = .ok (.ireturn, 1) := by decide +kernel
theorem dX10_see_25 : decode cX10_see 25 = .ok (.aload_n 0, 1) := by decide +kernel
theorem dX10_see_26 : decode cX10_see 26 = .ok (.getfield 153, 3) := by decide +kernel
theorem dX10_see_29 : decode cX10_see 29 = .ok (.bipush 6, 2) := by decide +kernel
theorem dX10_see_31 : decode cX10_see 31 = .ok (.if_icmp .ne 6, 3) := by decide +kernel
theorem dX10_see_34 : decode cX10_see 34 = .ok (.bipush (-4), 2) := by decide +kernel
theorem dX10_see_36 : decode cX10_see 36 = .ok (.ireturn, 1) := by decide +kernel
theorem dX10_see_37 : decode cX10_see 37 = .ok (.aload_n 0, 1) := by decide +kernel
theorem dX10_see_38 : decode cX10_see 38 = .ok (.getfield 29, 3) := by decide +kernel
theorem dX10_see_41 : decode cX10_see 41 = .ok (.aload_n 0, 1) := by decide +kernel
theorem dX10_see_42 : decode cX10_see 42 = .ok (.getfield 153, 3) := by decide +kernel
theorem dX10_see_45 : decode cX10_see 45 = .ok (.iload_n 1, 1) := by decide +kernel
theorem dX10_see_46 : decode cX10_see 46 = .ok (.iastore, 1) := by decide +kernel
theorem dX10_see_47 : decode cX10_see 47 = .ok (.aload_n 0, 1) := by decide +kernel
theorem dX10_see_48 : decode cX10_see 48 = .ok (.getfield 32, 3) := by decide +kernel
theorem dX10_see_51 : decode cX10_see 51 = .ok (.aload_n 0, 1) := by decide +kernel
theorem dX10_see_52 : decode cX10_see 52 = .ok (.getfield 153, 3) := by decide +kernel
theorem dX10_see_55 : decode cX10_see 55 = .ok (.iload_n 2, 1) := by decide +kernel
theorem dX10_see_56 : decode cX10_see 56 = .ok (.iastore, 1) := by decide +kernel
theorem dX10_see_57 : decode cX10_see 57 = .ok (.aload_n 0, 1) := by decide +kernel
theorem dX10_see_58 : decode cX10_see 58 = .ok (.dup, 1) := by decide +kernel
theorem dX10_see_59 : decode cX10_see 59 = .ok (.getfield 153, 3) := by decide +kernel
theorem dX10_see_62 : decode cX10_see 62 = .ok (.iconst 1, 1) := by decide +kernel
theorem dX10_see_63 : decode cX10_see 63 = .ok (.iadd, 1) := by decide +kernel
theorem dX10_see_64 : decode cX10_see 64 = .ok (.putfield 153, 3) := by decide +kernel
theorem dX10_see_67 : decode cX10_see 67 = .ok (.aload_n 0, 1) := by decide +kernel
theorem dX10_see_68 : decode cX10_see 68 = .ok (.getfield 153, 3) := by decide +kernel
theorem dX10_see_71 : decode cX10_see 71 = .ok (.ireturn, 1) := by decide +kernel
theorem dX10_unsee_0 : decode cX10_unsee 0 = .ok (.aload_n 0, 1) := by decide +kernel
theorem dX10_unsee_1 : decode cX10_unsee 1 = .ok (.getfield 153, 3) := by decide +kernel
theorem dX10_unsee_4 : decode cX10_unsee 4 = .ok (.istore_n 1, 1) := by decide +kernel
theorem dX10_unsee_5 : decode cX10_unsee 5 = .ok (.aload_n 0, 1) := by decide +kernel
theorem dX10_unsee_6 : decode cX10_unsee 6 = .ok (.iconst 0, 1) := by decide +kernel
theorem dX10_unsee_7 : decode cX10_unsee 7 = .ok (.putfield 153, 3) := by decide +kernel
theorem dX10_unsee_10 : decode cX10_unsee 10 = .ok (.iload_n 1, 1) := by decide +kernel
theorem dX10_unsee_11 : decode cX10_unsee 11 = .ok (.ireturn, 1) := by decide +kernel
theorem dX10_which_0 : decode cX10_which 0 = .ok (.aload_n 0, 1) := by decide +kernel
theorem dX10_which_1 : decode cX10_which 1 = .ok (.iload_n 1, 1) := by decide +kernel
theorem dX10_which_2 : decode cX10_which 2 = .ok (.invokevirtual 156, 3) := by decide +kernel
theorem dX10_which_5 : decode cX10_which 5 = .ok (.ifCond .ne 5, 3) := by decide +kernel
theorem dX10_which_8 : decode cX10_which 8 = .ok (.iconst (-1), 1) := by decide +kernel
theorem dX10_which_9 : decode cX10_which 9 = .ok (.ireturn, 1) := by decide +kernel
theorem dX10_which_10 : decode cX10_which 10 = .ok (.iconst 0, 1) := by decide +kernel
theorem dX10_which_11 : decode cX10_which 11 = .ok (.istore_n 2, 1) := by decide +kernel
theorem dX10_which_12 : decode cX10_which 12 = .ok (.iconst 1, 1) := by decide +kernel
theorem dX10_which_13 : decode cX10_which 13 = .ok (.istore_n 3, 1) := by decide +kernel
theorem dX10_which_14 : decode cX10_which 14 = .ok (.iload_n 3, 1) := by decide +kernel
theorem dX10_which_15 : decode cX10_which 15 = .ok (.bipush 10, 2) := by decide +kernel
theorem dX10_which_17 : decode cX10_which 17 = .ok (.if_icmp .ge 123, 3) := by decide +kernel
theorem dX10_which_20 : decode cX10_which 20 = .ok (.aload_n 0, 1) := by decide +kernel
theorem dX10_which_21 : decode cX10_which 21 = .ok (.getfield 13, 3) := by decide +kernel
theorem dX10_which_24 : decode cX10_which 24 = .ok (.aload_n 0, 1) := by decide +kernel
theorem dX10_which_25 : decode cX10_which 25 = .ok (.getfield 16, 3) := by decide +kernel
theorem dX10_which_28 : decode cX10_which 28 = .ok (.invokestatic 104, 3) := by decide +kernel
theorem dX10_which_31 : decode cX10_which 31 = .ok (.aload_n 0, 1) := by decide +kernel
theorem dX10_which_32 : decode cX10_which 32 = .ok (.getfield 16, 3) := by decide +kernel
theorem dX10_which_35 : decode cX10_which 35 = .ok (.iconst 1, 1) := by decide +kernel
theorem dX10_which_36 : decode cX10_which 36 = .ok (.iload_n 1, 1) := by decide +kernel
theorem dX10_which_37 : decode cX10_which 37 = .ok (.iadd, 1) := by decide +kernel
theorem dX10_which_38 : decode cX10_which 38 = .ok (.iload_n 3, 1) := by decide +kernel
theorem dX10_which_39 : decode cX10_which 39 = .ok (.iastore, 1) := by decide +kernel
theorem dX10_which_40 : decode cX10_which 40 = .ok (.aload_n 0, 1) := by decide +kernel
theorem dX10_which_41 : decode cX10_which 41 = .ok (.aload_n 0, 1) := by decide +kernel
theorem dX10_which_42 : decode cX10_which 42 = .ok (.getfield 16, 3) := by decide +kernel
theorem dX10_which_45 : decode cX10_which 45 = .ok (.invokevirtual 119, 3) := by decide +kernel
theorem dX10_which_48 : decode cX10_which 48 = .ok (.iconst 1, 1) := by decide +kernel
theorem dX10_which_49 : decode cX10_which 49 = .ok (.istore 4, 2) := by decide +kernel
theorem dX10_which_51 : decode cX10_which 51 = .ok (.iconst 0, 1) := by decide +kernel
theorem dX10_which_52 : decode cX10_which 52 = .ok (.istore 5, 2) := by decide +kernel
theorem dX10_which_54 : decode cX10_which 54 = .ok (.iload 5, 2) := by decide +kernel
theorem dX10_which_56 : decode cX10_which 56 = .ok (.aload_n 0, 1) := by decide +kernel
theorem dX10_which_57 : decode cX10_which 57 = .ok (.getfield 153, 3) := by decide +kernel
theorem dX10_which_60 : decode cX10_which 60 = .ok (.if_icmp .ge 59, 3) := by decide +kernel
theorem dX10_which_63 : decode cX10_which 63 = .ok (.iload 4, 2) := by decide +kernel
theorem dX10_which_65 : decode cX10_which 65 = .ok (.ifCond .eq 45, 3) := by decide +kernel
theorem dX10_which_68 : decode cX10_which 68 = .ok (.aload_n 0, 1) := by decide +kernel
theorem dX10_which_69 : decode cX10_which 69 = .ok (.aload_n 0, 1) := by decide +kernel
theorem dX10_which_70 : decode cX10_which 70 = .ok (.getfield 29, 3) := by decide +kernel
theorem dX10_which_73 : decode cX10_which 73 = .ok (.iload 5, 2) := by decide +kernel
theorem dX10_which_75 : decode cX10_which 75 = .ok (.iaload, 1) := by decide +kernel
theorem dX10_which_76 : decode cX10_which 76 = .ok (.invokevirtual 156, 3) := by decide +kernel
theorem dX10_which_79 : decode cX10_which 79 = .ok (.ifCond .eq 27, 3) := by decide +kernel
theorem dX10_which_82 : decode cX10_which 82 = .ok (.aload_n 0, 1) := by decide +kernel
theorem dX10_which_83 : decode cX10_which 83 = .ok (.getfield 35, 3) := by decide +kernel
theorem dX10_which_86 : decode cX10_which 86 = .ok (.iconst 3, 1) := by decide +kernel
theorem dX10_which_87 : decode cX10_which 87 = .ok (.aload_n 0, 1) := by decide +kernel
theorem dX10_which_88 : decode cX10_which 88 = .ok (.getfield 29, 3) := by decide +kernel
theorem dX10_which_91 : decode cX10_which 91 = .ok (.iload 5, 2) := by decide +kernel
theorem dX10_which_93 : decode cX10_which 93 = .ok (.iaload, 1) := by decide +kernel
theorem dX10_which_94 : decode cX10_which 94 = .ok (.imul, 1) := by decide +kernel
theorem dX10_which_95 : decode cX10_which 95 = .ok (.iaload, 1) := by decide +kernel
theorem dX10_which_96 : decode cX10_which 96 = .ok (.aload_n 0, 1) := by decide +kernel
theorem dX10_which_97 : decode cX10_which 97 = .ok (.getfield 32, 3) := by decide +kernel
theorem dX10_which_100 : decode cX10_which 100 = .ok (.iload 5, 2) := by decide +kernel
theorem dX10_which_102 : decode cX10_which 102 = .ok (.iaload, 1) := by decide +kernel
theorem dX10_which_103 : decode cX10_which 103 = .ok (.if_icmp .ne 7, 3) := by decide +kernel
theorem dX10_which_106 : decode cX10_which 106 = .ok (.iconst 1, 1) := by decide +kernel
theorem dX10_which_107 : decode cX10_which 107 = .ok (.goto 4, 3) := by decide +kernel
theorem dX10_which_110 : decode cX10_which 110 = .ok (.iconst 0, 1) := by decide +kernel
theorem dX10_which_111 : decode cX10_which 111 = .ok (.istore 4, 2) := by decide +kernel
theorem dX10_which_113 : decode cX10_which 113 = .ok (.iinc 5 1, 3) := by decide +kernel
theorem dX10_which_116 : decode cX10_which 116 = .ok (.goto (-62), 3) := by decide +kernel
theorem dX10_which_119 : decode cX10_which 119 = .ok (.iload_n 2, 1) := by decide +kernel
theorem dX10_which_120 : decode cX10_which 120 = .ok (.iload 4, 2) := by decide +kernel
theorem dX10_which_122 : decode cX10_which 122 = .ok (.ifCond .eq 9, 3) := by decide +kernel
theorem dX10_which_125 : decode cX10_which 125 = .ok (.iconst 1, 1) := by decide +kernel
theorem dX10_which_126 : decode cX10_which 126 = .ok (.iload_n 3, 1) := by decide +kernel
theorem dX10_which_127 : decode cX10_which 127 = .ok (.ishl, 1) := by decide +kernel
theorem dX10_which_128 : decode cX10_which 128 = .ok (.goto 4, 3) := by decide +kernel
theorem dX10_which_131 : decode cX10_which 131 = .ok (.iconst 0, 1) := by decide +kernel
theorem dX10_which_132 : decode cX10_which 132 = .ok (.ior, 1) := by decide +kernel
theorem dX10_which_133 : decode cX10_which 133 = .ok (.istore_n 2, 1) := by decide +kernel
theorem dX10_which_134 : decode cX10_which 134 = .ok (.iinc 3 1, 3) := by decide +kernel
theorem dX10_which_137 : decode cX10_which 137 = .ok (.goto (-123), 3) := by decide +kernel
theorem dX10_which_140 : decode cX10_which 140 = .ok (.iload_n 2, 1) := by decide +kernel
theorem dX10_which_141 : decode cX10_which 141 = .ok (.ireturn, 1) := by decide +kernel
theorem dX10_lastBy_0 : decode cX10_lastBy 0 = .ok (.aload_n 0, 1) := by decide +kernel
theorem dX10_lastBy_1 : decode cX10_lastBy 1 = .ok (.getfield 13, 3) := by decide +kernel
theorem dX10_lastBy_4 : decode cX10_lastBy 4 = .ok (.aload_n 0, 1) := by decide +kernel
theorem dX10_lastBy_5 : decode cX10_lastBy 5 = .ok (.getfield 16, 3) := by decide +kernel
theorem dX10_lastBy_8 : decode cX10_lastBy 8 = .ok (.invokestatic 104, 3) := by decide +kernel
theorem dX10_lastBy_11 : decode cX10_lastBy 11 = .ok (.iconst 0, 1) := by decide +kernel
theorem dX10_lastBy_12 : decode cX10_lastBy 12 = .ok (.istore_n 2, 1) := by decide +kernel
theorem dX10_lastBy_13 : decode cX10_lastBy 13 = .ok (.iload_n 2, 1) := by decide +kernel
theorem dX10_lastBy_14 : decode cX10_lastBy 14 = .ok (.aload_n 0, 1) := by decide +kernel
theorem dX10_lastBy_15 : decode cX10_lastBy 15 = .ok (.getfield 57, 3) := by decide +kernel
theorem dX10_lastBy_18 : decode cX10_lastBy 18 = .ok (.if_icmp .ge 37, 3) := by decide +kernel
theorem dX10_lastBy_21 : decode cX10_lastBy 21 = .ok (.aload_n 0, 1) := by decide +kernel
theorem dX10_lastBy_22 : decode cX10_lastBy 22 = .ok (.getfield 16, 3) := by decide +kernel
theorem dX10_lastBy_25 : decode cX10_lastBy 25 = .ok (.iconst 1, 1) := by decide +kernel
theorem dX10_lastBy_26 : decode cX10_lastBy 26 = .ok (.iload_n 2, 1) := by decide +kernel
theorem dX10_lastBy_27 : decode cX10_lastBy 27 = .ok (.iadd, 1) := by decide +kernel
theorem dX10_lastBy_28 : decode cX10_lastBy 28 = .ok (.iload_n 1, 1) := by decide +kernel
theorem dX10_lastBy_29 : decode cX10_lastBy 29 = .ok (.iload_n 2, 1) := by decide +kernel
theorem dX10_lastBy_30 : decode cX10_lastBy 30 = .ok (.invokestatic 90, 3) := by decide +kernel
theorem dX10_lastBy_33 : decode cX10_lastBy 33 = .ok (.ifCond .eq 14, 3) := by decide +kernel
theorem dX10_lastBy_36 : decode cX10_lastBy 36 = .ok (.aload_n 0, 1) := by decide +kernel
theorem dX10_lastBy_37 : decode cX10_lastBy 37 = .ok (.getfield 13, 3) := by decide +kernel
theorem dX10_lastBy_40 : decode cX10_lastBy 40 = .ok (.iconst 1, 1) := by decide +kernel
theorem dX10_lastBy_41 : decode cX10_lastBy 41 = .ok (.iload_n 2, 1) := by decide +kernel
theorem dX10_lastBy_42 : decode cX10_lastBy 42 = .ok (.iadd, 1) := by decide +kernel
theorem dX10_lastBy_43 : decode cX10_lastBy 43 = .ok (.iaload, 1) := by decide +kernel
theorem dX10_lastBy_44 : decode cX10_lastBy 44 = .ok (.goto 4, 3) := by decide +kernel
theorem dX10_lastBy_47 : decode cX10_lastBy 47 = .ok (.iconst 1, 1) := by decide +kernel
theorem dX10_lastBy_48 : decode cX10_lastBy 48 = .ok (.iastore, 1) := by decide +kernel
theorem dX10_lastBy_49 : decode cX10_lastBy 49 = .ok (.iinc 2 1, 3) := by decide +kernel
theorem dX10_lastBy_52 : decode cX10_lastBy 52 = .ok (.goto (-39), 3) := by decide +kernel
theorem dX10_lastBy_55 : decode cX10_lastBy 55 = .ok (.aload_n 0, 1) := by decide +kernel
theorem dX10_lastBy_56 : decode cX10_lastBy 56 = .ok (.aload_n 0, 1) := by decide +kernel
theorem dX10_lastBy_57 : decode cX10_lastBy 57 = .ok (.getfield 16, 3) := by decide +kernel
theorem dX10_lastBy_60 : decode cX10_lastBy 60 = .ok (.invokevirtual 111, 3) := by decide +kernel
theorem dX10_lastBy_63 : decode cX10_lastBy 63 = .ok (.ireturn, 1) := by decide +kernel
theorem dX10_share_0 : decode cX10_share 0 = .ok (.aload_n 0, 1) := by decide +kernel
theorem dX10_share_1 : decode cX10_share 1 = .ok (.iload_n 1, 1) := by decide +kernel
theorem dX10_share_2 : decode cX10_share 2 = .ok (.invokevirtual 156, 3) := by decide +kernel
theorem dX10_share_5 : decode cX10_share 5 = .ok (.ifCond .ne 5, 3) := by decide +kernel
theorem dX10_share_8 : decode cX10_share 8 = .ok (.iconst (-1), 1) := by decide +kernel
theorem dX10_share_9 : decode cX10_share 9 = .ok (.ireturn, 1) := by decide +kernel
theorem dX10_share_10 : decode cX10_share 10 = .ok (.iconst 0, 1) := by decide +kernel
theorem dX10_share_11 : decode cX10_share 11 = .ok (.istore_n 3, 1) := by decide +kernel
theorem dX10_share_12 : decode cX10_share 12 = .ok (.iload_n 3, 1) := by decide +kernel
theorem dX10_share_13 : decode cX10_share 13 = .ok (.iconst 1, 1) := by decide +kernel
theorem dX10_share_14 : decode cX10_share 14 = .ok (.aload_n 0, 1) := by decide +kernel
theorem dX10_share_15 : decode cX10_share 15 = .ok (.getfield 57, 3) := by decide +kernel
theorem dX10_share_18 : decode cX10_share 18 = .ok (.ishl, 1) := by decide +kernel
theorem dX10_share_19 : decode cX10_share 19 = .ok (.if_icmp .ge 20, 3) := by decide +kernel
theorem dX10_share_22 : decode cX10_share 22 = .ok (.aload_n 0, 1) := by decide +kernel
theorem dX10_share_23 : decode cX10_share 23 = .ok (.getfield 47, 3) := by decide +kernel
theorem dX10_share_26 : decode cX10_share 26 = .ok (.iload_n 3, 1) := by decide +kernel
theorem dX10_share_27 : decode cX10_share 27 = .ok (.aload_n 0, 1) := by decide +kernel
theorem dX10_share_28 : decode cX10_share 28 = .ok (.iload_n 3, 1) := by decide +kernel
theorem dX10_share_29 : decode cX10_share 29 = .ok (.invokevirtual 229, 3) := by decide +kernel
theorem dX10_share_32 : decode cX10_share 32 = .ok (.iastore, 1) := by decide +kernel
theorem dX10_share_33 : decode cX10_share 33 = .ok (.iinc 3 1, 3) := by decide +kernel
theorem dX10_share_36 : decode cX10_share 36 = .ok (.goto (-24), 3) := by decide +kernel
theorem dX10_share_39 : decode cX10_share 39 = .ok (.iconst 0, 1) := by decide +kernel
theorem dX10_share_40 : decode cX10_share 40 = .ok (.istore_n 3, 1) := by decide +kernel
theorem dX10_share_41 : decode cX10_share 41 = .ok (.iconst 0, 1) := by decide +kernel
theorem dX10_share_42 : decode cX10_share 42 = .ok (.istore 4, 2) := by decide +kernel
theorem dX10_share_44 : decode cX10_share 44 = .ok (.iload 4, 2) := by decide +kernel
theorem dX10_share_46 : decode cX10_share 46 = .ok (.iconst 1, 1) := by decide +kernel
theorem dX10_share_47 : decode cX10_share 47 = .ok (.aload_n 0, 1) := by decide +kernel
theorem dX10_share_48 : decode cX10_share 48 = .ok (.getfield 57, 3) := by decide +kernel
theorem dX10_share_51 : decode cX10_share 51 = .ok (.ishl, 1) := by decide +kernel
theorem dX10_share_52 : decode cX10_share 52 = .ok (.if_icmp .ge 66, 3) := by decide +kernel
theorem dX10_share_55 : decode cX10_share 55 = .ok (.iload 4, 2) := by decide +kernel
theorem dX10_share_57 : decode cX10_share 57 = .ok (.iload_n 1, 1) := by decide +kernel
theorem dX10_share_58 : decode cX10_share 58 = .ok (.invokestatic 90, 3) := by decide +kernel
theorem dX10_share_61 : decode cX10_share 61 = .ok (.ifCond .ne 51, 3) := by decide +kernel
theorem dX10_share_64 : decode cX10_share 64 = .ok (.iload 4, 2) := by decide +kernel
theorem dX10_share_66 : decode cX10_share 66 = .ok (.invokestatic 232, 3) := by decide +kernel
theorem dX10_share_69 : decode cX10_share 69 = .ok (.istore 5, 2) := by decide +kernel
theorem dX10_share_71 : decode cX10_share 71 = .ok (.iload_n 3, 1) := by decide +kernel
theorem dX10_share_72 : decode cX10_share 72 = .ok (.iload 5, 2) := by decide +kernel
theorem dX10_share_74 : decode cX10_share 74 = .ok (.invokestatic 235, 3) := by decide +kernel
theorem dX10_share_77 : decode cX10_share 77 = .ok (.aload_n 0, 1) := by decide +kernel
theorem dX10_share_78 : decode cX10_share 78 = .ok (.getfield 57, 3) := by decide +kernel
theorem dX10_share_81 : decode cX10_share 81 = .ok (.iconst 1, 1) := by decide +kernel
theorem dX10_share_82 : decode cX10_share 82 = .ok (.isub, 1) := by decide +kernel
theorem dX10_share_83 : decode cX10_share 83 = .ok (.iload 5, 2) := by decide +kernel
theorem dX10_share_85 : decode cX10_share 85 = .ok (.isub, 1) := by decide +kernel
theorem dX10_share_86 : decode cX10_share 86 = .ok (.invokestatic 235, 3) := by decide +kernel
theorem dX10_share_89 : decode cX10_share 89 = .ok (.imul, 1) := by decide +kernel
theorem dX10_share_90 : decode cX10_share 90 = .ok (.aload_n 0, 1) := by decide +kernel
theorem dX10_share_91 : decode cX10_share 91 = .ok (.getfield 47, 3) := by decide +kernel
theorem dX10_share_94 : decode cX10_share 94 = .ok (.iload 4, 2) := by decide +kernel
theorem dX10_share_96 : decode cX10_share 96 = .ok (.iconst 1, 1) := by decide +kernel
theorem dX10_share_97 : decode cX10_share 97 = .ok (.iload_n 1, 1) := by decide +kernel
theorem dX10_share_98 : decode cX10_share 98 = .ok (.ishl, 1) := by decide +kernel
theorem dX10_share_99 : decode cX10_share 99 = .ok (.ior, 1) := by decide +kernel
theorem dX10_share_100 : decode cX10_share 100 = .ok (.iaload, 1) := by decide +kernel
theorem dX10_share_101 : decode cX10_share 101 = .ok (.aload_n 0, 1) := by decide +kernel
theorem dX10_share_102 : decode cX10_share 102 = .ok (.getfield 47, 3) := by decide +kernel
theorem dX10_share_105 : decode cX10_share 105 = .ok (.iload 4, 2) := by decide +kernel
theorem dX10_share_107 : decode cX10_share 107 = .ok (.iaload, 1) := by decide +kernel
theorem dX10_share_108 : decode cX10_share 108 = .ok (.isub, 1) := by decide +kernel
theorem dX10_share_109 : decode cX10_share 109 = .ok (.imul, 1) := by decide +kernel
theorem dX10_share_110 : decode cX10_share 110 = .ok (.iadd, 1) := by decide +kernel
theorem dX10_share_111 : decode cX10_share 111 = .ok (.istore_n 3, 1) := by decide +kernel
theorem dX10_share_112 : decode cX10_share 112 = .ok (.iinc 4 1, 3) := by decide +kernel
theorem dX10_share_115 : decode cX10_share 115 = .ok (.goto (-71), 3) := by decide +kernel
theorem dX10_share_118 : decode cX10_share 118 = .ok (.iload_n 3, 1) := by decide +kernel
theorem dX10_share_119 : decode cX10_share 119 = .ok (.aload_n 0, 1) := by decide +kernel
theorem dX10_share_120 : decode cX10_share 120 = .ok (.getfield 57, 3) := by decide +kernel
theorem dX10_share_123 : decode cX10_share 123 = .ok (.invokestatic 235, 3) := by decide +kernel
theorem dX10_share_126 : decode cX10_share 126 = .ok (.iload_n 2, 1) := by decide +kernel
theorem dX10_share_127 : decode cX10_share 127 = .ok (.invokestatic 238, 3) := by decide +kernel
theorem dX10_share_130 : decode cX10_share 130 = .ok (.ireturn, 1) := by decide +kernel
theorem dX10_knowing_0 : decode cX10_knowing 0 = .ok (.iconst 1, 1) := by decide +kernel
theorem dX10_knowing_1 : decode cX10_knowing 1 = .ok (.istore_n 2, 1) := by decide +kernel
theorem dX10_knowing_2 : decode cX10_knowing 2 = .ok (.iconst 0, 1) := by decide +kernel
theorem dX10_knowing_3 : decode cX10_knowing 3 = .ok (.istore_n 3, 1) := by decide +kernel
theorem dX10_knowing_4 : decode cX10_knowing 4 = .ok (.iload_n 3, 1) := by decide +kernel
theorem dX10_knowing_5 : decode cX10_knowing 5 = .ok (.aload_n 0, 1) := by decide +kernel
theorem dX10_knowing_6 : decode cX10_knowing 6 = .ok (.getfield 57, 3) := by decide +kernel
theorem dX10_knowing_9 : decode cX10_knowing 9 = .ok (.iconst 1, 1) := by decide +kernel
theorem dX10_knowing_10 : decode cX10_knowing 10 = .ok (.isub, 1) := by decide +kernel
theorem dX10_knowing_11 : decode cX10_knowing 11 = .ok (.if_icmp .ge 57, 3) := by decide +kernel
theorem dX10_knowing_14 : decode cX10_knowing 14 = .ok (.aload_n 0, 1) := by decide +kernel
theorem dX10_knowing_15 : decode cX10_knowing 15 = .ok (.getfield 13, 3) := by decide +kernel
theorem dX10_knowing_18 : decode cX10_knowing 18 = .ok (.bipush 25, 2) := by decide +kernel
theorem dX10_knowing_20 : decode cX10_knowing 20 = .ok (.iload_n 3, 1) := by decide +kernel
theorem dX10_knowing_21 : decode cX10_knowing 21 = .ok (.iadd, 1) := by decide +kernel
theorem dX10_knowing_22 : decode cX10_knowing 22 = .ok (.iaload, 1) := by decide +kernel
theorem dX10_knowing_23 : decode cX10_knowing 23 = .ok (.istore 4, 2) := by decide +kernel
theorem dX10_knowing_25 : decode cX10_knowing 25 = .ok (.iload_n 2, 1) := by decide +kernel
theorem dX10_knowing_26 : decode cX10_knowing 26 = .ok (.iload_n 1, 1) := by decide +kernel
theorem dX10_knowing_27 : decode cX10_knowing 27 = .ok (.iload 4, 2) := by decide +kernel
theorem dX10_knowing_29 : decode cX10_knowing 29 = .ok (.invokestatic 90, 3) := by decide +kernel
theorem dX10_knowing_32 : decode cX10_knowing 32 = .ok (.ifCond .ne 27, 3) := by decide +kernel
theorem dX10_knowing_35 : decode cX10_knowing 35 = .ok (.iload_n 2, 1) := by decide +kernel
theorem dX10_knowing_36 : decode cX10_knowing 36 = .ok (.aload_n 0, 1) := by decide +kernel
theorem dX10_knowing_37 : decode cX10_knowing 37 = .ok (.getfield 13, 3) := by decide +kernel
theorem dX10_knowing_40 : decode cX10_knowing 40 = .ok (.bipush 17, 2) := by decide +kernel
theorem dX10_knowing_42 : decode cX10_knowing 42 = .ok (.iload 4, 2) := by decide +kernel
theorem dX10_knowing_44 : decode cX10_knowing 44 = .ok (.iadd, 1) := by decide +kernel
theorem dX10_knowing_45 : decode cX10_knowing 45 = .ok (.iaload, 1) := by decide +kernel
theorem dX10_knowing_46 : decode cX10_knowing 46 = .ok (.invokestatic 90, 3) := by decide +kernel
theorem dX10_knowing_49 : decode cX10_knowing 49 = .ok (.ifCond .eq 10, 3) := by decide +kernel
theorem dX10_knowing_52 : decode cX10_knowing 52 = .ok (.iconst 1, 1) := by decide +kernel
theorem dX10_knowing_53 : decode cX10_knowing 53 = .ok (.iload 4, 2) := by decide +kernel
theorem dX10_knowing_55 : decode cX10_knowing 55 = .ok (.ishl, 1) := by decide +kernel
theorem dX10_knowing_56 : decode cX10_knowing 56 = .ok (.goto 4, 3) := by decide +kernel
theorem dX10_knowing_59 : decode cX10_knowing 59 = .ok (.iconst 0, 1) := by decide +kernel
theorem dX10_knowing_60 : decode cX10_knowing 60 = .ok (.ior, 1) := by decide +kernel
theorem dX10_knowing_61 : decode cX10_knowing 61 = .ok (.istore_n 2, 1) := by decide +kernel
theorem dX10_knowing_62 : decode cX10_knowing 62 = .ok (.iinc 3 1, 3) := by decide +kernel
theorem dX10_knowing_65 : decode cX10_knowing 65 = .ok (.goto (-61), 3) := by decide +kernel
theorem dX10_knowing_68 : decode cX10_knowing 68 = .ok (.iload_n 2, 1) := by decide +kernel
theorem dX10_knowing_69 : decode cX10_knowing 69 = .ok (.invokestatic 232, 3) := by decide +kernel
theorem dX10_knowing_72 : decode cX10_knowing 72 = .ok (.ireturn, 1) := by decide +kernel
theorem dX10_chance_0 : decode cX10_chance 0 = .ok (.iload_n 1, 1) := by decide +kernel
theorem dX10_chance_1 : decode cX10_chance 1 = .ok (.i2l, 1) := by decide +kernel
theorem dX10_chance_2 : decode cX10_chance 2 = .ok (.lconst 0, 1) := by decide +kernel
theorem dX10_chance_3 : decode cX10_chance 3 = .ok (.ldc2_w 75, 3) := by decide +kernel
theorem dX10_chance_6 : decode cX10_chance 6 = .ok (.invokestatic 61, 3) := by decide +kernel
theorem dX10_chance_9 : decode cX10_chance 9 = .ok (.ifCond .eq 15, 3) := by decide +kernel
theorem dX10_chance_12 : decode cX10_chance 12 = .ok (.iload_n 2, 1) := by decide +kernel
theorem dX10_chance_13 : decode cX10_chance 13 = .ok (.i2l, 1) := by decide +kernel
theorem dX10_chance_14 : decode cX10_chance 14 = .ok (.lconst 0, 1) := by decide +kernel
theorem dX10_chance_15 : decode cX10_chance 15 = .ok (.ldc2_w 242, 3) := by decide +kernel
theorem dX10_chance_18 : decode cX10_chance 18 = .ok (.invokestatic 61, 3) := by decide +kernel
theorem dX10_chance_21 : decode cX10_chance 21 = .ok (.ifCond .ne 6, 3) := by decide +kernel
theorem dX10_chance_24 : decode cX10_chance 24 = .ok (.bipush (-2), 2) := by decide +kernel
theorem dX10_chance_26 : decode cX10_chance 26 = .ok (.ireturn, 1) := by decide +kernel
theorem dX10_chance_27 : decode cX10_chance 27 = .ok (.aload_n 0, 1) := by decide +kernel
theorem dX10_chance_28 : decode cX10_chance 28 = .ok (.getfield 57, 3) := by decide +kernel
theorem dX10_chance_31 : decode cX10_chance 31 = .ok (.iconst 1, 1) := by decide +kernel
theorem dX10_chance_32 : decode cX10_chance 32 = .ok (.isub, 1) := by decide +kernel
theorem dX10_chance_33 : decode cX10_chance 33 = .ok (.istore 4, 2) := by decide +kernel
theorem dX10_chance_35 : decode cX10_chance 35 = .ok (.iconst 0, 1) := by decide +kernel
theorem dX10_chance_36 : decode cX10_chance 36 = .ok (.istore 5, 2) := by decide +kernel
theorem dX10_chance_38 : decode cX10_chance 38 = .ok (.iconst 0, 1) := by decide +kernel
theorem dX10_chance_39 : decode cX10_chance 39 = .ok (.istore 6, 2) := by decide +kernel
theorem dX10_chance_41 : decode cX10_chance 41 = .ok (.iload 6, 2) := by decide +kernel
theorem dX10_chance_43 : decode cX10_chance 43 = .ok (.iconst 1, 1) := by decide +kernel
theorem dX10_chance_44 : decode cX10_chance 44 = .ok (.iload 4, 2) := by decide +kernel
theorem dX10_chance_46 : decode cX10_chance 46 = .ok (.ishl, 1) := by decide +kernel
theorem dX10_chance_47 : decode cX10_chance 47 = .ok (.if_icmp .ge 56, 3) := by decide +kernel
theorem dX10_chance_50 : decode cX10_chance 50 = .ok (.iload 6, 2) := by decide +kernel
theorem dX10_chance_52 : decode cX10_chance 52 = .ok (.invokestatic 232, 3) := by decide +kernel
theorem dX10_chance_55 : decode cX10_chance 55 = .ok (.istore 7, 2) := by decide +kernel
theorem dX10_chance_57 : decode cX10_chance 57 = .ok (.iload 5, 2) := by decide +kernel
theorem dX10_chance_59 : decode cX10_chance 59 = .ok (.aload_n 0, 1) := by decide +kernel
theorem dX10_chance_60 : decode cX10_chance 60 = .ok (.iconst 2, 1) := by decide +kernel
theorem dX10_chance_61 : decode cX10_chance 61 = .ok (.iload 6, 2) := by decide +kernel
theorem dX10_chance_63 : decode cX10_chance 63 = .ok (.imul, 1) := by decide +kernel
theorem dX10_chance_64 : decode cX10_chance 64 = .ok (.invokevirtual 244, 3) := by decide +kernel
theorem dX10_chance_67 : decode cX10_chance 67 = .ok (.iload_n 1, 1) := by decide +kernel
theorem dX10_chance_68 : decode cX10_chance 68 = .ok (.if_icmp .lt 25, 3) := by decide +kernel
theorem dX10_chance_71 : decode cX10_chance 71 = .ok (.iload_n 2, 1) := by decide +kernel
theorem dX10_chance_72 : decode cX10_chance 72 = .ok (.iload 7, 2) := by decide +kernel
theorem dX10_chance_74 : decode cX10_chance 74 = .ok (.invokestatic 247, 3) := by decide +kernel
theorem dX10_chance_77 : decode cX10_chance 77 = .ok (.bipush 10, 2) := by decide +kernel
theorem dX10_chance_79 : decode cX10_chance 79 = .ok (.iload_n 2, 1) := by decide +kernel
theorem dX10_chance_80 : decode cX10_chance 80 = .ok (.isub, 1) := by decide +kernel
theorem dX10_chance_81 : decode cX10_chance 81 = .ok (.iload 4, 2) := by decide +kernel
theorem dX10_chance_83 : decode cX10_chance 83 = .ok (.iload 7, 2) := by decide +kernel
theorem dX10_chance_85 : decode cX10_chance 85 = .ok (.isub, 1) := by decide +kernel
theorem dX10_chance_86 : decode cX10_chance 86 = .ok (.invokestatic 247, 3) := by decide +kernel
theorem dX10_chance_89 : decode cX10_chance 89 = .ok (.imul, 1) := by decide +kernel
theorem dX10_chance_90 : decode cX10_chance 90 = .ok (.goto 4, 3) := by decide +kernel
theorem dX10_chance_93 : decode cX10_chance 93 = .ok (.iconst 0, 1) := by decide +kernel
theorem dX10_chance_94 : decode cX10_chance 94 = .ok (.iadd, 1) := by decide +kernel
theorem dX10_chance_95 : decode cX10_chance 95 = .ok (.istore 5, 2) := by decide +kernel
theorem dX10_chance_97 : decode cX10_chance 97 = .ok (.iinc 6 1, 3) := by decide +kernel
theorem dX10_chance_100 : decode cX10_chance 100 = .ok (.goto (-59), 3) := by decide +kernel
theorem dX10_chance_103 : decode cX10_chance 103 = .ok (.iload 5, 2) := by decide +kernel
theorem dX10_chance_105 : decode cX10_chance 105 = .ok (.bipush 10, 2) := by decide +kernel
theorem dX10_chance_107 : decode cX10_chance 107 = .ok (.iload 4, 2) := by decide +kernel
theorem dX10_chance_109 : decode cX10_chance 109 = .ok (.invokestatic 247, 3) := by decide +kernel
theorem dX10_chance_112 : decode cX10_chance 112 = .ok (.iload_n 3, 1) := by decide +kernel
theorem dX10_chance_113 : decode cX10_chance 113 = .ok (.invokestatic 238, 3) := by decide +kernel
theorem dX10_chance_116 : decode cX10_chance 116 = .ok (.ireturn, 1) := by decide +kernel
theorem dX10_seed_0 : decode cX10_seed 0 = .ok (.aload_n 0, 1) := by decide +kernel
theorem dX10_seed_1 : decode cX10_seed 1 = .ok (.getfield 251, 3) := by decide +kernel
theorem dX10_seed_4 : decode cX10_seed 4 = .ok (.lstore_n 3, 1) := by decide +kernel
theorem dX10_seed_5 : decode cX10_seed 5 = .ok (.aload_n 0, 1) := by decide +kernel
theorem dX10_seed_6 : decode cX10_seed 6 = .ok (.lload_n 1, 1) := by decide +kernel
theorem dX10_seed_7 : decode cX10_seed 7 = .ok (.putfield 251, 3) := by decide +kernel
theorem dX10_seed_10 : decode cX10_seed 10 = .ok (.lload_n 3, 1) := by decide +kernel
theorem dX10_seed_11 : decode cX10_seed 11 = .ok (.lreturn, 1) := by decide +kernel
theorem dX10_drawn_0 : decode cX10_drawn 0 = .ok (.iload_n 1, 1) := by decide +kernel
theorem dX10_drawn_1 : decode cX10_drawn 1 = .ok (.i2l, 1) := by decide +kernel
theorem dX10_drawn_2 : decode cX10_drawn 2 = .ok (.lconst 1, 1) := by decide +kernel
theorem dX10_drawn_3 : decode cX10_drawn 3 = .ok (.ldc2_w 255, 3) := by decide +kernel
theorem dX10_drawn_6 : decode cX10_drawn 6 = .ok (.invokestatic 61, 3) := by decide +kernel
theorem dX10_drawn_9 : decode cX10_drawn 9 = .ok (.ifCond .ne 6, 3) := by decide +kernel
theorem dX10_drawn_12 : decode cX10_drawn 12 = .ok (.bipush (-2), 2) := by decide +kernel
theorem dX10_drawn_14 : decode cX10_drawn 14 = .ok (.ireturn, 1) := by decide +kernel
theorem dX10_drawn_15 : decode cX10_drawn 15 = .ok (.iconst 0, 1) := by decide +kernel
theorem dX10_drawn_16 : decode cX10_drawn 16 = .ok (.istore_n 2, 1) := by decide +kernel
theorem dX10_drawn_17 : decode cX10_drawn 17 = .ok (.iconst 0, 1) := by decide +kernel
theorem dX10_drawn_18 : decode cX10_drawn 18 = .ok (.istore_n 3, 1) := by decide +kernel
theorem dX10_drawn_19 : decode cX10_drawn 19 = .ok (.iload_n 3, 1) := by decide +kernel
theorem dX10_drawn_20 : decode cX10_drawn 20 = .ok (.iload_n 1, 1) := by decide +kernel
theorem dX10_drawn_21 : decode cX10_drawn 21 = .ok (.if_icmp .ge 99, 3) := by decide +kernel
theorem dX10_drawn_24 : decode cX10_drawn 24 = .ok (.aload_n 0, 1) := by decide +kernel
theorem dX10_drawn_25 : decode cX10_drawn 25 = .ok (.aload_n 0, 1) := by decide +kernel
theorem dX10_drawn_26 : decode cX10_drawn 26 = .ok (.getfield 251, 3) := by decide +kernel
theorem dX10_drawn_29 : decode cX10_drawn 29 = .ok (.ldc2_w 257, 3) := by decide +kernel
theorem dX10_drawn_32 : decode cX10_drawn 32 = .ok (.lmul, 1) := by decide +kernel
theorem dX10_drawn_33 : decode cX10_drawn 33 = .ok (.ldc2_w 259, 3) := by decide +kernel
theorem dX10_drawn_36 : decode cX10_drawn 36 = .ok (.ladd, 1) := by decide +kernel
theorem dX10_drawn_37 : decode cX10_drawn 37 = .ok (.putfield 251, 3) := by decide +kernel
theorem dX10_drawn_40 : decode cX10_drawn 40 = .ok (.aload_n 0, 1) := by decide +kernel
theorem dX10_drawn_41 : decode cX10_drawn 41 = .ok (.getfield 251, 3) := by decide +kernel
theorem dX10_drawn_44 : decode cX10_drawn 44 = .ok (.bipush 33, 2) := by decide +kernel
theorem dX10_drawn_46 : decode cX10_drawn 46 = .ok (.lushr, 1) := by decide +kernel
theorem dX10_drawn_47 : decode cX10_drawn 47 = .ok (.l2i, 1) := by decide +kernel
theorem dX10_drawn_48 : decode cX10_drawn 48 = .ok (.istore 4, 2) := by decide +kernel
theorem dX10_drawn_50 : decode cX10_drawn 50 = .ok (.aload_n 0, 1) := by decide +kernel
theorem dX10_drawn_51 : decode cX10_drawn 51 = .ok (.getfield 13, 3) := by decide +kernel
theorem dX10_drawn_54 : decode cX10_drawn 54 = .ok (.aload_n 0, 1) := by decide +kernel
theorem dX10_drawn_55 : decode cX10_drawn 55 = .ok (.getfield 16, 3) := by decide +kernel
theorem dX10_drawn_58 : decode cX10_drawn 58 = .ok (.invokestatic 104, 3) := by decide +kernel
theorem dX10_drawn_61 : decode cX10_drawn 61 = .ok (.iconst 0, 1) := by decide +kernel
theorem dX10_drawn_62 : decode cX10_drawn 62 = .ok (.istore 5, 2) := by decide +kernel
theorem dX10_drawn_64 : decode cX10_drawn 64 = .ok (.iload 5, 2) := by decide +kernel
theorem dX10_drawn_66 : decode cX10_drawn 66 = .ok (.aload_n 0, 1) := by decide +kernel
theorem dX10_drawn_67 : decode cX10_drawn 67 = .ok (.getfield 57, 3) := by decide +kernel
theorem dX10_drawn_70 : decode cX10_drawn 70 = .ok (.if_icmp .ge 33, 3) := by decide +kernel
theorem dX10_drawn_73 : decode cX10_drawn 73 = .ok (.aload_n 0, 1) := by decide +kernel
theorem dX10_drawn_74 : decode cX10_drawn 74 = .ok (.getfield 16, 3) := by decide +kernel
theorem dX10_drawn_77 : decode cX10_drawn 77 = .ok (.iconst 1, 1) := by decide +kernel
theorem dX10_drawn_78 : decode cX10_drawn 78 = .ok (.iload 5, 2) := by decide +kernel
theorem dX10_drawn_80 : decode cX10_drawn 80 = .ok (.iadd, 1) := by decide +kernel
theorem dX10_drawn_81 : decode cX10_drawn 81 = .ok (.iconst 1, 1) := by decide +kernel
theorem dX10_drawn_82 : decode cX10_drawn 82 = .ok (.iload 4, 2) := by decide +kernel
theorem dX10_drawn_84 : decode cX10_drawn 84 = .ok (.bipush 9, 2) := by decide +kernel
theorem dX10_drawn_86 : decode cX10_drawn 86 = .ok (.iload 5, 2) := by decide +kernel
theorem dX10_drawn_88 : decode cX10_drawn 88 = .ok (.invokestatic 247, 3) := by decide +kernel
theorem dX10_drawn_91 : decode cX10_drawn 91 = .ok (.idiv, 1) := by decide +kernel
theorem dX10_drawn_92 : decode cX10_drawn 92 = .ok (.bipush 9, 2) := by decide +kernel
theorem dX10_drawn_94 : decode cX10_drawn 94 = .ok (.irem, 1) := by decide +kernel
theorem dX10_drawn_95 : decode cX10_drawn 95 = .ok (.iadd, 1) := by decide +kernel
theorem dX10_drawn_96 : decode cX10_drawn 96 = .ok (.iastore, 1) := by decide +kernel
theorem dX10_drawn_97 : decode cX10_drawn 97 = .ok (.iinc 5 1, 3) := by decide +kernel
theorem dX10_drawn_100 : decode cX10_drawn 100 = .ok (.goto (-36), 3) := by decide +kernel
theorem dX10_drawn_103 : decode cX10_drawn 103 = .ok (.iload_n 2, 1) := by decide +kernel
theorem dX10_drawn_104 : decode cX10_drawn 104 = .ok (.aload_n 0, 1) := by decide +kernel
theorem dX10_drawn_105 : decode cX10_drawn 105 = .ok (.aload_n 0, 1) := by decide +kernel
theorem dX10_drawn_106 : decode cX10_drawn 106 = .ok (.getfield 16, 3) := by decide +kernel
theorem dX10_drawn_109 : decode cX10_drawn 109 = .ok (.invokevirtual 111, 3) := by decide +kernel
theorem dX10_drawn_112 : decode cX10_drawn 112 = .ok (.iadd, 1) := by decide +kernel
theorem dX10_drawn_113 : decode cX10_drawn 113 = .ok (.istore_n 2, 1) := by decide +kernel
theorem dX10_drawn_114 : decode cX10_drawn 114 = .ok (.iinc 3 1, 3) := by decide +kernel
theorem dX10_drawn_117 : decode cX10_drawn 117 = .ok (.goto (-98), 3) := by decide +kernel
theorem dX10_drawn_120 : decode cX10_drawn 120 = .ok (.iload_n 2, 1) := by decide +kernel
theorem dX10_drawn_121 : decode cX10_drawn 121 = .ok (.ireturn, 1) := by decide +kernel
theorem dX10_keep_0 : decode cX10_keep 0 = .ok (.iload_n 1, 1) := by decide +kernel
theorem dX10_keep_1 : decode cX10_keep 1 = .ok (.i2l, 1) := by decide +kernel
theorem dX10_keep_2 : decode cX10_keep 2 = .ok (.lconst 0, 1) := by decide +kernel
theorem dX10_keep_3 : decode cX10_keep 3 = .ok (.lconst 1, 1) := by decide +kernel
theorem dX10_keep_4 : decode cX10_keep 4 = .ok (.invokestatic 61, 3) := by decide +kernel
theorem dX10_keep_7 : decode cX10_keep 7 = .ok (.ifCond .ne 5, 3) := by decide +kernel
theorem dX10_keep_10 : decode cX10_keep 10 = .ok (.iconst (-1), 1) := by decide +kernel
theorem dX10_keep_11 : decode cX10_keep 11 = .ok (.ireturn, 1) := by decide +kernel
theorem dX10_keep_12 : decode cX10_keep 12 = .ok (.aload_n 0, 1) := by decide +kernel
theorem dX10_keep_13 : decode cX10_keep 13 = .ok (.getfield 25, 3) := by decide +kernel
theorem dX10_keep_16 : decode cX10_keep 16 = .ok (.iload_n 1, 1) := by decide +kernel
theorem dX10_keep_17 : decode cX10_keep 17 = .ok (.iconst 1, 1) := by decide +kernel
theorem dX10_keep_18 : decode cX10_keep 18 = .ok (.bastore, 1) := by decide +kernel
theorem dX10_keep_19 : decode cX10_keep 19 = .ok (.iconst 0, 1) := by decide +kernel
theorem dX10_keep_20 : decode cX10_keep 20 = .ok (.istore_n 2, 1) := by decide +kernel
theorem dX10_keep_21 : decode cX10_keep 21 = .ok (.iload_n 2, 1) := by decide +kernel
theorem dX10_keep_22 : decode cX10_keep 22 = .ok (.bipush 33, 2) := by decide +kernel
theorem dX10_keep_24 : decode cX10_keep 24 = .ok (.if_icmp .ge 26, 3) := by decide +kernel
theorem dX10_keep_27 : decode cX10_keep 27 = .ok (.aload_n 0, 1) := by decide +kernel
theorem dX10_keep_28 : decode cX10_keep 28 = .ok (.getfield 22, 3) := by decide +kernel
theorem dX10_keep_31 : decode cX10_keep 31 = .ok (.bipush 33, 2) := by decide +kernel
theorem dX10_keep_33 : decode cX10_keep 33 = .ok (.iload_n 1, 1) := by decide +kernel
theorem dX10_keep_34 : decode cX10_keep 34 = .ok (.imul, 1) := by decide +kernel
theorem dX10_keep_35 : decode cX10_keep 35 = .ok (.iload_n 2, 1) := by decide +kernel
theorem dX10_keep_36 : decode cX10_keep 36 = .ok (.iadd, 1) := by decide +kernel
theorem dX10_keep_37 : decode cX10_keep 37 = .ok (.aload_n 0, 1) := by decide +kernel
theorem dX10_keep_38 : decode cX10_keep 38 = .ok (.getfield 13, 3) := by decide +kernel
theorem dX10_keep_41 : decode cX10_keep 41 = .ok (.iload_n 2, 1) := by decide +kernel
theorem dX10_keep_42 : decode cX10_keep 42 = .ok (.iaload, 1) := by decide +kernel
theorem dX10_keep_43 : decode cX10_keep 43 = .ok (.iastore, 1) := by decide +kernel
theorem dX10_keep_44 : decode cX10_keep 44 = .ok (.iinc 2 1, 3) := by decide +kernel
theorem dX10_keep_47 : decode cX10_keep 47 = .ok (.goto (-26), 3) := by decide +kernel
theorem dX10_keep_50 : decode cX10_keep 50 = .ok (.aload_n 0, 1) := by decide +kernel
theorem dX10_keep_51 : decode cX10_keep 51 = .ok (.aload_n 0, 1) := by decide +kernel
theorem dX10_keep_52 : decode cX10_keep 52 = .ok (.getfield 13, 3) := by decide +kernel
theorem dX10_keep_55 : decode cX10_keep 55 = .ok (.invokevirtual 111, 3) := by decide +kernel
theorem dX10_keep_58 : decode cX10_keep 58 = .ok (.ireturn, 1) := by decide +kernel
theorem dX10_again_0 : decode cX10_again 0 = .ok (.iload_n 1, 1) := by decide +kernel
theorem dX10_again_1 : decode cX10_again 1 = .ok (.i2l, 1) := by decide +kernel
theorem dX10_again_2 : decode cX10_again 2 = .ok (.lconst 0, 1) := by decide +kernel
theorem dX10_again_3 : decode cX10_again 3 = .ok (.lconst 1, 1) := by decide +kernel
theorem dX10_again_4 : decode cX10_again 4 = .ok (.invokestatic 61, 3) := by decide +kernel
theorem dX10_again_7 : decode cX10_again 7 = .ok (.ifCond .ne 5, 3) := by decide +kernel
theorem dX10_again_10 : decode cX10_again 10 = .ok (.iconst (-1), 1) := by decide +kernel
theorem dX10_again_11 : decode cX10_again 11 = .ok (.ireturn, 1) := by decide +kernel
theorem dX10_again_12 : decode cX10_again 12 = .ok (.aload_n 0, 1) := by decide +kernel
theorem dX10_again_13 : decode cX10_again 13 = .ok (.getfield 25, 3) := by decide +kernel
theorem dX10_again_16 : decode cX10_again 16 = .ok (.iload_n 1, 1) := by decide +kernel
theorem dX10_again_17 : decode cX10_again 17 = .ok (.baload, 1) := by decide +kernel
theorem dX10_again_18 : decode cX10_again 18 = .ok (.ifCond .ne 6, 3) := by decide +kernel
theorem dX10_again_21 : decode cX10_again 21 = .ok (.bipush (-3), 2) := by decide +kernel
theorem dX10_again_23 : decode cX10_again 23 = .ok (.ireturn, 1) := by decide +kernel
theorem dX10_again_24 : decode cX10_again 24 = .ok (.iconst 0, 1) := by decide +kernel
theorem dX10_again_25 : decode cX10_again 25 = .ok (.istore_n 2, 1) := by decide +kernel
theorem dX10_again_26 : decode cX10_again 26 = .ok (.iload_n 2, 1) := by decide +kernel
theorem dX10_again_27 : decode cX10_again 27 = .ok (.bipush 33, 2) := by decide +kernel
theorem dX10_again_29 : decode cX10_again 29 = .ok (.if_icmp .ge 26, 3) := by decide +kernel
theorem dX10_again_32 : decode cX10_again 32 = .ok (.aload_n 0, 1) := by decide +kernel
theorem dX10_again_33 : decode cX10_again 33 = .ok (.getfield 13, 3) := by decide +kernel
theorem dX10_again_36 : decode cX10_again 36 = .ok (.iload_n 2, 1) := by decide +kernel
theorem dX10_again_37 : decode cX10_again 37 = .ok (.aload_n 0, 1) := by decide +kernel
theorem dX10_again_38 : decode cX10_again 38 = .ok (.getfield 22, 3) := by decide +kernel
theorem dX10_again_41 : decode cX10_again 41 = .ok (.bipush 33, 2) := by decide +kernel
theorem dX10_again_43 : decode cX10_again 43 = .ok (.iload_n 1, 1) := by decide +kernel
theorem dX10_again_44 : decode cX10_again 44 = .ok (.imul, 1) := by decide +kernel
theorem dX10_again_45 : decode cX10_again 45 = .ok (.iload_n 2, 1) := by decide +kernel
theorem dX10_again_46 : decode cX10_again 46 = .ok (.iadd, 1) := by decide +kernel
theorem dX10_again_47 : decode cX10_again 47 = .ok (.iaload, 1) := by decide +kernel
theorem dX10_again_48 : decode cX10_again 48 = .ok (.iastore, 1) := by decide +kernel
theorem dX10_again_49 : decode cX10_again 49 = .ok (.iinc 2 1, 3) := by decide +kernel
theorem dX10_again_52 : decode cX10_again 52 = .ok (.goto (-26), 3) := by decide +kernel
theorem dX10_again_55 : decode cX10_again 55 = .ok (.aload_n 0, 1) := by decide +kernel
theorem dX10_again_56 : decode cX10_again 56 = .ok (.iconst 0, 1) := by decide +kernel
theorem dX10_again_57 : decode cX10_again 57 = .ok (.putfield 108, 3) := by decide +kernel
theorem dX10_again_60 : decode cX10_again 60 = .ok (.aload_n 0, 1) := by decide +kernel
theorem dX10_again_61 : decode cX10_again 61 = .ok (.aload_n 0, 1) := by decide +kernel
theorem dX10_again_62 : decode cX10_again 62 = .ok (.getfield 13, 3) := by decide +kernel
theorem dX10_again_65 : decode cX10_again 65 = .ok (.invokevirtual 111, 3) := by decide +kernel
theorem dX10_again_68 : decode cX10_again 68 = .ok (.ireturn, 1) := by decide +kernel
